theorem dX0_init_0 : decode cX0_init 0 = .ok (.aload_n 0, 1) := by decide +kernel
theorem dX0_init_1 : decode cX0_init 1 = .ok (.invokespecial 3, 3) := by decide +kernel
theorem dX0_init_4 : decode cX0_init 4 = .ok (.aload_n 0, 1) := by decide +kernel
theorem dX0_init_5 : decode cX0_init 5 = .ok (.iconst 0, 1) := by decide +kernel
theorem dX0_init_6 : decode cX0_init 6 = .ok (.putfield 9, 3) := by decide +kernel
theorem dX0_init_9 : decode cX0_init 9 = .ok (.aload_n 0, 1) := by decide +kernel
theorem dX0_init_10 : decode cX0_init 10 = .ok (.iconst 0, 1) := by decide +kernel
theorem dX0_init_11 : decode cX0_init 11 = .ok (.putfield 15, 3) := by decide +kernel
theorem dX0_init_14 : decode cX0_init 14 = .ok (.aload_n 0, 1) := by decide +kernel
theorem dX0_init_15 : decode cX0_init 15 = .ok (.iconst (-1), 1) := by decide +kernel
theorem dX0_init_16 : decode cX0_init 16 = .ok (.putfield 18, 3) := by decide +kernel
theorem dX0_init_19 : decode cX0_init 19 = .ok (.aload_n 0, 1) := by decide +kernel
theorem dX0_init_20 : decode cX0_init 20 = .ok (.iconst 0, 1) := by decide +kernel
theorem dX0_init_21 : decode cX0_init 21 = .ok (.putfield 21, 3) := by decide +kernel
theorem dX0_init_24 : decode cX0_init 24 = .ok (.aload_n 0, 1) := by decide +kernel
theorem dX0_init_25 : decode cX0_init 25 = .ok (.iload_n 1, 1) := by decide +kernel
theorem dX0_init_26 : decode cX0_init 26 = .ok (.putfield 24, 3) := by decide +kernel
theorem dX0_init_29 : decode cX0_init 29 = .ok (.aload_n 0, 1) := by decide +kernel
theorem dX0_init_30 : decode cX0_init 30 = .ok (.iload_n 2, 1) := by decide +kernel
theorem dX0_init_31 : decode cX0_init 31 = .ok (.putfield 27, 3) := by decide +kernel
theorem dX0_init_34 : decode cX0_init 34 = .ok (.aload_n 0, 1) := by decide +kernel
theorem dX0_init_35 : decode cX0_init 35 = .ok (.iload_n 3, 1) := by decide +kernel
theorem dX0_init_36 : decode cX0_init 36 = .ok (.putfield 30, 3) := by decide +kernel
theorem dX0_init_39 : decode cX0_init 39 = .ok (.return_, 1) := by decide +kernel
theorem dX0_inHand_0 : decode cX0_inHand 0 = .ok (.aload_n 0, 1) := by decide +kernel
theorem dX0_inHand_1 : decode cX0_inHand 1 = .ok (.getfield 15, 3) := by decide +kernel
theorem dX0_inHand_4 : decode cX0_inHand 4 = .ok (.iconst 2, 1) := by decide +kernel
theorem dX0_inHand_5 : decode cX0_inHand 5 = .ok (.if_icmp .eq 11, 3) := by decide +kernel
theorem dX0_inHand_8 : decode cX0_inHand 8 = .ok (.aload_n 0, 1) := by decide +kernel
theorem dX0_inHand_9 : decode cX0_inHand 9 = .ok (.getfield 15, 3) := by decide +kernel
theorem dX0_inHand_12 : decode cX0_inHand 12 = .ok (.iconst 3, 1) := by decide +kernel
theorem dX0_inHand_13 : decode cX0_inHand 13 = .ok (.if_icmp .ne 7, 3) := by decide +kernel
theorem dX0_inHand_16 : decode cX0_inHand 16 = .ok (.iconst 1, 1) := by decide +kernel
theorem dX0_inHand_17 : decode cX0_inHand 17 = .ok (.goto 4, 3) := by decide +kernel
theorem dX0_inHand_20 : decode cX0_inHand 20 = .ok (.iconst 0, 1) := by decide +kernel
theorem dX0_inHand_21 : decode cX0_inHand 21 = .ok (.ireturn, 1) := by decide +kernel
theorem dX0_shown_0 : decode cX0_shown 0 = .ok (.aload_n 0, 1) := by decide +kernel
theorem dX0_shown_1 : decode cX0_shown 1 = .ok (.getfield 15, 3) := by decide +kernel
theorem dX0_shown_4 : decode cX0_shown 4 = .ok (.ifCond .eq 7, 3) := by decide +kernel
theorem dX0_shown_7 : decode cX0_shown 7 = .ok (.iconst 1, 1) := by decide +kernel
theorem dX0_shown_8 : decode cX0_shown 8 = .ok (.goto 4, 3) := by decide +kernel
theorem dX0_shown_11 : decode cX0_shown 11 = .ok (.iconst 0, 1) := by decide +kernel
theorem dX0_shown_12 : decode cX0_shown 12 = .ok (.ireturn, 1) := by decide +kernel
theorem dX0_wearBy_0 : decode cX0_wearBy 0 = .ok (.aload_n 0, 1) := by decide +kernel
theorem dX0_wearBy_1 : decode cX0_wearBy 1 = .ok (.bipush 100, 2) := by decide +kernel
theorem dX0_wearBy_3 : decode cX0_wearBy 3 = .ok (.aload_n 0, 1) := by decide +kernel
theorem dX0_wearBy_4 : decode cX0_wearBy 4 = .ok (.getfield 9, 3) := by decide +kernel
theorem dX0_wearBy_7 : decode cX0_wearBy 7 = .ok (.iload_n 1, 1) := by decide +kernel
theorem dX0_wearBy_8 : decode cX0_wearBy 8 = .ok (.iadd, 1) := by decide +kernel
theorem dX0_wearBy_9 : decode cX0_wearBy 9 = .ok (.invokestatic 33, 3) := by decide +kernel
theorem dX0_wearBy_12 : decode cX0_wearBy 12 = .ok (.putfield 9, 3) := by decide +kernel
theorem dX0_wearBy_15 : decode cX0_wearBy 15 = .ok (.return_, 1) := by decide +kernel
theorem dX1_init_0 : decode cX1_init 0 = .ok (.aload_n 0, 1) := by decide +kernel
theorem dX1_init_1 : decode cX1_init 1 = .ok (.invokespecial 3, 3) := by decide +kernel
theorem dX1_init_4 : decode cX1_init 4 = .ok (.aload_n 0, 1) := by decide +kernel
theorem dX1_init_5 : decode cX1_init 5 = .ok (.iconst (-1), 1) := by decide +kernel
theorem dX1_init_6 : decode cX1_init 6 = .ok (.putfield 9, 3) := by decide +kernel
theorem dX1_init_9 : decode cX1_init 9 = .ok (.aload_n 0, 1) := by decide +kernel
theorem dX1_init_10 : decode cX1_init 10 = .ok (.iconst 0, 1) := by decide +kernel
theorem dX1_init_11 : decode cX1_init 11 = .ok (.putfield 15, 3) := by decide +kernel
theorem dX1_init_14 : decode cX1_init 14 = .ok (.aload_n 0, 1) := by decide +kernel
theorem dX1_init_15 : decode cX1_init 15 = .ok (.iconst 0, 1) := by decide +kernel
theorem dX1_init_16 : decode cX1_init 16 = .ok (.putfield 18, 3) := by decide +kernel
theorem dX1_init_19 : decode cX1_init 19 = .ok (.aload_n 0, 1) := by decide +kernel
theorem dX1_init_20 : decode cX1_init 20 = .ok (.iconst 0, 1) := by decide +kernel
theorem dX1_init_21 : decode cX1_init 21 = .ok (.putfield 21, 3) := by decide +kernel
theorem dX1_init_24 : decode cX1_init 24 = .ok (.aload_n 0, 1) := by decide +kernel
theorem dX1_init_25 : decode cX1_init 25 = .ok (.iconst 0, 1) := by decide +kernel
theorem dX1_init_26 : decode cX1_init 26 = .ok (.putfield 24, 3) := by decide +kernel
theorem dX1_init_29 : decode cX1_init 29 = .ok (.return_, 1) := by decide +kernel
theorem dX1_begin_0 : decode cX1_begin 0 = .ok (.aload_n 0, 1) := by decide +kernel
theorem dX1_begin_1 : decode cX1_begin 1 = .ok (.getfield 9, 3) := by decide +kernel
theorem dX1_begin_4 : decode cX1_begin 4 = .ok (.iconst (-1), 1) := by decide +kernel
theorem dX1_begin_5 : decode cX1_begin 5 = .ok (.if_icmp .eq 5, 3) := by decide +kernel
theorem dX1_begin_8 : decode cX1_begin 8 = .ok (.iconst 0, 1) := by decide +kernel
theorem dX1_begin_9 : decode cX1_begin 9 = .ok (.ireturn, 1) := by decide +kernel
theorem dX1_begin_10 : decode cX1_begin 10 = .ok (.aload_n 0, 1) := by decide +kernel
theorem dX1_begin_11 : decode cX1_begin 11 = .ok (.iload_n 1, 1) := by decide +kernel
theorem dX1_begin_12 : decode cX1_begin 12 = .ok (.putfield 9, 3) := by decide +kernel
theorem dX1_begin_15 : decode cX1_begin 15 = .ok (.aload_n 0, 1) := by decide +kernel
theorem dX1_begin_16 : decode cX1_begin 16 = .ok (.iconst 1, 1) := by decide +kernel
theorem dX1_begin_17 : decode cX1_begin 17 = .ok (.putfield 15, 3) := by decide +kernel
theorem dX1_begin_20 : decode cX1_begin 20 = .ok (.iconst 1, 1) := by decide +kernel
theorem dX1_begin_21 : decode cX1_begin 21 = .ok (.ireturn, 1) := by decide +kernel
theorem dX1_bid_0 : decode cX1_bid 0 = .ok (.aload_n 0, 1) := by decide +kernel
theorem dX1_bid_1 : decode cX1_bid 1 = .ok (.getfield 9, 3) := by decide +kernel
theorem dX1_bid_4 : decode cX1_bid 4 = .ok (.iconst (-1), 1) := by decide +kernel
theorem dX1_bid_5 : decode cX1_bid 5 = .ok (.if_icmp .ne 5, 3) := by decide +kernel
theorem dX1_bid_8 : decode cX1_bid 8 = .ok (.iconst 0, 1) := by decide +kernel
theorem dX1_bid_9 : decode cX1_bid 9 = .ok (.ireturn, 1) := by decide +kernel
theorem dX1_bid_10 : decode cX1_bid 10 = .ok (.aload_n 0, 1) := by decide +kernel
theorem dX1_bid_11 : decode cX1_bid 11 = .ok (.iload_n 1, 1) := by decide +kernel
theorem dX1_bid_12 : decode cX1_bid 12 = .ok (.putfield 21, 3) := by decide +kernel
theorem dX1_bid_15 : decode cX1_bid 15 = .ok (.iconst 1, 1) := by decide +kernel
theorem dX1_bid_16 : decode cX1_bid 16 = .ok (.ireturn, 1) := by decide +kernel
theorem dX1_playMinute_0 : decode cX1_playMinute 0 = .ok (.aload_n 0, 1) := by decide +kernel
theorem dX1_playMinute_1 : decode cX1_playMinute 1 = .ok (.invokevirtual 27, 3) := by decide +kernel
theorem dX1_playMinute_4 : decode cX1_playMinute 4 = .ok (.istore_n 1, 1) := by decide +kernel
theorem dX1_playMinute_5 : decode cX1_playMinute 5 = .ok (.iconst 0, 1) := by decide +kernel
theorem dX1_playMinute_6 : decode cX1_playMinute 6 = .ok (.istore_n 2, 1) := by decide +kernel
theorem dX1_playMinute_7 : decode cX1_playMinute 7 = .ok (.iload_n 2, 1) := by decide +kernel
theorem dX1_playMinute_8 : decode cX1_playMinute 8 = .ok (.iload_n 1, 1) := by decide +kernel
theorem dX1_playMinute_9 : decode cX1_playMinute 9 = .ok (.if_icmp .ge 42, 3) := by decide +kernel
theorem dX1_playMinute_12 : decode cX1_playMinute 12 = .ok (.aload_n 0, 1) := by decide +kernel
theorem dX1_playMinute_13 : decode cX1_playMinute 13 = .ok (.getfield 9, 3) := by decide +kernel
theorem dX1_playMinute_16 : decode cX1_playMinute 16 = .ok (.iconst (-1), 1) := by decide +kernel
theorem dX1_playMinute_17 : decode cX1_playMinute 17 = .ok (.if_icmp .eq 34, 3) := by decide +kernel
theorem dX1_playMinute_20 : decode cX1_playMinute 20 = .ok (.aload_n 0, 1) := by decide +kernel
theorem dX1_playMinute_21 : decode cX1_playMinute 21 = .ok (.dup, 1) := by decide +kernel
theorem dX1_playMinute_22 : decode cX1_playMinute 22 = .ok (.getfield 18, 3) := by decide +kernel
theorem dX1_playMinute_25 : decode cX1_playMinute 25 = .ok (.iconst 1, 1) := by decide +kernel
theorem dX1_playMinute_26 : decode cX1_playMinute 26 = .ok (.iadd, 1) := by decide +kernel
theorem dX1_playMinute_27 : decode cX1_playMinute 27 = .ok (.putfield 18, 3) := by decide +kernel
theorem dX1_playMinute_30 : decode cX1_playMinute 30 = .ok (.aload_n 0, 1) := by decide +kernel
theorem dX1_playMinute_31 : decode cX1_playMinute 31 = .ok (.getfield 18, 3) := by decide +kernel
theorem dX1_playMinute_34 : decode cX1_playMinute 34 = .ok (.aload_n 0, 1) := by decide +kernel
theorem dX1_playMinute_35 : decode cX1_playMinute 35 = .ok (.invokevirtual 31, 3) := by decide +kernel
theorem dX1_playMinute_38 : decode cX1_playMinute 38 = .ok (.if_icmp .ne 7, 3) := by decide +kernel
theorem dX1_playMinute_41 : decode cX1_playMinute 41 = .ok (.aload_n 0, 1) := by decide +kernel
theorem dX1_playMinute_42 : decode cX1_playMinute 42 = .ok (.invokevirtual 34, 3) := by decide +kernel
theorem dX1_playMinute_45 : decode cX1_playMinute 45 = .ok (.iinc 2 1, 3) := by decide +kernel
theorem dX1_playMinute_48 : decode cX1_playMinute 48 = .ok (.goto (-41), 3) := by decide +kernel
theorem dX1_playMinute_51 : decode cX1_playMinute 51 = .ok (.return_, 1) := by decide +kernel
theorem dX1_minutesToGong_0 : decode cX1_minutesToGong 0 = .ok (.aload_n 0, 1) := by decide +kernel
theorem dX1_minutesToGong_1 : decode cX1_minutesToGong 1 = .ok (.invokevirtual 27, 3) := by decide +kernel
theorem dX1_minutesToGong_4 : decode cX1_minutesToGong 4 = .ok (.istore_n 1, 1) := by decide +kernel
theorem dX1_minutesToGong_5 : decode cX1_minutesToGong 5 = .ok (.iload_n 1, 1) := by decide +kernel
theorem dX1_minutesToGong_6 : decode cX1_minutesToGong 6 = .ok (.ifCond .gt 5, 3) := by decide +kernel
theorem dX1_minutesToGong_9 : decode cX1_minutesToGong 9 = .ok (.iconst (-1), 1) := by decide +kernel
theorem dX1_minutesToGong_10 : decode cX1_minutesToGong 10 = .ok (.ireturn, 1) := by decide +kernel
theorem dX1_minutesToGong_11 : decode cX1_minutesToGong 11 = .ok (.aload_n 0, 1) := by decide +kernel
theorem dX1_minutesToGong_12 : decode cX1_minutesToGong 12 = .ok (.invokevirtual 31, 3) := by decide +kernel
theorem dX1_minutesToGong_15 : decode cX1_minutesToGong 15 = .ok (.aload_n 0, 1) := by decide +kernel
theorem dX1_minutesToGong_16 : decode cX1_minutesToGong 16 = .ok (.getfield 18, 3) := by decide +kernel
theorem dX1_minutesToGong_19 : decode cX1_minutesToGong 19 = .ok (.isub, 1) := by decide +kernel
theorem dX1_minutesToGong_20 : decode cX1_minutesToGong 20 = .ok (.iload_n 1, 1) := by decide +kernel
theorem dX1_minutesToGong_21 : decode cX1_minutesToGong 21 = .ok (.iadd, 1) := by decide +kernel
theorem dX1_minutesToGong_22 : decode cX1_minutesToGong 22 = .ok (.iconst 1, 1) := by decide +kernel
theorem dX1_minutesToGong_23 : decode cX1_minutesToGong 23 = .ok (.isub, 1) := by decide +kernel
theorem dX1_minutesToGong_24 : decode cX1_minutesToGong 24 = .ok (.iload_n 1, 1) := by decide +kernel
theorem dX1_minutesToGong_25 : decode cX1_minutesToGong 25 = .ok (.idiv, 1) := by decide +kernel
theorem dX1_minutesToGong_26 : decode cX1_minutesToGong 26 = .ok (.ireturn, 1) := by decide +kernel
theorem dX1_value_0 : decode cX1_value 0 = .ok (.iload_n 1, 1) := by decide +kernel
theorem dX1_value_1 : decode cX1_value 1 = .ok (.tableswitch 42 0 2 #[27, 32, 37], 27) := by decide +kernel
theorem dX1_value_28 : decode cX1_value 28 = .ok (.aload_n 0, 1) := by decide +kernel
theorem dX1_value_29 : decode cX1_value 29 = .ok (.getfield 9, 3) := by decide +kernel
theorem dX1_value_32 : decode cX1_value 32 = .ok (.ireturn, 1) := by decide +kernel
theorem dX1_value_33 : decode cX1_value 33 = .ok (.aload_n 0, 1) := by decide +kernel
theorem dX1_value_34 : decode cX1_value 34 = .ok (.getfield 15, 3) := by decide +kernel
theorem dX1_value_37 : decode cX1_value 37 = .ok (.ireturn, 1) := by decide +kernel
theorem dX1_value_38 : decode cX1_value 38 = .ok (.aload_n 0, 1) := by decide +kernel
theorem dX1_value_39 : decode cX1_value 39 = .ok (.getfield 18, 3) := by decide +kernel
theorem dX1_value_42 : decode cX1_value 42 = .ok (.ireturn, 1) := by decide +kernel
theorem dX1_value_43 : decode cX1_value 43 = .ok (.aload_n 0, 1) := by decide +kernel
theorem dX1_value_44 : decode cX1_value 44 = .ok (.getfield 21, 3) := by decide +kernel
theorem dX1_value_47 : decode cX1_value 47 = .ok (.ireturn, 1) := by decide +kernel
theorem dX1_soundGong_0 : decode cX1_soundGong 0 = .ok (.aload_n 0, 1) := by decide +kernel
theorem dX1_soundGong_1 : decode cX1_soundGong 1 = .ok (.dup, 1) := by decide +kernel
theorem dX1_soundGong_2 : decode cX1_soundGong 2 = .ok (.getfield 24, 3) := by decide +kernel
theorem dX1_soundGong_5 : decode cX1_soundGong 5 = .ok (.iconst 1, 1) := by decide +kernel
theorem dX1_soundGong_6 : decode cX1_soundGong 6 = .ok (.iadd, 1) := by decide +kernel
theorem dX1_soundGong_7 : decode cX1_soundGong 7 = .ok (.putfield 24, 3) := by decide +kernel
theorem dX1_soundGong_10 : decode cX1_soundGong 10 = .ok (.aload_n 0, 1) := by decide +kernel
theorem dX1_soundGong_11 : decode cX1_soundGong 11 = .ok (.iconst 0, 1) := by decide +kernel
theorem dX1_soundGong_12 : decode cX1_soundGong 12 = .ok (.putfield 18, 3) := by decide +kernel
theorem dX1_soundGong_15 : decode cX1_soundGong 15 = .ok (.aload_n 0, 1) := by decide +kernel
theorem dX1_soundGong_16 : decode cX1_soundGong 16 = .ok (.getfield 21, 3) := by decide +kernel
theorem dX1_soundGong_19 : decode cX1_soundGong 19 = .ok (.iconst 1, 1) := by decide +kernel
theorem dX1_soundGong_20 : decode cX1_soundGong 20 = .ok (.if_icmp .ne 20, 3) := by decide +kernel
theorem dX1_soundGong_23 : decode cX1_soundGong 23 = .ok (.aload_n 0, 1) := by decide +kernel
theorem dX1_soundGong_24 : decode cX1_soundGong 24 = .ok (.iconst 3, 1) := by decide +kernel
theorem dX1_soundGong_25 : decode cX1_soundGong 25 = .ok (.aload_n 0, 1) := by decide +kernel
theorem dX1_soundGong_26 : decode cX1_soundGong 26 = .ok (.getfield 15, 3) := by decide +kernel
theorem dX1_soundGong_29 : decode cX1_soundGong 29 = .ok (.iconst 1, 1) := by decide +kernel
theorem dX1_soundGong_30 : decode cX1_soundGong 30 = .ok (.iadd, 1) := by decide +kernel
theorem dX1_soundGong_31 : decode cX1_soundGong 31 = .ok (.invokestatic 37, 3) := by decide +kernel
theorem dX1_soundGong_34 : decode cX1_soundGong 34 = .ok (.putfield 15, 3) := by decide +kernel
theorem dX1_soundGong_37 : decode cX1_soundGong 37 = .ok (.goto 46, 3) := by decide +kernel
theorem dX1_soundGong_40 : decode cX1_soundGong 40 = .ok (.aload_n 0, 1) := by decide +kernel
theorem dX1_soundGong_41 : decode cX1_soundGong 41 = .ok (.getfield 21, 3) := by decide +kernel
theorem dX1_soundGong_44 : decode cX1_soundGong 44 = .ok (.iconst 2, 1) := by decide +kernel
theorem dX1_soundGong_45 : decode cX1_soundGong 45 = .ok (.if_icmp .ne 20, 3) := by decide +kernel
theorem dX1_soundGong_48 : decode cX1_soundGong 48 = .ok (.aload_n 0, 1) := by decide +kernel
theorem dX1_soundGong_49 : decode cX1_soundGong 49 = .ok (.iconst 1, 1) := by decide +kernel
theorem dX1_soundGong_50 : decode cX1_soundGong 50 = .ok (.aload_n 0, 1) := by decide +kernel
theorem dX1_soundGong_51 : decode cX1_soundGong 51 = .ok (.getfield 15, 3) := by decide +kernel
theorem dX1_soundGong_54 : decode cX1_soundGong 54 = .ok (.iconst 1, 1) := by decide +kernel
theorem dX1_soundGong_55 : decode cX1_soundGong 55 = .ok (.isub, 1) := by decide +kernel
theorem dX1_soundGong_56 : decode cX1_soundGong 56 = .ok (.invokestatic 43, 3) := by decide +kernel
theorem dX1_soundGong_59 : decode cX1_soundGong 59 = .ok (.putfield 15, 3) := by decide +kernel
theorem dX1_soundGong_62 : decode cX1_soundGong 62 = .ok (.goto 21, 3) := by decide +kernel
theorem dX1_soundGong_65 : decode cX1_soundGong 65 = .ok (.aload_n 0, 1) := by decide +kernel
theorem dX1_soundGong_66 : decode cX1_soundGong 66 = .ok (.getfield 21, 3) := by decide +kernel
theorem dX1_soundGong_69 : decode cX1_soundGong 69 = .ok (.iconst 3, 1) := by decide +kernel
theorem dX1_soundGong_70 : decode cX1_soundGong 70 = .ok (.if_icmp .ne 13, 3) := by decide +kernel
theorem dX1_soundGong_73 : decode cX1_soundGong 73 = .ok (.aload_n 0, 1) := by decide +kernel
theorem dX1_soundGong_74 : decode cX1_soundGong 74 = .ok (.iconst (-1), 1) := by decide +kernel
theorem dX1_soundGong_75 : decode cX1_soundGong 75 = .ok (.putfield 9, 3) := by decide +kernel
theorem dX1_soundGong_78 : decode cX1_soundGong 78 = .ok (.aload_n 0, 1) := by decide +kernel
theorem dX1_soundGong_79 : decode cX1_soundGong 79 = .ok (.iconst 0, 1) := by decide +kernel
theorem dX1_soundGong_80 : decode cX1_soundGong 80 = .ok (.putfield 15, 3) := by decide +kernel
theorem dX1_soundGong_83 : decode cX1_soundGong 83 = .ok (.aload_n 0, 1) := by decide +kernel
theorem dX1_soundGong_84 : decode cX1_soundGong 84 = .ok (.iconst 0, 1) := by decide +kernel
theorem dX1_soundGong_85 : decode cX1_soundGong 85 = .ok (.putfield 21, 3) := by decide +kernel
theorem dX1_soundGong_88 : decode cX1_soundGong 88 = .ok (.return_, 1) := by decide +kernel
theorem dX1_beatsOfMinute_0 : decode cX1_beatsOfMinute 0 = .ok (.bipush 8, 2) := by decide +kernel
theorem dX1_beatsOfMinute_2 : decode cX1_beatsOfMinute 2 = .ok (.aload_n 0, 1) := by decide +kernel
theorem dX1_beatsOfMinute_3 : decode cX1_beatsOfMinute 3 = .ok (.getfield 15, 3) := by decide +kernel
theorem dX1_beatsOfMinute_6 : decode cX1_beatsOfMinute 6 = .ok (.imul, 1) := by decide +kernel
theorem dX1_beatsOfMinute_7 : decode cX1_beatsOfMinute 7 = .ok (.ireturn, 1) := by decide +kernel
theorem dX1_beatsOfCycle_0 : decode cX1_beatsOfCycle 0 = .ok (.aload_n 0, 1) := by decide +kernel
theorem dX1_beatsOfCycle_1 : decode cX1_beatsOfCycle 1 = .ok (.getfield 9, 3) := by decide +kernel
theorem dX1_beatsOfCycle_4 : decode cX1_beatsOfCycle 4 = .ok (.tableswitch 37 0 2 #[28, 31, 34], 28) := by decide +kernel
theorem dX1_beatsOfCycle_32 : decode cX1_beatsOfCycle 32 = .ok (.bipush 8, 2) := by decide +kernel
theorem dX1_beatsOfCycle_34 : decode cX1_beatsOfCycle 34 = .ok (.ireturn, 1) := by decide +kernel
theorem dX1_beatsOfCycle_35 : decode cX1_beatsOfCycle 35 = .ok (.bipush 16, 2) := by decide +kernel
theorem dX1_beatsOfCycle_37 : decode cX1_beatsOfCycle 37 = .ok (.ireturn, 1) := by decide +kernel
theorem dX1_beatsOfCycle_38 : decode cX1_beatsOfCycle 38 = .ok (.bipush 12, 2) := by decide +kernel
theorem dX1_beatsOfCycle_40 : decode cX1_beatsOfCycle 40 = .ok (.ireturn, 1) := by decide +kernel
theorem dX1_beatsOfCycle_41 : decode cX1_beatsOfCycle 41 = .ok (.bipush 32, 2) := by decide +kernel
theorem dX1_beatsOfCycle_43 : decode cX1_beatsOfCycle 43 = .ok (.ireturn, 1) := by decide +kernel
theorem dX2_init_0 : decode cX2_init 0 = .ok (.aload_n 0, 1) := by decide +kernel
theorem dX2_init_1 : decode cX2_init 1 = .ok (.invokespecial 1, 3) := by decide +kernel
theorem dX2_init_4 : decode cX2_init 4 = .ok (.aload_n 0, 1) := by decide +kernel
theorem dX2_init_5 : decode cX2_init 5 = .ok (.iload_n 1, 1) := by decide +kernel
theorem dX2_init_6 : decode cX2_init 6 = .ok (.putfield 7, 3) := by decide +kernel
theorem dX2_init_9 : decode cX2_init 9 = .ok (.aload_n 0, 1) := by decide +kernel
theorem dX2_init_10 : decode cX2_init 10 = .ok (.iload_n 2, 1) := by decide +kernel
theorem dX2_init_11 : decode cX2_init 11 = .ok (.putfield 13, 3) := by decide +kernel
theorem dX2_init_14 : decode cX2_init 14 = .ok (.aload_n 0, 1) := by decide +kernel
theorem dX2_init_15 : decode cX2_init 15 = .ok (.iload_n 3, 1) := by decide +kernel
theorem dX2_init_16 : decode cX2_init 16 = .ok (.putfield 16, 3) := by decide +kernel
theorem dX2_init_19 : decode cX2_init 19 = .ok (.aload_n 0, 1) := by decide +kernel
theorem dX2_init_20 : decode cX2_init 20 = .ok (.iload 4, 2) := by decide +kernel
theorem dX2_init_22 : decode cX2_init 22 = .ok (.putfield 19, 3) := by decide +kernel
theorem dX2_init_25 : decode cX2_init 25 = .ok (.aload_n 0, 1) := by decide +kernel
theorem dX2_init_26 : decode cX2_init 26 = .ok (.iload 5, 2) := by decide +kernel
theorem dX2_init_28 : decode cX2_init 28 = .ok (.putfield 22, 3) := by decide +kernel
theorem dX2_init_31 : decode cX2_init 31 = .ok (.aload_n 0, 1) := by decide +kernel
theorem dX2_init_32 : decode cX2_init 32 = .ok (.iload 6, 2) := by decide +kernel
theorem dX2_init_34 : decode cX2_init 34 = .ok (.putfield 25, 3) := by decide +kernel
theorem dX2_init_37 : decode cX2_init 37 = .ok (.return_, 1) := by decide +kernel
theorem dX2_livesIn_0 : decode cX2_livesIn 0 = .ok (.aload_n 0, 1) := by decide +kernel
theorem dX2_livesIn_1 : decode cX2_livesIn 1 = .ok (.getfield 19, 3) := by decide +kernel
theorem dX2_livesIn_4 : decode cX2_livesIn 4 = .ok (.iload_n 1, 1) := by decide +kernel
theorem dX2_livesIn_5 : decode cX2_livesIn 5 = .ok (.if_icmp .gt 15, 3) := by decide +kernel
theorem dX2_livesIn_8 : decode cX2_livesIn 8 = .ok (.iload_n 1, 1) := by decide +kernel
theorem dX2_livesIn_9 : decode cX2_livesIn 9 = .ok (.aload_n 0, 1) := by decide +kernel
theorem dX2_livesIn_10 : decode cX2_livesIn 10 = .ok (.getfield 22, 3) := by decide +kernel
theorem dX2_livesIn_13 : decode cX2_livesIn 13 = .ok (.if_icmp .gt 7, 3) := by decide +kernel
theorem dX2_livesIn_16 : decode cX2_livesIn 16 = .ok (.iconst 1, 1) := by decide +kernel
theorem dX2_livesIn_17 : decode cX2_livesIn 17 = .ok (.goto 4, 3) := by decide +kernel
theorem dX2_livesIn_20 : decode cX2_livesIn 20 = .ok (.iconst 0, 1) := by decide +kernel
theorem dX2_livesIn_21 : decode cX2_livesIn 21 = .ok (.ireturn, 1) := by decide +kernel
theorem dX3_init_0 : decode cX3_init 0 = .ok (.aload_n 0, 1) := by decide +kernel
theorem dX3_init_1 : decode cX3_init 1 = .ok (.invokespecial 3, 3) := by decide +kernel
theorem dX3_init_4 : decode cX3_init 4 = .ok (.aload_n 0, 1) := by decide +kernel
theorem dX3_init_5 : decode cX3_init 5 = .ok (.new 9, 3) := by decide +kernel
theorem dX3_init_8 : decode cX3_init 8 = .ok (.dup, 1) := by decide +kernel
theorem dX3_init_9 : decode cX3_init 9 = .ok (.invokespecial 11, 3) := by decide +kernel
theorem dX3_init_12 : decode cX3_init 12 = .ok (.putfield 12, 3) := by decide +kernel
theorem dX3_init_15 : decode cX3_init 15 = .ok (.aload_n 0, 1) := by decide +kernel
theorem dX3_init_16 : decode cX3_init 16 = .ok (.new 9, 3) := by decide +kernel
theorem dX3_init_19 : decode cX3_init 19 = .ok (.dup, 1) := by decide +kernel
theorem dX3_init_20 : decode cX3_init 20 = .ok (.invokespecial 11, 3) := by decide +kernel
theorem dX3_init_23 : decode cX3_init 23 = .ok (.putfield 18, 3) := by decide +kernel
theorem dX3_init_26 : decode cX3_init 26 = .ok (.aload_n 0, 1) := by decide +kernel
theorem dX3_init_27 : decode cX3_init 27 = .ok (.iconst 0, 1) := by decide +kernel
theorem dX3_init_28 : decode cX3_init 28 = .ok (.putfield 21, 3) := by decide +kernel
theorem dX3_init_31 : decode cX3_init 31 = .ok (.aload_n 0, 1) := by decide +kernel
theorem dX3_init_32 : decode cX3_init 32 = .ok (.iconst 0, 1) := by decide +kernel
theorem dX3_init_33 : decode cX3_init 33 = .ok (.putfield 25, 3) := by decide +kernel
theorem dX3_init_36 : decode cX3_init 36 = .ok (.aload_n 0, 1) := by decide +kernel
theorem dX3_init_37 : decode cX3_init 37 = .ok (.iconst 0, 1) := by decide +kernel
theorem dX3_init_38 : decode cX3_init 38 = .ok (.putfield 28, 3) := by decide +kernel
theorem dX3_init_41 : decode cX3_init 41 = .ok (.return_, 1) := by decide +kernel
theorem dX3_tell_0 : decode cX3_tell 0 = .ok (.aload_n 0, 1) := by decide +kernel
theorem dX3_tell_1 : decode cX3_tell 1 = .ok (.getfield 12, 3) := by decide +kernel
theorem dX3_tell_4 : decode cX3_tell 4 = .ok (.invokevirtual 31, 3) := by decide +kernel
theorem dX3_tell_7 : decode cX3_tell 7 = .ok (.istore_n 2, 1) := by decide +kernel
theorem dX3_tell_8 : decode cX3_tell 8 = .ok (.aload_n 0, 1) := by decide +kernel
theorem dX3_tell_9 : decode cX3_tell 9 = .ok (.getfield 12, 3) := by decide +kernel
theorem dX3_tell_12 : decode cX3_tell 12 = .ok (.aload_n 1, 1) := by decide +kernel
theorem dX3_tell_13 : decode cX3_tell 13 = .ok (.invokevirtual 35, 3) := by decide +kernel
theorem dX3_tell_16 : decode cX3_tell 16 = .ok (.pop, 1) := by decide +kernel
theorem dX3_tell_17 : decode cX3_tell 17 = .ok (.aload_n 1, 1) := by decide +kernel
theorem dX3_tell_18 : decode cX3_tell 18 = .ok (.getfield 39, 3) := by decide +kernel
theorem dX3_tell_21 : decode cX3_tell 21 = .ok (.ifCond .eq 15, 3) := by decide +kernel
theorem dX3_tell_24 : decode cX3_tell 24 = .ok (.aload_n 0, 1) := by decide +kernel
theorem dX3_tell_25 : decode cX3_tell 25 = .ok (.dup, 1) := by decide +kernel
theorem dX3_tell_26 : decode cX3_tell 26 = .ok (.getfield 21, 3) := by decide +kernel
theorem dX3_tell_29 : decode cX3_tell 29 = .ok (.iconst 1, 1) := by decide +kernel
theorem dX3_tell_30 : decode cX3_tell 30 = .ok (.iload_n 2, 1) := by decide +kernel
theorem dX3_tell_31 : decode cX3_tell 31 = .ok (.ishl, 1) := by decide +kernel
theorem dX3_tell_32 : decode cX3_tell 32 = .ok (.ior, 1) := by decide +kernel
theorem dX3_tell_33 : decode cX3_tell 33 = .ok (.putfield 21, 3) := by decide +kernel
theorem dX3_tell_36 : decode cX3_tell 36 = .ok (.aload_n 0, 1) := by decide +kernel
theorem dX3_tell_37 : decode cX3_tell 37 = .ok (.invokevirtual 44, 3) := by decide +kernel
theorem dX3_tell_40 : decode cX3_tell 40 = .ok (.iload_n 2, 1) := by decide +kernel
theorem dX3_tell_41 : decode cX3_tell 41 = .ok (.ireturn, 1) := by decide +kernel
theorem dX3_append_0 : decode cX3_append 0 = .ok (.aload_n 0, 1) := by decide +kernel
theorem dX3_append_1 : decode cX3_append 1 = .ok (.iload_n 1, 1) := by decide +kernel
theorem dX3_append_2 : decode cX3_append 2 = .ok (.iload_n 3, 1) := by decide +kernel
theorem dX3_append_3 : decode cX3_append 3 = .ok (.iload 5, 2) := by decide +kernel
theorem dX3_append_5 : decode cX3_append 5 = .ok (.invokevirtual 47, 3) := by decide +kernel
theorem dX3_append_8 : decode cX3_append 8 = .ok (.istore 7, 2) := by decide +kernel
theorem dX3_append_10 : decode cX3_append 10 = .ok (.aload_n 0, 1) := by decide +kernel
theorem dX3_append_11 : decode cX3_append 11 = .ok (.getfield 18, 3) := by decide +kernel
theorem dX3_append_14 : decode cX3_append 14 = .ok (.new 51, 3) := by decide +kernel
theorem dX3_append_17 : decode cX3_append 17 = .ok (.dup, 1) := by decide +kernel
theorem dX3_append_18 : decode cX3_append 18 = .ok (.iload_n 1, 1) := by decide +kernel
theorem dX3_append_19 : decode cX3_append 19 = .ok (.iload_n 2, 1) := by decide +kernel
theorem dX3_append_20 : decode cX3_append 20 = .ok (.iload_n 3, 1) := by decide +kernel
theorem dX3_append_21 : decode cX3_append 21 = .ok (.iload 4, 2) := by decide +kernel
theorem dX3_append_23 : decode cX3_append 23 = .ok (.iload 5, 2) := by decide +kernel
theorem dX3_append_25 : decode cX3_append 25 = .ok (.iload 6, 2) := by decide +kernel
theorem dX3_append_27 : decode cX3_append 27 = .ok (.iload 7, 2) := by decide +kernel
theorem dX3_append_29 : decode cX3_append 29 = .ok (.invokespecial 53, 3) := by decide +kernel
theorem dX3_append_32 : decode cX3_append 32 = .ok (.invokevirtual 35, 3) := by decide +kernel
theorem dX3_append_35 : decode cX3_append 35 = .ok (.pop, 1) := by decide +kernel
theorem dX3_append_36 : decode cX3_append 36 = .ok (.aload_n 0, 1) := by decide +kernel
theorem dX3_append_37 : decode cX3_append 37 = .ok (.invokevirtual 44, 3) := by decide +kernel
theorem dX3_append_40 : decode cX3_append 40 = .ok (.aload_n 0, 1) := by decide +kernel
theorem dX3_append_41 : decode cX3_append 41 = .ok (.getfield 18, 3) := by decide +kernel
theorem dX3_append_44 : decode cX3_append 44 = .ok (.invokevirtual 31, 3) := by decide +kernel
theorem dX3_append_47 : decode cX3_append 47 = .ok (.iconst 1, 1) := by decide +kernel
theorem dX3_append_48 : decode cX3_append 48 = .ok (.isub, 1) := by decide +kernel
theorem dX3_append_49 : decode cX3_append 49 = .ok (.ireturn, 1) := by decide +kernel
theorem dX3_exchange_0 : decode cX3_exchange 0 = .ok (.aload_n 0, 1) := by decide +kernel
theorem dX3_exchange_1 : decode cX3_exchange 1 = .ok (.iload_n 1, 1) := by decide +kernel
theorem dX3_exchange_2 : decode cX3_exchange 2 = .ok (.iload_n 2, 1) := by decide +kernel
theorem dX3_exchange_3 : decode cX3_exchange 3 = .ok (.invokevirtual 63, 3) := by decide +kernel
theorem dX3_exchange_6 : decode cX3_exchange 6 = .ok (.aload_n 0, 1) := by decide +kernel
theorem dX3_exchange_7 : decode cX3_exchange 7 = .ok (.invokevirtual 44, 3) := by decide +kernel
theorem dX3_exchange_10 : decode cX3_exchange 10 = .ok (.return_, 1) := by decide +kernel
theorem dX3_bestExchange_0 : decode cX3_bestExchange 0 = .ok (.aload_n 0, 1) := by decide +kernel
theorem dX3_bestExchange_1 : decode cX3_bestExchange 1 = .ok (.getfield 25, 3) := by decide +kernel
theorem dX3_bestExchange_4 : decode cX3_bestExchange 4 = .ok (.istore_n 1, 1) := by decide +kernel
theorem dX3_bestExchange_5 : decode cX3_bestExchange 5 = .ok (.iconst (-1), 1) := by decide +kernel
theorem dX3_bestExchange_6 : decode cX3_bestExchange 6 = .ok (.istore_n 2, 1) := by decide +kernel
theorem dX3_bestExchange_7 : decode cX3_bestExchange 7 = .ok (.iconst 0, 1) := by decide +kernel
theorem dX3_bestExchange_8 : decode cX3_bestExchange 8 = .ok (.istore_n 3, 1) := by decide +kernel
theorem dX3_bestExchange_9 : decode cX3_bestExchange 9 = .ok (.iload_n 3, 1) := by decide +kernel
theorem dX3_bestExchange_10 : decode cX3_bestExchange 10 = .ok (.aload_n 0, 1) := by decide +kernel
theorem dX3_bestExchange_11 : decode cX3_bestExchange 11 = .ok (.getfield 18, 3) := by decide +kernel
theorem dX3_bestExchange_14 : decode cX3_bestExchange 14 = .ok (.invokevirtual 31, 3) := by decide +kernel
theorem dX3_bestExchange_17 : decode cX3_bestExchange 17 = .ok (.if_icmp .ge 67, 3) := by decide +kernel
theorem dX3_bestExchange_20 : decode cX3_bestExchange 20 = .ok (.iload_n 3, 1) := by decide +kernel
theorem dX3_bestExchange_21 : decode cX3_bestExchange 21 = .ok (.iconst 1, 1) := by decide +kernel
theorem dX3_bestExchange_22 : decode cX3_bestExchange 22 = .ok (.iadd, 1) := by decide +kernel
theorem dX3_bestExchange_23 : decode cX3_bestExchange 23 = .ok (.istore 4, 2) := by decide +kernel
theorem dX3_bestExchange_25 : decode cX3_bestExchange 25 = .ok (.iload 4, 2) := by decide +kernel
theorem dX3_bestExchange_27 : decode cX3_bestExchange 27 = .ok (.aload_n 0, 1) := by decide +kernel
theorem dX3_bestExchange_28 : decode cX3_bestExchange 28 = .ok (.getfield 18, 3) := by decide +kernel
theorem dX3_bestExchange_31 : decode cX3_bestExchange 31 = .ok (.invokevirtual 31, 3) := by decide +kernel
theorem dX3_bestExchange_34 : decode cX3_bestExchange 34 = .ok (.if_icmp .ge 44, 3) := by decide +kernel
theorem dX3_bestExchange_37 : decode cX3_bestExchange 37 = .ok (.aload_n 0, 1) := by decide +kernel
theorem dX3_bestExchange_38 : decode cX3_bestExchange 38 = .ok (.iload_n 3, 1) := by decide +kernel
theorem dX3_bestExchange_39 : decode cX3_bestExchange 39 = .ok (.iload 4, 2) := by decide +kernel
theorem dX3_bestExchange_41 : decode cX3_bestExchange 41 = .ok (.invokevirtual 67, 3) := by decide +kernel
theorem dX3_bestExchange_44 : decode cX3_bestExchange 44 = .ok (.aload_n 0, 1) := by decide +kernel
theorem dX3_bestExchange_45 : decode cX3_bestExchange 45 = .ok (.getfield 25, 3) := by decide +kernel
theorem dX3_bestExchange_48 : decode cX3_bestExchange 48 = .ok (.iload_n 1, 1) := by decide +kernel
theorem dX3_bestExchange_49 : decode cX3_bestExchange 49 = .ok (.if_icmp .ge 16, 3) := by decide +kernel
theorem dX3_bestExchange_52 : decode cX3_bestExchange 52 = .ok (.aload_n 0, 1) := by decide +kernel
theorem dX3_bestExchange_53 : decode cX3_bestExchange 53 = .ok (.getfield 25, 3) := by decide +kernel
theorem dX3_bestExchange_56 : decode cX3_bestExchange 56 = .ok (.istore_n 1, 1) := by decide +kernel
theorem dX3_bestExchange_57 : decode cX3_bestExchange 57 = .ok (.bipush 10, 2) := by decide +kernel
theorem dX3_bestExchange_59 : decode cX3_bestExchange 59 = .ok (.iload_n 3, 1) := by decide +kernel
theorem dX3_bestExchange_60 : decode cX3_bestExchange 60 = .ok (.imul, 1) := by decide +kernel
theorem dX3_bestExchange_61 : decode cX3_bestExchange 61 = .ok (.iload 4, 2) := by decide +kernel
theorem dX3_bestExchange_63 : decode cX3_bestExchange 63 = .ok (.iadd, 1) := by decide +kernel
theorem dX3_bestExchange_64 : decode cX3_bestExchange 64 = .ok (.istore_n 2, 1) := by decide +kernel
theorem dX3_bestExchange_65 : decode cX3_bestExchange 65 = .ok (.aload_n 0, 1) := by decide +kernel
theorem dX3_bestExchange_66 : decode cX3_bestExchange 66 = .ok (.iload_n 3, 1) := by decide +kernel
theorem dX3_bestExchange_67 : decode cX3_bestExchange 67 = .ok (.iload 4, 2) := by decide +kernel
theorem dX3_bestExchange_69 : decode cX3_bestExchange 69 = .ok (.invokevirtual 63, 3) := by decide +kernel
theorem dX3_bestExchange_72 : decode cX3_bestExchange 72 = .ok (.iinc 4 1, 3) := by decide +kernel
theorem dX3_bestExchange_75 : decode cX3_bestExchange 75 = .ok (.goto (-50), 3) := by decide +kernel
theorem dX3_bestExchange_78 : decode cX3_bestExchange 78 = .ok (.iinc 3 1, 3) := by decide +kernel
theorem dX3_bestExchange_81 : decode cX3_bestExchange 81 = .ok (.goto (-72), 3) := by decide +kernel
theorem dX3_bestExchange_84 : decode cX3_bestExchange 84 = .ok (.aload_n 0, 1) := by decide +kernel
theorem dX3_bestExchange_85 : decode cX3_bestExchange 85 = .ok (.invokevirtual 44, 3) := by decide +kernel
theorem dX3_bestExchange_88 : decode cX3_bestExchange 88 = .ok (.iload_n 2, 1) := by decide +kernel
theorem dX3_bestExchange_89 : decode cX3_bestExchange 89 = .ok (.ireturn, 1) := by decide +kernel
theorem dX3_isCast_0 : decode cX3_isCast 0 = .ok (.iload_n 1, 1) := by decide +kernel
theorem dX3_isCast_1 : decode cX3_isCast 1 = .ok (.ifCond .le 20, 3) := by decide +kernel
theorem dX3_isCast_4 : decode cX3_isCast 4 = .ok (.iload_n 1, 1) := by decide +kernel
theorem dX3_isCast_5 : decode cX3_isCast 5 = .ok (.iconst 1, 1) := by decide +kernel
theorem dX3_isCast_6 : decode cX3_isCast 6 = .ok (.aload_n 0, 1) := by decide +kernel
theorem dX3_isCast_7 : decode cX3_isCast 7 = .ok (.getfield 12, 3) := by decide +kernel
theorem dX3_isCast_10 : decode cX3_isCast 10 = .ok (.invokevirtual 31, 3) := by decide +kernel
theorem dX3_isCast_13 : decode cX3_isCast 13 = .ok (.ishl, 1) := by decide +kernel
theorem dX3_isCast_14 : decode cX3_isCast 14 = .ok (.if_icmp .ge 7, 3) := by decide +kernel
theorem dX3_isCast_17 : decode cX3_isCast 17 = .ok (.iconst 1, 1) := by decide +kernel
theorem dX3_isCast_18 : decode cX3_isCast 18 = .ok (.goto 4, 3) := by decide +kernel
theorem dX3_isCast_21 : decode cX3_isCast 21 = .ok (.iconst 0, 1) := by decide +kernel
theorem dX3_isCast_22 : decode cX3_isCast 22 = .ok (.ireturn, 1) := by decide +kernel
theorem dX3_sceneOn_0 : decode cX3_sceneOn 0 = .ok (.iconst 0, 1) := by decide +kernel
theorem dX3_sceneOn_1 : decode cX3_sceneOn 1 = .ok (.istore_n 2, 1) := by decide +kernel
theorem dX3_sceneOn_2 : decode cX3_sceneOn 2 = .ok (.iload_n 2, 1) := by decide +kernel
theorem dX3_sceneOn_3 : decode cX3_sceneOn 3 = .ok (.aload_n 0, 1) := by decide +kernel
theorem dX3_sceneOn_4 : decode cX3_sceneOn 4 = .ok (.getfield 18, 3) := by decide +kernel
theorem dX3_sceneOn_7 : decode cX3_sceneOn 7 = .ok (.invokevirtual 31, 3) := by decide +kernel
theorem dX3_sceneOn_10 : decode cX3_sceneOn 10 = .ok (.if_icmp .ge 29, 3) := by decide +kernel
theorem dX3_sceneOn_13 : decode cX3_sceneOn 13 = .ok (.iload_n 1, 1) := by decide +kernel
theorem dX3_sceneOn_14 : decode cX3_sceneOn 14 = .ok (.aload_n 0, 1) := by decide +kernel
theorem dX3_sceneOn_15 : decode cX3_sceneOn 15 = .ok (.getfield 18, 3) := by decide +kernel
theorem dX3_sceneOn_18 : decode cX3_sceneOn 18 = .ok (.iload_n 2, 1) := by decide +kernel
theorem dX3_sceneOn_19 : decode cX3_sceneOn 19 = .ok (.invokevirtual 56, 3) := by decide +kernel
theorem dX3_sceneOn_22 : decode cX3_sceneOn 22 = .ok (.checkcast 51, 3) := by decide +kernel
theorem dX3_sceneOn_25 : decode cX3_sceneOn 25 = .ok (.invokevirtual 70, 3) := by decide +kernel
theorem dX3_sceneOn_28 : decode cX3_sceneOn 28 = .ok (.if_icmp .ge 5, 3) := by decide +kernel
theorem dX3_sceneOn_31 : decode cX3_sceneOn 31 = .ok (.iload_n 2, 1) := by decide +kernel
theorem dX3_sceneOn_32 : decode cX3_sceneOn 32 = .ok (.ireturn, 1) := by decide +kernel
theorem dX3_sceneOn_33 : decode cX3_sceneOn 33 = .ok (.iinc 2 1, 3) := by decide +kernel
theorem dX3_sceneOn_36 : decode cX3_sceneOn 36 = .ok (.goto (-34), 3) := by decide +kernel
theorem dX3_sceneOn_39 : decode cX3_sceneOn 39 = .ok (.iconst (-1), 1) := by decide +kernel
theorem dX3_sceneOn_40 : decode cX3_sceneOn 40 = .ok (.ireturn, 1) := by decide +kernel
theorem dX3_knowersBehind_0 : decode cX3_knowersBehind 0 = .ok (.iload_n 1, 1) := by decide +kernel
theorem dX3_knowersBehind_1 : decode cX3_knowersBehind 1 = .ok (.ifCond .lt 14, 3) := by decide +kernel
theorem dX3_knowersBehind_4 : decode cX3_knowersBehind 4 = .ok (.iload_n 1, 1) := by decide +kernel
theorem dX3_knowersBehind_5 : decode cX3_knowersBehind 5 = .ok (.aload_n 0, 1) := by decide +kernel
theorem dX3_knowersBehind_6 : decode cX3_knowersBehind 6 = .ok (.getfield 18, 3) := by decide +kernel
theorem dX3_knowersBehind_9 : decode cX3_knowersBehind 9 = .ok (.invokevirtual 31, 3) := by decide +kernel
theorem dX3_knowersBehind_12 : decode cX3_knowersBehind 12 = .ok (.if_icmp .lt 8, 3) := by decide +kernel
theorem dX3_knowersBehind_15 : decode cX3_knowersBehind 15 = .ok (.aload_n 0, 1) := by decide +kernel
theorem dX3_knowersBehind_16 : decode cX3_knowersBehind 16 = .ok (.getfield 21, 3) := by decide +kernel
theorem dX3_knowersBehind_19 : decode cX3_knowersBehind 19 = .ok (.ireturn, 1) := by decide +kernel
theorem dX3_knowersBehind_20 : decode cX3_knowersBehind 20 = .ok (.aload_n 0, 1) := by decide +kernel
theorem dX3_knowersBehind_21 : decode cX3_knowersBehind 21 = .ok (.getfield 18, 3) := by decide +kernel
theorem dX3_knowersBehind_24 : decode cX3_knowersBehind 24 = .ok (.iload_n 1, 1) := by decide +kernel
theorem dX3_knowersBehind_25 : decode cX3_knowersBehind 25 = .ok (.invokevirtual 56, 3) := by decide +kernel
theorem dX3_knowersBehind_28 : decode cX3_knowersBehind 28 = .ok (.checkcast 51, 3) := by decide +kernel
theorem dX3_knowersBehind_31 : decode cX3_knowersBehind 31 = .ok (.getfield 72, 3) := by decide +kernel
theorem dX3_knowersBehind_34 : decode cX3_knowersBehind 34 = .ok (.ireturn, 1) := by decide +kernel
theorem dX3_trade_0 : decode cX3_trade 0 = .ok (.aload_n 0, 1) := by decide +kernel
theorem dX3_trade_1 : decode cX3_trade 1 = .ok (.getfield 18, 3) := by decide +kernel
theorem dX3_trade_4 : decode cX3_trade 4 = .ok (.iload_n 1, 1) := by decide +kernel
theorem dX3_trade_5 : decode cX3_trade 5 = .ok (.invokevirtual 56, 3) := by decide +kernel
theorem dX3_trade_8 : decode cX3_trade 8 = .ok (.checkcast 51, 3) := by decide +kernel
theorem dX3_trade_11 : decode cX3_trade 11 = .ok (.astore_n 3, 1) := by decide +kernel
theorem dX3_trade_12 : decode cX3_trade 12 = .ok (.aload_n 0, 1) := by decide +kernel
theorem dX3_trade_13 : decode cX3_trade 13 = .ok (.getfield 18, 3) := by decide +kernel
theorem dX3_trade_16 : decode cX3_trade 16 = .ok (.iload_n 1, 1) := by decide +kernel
theorem dX3_trade_17 : decode cX3_trade 17 = .ok (.aload_n 0, 1) := by decide +kernel
theorem dX3_trade_18 : decode cX3_trade 18 = .ok (.getfield 18, 3) := by decide +kernel
theorem dX3_trade_21 : decode cX3_trade 21 = .ok (.iload_n 2, 1) := by decide +kernel
theorem dX3_trade_22 : decode cX3_trade 22 = .ok (.invokevirtual 56, 3) := by decide +kernel
theorem dX3_trade_25 : decode cX3_trade 25 = .ok (.checkcast 51, 3) := by decide +kernel
theorem dX3_trade_28 : decode cX3_trade 28 = .ok (.invokevirtual 75, 3) := by decide +kernel
theorem dX3_trade_31 : decode cX3_trade 31 = .ok (.pop, 1) := by decide +kernel
theorem dX3_trade_32 : decode cX3_trade 32 = .ok (.aload_n 0, 1) := by decide +kernel
theorem dX3_trade_33 : decode cX3_trade 33 = .ok (.getfield 18, 3) := by decide +kernel
theorem dX3_trade_36 : decode cX3_trade 36 = .ok (.iload_n 2, 1) := by decide +kernel
theorem dX3_trade_37 : decode cX3_trade 37 = .ok (.aload_n 3, 1) := by decide +kernel
theorem dX3_trade_38 : decode cX3_trade 38 = .ok (.invokevirtual 75, 3) := by decide +kernel
theorem dX3_trade_41 : decode cX3_trade 41 = .ok (.pop, 1) := by decide +kernel
theorem dX3_trade_42 : decode cX3_trade 42 = .ok (.return_, 1) := by decide +kernel
theorem dX3_refresh_0 : decode cX3_refresh 0 = .ok (.iconst 0, 1) := by decide +kernel
theorem dX3_refresh_1 : decode cX3_refresh 1 = .ok (.istore_n 1, 1) := by decide +kernel
theorem dX3_refresh_2 : decode cX3_refresh 2 = .ok (.aload_n 0, 1) := by decide +kernel
theorem dX3_refresh_3 : decode cX3_refresh 3 = .ok (.getfield 21, 3) := by decide +kernel
theorem dX3_refresh_6 : decode cX3_refresh 6 = .ok (.istore_n 2, 1) := by decide +kernel
theorem dX3_refresh_7 : decode cX3_refresh 7 = .ok (.aload_n 0, 1) := by decide +kernel
theorem dX3_refresh_8 : decode cX3_refresh 8 = .ok (.iconst 0, 1) := by decide +kernel
theorem dX3_refresh_9 : decode cX3_refresh 9 = .ok (.putfield 25, 3) := by decide +kernel
theorem dX3_refresh_12 : decode cX3_refresh 12 = .ok (.iconst 0, 1) := by decide +kernel
theorem dX3_refresh_13 : decode cX3_refresh 13 = .ok (.istore_n 3, 1) := by decide +kernel
theorem dX3_refresh_14 : decode cX3_refresh 14 = .ok (.iload_n 3, 1) := by decide +kernel
theorem dX3_refresh_15 : decode cX3_refresh 15 = .ok (.aload_n 0, 1) := by decide +kernel
theorem dX3_refresh_16 : decode cX3_refresh 16 = .ok (.getfield 18, 3) := by decide +kernel
theorem dX3_refresh_19 : decode cX3_refresh 19 = .ok (.invokevirtual 31, 3) := by decide +kernel
theorem dX3_refresh_22 : decode cX3_refresh 22 = .ok (.if_icmp .ge 99, 3) := by decide +kernel
theorem dX3_refresh_25 : decode cX3_refresh 25 = .ok (.aload_n 0, 1) := by decide +kernel
theorem dX3_refresh_26 : decode cX3_refresh 26 = .ok (.getfield 18, 3) := by decide +kernel
theorem dX3_refresh_29 : decode cX3_refresh 29 = .ok (.iload_n 3, 1) := by decide +kernel
theorem dX3_refresh_30 : decode cX3_refresh 30 = .ok (.invokevirtual 56, 3) := by decide +kernel
theorem dX3_refresh_33 : decode cX3_refresh 33 = .ok (.checkcast 51, 3) := by decide +kernel
theorem dX3_refresh_36 : decode cX3_refresh 36 = .ok (.astore 4, 2) := by decide +kernel
theorem dX3_refresh_38 : decode cX3_refresh 38 = .ok (.aload 4, 2) := by decide +kernel
theorem dX3_refresh_40 : decode cX3_refresh 40 = .ok (.iload_n 1, 1) := by decide +kernel
theorem dX3_refresh_41 : decode cX3_refresh 41 = .ok (.putfield 79, 3) := by decide +kernel
theorem dX3_refresh_44 : decode cX3_refresh 44 = .ok (.aload 4, 2) := by decide +kernel
theorem dX3_refresh_46 : decode cX3_refresh 46 = .ok (.aload 4, 2) := by decide +kernel
theorem dX3_refresh_48 : decode cX3_refresh 48 = .ok (.aload_n 0, 1) := by decide +kernel
theorem dX3_refresh_49 : decode cX3_refresh 49 = .ok (.aload 4, 2) := by decide +kernel
theorem dX3_refresh_51 : decode cX3_refresh 51 = .ok (.getfield 82, 3) := by decide +kernel
theorem dX3_refresh_54 : decode cX3_refresh 54 = .ok (.iload_n 3, 1) := by decide +kernel
theorem dX3_refresh_55 : decode cX3_refresh 55 = .ok (.invokevirtual 85, 3) := by decide +kernel
theorem dX3_refresh_58 : decode cX3_refresh 58 = .ok (.iload_n 2, 1) := by decide +kernel
theorem dX3_refresh_59 : decode cX3_refresh 59 = .ok (.invokevirtual 89, 3) := by decide +kernel
theorem dX3_refresh_62 : decode cX3_refresh 62 = .ok (.putfield 92, 3) := by decide +kernel
theorem dX3_refresh_65 : decode cX3_refresh 65 = .ok (.aload 4, 2) := by decide +kernel
theorem dX3_refresh_67 : decode cX3_refresh 67 = .ok (.getfield 92, 3) := by decide +kernel
theorem dX3_refresh_70 : decode cX3_refresh 70 = .ok (.ifCond .eq 13, 3) := by decide +kernel
theorem dX3_refresh_73 : decode cX3_refresh 73 = .ok (.aload_n 0, 1) := by decide +kernel
theorem dX3_refresh_74 : decode cX3_refresh 74 = .ok (.dup, 1) := by decide +kernel
theorem dX3_refresh_75 : decode cX3_refresh 75 = .ok (.getfield 25, 3) := by decide +kernel
theorem dX3_refresh_78 : decode cX3_refresh 78 = .ok (.iconst 1, 1) := by decide +kernel
theorem dX3_refresh_79 : decode cX3_refresh 79 = .ok (.iadd, 1) := by decide +kernel
theorem dX3_refresh_80 : decode cX3_refresh 80 = .ok (.putfield 25, 3) := by decide +kernel
theorem dX3_refresh_83 : decode cX3_refresh 83 = .ok (.iload_n 2, 1) := by decide +kernel
theorem dX3_refresh_84 : decode cX3_refresh 84 = .ok (.aload 4, 2) := by decide +kernel
theorem dX3_refresh_86 : decode cX3_refresh 86 = .ok (.getfield 95, 3) := by decide +kernel
theorem dX3_refresh_89 : decode cX3_refresh 89 = .ok (.invokestatic 98, 3) := by decide +kernel
theorem dX3_refresh_92 : decode cX3_refresh 92 = .ok (.ifCond .eq 11, 3) := by decide +kernel
theorem dX3_refresh_95 : decode cX3_refresh 95 = .ok (.iload_n 2, 1) := by decide +kernel
theorem dX3_refresh_96 : decode cX3_refresh 96 = .ok (.aload 4, 2) := by decide +kernel
theorem dX3_refresh_98 : decode cX3_refresh 98 = .ok (.getfield 102, 3) := by decide +kernel
theorem dX3_refresh_101 : decode cX3_refresh 101 = .ok (.ior, 1) := by decide +kernel
theorem dX3_refresh_102 : decode cX3_refresh 102 = .ok (.istore_n 2, 1) := by decide +kernel
theorem dX3_refresh_103 : decode cX3_refresh 103 = .ok (.aload 4, 2) := by decide +kernel
theorem dX3_refresh_105 : decode cX3_refresh 105 = .ok (.iload_n 2, 1) := by decide +kernel
theorem dX3_refresh_106 : decode cX3_refresh 106 = .ok (.putfield 72, 3) := by decide +kernel
theorem dX3_refresh_109 : decode cX3_refresh 109 = .ok (.aload 4, 2) := by decide +kernel
theorem dX3_refresh_111 : decode cX3_refresh 111 = .ok (.invokevirtual 70, 3) := by decide +kernel
theorem dX3_refresh_114 : decode cX3_refresh 114 = .ok (.istore_n 1, 1) := by decide +kernel
theorem dX3_refresh_115 : decode cX3_refresh 115 = .ok (.iinc 3 1, 3) := by decide +kernel
theorem dX3_refresh_118 : decode cX3_refresh 118 = .ok (.goto (-104), 3) := by decide +kernel
theorem dX3_refresh_121 : decode cX3_refresh 121 = .ok (.aload_n 0, 1) := by decide +kernel
theorem dX3_refresh_122 : decode cX3_refresh 122 = .ok (.iload_n 1, 1) := by decide +kernel
theorem dX3_refresh_123 : decode cX3_refresh 123 = .ok (.putfield 28, 3) := by decide +kernel
theorem dX3_refresh_126 : decode cX3_refresh 126 = .ok (.return_, 1) := by decide +kernel
theorem dX3_deadIn_0 : decode cX3_deadIn 0 = .ok (.iconst 0, 1) := by decide +kernel
theorem dX3_deadIn_1 : decode cX3_deadIn 1 = .ok (.istore_n 3, 1) := by decide +kernel
theorem dX3_deadIn_2 : decode cX3_deadIn 2 = .ok (.iconst 0, 1) := by decide +kernel
theorem dX3_deadIn_3 : decode cX3_deadIn 3 = .ok (.istore 4, 2) := by decide +kernel
theorem dX3_deadIn_5 : decode cX3_deadIn 5 = .ok (.iload 4, 2) := by decide +kernel
theorem dX3_deadIn_7 : decode cX3_deadIn 7 = .ok (.iload_n 2, 1) := by decide +kernel
theorem dX3_deadIn_8 : decode cX3_deadIn 8 = .ok (.if_icmp .ge 63, 3) := by decide +kernel
theorem dX3_deadIn_11 : decode cX3_deadIn 11 = .ok (.iload 4, 2) := by decide +kernel
theorem dX3_deadIn_13 : decode cX3_deadIn 13 = .ok (.aload_n 0, 1) := by decide +kernel
theorem dX3_deadIn_14 : decode cX3_deadIn 14 = .ok (.getfield 18, 3) := by decide +kernel
theorem dX3_deadIn_17 : decode cX3_deadIn 17 = .ok (.invokevirtual 31, 3) := by decide +kernel
theorem dX3_deadIn_20 : decode cX3_deadIn 20 = .ok (.if_icmp .ge 51, 3) := by decide +kernel
theorem dX3_deadIn_23 : decode cX3_deadIn 23 = .ok (.aload_n 0, 1) := by decide +kernel
theorem dX3_deadIn_24 : decode cX3_deadIn 24 = .ok (.getfield 18, 3) := by decide +kernel
theorem dX3_deadIn_27 : decode cX3_deadIn 27 = .ok (.iload 4, 2) := by decide +kernel
theorem dX3_deadIn_29 : decode cX3_deadIn 29 = .ok (.invokevirtual 56, 3) := by decide +kernel
theorem dX3_deadIn_32 : decode cX3_deadIn 32 = .ok (.checkcast 51, 3) := by decide +kernel
theorem dX3_deadIn_35 : decode cX3_deadIn 35 = .ok (.astore 5, 2) := by decide +kernel
theorem dX3_deadIn_37 : decode cX3_deadIn 37 = .ok (.aload 5, 2) := by decide +kernel
theorem dX3_deadIn_39 : decode cX3_deadIn 39 = .ok (.getfield 105, 3) := by decide +kernel
theorem dX3_deadIn_42 : decode cX3_deadIn 42 = .ok (.iconst (-1), 1) := by decide +kernel
theorem dX3_deadIn_43 : decode cX3_deadIn 43 = .ok (.if_icmp .eq 22, 3) := by decide +kernel
theorem dX3_deadIn_46 : decode cX3_deadIn 46 = .ok (.aload 5, 2) := by decide +kernel
theorem dX3_deadIn_48 : decode cX3_deadIn 48 = .ok (.getfield 82, 3) := by decide +kernel
theorem dX3_deadIn_51 : decode cX3_deadIn 51 = .ok (.iload_n 1, 1) := by decide +kernel
theorem dX3_deadIn_52 : decode cX3_deadIn 52 = .ok (.if_icmp .gt 13, 3) := by decide +kernel
theorem dX3_deadIn_55 : decode cX3_deadIn 55 = .ok (.iload_n 3, 1) := by decide +kernel
theorem dX3_deadIn_56 : decode cX3_deadIn 56 = .ok (.iconst 1, 1) := by decide +kernel
theorem dX3_deadIn_57 : decode cX3_deadIn 57 = .ok (.aload 5, 2) := by decide +kernel
theorem dX3_deadIn_59 : decode cX3_deadIn 59 = .ok (.getfield 105, 3) := by decide +kernel
theorem dX3_deadIn_62 : decode cX3_deadIn 62 = .ok (.ishl, 1) := by decide +kernel
theorem dX3_deadIn_63 : decode cX3_deadIn 63 = .ok (.ior, 1) := by decide +kernel
theorem dX3_deadIn_64 : decode cX3_deadIn 64 = .ok (.istore_n 3, 1) := by decide +kernel
theorem dX3_deadIn_65 : decode cX3_deadIn 65 = .ok (.iinc 4 1, 3) := by decide +kernel
theorem dX3_deadIn_68 : decode cX3_deadIn 68 = .ok (.goto (-63), 3) := by decide +kernel
theorem dX3_deadIn_71 : decode cX3_deadIn 71 = .ok (.iload_n 3, 1) := by decide +kernel
theorem dX3_deadIn_72 : decode cX3_deadIn 72 = .ok (.ireturn, 1) := by decide +kernel
theorem dX3_breachOfCycle_0 : decode cX3_breachOfCycle 0 = .ok (.iconst 0, 1) := by decide +kernel
theorem dX3_breachOfCycle_1 : decode cX3_breachOfCycle 1 = .ok (.istore 4, 2) := by decide +kernel
theorem dX3_breachOfCycle_3 : decode cX3_breachOfCycle 3 = .ok (.iconst 0, 1) := by decide +kernel
theorem dX3_breachOfCycle_4 : decode cX3_breachOfCycle 4 = .ok (.istore 5, 2) := by decide +kernel
theorem dX3_breachOfCycle_6 : decode cX3_breachOfCycle 6 = .ok (.iload 5, 2) := by decide +kernel
theorem dX3_breachOfCycle_8 : decode cX3_breachOfCycle 8 = .ok (.aload_n 0, 1) := by decide +kernel
theorem dX3_breachOfCycle_9 : decode cX3_breachOfCycle 9 = .ok (.getfield 12, 3) := by decide +kernel
theorem dX3_breachOfCycle_12 : decode cX3_breachOfCycle 12 = .ok (.invokevirtual 31, 3) := by decide +kernel
theorem dX3_breachOfCycle_15 : decode cX3_breachOfCycle 15 = .ok (.if_icmp .ge 61, 3) := by decide +kernel
theorem dX3_breachOfCycle_18 : decode cX3_breachOfCycle 18 = .ok (.aload_n 0, 1) := by decide +kernel
theorem dX3_breachOfCycle_19 : decode cX3_breachOfCycle 19 = .ok (.getfield 12, 3) := by decide +kernel
theorem dX3_breachOfCycle_22 : decode cX3_breachOfCycle 22 = .ok (.iload 5, 2) := by decide +kernel
theorem dX3_breachOfCycle_24 : decode cX3_breachOfCycle 24 = .ok (.invokevirtual 56, 3) := by decide +kernel
theorem dX3_breachOfCycle_27 : decode cX3_breachOfCycle 27 = .ok (.checkcast 40, 3) := by decide +kernel
theorem dX3_breachOfCycle_30 : decode cX3_breachOfCycle 30 = .ok (.astore 6, 2) := by decide +kernel
theorem dX3_breachOfCycle_32 : decode cX3_breachOfCycle 32 = .ok (.iload_n 2, 1) := by decide +kernel
theorem dX3_breachOfCycle_33 : decode cX3_breachOfCycle 33 = .ok (.iload 5, 2) := by decide +kernel
theorem dX3_breachOfCycle_35 : decode cX3_breachOfCycle 35 = .ok (.invokestatic 98, 3) := by decide +kernel
theorem dX3_breachOfCycle_38 : decode cX3_breachOfCycle 38 = .ok (.ifCond .eq 14, 3) := by decide +kernel
theorem dX3_breachOfCycle_41 : decode cX3_breachOfCycle 41 = .ok (.aload 6, 2) := by decide +kernel
theorem dX3_breachOfCycle_43 : decode cX3_breachOfCycle 43 = .ok (.iload_n 1, 1) := by decide +kernel
theorem dX3_breachOfCycle_44 : decode cX3_breachOfCycle 44 = .ok (.invokevirtual 108, 3) := by decide +kernel
theorem dX3_breachOfCycle_47 : decode cX3_breachOfCycle 47 = .ok (.ifCond .ne 5, 3) := by decide +kernel
theorem dX3_breachOfCycle_50 : decode cX3_breachOfCycle 50 = .ok (.iconst 1, 1) := by decide +kernel
theorem dX3_breachOfCycle_51 : decode cX3_breachOfCycle 51 = .ok (.ireturn, 1) := by decide +kernel
theorem dX3_breachOfCycle_52 : decode cX3_breachOfCycle 52 = .ok (.iload 5, 2) := by decide +kernel
theorem dX3_breachOfCycle_54 : decode cX3_breachOfCycle 54 = .ok (.iload_n 3, 1) := by decide +kernel
theorem dX3_breachOfCycle_55 : decode cX3_breachOfCycle 55 = .ok (.if_icmp .ne 15, 3) := by decide +kernel
theorem dX3_breachOfCycle_58 : decode cX3_breachOfCycle 58 = .ok (.aload 6, 2) := by decide +kernel
theorem dX3_breachOfCycle_60 : decode cX3_breachOfCycle 60 = .ok (.getfield 112, 3) := by decide +kernel
theorem dX3_breachOfCycle_63 : decode cX3_breachOfCycle 63 = .ok (.iload_n 1, 1) := by decide +kernel
theorem dX3_breachOfCycle_64 : decode cX3_breachOfCycle 64 = .ok (.if_icmp .eq 6, 3) := by decide +kernel
theorem dX3_breachOfCycle_67 : decode cX3_breachOfCycle 67 = .ok (.iconst 2, 1) := by decide +kernel
theorem dX3_breachOfCycle_68 : decode cX3_breachOfCycle 68 = .ok (.istore 4, 2) := by decide +kernel
theorem dX3_breachOfCycle_70 : decode cX3_breachOfCycle 70 = .ok (.iinc 5 1, 3) := by decide +kernel
theorem dX3_breachOfCycle_73 : decode cX3_breachOfCycle 73 = .ok (.goto (-67), 3) := by decide +kernel
theorem dX3_breachOfCycle_76 : decode cX3_breachOfCycle 76 = .ok (.iload 4, 2) := by decide +kernel
theorem dX3_breachOfCycle_78 : decode cX3_breachOfCycle 78 = .ok (.ireturn, 1) := by decide +kernel
theorem dX4_init_0 : decode cX4_init 0 = .ok (.aload_n 0, 1) := by decide +kernel
theorem dX4_init_1 : decode cX4_init 1 = .ok (.invokespecial 3, 3) := by decide +kernel
theorem dX4_init_4 : decode cX4_init 4 = .ok (.aload_n 0, 1) := by decide +kernel
theorem dX4_init_5 : decode cX4_init 5 = .ok (.iload_n 1, 1) := by decide +kernel
theorem dX4_init_6 : decode cX4_init 6 = .ok (.putfield 9, 3) := by decide +kernel
theorem dX4_init_9 : decode cX4_init 9 = .ok (.aload_n 0, 1) := by decide +kernel
theorem dX4_init_10 : decode cX4_init 10 = .ok (.iload_n 2, 1) := by decide +kernel
theorem dX4_init_11 : decode cX4_init 11 = .ok (.putfield 15, 3) := by decide +kernel
theorem dX4_init_14 : decode cX4_init 14 = .ok (.aload_n 0, 1) := by decide +kernel
theorem dX4_init_15 : decode cX4_init 15 = .ok (.iload_n 3, 1) := by decide +kernel
theorem dX4_init_16 : decode cX4_init 16 = .ok (.putfield 18, 3) := by decide +kernel
theorem dX4_init_19 : decode cX4_init 19 = .ok (.aload_n 0, 1) := by decide +kernel
theorem dX4_init_20 : decode cX4_init 20 = .ok (.iload 4, 2) := by decide +kernel
theorem dX4_init_22 : decode cX4_init 22 = .ok (.putfield 21, 3) := by decide +kernel
theorem dX4_init_25 : decode cX4_init 25 = .ok (.aload_n 0, 1) := by decide +kernel
theorem dX4_init_26 : decode cX4_init 26 = .ok (.iload 5, 2) := by decide +kernel
theorem dX4_init_28 : decode cX4_init 28 = .ok (.putfield 24, 3) := by decide +kernel
theorem dX4_init_31 : decode cX4_init 31 = .ok (.aload_n 0, 1) := by decide +kernel
theorem dX4_init_32 : decode cX4_init 32 = .ok (.iload 6, 2) := by decide +kernel
theorem dX4_init_34 : decode cX4_init 34 = .ok (.putfield 27, 3) := by decide +kernel
theorem dX4_init_37 : decode cX4_init 37 = .ok (.aload_n 0, 1) := by decide +kernel
theorem dX4_init_38 : decode cX4_init 38 = .ok (.iload 7, 2) := by decide +kernel
theorem dX4_init_40 : decode cX4_init 40 = .ok (.putfield 30, 3) := by decide +kernel
theorem dX4_init_43 : decode cX4_init 43 = .ok (.return_, 1) := by decide +kernel
theorem dX4_end_0 : decode cX4_end 0 = .ok (.aload_n 0, 1) := by decide +kernel
theorem dX4_end_1 : decode cX4_end 1 = .ok (.getfield 33, 3) := by decide +kernel
theorem dX4_end_4 : decode cX4_end 4 = .ok (.aload_n 0, 1) := by decide +kernel
theorem dX4_end_5 : decode cX4_end 5 = .ok (.getfield 21, 3) := by decide +kernel
theorem dX4_end_8 : decode cX4_end 8 = .ok (.iadd, 1) := by decide +kernel
theorem dX4_end_9 : decode cX4_end 9 = .ok (.ireturn, 1) := by decide +kernel
theorem dX4_part_0 : decode cX4_part 0 = .ok (.iconst 2, 1) := by decide +kernel
theorem dX4_part_1 : decode cX4_part 1 = .ok (.aload_n 0, 1) := by decide +kernel
theorem dX4_part_2 : decode cX4_part 2 = .ok (.getfield 33, 3) := by decide +kernel
theorem dX4_part_5 : decode cX4_part 5 = .ok (.sipush 180, 3) := by decide +kernel
theorem dX4_part_8 : decode cX4_part 8 = .ok (.idiv, 1) := by decide +kernel
theorem dX4_part_9 : decode cX4_part 9 = .ok (.invokestatic 36, 3) := by decide +kernel
theorem dX4_part_12 : decode cX4_part 12 = .ok (.ireturn, 1) := by decide +kernel
theorem dX4_breachWith_0 : decode cX4_breachWith 0 = .ok (.aload_n 0, 1) := by decide +kernel
theorem dX4_breachWith_1 : decode cX4_breachWith 1 = .ok (.getfield 30, 3) := by decide +kernel
theorem dX4_breachWith_4 : decode cX4_breachWith 4 = .ok (.iconst 1, 1) := by decide +kernel
theorem dX4_breachWith_5 : decode cX4_breachWith 5 = .ok (.if_icmp .eq 12, 3) := by decide +kernel
theorem dX4_breachWith_8 : decode cX4_breachWith 8 = .ok (.aload_n 0, 1) := by decide +kernel
theorem dX4_breachWith_9 : decode cX4_breachWith 9 = .ok (.getfield 18, 3) := by decide +kernel
theorem dX4_breachWith_12 : decode cX4_breachWith 12 = .ok (.iload_n 1, 1) := by decide +kernel
theorem dX4_breachWith_13 : decode cX4_breachWith 13 = .ok (.iand, 1) := by decide +kernel
theorem dX4_breachWith_14 : decode cX4_breachWith 14 = .ok (.ifCond .eq 5, 3) := by decide +kernel
theorem dX4_breachWith_17 : decode cX4_breachWith 17 = .ok (.iconst 1, 1) := by decide +kernel
theorem dX4_breachWith_18 : decode cX4_breachWith 18 = .ok (.ireturn, 1) := by decide +kernel
theorem dX4_breachWith_19 : decode cX4_breachWith 19 = .ok (.aload_n 0, 1) := by decide +kernel
theorem dX4_breachWith_20 : decode cX4_breachWith 20 = .ok (.getfield 30, 3) := by decide +kernel
theorem dX4_breachWith_23 : decode cX4_breachWith 23 = .ok (.iconst 2, 1) := by decide +kernel
theorem dX4_breachWith_24 : decode cX4_breachWith 24 = .ok (.if_icmp .ne 5, 3) := by decide +kernel
theorem dX4_breachWith_27 : decode cX4_breachWith 27 = .ok (.iconst 2, 1) := by decide +kernel
theorem dX4_breachWith_28 : decode cX4_breachWith 28 = .ok (.ireturn, 1) := by decide +kernel
theorem dX4_breachWith_29 : decode cX4_breachWith 29 = .ok (.aload_n 0, 1) := by decide +kernel
theorem dX4_breachWith_30 : decode cX4_breachWith 30 = .ok (.getfield 27, 3) := by decide +kernel
theorem dX4_breachWith_33 : decode cX4_breachWith 33 = .ok (.iconst (-1), 1) := by decide +kernel
theorem dX4_breachWith_34 : decode cX4_breachWith 34 = .ok (.if_icmp .eq 16, 3) := by decide +kernel
theorem dX4_breachWith_37 : decode cX4_breachWith 37 = .ok (.iload_n 2, 1) := by decide +kernel
theorem dX4_breachWith_38 : decode cX4_breachWith 38 = .ok (.aload_n 0, 1) := by decide +kernel
theorem dX4_breachWith_39 : decode cX4_breachWith 39 = .ok (.getfield 27, 3) := by decide +kernel
theorem dX4_breachWith_42 : decode cX4_breachWith 42 = .ok (.invokestatic 42, 3) := by decide +kernel
theorem dX4_breachWith_45 : decode cX4_breachWith 45 = .ok (.ifCond .ne 5, 3) := by decide +kernel
theorem dX4_breachWith_48 : decode cX4_breachWith 48 = .ok (.iconst 3, 1) := by decide +kernel
theorem dX4_breachWith_49 : decode cX4_breachWith 49 = .ok (.ireturn, 1) := by decide +kernel
theorem dX4_breachWith_50 : decode cX4_breachWith 50 = .ok (.aload_n 0, 1) := by decide +kernel
theorem dX4_breachWith_51 : decode cX4_breachWith 51 = .ok (.getfield 15, 3) := by decide +kernel
theorem dX4_breachWith_54 : decode cX4_breachWith 54 = .ok (.aload_n 0, 1) := by decide +kernel
theorem dX4_breachWith_55 : decode cX4_breachWith 55 = .ok (.invokevirtual 46, 3) := by decide +kernel
theorem dX4_breachWith_58 : decode cX4_breachWith 58 = .ok (.iconst 1, 1) := by decide +kernel
theorem dX4_breachWith_59 : decode cX4_breachWith 59 = .ok (.iadd, 1) := by decide +kernel
theorem dX4_breachWith_60 : decode cX4_breachWith 60 = .ok (.if_icmp .le 5, 3) := by decide +kernel
theorem dX4_breachWith_63 : decode cX4_breachWith 63 = .ok (.iconst 4, 1) := by decide +kernel
theorem dX4_breachWith_64 : decode cX4_breachWith 64 = .ok (.ireturn, 1) := by decide +kernel
theorem dX4_breachWith_65 : decode cX4_breachWith 65 = .ok (.aload_n 0, 1) := by decide +kernel
theorem dX4_breachWith_66 : decode cX4_breachWith 66 = .ok (.invokevirtual 50, 3) := by decide +kernel
theorem dX4_breachWith_69 : decode cX4_breachWith 69 = .ok (.sipush 540, 3) := by decide +kernel
theorem dX4_breachWith_72 : decode cX4_breachWith 72 = .ok (.if_icmp .le 7, 3) := by decide +kernel
theorem dX4_breachWith_75 : decode cX4_breachWith 75 = .ok (.iconst 5, 1) := by decide +kernel
theorem dX4_breachWith_76 : decode cX4_breachWith 76 = .ok (.goto 4, 3) := by decide +kernel
theorem dX4_breachWith_79 : decode cX4_breachWith 79 = .ok (.iconst 0, 1) := by decide +kernel
theorem dX4_breachWith_80 : decode cX4_breachWith 80 = .ok (.ireturn, 1) := by decide +kernel
theorem dX4_value_0 : decode cX4_value 0 = .ok (.iload_n 1, 1) := by decide +kernel
theorem dX4_value_1 : decode cX4_value 1 = .ok (.tableswitch 87 0 7 #[47, 52, 57, 62, 67, 72, 77, 82], 47) := by decide +kernel
theorem dX4_value_48 : decode cX4_value 48 = .ok (.aload_n 0, 1) := by decide +kernel
theorem dX4_value_49 : decode cX4_value 49 = .ok (.getfield 9, 3) := by decide +kernel
theorem dX4_value_52 : decode cX4_value 52 = .ok (.ireturn, 1) := by decide +kernel
theorem dX4_value_53 : decode cX4_value 53 = .ok (.aload_n 0, 1) := by decide +kernel
theorem dX4_value_54 : decode cX4_value 54 = .ok (.getfield 15, 3) := by decide +kernel
theorem dX4_value_57 : decode cX4_value 57 = .ok (.ireturn, 1) := by decide +kernel
theorem dX4_value_58 : decode cX4_value 58 = .ok (.aload_n 0, 1) := by decide +kernel
theorem dX4_value_59 : decode cX4_value 59 = .ok (.getfield 18, 3) := by decide +kernel
theorem dX4_value_62 : decode cX4_value 62 = .ok (.ireturn, 1) := by decide +kernel
theorem dX4_value_63 : decode cX4_value 63 = .ok (.aload_n 0, 1) := by decide +kernel
theorem dX4_value_64 : decode cX4_value 64 = .ok (.getfield 21, 3) := by decide +kernel
theorem dX4_value_67 : decode cX4_value 67 = .ok (.ireturn, 1) := by decide +kernel
theorem dX4_value_68 : decode cX4_value 68 = .ok (.aload_n 0, 1) := by decide +kernel
theorem dX4_value_69 : decode cX4_value 69 = .ok (.getfield 24, 3) := by decide +kernel
theorem dX4_value_72 : decode cX4_value 72 = .ok (.ireturn, 1) := by decide +kernel
theorem dX4_value_73 : decode cX4_value 73 = .ok (.aload_n 0, 1) := by decide +kernel
theorem dX4_value_74 : decode cX4_value 74 = .ok (.getfield 27, 3) := by decide +kernel
theorem dX4_value_77 : decode cX4_value 77 = .ok (.ireturn, 1) := by decide +kernel
theorem dX4_value_78 : decode cX4_value 78 = .ok (.aload_n 0, 1) := by decide +kernel
theorem dX4_value_79 : decode cX4_value 79 = .ok (.getfield 33, 3) := by decide +kernel
theorem dX4_value_82 : decode cX4_value 82 = .ok (.ireturn, 1) := by decide +kernel
theorem dX4_value_83 : decode cX4_value 83 = .ok (.aload_n 0, 1) := by decide +kernel
theorem dX4_value_84 : decode cX4_value 84 = .ok (.invokevirtual 46, 3) := by decide +kernel
theorem dX4_value_87 : decode cX4_value 87 = .ok (.ireturn, 1) := by decide +kernel
theorem dX4_value_88 : decode cX4_value 88 = .ok (.aload_n 0, 1) := by decide +kernel
theorem dX4_value_89 : decode cX4_value 89 = .ok (.getfield 53, 3) := by decide +kernel
theorem dX4_value_92 : decode cX4_value 92 = .ok (.ireturn, 1) := by decide +kernel
theorem dX5_init_0 : decode cX5_init 0 = .ok (.aload_n 0, 1) := by decide +kernel
theorem dX5_init_1 : decode cX5_init 1 = .ok (.invokespecial 3, 3) := by decide +kernel
theorem dX5_init_4 : decode cX5_init 4 = .ok (.aload_n 0, 1) := by decide +kernel
theorem dX5_init_5 : decode cX5_init 5 = .ok (.new 9, 3) := by decide +kernel
theorem dX5_init_8 : decode cX5_init 8 = .ok (.dup, 1) := by decide +kernel
theorem dX5_init_9 : decode cX5_init 9 = .ok (.invokespecial 11, 3) := by decide +kernel
theorem dX5_init_12 : decode cX5_init 12 = .ok (.putfield 12, 3) := by decide +kernel
theorem dX5_init_15 : decode cX5_init 15 = .ok (.aload_n 0, 1) := by decide +kernel
theorem dX5_init_16 : decode cX5_init 16 = .ok (.bipush 50, 2) := by decide +kernel
theorem dX5_init_18 : decode cX5_init 18 = .ok (.putfield 18, 3) := by decide +kernel
theorem dX5_init_21 : decode cX5_init 21 = .ok (.aload_n 0, 1) := by decide +kernel
theorem dX5_init_22 : decode cX5_init 22 = .ok (.iconst 0, 1) := by decide +kernel
theorem dX5_init_23 : decode cX5_init 23 = .ok (.putfield 22, 3) := by decide +kernel
theorem dX5_init_26 : decode cX5_init 26 = .ok (.return_, 1) := by decide +kernel
theorem dX5_figureAt_0 : decode cX5_figureAt 0 = .ok (.iconst 0, 1) := by decide +kernel
theorem dX5_figureAt_1 : decode cX5_figureAt 1 = .ok (.istore_n 2, 1) := by decide +kernel
theorem dX5_figureAt_2 : decode cX5_figureAt 2 = .ok (.iload_n 2, 1) := by decide +kernel
theorem dX5_figureAt_3 : decode cX5_figureAt 3 = .ok (.aload_n 0, 1) := by decide +kernel
theorem dX5_figureAt_4 : decode cX5_figureAt 4 = .ok (.getfield 12, 3) := by decide +kernel
theorem dX5_figureAt_7 : decode cX5_figureAt 7 = .ok (.invokevirtual 25, 3) := by decide +kernel
theorem dX5_figureAt_10 : decode cX5_figureAt 10 = .ok (.if_icmp .ge 38, 3) := by decide +kernel
theorem dX5_figureAt_13 : decode cX5_figureAt 13 = .ok (.aload_n 0, 1) := by decide +kernel
theorem dX5_figureAt_14 : decode cX5_figureAt 14 = .ok (.getfield 12, 3) := by decide +kernel
theorem dX5_figureAt_17 : decode cX5_figureAt 17 = .ok (.iload_n 2, 1) := by decide +kernel
theorem dX5_figureAt_18 : decode cX5_figureAt 18 = .ok (.invokevirtual 29, 3) := by decide +kernel
theorem dX5_figureAt_21 : decode cX5_figureAt 21 = .ok (.checkcast 33, 3) := by decide +kernel
theorem dX5_figureAt_24 : decode cX5_figureAt 24 = .ok (.astore_n 3, 1) := by decide +kernel
theorem dX5_figureAt_25 : decode cX5_figureAt 25 = .ok (.aload_n 3, 1) := by decide +kernel
theorem dX5_figureAt_26 : decode cX5_figureAt 26 = .ok (.invokevirtual 35, 3) := by decide +kernel
theorem dX5_figureAt_29 : decode cX5_figureAt 29 = .ok (.ifCond .eq 13, 3) := by decide +kernel
theorem dX5_figureAt_32 : decode cX5_figureAt 32 = .ok (.aload_n 3, 1) := by decide +kernel
theorem dX5_figureAt_33 : decode cX5_figureAt 33 = .ok (.getfield 39, 3) := by decide +kernel
theorem dX5_figureAt_36 : decode cX5_figureAt 36 = .ok (.iload_n 1, 1) := by decide +kernel
theorem dX5_figureAt_37 : decode cX5_figureAt 37 = .ok (.if_icmp .ne 5, 3) := by decide +kernel
theorem dX5_figureAt_40 : decode cX5_figureAt 40 = .ok (.iload_n 2, 1) := by decide +kernel
theorem dX5_figureAt_41 : decode cX5_figureAt 41 = .ok (.ireturn, 1) := by decide +kernel
theorem dX5_figureAt_42 : decode cX5_figureAt 42 = .ok (.iinc 2 1, 3) := by decide +kernel
theorem dX5_figureAt_45 : decode cX5_figureAt 45 = .ok (.goto (-43), 3) := by decide +kernel
theorem dX5_figureAt_48 : decode cX5_figureAt 48 = .ok (.iconst (-1), 1) := by decide +kernel
theorem dX5_figureAt_49 : decode cX5_figureAt 49 = .ok (.ireturn, 1) := by decide +kernel
theorem dX5_canTake_0 : decode cX5_canTake 0 = .ok (.iload_n 1, 1) := by decide +kernel
theorem dX5_canTake_1 : decode cX5_canTake 1 = .ok (.iload_n 2, 1) := by decide +kernel
theorem dX5_canTake_2 : decode cX5_canTake 2 = .ok (.invokestatic 42, 3) := by decide +kernel
theorem dX5_canTake_5 : decode cX5_canTake 5 = .ok (.ifCond .eq 15, 3) := by decide +kernel
theorem dX5_canTake_8 : decode cX5_canTake 8 = .ok (.aload_n 0, 1) := by decide +kernel
theorem dX5_canTake_9 : decode cX5_canTake 9 = .ok (.iload_n 1, 1) := by decide +kernel
theorem dX5_canTake_10 : decode cX5_canTake 10 = .ok (.invokevirtual 46, 3) := by decide +kernel
theorem dX5_canTake_13 : decode cX5_canTake 13 = .ok (.ifCond .eq 7, 3) := by decide +kernel
theorem dX5_canTake_16 : decode cX5_canTake 16 = .ok (.iconst 1, 1) := by decide +kernel
theorem dX5_canTake_17 : decode cX5_canTake 17 = .ok (.goto 4, 3) := by decide +kernel
theorem dX5_canTake_20 : decode cX5_canTake 20 = .ok (.iconst 0, 1) := by decide +kernel
theorem dX5_canTake_21 : decode cX5_canTake 21 = .ok (.ireturn, 1) := by decide +kernel
theorem dX5_gripper_0 : decode cX5_gripper 0 = .ok (.aload_n 1, 1) := by decide +kernel
theorem dX5_gripper_1 : decode cX5_gripper 1 = .ok (.getfield 50, 3) := by decide +kernel
theorem dX5_gripper_4 : decode cX5_gripper 4 = .ok (.ifCond .ne 45, 3) := by decide +kernel
theorem dX5_gripper_7 : decode cX5_gripper 7 = .ok (.aload_n 1, 1) := by decide +kernel
theorem dX5_gripper_8 : decode cX5_gripper 8 = .ok (.getfield 53, 3) := by decide +kernel
theorem dX5_gripper_11 : decode cX5_gripper 11 = .ok (.ifCond .ne 7, 3) := by decide +kernel
theorem dX5_gripper_14 : decode cX5_gripper 14 = .ok (.iconst 2, 1) := by decide +kernel
theorem dX5_gripper_15 : decode cX5_gripper 15 = .ok (.goto 4, 3) := by decide +kernel
theorem dX5_gripper_18 : decode cX5_gripper 18 = .ok (.iconst 3, 1) := by decide +kernel
theorem dX5_gripper_19 : decode cX5_gripper 19 = .ok (.istore_n 2, 1) := by decide +kernel
theorem dX5_gripper_20 : decode cX5_gripper 20 = .ok (.aload_n 0, 1) := by decide +kernel
theorem dX5_gripper_21 : decode cX5_gripper 21 = .ok (.iload_n 2, 1) := by decide +kernel
theorem dX5_gripper_22 : decode cX5_gripper 22 = .ok (.invokevirtual 46, 3) := by decide +kernel
theorem dX5_gripper_25 : decode cX5_gripper 25 = .ok (.ifCond .eq 22, 3) := by decide +kernel
theorem dX5_gripper_28 : decode cX5_gripper 28 = .ok (.aload_n 0, 1) := by decide +kernel
theorem dX5_gripper_29 : decode cX5_gripper 29 = .ok (.aload_n 1, 1) := by decide +kernel
theorem dX5_gripper_30 : decode cX5_gripper 30 = .ok (.getfield 53, 3) := by decide +kernel
theorem dX5_gripper_33 : decode cX5_gripper 33 = .ok (.invokestatic 56, 3) := by decide +kernel
theorem dX5_gripper_36 : decode cX5_gripper 36 = .ok (.invokevirtual 60, 3) := by decide +kernel
theorem dX5_gripper_39 : decode cX5_gripper 39 = .ok (.iconst (-1), 1) := by decide +kernel
theorem dX5_gripper_40 : decode cX5_gripper 40 = .ok (.if_icmp .ne 7, 3) := by decide +kernel
theorem dX5_gripper_43 : decode cX5_gripper 43 = .ok (.iload_n 2, 1) := by decide +kernel
theorem dX5_gripper_44 : decode cX5_gripper 44 = .ok (.goto 4, 3) := by decide +kernel
theorem dX5_gripper_47 : decode cX5_gripper 47 = .ok (.iconst (-1), 1) := by decide +kernel
theorem dX5_gripper_48 : decode cX5_gripper 48 = .ok (.ireturn, 1) := by decide +kernel
theorem dX5_gripper_49 : decode cX5_gripper 49 = .ok (.aload_n 1, 1) := by decide +kernel
theorem dX5_gripper_50 : decode cX5_gripper 50 = .ok (.getfield 50, 3) := by decide +kernel
theorem dX5_gripper_53 : decode cX5_gripper 53 = .ok (.iconst 1, 1) := by decide +kernel
theorem dX5_gripper_54 : decode cX5_gripper 54 = .ok (.if_icmp .eq 5, 3) := by decide +kernel
theorem dX5_gripper_57 : decode cX5_gripper 57 = .ok (.iconst (-1), 1) := by decide +kernel
theorem dX5_gripper_58 : decode cX5_gripper 58 = .ok (.ireturn, 1) := by decide +kernel
theorem dX5_gripper_59 : decode cX5_gripper 59 = .ok (.aload_n 0, 1) := by decide +kernel
theorem dX5_gripper_60 : decode cX5_gripper 60 = .ok (.iconst 2, 1) := by decide +kernel
theorem dX5_gripper_61 : decode cX5_gripper 61 = .ok (.aload_n 1, 1) := by decide +kernel
theorem dX5_gripper_62 : decode cX5_gripper 62 = .ok (.getfield 39, 3) := by decide +kernel
theorem dX5_gripper_65 : decode cX5_gripper 65 = .ok (.invokevirtual 63, 3) := by decide +kernel
theorem dX5_gripper_68 : decode cX5_gripper 68 = .ok (.ifCond .eq 5, 3) := by decide +kernel
theorem dX5_gripper_71 : decode cX5_gripper 71 = .ok (.iconst 2, 1) := by decide +kernel
theorem dX5_gripper_72 : decode cX5_gripper 72 = .ok (.ireturn, 1) := by decide +kernel
theorem dX5_gripper_73 : decode cX5_gripper 73 = .ok (.aload_n 0, 1) := by decide +kernel
theorem dX5_gripper_74 : decode cX5_gripper 74 = .ok (.iconst 3, 1) := by decide +kernel
theorem dX5_gripper_75 : decode cX5_gripper 75 = .ok (.aload_n 1, 1) := by decide +kernel
theorem dX5_gripper_76 : decode cX5_gripper 76 = .ok (.getfield 39, 3) := by decide +kernel
theorem dX5_gripper_79 : decode cX5_gripper 79 = .ok (.invokevirtual 63, 3) := by decide +kernel
theorem dX5_gripper_82 : decode cX5_gripper 82 = .ok (.ifCond .eq 7, 3) := by decide +kernel
theorem dX5_gripper_85 : decode cX5_gripper 85 = .ok (.iconst 3, 1) := by decide +kernel
theorem dX5_gripper_86 : decode cX5_gripper 86 = .ok (.goto 4, 3) := by decide +kernel
theorem dX5_gripper_89 : decode cX5_gripper 89 = .ok (.iconst (-1), 1) := by decide +kernel
theorem dX5_gripper_90 : decode cX5_gripper 90 = .ok (.ireturn, 1) := by decide +kernel
theorem dX5_gripableFigures_0 : decode cX5_gripableFigures 0 = .ok (.iconst 0, 1) := by decide +kernel
theorem dX5_gripableFigures_1 : decode cX5_gripableFigures 1 = .ok (.istore_n 1, 1) := by decide +kernel
theorem dX5_gripableFigures_2 : decode cX5_gripableFigures 2 = .ok (.iconst 0, 1) := by decide +kernel
theorem dX5_gripableFigures_3 : decode cX5_gripableFigures 3 = .ok (.istore_n 2, 1) := by decide +kernel
theorem dX5_gripableFigures_4 : decode cX5_gripableFigures 4 = .ok (.iload_n 2, 1) := by decide +kernel
theorem dX5_gripableFigures_5 : decode cX5_gripableFigures 5 = .ok (.aload_n 0, 1) := by decide +kernel
theorem dX5_gripableFigures_6 : decode cX5_gripableFigures 6 = .ok (.getfield 12, 3) := by decide +kernel
theorem dX5_gripableFigures_9 : decode cX5_gripableFigures 9 = .ok (.invokevirtual 25, 3) := by decide +kernel
theorem dX5_gripableFigures_12 : decode cX5_gripableFigures 12 = .ok (.if_icmp .ge 34, 3) := by decide +kernel
theorem dX5_gripableFigures_15 : decode cX5_gripableFigures 15 = .ok (.aload_n 0, 1) := by decide +kernel
theorem dX5_gripableFigures_16 : decode cX5_gripableFigures 16 = .ok (.aload_n 0, 1) := by decide +kernel
theorem dX5_gripableFigures_17 : decode cX5_gripableFigures 17 = .ok (.getfield 12, 3) := by decide +kernel
theorem dX5_gripableFigures_20 : decode cX5_gripableFigures 20 = .ok (.iload_n 2, 1) := by decide +kernel
theorem dX5_gripableFigures_21 : decode cX5_gripableFigures 21 = .ok (.invokevirtual 29, 3) := by decide +kernel
theorem dX5_gripableFigures_24 : decode cX5_gripableFigures 24 = .ok (.checkcast 33, 3) := by decide +kernel
theorem dX5_gripableFigures_27 : decode cX5_gripableFigures 27 = .ok (.invokevirtual 66, 3) := by decide +kernel
theorem dX5_gripableFigures_30 : decode cX5_gripableFigures 30 = .ok (.iconst (-1), 1) := by decide +kernel
theorem dX5_gripableFigures_31 : decode cX5_gripableFigures 31 = .ok (.if_icmp .eq 9, 3) := by decide +kernel
theorem dX5_gripableFigures_34 : decode cX5_gripableFigures 34 = .ok (.iload_n 1, 1) := by decide +kernel
theorem dX5_gripableFigures_35 : decode cX5_gripableFigures 35 = .ok (.iconst 1, 1) := by decide +kernel
theorem dX5_gripableFigures_36 : decode cX5_gripableFigures 36 = .ok (.iload_n 2, 1) := by decide +kernel
theorem dX5_gripableFigures_37 : decode cX5_gripableFigures 37 = .ok (.ishl, 1) := by decide +kernel
theorem dX5_gripableFigures_38 : decode cX5_gripableFigures 38 = .ok (.ior, 1) := by decide +kernel
theorem dX5_gripableFigures_39 : decode cX5_gripableFigures 39 = .ok (.istore_n 1, 1) := by decide +kernel
theorem dX5_gripableFigures_40 : decode cX5_gripableFigures 40 = .ok (.iinc 2 1, 3) := by decide +kernel
theorem dX5_gripableFigures_43 : decode cX5_gripableFigures 43 = .ok (.goto (-39), 3) := by decide +kernel
theorem dX5_gripableFigures_46 : decode cX5_gripableFigures 46 = .ok (.iload_n 1, 1) := by decide +kernel
theorem dX5_gripableFigures_47 : decode cX5_gripableFigures 47 = .ok (.ireturn, 1) := by decide +kernel
theorem dX5_shadow_0 : decode cX5_shadow 0 = .ok (.aload_n 0, 1) := by decide +kernel
theorem dX5_shadow_1 : decode cX5_shadow 1 = .ok (.getfield 18, 3) := by decide +kernel
theorem dX5_shadow_4 : decode cX5_shadow 4 = .ok (.iload_n 2, 1) := by decide +kernel
theorem dX5_shadow_5 : decode cX5_shadow 5 = .ok (.isub, 1) := by decide +kernel
theorem dX5_shadow_6 : decode cX5_shadow 6 = .ok (.istore_n 3, 1) := by decide +kernel
theorem dX5_shadow_7 : decode cX5_shadow 7 = .ok (.iload_n 3, 1) := by decide +kernel
theorem dX5_shadow_8 : decode cX5_shadow 8 = .ok (.ifCond .gt 5, 3) := by decide +kernel
theorem dX5_shadow_11 : decode cX5_shadow 11 = .ok (.iconst 0, 1) := by decide +kernel
theorem dX5_shadow_12 : decode cX5_shadow 12 = .ok (.ireturn, 1) := by decide +kernel
theorem dX5_shadow_13 : decode cX5_shadow 13 = .ok (.aload_n 1, 1) := by decide +kernel
theorem dX5_shadow_14 : decode cX5_shadow 14 = .ok (.getfield 70, 3) := by decide +kernel
theorem dX5_shadow_17 : decode cX5_shadow 17 = .ok (.aload_n 0, 1) := by decide +kernel
theorem dX5_shadow_18 : decode cX5_shadow 18 = .ok (.getfield 18, 3) := by decide +kernel
theorem dX5_shadow_21 : decode cX5_shadow 21 = .ok (.imul, 1) := by decide +kernel
theorem dX5_shadow_22 : decode cX5_shadow 22 = .ok (.iload_n 3, 1) := by decide +kernel
theorem dX5_shadow_23 : decode cX5_shadow 23 = .ok (.idiv, 1) := by decide +kernel
theorem dX5_shadow_24 : decode cX5_shadow 24 = .ok (.ireturn, 1) := by decide +kernel
theorem dX5_leastLift_0 : decode cX5_leastLift 0 = .ok (.iconst 0, 1) := by decide +kernel
theorem dX5_leastLift_1 : decode cX5_leastLift 1 = .ok (.istore_n 3, 1) := by decide +kernel
theorem dX5_leastLift_2 : decode cX5_leastLift 2 = .ok (.iload_n 3, 1) := by decide +kernel
theorem dX5_leastLift_3 : decode cX5_leastLift 3 = .ok (.bipush 15, 2) := by decide +kernel
theorem dX5_leastLift_5 : decode cX5_leastLift 5 = .ok (.if_icmp .gt 21, 3) := by decide +kernel
theorem dX5_leastLift_8 : decode cX5_leastLift 8 = .ok (.aload_n 0, 1) := by decide +kernel
theorem dX5_leastLift_9 : decode cX5_leastLift 9 = .ok (.aload_n 1, 1) := by decide +kernel
theorem dX5_leastLift_10 : decode cX5_leastLift 10 = .ok (.iload_n 3, 1) := by decide +kernel
theorem dX5_leastLift_11 : decode cX5_leastLift 11 = .ok (.invokevirtual 73, 3) := by decide +kernel
theorem dX5_leastLift_14 : decode cX5_leastLift 14 = .ok (.iload_n 2, 1) := by decide +kernel
theorem dX5_leastLift_15 : decode cX5_leastLift 15 = .ok (.if_icmp .lt 5, 3) := by decide +kernel
theorem dX5_leastLift_18 : decode cX5_leastLift 18 = .ok (.iload_n 3, 1) := by decide +kernel
theorem dX5_leastLift_19 : decode cX5_leastLift 19 = .ok (.ireturn, 1) := by decide +kernel
theorem dX5_leastLift_20 : decode cX5_leastLift 20 = .ok (.iinc 3 1, 3) := by decide +kernel
theorem dX5_leastLift_23 : decode cX5_leastLift 23 = .ok (.goto (-21), 3) := by decide +kernel
theorem dX5_leastLift_26 : decode cX5_leastLift 26 = .ok (.iconst (-1), 1) := by decide +kernel
theorem dX5_leastLift_27 : decode cX5_leastLift 27 = .ok (.ireturn, 1) := by decide +kernel
theorem dX5_shownFigures_0 : decode cX5_shownFigures 0 = .ok (.iconst 0, 1) := by decide +kernel
theorem dX5_shownFigures_1 : decode cX5_shownFigures 1 = .ok (.istore_n 1, 1) := by decide +kernel
theorem dX5_shownFigures_2 : decode cX5_shownFigures 2 = .ok (.iconst 0, 1) := by decide +kernel
theorem dX5_shownFigures_3 : decode cX5_shownFigures 3 = .ok (.istore_n 2, 1) := by decide +kernel
theorem dX5_shownFigures_4 : decode cX5_shownFigures 4 = .ok (.iload_n 2, 1) := by decide +kernel
theorem dX5_shownFigures_5 : decode cX5_shownFigures 5 = .ok (.aload_n 0, 1) := by decide +kernel
theorem dX5_shownFigures_6 : decode cX5_shownFigures 6 = .ok (.getfield 12, 3) := by decide +kernel
theorem dX5_shownFigures_9 : decode cX5_shownFigures 9 = .ok (.invokevirtual 25, 3) := by decide +kernel
theorem dX5_shownFigures_12 : decode cX5_shownFigures 12 = .ok (.if_icmp .ge 29, 3) := by decide +kernel
theorem dX5_shownFigures_15 : decode cX5_shownFigures 15 = .ok (.aload_n 0, 1) := by decide +kernel
theorem dX5_shownFigures_16 : decode cX5_shownFigures 16 = .ok (.getfield 12, 3) := by decide +kernel
theorem dX5_shownFigures_19 : decode cX5_shownFigures 19 = .ok (.iload_n 2, 1) := by decide +kernel
theorem dX5_shownFigures_20 : decode cX5_shownFigures 20 = .ok (.invokevirtual 29, 3) := by decide +kernel
theorem dX5_shownFigures_23 : decode cX5_shownFigures 23 = .ok (.checkcast 33, 3) := by decide +kernel
theorem dX5_shownFigures_26 : decode cX5_shownFigures 26 = .ok (.invokevirtual 35, 3) := by decide +kernel
theorem dX5_shownFigures_29 : decode cX5_shownFigures 29 = .ok (.ifCond .eq 6, 3) := by decide +kernel
theorem dX5_shownFigures_32 : decode cX5_shownFigures 32 = .ok (.iinc 1 1, 3) := by decide +kernel
theorem dX5_shownFigures_35 : decode cX5_shownFigures 35 = .ok (.iinc 2 1, 3) := by decide +kernel
theorem dX5_shownFigures_38 : decode cX5_shownFigures 38 = .ok (.goto (-34), 3) := by decide +kernel
theorem dX5_shownFigures_41 : decode cX5_shownFigures 41 = .ok (.iload_n 1, 1) := by decide +kernel
theorem dX5_shownFigures_42 : decode cX5_shownFigures 42 = .ok (.ireturn, 1) := by decide +kernel
theorem dX5_shownPersons_0 : decode cX5_shownPersons 0 = .ok (.iconst 0, 1) := by decide +kernel
theorem dX5_shownPersons_1 : decode cX5_shownPersons 1 = .ok (.istore_n 1, 1) := by decide +kernel
theorem dX5_shownPersons_2 : decode cX5_shownPersons 2 = .ok (.iconst 0, 1) := by decide +kernel
theorem dX5_shownPersons_3 : decode cX5_shownPersons 3 = .ok (.istore_n 2, 1) := by decide +kernel
theorem dX5_shownPersons_4 : decode cX5_shownPersons 4 = .ok (.iload_n 2, 1) := by decide +kernel
theorem dX5_shownPersons_5 : decode cX5_shownPersons 5 = .ok (.aload_n 0, 1) := by decide +kernel
theorem dX5_shownPersons_6 : decode cX5_shownPersons 6 = .ok (.getfield 12, 3) := by decide +kernel
theorem dX5_shownPersons_9 : decode cX5_shownPersons 9 = .ok (.invokevirtual 25, 3) := by decide +kernel
theorem dX5_shownPersons_12 : decode cX5_shownPersons 12 = .ok (.if_icmp .ge 37, 3) := by decide +kernel
theorem dX5_shownPersons_15 : decode cX5_shownPersons 15 = .ok (.aload_n 0, 1) := by decide +kernel
theorem dX5_shownPersons_16 : decode cX5_shownPersons 16 = .ok (.getfield 12, 3) := by decide +kernel
theorem dX5_shownPersons_19 : decode cX5_shownPersons 19 = .ok (.iload_n 2, 1) := by decide +kernel
theorem dX5_shownPersons_20 : decode cX5_shownPersons 20 = .ok (.invokevirtual 29, 3) := by decide +kernel
theorem dX5_shownPersons_23 : decode cX5_shownPersons 23 = .ok (.checkcast 33, 3) := by decide +kernel
theorem dX5_shownPersons_26 : decode cX5_shownPersons 26 = .ok (.astore_n 3, 1) := by decide +kernel
theorem dX5_shownPersons_27 : decode cX5_shownPersons 27 = .ok (.aload_n 3, 1) := by decide +kernel
theorem dX5_shownPersons_28 : decode cX5_shownPersons 28 = .ok (.invokevirtual 35, 3) := by decide +kernel
theorem dX5_shownPersons_31 : decode cX5_shownPersons 31 = .ok (.ifCond .eq 12, 3) := by decide +kernel
theorem dX5_shownPersons_34 : decode cX5_shownPersons 34 = .ok (.iload_n 1, 1) := by decide +kernel
theorem dX5_shownPersons_35 : decode cX5_shownPersons 35 = .ok (.iconst 1, 1) := by decide +kernel
theorem dX5_shownPersons_36 : decode cX5_shownPersons 36 = .ok (.aload_n 3, 1) := by decide +kernel
theorem dX5_shownPersons_37 : decode cX5_shownPersons 37 = .ok (.getfield 77, 3) := by decide +kernel
theorem dX5_shownPersons_40 : decode cX5_shownPersons 40 = .ok (.ishl, 1) := by decide +kernel
theorem dX5_shownPersons_41 : decode cX5_shownPersons 41 = .ok (.ior, 1) := by decide +kernel
theorem dX5_shownPersons_42 : decode cX5_shownPersons 42 = .ok (.istore_n 1, 1) := by decide +kernel
theorem dX5_shownPersons_43 : decode cX5_shownPersons 43 = .ok (.iinc 2 1, 3) := by decide +kernel
theorem dX5_shownPersons_46 : decode cX5_shownPersons 46 = .ok (.goto (-42), 3) := by decide +kernel
theorem dX5_shownPersons_49 : decode cX5_shownPersons 49 = .ok (.iload_n 1, 1) := by decide +kernel
theorem dX5_shownPersons_50 : decode cX5_shownPersons 50 = .ok (.ireturn, 1) := by decide +kernel
theorem dX5_shadowSum_0 : decode cX5_shadowSum 0 = .ok (.iconst 0, 1) := by decide +kernel
theorem dX5_shadowSum_1 : decode cX5_shadowSum 1 = .ok (.istore_n 1, 1) := by decide +kernel
theorem dX5_shadowSum_2 : decode cX5_shadowSum 2 = .ok (.iconst 0, 1) := by decide +kernel
theorem dX5_shadowSum_3 : decode cX5_shadowSum 3 = .ok (.istore_n 2, 1) := by decide +kernel
theorem dX5_shadowSum_4 : decode cX5_shadowSum 4 = .ok (.iload_n 2, 1) := by decide +kernel
theorem dX5_shadowSum_5 : decode cX5_shadowSum 5 = .ok (.aload_n 0, 1) := by decide +kernel
theorem dX5_shadowSum_6 : decode cX5_shadowSum 6 = .ok (.getfield 12, 3) := by decide +kernel
theorem dX5_shadowSum_9 : decode cX5_shadowSum 9 = .ok (.invokevirtual 25, 3) := by decide +kernel
theorem dX5_shadowSum_12 : decode cX5_shadowSum 12 = .ok (.if_icmp .ge 40, 3) := by decide +kernel
theorem dX5_shadowSum_15 : decode cX5_shadowSum 15 = .ok (.aload_n 0, 1) := by decide +kernel
theorem dX5_shadowSum_16 : decode cX5_shadowSum 16 = .ok (.getfield 12, 3) := by decide +kernel
theorem dX5_shadowSum_19 : decode cX5_shadowSum 19 = .ok (.iload_n 2, 1) := by decide +kernel
theorem dX5_shadowSum_20 : decode cX5_shadowSum 20 = .ok (.invokevirtual 29, 3) := by decide +kernel
theorem dX5_shadowSum_23 : decode cX5_shadowSum 23 = .ok (.checkcast 33, 3) := by decide +kernel
theorem dX5_shadowSum_26 : decode cX5_shadowSum 26 = .ok (.astore_n 3, 1) := by decide +kernel
theorem dX5_shadowSum_27 : decode cX5_shadowSum 27 = .ok (.aload_n 3, 1) := by decide +kernel
theorem dX5_shadowSum_28 : decode cX5_shadowSum 28 = .ok (.invokevirtual 35, 3) := by decide +kernel
theorem dX5_shadowSum_31 : decode cX5_shadowSum 31 = .ok (.ifCond .eq 15, 3) := by decide +kernel
theorem dX5_shadowSum_34 : decode cX5_shadowSum 34 = .ok (.iload_n 1, 1) := by decide +kernel
theorem dX5_shadowSum_35 : decode cX5_shadowSum 35 = .ok (.aload_n 0, 1) := by decide +kernel
theorem dX5_shadowSum_36 : decode cX5_shadowSum 36 = .ok (.aload_n 3, 1) := by decide +kernel
theorem dX5_shadowSum_37 : decode cX5_shadowSum 37 = .ok (.aload_n 3, 1) := by decide +kernel
theorem dX5_shadowSum_38 : decode cX5_shadowSum 38 = .ok (.getfield 80, 3) := by decide +kernel
theorem dX5_shadowSum_41 : decode cX5_shadowSum 41 = .ok (.invokevirtual 73, 3) := by decide +kernel
theorem dX5_shadowSum_44 : decode cX5_shadowSum 44 = .ok (.iadd, 1) := by decide +kernel
theorem dX5_shadowSum_45 : decode cX5_shadowSum 45 = .ok (.istore_n 1, 1) := by decide +kernel
theorem dX5_shadowSum_46 : decode cX5_shadowSum 46 = .ok (.iinc 2 1, 3) := by decide +kernel
theorem dX5_shadowSum_49 : decode cX5_shadowSum 49 = .ok (.goto (-45), 3) := by decide +kernel
theorem dX5_shadowSum_52 : decode cX5_shadowSum 52 = .ok (.iload_n 1, 1) := by decide +kernel
theorem dX5_shadowSum_53 : decode cX5_shadowSum 53 = .ok (.ireturn, 1) := by decide +kernel
theorem dX5_wearShown_0 : decode cX5_wearShown 0 = .ok (.iconst 0, 1) := by decide +kernel
theorem dX5_wearShown_1 : decode cX5_wearShown 1 = .ok (.istore_n 1, 1) := by decide +kernel
theorem dX5_wearShown_2 : decode cX5_wearShown 2 = .ok (.iload_n 1, 1) := by decide +kernel
theorem dX5_wearShown_3 : decode cX5_wearShown 3 = .ok (.aload_n 0, 1) := by decide +kernel
theorem dX5_wearShown_4 : decode cX5_wearShown 4 = .ok (.getfield 12, 3) := by decide +kernel
theorem dX5_wearShown_7 : decode cX5_wearShown 7 = .ok (.invokevirtual 25, 3) := by decide +kernel
theorem dX5_wearShown_10 : decode cX5_wearShown 10 = .ok (.if_icmp .ge 33, 3) := by decide +kernel
theorem dX5_wearShown_13 : decode cX5_wearShown 13 = .ok (.aload_n 0, 1) := by decide +kernel
theorem dX5_wearShown_14 : decode cX5_wearShown 14 = .ok (.getfield 12, 3) := by decide +kernel
theorem dX5_wearShown_17 : decode cX5_wearShown 17 = .ok (.iload_n 1, 1) := by decide +kernel
theorem dX5_wearShown_18 : decode cX5_wearShown 18 = .ok (.invokevirtual 29, 3) := by decide +kernel
theorem dX5_wearShown_21 : decode cX5_wearShown 21 = .ok (.checkcast 33, 3) := by decide +kernel
theorem dX5_wearShown_24 : decode cX5_wearShown 24 = .ok (.astore_n 2, 1) := by decide +kernel
theorem dX5_wearShown_25 : decode cX5_wearShown 25 = .ok (.aload_n 2, 1) := by decide +kernel
theorem dX5_wearShown_26 : decode cX5_wearShown 26 = .ok (.invokevirtual 35, 3) := by decide +kernel
theorem dX5_wearShown_29 : decode cX5_wearShown 29 = .ok (.ifCond .eq 8, 3) := by decide +kernel
theorem dX5_wearShown_32 : decode cX5_wearShown 32 = .ok (.aload_n 2, 1) := by decide +kernel
theorem dX5_wearShown_33 : decode cX5_wearShown 33 = .ok (.iconst 1, 1) := by decide +kernel
theorem dX5_wearShown_34 : decode cX5_wearShown 34 = .ok (.invokevirtual 83, 3) := by decide +kernel
theorem dX5_wearShown_37 : decode cX5_wearShown 37 = .ok (.iinc 1 1, 3) := by decide +kernel
theorem dX5_wearShown_40 : decode cX5_wearShown 40 = .ok (.goto (-38), 3) := by decide +kernel
theorem dX5_wearShown_43 : decode cX5_wearShown 43 = .ok (.return_, 1) := by decide +kernel
theorem dX5_figureValue_0 : decode cX5_figureValue 0 = .ok (.iload_n 2, 1) := by decide +kernel
theorem dX5_figureValue_1 : decode cX5_figureValue 1 = .ok (.tableswitch 83 0 6 #[43, 48, 53, 58, 63, 68, 73], 43) := by decide +kernel
theorem dX5_figureValue_44 : decode cX5_figureValue 44 = .ok (.aload_n 1, 1) := by decide +kernel
theorem dX5_figureValue_45 : decode cX5_figureValue 45 = .ok (.getfield 77, 3) := by decide +kernel
theorem dX5_figureValue_48 : decode cX5_figureValue 48 = .ok (.ireturn, 1) := by decide +kernel
theorem dX5_figureValue_49 : decode cX5_figureValue 49 = .ok (.aload_n 1, 1) := by decide +kernel
theorem dX5_figureValue_50 : decode cX5_figureValue 50 = .ok (.getfield 70, 3) := by decide +kernel
theorem dX5_figureValue_53 : decode cX5_figureValue 53 = .ok (.ireturn, 1) := by decide +kernel
theorem dX5_figureValue_54 : decode cX5_figureValue 54 = .ok (.aload_n 1, 1) := by decide +kernel
theorem dX5_figureValue_55 : decode cX5_figureValue 55 = .ok (.getfield 87, 3) := by decide +kernel
theorem dX5_figureValue_58 : decode cX5_figureValue 58 = .ok (.ireturn, 1) := by decide +kernel
theorem dX5_figureValue_59 : decode cX5_figureValue 59 = .ok (.aload_n 1, 1) := by decide +kernel
theorem dX5_figureValue_60 : decode cX5_figureValue 60 = .ok (.getfield 50, 3) := by decide +kernel
theorem dX5_figureValue_63 : decode cX5_figureValue 63 = .ok (.ireturn, 1) := by decide +kernel
theorem dX5_figureValue_64 : decode cX5_figureValue 64 = .ok (.aload_n 1, 1) := by decide +kernel
theorem dX5_figureValue_65 : decode cX5_figureValue 65 = .ok (.getfield 39, 3) := by decide +kernel
theorem dX5_figureValue_68 : decode cX5_figureValue 68 = .ok (.ireturn, 1) := by decide +kernel
theorem dX5_figureValue_69 : decode cX5_figureValue 69 = .ok (.aload_n 1, 1) := by decide +kernel
theorem dX5_figureValue_70 : decode cX5_figureValue 70 = .ok (.getfield 80, 3) := by decide +kernel
theorem dX5_figureValue_73 : decode cX5_figureValue 73 = .ok (.ireturn, 1) := by decide +kernel
theorem dX5_figureValue_74 : decode cX5_figureValue 74 = .ok (.aload_n 0, 1) := by decide +kernel
theorem dX5_figureValue_75 : decode cX5_figureValue 75 = .ok (.aload_n 1, 1) := by decide +kernel
theorem dX5_figureValue_76 : decode cX5_figureValue 76 = .ok (.aload_n 1, 1) := by decide +kernel
theorem dX5_figureValue_77 : decode cX5_figureValue 77 = .ok (.getfield 80, 3) := by decide +kernel
theorem dX5_figureValue_80 : decode cX5_figureValue 80 = .ok (.invokevirtual 73, 3) := by decide +kernel
theorem dX5_figureValue_83 : decode cX5_figureValue 83 = .ok (.ireturn, 1) := by decide +kernel
theorem dX5_figureValue_84 : decode cX5_figureValue 84 = .ok (.aload_n 1, 1) := by decide +kernel
theorem dX5_figureValue_85 : decode cX5_figureValue 85 = .ok (.getfield 80, 3) := by decide +kernel
theorem dX5_figureValue_88 : decode cX5_figureValue 88 = .ok (.aload_n 0, 1) := by decide +kernel
theorem dX5_figureValue_89 : decode cX5_figureValue 89 = .ok (.getfield 22, 3) := by decide +kernel
theorem dX5_figureValue_92 : decode cX5_figureValue 92 = .ok (.iconst 1, 1) := by decide +kernel
theorem dX5_figureValue_93 : decode cX5_figureValue 93 = .ok (.iadd, 1) := by decide +kernel
theorem dX5_figureValue_94 : decode cX5_figureValue 94 = .ok (.imul, 1) := by decide +kernel
theorem dX5_figureValue_95 : decode cX5_figureValue 95 = .ok (.iconst 4, 1) := by decide +kernel
theorem dX5_figureValue_96 : decode cX5_figureValue 96 = .ok (.idiv, 1) := by decide +kernel
theorem dX5_figureValue_97 : decode cX5_figureValue 97 = .ok (.aload_n 1, 1) := by decide +kernel
theorem dX5_figureValue_98 : decode cX5_figureValue 98 = .ok (.getfield 87, 3) := by decide +kernel
theorem dX5_figureValue_101 : decode cX5_figureValue 101 = .ok (.bipush 10, 2) := by decide +kernel
theorem dX5_figureValue_103 : decode cX5_figureValue 103 = .ok (.idiv, 1) := by decide +kernel
theorem dX5_figureValue_104 : decode cX5_figureValue 104 = .ok (.iadd, 1) := by decide +kernel
theorem dX5_figureValue_105 : decode cX5_figureValue 105 = .ok (.ireturn, 1) := by decide +kernel
theorem dX5_isFree_0 : decode cX5_isFree 0 = .ok (.iconst 0, 1) := by decide +kernel
theorem dX5_isFree_1 : decode cX5_isFree 1 = .ok (.istore_n 2, 1) := by decide +kernel
theorem dX5_isFree_2 : decode cX5_isFree 2 = .ok (.iload_n 2, 1) := by decide +kernel
theorem dX5_isFree_3 : decode cX5_isFree 3 = .ok (.aload_n 0, 1) := by decide +kernel
theorem dX5_isFree_4 : decode cX5_isFree 4 = .ok (.getfield 12, 3) := by decide +kernel
theorem dX5_isFree_7 : decode cX5_isFree 7 = .ok (.invokevirtual 25, 3) := by decide +kernel
theorem dX5_isFree_10 : decode cX5_isFree 10 = .ok (.if_icmp .ge 29, 3) := by decide +kernel
theorem dX5_isFree_13 : decode cX5_isFree 13 = .ok (.aload_n 0, 1) := by decide +kernel
theorem dX5_isFree_14 : decode cX5_isFree 14 = .ok (.getfield 12, 3) := by decide +kernel
theorem dX5_isFree_17 : decode cX5_isFree 17 = .ok (.iload_n 2, 1) := by decide +kernel
theorem dX5_isFree_18 : decode cX5_isFree 18 = .ok (.invokevirtual 29, 3) := by decide +kernel
theorem dX5_isFree_21 : decode cX5_isFree 21 = .ok (.checkcast 33, 3) := by decide +kernel
theorem dX5_isFree_24 : decode cX5_isFree 24 = .ok (.getfield 50, 3) := by decide +kernel
theorem dX5_isFree_27 : decode cX5_isFree 27 = .ok (.iload_n 1, 1) := by decide +kernel
theorem dX5_isFree_28 : decode cX5_isFree 28 = .ok (.if_icmp .ne 5, 3) := by decide +kernel
theorem dX5_isFree_31 : decode cX5_isFree 31 = .ok (.iconst 0, 1) := by decide +kernel
theorem dX5_isFree_32 : decode cX5_isFree 32 = .ok (.ireturn, 1) := by decide +kernel
theorem dX5_isFree_33 : decode cX5_isFree 33 = .ok (.iinc 2 1, 3) := by decide +kernel
theorem dX5_isFree_36 : decode cX5_isFree 36 = .ok (.goto (-34), 3) := by decide +kernel
theorem dX5_isFree_39 : decode cX5_isFree 39 = .ok (.iconst 1, 1) := by decide +kernel
theorem dX5_isFree_40 : decode cX5_isFree 40 = .ok (.ireturn, 1) := by decide +kernel
theorem dX6_init_0 : decode cX6_init 0 = .ok (.aload_n 0, 1) := by decide +kernel
theorem dX6_init_1 : decode cX6_init 1 = .ok (.invokespecial 1, 3) := by decide +kernel
theorem dX6_init_4 : decode cX6_init 4 = .ok (.aload_n 0, 1) := by decide +kernel
theorem dX6_init_5 : decode cX6_init 5 = .ok (.new 7, 3) := by decide +kernel
theorem dX6_init_8 : decode cX6_init 8 = .ok (.dup, 1) := by decide +kernel
theorem dX6_init_9 : decode cX6_init 9 = .ok (.invokespecial 9, 3) := by decide +kernel
theorem dX6_init_12 : decode cX6_init 12 = .ok (.putfield 10, 3) := by decide +kernel
theorem dX6_init_15 : decode cX6_init 15 = .ok (.aload_n 0, 1) := by decide +kernel
theorem dX6_init_16 : decode cX6_init 16 = .ok (.new 16, 3) := by decide +kernel
theorem dX6_init_19 : decode cX6_init 19 = .ok (.dup, 1) := by decide +kernel
theorem dX6_init_20 : decode cX6_init 20 = .ok (.invokespecial 18, 3) := by decide +kernel
theorem dX6_init_23 : decode cX6_init 23 = .ok (.putfield 19, 3) := by decide +kernel
theorem dX6_init_26 : decode cX6_init 26 = .ok (.aload_n 0, 1) := by decide +kernel
theorem dX6_init_27 : decode cX6_init 27 = .ok (.new 23, 3) := by decide +kernel
theorem dX6_init_30 : decode cX6_init 30 = .ok (.dup, 1) := by decide +kernel
theorem dX6_init_31 : decode cX6_init 31 = .ok (.invokespecial 25, 3) := by decide +kernel
theorem dX6_init_34 : decode cX6_init 34 = .ok (.putfield 26, 3) := by decide +kernel
theorem dX6_init_37 : decode cX6_init 37 = .ok (.aload_n 0, 1) := by decide +kernel
theorem dX6_init_38 : decode cX6_init 38 = .ok (.iconst 0, 1) := by decide +kernel
theorem dX6_init_39 : decode cX6_init 39 = .ok (.putfield 30, 3) := by decide +kernel
theorem dX6_init_42 : decode cX6_init 42 = .ok (.aload_n 0, 1) := by decide +kernel
theorem dX6_init_43 : decode cX6_init 43 = .ok (.iconst 0, 1) := by decide +kernel
theorem dX6_init_44 : decode cX6_init 44 = .ok (.putfield 34, 3) := by decide +kernel
theorem dX6_init_47 : decode cX6_init 47 = .ok (.aload_n 0, 1) := by decide +kernel
theorem dX6_init_48 : decode cX6_init 48 = .ok (.iconst 5, 1) := by decide +kernel
theorem dX6_init_49 : decode cX6_init 49 = .ok (.putfield 37, 3) := by decide +kernel
theorem dX6_init_52 : decode cX6_init 52 = .ok (.aload_n 0, 1) := by decide +kernel
theorem dX6_init_53 : decode cX6_init 53 = .ok (.bipush 20, 2) := by decide +kernel
theorem dX6_init_55 : decode cX6_init 55 = .ok (.putfield 40, 3) := by decide +kernel
theorem dX6_init_58 : decode cX6_init 58 = .ok (.aload_n 0, 1) := by decide +kernel
theorem dX6_init_59 : decode cX6_init 59 = .ok (.iconst 0, 1) := by decide +kernel
theorem dX6_init_60 : decode cX6_init 60 = .ok (.putfield 43, 3) := by decide +kernel
theorem dX6_init_63 : decode cX6_init 63 = .ok (.aload_n 0, 1) := by decide +kernel
theorem dX6_init_64 : decode cX6_init 64 = .ok (.iconst 0, 1) := by decide +kernel
theorem dX6_init_65 : decode cX6_init 65 = .ok (.putfield 46, 3) := by decide +kernel
theorem dX6_init_68 : decode cX6_init 68 = .ok (.aload_n 0, 1) := by decide +kernel
theorem dX6_init_69 : decode cX6_init 69 = .ok (.iconst 0, 1) := by decide +kernel
theorem dX6_init_70 : decode cX6_init 70 = .ok (.putfield 49, 3) := by decide +kernel
theorem dX6_init_73 : decode cX6_init 73 = .ok (.return_, 1) := by decide +kernel
theorem dX6_person_0 : decode cX6_person 0 = .ok (.iload_n 1, 1) := by decide +kernel
theorem dX6_person_1 : decode cX6_person 1 = .ok (.iconst 0, 1) := by decide +kernel
theorem dX6_person_2 : decode cX6_person 2 = .ok (.iconst 1, 1) := by decide +kernel
theorem dX6_person_3 : decode cX6_person 3 = .ok (.invokestatic 52, 3) := by decide +kernel
theorem dX6_person_6 : decode cX6_person 6 = .ok (.ifCond .ne 47, 3) := by decide +kernel
theorem dX6_person_9 : decode cX6_person 9 = .ok (.iload_n 2, 1) := by decide +kernel
theorem dX6_person_10 : decode cX6_person 10 = .ok (.iconst 0, 1) := by decide +kernel
theorem dX6_person_11 : decode cX6_person 11 = .ok (.iconst 3, 1) := by decide +kernel
theorem dX6_person_12 : decode cX6_person 12 = .ok (.invokestatic 52, 3) := by decide +kernel
theorem dX6_person_15 : decode cX6_person 15 = .ok (.ifCond .ne 38, 3) := by decide +kernel
theorem dX6_person_18 : decode cX6_person 18 = .ok (.iload_n 3, 1) := by decide +kernel
theorem dX6_person_19 : decode cX6_person 19 = .ok (.iconst 0, 1) := by decide +kernel
theorem dX6_person_20 : decode cX6_person 20 = .ok (.bipush 9, 2) := by decide +kernel
theorem dX6_person_22 : decode cX6_person 22 = .ok (.invokestatic 52, 3) := by decide +kernel
theorem dX6_person_25 : decode cX6_person 25 = .ok (.ifCond .ne 28, 3) := by decide +kernel
theorem dX6_person_28 : decode cX6_person 28 = .ok (.iload 4, 2) := by decide +kernel
theorem dX6_person_30 : decode cX6_person 30 = .ok (.iconst 0, 1) := by decide +kernel
theorem dX6_person_31 : decode cX6_person 31 = .ok (.bipush 99, 2) := by decide +kernel
theorem dX6_person_33 : decode cX6_person 33 = .ok (.invokestatic 52, 3) := by decide +kernel
theorem dX6_person_36 : decode cX6_person 36 = .ok (.ifCond .ne 17, 3) := by decide +kernel
theorem dX6_person_39 : decode cX6_person 39 = .ok (.iload 5, 2) := by decide +kernel
theorem dX6_person_41 : decode cX6_person 41 = .ok (.iload 4, 2) := by decide +kernel
theorem dX6_person_43 : decode cX6_person 43 = .ok (.if_icmp .le 10, 3) := by decide +kernel
theorem dX6_person_46 : decode cX6_person 46 = .ok (.iload 5, 2) := by decide +kernel
theorem dX6_person_48 : decode cX6_person 48 = .ok (.bipush 100, 2) := by decide +kernel
theorem dX6_person_50 : decode cX6_person 50 = .ok (.if_icmp .le 13, 3) := by decide +kernel
theorem dX6_person_53 : decode cX6_person 53 = .ok (.new 56, 3) := by decide +kernel
theorem dX6_person_56 : decode cX6_person 56 = .ok (.dup, 1) := by decide +kernel
theorem dX6_person_57 : decode cX6_person 57 = .ok (.ldc 58, 2) := by decide +kernel
theorem dX6_person_59 : decode cX6_person 59 = .ok (.invokespecial 60, 3) := by decide +kernel
theorem dX6_person_62 : decode cX6_person 62 = .ok (.athrow, 1) := by decide +kernel
theorem dX6_person_63 : decode cX6_person 63 = .ok (.aload_n 0, 1) := by decide +kernel
theorem dX6_person_64 : decode cX6_person 64 = .ok (.getfield 10, 3) := by decide +kernel
theorem dX6_person_67 : decode cX6_person 67 = .ok (.getfield 63, 3) := by decide +kernel
theorem dX6_person_70 : decode cX6_person 70 = .ok (.invokevirtual 67, 3) := by decide +kernel
theorem dX6_person_73 : decode cX6_person 73 = .ok (.bipush 8, 2) := by decide +kernel
theorem dX6_person_75 : decode cX6_person 75 = .ok (.if_icmp .lt 13, 3) := by decide +kernel
theorem dX6_person_78 : decode cX6_person 78 = .ok (.new 73, 3) := by decide +kernel
theorem dX6_person_81 : decode cX6_person 81 = .ok (.dup, 1) := by decide +kernel
theorem dX6_person_82 : decode cX6_person 82 = .ok (.ldc 75, 2) := by decide +kernel
theorem dX6_person_84 : decode cX6_person 84 = .ok (.invokespecial 77, 3) := by decide +kernel
theorem dX6_person_87 : decode cX6_person 87 = .ok (.athrow, 1) := by decide +kernel
theorem dX6_person_88 : decode cX6_person 88 = .ok (.aload_n 0, 1) := by decide +kernel
theorem dX6_person_89 : decode cX6_person 89 = .ok (.getfield 10, 3) := by decide +kernel
theorem dX6_person_92 : decode cX6_person 92 = .ok (.new 78, 3) := by decide +kernel
theorem dX6_person_95 : decode cX6_person 95 = .ok (.dup, 1) := by decide +kernel
theorem dX6_person_96 : decode cX6_person 96 = .ok (.iload_n 1, 1) := by decide +kernel
theorem dX6_person_97 : decode cX6_person 97 = .ok (.iload_n 2, 1) := by decide +kernel
theorem dX6_person_98 : decode cX6_person 98 = .ok (.iload_n 3, 1) := by decide +kernel
theorem dX6_person_99 : decode cX6_person 99 = .ok (.iload 4, 2) := by decide +kernel
theorem dX6_person_101 : decode cX6_person 101 = .ok (.iload 5, 2) := by decide +kernel
theorem dX6_person_103 : decode cX6_person 103 = .ok (.iload 6, 2) := by decide +kernel
theorem dX6_person_105 : decode cX6_person 105 = .ok (.invokespecial 80, 3) := by decide +kernel
theorem dX6_person_108 : decode cX6_person 108 = .ok (.invokevirtual 83, 3) := by decide +kernel
theorem dX6_person_111 : decode cX6_person 111 = .ok (.ireturn, 1) := by decide +kernel
theorem dX6_figure_0 : decode cX6_figure 0 = .ok (.aload_n 0, 1) := by decide +kernel
theorem dX6_figure_1 : decode cX6_figure 1 = .ok (.iload_n 1, 1) := by decide +kernel
theorem dX6_figure_2 : decode cX6_figure 2 = .ok (.invokevirtual 87, 3) := by decide +kernel
theorem dX6_figure_5 : decode cX6_figure 5 = .ok (.ifCond .ne 13, 3) := by decide +kernel
theorem dX6_figure_8 : decode cX6_figure 8 = .ok (.new 91, 3) := by decide +kernel
theorem dX6_figure_11 : decode cX6_figure 11 = .ok (.dup, 1) := by decide +kernel
theorem dX6_figure_12 : decode cX6_figure 12 = .ok (.ldc 93, 2) := by decide +kernel
theorem dX6_figure_14 : decode cX6_figure 14 = .ok (.invokespecial 95, 3) := by decide +kernel
theorem dX6_figure_17 : decode cX6_figure 17 = .ok (.athrow, 1) := by decide +kernel
theorem dX6_figure_18 : decode cX6_figure 18 = .ok (.iload_n 2, 1) := by decide +kernel
theorem dX6_figure_19 : decode cX6_figure 19 = .ok (.bipush 10, 2) := by decide +kernel
theorem dX6_figure_21 : decode cX6_figure 21 = .ok (.bipush 90, 2) := by decide +kernel
theorem dX6_figure_23 : decode cX6_figure 23 = .ok (.invokestatic 52, 3) := by decide +kernel
theorem dX6_figure_26 : decode cX6_figure 26 = .ok (.ifCond .eq 13, 3) := by decide +kernel
theorem dX6_figure_29 : decode cX6_figure 29 = .ok (.new 56, 3) := by decide +kernel
theorem dX6_figure_32 : decode cX6_figure 32 = .ok (.dup, 1) := by decide +kernel
theorem dX6_figure_33 : decode cX6_figure 33 = .ok (.ldc 96, 2) := by decide +kernel
theorem dX6_figure_35 : decode cX6_figure 35 = .ok (.invokespecial 60, 3) := by decide +kernel
theorem dX6_figure_38 : decode cX6_figure 38 = .ok (.athrow, 1) := by decide +kernel
theorem dX6_figure_39 : decode cX6_figure 39 = .ok (.aload_n 0, 1) := by decide +kernel
theorem dX6_figure_40 : decode cX6_figure 40 = .ok (.getfield 19, 3) := by decide +kernel
theorem dX6_figure_43 : decode cX6_figure 43 = .ok (.getfield 98, 3) := by decide +kernel
theorem dX6_figure_46 : decode cX6_figure 46 = .ok (.invokevirtual 67, 3) := by decide +kernel
theorem dX6_figure_49 : decode cX6_figure 49 = .ok (.bipush 12, 2) := by decide +kernel
theorem dX6_figure_51 : decode cX6_figure 51 = .ok (.if_icmp .lt 13, 3) := by decide +kernel
theorem dX6_figure_54 : decode cX6_figure 54 = .ok (.new 73, 3) := by decide +kernel
theorem dX6_figure_57 : decode cX6_figure 57 = .ok (.dup, 1) := by decide +kernel
theorem dX6_figure_58 : decode cX6_figure 58 = .ok (.ldc 101, 2) := by decide +kernel
theorem dX6_figure_60 : decode cX6_figure 60 = .ok (.invokespecial 77, 3) := by decide +kernel
theorem dX6_figure_63 : decode cX6_figure 63 = .ok (.athrow, 1) := by decide +kernel
theorem dX6_figure_64 : decode cX6_figure 64 = .ok (.aload_n 0, 1) := by decide +kernel
theorem dX6_figure_65 : decode cX6_figure 65 = .ok (.getfield 19, 3) := by decide +kernel
theorem dX6_figure_68 : decode cX6_figure 68 = .ok (.getfield 98, 3) := by decide +kernel
theorem dX6_figure_71 : decode cX6_figure 71 = .ok (.new 103, 3) := by decide +kernel
theorem dX6_figure_74 : decode cX6_figure 74 = .ok (.dup, 1) := by decide +kernel
theorem dX6_figure_75 : decode cX6_figure 75 = .ok (.iload_n 1, 1) := by decide +kernel
theorem dX6_figure_76 : decode cX6_figure 76 = .ok (.aload_n 0, 1) := by decide +kernel
theorem dX6_figure_77 : decode cX6_figure 77 = .ok (.getfield 10, 3) := by decide +kernel
theorem dX6_figure_80 : decode cX6_figure 80 = .ok (.getfield 63, 3) := by decide +kernel
theorem dX6_figure_83 : decode cX6_figure 83 = .ok (.iload_n 1, 1) := by decide +kernel
theorem dX6_figure_84 : decode cX6_figure 84 = .ok (.invokevirtual 105, 3) := by decide +kernel
theorem dX6_figure_87 : decode cX6_figure 87 = .ok (.checkcast 78, 3) := by decide +kernel
theorem dX6_figure_90 : decode cX6_figure 90 = .ok (.getfield 109, 3) := by decide +kernel
theorem dX6_figure_93 : decode cX6_figure 93 = .ok (.iload_n 2, 1) := by decide +kernel
theorem dX6_figure_94 : decode cX6_figure 94 = .ok (.invokespecial 112, 3) := by decide +kernel
theorem dX6_figure_97 : decode cX6_figure 97 = .ok (.invokevirtual 115, 3) := by decide +kernel
theorem dX6_figure_100 : decode cX6_figure 100 = .ok (.pop, 1) := by decide +kernel
theorem dX6_figure_101 : decode cX6_figure 101 = .ok (.aload_n 0, 1) := by decide +kernel
theorem dX6_figure_102 : decode cX6_figure 102 = .ok (.getfield 19, 3) := by decide +kernel
theorem dX6_figure_105 : decode cX6_figure 105 = .ok (.getfield 98, 3) := by decide +kernel
theorem dX6_figure_108 : decode cX6_figure 108 = .ok (.invokevirtual 67, 3) := by decide +kernel
theorem dX6_figure_111 : decode cX6_figure 111 = .ok (.iconst 1, 1) := by decide +kernel
theorem dX6_figure_112 : decode cX6_figure 112 = .ok (.isub, 1) := by decide +kernel
theorem dX6_figure_113 : decode cX6_figure 113 = .ok (.ireturn, 1) := by decide +kernel
theorem dX6_scene_0 : decode cX6_scene 0 = .ok (.iload_n 1, 1) := by decide +kernel
theorem dX6_scene_1 : decode cX6_scene 1 = .ok (.iconst 0, 1) := by decide +kernel
theorem dX6_scene_2 : decode cX6_scene 2 = .ok (.bipush 100, 2) := by decide +kernel
theorem dX6_scene_4 : decode cX6_scene 4 = .ok (.invokestatic 52, 3) := by decide +kernel
theorem dX6_scene_7 : decode cX6_scene 7 = .ok (.ifCond .ne 49, 3) := by decide +kernel
theorem dX6_scene_10 : decode cX6_scene 10 = .ok (.iload_n 2, 1) := by decide +kernel
theorem dX6_scene_11 : decode cX6_scene 11 = .ok (.iconst 0, 1) := by decide +kernel
theorem dX6_scene_12 : decode cX6_scene 12 = .ok (.iconst 3, 1) := by decide +kernel
theorem dX6_scene_13 : decode cX6_scene 13 = .ok (.invokestatic 52, 3) := by decide +kernel
theorem dX6_scene_16 : decode cX6_scene 16 = .ok (.ifCond .ne 40, 3) := by decide +kernel
theorem dX6_scene_19 : decode cX6_scene 19 = .ok (.aload_n 0, 1) := by decide +kernel
theorem dX6_scene_20 : decode cX6_scene 20 = .ok (.getfield 10, 3) := by decide +kernel
theorem dX6_scene_23 : decode cX6_scene 23 = .ok (.iload_n 3, 1) := by decide +kernel
theorem dX6_scene_24 : decode cX6_scene 24 = .ok (.invokevirtual 119, 3) := by decide +kernel
theorem dX6_scene_27 : decode cX6_scene 27 = .ok (.ifCond .eq 29, 3) := by decide +kernel
theorem dX6_scene_30 : decode cX6_scene 30 = .ok (.iload 4, 2) := by decide +kernel
theorem dX6_scene_32 : decode cX6_scene 32 = .ok (.invokestatic 122, 3) := by decide +kernel
theorem dX6_scene_35 : decode cX6_scene 35 = .ok (.ifCond .eq 21, 3) := by decide +kernel
theorem dX6_scene_38 : decode cX6_scene 38 = .ok (.iload_n 3, 1) := by decide +kernel
theorem dX6_scene_39 : decode cX6_scene 39 = .ok (.iload 5, 2) := by decide +kernel
theorem dX6_scene_41 : decode cX6_scene 41 = .ok (.invokestatic 125, 3) := by decide +kernel
theorem dX6_scene_44 : decode cX6_scene 44 = .ok (.ifCond .eq 12, 3) := by decide +kernel
theorem dX6_scene_47 : decode cX6_scene 47 = .ok (.iload_n 3, 1) := by decide +kernel
theorem dX6_scene_48 : decode cX6_scene 48 = .ok (.iload 6, 2) := by decide +kernel
theorem dX6_scene_50 : decode cX6_scene 50 = .ok (.invokestatic 125, 3) := by decide +kernel
theorem dX6_scene_53 : decode cX6_scene 53 = .ok (.ifCond .ne 13, 3) := by decide +kernel
theorem dX6_scene_56 : decode cX6_scene 56 = .ok (.new 56, 3) := by decide +kernel
theorem dX6_scene_59 : decode cX6_scene 59 = .ok (.dup, 1) := by decide +kernel
theorem dX6_scene_60 : decode cX6_scene 60 = .ok (.ldc 129, 2) := by decide +kernel
theorem dX6_scene_62 : decode cX6_scene 62 = .ok (.invokespecial 60, 3) := by decide +kernel
theorem dX6_scene_65 : decode cX6_scene 65 = .ok (.athrow, 1) := by decide +kernel
theorem dX6_scene_66 : decode cX6_scene 66 = .ok (.aload_n 0, 1) := by decide +kernel
theorem dX6_scene_67 : decode cX6_scene 67 = .ok (.getfield 10, 3) := by decide +kernel
theorem dX6_scene_70 : decode cX6_scene 70 = .ok (.getfield 131, 3) := by decide +kernel
theorem dX6_scene_73 : decode cX6_scene 73 = .ok (.invokevirtual 67, 3) := by decide +kernel
theorem dX6_scene_76 : decode cX6_scene 76 = .ok (.bipush 10, 2) := by decide +kernel
theorem dX6_scene_78 : decode cX6_scene 78 = .ok (.if_icmp .lt 13, 3) := by decide +kernel
theorem dX6_scene_81 : decode cX6_scene 81 = .ok (.new 73, 3) := by decide +kernel
theorem dX6_scene_84 : decode cX6_scene 84 = .ok (.dup, 1) := by decide +kernel
theorem dX6_scene_85 : decode cX6_scene 85 = .ok (.ldc 134, 2) := by decide +kernel
theorem dX6_scene_87 : decode cX6_scene 87 = .ok (.invokespecial 77, 3) := by decide +kernel
theorem dX6_scene_90 : decode cX6_scene 90 = .ok (.athrow, 1) := by decide +kernel
theorem dX6_scene_91 : decode cX6_scene 91 = .ok (.aload_n 0, 1) := by decide +kernel
theorem dX6_scene_92 : decode cX6_scene 92 = .ok (.getfield 10, 3) := by decide +kernel
theorem dX6_scene_95 : decode cX6_scene 95 = .ok (.iload_n 1, 1) := by decide +kernel
theorem dX6_scene_96 : decode cX6_scene 96 = .ok (.iload_n 2, 1) := by decide +kernel
theorem dX6_scene_97 : decode cX6_scene 97 = .ok (.iload_n 3, 1) := by decide +kernel
theorem dX6_scene_98 : decode cX6_scene 98 = .ok (.iload 4, 2) := by decide +kernel
theorem dX6_scene_100 : decode cX6_scene 100 = .ok (.iload 5, 2) := by decide +kernel
theorem dX6_scene_102 : decode cX6_scene 102 = .ok (.iload 6, 2) := by decide +kernel
theorem dX6_scene_104 : decode cX6_scene 104 = .ok (.invokevirtual 136, 3) := by decide +kernel
theorem dX6_scene_107 : decode cX6_scene 107 = .ok (.ireturn, 1) := by decide +kernel
theorem dX6_lamp_0 : decode cX6_lamp 0 = .ok (.iload_n 1, 1) := by decide +kernel
theorem dX6_lamp_1 : decode cX6_lamp 1 = .ok (.bipush 20, 2) := by decide +kernel
theorem dX6_lamp_3 : decode cX6_lamp 3 = .ok (.bipush 80, 2) := by decide +kernel
theorem dX6_lamp_5 : decode cX6_lamp 5 = .ok (.invokestatic 52, 3) := by decide +kernel
theorem dX6_lamp_8 : decode cX6_lamp 8 = .ok (.ifCond .ne 13, 3) := by decide +kernel
theorem dX6_lamp_11 : decode cX6_lamp 11 = .ok (.iload_n 2, 1) := by decide +kernel
theorem dX6_lamp_12 : decode cX6_lamp 12 = .ok (.iconst 0, 1) := by decide +kernel
theorem dX6_lamp_13 : decode cX6_lamp 13 = .ok (.bipush 9, 2) := by decide +kernel
theorem dX6_lamp_15 : decode cX6_lamp 15 = .ok (.invokestatic 52, 3) := by decide +kernel
theorem dX6_lamp_18 : decode cX6_lamp 18 = .ok (.ifCond .eq 13, 3) := by decide +kernel
theorem dX6_lamp_21 : decode cX6_lamp 21 = .ok (.new 56, 3) := by decide +kernel
theorem dX6_lamp_24 : decode cX6_lamp 24 = .ok (.dup, 1) := by decide +kernel
theorem dX6_lamp_25 : decode cX6_lamp 25 = .ok (.ldc 167, 2) := by decide +kernel
theorem dX6_lamp_27 : decode cX6_lamp 27 = .ok (.invokespecial 60, 3) := by decide +kernel
theorem dX6_lamp_30 : decode cX6_lamp 30 = .ok (.athrow, 1) := by decide +kernel
theorem dX6_lamp_31 : decode cX6_lamp 31 = .ok (.aload_n 0, 1) := by decide +kernel
theorem dX6_lamp_32 : decode cX6_lamp 32 = .ok (.getfield 19, 3) := by decide +kernel
theorem dX6_lamp_35 : decode cX6_lamp 35 = .ok (.getfield 169, 3) := by decide +kernel
theorem dX6_lamp_38 : decode cX6_lamp 38 = .ok (.istore_n 3, 1) := by decide +kernel
theorem dX6_lamp_39 : decode cX6_lamp 39 = .ok (.aload_n 0, 1) := by decide +kernel
theorem dX6_lamp_40 : decode cX6_lamp 40 = .ok (.getfield 19, 3) := by decide +kernel
theorem dX6_lamp_43 : decode cX6_lamp 43 = .ok (.iload_n 1, 1) := by decide +kernel
theorem dX6_lamp_44 : decode cX6_lamp 44 = .ok (.putfield 169, 3) := by decide +kernel
theorem dX6_lamp_47 : decode cX6_lamp 47 = .ok (.aload_n 0, 1) := by decide +kernel
theorem dX6_lamp_48 : decode cX6_lamp 48 = .ok (.getfield 19, 3) := by decide +kernel
theorem dX6_lamp_51 : decode cX6_lamp 51 = .ok (.iload_n 2, 1) := by decide +kernel
theorem dX6_lamp_52 : decode cX6_lamp 52 = .ok (.putfield 172, 3) := by decide +kernel
theorem dX6_lamp_55 : decode cX6_lamp 55 = .ok (.iload_n 3, 1) := by decide +kernel
theorem dX6_lamp_56 : decode cX6_lamp 56 = .ok (.ireturn, 1) := by decide +kernel
theorem dX6_grip_0 : decode cX6_grip 0 = .ok (.aload_n 0, 1) := by decide +kernel
theorem dX6_grip_1 : decode cX6_grip 1 = .ok (.iload_n 1, 1) := by decide +kernel
theorem dX6_grip_2 : decode cX6_grip 2 = .ok (.invokevirtual 175, 3) := by decide +kernel
theorem dX6_grip_5 : decode cX6_grip 5 = .ok (.ifCond .ne 13, 3) := by decide +kernel
theorem dX6_grip_8 : decode cX6_grip 8 = .ok (.new 91, 3) := by decide +kernel
theorem dX6_grip_11 : decode cX6_grip 11 = .ok (.dup, 1) := by decide +kernel
theorem dX6_grip_12 : decode cX6_grip 12 = .ok (.ldc 178, 2) := by decide +kernel
theorem dX6_grip_14 : decode cX6_grip 14 = .ok (.invokespecial 95, 3) := by decide +kernel
theorem dX6_grip_17 : decode cX6_grip 17 = .ok (.athrow, 1) := by decide +kernel
theorem dX6_grip_18 : decode cX6_grip 18 = .ok (.aload_n 0, 1) := by decide +kernel
theorem dX6_grip_19 : decode cX6_grip 19 = .ok (.getfield 19, 3) := by decide +kernel
theorem dX6_grip_22 : decode cX6_grip 22 = .ok (.getfield 98, 3) := by decide +kernel
theorem dX6_grip_25 : decode cX6_grip 25 = .ok (.iload_n 1, 1) := by decide +kernel
theorem dX6_grip_26 : decode cX6_grip 26 = .ok (.invokevirtual 105, 3) := by decide +kernel
theorem dX6_grip_29 : decode cX6_grip 29 = .ok (.checkcast 103, 3) := by decide +kernel
theorem dX6_grip_32 : decode cX6_grip 32 = .ok (.astore_n 2, 1) := by decide +kernel
theorem dX6_grip_33 : decode cX6_grip 33 = .ok (.aload_n 0, 1) := by decide +kernel
theorem dX6_grip_34 : decode cX6_grip 34 = .ok (.getfield 19, 3) := by decide +kernel
theorem dX6_grip_37 : decode cX6_grip 37 = .ok (.aload_n 2, 1) := by decide +kernel
theorem dX6_grip_38 : decode cX6_grip 38 = .ok (.invokevirtual 180, 3) := by decide +kernel
theorem dX6_grip_41 : decode cX6_grip 41 = .ok (.istore_n 3, 1) := by decide +kernel
theorem dX6_grip_42 : decode cX6_grip 42 = .ok (.iload_n 3, 1) := by decide +kernel
theorem dX6_grip_43 : decode cX6_grip 43 = .ok (.iconst (-1), 1) := by decide +kernel
theorem dX6_grip_44 : decode cX6_grip 44 = .ok (.if_icmp .ne 13, 3) := by decide +kernel
theorem dX6_grip_47 : decode cX6_grip 47 = .ok (.new 73, 3) := by decide +kernel
theorem dX6_grip_50 : decode cX6_grip 50 = .ok (.dup, 1) := by decide +kernel
theorem dX6_grip_51 : decode cX6_grip 51 = .ok (.ldc 184, 2) := by decide +kernel
theorem dX6_grip_53 : decode cX6_grip 53 = .ok (.invokespecial 77, 3) := by decide +kernel
theorem dX6_grip_56 : decode cX6_grip 56 = .ok (.athrow, 1) := by decide +kernel
theorem dX6_grip_57 : decode cX6_grip 57 = .ok (.aload_n 2, 1) := by decide +kernel
theorem dX6_grip_58 : decode cX6_grip 58 = .ok (.getfield 186, 3) := by decide +kernel
theorem dX6_grip_61 : decode cX6_grip 61 = .ok (.ifCond .ne 14, 3) := by decide +kernel
theorem dX6_grip_64 : decode cX6_grip 64 = .ok (.aload_n 2, 1) := by decide +kernel
theorem dX6_grip_65 : decode cX6_grip 65 = .ok (.aload_n 2, 1) := by decide +kernel
theorem dX6_grip_66 : decode cX6_grip 66 = .ok (.getfield 189, 3) := by decide +kernel
theorem dX6_grip_69 : decode cX6_grip 69 = .ok (.invokestatic 190, 3) := by decide +kernel
theorem dX6_grip_72 : decode cX6_grip 72 = .ok (.putfield 194, 3) := by decide +kernel
theorem dX6_grip_75 : decode cX6_grip 75 = .ok (.aload_n 2, 1) := by decide +kernel
theorem dX6_grip_76 : decode cX6_grip 76 = .ok (.iload_n 3, 1) := by decide +kernel
theorem dX6_grip_77 : decode cX6_grip 77 = .ok (.putfield 186, 3) := by decide +kernel
theorem dX6_grip_80 : decode cX6_grip 80 = .ok (.iload_n 3, 1) := by decide +kernel
theorem dX6_grip_81 : decode cX6_grip 81 = .ok (.ireturn, 1) := by decide +kernel
theorem dX6_move_0 : decode cX6_move 0 = .ok (.aload_n 0, 1) := by decide +kernel
theorem dX6_move_1 : decode cX6_move 1 = .ok (.iload_n 1, 1) := by decide +kernel
theorem dX6_move_2 : decode cX6_move 2 = .ok (.invokevirtual 175, 3) := by decide +kernel
theorem dX6_move_5 : decode cX6_move 5 = .ok (.ifCond .ne 13, 3) := by decide +kernel
theorem dX6_move_8 : decode cX6_move 8 = .ok (.new 91, 3) := by decide +kernel
theorem dX6_move_11 : decode cX6_move 11 = .ok (.dup, 1) := by decide +kernel
theorem dX6_move_12 : decode cX6_move 12 = .ok (.ldc 178, 2) := by decide +kernel
theorem dX6_move_14 : decode cX6_move 14 = .ok (.invokespecial 95, 3) := by decide +kernel
theorem dX6_move_17 : decode cX6_move 17 = .ok (.athrow, 1) := by decide +kernel
theorem dX6_move_18 : decode cX6_move 18 = .ok (.iload_n 2, 1) := by decide +kernel
theorem dX6_move_19 : decode cX6_move 19 = .ok (.invokestatic 197, 3) := by decide +kernel
theorem dX6_move_22 : decode cX6_move 22 = .ok (.ifCond .ne 13, 3) := by decide +kernel
theorem dX6_move_25 : decode cX6_move 25 = .ok (.new 56, 3) := by decide +kernel
theorem dX6_move_28 : decode cX6_move 28 = .ok (.dup, 1) := by decide +kernel
theorem dX6_move_29 : decode cX6_move 29 = .ok (.ldc 200, 2) := by decide +kernel
theorem dX6_move_31 : decode cX6_move 31 = .ok (.invokespecial 60, 3) := by decide +kernel
theorem dX6_move_34 : decode cX6_move 34 = .ok (.athrow, 1) := by decide +kernel
theorem dX6_move_35 : decode cX6_move 35 = .ok (.aload_n 0, 1) := by decide +kernel
theorem dX6_move_36 : decode cX6_move 36 = .ok (.getfield 19, 3) := by decide +kernel
theorem dX6_move_39 : decode cX6_move 39 = .ok (.getfield 98, 3) := by decide +kernel
theorem dX6_move_42 : decode cX6_move 42 = .ok (.iload_n 1, 1) := by decide +kernel
theorem dX6_move_43 : decode cX6_move 43 = .ok (.invokevirtual 105, 3) := by decide +kernel
theorem dX6_move_46 : decode cX6_move 46 = .ok (.checkcast 103, 3) := by decide +kernel
theorem dX6_move_49 : decode cX6_move 49 = .ok (.astore_n 3, 1) := by decide +kernel
theorem dX6_move_50 : decode cX6_move 50 = .ok (.aload_n 3, 1) := by decide +kernel
theorem dX6_move_51 : decode cX6_move 51 = .ok (.invokevirtual 202, 3) := by decide +kernel
theorem dX6_move_54 : decode cX6_move 54 = .ok (.ifCond .eq 26, 3) := by decide +kernel
theorem dX6_move_57 : decode cX6_move 57 = .ok (.aload_n 3, 1) := by decide +kernel
theorem dX6_move_58 : decode cX6_move 58 = .ok (.getfield 186, 3) := by decide +kernel
theorem dX6_move_61 : decode cX6_move 61 = .ok (.iload_n 2, 1) := by decide +kernel
theorem dX6_move_62 : decode cX6_move 62 = .ok (.invokestatic 206, 3) := by decide +kernel
theorem dX6_move_65 : decode cX6_move 65 = .ok (.ifCond .eq 15, 3) := by decide +kernel
theorem dX6_move_68 : decode cX6_move 68 = .ok (.aload_n 0, 1) := by decide +kernel
theorem dX6_move_69 : decode cX6_move 69 = .ok (.getfield 19, 3) := by decide +kernel
theorem dX6_move_72 : decode cX6_move 72 = .ok (.iload_n 2, 1) := by decide +kernel
theorem dX6_move_73 : decode cX6_move 73 = .ok (.invokevirtual 209, 3) := by decide +kernel
theorem dX6_move_76 : decode cX6_move 76 = .ok (.iconst (-1), 1) := by decide +kernel
theorem dX6_move_77 : decode cX6_move 77 = .ok (.if_icmp .eq 13, 3) := by decide +kernel
theorem dX6_move_80 : decode cX6_move 80 = .ok (.new 73, 3) := by decide +kernel
theorem dX6_move_83 : decode cX6_move 83 = .ok (.dup, 1) := by decide +kernel
theorem dX6_move_84 : decode cX6_move 84 = .ok (.ldc 212, 2) := by decide +kernel
theorem dX6_move_86 : decode cX6_move 86 = .ok (.invokespecial 77, 3) := by decide +kernel
theorem dX6_move_89 : decode cX6_move 89 = .ok (.athrow, 1) := by decide +kernel
theorem dX6_move_90 : decode cX6_move 90 = .ok (.aload_n 3, 1) := by decide +kernel
theorem dX6_move_91 : decode cX6_move 91 = .ok (.iload_n 2, 1) := by decide +kernel
theorem dX6_move_92 : decode cX6_move 92 = .ok (.aload_n 3, 1) := by decide +kernel
theorem dX6_move_93 : decode cX6_move 93 = .ok (.getfield 194, 3) := by decide +kernel
theorem dX6_move_96 : decode cX6_move 96 = .ok (.isub, 1) := by decide +kernel
theorem dX6_move_97 : decode cX6_move 97 = .ok (.invokestatic 214, 3) := by decide +kernel
theorem dX6_move_100 : decode cX6_move 100 = .ok (.invokevirtual 219, 3) := by decide +kernel
theorem dX6_move_103 : decode cX6_move 103 = .ok (.aload_n 3, 1) := by decide +kernel
theorem dX6_move_104 : decode cX6_move 104 = .ok (.iload_n 2, 1) := by decide +kernel
theorem dX6_move_105 : decode cX6_move 105 = .ok (.putfield 194, 3) := by decide +kernel
theorem dX6_move_108 : decode cX6_move 108 = .ok (.aload_n 3, 1) := by decide +kernel
theorem dX6_move_109 : decode cX6_move 109 = .ok (.getfield 223, 3) := by decide +kernel
theorem dX6_move_112 : decode cX6_move 112 = .ok (.ireturn, 1) := by decide +kernel
theorem dX6_lift_0 : decode cX6_lift 0 = .ok (.aload_n 0, 1) := by decide +kernel
theorem dX6_lift_1 : decode cX6_lift 1 = .ok (.iload_n 1, 1) := by decide +kernel
theorem dX6_lift_2 : decode cX6_lift 2 = .ok (.invokevirtual 175, 3) := by decide +kernel
theorem dX6_lift_5 : decode cX6_lift 5 = .ok (.ifCond .ne 13, 3) := by decide +kernel
theorem dX6_lift_8 : decode cX6_lift 8 = .ok (.new 91, 3) := by decide +kernel
theorem dX6_lift_11 : decode cX6_lift 11 = .ok (.dup, 1) := by decide +kernel
theorem dX6_lift_12 : decode cX6_lift 12 = .ok (.ldc 178, 2) := by decide +kernel
theorem dX6_lift_14 : decode cX6_lift 14 = .ok (.invokespecial 95, 3) := by decide +kernel
theorem dX6_lift_17 : decode cX6_lift 17 = .ok (.athrow, 1) := by decide +kernel
theorem dX6_lift_18 : decode cX6_lift 18 = .ok (.iload_n 2, 1) := by decide +kernel
theorem dX6_lift_19 : decode cX6_lift 19 = .ok (.iconst 0, 1) := by decide +kernel
theorem dX6_lift_20 : decode cX6_lift 20 = .ok (.bipush 15, 2) := by decide +kernel
theorem dX6_lift_22 : decode cX6_lift 22 = .ok (.invokestatic 52, 3) := by decide +kernel
theorem dX6_lift_25 : decode cX6_lift 25 = .ok (.ifCond .eq 13, 3) := by decide +kernel
theorem dX6_lift_28 : decode cX6_lift 28 = .ok (.new 56, 3) := by decide +kernel
theorem dX6_lift_31 : decode cX6_lift 31 = .ok (.dup, 1) := by decide +kernel
theorem dX6_lift_32 : decode cX6_lift 32 = .ok (.ldc 226, 2) := by decide +kernel
theorem dX6_lift_34 : decode cX6_lift 34 = .ok (.invokespecial 60, 3) := by decide +kernel
theorem dX6_lift_37 : decode cX6_lift 37 = .ok (.athrow, 1) := by decide +kernel
theorem dX6_lift_38 : decode cX6_lift 38 = .ok (.aload_n 0, 1) := by decide +kernel
theorem dX6_lift_39 : decode cX6_lift 39 = .ok (.getfield 19, 3) := by decide +kernel
theorem dX6_lift_42 : decode cX6_lift 42 = .ok (.getfield 98, 3) := by decide +kernel
theorem dX6_lift_45 : decode cX6_lift 45 = .ok (.iload_n 1, 1) := by decide +kernel
theorem dX6_lift_46 : decode cX6_lift 46 = .ok (.invokevirtual 105, 3) := by decide +kernel
theorem dX6_lift_49 : decode cX6_lift 49 = .ok (.checkcast 103, 3) := by decide +kernel
theorem dX6_lift_52 : decode cX6_lift 52 = .ok (.astore_n 3, 1) := by decide +kernel
theorem dX6_lift_53 : decode cX6_lift 53 = .ok (.aload_n 3, 1) := by decide +kernel
theorem dX6_lift_54 : decode cX6_lift 54 = .ok (.invokevirtual 202, 3) := by decide +kernel
theorem dX6_lift_57 : decode cX6_lift 57 = .ok (.ifCond .ne 13, 3) := by decide +kernel
theorem dX6_lift_60 : decode cX6_lift 60 = .ok (.new 73, 3) := by decide +kernel
theorem dX6_lift_63 : decode cX6_lift 63 = .ok (.dup, 1) := by decide +kernel
theorem dX6_lift_64 : decode cX6_lift 64 = .ok (.ldc 228, 2) := by decide +kernel
theorem dX6_lift_66 : decode cX6_lift 66 = .ok (.invokespecial 77, 3) := by decide +kernel
theorem dX6_lift_69 : decode cX6_lift 69 = .ok (.athrow, 1) := by decide +kernel
theorem dX6_lift_70 : decode cX6_lift 70 = .ok (.aload_n 3, 1) := by decide +kernel
theorem dX6_lift_71 : decode cX6_lift 71 = .ok (.iload_n 2, 1) := by decide +kernel
theorem dX6_lift_72 : decode cX6_lift 72 = .ok (.putfield 230, 3) := by decide +kernel
theorem dX6_lift_75 : decode cX6_lift 75 = .ok (.aload_n 0, 1) := by decide +kernel
theorem dX6_lift_76 : decode cX6_lift 76 = .ok (.getfield 19, 3) := by decide +kernel
theorem dX6_lift_79 : decode cX6_lift 79 = .ok (.aload_n 3, 1) := by decide +kernel
theorem dX6_lift_80 : decode cX6_lift 80 = .ok (.iload_n 2, 1) := by decide +kernel
theorem dX6_lift_81 : decode cX6_lift 81 = .ok (.invokevirtual 233, 3) := by decide +kernel
theorem dX6_lift_84 : decode cX6_lift 84 = .ok (.ireturn, 1) := by decide +kernel
theorem dX6_plant_0 : decode cX6_plant 0 = .ok (.aload_n 0, 1) := by decide +kernel
theorem dX6_plant_1 : decode cX6_plant 1 = .ok (.iload_n 1, 1) := by decide +kernel
theorem dX6_plant_2 : decode cX6_plant 2 = .ok (.invokevirtual 175, 3) := by decide +kernel
theorem dX6_plant_5 : decode cX6_plant 5 = .ok (.ifCond .ne 13, 3) := by decide +kernel
theorem dX6_plant_8 : decode cX6_plant 8 = .ok (.new 91, 3) := by decide +kernel
theorem dX6_plant_11 : decode cX6_plant 11 = .ok (.dup, 1) := by decide +kernel
theorem dX6_plant_12 : decode cX6_plant 12 = .ok (.ldc 178, 2) := by decide +kernel
theorem dX6_plant_14 : decode cX6_plant 14 = .ok (.invokespecial 95, 3) := by decide +kernel
theorem dX6_plant_17 : decode cX6_plant 17 = .ok (.athrow, 1) := by decide +kernel
theorem dX6_plant_18 : decode cX6_plant 18 = .ok (.aload_n 0, 1) := by decide +kernel
theorem dX6_plant_19 : decode cX6_plant 19 = .ok (.getfield 19, 3) := by decide +kernel
theorem dX6_plant_22 : decode cX6_plant 22 = .ok (.getfield 98, 3) := by decide +kernel
theorem dX6_plant_25 : decode cX6_plant 25 = .ok (.iload_n 1, 1) := by decide +kernel
theorem dX6_plant_26 : decode cX6_plant 26 = .ok (.invokevirtual 105, 3) := by decide +kernel
theorem dX6_plant_29 : decode cX6_plant 29 = .ok (.checkcast 103, 3) := by decide +kernel
theorem dX6_plant_32 : decode cX6_plant 32 = .ok (.astore_n 2, 1) := by decide +kernel
theorem dX6_plant_33 : decode cX6_plant 33 = .ok (.aload_n 2, 1) := by decide +kernel
theorem dX6_plant_34 : decode cX6_plant 34 = .ok (.invokevirtual 202, 3) := by decide +kernel
theorem dX6_plant_37 : decode cX6_plant 37 = .ok (.ifCond .ne 13, 3) := by decide +kernel
theorem dX6_plant_40 : decode cX6_plant 40 = .ok (.new 73, 3) := by decide +kernel
theorem dX6_plant_43 : decode cX6_plant 43 = .ok (.dup, 1) := by decide +kernel
theorem dX6_plant_44 : decode cX6_plant 44 = .ok (.ldc 228, 2) := by decide +kernel
theorem dX6_plant_46 : decode cX6_plant 46 = .ok (.invokespecial 77, 3) := by decide +kernel
theorem dX6_plant_49 : decode cX6_plant 49 = .ok (.athrow, 1) := by decide +kernel
theorem dX6_plant_50 : decode cX6_plant 50 = .ok (.aload_n 2, 1) := by decide +kernel
theorem dX6_plant_51 : decode cX6_plant 51 = .ok (.iconst 1, 1) := by decide +kernel
theorem dX6_plant_52 : decode cX6_plant 52 = .ok (.putfield 186, 3) := by decide +kernel
theorem dX6_plant_55 : decode cX6_plant 55 = .ok (.aload_n 2, 1) := by decide +kernel
theorem dX6_plant_56 : decode cX6_plant 56 = .ok (.iconst 0, 1) := by decide +kernel
theorem dX6_plant_57 : decode cX6_plant 57 = .ok (.putfield 230, 3) := by decide +kernel
theorem dX6_plant_60 : decode cX6_plant 60 = .ok (.aload_n 2, 1) := by decide +kernel
theorem dX6_plant_61 : decode cX6_plant 61 = .ok (.getfield 194, 3) := by decide +kernel
theorem dX6_plant_64 : decode cX6_plant 64 = .ok (.ireturn, 1) := by decide +kernel
theorem dX6_hand_0 : decode cX6_hand 0 = .ok (.aload_n 0, 1) := by decide +kernel
theorem dX6_hand_1 : decode cX6_hand 1 = .ok (.iload_n 1, 1) := by decide +kernel
theorem dX6_hand_2 : decode cX6_hand 2 = .ok (.invokevirtual 175, 3) := by decide +kernel
theorem dX6_hand_5 : decode cX6_hand 5 = .ok (.ifCond .ne 13, 3) := by decide +kernel
theorem dX6_hand_8 : decode cX6_hand 8 = .ok (.new 91, 3) := by decide +kernel
theorem dX6_hand_11 : decode cX6_hand 11 = .ok (.dup, 1) := by decide +kernel
theorem dX6_hand_12 : decode cX6_hand 12 = .ok (.ldc 178, 2) := by decide +kernel
theorem dX6_hand_14 : decode cX6_hand 14 = .ok (.invokespecial 95, 3) := by decide +kernel
theorem dX6_hand_17 : decode cX6_hand 17 = .ok (.athrow, 1) := by decide +kernel
theorem dX6_hand_18 : decode cX6_hand 18 = .ok (.aload_n 0, 1) := by decide +kernel
theorem dX6_hand_19 : decode cX6_hand 19 = .ok (.getfield 19, 3) := by decide +kernel
theorem dX6_hand_22 : decode cX6_hand 22 = .ok (.getfield 98, 3) := by decide +kernel
theorem dX6_hand_25 : decode cX6_hand 25 = .ok (.iload_n 1, 1) := by decide +kernel
theorem dX6_hand_26 : decode cX6_hand 26 = .ok (.invokevirtual 105, 3) := by decide +kernel
theorem dX6_hand_29 : decode cX6_hand 29 = .ok (.checkcast 103, 3) := by decide +kernel
theorem dX6_hand_32 : decode cX6_hand 32 = .ok (.astore_n 2, 1) := by decide +kernel
theorem dX6_hand_33 : decode cX6_hand 33 = .ok (.aload_n 2, 1) := by decide +kernel
theorem dX6_hand_34 : decode cX6_hand 34 = .ok (.getfield 186, 3) := by decide +kernel
theorem dX6_hand_37 : decode cX6_hand 37 = .ok (.iconst 2, 1) := by decide +kernel
theorem dX6_hand_38 : decode cX6_hand 38 = .ok (.if_icmp .ne 7, 3) := by decide +kernel
theorem dX6_hand_41 : decode cX6_hand 41 = .ok (.iconst 3, 1) := by decide +kernel
theorem dX6_hand_42 : decode cX6_hand 42 = .ok (.goto 4, 3) := by decide +kernel
theorem dX6_hand_45 : decode cX6_hand 45 = .ok (.iconst 2, 1) := by decide +kernel
theorem dX6_hand_46 : decode cX6_hand 46 = .ok (.istore_n 3, 1) := by decide +kernel
theorem dX6_hand_47 : decode cX6_hand 47 = .ok (.aload_n 2, 1) := by decide +kernel
theorem dX6_hand_48 : decode cX6_hand 48 = .ok (.invokevirtual 202, 3) := by decide +kernel
theorem dX6_hand_51 : decode cX6_hand 51 = .ok (.ifCond .eq 18, 3) := by decide +kernel
theorem dX6_hand_54 : decode cX6_hand 54 = .ok (.aload_n 0, 1) := by decide +kernel
theorem dX6_hand_55 : decode cX6_hand 55 = .ok (.getfield 19, 3) := by decide +kernel
theorem dX6_hand_58 : decode cX6_hand 58 = .ok (.iload_n 3, 1) := by decide +kernel
theorem dX6_hand_59 : decode cX6_hand 59 = .ok (.aload_n 2, 1) := by decide +kernel
theorem dX6_hand_60 : decode cX6_hand 60 = .ok (.getfield 194, 3) := by decide +kernel
theorem dX6_hand_63 : decode cX6_hand 63 = .ok (.invokevirtual 237, 3) := by decide +kernel
theorem dX6_hand_66 : decode cX6_hand 66 = .ok (.ifCond .ne 13, 3) := by decide +kernel
theorem dX6_hand_69 : decode cX6_hand 69 = .ok (.new 73, 3) := by decide +kernel
theorem dX6_hand_72 : decode cX6_hand 72 = .ok (.dup, 1) := by decide +kernel
theorem dX6_hand_73 : decode cX6_hand 73 = .ok (.ldc 240, 2) := by decide +kernel
theorem dX6_hand_75 : decode cX6_hand 75 = .ok (.invokespecial 77, 3) := by decide +kernel
theorem dX6_hand_78 : decode cX6_hand 78 = .ok (.athrow, 1) := by decide +kernel
theorem dX6_hand_79 : decode cX6_hand 79 = .ok (.aload_n 2, 1) := by decide +kernel
theorem dX6_hand_80 : decode cX6_hand 80 = .ok (.iload_n 3, 1) := by decide +kernel
theorem dX6_hand_81 : decode cX6_hand 81 = .ok (.putfield 186, 3) := by decide +kernel
theorem dX6_hand_84 : decode cX6_hand 84 = .ok (.iload_n 3, 1) := by decide +kernel
theorem dX6_hand_85 : decode cX6_hand 85 = .ok (.ireturn, 1) := by decide +kernel
theorem dX6_away_0 : decode cX6_away 0 = .ok (.aload_n 0, 1) := by decide +kernel
theorem dX6_away_1 : decode cX6_away 1 = .ok (.iload_n 1, 1) := by decide +kernel
theorem dX6_away_2 : decode cX6_away 2 = .ok (.invokevirtual 175, 3) := by decide +kernel
theorem dX6_away_5 : decode cX6_away 5 = .ok (.ifCond .ne 13, 3) := by decide +kernel
theorem dX6_away_8 : decode cX6_away 8 = .ok (.new 91, 3) := by decide +kernel
theorem dX6_away_11 : decode cX6_away 11 = .ok (.dup, 1) := by decide +kernel
theorem dX6_away_12 : decode cX6_away 12 = .ok (.ldc 178, 2) := by decide +kernel
theorem dX6_away_14 : decode cX6_away 14 = .ok (.invokespecial 95, 3) := by decide +kernel
theorem dX6_away_17 : decode cX6_away 17 = .ok (.athrow, 1) := by decide +kernel
theorem dX6_away_18 : decode cX6_away 18 = .ok (.aload_n 0, 1) := by decide +kernel
theorem dX6_away_19 : decode cX6_away 19 = .ok (.getfield 19, 3) := by decide +kernel
theorem dX6_away_22 : decode cX6_away 22 = .ok (.getfield 98, 3) := by decide +kernel
theorem dX6_away_25 : decode cX6_away 25 = .ok (.iload_n 1, 1) := by decide +kernel
theorem dX6_away_26 : decode cX6_away 26 = .ok (.invokevirtual 105, 3) := by decide +kernel
theorem dX6_away_29 : decode cX6_away 29 = .ok (.checkcast 103, 3) := by decide +kernel
theorem dX6_away_32 : decode cX6_away 32 = .ok (.astore_n 2, 1) := by decide +kernel
theorem dX6_away_33 : decode cX6_away 33 = .ok (.aload_n 2, 1) := by decide +kernel
theorem dX6_away_34 : decode cX6_away 34 = .ok (.invokevirtual 202, 3) := by decide +kernel
theorem dX6_away_37 : decode cX6_away 37 = .ok (.ifCond .eq 17, 3) := by decide +kernel
theorem dX6_away_40 : decode cX6_away 40 = .ok (.aload_n 2, 1) := by decide +kernel
theorem dX6_away_41 : decode cX6_away 41 = .ok (.getfield 194, 3) := by decide +kernel
theorem dX6_away_44 : decode cX6_away 44 = .ok (.aload_n 2, 1) := by decide +kernel
theorem dX6_away_45 : decode cX6_away 45 = .ok (.getfield 189, 3) := by decide +kernel
theorem dX6_away_48 : decode cX6_away 48 = .ok (.invokestatic 190, 3) := by decide +kernel
theorem dX6_away_51 : decode cX6_away 51 = .ok (.if_icmp .eq 13, 3) := by decide +kernel
theorem dX6_away_54 : decode cX6_away 54 = .ok (.new 73, 3) := by decide +kernel
theorem dX6_away_57 : decode cX6_away 57 = .ok (.dup, 1) := by decide +kernel
theorem dX6_away_58 : decode cX6_away 58 = .ok (.ldc 242, 2) := by decide +kernel
theorem dX6_away_60 : decode cX6_away 60 = .ok (.invokespecial 77, 3) := by decide +kernel
theorem dX6_away_63 : decode cX6_away 63 = .ok (.athrow, 1) := by decide +kernel
theorem dX6_away_64 : decode cX6_away 64 = .ok (.aload_n 2, 1) := by decide +kernel
theorem dX6_away_65 : decode cX6_away 65 = .ok (.iconst 0, 1) := by decide +kernel
theorem dX6_away_66 : decode cX6_away 66 = .ok (.putfield 186, 3) := by decide +kernel
theorem dX6_away_69 : decode cX6_away 69 = .ok (.aload_n 2, 1) := by decide +kernel
theorem dX6_away_70 : decode cX6_away 70 = .ok (.iconst (-1), 1) := by decide +kernel
theorem dX6_away_71 : decode cX6_away 71 = .ok (.putfield 194, 3) := by decide +kernel
theorem dX6_away_74 : decode cX6_away 74 = .ok (.aload_n 2, 1) := by decide +kernel
theorem dX6_away_75 : decode cX6_away 75 = .ok (.iconst 0, 1) := by decide +kernel
theorem dX6_away_76 : decode cX6_away 76 = .ok (.putfield 230, 3) := by decide +kernel
theorem dX6_away_79 : decode cX6_away 79 = .ok (.aload_n 0, 1) := by decide +kernel
theorem dX6_away_80 : decode cX6_away 80 = .ok (.getfield 19, 3) := by decide +kernel
theorem dX6_away_83 : decode cX6_away 83 = .ok (.invokevirtual 244, 3) := by decide +kernel
theorem dX6_away_86 : decode cX6_away 86 = .ok (.ireturn, 1) := by decide +kernel
theorem dX6_tap_0 : decode cX6_tap 0 = .ok (.iload_n 1, 1) := by decide +kernel
theorem dX6_tap_1 : decode cX6_tap 1 = .ok (.iconst 0, 1) := by decide +kernel
theorem dX6_tap_2 : decode cX6_tap 2 = .ok (.iconst 3, 1) := by decide +kernel
theorem dX6_tap_3 : decode cX6_tap 3 = .ok (.invokestatic 52, 3) := by decide +kernel
theorem dX6_tap_6 : decode cX6_tap 6 = .ok (.ifCond .eq 13, 3) := by decide +kernel
theorem dX6_tap_9 : decode cX6_tap 9 = .ok (.new 56, 3) := by decide +kernel
theorem dX6_tap_12 : decode cX6_tap 12 = .ok (.dup, 1) := by decide +kernel
theorem dX6_tap_13 : decode cX6_tap 13 = .ok (.ldc 247, 2) := by decide +kernel
theorem dX6_tap_15 : decode cX6_tap 15 = .ok (.invokespecial 60, 3) := by decide +kernel
theorem dX6_tap_18 : decode cX6_tap 18 = .ok (.athrow, 1) := by decide +kernel
theorem dX6_tap_19 : decode cX6_tap 19 = .ok (.iload_n 1, 1) := by decide +kernel
theorem dX6_tap_20 : decode cX6_tap 20 = .ok (.ifCond .ne 10, 3) := by decide +kernel
theorem dX6_tap_23 : decode cX6_tap 23 = .ok (.aload_n 0, 1) := by decide +kernel
theorem dX6_tap_24 : decode cX6_tap 24 = .ok (.invokevirtual 249, 3) := by decide +kernel
theorem dX6_tap_27 : decode cX6_tap 27 = .ok (.goto 11, 3) := by decide +kernel
theorem dX6_tap_30 : decode cX6_tap 30 = .ok (.aload_n 0, 1) := by decide +kernel
theorem dX6_tap_31 : decode cX6_tap 31 = .ok (.getfield 26, 3) := by decide +kernel
theorem dX6_tap_34 : decode cX6_tap 34 = .ok (.iload_n 1, 1) := by decide +kernel
theorem dX6_tap_35 : decode cX6_tap 35 = .ok (.invokevirtual 252, 3) := by decide +kernel
theorem dX6_tap_38 : decode cX6_tap 38 = .ok (.istore_n 2, 1) := by decide +kernel
theorem dX6_tap_39 : decode cX6_tap 39 = .ok (.iload_n 2, 1) := by decide +kernel
theorem dX6_tap_40 : decode cX6_tap 40 = .ok (.ifCond .ne 13, 3) := by decide +kernel
theorem dX6_tap_43 : decode cX6_tap 43 = .ok (.aload_n 0, 1) := by decide +kernel
theorem dX6_tap_44 : decode cX6_tap 44 = .ok (.dup, 1) := by decide +kernel
theorem dX6_tap_45 : decode cX6_tap 45 = .ok (.getfield 43, 3) := by decide +kernel
theorem dX6_tap_48 : decode cX6_tap 48 = .ok (.iconst 1, 1) := by decide +kernel
theorem dX6_tap_49 : decode cX6_tap 49 = .ok (.iadd, 1) := by decide +kernel
theorem dX6_tap_50 : decode cX6_tap 50 = .ok (.putfield 43, 3) := by decide +kernel
theorem dX6_tap_53 : decode cX6_tap 53 = .ok (.iload_n 2, 1) := by decide +kernel
theorem dX6_tap_54 : decode cX6_tap 54 = .ok (.ireturn, 1) := by decide +kernel
theorem dX6_speak_0 : decode cX6_speak 0 = .ok (.aload_n 0, 1) := by decide +kernel
theorem dX6_speak_1 : decode cX6_speak 1 = .ok (.iload_n 1, 1) := by decide +kernel
theorem dX6_speak_2 : decode cX6_speak 2 = .ok (.invokevirtual 87, 3) := by decide +kernel
theorem dX6_speak_5 : decode cX6_speak 5 = .ok (.ifCond .eq 11, 3) := by decide +kernel
theorem dX6_speak_8 : decode cX6_speak 8 = .ok (.aload_n 0, 1) := by decide +kernel
theorem dX6_speak_9 : decode cX6_speak 9 = .ok (.iload_n 2, 1) := by decide +kernel
theorem dX6_speak_10 : decode cX6_speak 10 = .ok (.invokevirtual 87, 3) := by decide +kernel
theorem dX6_speak_13 : decode cX6_speak 13 = .ok (.ifCond .ne 13, 3) := by decide +kernel
theorem dX6_speak_16 : decode cX6_speak 16 = .ok (.new 91, 3) := by decide +kernel
theorem dX6_speak_19 : decode cX6_speak 19 = .ok (.dup, 1) := by decide +kernel
theorem dX6_speak_20 : decode cX6_speak 20 = .ok (.ldc 93, 2) := by decide +kernel
theorem dX6_speak_22 : decode cX6_speak 22 = .ok (.invokespecial 95, 3) := by decide +kernel
theorem dX6_speak_25 : decode cX6_speak 25 = .ok (.athrow, 1) := by decide +kernel
theorem dX6_speak_26 : decode cX6_speak 26 = .ok (.iload_n 1, 1) := by decide +kernel
theorem dX6_speak_27 : decode cX6_speak 27 = .ok (.iload_n 2, 1) := by decide +kernel
theorem dX6_speak_28 : decode cX6_speak 28 = .ok (.if_icmp .eq 23, 3) := by decide +kernel
theorem dX6_speak_31 : decode cX6_speak 31 = .ok (.iload_n 3, 1) := by decide +kernel
theorem dX6_speak_32 : decode cX6_speak 32 = .ok (.iconst 1, 1) := by decide +kernel
theorem dX6_speak_33 : decode cX6_speak 33 = .ok (.bipush 9, 2) := by decide +kernel
theorem dX6_speak_35 : decode cX6_speak 35 = .ok (.invokestatic 52, 3) := by decide +kernel
theorem dX6_speak_38 : decode cX6_speak 38 = .ok (.ifCond .ne 13, 3) := by decide +kernel
theorem dX6_speak_41 : decode cX6_speak 41 = .ok (.iload 4, 2) := by decide +kernel
theorem dX6_speak_43 : decode cX6_speak 43 = .ok (.iconst (-1), 1) := by decide +kernel
theorem dX6_speak_44 : decode cX6_speak 44 = .ok (.iconst 1, 1) := by decide +kernel
theorem dX6_speak_45 : decode cX6_speak 45 = .ok (.invokestatic 52, 3) := by decide +kernel
theorem dX6_speak_48 : decode cX6_speak 48 = .ok (.ifCond .eq 13, 3) := by decide +kernel
theorem dX6_speak_51 : decode cX6_speak 51 = .ok (.new 56, 3) := by decide +kernel
theorem dX6_speak_54 : decode cX6_speak 54 = .ok (.dup, 1) := by decide +kernel
theorem dX6_speak_55 : decode cX6_speak 55 = .ok (.ldc 255, 2) := by decide +kernel
theorem dX6_speak_57 : decode cX6_speak 57 = .ok (.invokespecial 60, 3) := by decide +kernel
theorem dX6_speak_60 : decode cX6_speak 60 = .ok (.athrow, 1) := by decide +kernel
theorem dX6_speak_61 : decode cX6_speak 61 = .ok (.aload_n 0, 1) := by decide +kernel
theorem dX6_speak_62 : decode cX6_speak 62 = .ok (.getfield 19, 3) := by decide +kernel
theorem dX6_speak_65 : decode cX6_speak 65 = .ok (.invokevirtual 257, 3) := by decide +kernel
theorem dX6_speak_68 : decode cX6_speak 68 = .ok (.iload_n 1, 1) := by decide +kernel
theorem dX6_speak_69 : decode cX6_speak 69 = .ok (.invokestatic 260, 3) := by decide +kernel
theorem dX6_speak_72 : decode cX6_speak 72 = .ok (.ifCond .eq 24, 3) := by decide +kernel
theorem dX6_speak_75 : decode cX6_speak 75 = .ok (.aload_n 0, 1) := by decide +kernel
theorem dX6_speak_76 : decode cX6_speak 76 = .ok (.getfield 34, 3) := by decide +kernel
theorem dX6_speak_79 : decode cX6_speak 79 = .ok (.bipush 80, 2) := by decide +kernel
theorem dX6_speak_81 : decode cX6_speak 81 = .ok (.if_icmp .ge 15, 3) := by decide +kernel
theorem dX6_speak_84 : decode cX6_speak 84 = .ok (.aload_n 0, 1) := by decide +kernel
theorem dX6_speak_85 : decode cX6_speak 85 = .ok (.getfield 30, 3) := by decide +kernel
theorem dX6_speak_88 : decode cX6_speak 88 = .ok (.iload_n 3, 1) := by decide +kernel
theorem dX6_speak_89 : decode cX6_speak 89 = .ok (.iadd, 1) := by decide +kernel
theorem dX6_speak_90 : decode cX6_speak 90 = .ok (.sipush 540, 3) := by decide +kernel
theorem dX6_speak_93 : decode cX6_speak 93 = .ok (.if_icmp .le 14, 3) := by decide +kernel
theorem dX6_speak_96 : decode cX6_speak 96 = .ok (.new 73, 3) := by decide +kernel
theorem dX6_speak_99 : decode cX6_speak 99 = .ok (.dup, 1) := by decide +kernel
theorem dX6_speak_100 : decode cX6_speak 100 = .ok (.ldc_w 263, 3) := by decide +kernel
theorem dX6_speak_103 : decode cX6_speak 103 = .ok (.invokespecial 77, 3) := by decide +kernel
theorem dX6_speak_106 : decode cX6_speak 106 = .ok (.athrow, 1) := by decide +kernel
theorem dX6_speak_107 : decode cX6_speak 107 = .ok (.aload_n 0, 1) := by decide +kernel
theorem dX6_speak_108 : decode cX6_speak 108 = .ok (.getfield 10, 3) := by decide +kernel
theorem dX6_speak_111 : decode cX6_speak 111 = .ok (.getfield 63, 3) := by decide +kernel
theorem dX6_speak_114 : decode cX6_speak 114 = .ok (.iload_n 1, 1) := by decide +kernel
theorem dX6_speak_115 : decode cX6_speak 115 = .ok (.invokevirtual 105, 3) := by decide +kernel
theorem dX6_speak_118 : decode cX6_speak 118 = .ok (.checkcast 78, 3) := by decide +kernel
theorem dX6_speak_121 : decode cX6_speak 121 = .ok (.astore 5, 2) := by decide +kernel
theorem dX6_speak_123 : decode cX6_speak 123 = .ok (.iconst 1, 1) := by decide +kernel
theorem dX6_speak_124 : decode cX6_speak 124 = .ok (.iload_n 3, 1) := by decide +kernel
theorem dX6_speak_125 : decode cX6_speak 125 = .ok (.aload 5, 2) := by decide +kernel
theorem dX6_speak_127 : decode cX6_speak 127 = .ok (.getfield 265, 3) := by decide +kernel
theorem dX6_speak_130 : decode cX6_speak 130 = .ok (.aload_n 0, 1) := by decide +kernel
theorem dX6_speak_131 : decode cX6_speak 131 = .ok (.getfield 37, 3) := by decide +kernel
theorem dX6_speak_134 : decode cX6_speak 134 = .ok (.isub, 1) := by decide +kernel
theorem dX6_speak_135 : decode cX6_speak 135 = .ok (.invokestatic 214, 3) := by decide +kernel
theorem dX6_speak_138 : decode cX6_speak 138 = .ok (.imul, 1) := by decide +kernel
theorem dX6_speak_139 : decode cX6_speak 139 = .ok (.iconst 3, 1) := by decide +kernel
theorem dX6_speak_140 : decode cX6_speak 140 = .ok (.idiv, 1) := by decide +kernel
theorem dX6_speak_141 : decode cX6_speak 141 = .ok (.iadd, 1) := by decide +kernel
theorem dX6_speak_142 : decode cX6_speak 142 = .ok (.istore 6, 2) := by decide +kernel
theorem dX6_speak_144 : decode cX6_speak 144 = .ok (.aload_n 0, 1) := by decide +kernel
theorem dX6_speak_145 : decode cX6_speak 145 = .ok (.bipush 100, 2) := by decide +kernel
theorem dX6_speak_147 : decode cX6_speak 147 = .ok (.aload_n 0, 1) := by decide +kernel
theorem dX6_speak_148 : decode cX6_speak 148 = .ok (.getfield 34, 3) := by decide +kernel
theorem dX6_speak_151 : decode cX6_speak 151 = .ok (.iload 6, 2) := by decide +kernel
theorem dX6_speak_153 : decode cX6_speak 153 = .ok (.iadd, 1) := by decide +kernel
theorem dX6_speak_154 : decode cX6_speak 154 = .ok (.invokestatic 268, 3) := by decide +kernel
theorem dX6_speak_157 : decode cX6_speak 157 = .ok (.putfield 34, 3) := by decide +kernel
theorem dX6_speak_160 : decode cX6_speak 160 = .ok (.aload_n 0, 1) := by decide +kernel
theorem dX6_speak_161 : decode cX6_speak 161 = .ok (.aload 5, 2) := by decide +kernel
theorem dX6_speak_163 : decode cX6_speak 163 = .ok (.getfield 265, 3) := by decide +kernel
theorem dX6_speak_166 : decode cX6_speak 166 = .ok (.putfield 37, 3) := by decide +kernel
theorem dX6_speak_169 : decode cX6_speak 169 = .ok (.iload 4, 2) := by decide +kernel
theorem dX6_speak_171 : decode cX6_speak 171 = .ok (.aload 5, 2) := by decide +kernel
theorem dX6_speak_173 : decode cX6_speak 173 = .ok (.getfield 271, 3) := by decide +kernel
theorem dX6_speak_176 : decode cX6_speak 176 = .ok (.aload_n 0, 1) := by decide +kernel
theorem dX6_speak_177 : decode cX6_speak 177 = .ok (.getfield 10, 3) := by decide +kernel
theorem dX6_speak_180 : decode cX6_speak 180 = .ok (.getfield 63, 3) := by decide +kernel
theorem dX6_speak_183 : decode cX6_speak 183 = .ok (.iload_n 2, 1) := by decide +kernel
theorem dX6_speak_184 : decode cX6_speak 184 = .ok (.invokevirtual 105, 3) := by decide +kernel
theorem dX6_speak_187 : decode cX6_speak 187 = .ok (.checkcast 78, 3) := by decide +kernel
theorem dX6_speak_190 : decode cX6_speak 190 = .ok (.getfield 271, 3) := by decide +kernel
theorem dX6_speak_193 : decode cX6_speak 193 = .ok (.invokestatic 274, 3) := by decide +kernel
theorem dX6_speak_196 : decode cX6_speak 196 = .ok (.if_icmp .eq 13, 3) := by decide +kernel
theorem dX6_speak_199 : decode cX6_speak 199 = .ok (.aload_n 0, 1) := by decide +kernel
theorem dX6_speak_200 : decode cX6_speak 200 = .ok (.dup, 1) := by decide +kernel
theorem dX6_speak_201 : decode cX6_speak 201 = .ok (.getfield 46, 3) := by decide +kernel
theorem dX6_speak_204 : decode cX6_speak 204 = .ok (.iconst 1, 1) := by decide +kernel
theorem dX6_speak_205 : decode cX6_speak 205 = .ok (.iadd, 1) := by decide +kernel
theorem dX6_speak_206 : decode cX6_speak 206 = .ok (.putfield 46, 3) := by decide +kernel
theorem dX6_speak_209 : decode cX6_speak 209 = .ok (.aload_n 0, 1) := by decide +kernel
theorem dX6_speak_210 : decode cX6_speak 210 = .ok (.iload_n 3, 1) := by decide +kernel
theorem dX6_speak_211 : decode cX6_speak 211 = .ok (.iconst 1, 1) := by decide +kernel
theorem dX6_speak_212 : decode cX6_speak 212 = .ok (.invokevirtual 277, 3) := by decide +kernel
theorem dX6_speak_215 : decode cX6_speak 215 = .ok (.aload_n 0, 1) := by decide +kernel
theorem dX6_speak_216 : decode cX6_speak 216 = .ok (.getfield 34, 3) := by decide +kernel
theorem dX6_speak_219 : decode cX6_speak 219 = .ok (.ireturn, 1) := by decide +kernel
theorem dX6_joke_0 : decode cX6_joke 0 = .ok (.iload_n 1, 1) := by decide +kernel
theorem dX6_joke_1 : decode cX6_joke 1 = .ok (.iconst 0, 1) := by decide +kernel
theorem dX6_joke_2 : decode cX6_joke 2 = .ok (.bipush 9, 2) := by decide +kernel
theorem dX6_joke_4 : decode cX6_joke 4 = .ok (.invokestatic 52, 3) := by decide +kernel
theorem dX6_joke_7 : decode cX6_joke 7 = .ok (.ifCond .eq 14, 3) := by decide +kernel
theorem dX6_joke_10 : decode cX6_joke 10 = .ok (.new 56, 3) := by decide +kernel
theorem dX6_joke_13 : decode cX6_joke 13 = .ok (.dup, 1) := by decide +kernel
theorem dX6_joke_14 : decode cX6_joke 14 = .ok (.ldc_w 281, 3) := by decide +kernel
theorem dX6_joke_17 : decode cX6_joke 17 = .ok (.invokespecial 60, 3) := by decide +kernel
theorem dX6_joke_20 : decode cX6_joke 20 = .ok (.athrow, 1) := by decide +kernel
theorem dX6_joke_21 : decode cX6_joke 21 = .ok (.iload_n 1, 1) := by decide +kernel
theorem dX6_joke_22 : decode cX6_joke 22 = .ok (.aload_n 0, 1) := by decide +kernel
theorem dX6_joke_23 : decode cX6_joke 23 = .ok (.getfield 40, 3) := by decide +kernel
theorem dX6_joke_26 : decode cX6_joke 26 = .ok (.if_icmp .le 16, 3) := by decide +kernel
theorem dX6_joke_29 : decode cX6_joke 29 = .ok (.aload_n 0, 1) := by decide +kernel
theorem dX6_joke_30 : decode cX6_joke 30 = .ok (.dup, 1) := by decide +kernel
theorem dX6_joke_31 : decode cX6_joke 31 = .ok (.getfield 49, 3) := by decide +kernel
theorem dX6_joke_34 : decode cX6_joke 34 = .ok (.iconst 1, 1) := by decide +kernel
theorem dX6_joke_35 : decode cX6_joke 35 = .ok (.iadd, 1) := by decide +kernel
theorem dX6_joke_36 : decode cX6_joke 36 = .ok (.putfield 49, 3) := by decide +kernel
theorem dX6_joke_39 : decode cX6_joke 39 = .ok (.bipush (-2), 2) := by decide +kernel
theorem dX6_joke_41 : decode cX6_joke 41 = .ok (.ireturn, 1) := by decide +kernel
theorem dX6_joke_42 : decode cX6_joke 42 = .ok (.aload_n 0, 1) := by decide +kernel
theorem dX6_joke_43 : decode cX6_joke 43 = .ok (.dup, 1) := by decide +kernel
theorem dX6_joke_44 : decode cX6_joke 44 = .ok (.getfield 40, 3) := by decide +kernel
theorem dX6_joke_47 : decode cX6_joke 47 = .ok (.iload_n 1, 1) := by decide +kernel
theorem dX6_joke_48 : decode cX6_joke 48 = .ok (.isub, 1) := by decide +kernel
theorem dX6_joke_49 : decode cX6_joke 49 = .ok (.putfield 40, 3) := by decide +kernel
theorem dX6_joke_52 : decode cX6_joke 52 = .ok (.aload_n 0, 1) := by decide +kernel
theorem dX6_joke_53 : decode cX6_joke 53 = .ok (.getfield 40, 3) := by decide +kernel
theorem dX6_joke_56 : decode cX6_joke 56 = .ok (.ireturn, 1) := by decide +kernel
theorem dX6_offer_0 : decode cX6_offer 0 = .ok (.aload_n 0, 1) := by decide +kernel
theorem dX6_offer_1 : decode cX6_offer 1 = .ok (.getfield 30, 3) := by decide +kernel
theorem dX6_offer_4 : decode cX6_offer 4 = .ok (.iconst 3, 1) := by decide +kernel
theorem dX6_offer_5 : decode cX6_offer 5 = .ok (.iadd, 1) := by decide +kernel
theorem dX6_offer_6 : decode cX6_offer 6 = .ok (.sipush 540, 3) := by decide +kernel
theorem dX6_offer_9 : decode cX6_offer 9 = .ok (.if_icmp .le 14, 3) := by decide +kernel
theorem dX6_offer_12 : decode cX6_offer 12 = .ok (.new 73, 3) := by decide +kernel
theorem dX6_offer_15 : decode cX6_offer 15 = .ok (.dup, 1) := by decide +kernel
theorem dX6_offer_16 : decode cX6_offer 16 = .ok (.ldc_w 283, 3) := by decide +kernel
theorem dX6_offer_19 : decode cX6_offer 19 = .ok (.invokespecial 77, 3) := by decide +kernel
theorem dX6_offer_22 : decode cX6_offer 22 = .ok (.athrow, 1) := by decide +kernel
theorem dX6_offer_23 : decode cX6_offer 23 = .ok (.aload_n 0, 1) := by decide +kernel
theorem dX6_offer_24 : decode cX6_offer 24 = .ok (.bipush 30, 2) := by decide +kernel
theorem dX6_offer_26 : decode cX6_offer 26 = .ok (.aload_n 0, 1) := by decide +kernel
theorem dX6_offer_27 : decode cX6_offer 27 = .ok (.getfield 40, 3) := by decide +kernel
theorem dX6_offer_30 : decode cX6_offer 30 = .ok (.iconst 5, 1) := by decide +kernel
theorem dX6_offer_31 : decode cX6_offer 31 = .ok (.iadd, 1) := by decide +kernel
theorem dX6_offer_32 : decode cX6_offer 32 = .ok (.invokestatic 268, 3) := by decide +kernel
theorem dX6_offer_35 : decode cX6_offer 35 = .ok (.putfield 40, 3) := by decide +kernel
theorem dX6_offer_38 : decode cX6_offer 38 = .ok (.aload_n 0, 1) := by decide +kernel
theorem dX6_offer_39 : decode cX6_offer 39 = .ok (.iconst 3, 1) := by decide +kernel
theorem dX6_offer_40 : decode cX6_offer 40 = .ok (.iconst 0, 1) := by decide +kernel
theorem dX6_offer_41 : decode cX6_offer 41 = .ok (.invokevirtual 277, 3) := by decide +kernel
theorem dX6_offer_44 : decode cX6_offer 44 = .ok (.aload_n 0, 1) := by decide +kernel
theorem dX6_offer_45 : decode cX6_offer 45 = .ok (.getfield 40, 3) := by decide +kernel
theorem dX6_offer_48 : decode cX6_offer 48 = .ok (.ireturn, 1) := by decide +kernel
theorem dX6_pass_0 : decode cX6_pass 0 = .ok (.iload_n 1, 1) := by decide +kernel
theorem dX6_pass_1 : decode cX6_pass 1 = .ok (.iconst 1, 1) := by decide +kernel
theorem dX6_pass_2 : decode cX6_pass 2 = .ok (.bipush 99, 2) := by decide +kernel
theorem dX6_pass_4 : decode cX6_pass 4 = .ok (.invokestatic 52, 3) := by decide +kernel
theorem dX6_pass_7 : decode cX6_pass 7 = .ok (.ifCond .eq 14, 3) := by decide +kernel
theorem dX6_pass_10 : decode cX6_pass 10 = .ok (.new 56, 3) := by decide +kernel
theorem dX6_pass_13 : decode cX6_pass 13 = .ok (.dup, 1) := by decide +kernel
theorem dX6_pass_14 : decode cX6_pass 14 = .ok (.ldc_w 285, 3) := by decide +kernel
theorem dX6_pass_17 : decode cX6_pass 17 = .ok (.invokespecial 60, 3) := by decide +kernel
theorem dX6_pass_20 : decode cX6_pass 20 = .ok (.athrow, 1) := by decide +kernel
theorem dX6_pass_21 : decode cX6_pass 21 = .ok (.aload_n 0, 1) := by decide +kernel
theorem dX6_pass_22 : decode cX6_pass 22 = .ok (.getfield 30, 3) := by decide +kernel
theorem dX6_pass_25 : decode cX6_pass 25 = .ok (.iload_n 1, 1) := by decide +kernel
theorem dX6_pass_26 : decode cX6_pass 26 = .ok (.iadd, 1) := by decide +kernel
theorem dX6_pass_27 : decode cX6_pass 27 = .ok (.sipush 540, 3) := by decide +kernel
theorem dX6_pass_30 : decode cX6_pass 30 = .ok (.if_icmp .le 14, 3) := by decide +kernel
theorem dX6_pass_33 : decode cX6_pass 33 = .ok (.new 73, 3) := by decide +kernel
theorem dX6_pass_36 : decode cX6_pass 36 = .ok (.dup, 1) := by decide +kernel
theorem dX6_pass_37 : decode cX6_pass 37 = .ok (.ldc_w 283, 3) := by decide +kernel
theorem dX6_pass_40 : decode cX6_pass 40 = .ok (.invokespecial 77, 3) := by decide +kernel
theorem dX6_pass_43 : decode cX6_pass 43 = .ok (.athrow, 1) := by decide +kernel
theorem dX6_pass_44 : decode cX6_pass 44 = .ok (.aload_n 0, 1) := by decide +kernel
theorem dX6_pass_45 : decode cX6_pass 45 = .ok (.getfield 26, 3) := by decide +kernel
theorem dX6_pass_48 : decode cX6_pass 48 = .ok (.getfield 287, 3) := by decide +kernel
theorem dX6_pass_51 : decode cX6_pass 51 = .ok (.istore_n 2, 1) := by decide +kernel
theorem dX6_pass_52 : decode cX6_pass 52 = .ok (.aload_n 0, 1) := by decide +kernel
theorem dX6_pass_53 : decode cX6_pass 53 = .ok (.iload_n 1, 1) := by decide +kernel
theorem dX6_pass_54 : decode cX6_pass 54 = .ok (.iconst 0, 1) := by decide +kernel
theorem dX6_pass_55 : decode cX6_pass 55 = .ok (.invokevirtual 277, 3) := by decide +kernel
theorem dX6_pass_58 : decode cX6_pass 58 = .ok (.aload_n 0, 1) := by decide +kernel
theorem dX6_pass_59 : decode cX6_pass 59 = .ok (.getfield 26, 3) := by decide +kernel
theorem dX6_pass_62 : decode cX6_pass 62 = .ok (.getfield 287, 3) := by decide +kernel
theorem dX6_pass_65 : decode cX6_pass 65 = .ok (.iload_n 2, 1) := by decide +kernel
theorem dX6_pass_66 : decode cX6_pass 66 = .ok (.isub, 1) := by decide +kernel
theorem dX6_pass_67 : decode cX6_pass 67 = .ok (.ireturn, 1) := by decide +kernel
theorem dX6_knows_0 : decode cX6_knows 0 = .ok (.aload_n 0, 1) := by decide +kernel
theorem dX6_knows_1 : decode cX6_knows 1 = .ok (.iload_n 1, 1) := by decide +kernel
theorem dX6_knows_2 : decode cX6_knows 2 = .ok (.invokevirtual 87, 3) := by decide +kernel
theorem dX6_knows_5 : decode cX6_knows 5 = .ok (.ifCond .eq 16, 3) := by decide +kernel
theorem dX6_knows_8 : decode cX6_knows 8 = .ok (.iload_n 2, 1) := by decide +kernel
theorem dX6_knows_9 : decode cX6_knows 9 = .ok (.iconst (-1), 1) := by decide +kernel
theorem dX6_knows_10 : decode cX6_knows 10 = .ok (.if_icmp .eq 22, 3) := by decide +kernel
theorem dX6_knows_13 : decode cX6_knows 13 = .ok (.aload_n 0, 1) := by decide +kernel
theorem dX6_knows_14 : decode cX6_knows 14 = .ok (.iload_n 2, 1) := by decide +kernel
theorem dX6_knows_15 : decode cX6_knows 15 = .ok (.invokevirtual 140, 3) := by decide +kernel
theorem dX6_knows_18 : decode cX6_knows 18 = .ok (.ifCond .ne 14, 3) := by decide +kernel
theorem dX6_knows_21 : decode cX6_knows 21 = .ok (.new 91, 3) := by decide +kernel
theorem dX6_knows_24 : decode cX6_knows 24 = .ok (.dup, 1) := by decide +kernel
theorem dX6_knows_25 : decode cX6_knows 25 = .ok (.ldc_w 290, 3) := by decide +kernel
theorem dX6_knows_28 : decode cX6_knows 28 = .ok (.invokespecial 95, 3) := by decide +kernel
theorem dX6_knows_31 : decode cX6_knows 31 = .ok (.athrow, 1) := by decide +kernel
theorem dX6_knows_32 : decode cX6_knows 32 = .ok (.aload_n 0, 1) := by decide +kernel
theorem dX6_knows_33 : decode cX6_knows 33 = .ok (.getfield 10, 3) := by decide +kernel
theorem dX6_knows_36 : decode cX6_knows 36 = .ok (.iload_n 2, 1) := by decide +kernel
theorem dX6_knows_37 : decode cX6_knows 37 = .ok (.invokevirtual 292, 3) := by decide +kernel
theorem dX6_knows_40 : decode cX6_knows 40 = .ok (.iload_n 1, 1) := by decide +kernel
theorem dX6_knows_41 : decode cX6_knows 41 = .ok (.invokestatic 260, 3) := by decide +kernel
theorem dX6_knows_44 : decode cX6_knows 44 = .ok (.ireturn, 1) := by decide +kernel
theorem dX6_ofFigure_0 : decode cX6_ofFigure 0 = .ok (.aload_n 0, 1) := by decide +kernel
theorem dX6_ofFigure_1 : decode cX6_ofFigure 1 = .ok (.iload_n 1, 1) := by decide +kernel
theorem dX6_ofFigure_2 : decode cX6_ofFigure 2 = .ok (.invokevirtual 175, 3) := by decide +kernel
theorem dX6_ofFigure_5 : decode cX6_ofFigure 5 = .ok (.ifCond .ne 13, 3) := by decide +kernel
theorem dX6_ofFigure_8 : decode cX6_ofFigure 8 = .ok (.new 91, 3) := by decide +kernel
theorem dX6_ofFigure_11 : decode cX6_ofFigure 11 = .ok (.dup, 1) := by decide +kernel
theorem dX6_ofFigure_12 : decode cX6_ofFigure 12 = .ok (.ldc 178, 2) := by decide +kernel
theorem dX6_ofFigure_14 : decode cX6_ofFigure 14 = .ok (.invokespecial 95, 3) := by decide +kernel
theorem dX6_ofFigure_17 : decode cX6_ofFigure 17 = .ok (.athrow, 1) := by decide +kernel
theorem dX6_ofFigure_18 : decode cX6_ofFigure 18 = .ok (.iload_n 2, 1) := by decide +kernel
theorem dX6_ofFigure_19 : decode cX6_ofFigure 19 = .ok (.iconst 0, 1) := by decide +kernel
theorem dX6_ofFigure_20 : decode cX6_ofFigure 20 = .ok (.bipush 7, 2) := by decide +kernel
theorem dX6_ofFigure_22 : decode cX6_ofFigure 22 = .ok (.invokestatic 52, 3) := by decide +kernel
theorem dX6_ofFigure_25 : decode cX6_ofFigure 25 = .ok (.ifCond .eq 14, 3) := by decide +kernel
theorem dX6_ofFigure_28 : decode cX6_ofFigure 28 = .ok (.new 56, 3) := by decide +kernel
theorem dX6_ofFigure_31 : decode cX6_ofFigure 31 = .ok (.dup, 1) := by decide +kernel
theorem dX6_ofFigure_32 : decode cX6_ofFigure 32 = .ok (.ldc_w 295, 3) := by decide +kernel
theorem dX6_ofFigure_35 : decode cX6_ofFigure 35 = .ok (.invokespecial 60, 3) := by decide +kernel
theorem dX6_ofFigure_38 : decode cX6_ofFigure 38 = .ok (.athrow, 1) := by decide +kernel
theorem dX6_ofFigure_39 : decode cX6_ofFigure 39 = .ok (.aload_n 0, 1) := by decide +kernel
theorem dX6_ofFigure_40 : decode cX6_ofFigure 40 = .ok (.getfield 19, 3) := by decide +kernel
theorem dX6_ofFigure_43 : decode cX6_ofFigure 43 = .ok (.aload_n 0, 1) := by decide +kernel
theorem dX6_ofFigure_44 : decode cX6_ofFigure 44 = .ok (.getfield 19, 3) := by decide +kernel
theorem dX6_ofFigure_47 : decode cX6_ofFigure 47 = .ok (.getfield 98, 3) := by decide +kernel
theorem dX6_ofFigure_50 : decode cX6_ofFigure 50 = .ok (.iload_n 1, 1) := by decide +kernel
theorem dX6_ofFigure_51 : decode cX6_ofFigure 51 = .ok (.invokevirtual 105, 3) := by decide +kernel
theorem dX6_ofFigure_54 : decode cX6_ofFigure 54 = .ok (.checkcast 103, 3) := by decide +kernel
theorem dX6_ofFigure_57 : decode cX6_ofFigure 57 = .ok (.iload_n 2, 1) := by decide +kernel
theorem dX6_ofFigure_58 : decode cX6_ofFigure 58 = .ok (.invokevirtual 297, 3) := by decide +kernel
theorem dX6_ofFigure_61 : decode cX6_ofFigure 61 = .ok (.ireturn, 1) := by decide +kernel
theorem dX6_ofScene_0 : decode cX6_ofScene 0 = .ok (.aload_n 0, 1) := by decide +kernel
theorem dX6_ofScene_1 : decode cX6_ofScene 1 = .ok (.iload_n 1, 1) := by decide +kernel
theorem dX6_ofScene_2 : decode cX6_ofScene 2 = .ok (.invokevirtual 140, 3) := by decide +kernel
theorem dX6_ofScene_5 : decode cX6_ofScene 5 = .ok (.ifCond .ne 13, 3) := by decide +kernel
theorem dX6_ofScene_8 : decode cX6_ofScene 8 = .ok (.new 91, 3) := by decide +kernel
theorem dX6_ofScene_11 : decode cX6_ofScene 11 = .ok (.dup, 1) := by decide +kernel
theorem dX6_ofScene_12 : decode cX6_ofScene 12 = .ok (.ldc 143, 2) := by decide +kernel
theorem dX6_ofScene_14 : decode cX6_ofScene 14 = .ok (.invokespecial 95, 3) := by decide +kernel
theorem dX6_ofScene_17 : decode cX6_ofScene 17 = .ok (.athrow, 1) := by decide +kernel
theorem dX6_ofScene_18 : decode cX6_ofScene 18 = .ok (.iload_n 2, 1) := by decide +kernel
theorem dX6_ofScene_19 : decode cX6_ofScene 19 = .ok (.iconst 0, 1) := by decide +kernel
theorem dX6_ofScene_20 : decode cX6_ofScene 20 = .ok (.bipush 8, 2) := by decide +kernel
theorem dX6_ofScene_22 : decode cX6_ofScene 22 = .ok (.invokestatic 52, 3) := by decide +kernel
theorem dX6_ofScene_25 : decode cX6_ofScene 25 = .ok (.ifCond .eq 14, 3) := by decide +kernel
theorem dX6_ofScene_28 : decode cX6_ofScene 28 = .ok (.new 56, 3) := by decide +kernel
theorem dX6_ofScene_31 : decode cX6_ofScene 31 = .ok (.dup, 1) := by decide +kernel
theorem dX6_ofScene_32 : decode cX6_ofScene 32 = .ok (.ldc_w 300, 3) := by decide +kernel
theorem dX6_ofScene_35 : decode cX6_ofScene 35 = .ok (.invokespecial 60, 3) := by decide +kernel
theorem dX6_ofScene_38 : decode cX6_ofScene 38 = .ok (.athrow, 1) := by decide +kernel
theorem dX6_ofScene_39 : decode cX6_ofScene 39 = .ok (.aload_n 0, 1) := by decide +kernel
theorem dX6_ofScene_40 : decode cX6_ofScene 40 = .ok (.getfield 10, 3) := by decide +kernel
theorem dX6_ofScene_43 : decode cX6_ofScene 43 = .ok (.getfield 131, 3) := by decide +kernel
theorem dX6_ofScene_46 : decode cX6_ofScene 46 = .ok (.iload_n 1, 1) := by decide +kernel
theorem dX6_ofScene_47 : decode cX6_ofScene 47 = .ok (.invokevirtual 105, 3) := by decide +kernel
theorem dX6_ofScene_50 : decode cX6_ofScene 50 = .ok (.checkcast 147, 3) := by decide +kernel
theorem dX6_ofScene_53 : decode cX6_ofScene 53 = .ok (.iload_n 2, 1) := by decide +kernel
theorem dX6_ofScene_54 : decode cX6_ofScene 54 = .ok (.invokevirtual 302, 3) := by decide +kernel
theorem dX6_ofScene_57 : decode cX6_ofScene 57 = .ok (.ireturn, 1) := by decide +kernel
theorem dX6_at_0 : decode cX6_at 0 = .ok (.iload_n 1, 1) := by decide +kernel
theorem dX6_at_1 : decode cX6_at 1 = .ok (.invokestatic 197, 3) := by decide +kernel
theorem dX6_at_4 : decode cX6_at 4 = .ok (.ifCond .ne 13, 3) := by decide +kernel
theorem dX6_at_7 : decode cX6_at 7 = .ok (.new 91, 3) := by decide +kernel
theorem dX6_at_10 : decode cX6_at 10 = .ok (.dup, 1) := by decide +kernel
theorem dX6_at_11 : decode cX6_at 11 = .ok (.ldc 200, 2) := by decide +kernel
theorem dX6_at_13 : decode cX6_at 13 = .ok (.invokespecial 95, 3) := by decide +kernel
theorem dX6_at_16 : decode cX6_at 16 = .ok (.athrow, 1) := by decide +kernel
theorem dX6_at_17 : decode cX6_at 17 = .ok (.aload_n 0, 1) := by decide +kernel
theorem dX6_at_18 : decode cX6_at 18 = .ok (.getfield 19, 3) := by decide +kernel
theorem dX6_at_21 : decode cX6_at 21 = .ok (.iload_n 1, 1) := by decide +kernel
theorem dX6_at_22 : decode cX6_at 22 = .ok (.invokevirtual 209, 3) := by decide +kernel
theorem dX6_at_25 : decode cX6_at 25 = .ok (.ireturn, 1) := by decide +kernel
theorem dX6_sound_0 : decode cX6_sound 0 = .ok (.iload_n 1, 1) := by decide +kernel
theorem dX6_sound_1 : decode cX6_sound 1 = .ok (.iconst 0, 1) := by decide +kernel
theorem dX6_sound_2 : decode cX6_sound 2 = .ok (.iconst 3, 1) := by decide +kernel
theorem dX6_sound_3 : decode cX6_sound 3 = .ok (.invokestatic 52, 3) := by decide +kernel
theorem dX6_sound_6 : decode cX6_sound 6 = .ok (.ifCond .eq 14, 3) := by decide +kernel
theorem dX6_sound_9 : decode cX6_sound 9 = .ok (.new 56, 3) := by decide +kernel
theorem dX6_sound_12 : decode cX6_sound 12 = .ok (.dup, 1) := by decide +kernel
theorem dX6_sound_13 : decode cX6_sound 13 = .ok (.ldc_w 305, 3) := by decide +kernel
theorem dX6_sound_16 : decode cX6_sound 16 = .ok (.invokespecial 60, 3) := by decide +kernel
theorem dX6_sound_19 : decode cX6_sound 19 = .ok (.athrow, 1) := by decide +kernel
theorem dX6_sound_20 : decode cX6_sound 20 = .ok (.aload_n 0, 1) := by decide +kernel
theorem dX6_sound_21 : decode cX6_sound 21 = .ok (.getfield 26, 3) := by decide +kernel
theorem dX6_sound_24 : decode cX6_sound 24 = .ok (.iload_n 1, 1) := by decide +kernel
theorem dX6_sound_25 : decode cX6_sound 25 = .ok (.invokevirtual 307, 3) := by decide +kernel
theorem dX6_sound_28 : decode cX6_sound 28 = .ok (.ireturn, 1) := by decide +kernel
theorem dX6_many_0 : decode cX6_many 0 = .ok (.iload_n 1, 1) := by decide +kernel
theorem dX6_many_1 : decode cX6_many 1 = .ok (.iconst 0, 1) := by decide +kernel
theorem dX6_many_2 : decode cX6_many 2 = .ok (.bipush 15, 2) := by decide +kernel
theorem dX6_many_4 : decode cX6_many 4 = .ok (.invokestatic 52, 3) := by decide +kernel
theorem dX6_many_7 : decode cX6_many 7 = .ok (.ifCond .eq 14, 3) := by decide +kernel
theorem dX6_many_10 : decode cX6_many 10 = .ok (.new 56, 3) := by decide +kernel
theorem dX6_many_13 : decode cX6_many 13 = .ok (.dup, 1) := by decide +kernel
theorem dX6_many_14 : decode cX6_many 14 = .ok (.ldc_w 308, 3) := by decide +kernel
theorem dX6_many_17 : decode cX6_many 17 = .ok (.invokespecial 60, 3) := by decide +kernel
theorem dX6_many_20 : decode cX6_many 20 = .ok (.athrow, 1) := by decide +kernel
theorem dX6_many_21 : decode cX6_many 21 = .ok (.aload_n 0, 1) := by decide +kernel
theorem dX6_many_22 : decode cX6_many 22 = .ok (.iload_n 1, 1) := by decide +kernel
theorem dX6_many_23 : decode cX6_many 23 = .ok (.invokevirtual 310, 3) := by decide +kernel
theorem dX6_many_26 : decode cX6_many 26 = .ok (.ireturn, 1) := by decide +kernel
theorem dX6_meanShadow_0 : decode cX6_meanShadow 0 = .ok (.aload_n 0, 1) := by decide +kernel
theorem dX6_meanShadow_1 : decode cX6_meanShadow 1 = .ok (.getfield 19, 3) := by decide +kernel
theorem dX6_meanShadow_4 : decode cX6_meanShadow 4 = .ok (.invokevirtual 244, 3) := by decide +kernel
theorem dX6_meanShadow_7 : decode cX6_meanShadow 7 = .ok (.istore_n 1, 1) := by decide +kernel
theorem dX6_meanShadow_8 : decode cX6_meanShadow 8 = .ok (.iload_n 1, 1) := by decide +kernel
theorem dX6_meanShadow_9 : decode cX6_meanShadow 9 = .ok (.ifCond .ne 5, 3) := by decide +kernel
theorem dX6_meanShadow_12 : decode cX6_meanShadow 12 = .ok (.dconst 0, 1) := by decide +kernel
theorem dX6_meanShadow_13 : decode cX6_meanShadow 13 = .ok (.dreturn, 1) := by decide +kernel
theorem dX6_meanShadow_14 : decode cX6_meanShadow 14 = .ok (.aload_n 0, 1) := by decide +kernel
theorem dX6_meanShadow_15 : decode cX6_meanShadow 15 = .ok (.getfield 19, 3) := by decide +kernel
theorem dX6_meanShadow_18 : decode cX6_meanShadow 18 = .ok (.invokevirtual 313, 3) := by decide +kernel
theorem dX6_meanShadow_21 : decode cX6_meanShadow 21 = .ok (.i2d, 1) := by decide +kernel
theorem dX6_meanShadow_22 : decode cX6_meanShadow 22 = .ok (.iload_n 1, 1) := by decide +kernel
theorem dX6_meanShadow_23 : decode cX6_meanShadow 23 = .ok (.i2d, 1) := by decide +kernel
theorem dX6_meanShadow_24 : decode cX6_meanShadow 24 = .ok (.ddiv, 1) := by decide +kernel
theorem dX6_meanShadow_25 : decode cX6_meanShadow 25 = .ok (.dreturn, 1) := by decide +kernel
theorem dX6_nextGong_0 : decode cX6_nextGong 0 = .ok (.aload_n 0, 1) := by decide +kernel
theorem dX6_nextGong_1 : decode cX6_nextGong 1 = .ok (.getfield 26, 3) := by decide +kernel
theorem dX6_nextGong_4 : decode cX6_nextGong 4 = .ok (.invokevirtual 316, 3) := by decide +kernel
theorem dX6_nextGong_7 : decode cX6_nextGong 7 = .ok (.ireturn, 1) := by decide +kernel
theorem dX6_bestSwap_0 : decode cX6_bestSwap 0 = .ok (.aload_n 0, 1) := by decide +kernel
theorem dX6_bestSwap_1 : decode cX6_bestSwap 1 = .ok (.getfield 10, 3) := by decide +kernel
theorem dX6_bestSwap_4 : decode cX6_bestSwap 4 = .ok (.invokevirtual 319, 3) := by decide +kernel
theorem dX6_bestSwap_7 : decode cX6_bestSwap 7 = .ok (.ireturn, 1) := by decide +kernel
theorem dX6_gripable_0 : decode cX6_gripable 0 = .ok (.aload_n 0, 1) := by decide +kernel
theorem dX6_gripable_1 : decode cX6_gripable 1 = .ok (.getfield 19, 3) := by decide +kernel
theorem dX6_gripable_4 : decode cX6_gripable 4 = .ok (.invokevirtual 327, 3) := by decide +kernel
theorem dX6_gripable_7 : decode cX6_gripable 7 = .ok (.ireturn, 1) := by decide +kernel
theorem dX6_digest_0 : decode cX6_digest 0 = .ok (.ldc2_w 330, 3) := by decide +kernel
theorem dX6_digest_3 : decode cX6_digest 3 = .ok (.lstore_n 1, 1) := by decide +kernel
theorem dX6_digest_4 : decode cX6_digest 4 = .ok (.iconst 0, 1) := by decide +kernel
theorem dX6_digest_5 : decode cX6_digest 5 = .ok (.istore_n 3, 1) := by decide +kernel
theorem dX6_digest_6 : decode cX6_digest 6 = .ok (.iload_n 3, 1) := by decide +kernel
theorem dX6_digest_7 : decode cX6_digest 7 = .ok (.bipush 15, 2) := by decide +kernel
theorem dX6_digest_9 : decode cX6_digest 9 = .ok (.if_icmp .gt 20, 3) := by decide +kernel
theorem dX6_digest_12 : decode cX6_digest 12 = .ok (.lload_n 1, 1) := by decide +kernel
theorem dX6_digest_13 : decode cX6_digest 13 = .ok (.aload_n 0, 1) := by decide +kernel
theorem dX6_digest_14 : decode cX6_digest 14 = .ok (.iload_n 3, 1) := by decide +kernel
theorem dX6_digest_15 : decode cX6_digest 15 = .ok (.invokevirtual 310, 3) := by decide +kernel
theorem dX6_digest_18 : decode cX6_digest 18 = .ok (.i2l, 1) := by decide +kernel
theorem dX6_digest_19 : decode cX6_digest 19 = .ok (.invokestatic 332, 3) := by decide +kernel
theorem dX6_digest_22 : decode cX6_digest 22 = .ok (.lstore_n 1, 1) := by decide +kernel
theorem dX6_digest_23 : decode cX6_digest 23 = .ok (.iinc 3 1, 3) := by decide +kernel
theorem dX6_digest_26 : decode cX6_digest 26 = .ok (.goto (-20), 3) := by decide +kernel
theorem dX6_digest_29 : decode cX6_digest 29 = .ok (.aload_n 0, 1) := by decide +kernel
theorem dX6_digest_30 : decode cX6_digest 30 = .ok (.lload_n 1, 1) := by decide +kernel
theorem dX6_digest_31 : decode cX6_digest 31 = .ok (.invokevirtual 336, 3) := by decide +kernel
theorem dX6_digest_34 : decode cX6_digest 34 = .ok (.lstore_n 1, 1) := by decide +kernel
theorem dX6_digest_35 : decode cX6_digest 35 = .ok (.aload_n 0, 1) := by decide +kernel
theorem dX6_digest_36 : decode cX6_digest 36 = .ok (.lload_n 1, 1) := by decide +kernel
theorem dX6_digest_37 : decode cX6_digest 37 = .ok (.invokevirtual 340, 3) := by decide +kernel
theorem dX6_digest_40 : decode cX6_digest 40 = .ok (.lstore_n 1, 1) := by decide +kernel
theorem dX6_digest_41 : decode cX6_digest 41 = .ok (.aload_n 0, 1) := by decide +kernel
theorem dX6_digest_42 : decode cX6_digest 42 = .ok (.lload_n 1, 1) := by decide +kernel
theorem dX6_digest_43 : decode cX6_digest 43 = .ok (.invokevirtual 343, 3) := by decide +kernel
theorem dX6_digest_46 : decode cX6_digest 46 = .ok (.lstore_n 1, 1) := by decide +kernel
theorem dX6_digest_47 : decode cX6_digest 47 = .ok (.iconst 0, 1) := by decide +kernel
theorem dX6_digest_48 : decode cX6_digest 48 = .ok (.istore_n 3, 1) := by decide +kernel
theorem dX6_digest_49 : decode cX6_digest 49 = .ok (.iload_n 3, 1) := by decide +kernel
theorem dX6_digest_50 : decode cX6_digest 50 = .ok (.bipush 9, 2) := by decide +kernel
theorem dX6_digest_52 : decode cX6_digest 52 = .ok (.if_icmp .gt 23, 3) := by decide +kernel
theorem dX6_digest_55 : decode cX6_digest 55 = .ok (.lload_n 1, 1) := by decide +kernel
theorem dX6_digest_56 : decode cX6_digest 56 = .ok (.aload_n 0, 1) := by decide +kernel
theorem dX6_digest_57 : decode cX6_digest 57 = .ok (.getfield 19, 3) := by decide +kernel
theorem dX6_digest_60 : decode cX6_digest 60 = .ok (.iload_n 3, 1) := by decide +kernel
theorem dX6_digest_61 : decode cX6_digest 61 = .ok (.invokevirtual 209, 3) := by decide +kernel
theorem dX6_digest_64 : decode cX6_digest 64 = .ok (.i2l, 1) := by decide +kernel
theorem dX6_digest_65 : decode cX6_digest 65 = .ok (.invokestatic 332, 3) := by decide +kernel
theorem dX6_digest_68 : decode cX6_digest 68 = .ok (.lstore_n 1, 1) := by decide +kernel
theorem dX6_digest_69 : decode cX6_digest 69 = .ok (.iinc 3 1, 3) := by decide +kernel
theorem dX6_digest_72 : decode cX6_digest 72 = .ok (.goto (-23), 3) := by decide +kernel
theorem dX6_digest_75 : decode cX6_digest 75 = .ok (.iconst 0, 1) := by decide +kernel
theorem dX6_digest_76 : decode cX6_digest 76 = .ok (.istore_n 3, 1) := by decide +kernel
theorem dX6_digest_77 : decode cX6_digest 77 = .ok (.iload_n 3, 1) := by decide +kernel
theorem dX6_digest_78 : decode cX6_digest 78 = .ok (.iconst 3, 1) := by decide +kernel
theorem dX6_digest_79 : decode cX6_digest 79 = .ok (.if_icmp .gt 23, 3) := by decide +kernel
theorem dX6_digest_82 : decode cX6_digest 82 = .ok (.lload_n 1, 1) := by decide +kernel
theorem dX6_digest_83 : decode cX6_digest 83 = .ok (.aload_n 0, 1) := by decide +kernel
theorem dX6_digest_84 : decode cX6_digest 84 = .ok (.getfield 26, 3) := by decide +kernel
theorem dX6_digest_87 : decode cX6_digest 87 = .ok (.iload_n 3, 1) := by decide +kernel
theorem dX6_digest_88 : decode cX6_digest 88 = .ok (.invokevirtual 307, 3) := by decide +kernel
theorem dX6_digest_91 : decode cX6_digest 91 = .ok (.i2l, 1) := by decide +kernel
theorem dX6_digest_92 : decode cX6_digest 92 = .ok (.invokestatic 332, 3) := by decide +kernel
theorem dX6_digest_95 : decode cX6_digest 95 = .ok (.lstore_n 1, 1) := by decide +kernel
theorem dX6_digest_96 : decode cX6_digest 96 = .ok (.iinc 3 1, 3) := by decide +kernel
theorem dX6_digest_99 : decode cX6_digest 99 = .ok (.goto (-22), 3) := by decide +kernel
theorem dX6_digest_102 : decode cX6_digest 102 = .ok (.lload_n 1, 1) := by decide +kernel
theorem dX6_digest_103 : decode cX6_digest 103 = .ok (.aload_n 0, 1) := by decide +kernel
theorem dX6_digest_104 : decode cX6_digest 104 = .ok (.getfield 26, 3) := by decide +kernel
theorem dX6_digest_107 : decode cX6_digest 107 = .ok (.invokevirtual 316, 3) := by decide +kernel
theorem dX6_digest_110 : decode cX6_digest 110 = .ok (.i2l, 1) := by decide +kernel
theorem dX6_digest_111 : decode cX6_digest 111 = .ok (.invokestatic 332, 3) := by decide +kernel
theorem dX6_digest_114 : decode cX6_digest 114 = .ok (.lstore_n 1, 1) := by decide +kernel
theorem dX6_digest_115 : decode cX6_digest 115 = .ok (.lload_n 1, 1) := by decide +kernel
theorem dX6_digest_116 : decode cX6_digest 116 = .ok (.aload_n 0, 1) := by decide +kernel
theorem dX6_digest_117 : decode cX6_digest 117 = .ok (.getfield 10, 3) := by decide +kernel
theorem dX6_digest_120 : decode cX6_digest 120 = .ok (.invokevirtual 319, 3) := by decide +kernel
theorem dX6_digest_123 : decode cX6_digest 123 = .ok (.i2l, 1) := by decide +kernel
theorem dX6_digest_124 : decode cX6_digest 124 = .ok (.invokestatic 332, 3) := by decide +kernel
theorem dX6_digest_127 : decode cX6_digest 127 = .ok (.lstore_n 1, 1) := by decide +kernel
theorem dX6_digest_128 : decode cX6_digest 128 = .ok (.lload_n 1, 1) := by decide +kernel
theorem dX6_digest_129 : decode cX6_digest 129 = .ok (.aload_n 0, 1) := by decide +kernel
theorem dX6_digest_130 : decode cX6_digest 130 = .ok (.getfield 19, 3) := by decide +kernel
theorem dX6_digest_133 : decode cX6_digest 133 = .ok (.invokevirtual 327, 3) := by decide +kernel
theorem dX6_digest_136 : decode cX6_digest 136 = .ok (.i2l, 1) := by decide +kernel
theorem dX6_digest_137 : decode cX6_digest 137 = .ok (.invokestatic 332, 3) := by decide +kernel
theorem dX6_digest_140 : decode cX6_digest 140 = .ok (.lreturn, 1) := by decide +kernel
theorem dX6_mix_0 : decode cX6_mix 0 = .ok (.lload_n 0, 1) := by decide +kernel
theorem dX6_mix_1 : decode cX6_mix 1 = .ok (.ldc2_w 346, 3) := by decide +kernel
theorem dX6_mix_4 : decode cX6_mix 4 = .ok (.lmul, 1) := by decide +kernel
theorem dX6_mix_5 : decode cX6_mix 5 = .ok (.lload_n 2, 1) := by decide +kernel
theorem dX6_mix_6 : decode cX6_mix 6 = .ok (.ladd, 1) := by decide +kernel
theorem dX6_mix_7 : decode cX6_mix 7 = .ok (.lreturn, 1) := by decide +kernel
theorem dX6_mixPersons_0 : decode cX6_mixPersons 0 = .ok (.aload_n 0, 1) := by decide +kernel
theorem dX6_mixPersons_1 : decode cX6_mixPersons 1 = .ok (.getfield 10, 3) := by decide +kernel
theorem dX6_mixPersons_4 : decode cX6_mixPersons 4 = .ok (.aload_n 0, 1) := by decide +kernel
theorem dX6_mixPersons_5 : decode cX6_mixPersons 5 = .ok (.getfield 10, 3) := by decide +kernel
theorem dX6_mixPersons_8 : decode cX6_mixPersons 8 = .ok (.getfield 131, 3) := by decide +kernel
theorem dX6_mixPersons_11 : decode cX6_mixPersons 11 = .ok (.invokevirtual 67, 3) := by decide +kernel
theorem dX6_mixPersons_14 : decode cX6_mixPersons 14 = .ok (.iconst 1, 1) := by decide +kernel
theorem dX6_mixPersons_15 : decode cX6_mixPersons 15 = .ok (.isub, 1) := by decide +kernel
theorem dX6_mixPersons_16 : decode cX6_mixPersons 16 = .ok (.invokevirtual 292, 3) := by decide +kernel
theorem dX6_mixPersons_19 : decode cX6_mixPersons 19 = .ok (.istore_n 3, 1) := by decide +kernel
theorem dX6_mixPersons_20 : decode cX6_mixPersons 20 = .ok (.lload_n 1, 1) := by decide +kernel
theorem dX6_mixPersons_21 : decode cX6_mixPersons 21 = .ok (.lstore 4, 2) := by decide +kernel
theorem dX6_mixPersons_23 : decode cX6_mixPersons 23 = .ok (.iconst 0, 1) := by decide +kernel
theorem dX6_mixPersons_24 : decode cX6_mixPersons 24 = .ok (.istore 6, 2) := by decide +kernel
theorem dX6_mixPersons_26 : decode cX6_mixPersons 26 = .ok (.iload 6, 2) := by decide +kernel
theorem dX6_mixPersons_28 : decode cX6_mixPersons 28 = .ok (.aload_n 0, 1) := by decide +kernel
theorem dX6_mixPersons_29 : decode cX6_mixPersons 29 = .ok (.getfield 10, 3) := by decide +kernel
theorem dX6_mixPersons_32 : decode cX6_mixPersons 32 = .ok (.getfield 63, 3) := by decide +kernel
theorem dX6_mixPersons_35 : decode cX6_mixPersons 35 = .ok (.invokevirtual 67, 3) := by decide +kernel
theorem dX6_mixPersons_38 : decode cX6_mixPersons 38 = .ok (.if_icmp .ge 30, 3) := by decide +kernel
theorem dX6_mixPersons_41 : decode cX6_mixPersons 41 = .ok (.lload 4, 2) := by decide +kernel
theorem dX6_mixPersons_43 : decode cX6_mixPersons 43 = .ok (.iload_n 3, 1) := by decide +kernel
theorem dX6_mixPersons_44 : decode cX6_mixPersons 44 = .ok (.iload 6, 2) := by decide +kernel
theorem dX6_mixPersons_46 : decode cX6_mixPersons 46 = .ok (.invokestatic 260, 3) := by decide +kernel
theorem dX6_mixPersons_49 : decode cX6_mixPersons 49 = .ok (.ifCond .eq 7, 3) := by decide +kernel
theorem dX6_mixPersons_52 : decode cX6_mixPersons 52 = .ok (.lconst 1, 1) := by decide +kernel
theorem dX6_mixPersons_53 : decode cX6_mixPersons 53 = .ok (.goto 4, 3) := by decide +kernel
theorem dX6_mixPersons_56 : decode cX6_mixPersons 56 = .ok (.lconst 0, 1) := by decide +kernel
theorem dX6_mixPersons_57 : decode cX6_mixPersons 57 = .ok (.invokestatic 332, 3) := by decide +kernel
theorem dX6_mixPersons_60 : decode cX6_mixPersons 60 = .ok (.lstore 4, 2) := by decide +kernel
theorem dX6_mixPersons_62 : decode cX6_mixPersons 62 = .ok (.iinc 6 1, 3) := by decide +kernel
theorem dX6_mixPersons_65 : decode cX6_mixPersons 65 = .ok (.goto (-39), 3) := by decide +kernel
theorem dX6_mixPersons_68 : decode cX6_mixPersons 68 = .ok (.lload 4, 2) := by decide +kernel
theorem dX6_mixPersons_70 : decode cX6_mixPersons 70 = .ok (.lreturn, 1) := by decide +kernel
theorem dX6_mixFigures_0 : decode cX6_mixFigures 0 = .ok (.lload_n 1, 1) := by decide +kernel
theorem dX6_mixFigures_1 : decode cX6_mixFigures 1 = .ok (.lstore_n 3, 1) := by decide +kernel
theorem dX6_mixFigures_2 : decode cX6_mixFigures 2 = .ok (.iconst 0, 1) := by decide +kernel
theorem dX6_mixFigures_3 : decode cX6_mixFigures 3 = .ok (.istore 5, 2) := by decide +kernel
theorem dX6_mixFigures_5 : decode cX6_mixFigures 5 = .ok (.iload 5, 2) := by decide +kernel
theorem dX6_mixFigures_7 : decode cX6_mixFigures 7 = .ok (.aload_n 0, 1) := by decide +kernel
theorem dX6_mixFigures_8 : decode cX6_mixFigures 8 = .ok (.getfield 19, 3) := by decide +kernel
theorem dX6_mixFigures_11 : decode cX6_mixFigures 11 = .ok (.getfield 98, 3) := by decide +kernel
theorem dX6_mixFigures_14 : decode cX6_mixFigures 14 = .ok (.invokevirtual 67, 3) := by decide +kernel
theorem dX6_mixFigures_17 : decode cX6_mixFigures 17 = .ok (.if_icmp .ge 76, 3) := by decide +kernel
theorem dX6_mixFigures_20 : decode cX6_mixFigures 20 = .ok (.aload_n 0, 1) := by decide +kernel
theorem dX6_mixFigures_21 : decode cX6_mixFigures 21 = .ok (.getfield 19, 3) := by decide +kernel
theorem dX6_mixFigures_24 : decode cX6_mixFigures 24 = .ok (.getfield 98, 3) := by decide +kernel
theorem dX6_mixFigures_27 : decode cX6_mixFigures 27 = .ok (.iload 5, 2) := by decide +kernel
theorem dX6_mixFigures_29 : decode cX6_mixFigures 29 = .ok (.invokevirtual 105, 3) := by decide +kernel
theorem dX6_mixFigures_32 : decode cX6_mixFigures 32 = .ok (.checkcast 103, 3) := by decide +kernel
theorem dX6_mixFigures_35 : decode cX6_mixFigures 35 = .ok (.astore 6, 2) := by decide +kernel
theorem dX6_mixFigures_37 : decode cX6_mixFigures 37 = .ok (.iconst 0, 1) := by decide +kernel
theorem dX6_mixFigures_38 : decode cX6_mixFigures 38 = .ok (.istore 7, 2) := by decide +kernel
theorem dX6_mixFigures_40 : decode cX6_mixFigures 40 = .ok (.iload 7, 2) := by decide +kernel
theorem dX6_mixFigures_42 : decode cX6_mixFigures 42 = .ok (.bipush 7, 2) := by decide +kernel
theorem dX6_mixFigures_44 : decode cX6_mixFigures 44 = .ok (.if_icmp .gt 26, 3) := by decide +kernel
theorem dX6_mixFigures_47 : decode cX6_mixFigures 47 = .ok (.lload_n 3, 1) := by decide +kernel
theorem dX6_mixFigures_48 : decode cX6_mixFigures 48 = .ok (.aload_n 0, 1) := by decide +kernel
theorem dX6_mixFigures_49 : decode cX6_mixFigures 49 = .ok (.getfield 19, 3) := by decide +kernel
theorem dX6_mixFigures_52 : decode cX6_mixFigures 52 = .ok (.aload 6, 2) := by decide +kernel
theorem dX6_mixFigures_54 : decode cX6_mixFigures 54 = .ok (.iload 7, 2) := by decide +kernel
theorem dX6_mixFigures_56 : decode cX6_mixFigures 56 = .ok (.invokevirtual 297, 3) := by decide +kernel
theorem dX6_mixFigures_59 : decode cX6_mixFigures 59 = .ok (.i2l, 1) := by decide +kernel
theorem dX6_mixFigures_60 : decode cX6_mixFigures 60 = .ok (.invokestatic 332, 3) := by decide +kernel
theorem dX6_mixFigures_63 : decode cX6_mixFigures 63 = .ok (.lstore_n 3, 1) := by decide +kernel
theorem dX6_mixFigures_64 : decode cX6_mixFigures 64 = .ok (.iinc 7 1, 3) := by decide +kernel
theorem dX6_mixFigures_67 : decode cX6_mixFigures 67 = .ok (.goto (-27), 3) := by decide +kernel
theorem dX6_mixFigures_70 : decode cX6_mixFigures 70 = .ok (.lload_n 3, 1) := by decide +kernel
theorem dX6_mixFigures_71 : decode cX6_mixFigures 71 = .ok (.aload_n 0, 1) := by decide +kernel
theorem dX6_mixFigures_72 : decode cX6_mixFigures 72 = .ok (.getfield 19, 3) := by decide +kernel
theorem dX6_mixFigures_75 : decode cX6_mixFigures 75 = .ok (.aload 6, 2) := by decide +kernel
theorem dX6_mixFigures_77 : decode cX6_mixFigures 77 = .ok (.bipush 60, 2) := by decide +kernel
theorem dX6_mixFigures_79 : decode cX6_mixFigures 79 = .ok (.invokevirtual 324, 3) := by decide +kernel
theorem dX6_mixFigures_82 : decode cX6_mixFigures 82 = .ok (.i2l, 1) := by decide +kernel
theorem dX6_mixFigures_83 : decode cX6_mixFigures 83 = .ok (.invokestatic 332, 3) := by decide +kernel
theorem dX6_mixFigures_86 : decode cX6_mixFigures 86 = .ok (.lstore_n 3, 1) := by decide +kernel
theorem dX6_mixFigures_87 : decode cX6_mixFigures 87 = .ok (.iinc 5 1, 3) := by decide +kernel
theorem dX6_mixFigures_90 : decode cX6_mixFigures 90 = .ok (.goto (-85), 3) := by decide +kernel
theorem dX6_mixFigures_93 : decode cX6_mixFigures 93 = .ok (.lload_n 3, 1) := by decide +kernel
theorem dX6_mixFigures_94 : decode cX6_mixFigures 94 = .ok (.lreturn, 1) := by decide +kernel
theorem dX6_mixScenes_0 : decode cX6_mixScenes 0 = .ok (.lload_n 1, 1) := by decide +kernel
theorem dX6_mixScenes_1 : decode cX6_mixScenes 1 = .ok (.lstore_n 3, 1) := by decide +kernel
theorem dX6_mixScenes_2 : decode cX6_mixScenes 2 = .ok (.iconst 0, 1) := by decide +kernel
theorem dX6_mixScenes_3 : decode cX6_mixScenes 3 = .ok (.istore 5, 2) := by decide +kernel
theorem dX6_mixScenes_5 : decode cX6_mixScenes 5 = .ok (.iload 5, 2) := by decide +kernel
theorem dX6_mixScenes_7 : decode cX6_mixScenes 7 = .ok (.aload_n 0, 1) := by decide +kernel
theorem dX6_mixScenes_8 : decode cX6_mixScenes 8 = .ok (.getfield 10, 3) := by decide +kernel
theorem dX6_mixScenes_11 : decode cX6_mixScenes 11 = .ok (.getfield 131, 3) := by decide +kernel
theorem dX6_mixScenes_14 : decode cX6_mixScenes 14 = .ok (.invokevirtual 67, 3) := by decide +kernel
theorem dX6_mixScenes_17 : decode cX6_mixScenes 17 = .ok (.if_icmp .ge 51, 3) := by decide +kernel
theorem dX6_mixScenes_20 : decode cX6_mixScenes 20 = .ok (.iconst 0, 1) := by decide +kernel
theorem dX6_mixScenes_21 : decode cX6_mixScenes 21 = .ok (.istore 6, 2) := by decide +kernel
theorem dX6_mixScenes_23 : decode cX6_mixScenes 23 = .ok (.iload 6, 2) := by decide +kernel
theorem dX6_mixScenes_25 : decode cX6_mixScenes 25 = .ok (.bipush 8, 2) := by decide +kernel
theorem dX6_mixScenes_27 : decode cX6_mixScenes 27 = .ok (.if_icmp .gt 35, 3) := by decide +kernel
theorem dX6_mixScenes_30 : decode cX6_mixScenes 30 = .ok (.lload_n 3, 1) := by decide +kernel
theorem dX6_mixScenes_31 : decode cX6_mixScenes 31 = .ok (.aload_n 0, 1) := by decide +kernel
theorem dX6_mixScenes_32 : decode cX6_mixScenes 32 = .ok (.getfield 10, 3) := by decide +kernel
theorem dX6_mixScenes_35 : decode cX6_mixScenes 35 = .ok (.getfield 131, 3) := by decide +kernel
theorem dX6_mixScenes_38 : decode cX6_mixScenes 38 = .ok (.iload 5, 2) := by decide +kernel
theorem dX6_mixScenes_40 : decode cX6_mixScenes 40 = .ok (.invokevirtual 105, 3) := by decide +kernel
theorem dX6_mixScenes_43 : decode cX6_mixScenes 43 = .ok (.checkcast 147, 3) := by decide +kernel
theorem dX6_mixScenes_46 : decode cX6_mixScenes 46 = .ok (.iload 6, 2) := by decide +kernel
theorem dX6_mixScenes_48 : decode cX6_mixScenes 48 = .ok (.invokevirtual 302, 3) := by decide +kernel
theorem dX6_mixScenes_51 : decode cX6_mixScenes 51 = .ok (.i2l, 1) := by decide +kernel
theorem dX6_mixScenes_52 : decode cX6_mixScenes 52 = .ok (.invokestatic 332, 3) := by decide +kernel

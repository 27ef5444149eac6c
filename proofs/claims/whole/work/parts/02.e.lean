theorem dX7_offer_30 : decode cX7_offer 30 = .ok (.iconst 5, 1) := by decide +kernel
theorem dX7_offer_31 : decode cX7_offer 31 = .ok (.iadd, 1) := by decide +kernel
theorem dX7_offer_32 : decode cX7_offer 32 = .ok (.invokestatic 62, 3) := by decide +kernel
theorem dX7_offer_35 : decode cX7_offer 35 = .ok (.putfield 32, 3) := by decide +kernel
theorem dX7_offer_38 : decode cX7_offer 38 = .ok (.aload_n 0, 1) := by decide +kernel
theorem dX7_offer_39 : decode cX7_offer 39 = .ok (.iconst 3, 1) := by decide +kernel
theorem dX7_offer_40 : decode cX7_offer 40 = .ok (.iconst 0, 1) := by decide +kernel
theorem dX7_offer_41 : decode cX7_offer 41 = .ok (.invokevirtual 199, 3) := by decide +kernel
theorem dX7_offer_44 : decode cX7_offer 44 = .ok (.pop, 1) := by decide +kernel
theorem dX7_offer_45 : decode cX7_offer 45 = .ok (.aload_n 0, 1) := by decide +kernel
theorem dX7_offer_46 : decode cX7_offer 46 = .ok (.getfield 32, 3) := by decide +kernel
theorem dX7_offer_49 : decode cX7_offer 49 = .ok (.ireturn, 1) := by decide +kernel
theorem dX7_pass_0 : decode cX7_pass 0 = .ok (.aload_n 0, 1) := by decide +kernel
theorem dX7_pass_1 : decode cX7_pass 1 = .ok (.iconst 0, 1) := by decide +kernel
theorem dX7_pass_2 : decode cX7_pass 2 = .ok (.putfield 35, 3) := by decide +kernel
theorem dX7_pass_5 : decode cX7_pass 5 = .ok (.iload_n 1, 1) := by decide +kernel
theorem dX7_pass_6 : decode cX7_pass 6 = .ok (.iconst 1, 1) := by decide +kernel
theorem dX7_pass_7 : decode cX7_pass 7 = .ok (.bipush 99, 2) := by decide +kernel
theorem dX7_pass_9 : decode cX7_pass 9 = .ok (.invokestatic 42, 3) := by decide +kernel
theorem dX7_pass_12 : decode cX7_pass 12 = .ok (.ifCond .ne 9, 3) := by decide +kernel
theorem dX7_pass_15 : decode cX7_pass 15 = .ok (.aload_n 0, 1) := by decide +kernel
theorem dX7_pass_16 : decode cX7_pass 16 = .ok (.iconst 1, 1) := by decide +kernel
theorem dX7_pass_17 : decode cX7_pass 17 = .ok (.invokevirtual 93, 3) := by decide +kernel
theorem dX7_pass_20 : decode cX7_pass 20 = .ok (.ireturn, 1) := by decide +kernel
theorem dX7_pass_21 : decode cX7_pass 21 = .ok (.aload_n 0, 1) := by decide +kernel
theorem dX7_pass_22 : decode cX7_pass 22 = .ok (.getfield 86, 3) := by decide +kernel
theorem dX7_pass_25 : decode cX7_pass 25 = .ok (.iload_n 1, 1) := by decide +kernel
theorem dX7_pass_26 : decode cX7_pass 26 = .ok (.iadd, 1) := by decide +kernel
theorem dX7_pass_27 : decode cX7_pass 27 = .ok (.sipush 540, 3) := by decide +kernel
theorem dX7_pass_30 : decode cX7_pass 30 = .ok (.if_icmp .le 9, 3) := by decide +kernel
theorem dX7_pass_33 : decode cX7_pass 33 = .ok (.aload_n 0, 1) := by decide +kernel
theorem dX7_pass_34 : decode cX7_pass 34 = .ok (.iconst 2, 1) := by decide +kernel
theorem dX7_pass_35 : decode cX7_pass 35 = .ok (.invokevirtual 93, 3) := by decide +kernel
theorem dX7_pass_38 : decode cX7_pass 38 = .ok (.ireturn, 1) := by decide +kernel
theorem dX7_pass_39 : decode cX7_pass 39 = .ok (.aload_n 0, 1) := by decide +kernel
theorem dX7_pass_40 : decode cX7_pass 40 = .ok (.iload_n 1, 1) := by decide +kernel
theorem dX7_pass_41 : decode cX7_pass 41 = .ok (.iconst 0, 1) := by decide +kernel
theorem dX7_pass_42 : decode cX7_pass 42 = .ok (.invokevirtual 199, 3) := by decide +kernel
theorem dX7_pass_45 : decode cX7_pass 45 = .ok (.ireturn, 1) := by decide +kernel
theorem dX7_knowsBehind_0 : decode cX7_knowsBehind 0 = .ok (.iload_n 2, 1) := by decide +kernel
theorem dX7_knowsBehind_1 : decode cX7_knowsBehind 1 = .ok (.iconst (-1), 1) := by decide +kernel
theorem dX7_knowsBehind_2 : decode cX7_knowsBehind 2 = .ok (.if_icmp .ne 28, 3) := by decide +kernel
theorem dX7_knowsBehind_5 : decode cX7_knowsBehind 5 = .ok (.aload_n 0, 1) := by decide +kernel
theorem dX7_knowsBehind_6 : decode cX7_knowsBehind 6 = .ok (.getfield 10, 3) := by decide +kernel
theorem dX7_knowsBehind_9 : decode cX7_knowsBehind 9 = .ok (.iload_n 1, 1) := by decide +kernel
theorem dX7_knowsBehind_10 : decode cX7_knowsBehind 10 = .ok (.invokevirtual 48, 3) := by decide +kernel
theorem dX7_knowsBehind_13 : decode cX7_knowsBehind 13 = .ok (.checkcast 52, 3) := by decide +kernel
theorem dX7_knowsBehind_16 : decode cX7_knowsBehind 16 = .ok (.iconst 5, 1) := by decide +kernel
theorem dX7_knowsBehind_17 : decode cX7_knowsBehind 17 = .ok (.iaload, 1) := by decide +kernel
theorem dX7_knowsBehind_18 : decode cX7_knowsBehind 18 = .ok (.iconst 1, 1) := by decide +kernel
theorem dX7_knowsBehind_19 : decode cX7_knowsBehind 19 = .ok (.if_icmp .ne 7, 3) := by decide +kernel
theorem dX7_knowsBehind_22 : decode cX7_knowsBehind 22 = .ok (.iconst 1, 1) := by decide +kernel
theorem dX7_knowsBehind_23 : decode cX7_knowsBehind 23 = .ok (.goto 32, 3) := by decide +kernel
theorem dX7_knowsBehind_26 : decode cX7_knowsBehind 26 = .ok (.iconst 0, 1) := by decide +kernel
theorem dX7_knowsBehind_27 : decode cX7_knowsBehind 27 = .ok (.goto 28, 3) := by decide +kernel
theorem dX7_knowsBehind_30 : decode cX7_knowsBehind 30 = .ok (.aload_n 0, 1) := by decide +kernel
theorem dX7_knowsBehind_31 : decode cX7_knowsBehind 31 = .ok (.aload_n 0, 1) := by decide +kernel
theorem dX7_knowsBehind_32 : decode cX7_knowsBehind 32 = .ok (.getfield 19, 3) := by decide +kernel
theorem dX7_knowsBehind_35 : decode cX7_knowsBehind 35 = .ok (.invokevirtual 68, 3) := by decide +kernel
theorem dX7_knowsBehind_38 : decode cX7_knowsBehind 38 = .ok (.iload_n 2, 1) := by decide +kernel
theorem dX7_knowsBehind_39 : decode cX7_knowsBehind 39 = .ok (.aaload, 1) := by decide +kernel
theorem dX7_knowsBehind_40 : decode cX7_knowsBehind 40 = .ok (.iconst 2, 1) := by decide +kernel
theorem dX7_knowsBehind_41 : decode cX7_knowsBehind 41 = .ok (.iaload, 1) := by decide +kernel
theorem dX7_knowsBehind_42 : decode cX7_knowsBehind 42 = .ok (.iload_n 1, 1) := by decide +kernel
theorem dX7_knowsBehind_43 : decode cX7_knowsBehind 43 = .ok (.ishr, 1) := by decide +kernel
theorem dX7_knowsBehind_44 : decode cX7_knowsBehind 44 = .ok (.iconst 1, 1) := by decide +kernel
theorem dX7_knowsBehind_45 : decode cX7_knowsBehind 45 = .ok (.iand, 1) := by decide +kernel
theorem dX7_knowsBehind_46 : decode cX7_knowsBehind 46 = .ok (.iconst 1, 1) := by decide +kernel
theorem dX7_knowsBehind_47 : decode cX7_knowsBehind 47 = .ok (.if_icmp .ne 7, 3) := by decide +kernel
theorem dX7_knowsBehind_50 : decode cX7_knowsBehind 50 = .ok (.iconst 1, 1) := by decide +kernel
theorem dX7_knowsBehind_51 : decode cX7_knowsBehind 51 = .ok (.goto 4, 3) := by decide +kernel
theorem dX7_knowsBehind_54 : decode cX7_knowsBehind 54 = .ok (.iconst 0, 1) := by decide +kernel
theorem dX7_knowsBehind_55 : decode cX7_knowsBehind 55 = .ok (.ireturn, 1) := by decide +kernel
theorem dX7_knows_0 : decode cX7_knows 0 = .ok (.aload_n 0, 1) := by decide +kernel
theorem dX7_knows_1 : decode cX7_knows 1 = .ok (.aload_n 0, 1) := by decide +kernel
theorem dX7_knows_2 : decode cX7_knows 2 = .ok (.iload_n 1, 1) := by decide +kernel
theorem dX7_knows_3 : decode cX7_knows 3 = .ok (.invokevirtual 101, 3) := by decide +kernel
theorem dX7_knows_6 : decode cX7_knows 6 = .ok (.ifCond .eq 20, 3) := by decide +kernel
theorem dX7_knows_9 : decode cX7_knows 9 = .ok (.iload_n 2, 1) := by decide +kernel
theorem dX7_knows_10 : decode cX7_knows 10 = .ok (.iconst (-1), 1) := by decide +kernel
theorem dX7_knows_11 : decode cX7_knows 11 = .ok (.if_icmp .eq 11, 3) := by decide +kernel
theorem dX7_knows_14 : decode cX7_knows 14 = .ok (.aload_n 0, 1) := by decide +kernel
theorem dX7_knows_15 : decode cX7_knows 15 = .ok (.iload_n 2, 1) := by decide +kernel
theorem dX7_knows_16 : decode cX7_knows 16 = .ok (.invokevirtual 109, 3) := by decide +kernel
theorem dX7_knows_19 : decode cX7_knows 19 = .ok (.ifCond .eq 7, 3) := by decide +kernel
theorem dX7_knows_22 : decode cX7_knows 22 = .ok (.iconst 0, 1) := by decide +kernel
theorem dX7_knows_23 : decode cX7_knows 23 = .ok (.goto 4, 3) := by decide +kernel
theorem dX7_knows_26 : decode cX7_knows 26 = .ok (.iconst 1, 1) := by decide +kernel
theorem dX7_knows_27 : decode cX7_knows 27 = .ok (.putfield 35, 3) := by decide +kernel
theorem dX7_knows_30 : decode cX7_knows 30 = .ok (.aload_n 0, 1) := by decide +kernel
theorem dX7_knows_31 : decode cX7_knows 31 = .ok (.getfield 35, 3) := by decide +kernel
theorem dX7_knows_34 : decode cX7_knows 34 = .ok (.ifCond .ne 16, 3) := by decide +kernel
theorem dX7_knows_37 : decode cX7_knows 37 = .ok (.aload_n 0, 1) := by decide +kernel
theorem dX7_knows_38 : decode cX7_knows 38 = .ok (.iload_n 1, 1) := by decide +kernel
theorem dX7_knows_39 : decode cX7_knows 39 = .ok (.iload_n 2, 1) := by decide +kernel
theorem dX7_knows_40 : decode cX7_knows 40 = .ok (.invokevirtual 206, 3) := by decide +kernel
theorem dX7_knows_43 : decode cX7_knows 43 = .ok (.ifCond .eq 7, 3) := by decide +kernel
theorem dX7_knows_46 : decode cX7_knows 46 = .ok (.iconst 1, 1) := by decide +kernel
theorem dX7_knows_47 : decode cX7_knows 47 = .ok (.goto 4, 3) := by decide +kernel
theorem dX7_knows_50 : decode cX7_knows 50 = .ok (.iconst 0, 1) := by decide +kernel
theorem dX7_knows_51 : decode cX7_knows 51 = .ok (.ireturn, 1) := by decide +kernel
theorem dX7_ofFigureNow_0 : decode cX7_ofFigureNow 0 = .ok (.aload_n 0, 1) := by decide +kernel
theorem dX7_ofFigureNow_1 : decode cX7_ofFigureNow 1 = .ok (.getfield 16, 3) := by decide +kernel
theorem dX7_ofFigureNow_4 : decode cX7_ofFigureNow 4 = .ok (.iload_n 1, 1) := by decide +kernel
theorem dX7_ofFigureNow_5 : decode cX7_ofFigureNow 5 = .ok (.invokevirtual 48, 3) := by decide +kernel
theorem dX7_ofFigureNow_8 : decode cX7_ofFigureNow 8 = .ok (.checkcast 52, 3) := by decide +kernel
theorem dX7_ofFigureNow_11 : decode cX7_ofFigureNow 11 = .ok (.astore_n 3, 1) := by decide +kernel
theorem dX7_ofFigureNow_12 : decode cX7_ofFigureNow 12 = .ok (.iload_n 2, 1) := by decide +kernel
theorem dX7_ofFigureNow_13 : decode cX7_ofFigureNow 13 = .ok (.bipush 6, 2) := by decide +kernel
theorem dX7_ofFigureNow_15 : decode cX7_ofFigureNow 15 = .ok (.if_icmp .ge 7, 3) := by decide +kernel
theorem dX7_ofFigureNow_18 : decode cX7_ofFigureNow 18 = .ok (.aload_n 3, 1) := by decide +kernel
theorem dX7_ofFigureNow_19 : decode cX7_ofFigureNow 19 = .ok (.iload_n 2, 1) := by decide +kernel
theorem dX7_ofFigureNow_20 : decode cX7_ofFigureNow 20 = .ok (.iaload, 1) := by decide +kernel
theorem dX7_ofFigureNow_21 : decode cX7_ofFigureNow 21 = .ok (.ireturn, 1) := by decide +kernel
theorem dX7_ofFigureNow_22 : decode cX7_ofFigureNow 22 = .ok (.iload_n 2, 1) := by decide +kernel
theorem dX7_ofFigureNow_23 : decode cX7_ofFigureNow 23 = .ok (.bipush 6, 2) := by decide +kernel
theorem dX7_ofFigureNow_25 : decode cX7_ofFigureNow 25 = .ok (.if_icmp .ne 14, 3) := by decide +kernel
theorem dX7_ofFigureNow_28 : decode cX7_ofFigureNow 28 = .ok (.aload_n 0, 1) := by decide +kernel
theorem dX7_ofFigureNow_29 : decode cX7_ofFigureNow 29 = .ok (.aload_n 3, 1) := by decide +kernel
theorem dX7_ofFigureNow_30 : decode cX7_ofFigureNow 30 = .ok (.aload_n 3, 1) := by decide +kernel
theorem dX7_ofFigureNow_31 : decode cX7_ofFigureNow 31 = .ok (.iconst 5, 1) := by decide +kernel
theorem dX7_ofFigureNow_32 : decode cX7_ofFigureNow 32 = .ok (.iaload, 1) := by decide +kernel
theorem dX7_ofFigureNow_33 : decode cX7_ofFigureNow 33 = .ok (.invokevirtual 148, 3) := by decide +kernel
theorem dX7_ofFigureNow_36 : decode cX7_ofFigureNow 36 = .ok (.goto 22, 3) := by decide +kernel
theorem dX7_ofFigureNow_39 : decode cX7_ofFigureNow 39 = .ok (.aload_n 3, 1) := by decide +kernel
theorem dX7_ofFigureNow_40 : decode cX7_ofFigureNow 40 = .ok (.iconst 5, 1) := by decide +kernel
theorem dX7_ofFigureNow_41 : decode cX7_ofFigureNow 41 = .ok (.iaload, 1) := by decide +kernel
theorem dX7_ofFigureNow_42 : decode cX7_ofFigureNow 42 = .ok (.aload_n 0, 1) := by decide +kernel
theorem dX7_ofFigureNow_43 : decode cX7_ofFigureNow 43 = .ok (.getfield 120, 3) := by decide +kernel
theorem dX7_ofFigureNow_46 : decode cX7_ofFigureNow 46 = .ok (.iconst 1, 1) := by decide +kernel
theorem dX7_ofFigureNow_47 : decode cX7_ofFigureNow 47 = .ok (.iadd, 1) := by decide +kernel
theorem dX7_ofFigureNow_48 : decode cX7_ofFigureNow 48 = .ok (.imul, 1) := by decide +kernel
theorem dX7_ofFigureNow_49 : decode cX7_ofFigureNow 49 = .ok (.iconst 4, 1) := by decide +kernel
theorem dX7_ofFigureNow_50 : decode cX7_ofFigureNow 50 = .ok (.idiv, 1) := by decide +kernel
theorem dX7_ofFigureNow_51 : decode cX7_ofFigureNow 51 = .ok (.aload_n 3, 1) := by decide +kernel
theorem dX7_ofFigureNow_52 : decode cX7_ofFigureNow 52 = .ok (.iconst 2, 1) := by decide +kernel
theorem dX7_ofFigureNow_53 : decode cX7_ofFigureNow 53 = .ok (.iaload, 1) := by decide +kernel
theorem dX7_ofFigureNow_54 : decode cX7_ofFigureNow 54 = .ok (.bipush 10, 2) := by decide +kernel
theorem dX7_ofFigureNow_56 : decode cX7_ofFigureNow 56 = .ok (.idiv, 1) := by decide +kernel
theorem dX7_ofFigureNow_57 : decode cX7_ofFigureNow 57 = .ok (.iadd, 1) := by decide +kernel
theorem dX7_ofFigureNow_58 : decode cX7_ofFigureNow 58 = .ok (.ireturn, 1) := by decide +kernel
theorem dX7_ofFigure_0 : decode cX7_ofFigure 0 = .ok (.aload_n 0, 1) := by decide +kernel
theorem dX7_ofFigure_1 : decode cX7_ofFigure 1 = .ok (.iconst 0, 1) := by decide +kernel
theorem dX7_ofFigure_2 : decode cX7_ofFigure 2 = .ok (.putfield 35, 3) := by decide +kernel
theorem dX7_ofFigure_5 : decode cX7_ofFigure 5 = .ok (.aload_n 0, 1) := by decide +kernel
theorem dX7_ofFigure_6 : decode cX7_ofFigure 6 = .ok (.iload_n 1, 1) := by decide +kernel
theorem dX7_ofFigure_7 : decode cX7_ofFigure 7 = .ok (.invokevirtual 132, 3) := by decide +kernel
theorem dX7_ofFigure_10 : decode cX7_ofFigure 10 = .ok (.ifCond .ne 9, 3) := by decide +kernel
theorem dX7_ofFigure_13 : decode cX7_ofFigure 13 = .ok (.aload_n 0, 1) := by decide +kernel
theorem dX7_ofFigure_14 : decode cX7_ofFigure 14 = .ok (.iconst 1, 1) := by decide +kernel
theorem dX7_ofFigure_15 : decode cX7_ofFigure 15 = .ok (.invokevirtual 93, 3) := by decide +kernel
theorem dX7_ofFigure_18 : decode cX7_ofFigure 18 = .ok (.ireturn, 1) := by decide +kernel
theorem dX7_ofFigure_19 : decode cX7_ofFigure 19 = .ok (.iload_n 2, 1) := by decide +kernel
theorem dX7_ofFigure_20 : decode cX7_ofFigure 20 = .ok (.iconst 0, 1) := by decide +kernel
theorem dX7_ofFigure_21 : decode cX7_ofFigure 21 = .ok (.bipush 7, 2) := by decide +kernel
theorem dX7_ofFigure_23 : decode cX7_ofFigure 23 = .ok (.invokestatic 42, 3) := by decide +kernel
theorem dX7_ofFigure_26 : decode cX7_ofFigure 26 = .ok (.ifCond .eq 12, 3) := by decide +kernel
theorem dX7_ofFigure_29 : decode cX7_ofFigure 29 = .ok (.aload_n 0, 1) := by decide +kernel
theorem dX7_ofFigure_30 : decode cX7_ofFigure 30 = .ok (.iload_n 1, 1) := by decide +kernel
theorem dX7_ofFigure_31 : decode cX7_ofFigure 31 = .ok (.iload_n 2, 1) := by decide +kernel
theorem dX7_ofFigure_32 : decode cX7_ofFigure 32 = .ok (.invokevirtual 209, 3) := by decide +kernel
theorem dX7_ofFigure_35 : decode cX7_ofFigure 35 = .ok (.goto 8, 3) := by decide +kernel
theorem dX7_ofFigure_38 : decode cX7_ofFigure 38 = .ok (.aload_n 0, 1) := by decide +kernel
theorem dX7_ofFigure_39 : decode cX7_ofFigure 39 = .ok (.iconst 2, 1) := by decide +kernel
theorem dX7_ofFigure_40 : decode cX7_ofFigure 40 = .ok (.invokevirtual 93, 3) := by decide +kernel
theorem dX7_ofFigure_43 : decode cX7_ofFigure 43 = .ok (.ireturn, 1) := by decide +kernel
theorem dX7_ofSceneNow_0 : decode cX7_ofSceneNow 0 = .ok (.iload_n 2, 1) := by decide +kernel
theorem dX7_ofSceneNow_1 : decode cX7_ofSceneNow 1 = .ok (.bipush 6, 2) := by decide +kernel
theorem dX7_ofSceneNow_3 : decode cX7_ofSceneNow 3 = .ok (.if_icmp .ge 17, 3) := by decide +kernel
theorem dX7_ofSceneNow_6 : decode cX7_ofSceneNow 6 = .ok (.aload_n 0, 1) := by decide +kernel
theorem dX7_ofSceneNow_7 : decode cX7_ofSceneNow 7 = .ok (.getfield 19, 3) := by decide +kernel
theorem dX7_ofSceneNow_10 : decode cX7_ofSceneNow 10 = .ok (.iload_n 1, 1) := by decide +kernel
theorem dX7_ofSceneNow_11 : decode cX7_ofSceneNow 11 = .ok (.invokevirtual 48, 3) := by decide +kernel
theorem dX7_ofSceneNow_14 : decode cX7_ofSceneNow 14 = .ok (.checkcast 52, 3) := by decide +kernel
theorem dX7_ofSceneNow_17 : decode cX7_ofSceneNow 17 = .ok (.iload_n 2, 1) := by decide +kernel
theorem dX7_ofSceneNow_18 : decode cX7_ofSceneNow 18 = .ok (.iaload, 1) := by decide +kernel
theorem dX7_ofSceneNow_19 : decode cX7_ofSceneNow 19 = .ok (.ireturn, 1) := by decide +kernel
theorem dX7_ofSceneNow_20 : decode cX7_ofSceneNow 20 = .ok (.aload_n 0, 1) := by decide +kernel
theorem dX7_ofSceneNow_21 : decode cX7_ofSceneNow 21 = .ok (.aload_n 0, 1) := by decide +kernel
theorem dX7_ofSceneNow_22 : decode cX7_ofSceneNow 22 = .ok (.getfield 19, 3) := by decide +kernel
theorem dX7_ofSceneNow_25 : decode cX7_ofSceneNow 25 = .ok (.invokevirtual 68, 3) := by decide +kernel
theorem dX7_ofSceneNow_28 : decode cX7_ofSceneNow 28 = .ok (.iload_n 1, 1) := by decide +kernel
theorem dX7_ofSceneNow_29 : decode cX7_ofSceneNow 29 = .ok (.aaload, 1) := by decide +kernel
theorem dX7_ofSceneNow_30 : decode cX7_ofSceneNow 30 = .ok (.astore_n 3, 1) := by decide +kernel
theorem dX7_ofSceneNow_31 : decode cX7_ofSceneNow 31 = .ok (.iload_n 2, 1) := by decide +kernel
theorem dX7_ofSceneNow_32 : decode cX7_ofSceneNow 32 = .ok (.bipush 6, 2) := by decide +kernel
theorem dX7_ofSceneNow_34 : decode cX7_ofSceneNow 34 = .ok (.if_icmp .ne 9, 3) := by decide +kernel
theorem dX7_ofSceneNow_37 : decode cX7_ofSceneNow 37 = .ok (.aload_n 3, 1) := by decide +kernel
theorem dX7_ofSceneNow_38 : decode cX7_ofSceneNow 38 = .ok (.iconst 0, 1) := by decide +kernel
theorem dX7_ofSceneNow_39 : decode cX7_ofSceneNow 39 = .ok (.iaload, 1) := by decide +kernel
theorem dX7_ofSceneNow_40 : decode cX7_ofSceneNow 40 = .ok (.goto 26, 3) := by decide +kernel
theorem dX7_ofSceneNow_43 : decode cX7_ofSceneNow 43 = .ok (.iload_n 2, 1) := by decide +kernel
theorem dX7_ofSceneNow_44 : decode cX7_ofSceneNow 44 = .ok (.bipush 7, 2) := by decide +kernel
theorem dX7_ofSceneNow_46 : decode cX7_ofSceneNow 46 = .ok (.if_icmp .ne 17, 3) := by decide +kernel
theorem dX7_ofSceneNow_49 : decode cX7_ofSceneNow 49 = .ok (.iconst 2, 1) := by decide +kernel
theorem dX7_ofSceneNow_50 : decode cX7_ofSceneNow 50 = .ok (.aload_n 3, 1) := by decide +kernel
theorem dX7_ofSceneNow_51 : decode cX7_ofSceneNow 51 = .ok (.iconst 0, 1) := by decide +kernel
theorem dX7_ofSceneNow_52 : decode cX7_ofSceneNow 52 = .ok (.iaload, 1) := by decide +kernel
theorem dX7_ofSceneNow_53 : decode cX7_ofSceneNow 53 = .ok (.sipush 180, 3) := by decide +kernel
theorem dX7_ofSceneNow_56 : decode cX7_ofSceneNow 56 = .ok (.idiv, 1) := by decide +kernel
theorem dX7_ofSceneNow_57 : decode cX7_ofSceneNow 57 = .ok (.invokestatic 62, 3) := by decide +kernel
theorem dX7_ofSceneNow_60 : decode cX7_ofSceneNow 60 = .ok (.goto 6, 3) := by decide +kernel
theorem dX7_ofSceneNow_63 : decode cX7_ofSceneNow 63 = .ok (.aload_n 3, 1) := by decide +kernel
theorem dX7_ofSceneNow_64 : decode cX7_ofSceneNow 64 = .ok (.iconst 1, 1) := by decide +kernel
theorem dX7_ofSceneNow_65 : decode cX7_ofSceneNow 65 = .ok (.iaload, 1) := by decide +kernel
theorem dX7_ofSceneNow_66 : decode cX7_ofSceneNow 66 = .ok (.ireturn, 1) := by decide +kernel
theorem dX7_ofScene_0 : decode cX7_ofScene 0 = .ok (.aload_n 0, 1) := by decide +kernel
theorem dX7_ofScene_1 : decode cX7_ofScene 1 = .ok (.iconst 0, 1) := by decide +kernel
theorem dX7_ofScene_2 : decode cX7_ofScene 2 = .ok (.putfield 35, 3) := by decide +kernel
theorem dX7_ofScene_5 : decode cX7_ofScene 5 = .ok (.aload_n 0, 1) := by decide +kernel
theorem dX7_ofScene_6 : decode cX7_ofScene 6 = .ok (.iload_n 1, 1) := by decide +kernel
theorem dX7_ofScene_7 : decode cX7_ofScene 7 = .ok (.invokevirtual 109, 3) := by decide +kernel
theorem dX7_ofScene_10 : decode cX7_ofScene 10 = .ok (.ifCond .ne 9, 3) := by decide +kernel
theorem dX7_ofScene_13 : decode cX7_ofScene 13 = .ok (.aload_n 0, 1) := by decide +kernel
theorem dX7_ofScene_14 : decode cX7_ofScene 14 = .ok (.iconst 1, 1) := by decide +kernel
theorem dX7_ofScene_15 : decode cX7_ofScene 15 = .ok (.invokevirtual 93, 3) := by decide +kernel
theorem dX7_ofScene_18 : decode cX7_ofScene 18 = .ok (.ireturn, 1) := by decide +kernel
theorem dX7_ofScene_19 : decode cX7_ofScene 19 = .ok (.iload_n 2, 1) := by decide +kernel
theorem dX7_ofScene_20 : decode cX7_ofScene 20 = .ok (.iconst 0, 1) := by decide +kernel
theorem dX7_ofScene_21 : decode cX7_ofScene 21 = .ok (.bipush 8, 2) := by decide +kernel
theorem dX7_ofScene_23 : decode cX7_ofScene 23 = .ok (.invokestatic 42, 3) := by decide +kernel
theorem dX7_ofScene_26 : decode cX7_ofScene 26 = .ok (.ifCond .eq 12, 3) := by decide +kernel
theorem dX7_ofScene_29 : decode cX7_ofScene 29 = .ok (.aload_n 0, 1) := by decide +kernel
theorem dX7_ofScene_30 : decode cX7_ofScene 30 = .ok (.iload_n 1, 1) := by decide +kernel
theorem dX7_ofScene_31 : decode cX7_ofScene 31 = .ok (.iload_n 2, 1) := by decide +kernel
theorem dX7_ofScene_32 : decode cX7_ofScene 32 = .ok (.invokevirtual 212, 3) := by decide +kernel
theorem dX7_ofScene_35 : decode cX7_ofScene 35 = .ok (.goto 8, 3) := by decide +kernel
theorem dX7_ofScene_38 : decode cX7_ofScene 38 = .ok (.aload_n 0, 1) := by decide +kernel
theorem dX7_ofScene_39 : decode cX7_ofScene 39 = .ok (.iconst 2, 1) := by decide +kernel
theorem dX7_ofScene_40 : decode cX7_ofScene 40 = .ok (.invokevirtual 93, 3) := by decide +kernel
theorem dX7_ofScene_43 : decode cX7_ofScene 43 = .ok (.ireturn, 1) := by decide +kernel
theorem dX7_at__0 : decode cX7_at_ 0 = .ok (.aload_n 0, 1) := by decide +kernel
theorem dX7_at__1 : decode cX7_at_ 1 = .ok (.iconst 0, 1) := by decide +kernel
theorem dX7_at__2 : decode cX7_at_ 2 = .ok (.putfield 35, 3) := by decide +kernel
theorem dX7_at__5 : decode cX7_at_ 5 = .ok (.iload_n 1, 1) := by decide +kernel
theorem dX7_at__6 : decode cX7_at_ 6 = .ok (.iconst 0, 1) := by decide +kernel
theorem dX7_at__7 : decode cX7_at_ 7 = .ok (.bipush 9, 2) := by decide +kernel
theorem dX7_at__9 : decode cX7_at_ 9 = .ok (.invokestatic 42, 3) := by decide +kernel
theorem dX7_at__12 : decode cX7_at_ 12 = .ok (.ifCond .eq 12, 3) := by decide +kernel
theorem dX7_at__15 : decode cX7_at_ 15 = .ok (.aload_n 0, 1) := by decide +kernel
theorem dX7_at__16 : decode cX7_at_ 16 = .ok (.iload_n 1, 1) := by decide +kernel
theorem dX7_at__17 : decode cX7_at_ 17 = .ok (.iconst (-1), 1) := by decide +kernel
theorem dX7_at__18 : decode cX7_at_ 18 = .ok (.invokevirtual 126, 3) := by decide +kernel
theorem dX7_at__21 : decode cX7_at_ 21 = .ok (.goto 8, 3) := by decide +kernel
theorem dX7_at__24 : decode cX7_at_ 24 = .ok (.aload_n 0, 1) := by decide +kernel
theorem dX7_at__25 : decode cX7_at_ 25 = .ok (.iconst 1, 1) := by decide +kernel
theorem dX7_at__26 : decode cX7_at_ 26 = .ok (.invokevirtual 93, 3) := by decide +kernel
theorem dX7_at__29 : decode cX7_at_ 29 = .ok (.ireturn, 1) := by decide +kernel
theorem dX7_soundNow_0 : decode cX7_soundNow 0 = .ok (.iconst 4, 1) := by decide +kernel
theorem dX7_soundNow_1 : decode cX7_soundNow 1 = .ok (.newarray .int, 2) := by decide +kernel
theorem dX7_soundNow_3 : decode cX7_soundNow 3 = .ok (.dup, 1) := by decide +kernel
theorem dX7_soundNow_4 : decode cX7_soundNow 4 = .ok (.iconst 0, 1) := by decide +kernel
theorem dX7_soundNow_5 : decode cX7_soundNow 5 = .ok (.aload_n 0, 1) := by decide +kernel
theorem dX7_soundNow_6 : decode cX7_soundNow 6 = .ok (.getfield 26, 3) := by decide +kernel
theorem dX7_soundNow_9 : decode cX7_soundNow 9 = .ok (.iastore, 1) := by decide +kernel
theorem dX7_soundNow_10 : decode cX7_soundNow 10 = .ok (.dup, 1) := by decide +kernel
theorem dX7_soundNow_11 : decode cX7_soundNow 11 = .ok (.iconst 1, 1) := by decide +kernel
theorem dX7_soundNow_12 : decode cX7_soundNow 12 = .ok (.aload_n 0, 1) := by decide +kernel
theorem dX7_soundNow_13 : decode cX7_soundNow 13 = .ok (.getfield 164, 3) := by decide +kernel
theorem dX7_soundNow_16 : decode cX7_soundNow 16 = .ok (.iastore, 1) := by decide +kernel
theorem dX7_soundNow_17 : decode cX7_soundNow 17 = .ok (.dup, 1) := by decide +kernel
theorem dX7_soundNow_18 : decode cX7_soundNow 18 = .ok (.iconst 2, 1) := by decide +kernel
theorem dX7_soundNow_19 : decode cX7_soundNow 19 = .ok (.aload_n 0, 1) := by decide +kernel
theorem dX7_soundNow_20 : decode cX7_soundNow 20 = .ok (.getfield 167, 3) := by decide +kernel
theorem dX7_soundNow_23 : decode cX7_soundNow 23 = .ok (.iastore, 1) := by decide +kernel
theorem dX7_soundNow_24 : decode cX7_soundNow 24 = .ok (.dup, 1) := by decide +kernel
theorem dX7_soundNow_25 : decode cX7_soundNow 25 = .ok (.iconst 3, 1) := by decide +kernel
theorem dX7_soundNow_26 : decode cX7_soundNow 26 = .ok (.aload_n 0, 1) := by decide +kernel
theorem dX7_soundNow_27 : decode cX7_soundNow 27 = .ok (.getfield 161, 3) := by decide +kernel
theorem dX7_soundNow_30 : decode cX7_soundNow 30 = .ok (.iastore, 1) := by decide +kernel
theorem dX7_soundNow_31 : decode cX7_soundNow 31 = .ok (.astore_n 2, 1) := by decide +kernel
theorem dX7_soundNow_32 : decode cX7_soundNow 32 = .ok (.aload_n 2, 1) := by decide +kernel
theorem dX7_soundNow_33 : decode cX7_soundNow 33 = .ok (.iload_n 1, 1) := by decide +kernel
theorem dX7_soundNow_34 : decode cX7_soundNow 34 = .ok (.iaload, 1) := by decide +kernel
theorem dX7_soundNow_35 : decode cX7_soundNow 35 = .ok (.ireturn, 1) := by decide +kernel
theorem dX7_sound_0 : decode cX7_sound 0 = .ok (.aload_n 0, 1) := by decide +kernel
theorem dX7_sound_1 : decode cX7_sound 1 = .ok (.iconst 0, 1) := by decide +kernel
theorem dX7_sound_2 : decode cX7_sound 2 = .ok (.putfield 35, 3) := by decide +kernel
theorem dX7_sound_5 : decode cX7_sound 5 = .ok (.iload_n 1, 1) := by decide +kernel
theorem dX7_sound_6 : decode cX7_sound 6 = .ok (.iconst 0, 1) := by decide +kernel
theorem dX7_sound_7 : decode cX7_sound 7 = .ok (.iconst 3, 1) := by decide +kernel
theorem dX7_sound_8 : decode cX7_sound 8 = .ok (.invokestatic 42, 3) := by decide +kernel
theorem dX7_sound_11 : decode cX7_sound 11 = .ok (.ifCond .eq 11, 3) := by decide +kernel
theorem dX7_sound_14 : decode cX7_sound 14 = .ok (.aload_n 0, 1) := by decide +kernel
theorem dX7_sound_15 : decode cX7_sound 15 = .ok (.iload_n 1, 1) := by decide +kernel
theorem dX7_sound_16 : decode cX7_sound 16 = .ok (.invokevirtual 215, 3) := by decide +kernel
theorem dX7_sound_19 : decode cX7_sound 19 = .ok (.goto 8, 3) := by decide +kernel
theorem dX7_sound_22 : decode cX7_sound 22 = .ok (.aload_n 0, 1) := by decide +kernel
theorem dX7_sound_23 : decode cX7_sound 23 = .ok (.iconst 1, 1) := by decide +kernel
theorem dX7_sound_24 : decode cX7_sound 24 = .ok (.invokevirtual 93, 3) := by decide +kernel
theorem dX7_sound_27 : decode cX7_sound 27 = .ok (.ireturn, 1) := by decide +kernel
theorem dX7_manyNow_0 : decode cX7_manyNow 0 = .ok (.aload_n 0, 1) := by decide +kernel
theorem dX7_manyNow_1 : decode cX7_manyNow 1 = .ok (.invokevirtual 188, 3) := by decide +kernel
theorem dX7_manyNow_4 : decode cX7_manyNow 4 = .ok (.istore_n 2, 1) := by decide +kernel
theorem dX7_manyNow_5 : decode cX7_manyNow 5 = .ok (.aload_n 0, 1) := by decide +kernel
theorem dX7_manyNow_6 : decode cX7_manyNow 6 = .ok (.invokevirtual 155, 3) := by decide +kernel
theorem dX7_manyNow_9 : decode cX7_manyNow 9 = .ok (.istore_n 3, 1) := by decide +kernel
theorem dX7_manyNow_10 : decode cX7_manyNow 10 = .ok (.bipush 16, 2) := by decide +kernel
theorem dX7_manyNow_12 : decode cX7_manyNow 12 = .ok (.newarray .int, 2) := by decide +kernel
theorem dX7_manyNow_14 : decode cX7_manyNow 14 = .ok (.dup, 1) := by decide +kernel
theorem dX7_manyNow_15 : decode cX7_manyNow 15 = .ok (.iconst 0, 1) := by decide +kernel
theorem dX7_manyNow_16 : decode cX7_manyNow 16 = .ok (.aload_n 0, 1) := by decide +kernel
theorem dX7_manyNow_17 : decode cX7_manyNow 17 = .ok (.getfield 86, 3) := by decide +kernel
theorem dX7_manyNow_20 : decode cX7_manyNow 20 = .ok (.iastore, 1) := by decide +kernel
theorem dX7_manyNow_21 : decode cX7_manyNow 21 = .ok (.dup, 1) := by decide +kernel
theorem dX7_manyNow_22 : decode cX7_manyNow 22 = .ok (.iconst 1, 1) := by decide +kernel
theorem dX7_manyNow_23 : decode cX7_manyNow 23 = .ok (.aload_n 0, 1) := by decide +kernel
theorem dX7_manyNow_24 : decode cX7_manyNow 24 = .ok (.getfield 10, 3) := by decide +kernel
theorem dX7_manyNow_27 : decode cX7_manyNow 27 = .ok (.invokevirtual 38, 3) := by decide +kernel
theorem dX7_manyNow_30 : decode cX7_manyNow 30 = .ok (.iastore, 1) := by decide +kernel
theorem dX7_manyNow_31 : decode cX7_manyNow 31 = .ok (.dup, 1) := by decide +kernel
theorem dX7_manyNow_32 : decode cX7_manyNow 32 = .ok (.iconst 2, 1) := by decide +kernel
theorem dX7_manyNow_33 : decode cX7_manyNow 33 = .ok (.aload_n 0, 1) := by decide +kernel
theorem dX7_manyNow_34 : decode cX7_manyNow 34 = .ok (.getfield 16, 3) := by decide +kernel
theorem dX7_manyNow_37 : decode cX7_manyNow 37 = .ok (.invokevirtual 38, 3) := by decide +kernel
theorem dX7_manyNow_40 : decode cX7_manyNow 40 = .ok (.iastore, 1) := by decide +kernel
theorem dX7_manyNow_41 : decode cX7_manyNow 41 = .ok (.dup, 1) := by decide +kernel
theorem dX7_manyNow_42 : decode cX7_manyNow 42 = .ok (.iconst 3, 1) := by decide +kernel
theorem dX7_manyNow_43 : decode cX7_manyNow 43 = .ok (.aload_n 0, 1) := by decide +kernel
theorem dX7_manyNow_44 : decode cX7_manyNow 44 = .ok (.getfield 19, 3) := by decide +kernel
theorem dX7_manyNow_47 : decode cX7_manyNow 47 = .ok (.invokevirtual 38, 3) := by decide +kernel
theorem dX7_manyNow_50 : decode cX7_manyNow 50 = .ok (.iastore, 1) := by decide +kernel
theorem dX7_manyNow_51 : decode cX7_manyNow 51 = .ok (.dup, 1) := by decide +kernel
theorem dX7_manyNow_52 : decode cX7_manyNow 52 = .ok (.iconst 4, 1) := by decide +kernel
theorem dX7_manyNow_53 : decode cX7_manyNow 53 = .ok (.aload_n 0, 1) := by decide +kernel
theorem dX7_manyNow_54 : decode cX7_manyNow 54 = .ok (.invokevirtual 218, 3) := by decide +kernel
theorem dX7_manyNow_57 : decode cX7_manyNow 57 = .ok (.iastore, 1) := by decide +kernel
theorem dX7_manyNow_58 : decode cX7_manyNow 58 = .ok (.dup, 1) := by decide +kernel
theorem dX7_manyNow_59 : decode cX7_manyNow 59 = .ok (.iconst 5, 1) := by decide +kernel
theorem dX7_manyNow_60 : decode cX7_manyNow 60 = .ok (.aload_n 0, 1) := by decide +kernel
theorem dX7_manyNow_61 : decode cX7_manyNow 61 = .ok (.aload_n 0, 1) := by decide +kernel
theorem dX7_manyNow_62 : decode cX7_manyNow 62 = .ok (.getfield 19, 3) := by decide +kernel
theorem dX7_manyNow_65 : decode cX7_manyNow 65 = .ok (.invokevirtual 116, 3) := by decide +kernel
theorem dX7_manyNow_68 : decode cX7_manyNow 68 = .ok (.iastore, 1) := by decide +kernel
theorem dX7_manyNow_69 : decode cX7_manyNow 69 = .ok (.dup, 1) := by decide +kernel
theorem dX7_manyNow_70 : decode cX7_manyNow 70 = .ok (.bipush 6, 2) := by decide +kernel
theorem dX7_manyNow_72 : decode cX7_manyNow 72 = .ok (.iload_n 3, 1) := by decide +kernel
theorem dX7_manyNow_73 : decode cX7_manyNow 73 = .ok (.iastore, 1) := by decide +kernel
theorem dX7_manyNow_74 : decode cX7_manyNow 74 = .ok (.dup, 1) := by decide +kernel
theorem dX7_manyNow_75 : decode cX7_manyNow 75 = .ok (.bipush 7, 2) := by decide +kernel
theorem dX7_manyNow_77 : decode cX7_manyNow 77 = .ok (.iload_n 2, 1) := by decide +kernel
theorem dX7_manyNow_78 : decode cX7_manyNow 78 = .ok (.iastore, 1) := by decide +kernel
theorem dX7_manyNow_79 : decode cX7_manyNow 79 = .ok (.dup, 1) := by decide +kernel
theorem dX7_manyNow_80 : decode cX7_manyNow 80 = .ok (.bipush 8, 2) := by decide +kernel
theorem dX7_manyNow_82 : decode cX7_manyNow 82 = .ok (.iload_n 3, 1) := by decide +kernel
theorem dX7_manyNow_83 : decode cX7_manyNow 83 = .ok (.iconst (-1), 1) := by decide +kernel
theorem dX7_manyNow_84 : decode cX7_manyNow 84 = .ok (.if_icmp .ne 7, 3) := by decide +kernel
theorem dX7_manyNow_87 : decode cX7_manyNow 87 = .ok (.iload_n 2, 1) := by decide +kernel
theorem dX7_manyNow_88 : decode cX7_manyNow 88 = .ok (.goto 20, 3) := by decide +kernel
theorem dX7_manyNow_91 : decode cX7_manyNow 91 = .ok (.iload_n 2, 1) := by decide +kernel
theorem dX7_manyNow_92 : decode cX7_manyNow 92 = .ok (.aload_n 0, 1) := by decide +kernel
theorem dX7_manyNow_93 : decode cX7_manyNow 93 = .ok (.getfield 19, 3) := by decide +kernel
theorem dX7_manyNow_96 : decode cX7_manyNow 96 = .ok (.iload_n 3, 1) := by decide +kernel
theorem dX7_manyNow_97 : decode cX7_manyNow 97 = .ok (.invokevirtual 48, 3) := by decide +kernel
theorem dX7_manyNow_100 : decode cX7_manyNow 100 = .ok (.checkcast 52, 3) := by decide +kernel
theorem dX7_manyNow_103 : decode cX7_manyNow 103 = .ok (.iconst 2, 1) := by decide +kernel
theorem dX7_manyNow_104 : decode cX7_manyNow 104 = .ok (.iaload, 1) := by decide +kernel
theorem dX7_manyNow_105 : decode cX7_manyNow 105 = .ok (.iconst (-1), 1) := by decide +kernel
theorem dX7_manyNow_106 : decode cX7_manyNow 106 = .ok (.ixor, 1) := by decide +kernel
theorem dX7_manyNow_107 : decode cX7_manyNow 107 = .ok (.iand, 1) := by decide +kernel
theorem dX7_manyNow_108 : decode cX7_manyNow 108 = .ok (.iastore, 1) := by decide +kernel
theorem dX7_manyNow_109 : decode cX7_manyNow 109 = .ok (.dup, 1) := by decide +kernel
theorem dX7_manyNow_110 : decode cX7_manyNow 110 = .ok (.bipush 9, 2) := by decide +kernel
theorem dX7_manyNow_112 : decode cX7_manyNow 112 = .ok (.aload_n 0, 1) := by decide +kernel
theorem dX7_manyNow_113 : decode cX7_manyNow 113 = .ok (.getfield 185, 3) := by decide +kernel
theorem dX7_manyNow_116 : decode cX7_manyNow 116 = .ok (.iastore, 1) := by decide +kernel
theorem dX7_manyNow_117 : decode cX7_manyNow 117 = .ok (.dup, 1) := by decide +kernel
theorem dX7_manyNow_118 : decode cX7_manyNow 118 = .ok (.bipush 10, 2) := by decide +kernel
theorem dX7_manyNow_120 : decode cX7_manyNow 120 = .ok (.aload_n 0, 1) := by decide +kernel
theorem dX7_manyNow_121 : decode cX7_manyNow 121 = .ok (.getfield 32, 3) := by decide +kernel
theorem dX7_manyNow_124 : decode cX7_manyNow 124 = .ok (.iastore, 1) := by decide +kernel
theorem dX7_manyNow_125 : decode cX7_manyNow 125 = .ok (.dup, 1) := by decide +kernel
theorem dX7_manyNow_126 : decode cX7_manyNow 126 = .ok (.bipush 11, 2) := by decide +kernel
theorem dX7_manyNow_128 : decode cX7_manyNow 128 = .ok (.aload_n 0, 1) := by decide +kernel
theorem dX7_manyNow_129 : decode cX7_manyNow 129 = .ok (.getfield 158, 3) := by decide +kernel
theorem dX7_manyNow_132 : decode cX7_manyNow 132 = .ok (.iastore, 1) := by decide +kernel
theorem dX7_manyNow_133 : decode cX7_manyNow 133 = .ok (.dup, 1) := by decide +kernel
theorem dX7_manyNow_134 : decode cX7_manyNow 134 = .ok (.bipush 12, 2) := by decide +kernel
theorem dX7_manyNow_136 : decode cX7_manyNow 136 = .ok (.aload_n 0, 1) := by decide +kernel
theorem dX7_manyNow_137 : decode cX7_manyNow 137 = .ok (.getfield 191, 3) := by decide +kernel
theorem dX7_manyNow_140 : decode cX7_manyNow 140 = .ok (.iastore, 1) := by decide +kernel
theorem dX7_manyNow_141 : decode cX7_manyNow 141 = .ok (.dup, 1) := by decide +kernel
theorem dX7_manyNow_142 : decode cX7_manyNow 142 = .ok (.bipush 13, 2) := by decide +kernel
theorem dX7_manyNow_144 : decode cX7_manyNow 144 = .ok (.aload_n 0, 1) := by decide +kernel
theorem dX7_manyNow_145 : decode cX7_manyNow 145 = .ok (.getfield 203, 3) := by decide +kernel
theorem dX7_manyNow_148 : decode cX7_manyNow 148 = .ok (.iastore, 1) := by decide +kernel
theorem dX7_manyNow_149 : decode cX7_manyNow 149 = .ok (.dup, 1) := by decide +kernel
theorem dX7_manyNow_150 : decode cX7_manyNow 150 = .ok (.bipush 14, 2) := by decide +kernel
theorem dX7_manyNow_152 : decode cX7_manyNow 152 = .ok (.aload_n 0, 1) := by decide +kernel
theorem dX7_manyNow_153 : decode cX7_manyNow 153 = .ok (.getfield 179, 3) := by decide +kernel
theorem dX7_manyNow_156 : decode cX7_manyNow 156 = .ok (.iastore, 1) := by decide +kernel
theorem dX7_manyNow_157 : decode cX7_manyNow 157 = .ok (.dup, 1) := by decide +kernel
theorem dX7_manyNow_158 : decode cX7_manyNow 158 = .ok (.bipush 15, 2) := by decide +kernel
theorem dX7_manyNow_160 : decode cX7_manyNow 160 = .ok (.aload_n 0, 1) := by decide +kernel
theorem dX7_manyNow_161 : decode cX7_manyNow 161 = .ok (.invokevirtual 152, 3) := by decide +kernel
theorem dX7_manyNow_164 : decode cX7_manyNow 164 = .ok (.iastore, 1) := by decide +kernel
theorem dX7_manyNow_165 : decode cX7_manyNow 165 = .ok (.astore 4, 2) := by decide +kernel
theorem dX7_manyNow_167 : decode cX7_manyNow 167 = .ok (.aload 4, 2) := by decide +kernel
theorem dX7_manyNow_169 : decode cX7_manyNow 169 = .ok (.iload_n 1, 1) := by decide +kernel
theorem dX7_manyNow_170 : decode cX7_manyNow 170 = .ok (.iaload, 1) := by decide +kernel
theorem dX7_manyNow_171 : decode cX7_manyNow 171 = .ok (.ireturn, 1) := by decide +kernel
theorem dX7_many_0 : decode cX7_many 0 = .ok (.aload_n 0, 1) := by decide +kernel
theorem dX7_many_1 : decode cX7_many 1 = .ok (.iconst 0, 1) := by decide +kernel
theorem dX7_many_2 : decode cX7_many 2 = .ok (.putfield 35, 3) := by decide +kernel
theorem dX7_many_5 : decode cX7_many 5 = .ok (.iload_n 1, 1) := by decide +kernel
theorem dX7_many_6 : decode cX7_many 6 = .ok (.iconst 0, 1) := by decide +kernel
theorem dX7_many_7 : decode cX7_many 7 = .ok (.bipush 15, 2) := by decide +kernel
theorem dX7_many_9 : decode cX7_many 9 = .ok (.invokestatic 42, 3) := by decide +kernel
theorem dX7_many_12 : decode cX7_many 12 = .ok (.ifCond .eq 11, 3) := by decide +kernel
theorem dX7_many_15 : decode cX7_many 15 = .ok (.aload_n 0, 1) := by decide +kernel
theorem dX7_many_16 : decode cX7_many 16 = .ok (.iload_n 1, 1) := by decide +kernel
theorem dX7_many_17 : decode cX7_many 17 = .ok (.invokevirtual 221, 3) := by decide +kernel
theorem dX7_many_20 : decode cX7_many 20 = .ok (.goto 8, 3) := by decide +kernel
theorem dX7_many_23 : decode cX7_many 23 = .ok (.aload_n 0, 1) := by decide +kernel
theorem dX7_many_24 : decode cX7_many 24 = .ok (.iconst 1, 1) := by decide +kernel
theorem dX7_many_25 : decode cX7_many 25 = .ok (.invokevirtual 93, 3) := by decide +kernel
theorem dX7_many_28 : decode cX7_many 28 = .ok (.ireturn, 1) := by decide +kernel
theorem dX7_meanShadow_0 : decode cX7_meanShadow 0 = .ok (.aload_n 0, 1) := by decide +kernel
theorem dX7_meanShadow_1 : decode cX7_meanShadow 1 = .ok (.iconst 0, 1) := by decide +kernel
theorem dX7_meanShadow_2 : decode cX7_meanShadow 2 = .ok (.putfield 35, 3) := by decide +kernel
theorem dX7_meanShadow_5 : decode cX7_meanShadow 5 = .ok (.iconst 0, 1) := by decide +kernel
theorem dX7_meanShadow_6 : decode cX7_meanShadow 6 = .ok (.istore_n 1, 1) := by decide +kernel
theorem dX7_meanShadow_7 : decode cX7_meanShadow 7 = .ok (.aload_n 0, 1) := by decide +kernel
theorem dX7_meanShadow_8 : decode cX7_meanShadow 8 = .ok (.getfield 16, 3) := by decide +kernel
theorem dX7_meanShadow_11 : decode cX7_meanShadow 11 = .ok (.invokevirtual 72, 3) := by decide +kernel
theorem dX7_meanShadow_14 : decode cX7_meanShadow 14 = .ok (.astore_n 2, 1) := by decide +kernel
theorem dX7_meanShadow_15 : decode cX7_meanShadow 15 = .ok (.aload_n 2, 1) := by decide +kernel
theorem dX7_meanShadow_16 : decode cX7_meanShadow 16 = .ok (.invokeinterface 76 1, 5) := by decide +kernel
theorem dX7_meanShadow_21 : decode cX7_meanShadow 21 = .ok (.ifCond .eq 37, 3) := by decide +kernel
theorem dX7_meanShadow_24 : decode cX7_meanShadow 24 = .ok (.aload_n 2, 1) := by decide +kernel
theorem dX7_meanShadow_25 : decode cX7_meanShadow 25 = .ok (.invokeinterface 82 1, 5) := by decide +kernel
theorem dX7_meanShadow_30 : decode cX7_meanShadow 30 = .ok (.checkcast 52, 3) := by decide +kernel
theorem dX7_meanShadow_33 : decode cX7_meanShadow 33 = .ok (.astore_n 3, 1) := by decide +kernel
theorem dX7_meanShadow_34 : decode cX7_meanShadow 34 = .ok (.iload_n 1, 1) := by decide +kernel
theorem dX7_meanShadow_35 : decode cX7_meanShadow 35 = .ok (.aload_n 3, 1) := by decide +kernel
theorem dX7_meanShadow_36 : decode cX7_meanShadow 36 = .ok (.iconst 3, 1) := by decide +kernel
theorem dX7_meanShadow_37 : decode cX7_meanShadow 37 = .ok (.iaload, 1) := by decide +kernel
theorem dX7_meanShadow_38 : decode cX7_meanShadow 38 = .ok (.ifCond .ne 7, 3) := by decide +kernel
theorem dX7_meanShadow_41 : decode cX7_meanShadow 41 = .ok (.iconst 0, 1) := by decide +kernel
theorem dX7_meanShadow_42 : decode cX7_meanShadow 42 = .ok (.goto 11, 3) := by decide +kernel
theorem dX7_meanShadow_45 : decode cX7_meanShadow 45 = .ok (.aload_n 0, 1) := by decide +kernel
theorem dX7_meanShadow_46 : decode cX7_meanShadow 46 = .ok (.aload_n 3, 1) := by decide +kernel
theorem dX7_meanShadow_47 : decode cX7_meanShadow 47 = .ok (.aload_n 3, 1) := by decide +kernel
theorem dX7_meanShadow_48 : decode cX7_meanShadow 48 = .ok (.iconst 5, 1) := by decide +kernel
theorem dX7_meanShadow_49 : decode cX7_meanShadow 49 = .ok (.iaload, 1) := by decide +kernel
theorem dX7_meanShadow_50 : decode cX7_meanShadow 50 = .ok (.invokevirtual 148, 3) := by decide +kernel
theorem dX7_meanShadow_53 : decode cX7_meanShadow 53 = .ok (.iadd, 1) := by decide +kernel
theorem dX7_meanShadow_54 : decode cX7_meanShadow 54 = .ok (.istore_n 1, 1) := by decide +kernel
theorem dX7_meanShadow_55 : decode cX7_meanShadow 55 = .ok (.goto (-40), 3) := by decide +kernel
theorem dX7_meanShadow_58 : decode cX7_meanShadow 58 = .ok (.aload_n 0, 1) := by decide +kernel
theorem dX7_meanShadow_59 : decode cX7_meanShadow 59 = .ok (.invokevirtual 152, 3) := by decide +kernel
theorem dX7_meanShadow_62 : decode cX7_meanShadow 62 = .ok (.ifCond .ne 7, 3) := by decide +kernel
theorem dX7_meanShadow_65 : decode cX7_meanShadow 65 = .ok (.dconst 0, 1) := by decide +kernel
theorem dX7_meanShadow_66 : decode cX7_meanShadow 66 = .ok (.goto 11, 3) := by decide +kernel
theorem dX7_meanShadow_69 : decode cX7_meanShadow 69 = .ok (.iload_n 1, 1) := by decide +kernel
theorem dX7_meanShadow_70 : decode cX7_meanShadow 70 = .ok (.i2d, 1) := by decide +kernel
theorem dX7_meanShadow_71 : decode cX7_meanShadow 71 = .ok (.aload_n 0, 1) := by decide +kernel
theorem dX7_meanShadow_72 : decode cX7_meanShadow 72 = .ok (.invokevirtual 152, 3) := by decide +kernel
theorem dX7_meanShadow_75 : decode cX7_meanShadow 75 = .ok (.i2d, 1) := by decide +kernel
theorem dX7_meanShadow_76 : decode cX7_meanShadow 76 = .ok (.ddiv, 1) := by decide +kernel
theorem dX7_meanShadow_77 : decode cX7_meanShadow 77 = .ok (.dreturn, 1) := by decide +kernel
theorem dX7_gongNow_0 : decode cX7_gongNow 0 = .ok (.aload_n 0, 1) := by decide +kernel
theorem dX7_gongNow_1 : decode cX7_gongNow 1 = .ok (.getfield 26, 3) := by decide +kernel
theorem dX7_gongNow_4 : decode cX7_gongNow 4 = .ok (.iconst (-1), 1) := by decide +kernel
theorem dX7_gongNow_5 : decode cX7_gongNow 5 = .ok (.if_icmp .ne 7, 3) := by decide +kernel
theorem dX7_gongNow_8 : decode cX7_gongNow 8 = .ok (.iconst (-1), 1) := by decide +kernel
theorem dX7_gongNow_9 : decode cX7_gongNow 9 = .ok (.goto 30, 3) := by decide +kernel
theorem dX7_gongNow_12 : decode cX7_gongNow 12 = .ok (.aload_n 0, 1) := by decide +kernel
theorem dX7_gongNow_13 : decode cX7_gongNow 13 = .ok (.invokevirtual 170, 3) := by decide +kernel
theorem dX7_gongNow_16 : decode cX7_gongNow 16 = .ok (.aload_n 0, 1) := by decide +kernel
theorem dX7_gongNow_17 : decode cX7_gongNow 17 = .ok (.getfield 167, 3) := by decide +kernel
theorem dX7_gongNow_20 : decode cX7_gongNow 20 = .ok (.isub, 1) := by decide +kernel
theorem dX7_gongNow_21 : decode cX7_gongNow 21 = .ok (.bipush 8, 2) := by decide +kernel
theorem dX7_gongNow_23 : decode cX7_gongNow 23 = .ok (.aload_n 0, 1) := by decide +kernel
theorem dX7_gongNow_24 : decode cX7_gongNow 24 = .ok (.getfield 164, 3) := by decide +kernel
theorem dX7_gongNow_27 : decode cX7_gongNow 27 = .ok (.imul, 1) := by decide +kernel
theorem dX7_gongNow_28 : decode cX7_gongNow 28 = .ok (.iadd, 1) := by decide +kernel
theorem dX7_gongNow_29 : decode cX7_gongNow 29 = .ok (.iconst 1, 1) := by decide +kernel
theorem dX7_gongNow_30 : decode cX7_gongNow 30 = .ok (.isub, 1) := by decide +kernel
theorem dX7_gongNow_31 : decode cX7_gongNow 31 = .ok (.bipush 8, 2) := by decide +kernel
theorem dX7_gongNow_33 : decode cX7_gongNow 33 = .ok (.aload_n 0, 1) := by decide +kernel
theorem dX7_gongNow_34 : decode cX7_gongNow 34 = .ok (.getfield 164, 3) := by decide +kernel
theorem dX7_gongNow_37 : decode cX7_gongNow 37 = .ok (.imul, 1) := by decide +kernel
theorem dX7_gongNow_38 : decode cX7_gongNow 38 = .ok (.idiv, 1) := by decide +kernel
theorem dX7_gongNow_39 : decode cX7_gongNow 39 = .ok (.ireturn, 1) := by decide +kernel
theorem dX7_nextGong_0 : decode cX7_nextGong 0 = .ok (.aload_n 0, 1) := by decide +kernel
theorem dX7_nextGong_1 : decode cX7_nextGong 1 = .ok (.iconst 0, 1) := by decide +kernel
theorem dX7_nextGong_2 : decode cX7_nextGong 2 = .ok (.putfield 35, 3) := by decide +kernel
theorem dX7_nextGong_5 : decode cX7_nextGong 5 = .ok (.aload_n 0, 1) := by decide +kernel
theorem dX7_nextGong_6 : decode cX7_nextGong 6 = .ok (.invokevirtual 224, 3) := by decide +kernel
theorem dX7_nextGong_9 : decode cX7_nextGong 9 = .ok (.ireturn, 1) := by decide +kernel
theorem dX7_swapNow_0 : decode cX7_swapNow 0 = .ok (.new 7, 3) := by decide +kernel
theorem dX7_swapNow_3 : decode cX7_swapNow 3 = .ok (.dup, 1) := by decide +kernel
theorem dX7_swapNow_4 : decode cX7_swapNow 4 = .ok (.aload_n 0, 1) := by decide +kernel
theorem dX7_swapNow_5 : decode cX7_swapNow 5 = .ok (.getfield 19, 3) := by decide +kernel
theorem dX7_swapNow_8 : decode cX7_swapNow 8 = .ok (.invokespecial 227, 3) := by decide +kernel
theorem dX7_swapNow_11 : decode cX7_swapNow 11 = .ok (.astore_n 1, 1) := by decide +kernel
theorem dX7_swapNow_12 : decode cX7_swapNow 12 = .ok (.aload_n 0, 1) := by decide +kernel
theorem dX7_swapNow_13 : decode cX7_swapNow 13 = .ok (.aload_n 1, 1) := by decide +kernel
theorem dX7_swapNow_14 : decode cX7_swapNow 14 = .ok (.invokevirtual 116, 3) := by decide +kernel
theorem dX7_swapNow_17 : decode cX7_swapNow 17 = .ok (.istore_n 2, 1) := by decide +kernel
theorem dX7_swapNow_18 : decode cX7_swapNow 18 = .ok (.iconst (-1), 1) := by decide +kernel
theorem dX7_swapNow_19 : decode cX7_swapNow 19 = .ok (.istore_n 3, 1) := by decide +kernel
theorem dX7_swapNow_20 : decode cX7_swapNow 20 = .ok (.iconst 0, 1) := by decide +kernel
theorem dX7_swapNow_21 : decode cX7_swapNow 21 = .ok (.istore 4, 2) := by decide +kernel
theorem dX7_swapNow_23 : decode cX7_swapNow 23 = .ok (.iload 4, 2) := by decide +kernel
theorem dX7_swapNow_25 : decode cX7_swapNow 25 = .ok (.aload_n 1, 1) := by decide +kernel
theorem dX7_swapNow_26 : decode cX7_swapNow 26 = .ok (.invokevirtual 38, 3) := by decide +kernel
theorem dX7_swapNow_29 : decode cX7_swapNow 29 = .ok (.if_icmp .ge 74, 3) := by decide +kernel
theorem dX7_swapNow_32 : decode cX7_swapNow 32 = .ok (.iload 4, 2) := by decide +kernel
theorem dX7_swapNow_34 : decode cX7_swapNow 34 = .ok (.iconst 1, 1) := by decide +kernel
theorem dX7_swapNow_35 : decode cX7_swapNow 35 = .ok (.iadd, 1) := by decide +kernel
theorem dX7_swapNow_36 : decode cX7_swapNow 36 = .ok (.istore 5, 2) := by decide +kernel
theorem dX7_swapNow_38 : decode cX7_swapNow 38 = .ok (.iload 5, 2) := by decide +kernel
theorem dX7_swapNow_40 : decode cX7_swapNow 40 = .ok (.aload_n 1, 1) := by decide +kernel
theorem dX7_swapNow_41 : decode cX7_swapNow 41 = .ok (.invokevirtual 38, 3) := by decide +kernel
theorem dX7_swapNow_44 : decode cX7_swapNow 44 = .ok (.if_icmp .ge 53, 3) := by decide +kernel
theorem dX7_swapNow_47 : decode cX7_swapNow 47 = .ok (.aload_n 1, 1) := by decide +kernel
theorem dX7_swapNow_48 : decode cX7_swapNow 48 = .ok (.iload 4, 2) := by decide +kernel
theorem dX7_swapNow_50 : decode cX7_swapNow 50 = .ok (.iload 5, 2) := by decide +kernel
theorem dX7_swapNow_52 : decode cX7_swapNow 52 = .ok (.invokestatic 112, 3) := by decide +kernel
theorem dX7_swapNow_55 : decode cX7_swapNow 55 = .ok (.aload_n 0, 1) := by decide +kernel
theorem dX7_swapNow_56 : decode cX7_swapNow 56 = .ok (.aload_n 1, 1) := by decide +kernel
theorem dX7_swapNow_57 : decode cX7_swapNow 57 = .ok (.invokevirtual 116, 3) := by decide +kernel
theorem dX7_swapNow_60 : decode cX7_swapNow 60 = .ok (.istore 6, 2) := by decide +kernel
theorem dX7_swapNow_62 : decode cX7_swapNow 62 = .ok (.aload_n 1, 1) := by decide +kernel
theorem dX7_swapNow_63 : decode cX7_swapNow 63 = .ok (.iload 4, 2) := by decide +kernel
theorem dX7_swapNow_65 : decode cX7_swapNow 65 = .ok (.iload 5, 2) := by decide +kernel
theorem dX7_swapNow_67 : decode cX7_swapNow 67 = .ok (.invokestatic 112, 3) := by decide +kernel
theorem dX7_swapNow_70 : decode cX7_swapNow 70 = .ok (.iload 6, 2) := by decide +kernel
theorem dX7_swapNow_72 : decode cX7_swapNow 72 = .ok (.iload_n 2, 1) := by decide +kernel
theorem dX7_swapNow_73 : decode cX7_swapNow 73 = .ok (.if_icmp .lt 6, 3) := by decide +kernel
theorem dX7_swapNow_76 : decode cX7_swapNow 76 = .ok (.goto 15, 3) := by decide +kernel
theorem dX7_swapNow_79 : decode cX7_swapNow 79 = .ok (.iload 6, 2) := by decide +kernel
theorem dX7_swapNow_81 : decode cX7_swapNow 81 = .ok (.istore_n 2, 1) := by decide +kernel
theorem dX7_swapNow_82 : decode cX7_swapNow 82 = .ok (.bipush 10, 2) := by decide +kernel
theorem dX7_swapNow_84 : decode cX7_swapNow 84 = .ok (.iload 4, 2) := by decide +kernel
theorem dX7_swapNow_86 : decode cX7_swapNow 86 = .ok (.imul, 1) := by decide +kernel
theorem dX7_swapNow_87 : decode cX7_swapNow 87 = .ok (.iload 5, 2) := by decide +kernel
theorem dX7_swapNow_89 : decode cX7_swapNow 89 = .ok (.iadd, 1) := by decide +kernel
theorem dX7_swapNow_90 : decode cX7_swapNow 90 = .ok (.istore_n 3, 1) := by decide +kernel
theorem dX7_swapNow_91 : decode cX7_swapNow 91 = .ok (.iinc 5 1, 3) := by decide +kernel
theorem dX7_swapNow_94 : decode cX7_swapNow 94 = .ok (.goto (-56), 3) := by decide +kernel
theorem dX7_swapNow_97 : decode cX7_swapNow 97 = .ok (.iinc 4 1, 3) := by decide +kernel
theorem dX7_swapNow_100 : decode cX7_swapNow 100 = .ok (.goto (-77), 3) := by decide +kernel
theorem dX7_swapNow_103 : decode cX7_swapNow 103 = .ok (.iload_n 3, 1) := by decide +kernel
theorem dX7_swapNow_104 : decode cX7_swapNow 104 = .ok (.ireturn, 1) := by decide +kernel
theorem dX7_bestSwap_0 : decode cX7_bestSwap 0 = .ok (.aload_n 0, 1) := by decide +kernel
theorem dX7_bestSwap_1 : decode cX7_bestSwap 1 = .ok (.iconst 0, 1) := by decide +kernel
theorem dX7_bestSwap_2 : decode cX7_bestSwap 2 = .ok (.putfield 35, 3) := by decide +kernel
theorem dX7_bestSwap_5 : decode cX7_bestSwap 5 = .ok (.aload_n 0, 1) := by decide +kernel
theorem dX7_bestSwap_6 : decode cX7_bestSwap 6 = .ok (.invokevirtual 230, 3) := by decide +kernel
theorem dX7_bestSwap_9 : decode cX7_bestSwap 9 = .ok (.ireturn, 1) := by decide +kernel
theorem dX7_liftNow_0 : decode cX7_liftNow 0 = .ok (.iconst 0, 1) := by decide +kernel
theorem dX7_liftNow_1 : decode cX7_liftNow 1 = .ok (.istore_n 3, 1) := by decide +kernel
theorem dX7_liftNow_2 : decode cX7_liftNow 2 = .ok (.iload_n 3, 1) := by decide +kernel
theorem dX7_liftNow_3 : decode cX7_liftNow 3 = .ok (.bipush 16, 2) := by decide +kernel
theorem dX7_liftNow_5 : decode cX7_liftNow 5 = .ok (.if_icmp .ge 31, 3) := by decide +kernel
theorem dX7_liftNow_8 : decode cX7_liftNow 8 = .ok (.aload_n 0, 1) := by decide +kernel
theorem dX7_liftNow_9 : decode cX7_liftNow 9 = .ok (.aload_n 0, 1) := by decide +kernel
theorem dX7_liftNow_10 : decode cX7_liftNow 10 = .ok (.getfield 16, 3) := by decide +kernel
theorem dX7_liftNow_13 : decode cX7_liftNow 13 = .ok (.iload_n 1, 1) := by decide +kernel
theorem dX7_liftNow_14 : decode cX7_liftNow 14 = .ok (.invokevirtual 48, 3) := by decide +kernel
theorem dX7_liftNow_17 : decode cX7_liftNow 17 = .ok (.checkcast 52, 3) := by decide +kernel
theorem dX7_liftNow_20 : decode cX7_liftNow 20 = .ok (.iload_n 3, 1) := by decide +kernel
theorem dX7_liftNow_21 : decode cX7_liftNow 21 = .ok (.invokevirtual 148, 3) := by decide +kernel
theorem dX7_liftNow_24 : decode cX7_liftNow 24 = .ok (.iload_n 2, 1) := by decide +kernel
theorem dX7_liftNow_25 : decode cX7_liftNow 25 = .ok (.if_icmp .lt 5, 3) := by decide +kernel
theorem dX7_liftNow_28 : decode cX7_liftNow 28 = .ok (.iload_n 3, 1) := by decide +kernel
theorem dX7_liftNow_29 : decode cX7_liftNow 29 = .ok (.ireturn, 1) := by decide +kernel
theorem dX7_liftNow_30 : decode cX7_liftNow 30 = .ok (.iinc 3 1, 3) := by decide +kernel
theorem dX7_liftNow_33 : decode cX7_liftNow 33 = .ok (.goto (-31), 3) := by decide +kernel
theorem dX7_liftNow_36 : decode cX7_liftNow 36 = .ok (.iconst (-1), 1) := by decide +kernel
theorem dX7_liftNow_37 : decode cX7_liftNow 37 = .ok (.ireturn, 1) := by decide +kernel
theorem dX7_liftFor_0 : decode cX7_liftFor 0 = .ok (.aload_n 0, 1) := by decide +kernel
theorem dX7_liftFor_1 : decode cX7_liftFor 1 = .ok (.iconst 0, 1) := by decide +kernel
theorem dX7_liftFor_2 : decode cX7_liftFor 2 = .ok (.putfield 35, 3) := by decide +kernel
theorem dX7_liftFor_5 : decode cX7_liftFor 5 = .ok (.aload_n 0, 1) := by decide +kernel
theorem dX7_liftFor_6 : decode cX7_liftFor 6 = .ok (.iload_n 1, 1) := by decide +kernel
theorem dX7_liftFor_7 : decode cX7_liftFor 7 = .ok (.invokevirtual 132, 3) := by decide +kernel
theorem dX7_liftFor_10 : decode cX7_liftFor 10 = .ok (.ifCond .ne 9, 3) := by decide +kernel
theorem dX7_liftFor_13 : decode cX7_liftFor 13 = .ok (.aload_n 0, 1) := by decide +kernel
theorem dX7_liftFor_14 : decode cX7_liftFor 14 = .ok (.iconst 1, 1) := by decide +kernel
theorem dX7_liftFor_15 : decode cX7_liftFor 15 = .ok (.invokevirtual 93, 3) := by decide +kernel
theorem dX7_liftFor_18 : decode cX7_liftFor 18 = .ok (.ireturn, 1) := by decide +kernel
theorem dX7_liftFor_19 : decode cX7_liftFor 19 = .ok (.iload_n 2, 1) := by decide +kernel
theorem dX7_liftFor_20 : decode cX7_liftFor 20 = .ok (.iconst 1, 1) := by decide +kernel
theorem dX7_liftFor_21 : decode cX7_liftFor 21 = .ok (.sipush 400, 3) := by decide +kernel
theorem dX7_liftFor_24 : decode cX7_liftFor 24 = .ok (.invokestatic 42, 3) := by decide +kernel
theorem dX7_liftFor_27 : decode cX7_liftFor 27 = .ok (.ifCond .eq 12, 3) := by decide +kernel
theorem dX7_liftFor_30 : decode cX7_liftFor 30 = .ok (.aload_n 0, 1) := by decide +kernel
theorem dX7_liftFor_31 : decode cX7_liftFor 31 = .ok (.iload_n 1, 1) := by decide +kernel
theorem dX7_liftFor_32 : decode cX7_liftFor 32 = .ok (.iload_n 2, 1) := by decide +kernel
theorem dX7_liftFor_33 : decode cX7_liftFor 33 = .ok (.invokevirtual 233, 3) := by decide +kernel
theorem dX7_liftFor_36 : decode cX7_liftFor 36 = .ok (.goto 8, 3) := by decide +kernel
theorem dX7_liftFor_39 : decode cX7_liftFor 39 = .ok (.aload_n 0, 1) := by decide +kernel
theorem dX7_liftFor_40 : decode cX7_liftFor 40 = .ok (.iconst 2, 1) := by decide +kernel
theorem dX7_liftFor_41 : decode cX7_liftFor 41 = .ok (.invokevirtual 93, 3) := by decide +kernel
theorem dX7_liftFor_44 : decode cX7_liftFor 44 = .ok (.ireturn, 1) := by decide +kernel
theorem dX7_gripNow_0 : decode cX7_gripNow 0 = .ok (.iconst 0, 1) := by decide +kernel
theorem dX7_gripNow_1 : decode cX7_gripNow 1 = .ok (.istore_n 1, 1) := by decide +kernel
theorem dX7_gripNow_2 : decode cX7_gripNow 2 = .ok (.iconst 0, 1) := by decide +kernel
theorem dX7_gripNow_3 : decode cX7_gripNow 3 = .ok (.istore_n 2, 1) := by decide +kernel
theorem dX7_gripNow_4 : decode cX7_gripNow 4 = .ok (.iload_n 2, 1) := by decide +kernel
theorem dX7_gripNow_5 : decode cX7_gripNow 5 = .ok (.aload_n 0, 1) := by decide +kernel
theorem dX7_gripNow_6 : decode cX7_gripNow 6 = .ok (.getfield 16, 3) := by decide +kernel
theorem dX7_gripNow_9 : decode cX7_gripNow 9 = .ok (.invokevirtual 38, 3) := by decide +kernel
theorem dX7_gripNow_12 : decode cX7_gripNow 12 = .ok (.if_icmp .ge 24, 3) := by decide +kernel
theorem dX7_gripNow_15 : decode cX7_gripNow 15 = .ok (.aload_n 0, 1) := by decide +kernel
theorem dX7_gripNow_16 : decode cX7_gripNow 16 = .ok (.iload_n 2, 1) := by decide +kernel
theorem dX7_gripNow_17 : decode cX7_gripNow 17 = .ok (.invokevirtual 135, 3) := by decide +kernel
theorem dX7_gripNow_20 : decode cX7_gripNow 20 = .ok (.iconst (-1), 1) := by decide +kernel
theorem dX7_gripNow_21 : decode cX7_gripNow 21 = .ok (.if_icmp .eq 9, 3) := by decide +kernel
theorem dX7_gripNow_24 : decode cX7_gripNow 24 = .ok (.iload_n 1, 1) := by decide +kernel
theorem dX7_gripNow_25 : decode cX7_gripNow 25 = .ok (.iconst 1, 1) := by decide +kernel
theorem dX7_gripNow_26 : decode cX7_gripNow 26 = .ok (.iload_n 2, 1) := by decide +kernel
theorem dX7_gripNow_27 : decode cX7_gripNow 27 = .ok (.ishl, 1) := by decide +kernel
theorem dX7_gripNow_28 : decode cX7_gripNow 28 = .ok (.ior, 1) := by decide +kernel
theorem dX7_gripNow_29 : decode cX7_gripNow 29 = .ok (.istore_n 1, 1) := by decide +kernel
theorem dX7_gripNow_30 : decode cX7_gripNow 30 = .ok (.iinc 2 1, 3) := by decide +kernel
theorem dX7_gripNow_33 : decode cX7_gripNow 33 = .ok (.goto (-29), 3) := by decide +kernel
theorem dX7_gripNow_36 : decode cX7_gripNow 36 = .ok (.iload_n 1, 1) := by decide +kernel
theorem dX7_gripNow_37 : decode cX7_gripNow 37 = .ok (.ireturn, 1) := by decide +kernel
theorem dX7_gripable_0 : decode cX7_gripable 0 = .ok (.aload_n 0, 1) := by decide +kernel
theorem dX7_gripable_1 : decode cX7_gripable 1 = .ok (.iconst 0, 1) := by decide +kernel
theorem dX7_gripable_2 : decode cX7_gripable 2 = .ok (.putfield 35, 3) := by decide +kernel
theorem dX7_gripable_5 : decode cX7_gripable 5 = .ok (.aload_n 0, 1) := by decide +kernel
theorem dX7_gripable_6 : decode cX7_gripable 6 = .ok (.invokevirtual 236, 3) := by decide +kernel
theorem dX7_gripable_9 : decode cX7_gripable 9 = .ok (.ireturn, 1) := by decide +kernel
theorem dX7_add_0 : decode cX7_add 0 = .ok (.aload_n 0, 1) := by decide +kernel
theorem dX7_add_1 : decode cX7_add 1 = .ok (.aload_n 0, 1) := by decide +kernel
theorem dX7_add_2 : decode cX7_add 2 = .ok (.getfield 239, 3) := by decide +kernel
theorem dX7_add_5 : decode cX7_add 5 = .ok (.ldc2_w 243, 3) := by decide +kernel
theorem dX7_add_8 : decode cX7_add 8 = .ok (.lmul, 1) := by decide +kernel
theorem dX7_add_9 : decode cX7_add 9 = .ok (.iload_n 1, 1) := by decide +kernel
theorem dX7_add_10 : decode cX7_add 10 = .ok (.i2l, 1) := by decide +kernel
theorem dX7_add_11 : decode cX7_add 11 = .ok (.ladd, 1) := by decide +kernel
theorem dX7_add_12 : decode cX7_add 12 = .ok (.putfield 239, 3) := by decide +kernel
theorem dX7_add_15 : decode cX7_add 15 = .ok (.return_, 1) := by decide +kernel
theorem dX7_digest_0 : decode cX7_digest 0 = .ok (.aload_n 0, 1) := by decide +kernel
theorem dX7_digest_1 : decode cX7_digest 1 = .ok (.iconst 0, 1) := by decide +kernel
theorem dX7_digest_2 : decode cX7_digest 2 = .ok (.putfield 35, 3) := by decide +kernel
theorem dX7_digest_5 : decode cX7_digest 5 = .ok (.aload_n 0, 1) := by decide +kernel
theorem dX7_digest_6 : decode cX7_digest 6 = .ok (.ldc2_w 245, 3) := by decide +kernel
theorem dX7_digest_9 : decode cX7_digest 9 = .ok (.putfield 239, 3) := by decide +kernel
theorem dX7_digest_12 : decode cX7_digest 12 = .ok (.iconst 0, 1) := by decide +kernel
theorem dX7_digest_13 : decode cX7_digest 13 = .ok (.istore_n 1, 1) := by decide +kernel
theorem dX7_digest_14 : decode cX7_digest 14 = .ok (.iload_n 1, 1) := by decide +kernel
theorem dX7_digest_15 : decode cX7_digest 15 = .ok (.bipush 16, 2) := by decide +kernel
theorem dX7_digest_17 : decode cX7_digest 17 = .ok (.if_icmp .ge 18, 3) := by decide +kernel
theorem dX7_digest_20 : decode cX7_digest 20 = .ok (.aload_n 0, 1) := by decide +kernel
theorem dX7_digest_21 : decode cX7_digest 21 = .ok (.aload_n 0, 1) := by decide +kernel
theorem dX7_digest_22 : decode cX7_digest 22 = .ok (.iload_n 1, 1) := by decide +kernel
theorem dX7_digest_23 : decode cX7_digest 23 = .ok (.invokevirtual 221, 3) := by decide +kernel
theorem dX7_digest_26 : decode cX7_digest 26 = .ok (.invokevirtual 247, 3) := by decide +kernel
theorem dX7_digest_29 : decode cX7_digest 29 = .ok (.iinc 1 1, 3) := by decide +kernel
theorem dX7_digest_32 : decode cX7_digest 32 = .ok (.goto (-18), 3) := by decide +kernel
theorem dX7_digest_35 : decode cX7_digest 35 = .ok (.iconst 0, 1) := by decide +kernel
theorem dX7_digest_36 : decode cX7_digest 36 = .ok (.istore_n 1, 1) := by decide +kernel
theorem dX7_digest_37 : decode cX7_digest 37 = .ok (.iload_n 1, 1) := by decide +kernel
theorem dX7_digest_38 : decode cX7_digest 38 = .ok (.aload_n 0, 1) := by decide +kernel
theorem dX7_digest_39 : decode cX7_digest 39 = .ok (.getfield 10, 3) := by decide +kernel
theorem dX7_digest_42 : decode cX7_digest 42 = .ok (.invokevirtual 38, 3) := by decide +kernel
theorem dX7_digest_45 : decode cX7_digest 45 = .ok (.if_icmp .ge 35, 3) := by decide +kernel
theorem dX7_digest_48 : decode cX7_digest 48 = .ok (.aload_n 0, 1) := by decide +kernel
theorem dX7_digest_49 : decode cX7_digest 49 = .ok (.aload_n 0, 1) := by decide +kernel
theorem dX7_digest_50 : decode cX7_digest 50 = .ok (.iload_n 1, 1) := by decide +kernel
theorem dX7_digest_51 : decode cX7_digest 51 = .ok (.aload_n 0, 1) := by decide +kernel
theorem dX7_digest_52 : decode cX7_digest 52 = .ok (.getfield 19, 3) := by decide +kernel
theorem dX7_digest_55 : decode cX7_digest 55 = .ok (.invokevirtual 38, 3) := by decide +kernel
theorem dX7_digest_58 : decode cX7_digest 58 = .ok (.iconst 1, 1) := by decide +kernel
theorem dX7_digest_59 : decode cX7_digest 59 = .ok (.isub, 1) := by decide +kernel
theorem dX7_digest_60 : decode cX7_digest 60 = .ok (.invokevirtual 206, 3) := by decide +kernel
theorem dX7_digest_63 : decode cX7_digest 63 = .ok (.ifCond .eq 7, 3) := by decide +kernel
theorem dX7_digest_66 : decode cX7_digest 66 = .ok (.iconst 1, 1) := by decide +kernel
theorem dX7_digest_67 : decode cX7_digest 67 = .ok (.goto 4, 3) := by decide +kernel
theorem dX7_digest_70 : decode cX7_digest 70 = .ok (.iconst 0, 1) := by decide +kernel
theorem dX7_digest_71 : decode cX7_digest 71 = .ok (.invokevirtual 247, 3) := by decide +kernel
theorem dX7_digest_74 : decode cX7_digest 74 = .ok (.iinc 1 1, 3) := by decide +kernel
theorem dX7_digest_77 : decode cX7_digest 77 = .ok (.goto (-40), 3) := by decide +kernel
theorem dX7_digest_80 : decode cX7_digest 80 = .ok (.iconst 0, 1) := by decide +kernel
theorem dX7_digest_81 : decode cX7_digest 81 = .ok (.istore_n 1, 1) := by decide +kernel
theorem dX7_digest_82 : decode cX7_digest 82 = .ok (.iload_n 1, 1) := by decide +kernel
theorem dX7_digest_83 : decode cX7_digest 83 = .ok (.aload_n 0, 1) := by decide +kernel
theorem dX7_digest_84 : decode cX7_digest 84 = .ok (.getfield 16, 3) := by decide +kernel
theorem dX7_digest_87 : decode cX7_digest 87 = .ok (.invokevirtual 38, 3) := by decide +kernel
theorem dX7_digest_90 : decode cX7_digest 90 = .ok (.if_icmp .ge 44, 3) := by decide +kernel
theorem dX7_digest_93 : decode cX7_digest 93 = .ok (.iconst 0, 1) := by decide +kernel
theorem dX7_digest_94 : decode cX7_digest 94 = .ok (.istore_n 2, 1) := by decide +kernel
theorem dX7_digest_95 : decode cX7_digest 95 = .ok (.iload_n 2, 1) := by decide +kernel
theorem dX7_digest_96 : decode cX7_digest 96 = .ok (.bipush 8, 2) := by decide +kernel
theorem dX7_digest_98 : decode cX7_digest 98 = .ok (.if_icmp .ge 19, 3) := by decide +kernel
theorem dX7_digest_101 : decode cX7_digest 101 = .ok (.aload_n 0, 1) := by decide +kernel
theorem dX7_digest_102 : decode cX7_digest 102 = .ok (.aload_n 0, 1) := by decide +kernel
theorem dX7_digest_103 : decode cX7_digest 103 = .ok (.iload_n 1, 1) := by decide +kernel
theorem dX7_digest_104 : decode cX7_digest 104 = .ok (.iload_n 2, 1) := by decide +kernel
theorem dX7_digest_105 : decode cX7_digest 105 = .ok (.invokevirtual 209, 3) := by decide +kernel
theorem dX7_digest_108 : decode cX7_digest 108 = .ok (.invokevirtual 247, 3) := by decide +kernel
theorem dX7_digest_111 : decode cX7_digest 111 = .ok (.iinc 2 1, 3) := by decide +kernel
theorem dX7_digest_114 : decode cX7_digest 114 = .ok (.goto (-19), 3) := by decide +kernel
theorem dX7_digest_117 : decode cX7_digest 117 = .ok (.aload_n 0, 1) := by decide +kernel
theorem dX7_digest_118 : decode cX7_digest 118 = .ok (.aload_n 0, 1) := by decide +kernel
theorem dX7_digest_119 : decode cX7_digest 119 = .ok (.iload_n 1, 1) := by decide +kernel
theorem dX7_digest_120 : decode cX7_digest 120 = .ok (.bipush 60, 2) := by decide +kernel
theorem dX7_digest_122 : decode cX7_digest 122 = .ok (.invokevirtual 233, 3) := by decide +kernel
theorem dX7_digest_125 : decode cX7_digest 125 = .ok (.invokevirtual 247, 3) := by decide +kernel
theorem dX7_digest_128 : decode cX7_digest 128 = .ok (.iinc 1 1, 3) := by decide +kernel
theorem dX7_digest_131 : decode cX7_digest 131 = .ok (.goto (-49), 3) := by decide +kernel
theorem dX7_digest_134 : decode cX7_digest 134 = .ok (.iconst 0, 1) := by decide +kernel
theorem dX7_digest_135 : decode cX7_digest 135 = .ok (.istore_n 1, 1) := by decide +kernel
theorem dX7_digest_136 : decode cX7_digest 136 = .ok (.iload_n 1, 1) := by decide +kernel
theorem dX7_digest_137 : decode cX7_digest 137 = .ok (.aload_n 0, 1) := by decide +kernel
theorem dX7_digest_138 : decode cX7_digest 138 = .ok (.getfield 19, 3) := by decide +kernel
theorem dX7_digest_141 : decode cX7_digest 141 = .ok (.invokevirtual 38, 3) := by decide +kernel
theorem dX7_digest_144 : decode cX7_digest 144 = .ok (.if_icmp .ge 33, 3) := by decide +kernel
theorem dX7_digest_147 : decode cX7_digest 147 = .ok (.iconst 0, 1) := by decide +kernel
theorem dX7_digest_148 : decode cX7_digest 148 = .ok (.istore_n 2, 1) := by decide +kernel
theorem dX7_digest_149 : decode cX7_digest 149 = .ok (.iload_n 2, 1) := by decide +kernel
theorem dX7_digest_150 : decode cX7_digest 150 = .ok (.bipush 9, 2) := by decide +kernel
theorem dX7_digest_152 : decode cX7_digest 152 = .ok (.if_icmp .ge 19, 3) := by decide +kernel
theorem dX7_digest_155 : decode cX7_digest 155 = .ok (.aload_n 0, 1) := by decide +kernel
theorem dX7_digest_156 : decode cX7_digest 156 = .ok (.aload_n 0, 1) := by decide +kernel
theorem dX7_digest_157 : decode cX7_digest 157 = .ok (.iload_n 1, 1) := by decide +kernel
theorem dX7_digest_158 : decode cX7_digest 158 = .ok (.iload_n 2, 1) := by decide +kernel
theorem dX7_digest_159 : decode cX7_digest 159 = .ok (.invokevirtual 212, 3) := by decide +kernel
theorem dX7_digest_162 : decode cX7_digest 162 = .ok (.invokevirtual 247, 3) := by decide +kernel
theorem dX7_digest_165 : decode cX7_digest 165 = .ok (.iinc 2 1, 3) := by decide +kernel
theorem dX7_digest_168 : decode cX7_digest 168 = .ok (.goto (-19), 3) := by decide +kernel
theorem dX7_digest_171 : decode cX7_digest 171 = .ok (.iinc 1 1, 3) := by decide +kernel
theorem dX7_digest_174 : decode cX7_digest 174 = .ok (.goto (-38), 3) := by decide +kernel
theorem dX7_digest_177 : decode cX7_digest 177 = .ok (.iconst 0, 1) := by decide +kernel
theorem dX7_digest_178 : decode cX7_digest 178 = .ok (.istore_n 1, 1) := by decide +kernel
theorem dX7_digest_179 : decode cX7_digest 179 = .ok (.iload_n 1, 1) := by decide +kernel
theorem dX7_digest_180 : decode cX7_digest 180 = .ok (.bipush 10, 2) := by decide +kernel
theorem dX7_digest_182 : decode cX7_digest 182 = .ok (.if_icmp .ge 19, 3) := by decide +kernel
theorem dX7_digest_185 : decode cX7_digest 185 = .ok (.aload_n 0, 1) := by decide +kernel
theorem dX7_digest_186 : decode cX7_digest 186 = .ok (.aload_n 0, 1) := by decide +kernel
theorem dX7_digest_187 : decode cX7_digest 187 = .ok (.iload_n 1, 1) := by decide +kernel
theorem dX7_digest_188 : decode cX7_digest 188 = .ok (.iconst (-1), 1) := by decide +kernel
theorem dX7_digest_189 : decode cX7_digest 189 = .ok (.invokevirtual 126, 3) := by decide +kernel
theorem dX7_digest_192 : decode cX7_digest 192 = .ok (.invokevirtual 247, 3) := by decide +kernel
theorem dX7_digest_195 : decode cX7_digest 195 = .ok (.iinc 1 1, 3) := by decide +kernel
theorem dX7_digest_198 : decode cX7_digest 198 = .ok (.goto (-19), 3) := by decide +kernel
theorem dX7_digest_201 : decode cX7_digest 201 = .ok (.iconst 0, 1) := by decide +kernel
theorem dX7_digest_202 : decode cX7_digest 202 = .ok (.istore_n 1, 1) := by decide +kernel
theorem dX7_digest_203 : decode cX7_digest 203 = .ok (.iload_n 1, 1) := by decide +kernel
theorem dX7_digest_204 : decode cX7_digest 204 = .ok (.iconst 4, 1) := by decide +kernel
theorem dX7_digest_205 : decode cX7_digest 205 = .ok (.if_icmp .ge 18, 3) := by decide +kernel
theorem dX7_digest_208 : decode cX7_digest 208 = .ok (.aload_n 0, 1) := by decide +kernel
theorem dX7_digest_209 : decode cX7_digest 209 = .ok (.aload_n 0, 1) := by decide +kernel
theorem dX7_digest_210 : decode cX7_digest 210 = .ok (.iload_n 1, 1) := by decide +kernel
theorem dX7_digest_211 : decode cX7_digest 211 = .ok (.invokevirtual 215, 3) := by decide +kernel
theorem dX7_digest_214 : decode cX7_digest 214 = .ok (.invokevirtual 247, 3) := by decide +kernel
theorem dX7_digest_217 : decode cX7_digest 217 = .ok (.iinc 1 1, 3) := by decide +kernel
theorem dX7_digest_220 : decode cX7_digest 220 = .ok (.goto (-17), 3) := by decide +kernel
theorem dX7_digest_223 : decode cX7_digest 223 = .ok (.aload_n 0, 1) := by decide +kernel
theorem dX7_digest_224 : decode cX7_digest 224 = .ok (.aload_n 0, 1) := by decide +kernel
theorem dX7_digest_225 : decode cX7_digest 225 = .ok (.invokevirtual 224, 3) := by decide +kernel
theorem dX7_digest_228 : decode cX7_digest 228 = .ok (.invokevirtual 247, 3) := by decide +kernel
theorem dX7_digest_231 : decode cX7_digest 231 = .ok (.aload_n 0, 1) := by decide +kernel
theorem dX7_digest_232 : decode cX7_digest 232 = .ok (.aload_n 0, 1) := by decide +kernel
theorem dX7_digest_233 : decode cX7_digest 233 = .ok (.invokevirtual 230, 3) := by decide +kernel
theorem dX7_digest_236 : decode cX7_digest 236 = .ok (.invokevirtual 247, 3) := by decide +kernel
theorem dX7_digest_239 : decode cX7_digest 239 = .ok (.aload_n 0, 1) := by decide +kernel
theorem dX7_digest_240 : decode cX7_digest 240 = .ok (.aload_n 0, 1) := by decide +kernel
theorem dX7_digest_241 : decode cX7_digest 241 = .ok (.invokevirtual 236, 3) := by decide +kernel
theorem dX7_digest_244 : decode cX7_digest 244 = .ok (.invokevirtual 247, 3) := by decide +kernel
theorem dX7_digest_247 : decode cX7_digest 247 = .ok (.aload_n 0, 1) := by decide +kernel
theorem dX7_digest_248 : decode cX7_digest 248 = .ok (.getfield 239, 3) := by decide +kernel
theorem dX7_digest_251 : decode cX7_digest 251 = .ok (.lreturn, 1) := by decide +kernel
theorem dJ6_signum_0f7a4_0 : decode cJ6_signum_0f7a4 0 = .ok (.iload_n 0, 1) := by decide +kernel
theorem dJ6_signum_0f7a4_1 : decode cJ6_signum_0f7a4 1 = .ok (.bipush 31, 2) := by decide +kernel
theorem dJ6_signum_0f7a4_3 : decode cJ6_signum_0f7a4 3 = .ok (.ishr, 1) := by decide +kernel
theorem dJ6_signum_0f7a4_4 : decode cJ6_signum_0f7a4 4 = .ok (.iload_n 0, 1) := by decide +kernel
theorem dJ6_signum_0f7a4_5 : decode cJ6_signum_0f7a4 5 = .ok (.ineg, 1) := by decide +kernel
theorem dJ6_signum_0f7a4_6 : decode cJ6_signum_0f7a4 6 = .ok (.bipush 31, 2) := by decide +kernel
theorem dJ6_signum_0f7a4_8 : decode cJ6_signum_0f7a4 8 = .ok (.iushr, 1) := by decide +kernel
theorem dJ6_signum_0f7a4_9 : decode cJ6_signum_0f7a4 9 = .ok (.ior, 1) := by decide +kernel
theorem dJ6_signum_0f7a4_10 : decode cJ6_signum_0f7a4 10 = .ok (.ireturn, 1) := by decide +kernel
theorem dJ9_abs_0f7a4_0 : decode cJ9_abs_0f7a4 0 = .ok (.iload_n 0, 1) := by decide +kernel
theorem dJ9_abs_0f7a4_1 : decode cJ9_abs_0f7a4 1 = .ok (.ifCond .ge 8, 3) := by decide +kernel
theorem dJ9_abs_0f7a4_4 : decode cJ9_abs_0f7a4 4 = .ok (.iload_n 0, 1) := by decide +kernel
theorem dJ9_abs_0f7a4_5 : decode cJ9_abs_0f7a4 5 = .ok (.ineg, 1) := by decide +kernel
theorem dJ9_abs_0f7a4_6 : decode cJ9_abs_0f7a4 6 = .ok (.goto 4, 3) := by decide +kernel
theorem dJ9_abs_0f7a4_9 : decode cJ9_abs_0f7a4 9 = .ok (.iload_n 0, 1) := by decide +kernel
theorem dJ9_abs_0f7a4_10 : decode cJ9_abs_0f7a4 10 = .ok (.ireturn, 1) := by decide +kernel
theorem dJ9_max_7cf53_0 : decode cJ9_max_7cf53 0 = .ok (.iload_n 0, 1) := by decide +kernel
theorem dJ9_max_7cf53_1 : decode cJ9_max_7cf53 1 = .ok (.iload_n 1, 1) := by decide +kernel
theorem dJ9_max_7cf53_2 : decode cJ9_max_7cf53 2 = .ok (.if_icmp .lt 7, 3) := by decide +kernel
theorem dJ9_max_7cf53_5 : decode cJ9_max_7cf53 5 = .ok (.iload_n 0, 1) := by decide +kernel
theorem dJ9_max_7cf53_6 : decode cJ9_max_7cf53 6 = .ok (.goto 4, 3) := by decide +kernel
theorem dJ9_max_7cf53_9 : decode cJ9_max_7cf53 9 = .ok (.iload_n 1, 1) := by decide +kernel
theorem dJ9_max_7cf53_10 : decode cJ9_max_7cf53 10 = .ok (.ireturn, 1) := by decide +kernel
theorem dJ9_min_7cf53_0 : decode cJ9_min_7cf53 0 = .ok (.iload_n 0, 1) := by decide +kernel
theorem dJ9_min_7cf53_1 : decode cJ9_min_7cf53 1 = .ok (.iload_n 1, 1) := by decide +kernel
theorem dJ9_min_7cf53_2 : decode cJ9_min_7cf53 2 = .ok (.if_icmp .gt 7, 3) := by decide +kernel
theorem dJ9_min_7cf53_5 : decode cJ9_min_7cf53 5 = .ok (.iload_n 0, 1) := by decide +kernel
theorem dJ9_min_7cf53_6 : decode cJ9_min_7cf53 6 = .ok (.goto 4, 3) := by decide +kernel
theorem dJ9_min_7cf53_9 : decode cJ9_min_7cf53 9 = .ok (.iload_n 1, 1) := by decide +kernel
theorem dJ9_min_7cf53_10 : decode cJ9_min_7cf53 10 = .ok (.ireturn, 1) := by decide +kernel
theorem dJxa1e45_init_da8c8_0 : decode cJxa1e45_init_da8c8 0 = .ok (.aload_n 0, 1) := by decide +kernel
theorem dJxa1e45_init_da8c8_1 : decode cJxa1e45_init_da8c8 1 = .ok (.invokespecial 1, 3) := by decide +kernel
theorem dJxa1e45_init_da8c8_4 : decode cJxa1e45_init_da8c8 4 = .ok (.return_, 1) := by decide +kernel
theorem dJxc12de_init_da8c8_0 : decode cJxc12de_init_da8c8 0 = .ok (.aload_n 0, 1) := by decide +kernel
theorem dJxc12de_init_da8c8_1 : decode cJxc12de_init_da8c8 1 = .ok (.invokespecial 1, 3) := by decide +kernel
theorem dJxc12de_init_da8c8_4 : decode cJxc12de_init_da8c8 4 = .ok (.aload_n 0, 1) := by decide +kernel
theorem dJxc12de_init_da8c8_5 : decode cJxc12de_init_da8c8 5 = .ok (.iconst 0, 1) := by decide +kernel
theorem dJxc12de_init_da8c8_6 : decode cJxc12de_init_da8c8 6 = .ok (.putfield 7, 3) := by decide +kernel
theorem dJxc12de_init_da8c8_9 : decode cJxc12de_init_da8c8 9 = .ok (.return_, 1) := by decide +kernel
theorem dJx35411_init_45d68_0 : decode cJx35411_init_45d68 0 = .ok (.aload_n 0, 1) := by decide +kernel
theorem dJx35411_init_45d68_1 : decode cJx35411_init_45d68 1 = .ok (.aload_n 1, 1) := by decide +kernel
theorem dJx35411_init_45d68_2 : decode cJx35411_init_45d68 2 = .ok (.putfield 1, 3) := by decide +kernel
theorem dJx35411_init_45d68_5 : decode cJx35411_init_45d68 5 = .ok (.aload_n 0, 1) := by decide +kernel
theorem dJx35411_init_45d68_6 : decode cJx35411_init_45d68 6 = .ok (.invokespecial 7, 3) := by decide +kernel
theorem dJx35411_init_45d68_9 : decode cJx35411_init_45d68 9 = .ok (.aload_n 0, 1) := by decide +kernel
theorem dJx35411_init_45d68_10 : decode cJx35411_init_45d68 10 = .ok (.iconst (-1), 1) := by decide +kernel
theorem dJx35411_init_45d68_11 : decode cJx35411_init_45d68 11 = .ok (.putfield 13, 3) := by decide +kernel
theorem dJx35411_init_45d68_14 : decode cJx35411_init_45d68 14 = .ok (.aload_n 0, 1) := by decide +kernel
theorem dJx35411_init_45d68_15 : decode cJx35411_init_45d68 15 = .ok (.aload_n 0, 1) := by decide +kernel
theorem dJx35411_init_45d68_16 : decode cJx35411_init_45d68 16 = .ok (.getfield 1, 3) := by decide +kernel
theorem dJx35411_init_45d68_19 : decode cJx35411_init_45d68 19 = .ok (.getfield 17, 3) := by decide +kernel
theorem dJx35411_init_45d68_22 : decode cJx35411_init_45d68 22 = .ok (.putfield 22, 3) := by decide +kernel
theorem dJx35411_init_45d68_25 : decode cJx35411_init_45d68 25 = .ok (.return_, 1) := by decide +kernel
theorem dJx35411_hasNext_aae02_0 : decode cJx35411_hasNext_aae02 0 = .ok (.aload_n 0, 1) := by decide +kernel
theorem dJx35411_hasNext_aae02_1 : decode cJx35411_hasNext_aae02 1 = .ok (.getfield 25, 3) := by decide +kernel
theorem dJx35411_hasNext_aae02_4 : decode cJx35411_hasNext_aae02 4 = .ok (.aload_n 0, 1) := by decide +kernel
theorem dJx35411_hasNext_aae02_5 : decode cJx35411_hasNext_aae02 5 = .ok (.getfield 1, 3) := by decide +kernel
theorem dJx35411_hasNext_aae02_8 : decode cJx35411_hasNext_aae02 8 = .ok (.getfield 28, 3) := by decide +kernel
theorem dJx35411_hasNext_aae02_11 : decode cJx35411_hasNext_aae02 11 = .ok (.if_icmp .eq 7, 3) := by decide +kernel
theorem dJx35411_hasNext_aae02_14 : decode cJx35411_hasNext_aae02 14 = .ok (.iconst 1, 1) := by decide +kernel
theorem dJx35411_hasNext_aae02_15 : decode cJx35411_hasNext_aae02 15 = .ok (.goto 4, 3) := by decide +kernel
theorem dJx35411_hasNext_aae02_18 : decode cJx35411_hasNext_aae02 18 = .ok (.iconst 0, 1) := by decide +kernel
theorem dJx35411_hasNext_aae02_19 : decode cJx35411_hasNext_aae02 19 = .ok (.ireturn, 1) := by decide +kernel
theorem dJx35411_next_0502b_0 : decode cJx35411_next_0502b 0 = .ok (.aload_n 0, 1) := by decide +kernel
theorem dJx35411_next_0502b_1 : decode cJx35411_next_0502b 1 = .ok (.invokevirtual 31, 3) := by decide +kernel
theorem dJx35411_next_0502b_4 : decode cJx35411_next_0502b 4 = .ok (.aload_n 0, 1) := by decide +kernel
theorem dJx35411_next_0502b_5 : decode cJx35411_next_0502b 5 = .ok (.getfield 25, 3) := by decide +kernel
theorem dJx35411_next_0502b_8 : decode cJx35411_next_0502b 8 = .ok (.istore_n 1, 1) := by decide +kernel
theorem dJx35411_next_0502b_9 : decode cJx35411_next_0502b 9 = .ok (.iload_n 1, 1) := by decide +kernel
theorem dJx35411_next_0502b_10 : decode cJx35411_next_0502b 10 = .ok (.aload_n 0, 1) := by decide +kernel
theorem dJx35411_next_0502b_11 : decode cJx35411_next_0502b 11 = .ok (.getfield 1, 3) := by decide +kernel
theorem dJx35411_next_0502b_14 : decode cJx35411_next_0502b 14 = .ok (.getfield 28, 3) := by decide +kernel
theorem dJx35411_next_0502b_17 : decode cJx35411_next_0502b 17 = .ok (.if_icmp .lt 11, 3) := by decide +kernel
theorem dJx35411_next_0502b_20 : decode cJx35411_next_0502b 20 = .ok (.new 34, 3) := by decide +kernel
theorem dJx35411_next_0502b_23 : decode cJx35411_next_0502b 23 = .ok (.dup, 1) := by decide +kernel
theorem dJx35411_next_0502b_24 : decode cJx35411_next_0502b 24 = .ok (.invokespecial 36, 3) := by decide +kernel
theorem dJx35411_next_0502b_27 : decode cJx35411_next_0502b 27 = .ok (.athrow, 1) := by decide +kernel
theorem dJx35411_next_0502b_28 : decode cJx35411_next_0502b 28 = .ok (.aload_n 0, 1) := by decide +kernel
theorem dJx35411_next_0502b_29 : decode cJx35411_next_0502b 29 = .ok (.getfield 1, 3) := by decide +kernel
theorem dJx35411_next_0502b_32 : decode cJx35411_next_0502b 32 = .ok (.getfield 37, 3) := by decide +kernel
theorem dJx35411_next_0502b_35 : decode cJx35411_next_0502b 35 = .ok (.astore_n 2, 1) := by decide +kernel
theorem dJx35411_next_0502b_36 : decode cJx35411_next_0502b 36 = .ok (.iload_n 1, 1) := by decide +kernel
theorem dJx35411_next_0502b_37 : decode cJx35411_next_0502b 37 = .ok (.aload_n 2, 1) := by decide +kernel
theorem dJx35411_next_0502b_38 : decode cJx35411_next_0502b 38 = .ok (.arraylength, 1) := by decide +kernel
theorem dJx35411_next_0502b_39 : decode cJx35411_next_0502b 39 = .ok (.if_icmp .lt 11, 3) := by decide +kernel
theorem dJx35411_next_0502b_42 : decode cJx35411_next_0502b 42 = .ok (.new 41, 3) := by decide +kernel
theorem dJx35411_next_0502b_45 : decode cJx35411_next_0502b 45 = .ok (.dup, 1) := by decide +kernel
theorem dJx35411_next_0502b_46 : decode cJx35411_next_0502b 46 = .ok (.invokespecial 43, 3) := by decide +kernel
theorem dJx35411_next_0502b_49 : decode cJx35411_next_0502b 49 = .ok (.athrow, 1) := by decide +kernel
theorem dJx35411_next_0502b_50 : decode cJx35411_next_0502b 50 = .ok (.aload_n 0, 1) := by decide +kernel
theorem dJx35411_next_0502b_51 : decode cJx35411_next_0502b 51 = .ok (.iload_n 1, 1) := by decide +kernel
theorem dJx35411_next_0502b_52 : decode cJx35411_next_0502b 52 = .ok (.iconst 1, 1) := by decide +kernel
theorem dJx35411_next_0502b_53 : decode cJx35411_next_0502b 53 = .ok (.iadd, 1) := by decide +kernel
theorem dJx35411_next_0502b_54 : decode cJx35411_next_0502b 54 = .ok (.putfield 25, 3) := by decide +kernel
theorem dJx35411_next_0502b_57 : decode cJx35411_next_0502b 57 = .ok (.aload_n 2, 1) := by decide +kernel
theorem dJx35411_next_0502b_58 : decode cJx35411_next_0502b 58 = .ok (.aload_n 0, 1) := by decide +kernel
theorem dJx35411_next_0502b_59 : decode cJx35411_next_0502b 59 = .ok (.iload_n 1, 1) := by decide +kernel
theorem dJx35411_next_0502b_60 : decode cJx35411_next_0502b 60 = .ok (.dup_x1, 1) := by decide +kernel
theorem dJx35411_next_0502b_61 : decode cJx35411_next_0502b 61 = .ok (.putfield 13, 3) := by decide +kernel
theorem dJx35411_next_0502b_64 : decode cJx35411_next_0502b 64 = .ok (.aaload, 1) := by decide +kernel
theorem dJx35411_next_0502b_65 : decode cJx35411_next_0502b 65 = .ok (.areturn, 1) := by decide +kernel
theorem dJx35411_checkForComodification_da8c8_0 : decode cJx35411_checkForComodification_da8c8 0 = .ok (.aload_n 0, 1) := by decide +kernel
theorem dJx35411_checkForComodification_da8c8_1 : decode cJx35411_checkForComodification_da8c8 1 = .ok (.getfield 1, 3) := by decide +kernel
theorem dJx35411_checkForComodification_da8c8_4 : decode cJx35411_checkForComodification_da8c8 4 = .ok (.getfield 17, 3) := by decide +kernel
theorem dJx35411_checkForComodification_da8c8_7 : decode cJx35411_checkForComodification_da8c8 7 = .ok (.aload_n 0, 1) := by decide +kernel
theorem dJx35411_checkForComodification_da8c8_8 : decode cJx35411_checkForComodification_da8c8 8 = .ok (.getfield 22, 3) := by decide +kernel
theorem dJx35411_checkForComodification_da8c8_11 : decode cJx35411_checkForComodification_da8c8 11 = .ok (.if_icmp .eq 11, 3) := by decide +kernel
theorem dJx35411_checkForComodification_da8c8_14 : decode cJx35411_checkForComodification_da8c8 14 = .ok (.new 41, 3) := by decide +kernel
theorem dJx35411_checkForComodification_da8c8_17 : decode cJx35411_checkForComodification_da8c8 17 = .ok (.dup, 1) := by decide +kernel
theorem dJx35411_checkForComodification_da8c8_18 : decode cJx35411_checkForComodification_da8c8 18 = .ok (.invokespecial 43, 3) := by decide +kernel
theorem dJx35411_checkForComodification_da8c8_21 : decode cJx35411_checkForComodification_da8c8 21 = .ok (.athrow, 1) := by decide +kernel
theorem dJx35411_checkForComodification_da8c8_22 : decode cJx35411_checkForComodification_da8c8 22 = .ok (.return_, 1) := by decide +kernel
theorem dJx4a65c_init_da8c8_0 : decode cJx4a65c_init_da8c8 0 = .ok (.aload_n 0, 1) := by decide +kernel
theorem dJx4a65c_init_da8c8_1 : decode cJx4a65c_init_da8c8 1 = .ok (.invokespecial 1, 3) := by decide +kernel
theorem dJx4a65c_init_da8c8_4 : decode cJx4a65c_init_da8c8 4 = .ok (.aload_n 0, 1) := by decide +kernel
theorem dJx4a65c_init_da8c8_5 : decode cJx4a65c_init_da8c8 5 = .ok (.getstatic 39, 3) := by decide +kernel
theorem dJx4a65c_init_da8c8_8 : decode cJx4a65c_init_da8c8 8 = .ok (.putfield 9, 3) := by decide +kernel
theorem dJx4a65c_init_da8c8_11 : decode cJx4a65c_init_da8c8 11 = .ok (.return_, 1) := by decide +kernel
theorem dJx4a65c_init_4bcb3_0 : decode cJx4a65c_init_4bcb3 0 = .ok (.aload_n 0, 1) := by decide +kernel
theorem dJx4a65c_init_4bcb3_1 : decode cJx4a65c_init_4bcb3 1 = .ok (.invokespecial 1, 3) := by decide +kernel
theorem dJx4a65c_init_4bcb3_4 : decode cJx4a65c_init_4bcb3 4 = .ok (.aload_n 1, 1) := by decide +kernel
theorem dJx4a65c_init_4bcb3_5 : decode cJx4a65c_init_4bcb3 5 = .ok (.invokeinterface 42 1, 5) := by decide +kernel
theorem dJx4a65c_init_4bcb3_10 : decode cJx4a65c_init_4bcb3 10 = .ok (.astore_n 2, 1) := by decide +kernel
theorem dJx4a65c_init_4bcb3_11 : decode cJx4a65c_init_4bcb3 11 = .ok (.aload_n 0, 1) := by decide +kernel
theorem dJx4a65c_init_4bcb3_12 : decode cJx4a65c_init_4bcb3 12 = .ok (.aload_n 2, 1) := by decide +kernel
theorem dJx4a65c_init_4bcb3_13 : decode cJx4a65c_init_4bcb3 13 = .ok (.arraylength, 1) := by decide +kernel
theorem dJx4a65c_init_4bcb3_14 : decode cJx4a65c_init_4bcb3 14 = .ok (.dup_x1, 1) := by decide +kernel
theorem dJx4a65c_init_4bcb3_15 : decode cJx4a65c_init_4bcb3 15 = .ok (.putfield 48, 3) := by decide +kernel
theorem dJx4a65c_init_4bcb3_18 : decode cJx4a65c_init_4bcb3 18 = .ok (.ifCond .eq 39, 3) := by decide +kernel
theorem dJx4a65c_init_4bcb3_21 : decode cJx4a65c_init_4bcb3 21 = .ok (.aload_n 1, 1) := by decide +kernel
theorem dJx4a65c_init_4bcb3_22 : decode cJx4a65c_init_4bcb3 22 = .ok (.invokeinterface 52 1, 5) := by decide +kernel
theorem dJx4a65c_init_4bcb3_27 : decode cJx4a65c_init_4bcb3 27 = .ok (.ldc 10, 2) := by decide +kernel
theorem dJx4a65c_init_4bcb3_29 : decode cJx4a65c_init_4bcb3 29 = .ok (.if_acmp .ne 11, 3) := by decide +kernel
theorem dJx4a65c_init_4bcb3_32 : decode cJx4a65c_init_4bcb3 32 = .ok (.aload_n 0, 1) := by decide +kernel
theorem dJx4a65c_init_4bcb3_33 : decode cJx4a65c_init_4bcb3 33 = .ok (.aload_n 2, 1) := by decide +kernel
theorem dJx4a65c_init_4bcb3_34 : decode cJx4a65c_init_4bcb3 34 = .ok (.putfield 9, 3) := by decide +kernel
theorem dJx4a65c_init_4bcb3_37 : decode cJx4a65c_init_4bcb3 37 = .ok (.goto 27, 3) := by decide +kernel
theorem dJx4a65c_init_4bcb3_40 : decode cJx4a65c_init_4bcb3 40 = .ok (.aload_n 0, 1) := by decide +kernel
theorem dJx4a65c_init_4bcb3_41 : decode cJx4a65c_init_4bcb3 41 = .ok (.aload_n 2, 1) := by decide +kernel
theorem dJx4a65c_init_4bcb3_42 : decode cJx4a65c_init_4bcb3 42 = .ok (.aload_n 0, 1) := by decide +kernel
theorem dJx4a65c_init_4bcb3_43 : decode cJx4a65c_init_4bcb3 43 = .ok (.getfield 48, 3) := by decide +kernel
theorem dJx4a65c_init_4bcb3_46 : decode cJx4a65c_init_4bcb3 46 = .ok (.ldc 56, 2) := by decide +kernel
theorem dJx4a65c_init_4bcb3_48 : decode cJx4a65c_init_4bcb3 48 = .ok (.invokestatic 57, 3) := by decide +kernel
theorem dJx4a65c_init_4bcb3_51 : decode cJx4a65c_init_4bcb3 51 = .ok (.putfield 9, 3) := by decide +kernel
theorem dJx4a65c_init_4bcb3_54 : decode cJx4a65c_init_4bcb3 54 = .ok (.goto 10, 3) := by decide +kernel
theorem dJx4a65c_init_4bcb3_57 : decode cJx4a65c_init_4bcb3 57 = .ok (.aload_n 0, 1) := by decide +kernel
theorem dJx4a65c_init_4bcb3_58 : decode cJx4a65c_init_4bcb3 58 = .ok (.getstatic 15, 3) := by decide +kernel
theorem dJx4a65c_init_4bcb3_61 : decode cJx4a65c_init_4bcb3 61 = .ok (.putfield 9, 3) := by decide +kernel
theorem dJx4a65c_init_4bcb3_64 : decode cJx4a65c_init_4bcb3 64 = .ok (.return_, 1) := by decide +kernel
theorem dJx4a65c_grow_92f84_0 : decode cJx4a65c_grow_92f84 0 = .ok (.aload_n 0, 1) := by decide +kernel
theorem dJx4a65c_grow_92f84_1 : decode cJx4a65c_grow_92f84 1 = .ok (.getfield 9, 3) := by decide +kernel
theorem dJx4a65c_grow_92f84_4 : decode cJx4a65c_grow_92f84 4 = .ok (.arraylength, 1) := by decide +kernel
theorem dJx4a65c_grow_92f84_5 : decode cJx4a65c_grow_92f84 5 = .ok (.istore_n 2, 1) := by decide +kernel
theorem dJx4a65c_grow_92f84_6 : decode cJx4a65c_grow_92f84 6 = .ok (.iload_n 2, 1) := by decide +kernel
theorem dJx4a65c_grow_92f84_7 : decode cJx4a65c_grow_92f84 7 = .ok (.ifCond .gt 13, 3) := by decide +kernel
theorem dJx4a65c_grow_92f84_10 : decode cJx4a65c_grow_92f84 10 = .ok (.aload_n 0, 1) := by decide +kernel
theorem dJx4a65c_grow_92f84_11 : decode cJx4a65c_grow_92f84 11 = .ok (.getfield 9, 3) := by decide +kernel
theorem dJx4a65c_grow_92f84_14 : decode cJx4a65c_grow_92f84 14 = .ok (.getstatic 39, 3) := by decide +kernel
theorem dJx4a65c_grow_92f84_17 : decode cJx4a65c_grow_92f84 17 = .ok (.if_acmp .eq 28, 3) := by decide +kernel
theorem dJx4a65c_grow_92f84_20 : decode cJx4a65c_grow_92f84 20 = .ok (.iload_n 2, 1) := by decide +kernel
theorem dJx4a65c_grow_92f84_21 : decode cJx4a65c_grow_92f84 21 = .ok (.iload_n 1, 1) := by decide +kernel
theorem dJx4a65c_grow_92f84_22 : decode cJx4a65c_grow_92f84 22 = .ok (.iload_n 2, 1) := by decide +kernel
theorem dJx4a65c_grow_92f84_23 : decode cJx4a65c_grow_92f84 23 = .ok (.isub, 1) := by decide +kernel
theorem dJx4a65c_grow_92f84_24 : decode cJx4a65c_grow_92f84 24 = .ok (.iload_n 2, 1) := by decide +kernel
theorem dJx4a65c_grow_92f84_25 : decode cJx4a65c_grow_92f84 25 = .ok (.iconst 1, 1) := by decide +kernel
theorem dJx4a65c_grow_92f84_26 : decode cJx4a65c_grow_92f84 26 = .ok (.ishr, 1) := by decide +kernel
theorem dJx4a65c_grow_92f84_27 : decode cJx4a65c_grow_92f84 27 = .ok (.invokestatic 73, 3) := by decide +kernel
theorem dJx4a65c_grow_92f84_30 : decode cJx4a65c_grow_92f84 30 = .ok (.istore_n 3, 1) := by decide +kernel
theorem dJx4a65c_grow_92f84_31 : decode cJx4a65c_grow_92f84 31 = .ok (.aload_n 0, 1) := by decide +kernel
theorem dJx4a65c_grow_92f84_32 : decode cJx4a65c_grow_92f84 32 = .ok (.aload_n 0, 1) := by decide +kernel
theorem dJx4a65c_grow_92f84_33 : decode cJx4a65c_grow_92f84 33 = .ok (.getfield 9, 3) := by decide +kernel
theorem dJx4a65c_grow_92f84_36 : decode cJx4a65c_grow_92f84 36 = .ok (.iload_n 3, 1) := by decide +kernel
theorem dJx4a65c_grow_92f84_37 : decode cJx4a65c_grow_92f84 37 = .ok (.invokestatic 66, 3) := by decide +kernel
theorem dJx4a65c_grow_92f84_40 : decode cJx4a65c_grow_92f84 40 = .ok (.dup_x1, 1) := by decide +kernel
theorem dJx4a65c_grow_92f84_41 : decode cJx4a65c_grow_92f84 41 = .ok (.putfield 9, 3) := by decide +kernel
theorem dJx4a65c_grow_92f84_44 : decode cJx4a65c_grow_92f84 44 = .ok (.areturn, 1) := by decide +kernel
theorem dJx4a65c_grow_92f84_45 : decode cJx4a65c_grow_92f84 45 = .ok (.aload_n 0, 1) := by decide +kernel
theorem dJx4a65c_grow_92f84_46 : decode cJx4a65c_grow_92f84 46 = .ok (.bipush 10, 2) := by decide +kernel
theorem dJx4a65c_grow_92f84_48 : decode cJx4a65c_grow_92f84 48 = .ok (.iload_n 1, 1) := by decide +kernel
theorem dJx4a65c_grow_92f84_49 : decode cJx4a65c_grow_92f84 49 = .ok (.invokestatic 79, 3) := by decide +kernel
theorem dJx4a65c_grow_92f84_52 : decode cJx4a65c_grow_92f84 52 = .ok (.anewarray 7, 3) := by decide +kernel
theorem dJx4a65c_grow_92f84_55 : decode cJx4a65c_grow_92f84 55 = .ok (.dup_x1, 1) := by decide +kernel
theorem dJx4a65c_grow_92f84_56 : decode cJx4a65c_grow_92f84 56 = .ok (.putfield 9, 3) := by decide +kernel
theorem dJx4a65c_grow_92f84_59 : decode cJx4a65c_grow_92f84 59 = .ok (.areturn, 1) := by decide +kernel
theorem dJx4a65c_grow_d5877_0 : decode cJx4a65c_grow_d5877 0 = .ok (.aload_n 0, 1) := by decide +kernel
theorem dJx4a65c_grow_d5877_1 : decode cJx4a65c_grow_d5877 1 = .ok (.aload_n 0, 1) := by decide +kernel
theorem dJx4a65c_grow_d5877_2 : decode cJx4a65c_grow_d5877 2 = .ok (.getfield 48, 3) := by decide +kernel
theorem dJx4a65c_grow_d5877_5 : decode cJx4a65c_grow_d5877 5 = .ok (.iconst 1, 1) := by decide +kernel
theorem dJx4a65c_grow_d5877_6 : decode cJx4a65c_grow_d5877 6 = .ok (.iadd, 1) := by decide +kernel
theorem dJx4a65c_grow_d5877_7 : decode cJx4a65c_grow_d5877 7 = .ok (.invokevirtual 69, 3) := by decide +kernel
theorem dJx4a65c_grow_d5877_10 : decode cJx4a65c_grow_d5877 10 = .ok (.areturn, 1) := by decide +kernel
theorem dJx4a65c_size_8abf5_0 : decode cJx4a65c_size_8abf5 0 = .ok (.aload_n 0, 1) := by decide +kernel
theorem dJx4a65c_size_8abf5_1 : decode cJx4a65c_size_8abf5 1 = .ok (.getfield 48, 3) := by decide +kernel
theorem dJx4a65c_size_8abf5_4 : decode cJx4a65c_size_8abf5 4 = .ok (.ireturn, 1) := by decide +kernel
theorem dJx4a65c_toArray_d5877_0 : decode cJx4a65c_toArray_d5877 0 = .ok (.aload_n 0, 1) := by decide +kernel
theorem dJx4a65c_toArray_d5877_1 : decode cJx4a65c_toArray_d5877 1 = .ok (.getfield 9, 3) := by decide +kernel
theorem dJx4a65c_toArray_d5877_4 : decode cJx4a65c_toArray_d5877 4 = .ok (.aload_n 0, 1) := by decide +kernel
theorem dJx4a65c_toArray_d5877_5 : decode cJx4a65c_toArray_d5877 5 = .ok (.getfield 48, 3) := by decide +kernel
theorem dJx4a65c_toArray_d5877_8 : decode cJx4a65c_toArray_d5877 8 = .ok (.invokestatic 66, 3) := by decide +kernel
theorem dJx4a65c_toArray_d5877_11 : decode cJx4a65c_toArray_d5877 11 = .ok (.areturn, 1) := by decide +kernel
theorem dJx4a65c_elementData_915e3_0 : decode cJx4a65c_elementData_915e3 0 = .ok (.aload_n 0, 1) := by decide +kernel
theorem dJx4a65c_elementData_915e3_1 : decode cJx4a65c_elementData_915e3 1 = .ok (.getfield 9, 3) := by decide +kernel
theorem dJx4a65c_elementData_915e3_4 : decode cJx4a65c_elementData_915e3 4 = .ok (.iload_n 1, 1) := by decide +kernel
theorem dJx4a65c_elementData_915e3_5 : decode cJx4a65c_elementData_915e3 5 = .ok (.aaload, 1) := by decide +kernel
theorem dJx4a65c_elementData_915e3_6 : decode cJx4a65c_elementData_915e3 6 = .ok (.areturn, 1) := by decide +kernel
theorem dJx4a65c_get_915e3_0 : decode cJx4a65c_get_915e3 0 = .ok (.iload_n 1, 1) := by decide +kernel
theorem dJx4a65c_get_915e3_1 : decode cJx4a65c_get_915e3 1 = .ok (.aload_n 0, 1) := by decide +kernel
theorem dJx4a65c_get_915e3_2 : decode cJx4a65c_get_915e3 2 = .ok (.getfield 48, 3) := by decide +kernel
theorem dJx4a65c_get_915e3_5 : decode cJx4a65c_get_915e3 5 = .ok (.invokestatic 118, 3) := by decide +kernel
theorem dJx4a65c_get_915e3_8 : decode cJx4a65c_get_915e3 8 = .ok (.pop, 1) := by decide +kernel
theorem dJx4a65c_get_915e3_9 : decode cJx4a65c_get_915e3 9 = .ok (.aload_n 0, 1) := by decide +kernel
theorem dJx4a65c_get_915e3_10 : decode cJx4a65c_get_915e3 10 = .ok (.iload_n 1, 1) := by decide +kernel
theorem dJx4a65c_get_915e3_11 : decode cJx4a65c_get_915e3 11 = .ok (.invokevirtual 123, 3) := by decide +kernel
theorem dJx4a65c_get_915e3_14 : decode cJx4a65c_get_915e3 14 = .ok (.areturn, 1) := by decide +kernel
theorem dJx4a65c_set_bcc79_0 : decode cJx4a65c_set_bcc79 0 = .ok (.iload_n 1, 1) := by decide +kernel
theorem dJx4a65c_set_bcc79_1 : decode cJx4a65c_set_bcc79 1 = .ok (.aload_n 0, 1) := by decide +kernel
theorem dJx4a65c_set_bcc79_2 : decode cJx4a65c_set_bcc79 2 = .ok (.getfield 48, 3) := by decide +kernel
theorem dJx4a65c_set_bcc79_5 : decode cJx4a65c_set_bcc79 5 = .ok (.invokestatic 118, 3) := by decide +kernel
theorem dJx4a65c_set_bcc79_8 : decode cJx4a65c_set_bcc79 8 = .ok (.pop, 1) := by decide +kernel
theorem dJx4a65c_set_bcc79_9 : decode cJx4a65c_set_bcc79 9 = .ok (.aload_n 0, 1) := by decide +kernel
theorem dJx4a65c_set_bcc79_10 : decode cJx4a65c_set_bcc79 10 = .ok (.iload_n 1, 1) := by decide +kernel
theorem dJx4a65c_set_bcc79_11 : decode cJx4a65c_set_bcc79 11 = .ok (.invokevirtual 123, 3) := by decide +kernel
theorem dJx4a65c_set_bcc79_14 : decode cJx4a65c_set_bcc79 14 = .ok (.astore_n 3, 1) := by decide +kernel
theorem dJx4a65c_set_bcc79_15 : decode cJx4a65c_set_bcc79 15 = .ok (.aload_n 0, 1) := by decide +kernel
theorem dJx4a65c_set_bcc79_16 : decode cJx4a65c_set_bcc79 16 = .ok (.getfield 9, 3) := by decide +kernel
theorem dJx4a65c_set_bcc79_19 : decode cJx4a65c_set_bcc79 19 = .ok (.iload_n 1, 1) := by decide +kernel
theorem dJx4a65c_set_bcc79_20 : decode cJx4a65c_set_bcc79 20 = .ok (.aload_n 2, 1) := by decide +kernel
theorem dJx4a65c_set_bcc79_21 : decode cJx4a65c_set_bcc79 21 = .ok (.aastore, 1) := by decide +kernel
theorem dJx4a65c_set_bcc79_22 : decode cJx4a65c_set_bcc79 22 = .ok (.aload_n 3, 1) := by decide +kernel
theorem dJx4a65c_set_bcc79_23 : decode cJx4a65c_set_bcc79 23 = .ok (.areturn, 1) := by decide +kernel
theorem dJx4a65c_add_72be8_0 : decode cJx4a65c_add_72be8 0 = .ok (.iload_n 3, 1) := by decide +kernel
theorem dJx4a65c_add_72be8_1 : decode cJx4a65c_add_72be8 1 = .ok (.aload_n 2, 1) := by decide +kernel
theorem dJx4a65c_add_72be8_2 : decode cJx4a65c_add_72be8 2 = .ok (.arraylength, 1) := by decide +kernel
theorem dJx4a65c_add_72be8_3 : decode cJx4a65c_add_72be8 3 = .ok (.if_icmp .ne 8, 3) := by decide +kernel
theorem dJx4a65c_add_72be8_6 : decode cJx4a65c_add_72be8 6 = .ok (.aload_n 0, 1) := by decide +kernel
theorem dJx4a65c_add_72be8_7 : decode cJx4a65c_add_72be8 7 = .ok (.invokevirtual 129, 3) := by decide +kernel
theorem dJx4a65c_add_72be8_10 : decode cJx4a65c_add_72be8 10 = .ok (.astore_n 2, 1) := by decide +kernel
theorem dJx4a65c_add_72be8_11 : decode cJx4a65c_add_72be8 11 = .ok (.aload_n 2, 1) := by decide +kernel
theorem dJx4a65c_add_72be8_12 : decode cJx4a65c_add_72be8 12 = .ok (.iload_n 3, 1) := by decide +kernel
theorem dJx4a65c_add_72be8_13 : decode cJx4a65c_add_72be8 13 = .ok (.aload_n 1, 1) := by decide +kernel
theorem dJx4a65c_add_72be8_14 : decode cJx4a65c_add_72be8 14 = .ok (.aastore, 1) := by decide +kernel
theorem dJx4a65c_add_72be8_15 : decode cJx4a65c_add_72be8 15 = .ok (.aload_n 0, 1) := by decide +kernel
theorem dJx4a65c_add_72be8_16 : decode cJx4a65c_add_72be8 16 = .ok (.iload_n 3, 1) := by decide +kernel
theorem dJx4a65c_add_72be8_17 : decode cJx4a65c_add_72be8 17 = .ok (.iconst 1, 1) := by decide +kernel
theorem dJx4a65c_add_72be8_18 : decode cJx4a65c_add_72be8 18 = .ok (.iadd, 1) := by decide +kernel
theorem dJx4a65c_add_72be8_19 : decode cJx4a65c_add_72be8 19 = .ok (.putfield 48, 3) := by decide +kernel
theorem dJx4a65c_add_72be8_22 : decode cJx4a65c_add_72be8 22 = .ok (.return_, 1) := by decide +kernel
theorem dJx4a65c_add_9ea2d_0 : decode cJx4a65c_add_9ea2d 0 = .ok (.aload_n 0, 1) := by decide +kernel
theorem dJx4a65c_add_9ea2d_1 : decode cJx4a65c_add_9ea2d 1 = .ok (.dup, 1) := by decide +kernel
theorem dJx4a65c_add_9ea2d_2 : decode cJx4a65c_add_9ea2d 2 = .ok (.getfield 63, 3) := by decide +kernel
theorem dJx4a65c_add_9ea2d_5 : decode cJx4a65c_add_9ea2d 5 = .ok (.iconst 1, 1) := by decide +kernel
theorem dJx4a65c_add_9ea2d_6 : decode cJx4a65c_add_9ea2d 6 = .ok (.iadd, 1) := by decide +kernel
theorem dJx4a65c_add_9ea2d_7 : decode cJx4a65c_add_9ea2d 7 = .ok (.putfield 63, 3) := by decide +kernel
theorem dJx4a65c_add_9ea2d_10 : decode cJx4a65c_add_9ea2d 10 = .ok (.aload_n 0, 1) := by decide +kernel
theorem dJx4a65c_add_9ea2d_11 : decode cJx4a65c_add_9ea2d 11 = .ok (.aload_n 1, 1) := by decide +kernel
theorem dJx4a65c_add_9ea2d_12 : decode cJx4a65c_add_9ea2d 12 = .ok (.aload_n 0, 1) := by decide +kernel
theorem dJx4a65c_add_9ea2d_13 : decode cJx4a65c_add_9ea2d 13 = .ok (.getfield 9, 3) := by decide +kernel
theorem dJx4a65c_add_9ea2d_16 : decode cJx4a65c_add_9ea2d 16 = .ok (.aload_n 0, 1) := by decide +kernel
theorem dJx4a65c_add_9ea2d_17 : decode cJx4a65c_add_9ea2d 17 = .ok (.getfield 48, 3) := by decide +kernel
theorem dJx4a65c_add_9ea2d_20 : decode cJx4a65c_add_9ea2d 20 = .ok (.invokevirtual 131, 3) := by decide +kernel
theorem dJx4a65c_add_9ea2d_23 : decode cJx4a65c_add_9ea2d 23 = .ok (.iconst 1, 1) := by decide +kernel
theorem dJx4a65c_add_9ea2d_24 : decode cJx4a65c_add_9ea2d 24 = .ok (.ireturn, 1) := by decide +kernel
theorem dJx4a65c_iterator_32c93_0 : decode cJx4a65c_iterator_32c93 0 = .ok (.new 267, 3) := by decide +kernel
theorem dJx4a65c_iterator_32c93_3 : decode cJx4a65c_iterator_32c93 3 = .ok (.dup, 1) := by decide +kernel
theorem dJx4a65c_iterator_32c93_4 : decode cJx4a65c_iterator_32c93 4 = .ok (.aload_n 0, 1) := by decide +kernel
theorem dJx4a65c_iterator_32c93_5 : decode cJx4a65c_iterator_32c93 5 = .ok (.invokespecial 269, 3) := by decide +kernel
theorem dJx4a65c_iterator_32c93_8 : decode cJx4a65c_iterator_32c93 8 = .ok (.areturn, 1) := by decide +kernel
theorem dJ7_copyOf_1904c_0 : decode cJ7_copyOf_1904c 0 = .ok (.aload_n 0, 1) := by decide +kernel
theorem dJ7_copyOf_1904c_1 : decode cJ7_copyOf_1904c 1 = .ok (.iload_n 1, 1) := by decide +kernel
theorem dJ7_copyOf_1904c_2 : decode cJ7_copyOf_1904c 2 = .ok (.aload_n 0, 1) := by decide +kernel
theorem dJ7_copyOf_1904c_3 : decode cJ7_copyOf_1904c 3 = .ok (.invokevirtual 86, 3) := by decide +kernel
theorem dJ7_copyOf_1904c_6 : decode cJ7_copyOf_1904c 6 = .ok (.invokestatic 300, 3) := by decide +kernel
theorem dJ7_copyOf_1904c_9 : decode cJ7_copyOf_1904c 9 = .ok (.areturn, 1) := by decide +kernel
theorem dJ7_copyOf_6403c_0 : decode cJ7_copyOf_6403c 0 = .ok (.aload_n 2, 1) := by decide +kernel
theorem dJ7_copyOf_6403c_1 : decode cJ7_copyOf_6403c 1 = .ok (.ldc 110, 2) := by decide +kernel
theorem dJ7_copyOf_6403c_3 : decode cJ7_copyOf_6403c 3 = .ok (.if_acmp .ne 10, 3) := by decide +kernel
theorem dJ7_copyOf_6403c_6 : decode cJ7_copyOf_6403c 6 = .ok (.iload_n 1, 1) := by decide +kernel
theorem dJ7_copyOf_6403c_7 : decode cJ7_copyOf_6403c 7 = .ok (.anewarray 2, 3) := by decide +kernel
theorem dJ7_copyOf_6403c_10 : decode cJ7_copyOf_6403c 10 = .ok (.goto 14, 3) := by decide +kernel
theorem dJ7_copyOf_6403c_13 : decode cJ7_copyOf_6403c 13 = .ok (.aload_n 2, 1) := by decide +kernel
theorem dJ7_copyOf_6403c_14 : decode cJ7_copyOf_6403c 14 = .ok (.invokevirtual 90, 3) := by decide +kernel
theorem dJ7_copyOf_6403c_17 : decode cJ7_copyOf_6403c 17 = .ok (.iload_n 1, 1) := by decide +kernel
theorem dJ7_copyOf_6403c_18 : decode cJ7_copyOf_6403c 18 = .ok (.invokestatic 95, 3) := by decide +kernel
theorem dJ7_copyOf_6403c_21 : decode cJ7_copyOf_6403c 21 = .ok (.checkcast 110, 3) := by decide +kernel
theorem dJ7_copyOf_6403c_24 : decode cJ7_copyOf_6403c 24 = .ok (.astore_n 3, 1) := by decide +kernel
theorem dJ7_copyOf_6403c_25 : decode cJ7_copyOf_6403c 25 = .ok (.aload_n 0, 1) := by decide +kernel
theorem dJ7_copyOf_6403c_26 : decode cJ7_copyOf_6403c 26 = .ok (.iconst 0, 1) := by decide +kernel
theorem dJ7_copyOf_6403c_27 : decode cJ7_copyOf_6403c 27 = .ok (.aload_n 3, 1) := by decide +kernel
theorem dJ7_copyOf_6403c_28 : decode cJ7_copyOf_6403c 28 = .ok (.iconst 0, 1) := by decide +kernel
theorem dJ7_copyOf_6403c_29 : decode cJ7_copyOf_6403c 29 = .ok (.aload_n 0, 1) := by decide +kernel
theorem dJ7_copyOf_6403c_30 : decode cJ7_copyOf_6403c 30 = .ok (.arraylength, 1) := by decide +kernel
theorem dJ7_copyOf_6403c_31 : decode cJ7_copyOf_6403c 31 = .ok (.iload_n 1, 1) := by decide +kernel
theorem dJ7_copyOf_6403c_32 : decode cJ7_copyOf_6403c 32 = .ok (.invokestatic 304, 3) := by decide +kernel
theorem dJ7_copyOf_6403c_35 : decode cJ7_copyOf_6403c 35 = .ok (.invokestatic 150, 3) := by decide +kernel
theorem dJ7_copyOf_6403c_38 : decode cJ7_copyOf_6403c 38 = .ok (.aload_n 3, 1) := by decide +kernel
theorem dJ7_copyOf_6403c_39 : decode cJ7_copyOf_6403c 39 = .ok (.areturn, 1) := by decide +kernel
theorem dJ15_checkIndex_7cf53_0 : decode cJ15_checkIndex_7cf53 0 = .ok (.iload_n 0, 1) := by decide +kernel
theorem dJ15_checkIndex_7cf53_1 : decode cJ15_checkIndex_7cf53 1 = .ok (.iload_n 1, 1) := by decide +kernel
theorem dJ15_checkIndex_7cf53_2 : decode cJ15_checkIndex_7cf53 2 = .ok (.aconst_null, 1) := by decide +kernel
theorem dJ15_checkIndex_7cf53_3 : decode cJ15_checkIndex_7cf53 3 = .ok (.invokestatic 105, 3) := by decide +kernel
theorem dJ15_checkIndex_7cf53_6 : decode cJ15_checkIndex_7cf53 6 = .ok (.ireturn, 1) := by decide +kernel
theorem dJ8_newLength_cabcc_0 : decode cJ8_newLength_cabcc 0 = .ok (.iload_n 0, 1) := by decide +kernel
theorem dJ8_newLength_cabcc_1 : decode cJ8_newLength_cabcc 1 = .ok (.iload_n 1, 1) := by decide +kernel
theorem dJ8_newLength_cabcc_2 : decode cJ8_newLength_cabcc 2 = .ok (.iload_n 2, 1) := by decide +kernel
theorem dJ8_newLength_cabcc_3 : decode cJ8_newLength_cabcc 3 = .ok (.invokestatic 194, 3) := by decide +kernel
theorem dJ8_newLength_cabcc_6 : decode cJ8_newLength_cabcc 6 = .ok (.iadd, 1) := by decide +kernel
theorem dJ8_newLength_cabcc_7 : decode cJ8_newLength_cabcc 7 = .ok (.istore_n 3, 1) := by decide +kernel
theorem dJ8_newLength_cabcc_8 : decode cJ8_newLength_cabcc 8 = .ok (.iconst 0, 1) := by decide +kernel
theorem dJ8_newLength_cabcc_9 : decode cJ8_newLength_cabcc 9 = .ok (.iload_n 3, 1) := by decide +kernel
theorem dJ8_newLength_cabcc_10 : decode cJ8_newLength_cabcc 10 = .ok (.if_icmp .ge 11, 3) := by decide +kernel
theorem dJ8_newLength_cabcc_13 : decode cJ8_newLength_cabcc 13 = .ok (.iload_n 3, 1) := by decide +kernel
theorem dJ8_newLength_cabcc_14 : decode cJ8_newLength_cabcc 14 = .ok (.ldc 200, 2) := by decide +kernel
theorem dJ8_newLength_cabcc_16 : decode cJ8_newLength_cabcc 16 = .ok (.if_icmp .gt 5, 3) := by decide +kernel
theorem dJ8_newLength_cabcc_19 : decode cJ8_newLength_cabcc 19 = .ok (.iload_n 3, 1) := by decide +kernel
theorem dJ8_newLength_cabcc_20 : decode cJ8_newLength_cabcc 20 = .ok (.ireturn, 1) := by decide +kernel
theorem dJ8_newLength_cabcc_21 : decode cJ8_newLength_cabcc 21 = .ok (.iload_n 0, 1) := by decide +kernel
theorem dJ8_newLength_cabcc_22 : decode cJ8_newLength_cabcc 22 = .ok (.iload_n 1, 1) := by decide +kernel
theorem dJ8_newLength_cabcc_23 : decode cJ8_newLength_cabcc 23 = .ok (.invokestatic 201, 3) := by decide +kernel
theorem dJ8_newLength_cabcc_26 : decode cJ8_newLength_cabcc 26 = .ok (.ireturn, 1) := by decide +kernel
theorem dJ8_hugeLength_7cf53_0 : decode cJ8_hugeLength_7cf53 0 = .ok (.iload_n 0, 1) := by decide +kernel
theorem dJ8_hugeLength_7cf53_1 : decode cJ8_hugeLength_7cf53 1 = .ok (.iload_n 1, 1) := by decide +kernel
theorem dJ8_hugeLength_7cf53_2 : decode cJ8_hugeLength_7cf53 2 = .ok (.iadd, 1) := by decide +kernel
theorem dJ8_hugeLength_7cf53_3 : decode cJ8_hugeLength_7cf53 3 = .ok (.istore_n 2, 1) := by decide +kernel
theorem dJ8_hugeLength_7cf53_4 : decode cJ8_hugeLength_7cf53 4 = .ok (.iload_n 2, 1) := by decide +kernel
theorem dJ8_hugeLength_7cf53_5 : decode cJ8_hugeLength_7cf53 5 = .ok (.ifCond .ge 44, 3) := by decide +kernel
theorem dJ8_hugeLength_7cf53_8 : decode cJ8_hugeLength_7cf53 8 = .ok (.new 204, 3) := by decide +kernel
theorem dJ8_hugeLength_7cf53_11 : decode cJ8_hugeLength_7cf53 11 = .ok (.dup, 1) := by decide +kernel
theorem dJ8_hugeLength_7cf53_12 : decode cJ8_hugeLength_7cf53 12 = .ok (.new 89, 3) := by decide +kernel
theorem dJ8_hugeLength_7cf53_15 : decode cJ8_hugeLength_7cf53 15 = .ok (.dup, 1) := by decide +kernel
theorem dJ8_hugeLength_7cf53_16 : decode cJ8_hugeLength_7cf53 16 = .ok (.invokespecial 91, 3) := by decide +kernel
theorem dJ8_hugeLength_7cf53_19 : decode cJ8_hugeLength_7cf53 19 = .ok (.ldc 206, 2) := by decide +kernel
theorem dJ8_hugeLength_7cf53_21 : decode cJ8_hugeLength_7cf53 21 = .ok (.invokevirtual 94, 3) := by decide +kernel
theorem dJ8_hugeLength_7cf53_24 : decode cJ8_hugeLength_7cf53 24 = .ok (.iload_n 0, 1) := by decide +kernel
theorem dJ8_hugeLength_7cf53_25 : decode cJ8_hugeLength_7cf53 25 = .ok (.invokevirtual 98, 3) := by decide +kernel
theorem dJ8_hugeLength_7cf53_28 : decode cJ8_hugeLength_7cf53 28 = .ok (.ldc 208, 2) := by decide +kernel
theorem dJ8_hugeLength_7cf53_30 : decode cJ8_hugeLength_7cf53 30 = .ok (.invokevirtual 94, 3) := by decide +kernel
theorem dJ8_hugeLength_7cf53_33 : decode cJ8_hugeLength_7cf53 33 = .ok (.iload_n 1, 1) := by decide +kernel
theorem dJ8_hugeLength_7cf53_34 : decode cJ8_hugeLength_7cf53 34 = .ok (.invokevirtual 98, 3) := by decide +kernel
theorem dJ8_hugeLength_7cf53_37 : decode cJ8_hugeLength_7cf53 37 = .ok (.ldc 210, 2) := by decide +kernel
theorem dJ8_hugeLength_7cf53_39 : decode cJ8_hugeLength_7cf53 39 = .ok (.invokevirtual 94, 3) := by decide +kernel
theorem dJ8_hugeLength_7cf53_42 : decode cJ8_hugeLength_7cf53 42 = .ok (.invokevirtual 101, 3) := by decide +kernel
theorem dJ8_hugeLength_7cf53_45 : decode cJ8_hugeLength_7cf53 45 = .ok (.invokespecial 212, 3) := by decide +kernel
theorem dJ8_hugeLength_7cf53_48 : decode cJ8_hugeLength_7cf53 48 = .ok (.athrow, 1) := by decide +kernel
theorem dJ8_hugeLength_7cf53_49 : decode cJ8_hugeLength_7cf53 49 = .ok (.iload_n 2, 1) := by decide +kernel
theorem dJ8_hugeLength_7cf53_50 : decode cJ8_hugeLength_7cf53 50 = .ok (.ldc 200, 2) := by decide +kernel
theorem dJ8_hugeLength_7cf53_52 : decode cJ8_hugeLength_7cf53 52 = .ok (.if_icmp .gt 6, 3) := by decide +kernel
theorem dJ8_hugeLength_7cf53_55 : decode cJ8_hugeLength_7cf53 55 = .ok (.ldc 200, 2) := by decide +kernel
theorem dJ8_hugeLength_7cf53_57 : decode cJ8_hugeLength_7cf53 57 = .ok (.ireturn, 1) := by decide +kernel
theorem dJ8_hugeLength_7cf53_58 : decode cJ8_hugeLength_7cf53 58 = .ok (.iload_n 2, 1) := by decide +kernel
theorem dJ8_hugeLength_7cf53_59 : decode cJ8_hugeLength_7cf53 59 = .ok (.ireturn, 1) := by decide +kernel
theorem dJ3_checkIndex_8e157_0 : decode cJ3_checkIndex_8e157 0 = .ok (.iload_n 0, 1) := by decide +kernel
theorem dJ3_checkIndex_8e157_1 : decode cJ3_checkIndex_8e157 1 = .ok (.ifCond .lt 8, 3) := by decide +kernel
theorem dJ3_checkIndex_8e157_4 : decode cJ3_checkIndex_8e157 4 = .ok (.iload_n 0, 1) := by decide +kernel
theorem dJ3_checkIndex_8e157_5 : decode cJ3_checkIndex_8e157 5 = .ok (.iload_n 1, 1) := by decide +kernel
theorem dJ3_checkIndex_8e157_6 : decode cJ3_checkIndex_8e157 6 = .ok (.if_icmp .lt 10, 3) := by decide +kernel
theorem dJ3_checkIndex_8e157_9 : decode cJ3_checkIndex_8e157 9 = .ok (.aload_n 2, 1) := by decide +kernel
theorem dJ3_checkIndex_8e157_10 : decode cJ3_checkIndex_8e157 10 = .ok (.iload_n 0, 1) := by decide +kernel
theorem dJ3_checkIndex_8e157_11 : decode cJ3_checkIndex_8e157 11 = .ok (.iload_n 1, 1) := by decide +kernel
theorem dJ3_checkIndex_8e157_12 : decode cJ3_checkIndex_8e157 12 = .ok (.invokestatic 95, 3) := by decide +kernel
theorem dJ3_checkIndex_8e157_15 : decode cJ3_checkIndex_8e157 15 = .ok (.athrow, 1) := by decide +kernel
theorem dJ3_checkIndex_8e157_16 : decode cJ3_checkIndex_8e157 16 = .ok (.iload_n 0, 1) := by decide +kernel
theorem dJ3_checkIndex_8e157_17 : decode cJ3_checkIndex_8e157 17 = .ok (.ireturn, 1) := by decide +kernel
theorem dL_person_0 : decode cL_person 0 = .ok (.aload 7, 2) := by decide +kernel
theorem dL_person_2 : decode cL_person 2 = .ok (.iconst 0, 1) := by decide +kernel
theorem dL_person_3 : decode cL_person 3 = .ok (.aload_n 0, 1) := by decide +kernel
theorem dL_person_4 : decode cL_person 4 = .ok (.iload_n 1, 1) := by decide +kernel
theorem dL_person_5 : decode cL_person 5 = .ok (.iload_n 2, 1) := by decide +kernel
theorem dL_person_6 : decode cL_person 6 = .ok (.iload_n 3, 1) := by decide +kernel
theorem dL_person_7 : decode cL_person 7 = .ok (.iload 4, 2) := by decide +kernel
theorem dL_person_9 : decode cL_person 9 = .ok (.iload 5, 2) := by decide +kernel
theorem dL_person_11 : decode cL_person 11 = .ok (.iload 6, 2) := by decide +kernel
theorem dL_person_13 : decode cL_person 13 = .ok (.invokevirtual 7, 3) := by decide +kernel
theorem dL_person_16 : decode cL_person 16 = .ok (.i2l, 1) := by decide +kernel
theorem dL_person_17 : decode cL_person 17 = .ok (.lastore, 1) := by decide +kernel
theorem dL_person_18 : decode cL_person 18 = .ok (.goto 11, 3) := by decide +kernel
theorem dL_person_21 : decode cL_person 21 = .ok (.astore 8, 2) := by decide +kernel
theorem dL_person_23 : decode cL_person 23 = .ok (.iconst 1, 1) := by decide +kernel
theorem dL_person_24 : decode cL_person 24 = .ok (.ireturn, 1) := by decide +kernel
theorem dL_person_25 : decode cL_person 25 = .ok (.astore 8, 2) := by decide +kernel
theorem dL_person_27 : decode cL_person 27 = .ok (.iconst 2, 1) := by decide +kernel
theorem dL_person_28 : decode cL_person 28 = .ok (.ireturn, 1) := by decide +kernel
theorem dL_person_29 : decode cL_person 29 = .ok (.iconst 0, 1) := by decide +kernel
theorem dL_person_30 : decode cL_person 30 = .ok (.ireturn, 1) := by decide +kernel
theorem dL_figure_0 : decode cL_figure 0 = .ok (.aload_n 3, 1) := by decide +kernel
theorem dL_figure_1 : decode cL_figure 1 = .ok (.iconst 0, 1) := by decide +kernel
theorem dL_figure_2 : decode cL_figure 2 = .ok (.aload_n 0, 1) := by decide +kernel
theorem dL_figure_3 : decode cL_figure 3 = .ok (.iload_n 1, 1) := by decide +kernel
theorem dL_figure_4 : decode cL_figure 4 = .ok (.iload_n 2, 1) := by decide +kernel
theorem dL_figure_5 : decode cL_figure 5 = .ok (.invokevirtual 17, 3) := by decide +kernel
theorem dL_figure_8 : decode cL_figure 8 = .ok (.i2l, 1) := by decide +kernel
theorem dL_figure_9 : decode cL_figure 9 = .ok (.lastore, 1) := by decide +kernel
theorem dL_figure_10 : decode cL_figure 10 = .ok (.goto 15, 3) := by decide +kernel
theorem dL_figure_13 : decode cL_figure 13 = .ok (.astore 4, 2) := by decide +kernel
theorem dL_figure_15 : decode cL_figure 15 = .ok (.iconst 1, 1) := by decide +kernel
theorem dL_figure_16 : decode cL_figure 16 = .ok (.ireturn, 1) := by decide +kernel
theorem dL_figure_17 : decode cL_figure 17 = .ok (.astore 4, 2) := by decide +kernel
theorem dL_figure_19 : decode cL_figure 19 = .ok (.iconst 2, 1) := by decide +kernel
theorem dL_figure_20 : decode cL_figure 20 = .ok (.ireturn, 1) := by decide +kernel
theorem dL_figure_21 : decode cL_figure 21 = .ok (.astore 4, 2) := by decide +kernel
theorem dL_figure_23 : decode cL_figure 23 = .ok (.iconst 3, 1) := by decide +kernel
theorem dL_figure_24 : decode cL_figure 24 = .ok (.ireturn, 1) := by decide +kernel
theorem dL_figure_25 : decode cL_figure 25 = .ok (.iconst 0, 1) := by decide +kernel
theorem dL_figure_26 : decode cL_figure 26 = .ok (.ireturn, 1) := by decide +kernel
theorem dL_scene_0 : decode cL_scene 0 = .ok (.aload 7, 2) := by decide +kernel
theorem dL_scene_2 : decode cL_scene 2 = .ok (.iconst 0, 1) := by decide +kernel
theorem dL_scene_3 : decode cL_scene 3 = .ok (.aload_n 0, 1) := by decide +kernel
theorem dL_scene_4 : decode cL_scene 4 = .ok (.iload_n 1, 1) := by decide +kernel
theorem dL_scene_5 : decode cL_scene 5 = .ok (.iload_n 2, 1) := by decide +kernel
theorem dL_scene_6 : decode cL_scene 6 = .ok (.iload_n 3, 1) := by decide +kernel
theorem dL_scene_7 : decode cL_scene 7 = .ok (.iload 4, 2) := by decide +kernel
theorem dL_scene_9 : decode cL_scene 9 = .ok (.iload 5, 2) := by decide +kernel
theorem dL_scene_11 : decode cL_scene 11 = .ok (.iload 6, 2) := by decide +kernel
theorem dL_scene_13 : decode cL_scene 13 = .ok (.invokevirtual 23, 3) := by decide +kernel
theorem dL_scene_16 : decode cL_scene 16 = .ok (.i2l, 1) := by decide +kernel
theorem dL_scene_17 : decode cL_scene 17 = .ok (.lastore, 1) := by decide +kernel
theorem dL_scene_18 : decode cL_scene 18 = .ok (.goto 11, 3) := by decide +kernel
theorem dL_scene_21 : decode cL_scene 21 = .ok (.astore 8, 2) := by decide +kernel
theorem dL_scene_23 : decode cL_scene 23 = .ok (.iconst 1, 1) := by decide +kernel
theorem dL_scene_24 : decode cL_scene 24 = .ok (.ireturn, 1) := by decide +kernel
theorem dL_scene_25 : decode cL_scene 25 = .ok (.astore 8, 2) := by decide +kernel
theorem dL_scene_27 : decode cL_scene 27 = .ok (.iconst 2, 1) := by decide +kernel
theorem dL_scene_28 : decode cL_scene 28 = .ok (.ireturn, 1) := by decide +kernel
theorem dL_scene_29 : decode cL_scene 29 = .ok (.iconst 0, 1) := by decide +kernel
theorem dL_scene_30 : decode cL_scene 30 = .ok (.ireturn, 1) := by decide +kernel
theorem dL_length_0 : decode cL_length 0 = .ok (.aload_n 3, 1) := by decide +kernel
theorem dL_length_1 : decode cL_length 1 = .ok (.iconst 0, 1) := by decide +kernel
theorem dL_length_2 : decode cL_length 2 = .ok (.aload_n 0, 1) := by decide +kernel
theorem dL_length_3 : decode cL_length 3 = .ok (.iload_n 1, 1) := by decide +kernel
theorem dL_length_4 : decode cL_length 4 = .ok (.iload_n 2, 1) := by decide +kernel
theorem dL_length_5 : decode cL_length 5 = .ok (.invokevirtual 27, 3) := by decide +kernel
theorem dL_length_8 : decode cL_length 8 = .ok (.i2l, 1) := by decide +kernel
theorem dL_length_9 : decode cL_length 9 = .ok (.lastore, 1) := by decide +kernel
theorem dL_length_10 : decode cL_length 10 = .ok (.goto 15, 3) := by decide +kernel
theorem dL_length_13 : decode cL_length 13 = .ok (.astore 4, 2) := by decide +kernel
theorem dL_length_15 : decode cL_length 15 = .ok (.iconst 1, 1) := by decide +kernel
theorem dL_length_16 : decode cL_length 16 = .ok (.ireturn, 1) := by decide +kernel
theorem dL_length_17 : decode cL_length 17 = .ok (.astore 4, 2) := by decide +kernel
theorem dL_length_19 : decode cL_length 19 = .ok (.iconst 2, 1) := by decide +kernel
theorem dL_length_20 : decode cL_length 20 = .ok (.ireturn, 1) := by decide +kernel
theorem dL_length_21 : decode cL_length 21 = .ok (.astore 4, 2) := by decide +kernel
theorem dL_length_23 : decode cL_length 23 = .ok (.iconst 3, 1) := by decide +kernel
theorem dL_length_24 : decode cL_length 24 = .ok (.ireturn, 1) := by decide +kernel
theorem dL_length_25 : decode cL_length 25 = .ok (.iconst 0, 1) := by decide +kernel
theorem dL_length_26 : decode cL_length 26 = .ok (.ireturn, 1) := by decide +kernel
theorem dL_swap_0 : decode cL_swap 0 = .ok (.aload_n 3, 1) := by decide +kernel
theorem dL_swap_1 : decode cL_swap 1 = .ok (.iconst 0, 1) := by decide +kernel
theorem dL_swap_2 : decode cL_swap 2 = .ok (.aload_n 0, 1) := by decide +kernel
theorem dL_swap_3 : decode cL_swap 3 = .ok (.iload_n 1, 1) := by decide +kernel
theorem dL_swap_4 : decode cL_swap 4 = .ok (.iload_n 2, 1) := by decide +kernel
theorem dL_swap_5 : decode cL_swap 5 = .ok (.invokevirtual 30, 3) := by decide +kernel
theorem dL_swap_8 : decode cL_swap 8 = .ok (.i2l, 1) := by decide +kernel
theorem dL_swap_9 : decode cL_swap 9 = .ok (.lastore, 1) := by decide +kernel
theorem dL_swap_10 : decode cL_swap 10 = .ok (.goto 11, 3) := by decide +kernel
theorem dL_swap_13 : decode cL_swap 13 = .ok (.astore 4, 2) := by decide +kernel
theorem dL_swap_15 : decode cL_swap 15 = .ok (.iconst 1, 1) := by decide +kernel
theorem dL_swap_16 : decode cL_swap 16 = .ok (.ireturn, 1) := by decide +kernel
theorem dL_swap_17 : decode cL_swap 17 = .ok (.astore 4, 2) := by decide +kernel
theorem dL_swap_19 : decode cL_swap 19 = .ok (.iconst 2, 1) := by decide +kernel
theorem dL_swap_20 : decode cL_swap 20 = .ok (.ireturn, 1) := by decide +kernel
theorem dL_swap_21 : decode cL_swap 21 = .ok (.iconst 0, 1) := by decide +kernel
theorem dL_swap_22 : decode cL_swap 22 = .ok (.ireturn, 1) := by decide +kernel
theorem dL_lamp_0 : decode cL_lamp 0 = .ok (.aload_n 3, 1) := by decide +kernel
theorem dL_lamp_1 : decode cL_lamp 1 = .ok (.iconst 0, 1) := by decide +kernel
theorem dL_lamp_2 : decode cL_lamp 2 = .ok (.aload_n 0, 1) := by decide +kernel
theorem dL_lamp_3 : decode cL_lamp 3 = .ok (.iload_n 1, 1) := by decide +kernel
theorem dL_lamp_4 : decode cL_lamp 4 = .ok (.iload_n 2, 1) := by decide +kernel
theorem dL_lamp_5 : decode cL_lamp 5 = .ok (.invokevirtual 33, 3) := by decide +kernel
theorem dL_lamp_8 : decode cL_lamp 8 = .ok (.i2l, 1) := by decide +kernel
theorem dL_lamp_9 : decode cL_lamp 9 = .ok (.lastore, 1) := by decide +kernel
theorem dL_lamp_10 : decode cL_lamp 10 = .ok (.goto 7, 3) := by decide +kernel
theorem dL_lamp_13 : decode cL_lamp 13 = .ok (.astore 4, 2) := by decide +kernel
theorem dL_lamp_15 : decode cL_lamp 15 = .ok (.iconst 1, 1) := by decide +kernel
theorem dL_lamp_16 : decode cL_lamp 16 = .ok (.ireturn, 1) := by decide +kernel
theorem dL_lamp_17 : decode cL_lamp 17 = .ok (.iconst 0, 1) := by decide +kernel
theorem dL_lamp_18 : decode cL_lamp 18 = .ok (.ireturn, 1) := by decide +kernel
theorem dL_grip_0 : decode cL_grip 0 = .ok (.aload_n 2, 1) := by decide +kernel
theorem dL_grip_1 : decode cL_grip 1 = .ok (.iconst 0, 1) := by decide +kernel
theorem dL_grip_2 : decode cL_grip 2 = .ok (.aload_n 0, 1) := by decide +kernel
theorem dL_grip_3 : decode cL_grip 3 = .ok (.iload_n 1, 1) := by decide +kernel
theorem dL_grip_4 : decode cL_grip 4 = .ok (.invokevirtual 36, 3) := by decide +kernel
theorem dL_grip_7 : decode cL_grip 7 = .ok (.i2l, 1) := by decide +kernel
theorem dL_grip_8 : decode cL_grip 8 = .ok (.lastore, 1) := by decide +kernel
theorem dL_grip_9 : decode cL_grip 9 = .ok (.goto 9, 3) := by decide +kernel
theorem dL_grip_12 : decode cL_grip 12 = .ok (.astore_n 3, 1) := by decide +kernel
theorem dL_grip_13 : decode cL_grip 13 = .ok (.iconst 1, 1) := by decide +kernel
theorem dL_grip_14 : decode cL_grip 14 = .ok (.ireturn, 1) := by decide +kernel
theorem dL_grip_15 : decode cL_grip 15 = .ok (.astore_n 3, 1) := by decide +kernel
theorem dL_grip_16 : decode cL_grip 16 = .ok (.iconst 2, 1) := by decide +kernel
theorem dL_grip_17 : decode cL_grip 17 = .ok (.ireturn, 1) := by decide +kernel
theorem dL_grip_18 : decode cL_grip 18 = .ok (.iconst 0, 1) := by decide +kernel
theorem dL_grip_19 : decode cL_grip 19 = .ok (.ireturn, 1) := by decide +kernel
theorem dL_move_0 : decode cL_move 0 = .ok (.aload_n 3, 1) := by decide +kernel
theorem dL_move_1 : decode cL_move 1 = .ok (.iconst 0, 1) := by decide +kernel
theorem dL_move_2 : decode cL_move 2 = .ok (.aload_n 0, 1) := by decide +kernel
theorem dL_move_3 : decode cL_move 3 = .ok (.iload_n 1, 1) := by decide +kernel
theorem dL_move_4 : decode cL_move 4 = .ok (.iload_n 2, 1) := by decide +kernel
theorem dL_move_5 : decode cL_move 5 = .ok (.invokevirtual 40, 3) := by decide +kernel
theorem dL_move_8 : decode cL_move 8 = .ok (.i2l, 1) := by decide +kernel
theorem dL_move_9 : decode cL_move 9 = .ok (.lastore, 1) := by decide +kernel
theorem dL_move_10 : decode cL_move 10 = .ok (.goto 15, 3) := by decide +kernel
theorem dL_move_13 : decode cL_move 13 = .ok (.astore 4, 2) := by decide +kernel
theorem dL_move_15 : decode cL_move 15 = .ok (.iconst 1, 1) := by decide +kernel
theorem dL_move_16 : decode cL_move 16 = .ok (.ireturn, 1) := by decide +kernel
theorem dL_move_17 : decode cL_move 17 = .ok (.astore 4, 2) := by decide +kernel
theorem dL_move_19 : decode cL_move 19 = .ok (.iconst 2, 1) := by decide +kernel
theorem dL_move_20 : decode cL_move 20 = .ok (.ireturn, 1) := by decide +kernel
theorem dL_move_21 : decode cL_move 21 = .ok (.astore 4, 2) := by decide +kernel
theorem dL_move_23 : decode cL_move 23 = .ok (.iconst 3, 1) := by decide +kernel
theorem dL_move_24 : decode cL_move 24 = .ok (.ireturn, 1) := by decide +kernel
theorem dL_move_25 : decode cL_move 25 = .ok (.iconst 0, 1) := by decide +kernel
theorem dL_move_26 : decode cL_move 26 = .ok (.ireturn, 1) := by decide +kernel
theorem dL_lift_0 : decode cL_lift 0 = .ok (.aload_n 3, 1) := by decide +kernel
theorem dL_lift_1 : decode cL_lift 1 = .ok (.iconst 0, 1) := by decide +kernel
theorem dL_lift_2 : decode cL_lift 2 = .ok (.aload_n 0, 1) := by decide +kernel
theorem dL_lift_3 : decode cL_lift 3 = .ok (.iload_n 1, 1) := by decide +kernel
theorem dL_lift_4 : decode cL_lift 4 = .ok (.iload_n 2, 1) := by decide +kernel
theorem dL_lift_5 : decode cL_lift 5 = .ok (.invokevirtual 43, 3) := by decide +kernel
theorem dL_lift_8 : decode cL_lift 8 = .ok (.i2l, 1) := by decide +kernel
theorem dL_lift_9 : decode cL_lift 9 = .ok (.lastore, 1) := by decide +kernel
theorem dL_lift_10 : decode cL_lift 10 = .ok (.goto 15, 3) := by decide +kernel
theorem dL_lift_13 : decode cL_lift 13 = .ok (.astore 4, 2) := by decide +kernel
theorem dL_lift_15 : decode cL_lift 15 = .ok (.iconst 1, 1) := by decide +kernel
theorem dL_lift_16 : decode cL_lift 16 = .ok (.ireturn, 1) := by decide +kernel
theorem dL_lift_17 : decode cL_lift 17 = .ok (.astore 4, 2) := by decide +kernel
theorem dL_lift_19 : decode cL_lift 19 = .ok (.iconst 2, 1) := by decide +kernel
theorem dL_lift_20 : decode cL_lift 20 = .ok (.ireturn, 1) := by decide +kernel
theorem dL_lift_21 : decode cL_lift 21 = .ok (.astore 4, 2) := by decide +kernel
theorem dL_lift_23 : decode cL_lift 23 = .ok (.iconst 3, 1) := by decide +kernel
theorem dL_lift_24 : decode cL_lift 24 = .ok (.ireturn, 1) := by decide +kernel
theorem dL_lift_25 : decode cL_lift 25 = .ok (.iconst 0, 1) := by decide +kernel
theorem dL_lift_26 : decode cL_lift 26 = .ok (.ireturn, 1) := by decide +kernel
theorem dL_plant_0 : decode cL_plant 0 = .ok (.aload_n 2, 1) := by decide +kernel
theorem dL_plant_1 : decode cL_plant 1 = .ok (.iconst 0, 1) := by decide +kernel
theorem dL_plant_2 : decode cL_plant 2 = .ok (.aload_n 0, 1) := by decide +kernel
theorem dL_plant_3 : decode cL_plant 3 = .ok (.iload_n 1, 1) := by decide +kernel
theorem dL_plant_4 : decode cL_plant 4 = .ok (.invokevirtual 46, 3) := by decide +kernel
theorem dL_plant_7 : decode cL_plant 7 = .ok (.i2l, 1) := by decide +kernel
theorem dL_plant_8 : decode cL_plant 8 = .ok (.lastore, 1) := by decide +kernel
theorem dL_plant_9 : decode cL_plant 9 = .ok (.goto 9, 3) := by decide +kernel
theorem dL_plant_12 : decode cL_plant 12 = .ok (.astore_n 3, 1) := by decide +kernel
theorem dL_plant_13 : decode cL_plant 13 = .ok (.iconst 1, 1) := by decide +kernel
theorem dL_plant_14 : decode cL_plant 14 = .ok (.ireturn, 1) := by decide +kernel
theorem dL_plant_15 : decode cL_plant 15 = .ok (.astore_n 3, 1) := by decide +kernel
theorem dL_plant_16 : decode cL_plant 16 = .ok (.iconst 2, 1) := by decide +kernel
theorem dL_plant_17 : decode cL_plant 17 = .ok (.ireturn, 1) := by decide +kernel
theorem dL_plant_18 : decode cL_plant 18 = .ok (.iconst 0, 1) := by decide +kernel
theorem dL_plant_19 : decode cL_plant 19 = .ok (.ireturn, 1) := by decide +kernel
theorem dL_hand_0 : decode cL_hand 0 = .ok (.aload_n 2, 1) := by decide +kernel
theorem dL_hand_1 : decode cL_hand 1 = .ok (.iconst 0, 1) := by decide +kernel
theorem dL_hand_2 : decode cL_hand 2 = .ok (.aload_n 0, 1) := by decide +kernel
theorem dL_hand_3 : decode cL_hand 3 = .ok (.iload_n 1, 1) := by decide +kernel
theorem dL_hand_4 : decode cL_hand 4 = .ok (.invokevirtual 49, 3) := by decide +kernel
theorem dL_hand_7 : decode cL_hand 7 = .ok (.i2l, 1) := by decide +kernel
theorem dL_hand_8 : decode cL_hand 8 = .ok (.lastore, 1) := by decide +kernel
theorem dL_hand_9 : decode cL_hand 9 = .ok (.goto 9, 3) := by decide +kernel
theorem dL_hand_12 : decode cL_hand 12 = .ok (.astore_n 3, 1) := by decide +kernel
theorem dL_hand_13 : decode cL_hand 13 = .ok (.iconst 1, 1) := by decide +kernel
theorem dL_hand_14 : decode cL_hand 14 = .ok (.ireturn, 1) := by decide +kernel
theorem dL_hand_15 : decode cL_hand 15 = .ok (.astore_n 3, 1) := by decide +kernel
theorem dL_hand_16 : decode cL_hand 16 = .ok (.iconst 2, 1) := by decide +kernel
theorem dL_hand_17 : decode cL_hand 17 = .ok (.ireturn, 1) := by decide +kernel
theorem dL_hand_18 : decode cL_hand 18 = .ok (.iconst 0, 1) := by decide +kernel
theorem dL_hand_19 : decode cL_hand 19 = .ok (.ireturn, 1) := by decide +kernel
theorem dL_away_0 : decode cL_away 0 = .ok (.aload_n 2, 1) := by decide +kernel
theorem dL_away_1 : decode cL_away 1 = .ok (.iconst 0, 1) := by decide +kernel
theorem dL_away_2 : decode cL_away 2 = .ok (.aload_n 0, 1) := by decide +kernel
theorem dL_away_3 : decode cL_away 3 = .ok (.iload_n 1, 1) := by decide +kernel
theorem dL_away_4 : decode cL_away 4 = .ok (.invokevirtual 52, 3) := by decide +kernel
theorem dL_away_7 : decode cL_away 7 = .ok (.i2l, 1) := by decide +kernel
theorem dL_away_8 : decode cL_away 8 = .ok (.lastore, 1) := by decide +kernel
theorem dL_away_9 : decode cL_away 9 = .ok (.goto 9, 3) := by decide +kernel
theorem dL_away_12 : decode cL_away 12 = .ok (.astore_n 3, 1) := by decide +kernel
theorem dL_away_13 : decode cL_away 13 = .ok (.iconst 1, 1) := by decide +kernel
theorem dL_away_14 : decode cL_away 14 = .ok (.ireturn, 1) := by decide +kernel
theorem dL_away_15 : decode cL_away 15 = .ok (.astore_n 3, 1) := by decide +kernel
theorem dL_away_16 : decode cL_away 16 = .ok (.iconst 2, 1) := by decide +kernel
theorem dL_away_17 : decode cL_away 17 = .ok (.ireturn, 1) := by decide +kernel
theorem dL_away_18 : decode cL_away 18 = .ok (.iconst 0, 1) := by decide +kernel
theorem dL_away_19 : decode cL_away 19 = .ok (.ireturn, 1) := by decide +kernel
theorem dL_tap_0 : decode cL_tap 0 = .ok (.aload_n 2, 1) := by decide +kernel
theorem dL_tap_1 : decode cL_tap 1 = .ok (.iconst 0, 1) := by decide +kernel
theorem dL_tap_2 : decode cL_tap 2 = .ok (.aload_n 0, 1) := by decide +kernel
theorem dL_tap_3 : decode cL_tap 3 = .ok (.iload_n 1, 1) := by decide +kernel
theorem dL_tap_4 : decode cL_tap 4 = .ok (.invokevirtual 55, 3) := by decide +kernel
theorem dL_tap_7 : decode cL_tap 7 = .ok (.ifCond .eq 7, 3) := by decide +kernel
theorem dL_tap_10 : decode cL_tap 10 = .ok (.lconst 1, 1) := by decide +kernel
theorem dL_tap_11 : decode cL_tap 11 = .ok (.goto 4, 3) := by decide +kernel
theorem dL_tap_14 : decode cL_tap 14 = .ok (.lconst 0, 1) := by decide +kernel
theorem dL_tap_15 : decode cL_tap 15 = .ok (.lastore, 1) := by decide +kernel
theorem dL_tap_16 : decode cL_tap 16 = .ok (.goto 6, 3) := by decide +kernel
theorem dL_tap_19 : decode cL_tap 19 = .ok (.astore_n 3, 1) := by decide +kernel
theorem dL_tap_20 : decode cL_tap 20 = .ok (.iconst 1, 1) := by decide +kernel
theorem dL_tap_21 : decode cL_tap 21 = .ok (.ireturn, 1) := by decide +kernel
theorem dL_tap_22 : decode cL_tap 22 = .ok (.iconst 0, 1) := by decide +kernel
theorem dL_tap_23 : decode cL_tap 23 = .ok (.ireturn, 1) := by decide +kernel
theorem dL_speak_0 : decode cL_speak 0 = .ok (.aload 5, 2) := by decide +kernel
theorem dL_speak_2 : decode cL_speak 2 = .ok (.iconst 0, 1) := by decide +kernel
theorem dL_speak_3 : decode cL_speak 3 = .ok (.aload_n 0, 1) := by decide +kernel
theorem dL_speak_4 : decode cL_speak 4 = .ok (.iload_n 1, 1) := by decide +kernel
theorem dL_speak_5 : decode cL_speak 5 = .ok (.iload_n 2, 1) := by decide +kernel
theorem dL_speak_6 : decode cL_speak 6 = .ok (.iload_n 3, 1) := by decide +kernel
theorem dL_speak_7 : decode cL_speak 7 = .ok (.iload 4, 2) := by decide +kernel
theorem dL_speak_9 : decode cL_speak 9 = .ok (.invokevirtual 59, 3) := by decide +kernel
theorem dL_speak_12 : decode cL_speak 12 = .ok (.i2l, 1) := by decide +kernel
theorem dL_speak_13 : decode cL_speak 13 = .ok (.lastore, 1) := by decide +kernel
theorem dL_speak_14 : decode cL_speak 14 = .ok (.goto 15, 3) := by decide +kernel
theorem dL_speak_17 : decode cL_speak 17 = .ok (.astore 6, 2) := by decide +kernel
theorem dL_speak_19 : decode cL_speak 19 = .ok (.iconst 1, 1) := by decide +kernel
theorem dL_speak_20 : decode cL_speak 20 = .ok (.ireturn, 1) := by decide +kernel
theorem dL_speak_21 : decode cL_speak 21 = .ok (.astore 6, 2) := by decide +kernel
theorem dL_speak_23 : decode cL_speak 23 = .ok (.iconst 2, 1) := by decide +kernel
theorem dL_speak_24 : decode cL_speak 24 = .ok (.ireturn, 1) := by decide +kernel
theorem dL_speak_25 : decode cL_speak 25 = .ok (.astore 6, 2) := by decide +kernel
theorem dL_speak_27 : decode cL_speak 27 = .ok (.iconst 3, 1) := by decide +kernel
theorem dL_speak_28 : decode cL_speak 28 = .ok (.ireturn, 1) := by decide +kernel
theorem dL_speak_29 : decode cL_speak 29 = .ok (.iconst 0, 1) := by decide +kernel
theorem dL_speak_30 : decode cL_speak 30 = .ok (.ireturn, 1) := by decide +kernel
theorem dL_joke_0 : decode cL_joke 0 = .ok (.aload_n 2, 1) := by decide +kernel
theorem dL_joke_1 : decode cL_joke 1 = .ok (.iconst 0, 1) := by decide +kernel
theorem dL_joke_2 : decode cL_joke 2 = .ok (.aload_n 0, 1) := by decide +kernel
theorem dL_joke_3 : decode cL_joke 3 = .ok (.iload_n 1, 1) := by decide +kernel
theorem dL_joke_4 : decode cL_joke 4 = .ok (.invokevirtual 63, 3) := by decide +kernel
theorem dL_joke_7 : decode cL_joke 7 = .ok (.i2l, 1) := by decide +kernel
theorem dL_joke_8 : decode cL_joke 8 = .ok (.lastore, 1) := by decide +kernel
theorem dL_joke_9 : decode cL_joke 9 = .ok (.goto 6, 3) := by decide +kernel
theorem dL_joke_12 : decode cL_joke 12 = .ok (.astore_n 3, 1) := by decide +kernel
theorem dL_joke_13 : decode cL_joke 13 = .ok (.iconst 1, 1) := by decide +kernel
theorem dL_joke_14 : decode cL_joke 14 = .ok (.ireturn, 1) := by decide +kernel
theorem dL_joke_15 : decode cL_joke 15 = .ok (.iconst 0, 1) := by decide +kernel
theorem dL_joke_16 : decode cL_joke 16 = .ok (.ireturn, 1) := by decide +kernel
theorem dL_offer_0 : decode cL_offer 0 = .ok (.aload_n 1, 1) := by decide +kernel
theorem dL_offer_1 : decode cL_offer 1 = .ok (.iconst 0, 1) := by decide +kernel
theorem dL_offer_2 : decode cL_offer 2 = .ok (.aload_n 0, 1) := by decide +kernel
theorem dL_offer_3 : decode cL_offer 3 = .ok (.invokevirtual 66, 3) := by decide +kernel
theorem dL_offer_6 : decode cL_offer 6 = .ok (.i2l, 1) := by decide +kernel
theorem dL_offer_7 : decode cL_offer 7 = .ok (.lastore, 1) := by decide +kernel
theorem dL_offer_8 : decode cL_offer 8 = .ok (.goto 6, 3) := by decide +kernel
theorem dL_offer_11 : decode cL_offer 11 = .ok (.astore_n 2, 1) := by decide +kernel
theorem dL_offer_12 : decode cL_offer 12 = .ok (.iconst 1, 1) := by decide +kernel
theorem dL_offer_13 : decode cL_offer 13 = .ok (.ireturn, 1) := by decide +kernel
theorem dL_offer_14 : decode cL_offer 14 = .ok (.iconst 0, 1) := by decide +kernel
theorem dL_offer_15 : decode cL_offer 15 = .ok (.ireturn, 1) := by decide +kernel
theorem dL_pass_0 : decode cL_pass 0 = .ok (.aload_n 2, 1) := by decide +kernel
theorem dL_pass_1 : decode cL_pass 1 = .ok (.iconst 0, 1) := by decide +kernel
theorem dL_pass_2 : decode cL_pass 2 = .ok (.aload_n 0, 1) := by decide +kernel
theorem dL_pass_3 : decode cL_pass 3 = .ok (.iload_n 1, 1) := by decide +kernel
theorem dL_pass_4 : decode cL_pass 4 = .ok (.invokevirtual 70, 3) := by decide +kernel
theorem dL_pass_7 : decode cL_pass 7 = .ok (.i2l, 1) := by decide +kernel
theorem dL_pass_8 : decode cL_pass 8 = .ok (.lastore, 1) := by decide +kernel
theorem dL_pass_9 : decode cL_pass 9 = .ok (.goto 9, 3) := by decide +kernel
theorem dL_pass_12 : decode cL_pass 12 = .ok (.astore_n 3, 1) := by decide +kernel
theorem dL_pass_13 : decode cL_pass 13 = .ok (.iconst 1, 1) := by decide +kernel
theorem dL_pass_14 : decode cL_pass 14 = .ok (.ireturn, 1) := by decide +kernel
theorem dL_pass_15 : decode cL_pass 15 = .ok (.astore_n 3, 1) := by decide +kernel
theorem dL_pass_16 : decode cL_pass 16 = .ok (.iconst 2, 1) := by decide +kernel
theorem dL_pass_17 : decode cL_pass 17 = .ok (.ireturn, 1) := by decide +kernel
theorem dL_pass_18 : decode cL_pass 18 = .ok (.iconst 0, 1) := by decide +kernel
theorem dL_pass_19 : decode cL_pass 19 = .ok (.ireturn, 1) := by decide +kernel
theorem dL_knows_0 : decode cL_knows 0 = .ok (.aload_n 3, 1) := by decide +kernel
theorem dL_knows_1 : decode cL_knows 1 = .ok (.iconst 0, 1) := by decide +kernel
theorem dL_knows_2 : decode cL_knows 2 = .ok (.aload_n 0, 1) := by decide +kernel
theorem dL_knows_3 : decode cL_knows 3 = .ok (.iload_n 1, 1) := by decide +kernel
theorem dL_knows_4 : decode cL_knows 4 = .ok (.iload_n 2, 1) := by decide +kernel
theorem dL_knows_5 : decode cL_knows 5 = .ok (.invokevirtual 73, 3) := by decide +kernel
theorem dL_knows_8 : decode cL_knows 8 = .ok (.ifCond .eq 7, 3) := by decide +kernel
theorem dL_knows_11 : decode cL_knows 11 = .ok (.lconst 1, 1) := by decide +kernel
theorem dL_knows_12 : decode cL_knows 12 = .ok (.goto 4, 3) := by decide +kernel
theorem dL_knows_15 : decode cL_knows 15 = .ok (.lconst 0, 1) := by decide +kernel
theorem dL_knows_16 : decode cL_knows 16 = .ok (.lastore, 1) := by decide +kernel
theorem dL_knows_17 : decode cL_knows 17 = .ok (.goto 7, 3) := by decide +kernel
theorem dL_knows_20 : decode cL_knows 20 = .ok (.astore 4, 2) := by decide +kernel
theorem dL_knows_22 : decode cL_knows 22 = .ok (.iconst 1, 1) := by decide +kernel
theorem dL_knows_23 : decode cL_knows 23 = .ok (.ireturn, 1) := by decide +kernel
theorem dL_knows_24 : decode cL_knows 24 = .ok (.iconst 0, 1) := by decide +kernel
theorem dL_knows_25 : decode cL_knows 25 = .ok (.ireturn, 1) := by decide +kernel
theorem dL_ofFigure_0 : decode cL_ofFigure 0 = .ok (.aload_n 3, 1) := by decide +kernel
theorem dL_ofFigure_1 : decode cL_ofFigure 1 = .ok (.iconst 0, 1) := by decide +kernel
theorem dL_ofFigure_2 : decode cL_ofFigure 2 = .ok (.aload_n 0, 1) := by decide +kernel
theorem dL_ofFigure_3 : decode cL_ofFigure 3 = .ok (.iload_n 1, 1) := by decide +kernel
theorem dL_ofFigure_4 : decode cL_ofFigure 4 = .ok (.iload_n 2, 1) := by decide +kernel
theorem dL_ofFigure_5 : decode cL_ofFigure 5 = .ok (.invokevirtual 77, 3) := by decide +kernel
theorem dL_ofFigure_8 : decode cL_ofFigure 8 = .ok (.i2l, 1) := by decide +kernel
theorem dL_ofFigure_9 : decode cL_ofFigure 9 = .ok (.lastore, 1) := by decide +kernel
theorem dL_ofFigure_10 : decode cL_ofFigure 10 = .ok (.goto 11, 3) := by decide +kernel
theorem dL_ofFigure_13 : decode cL_ofFigure 13 = .ok (.astore 4, 2) := by decide +kernel
theorem dL_ofFigure_15 : decode cL_ofFigure 15 = .ok (.iconst 1, 1) := by decide +kernel
theorem dL_ofFigure_16 : decode cL_ofFigure 16 = .ok (.ireturn, 1) := by decide +kernel
theorem dL_ofFigure_17 : decode cL_ofFigure 17 = .ok (.astore 4, 2) := by decide +kernel
theorem dL_ofFigure_19 : decode cL_ofFigure 19 = .ok (.iconst 2, 1) := by decide +kernel
theorem dL_ofFigure_20 : decode cL_ofFigure 20 = .ok (.ireturn, 1) := by decide +kernel
theorem dL_ofFigure_21 : decode cL_ofFigure 21 = .ok (.iconst 0, 1) := by decide +kernel
theorem dL_ofFigure_22 : decode cL_ofFigure 22 = .ok (.ireturn, 1) := by decide +kernel
theorem dL_ofScene_0 : decode cL_ofScene 0 = .ok (.aload_n 3, 1) := by decide +kernel
theorem dL_ofScene_1 : decode cL_ofScene 1 = .ok (.iconst 0, 1) := by decide +kernel
theorem dL_ofScene_2 : decode cL_ofScene 2 = .ok (.aload_n 0, 1) := by decide +kernel
theorem dL_ofScene_3 : decode cL_ofScene 3 = .ok (.iload_n 1, 1) := by decide +kernel
theorem dL_ofScene_4 : decode cL_ofScene 4 = .ok (.iload_n 2, 1) := by decide +kernel
theorem dL_ofScene_5 : decode cL_ofScene 5 = .ok (.invokevirtual 80, 3) := by decide +kernel
theorem dL_ofScene_8 : decode cL_ofScene 8 = .ok (.i2l, 1) := by decide +kernel
theorem dL_ofScene_9 : decode cL_ofScene 9 = .ok (.lastore, 1) := by decide +kernel
theorem dL_ofScene_10 : decode cL_ofScene 10 = .ok (.goto 11, 3) := by decide +kernel
theorem dL_ofScene_13 : decode cL_ofScene 13 = .ok (.astore 4, 2) := by decide +kernel
theorem dL_ofScene_15 : decode cL_ofScene 15 = .ok (.iconst 1, 1) := by decide +kernel
theorem dL_ofScene_16 : decode cL_ofScene 16 = .ok (.ireturn, 1) := by decide +kernel
theorem dL_ofScene_17 : decode cL_ofScene 17 = .ok (.astore 4, 2) := by decide +kernel
theorem dL_ofScene_19 : decode cL_ofScene 19 = .ok (.iconst 2, 1) := by decide +kernel
theorem dL_ofScene_20 : decode cL_ofScene 20 = .ok (.ireturn, 1) := by decide +kernel
theorem dL_ofScene_21 : decode cL_ofScene 21 = .ok (.iconst 0, 1) := by decide +kernel
theorem dL_ofScene_22 : decode cL_ofScene 22 = .ok (.ireturn, 1) := by decide +kernel
theorem dL_at_0 : decode cL_at 0 = .ok (.aload_n 2, 1) := by decide +kernel
theorem dL_at_1 : decode cL_at 1 = .ok (.iconst 0, 1) := by decide +kernel
theorem dL_at_2 : decode cL_at 2 = .ok (.aload_n 0, 1) := by decide +kernel
theorem dL_at_3 : decode cL_at 3 = .ok (.iload_n 1, 1) := by decide +kernel
theorem dL_at_4 : decode cL_at 4 = .ok (.invokevirtual 83, 3) := by decide +kernel
theorem dL_at_7 : decode cL_at 7 = .ok (.i2l, 1) := by decide +kernel
theorem dL_at_8 : decode cL_at 8 = .ok (.lastore, 1) := by decide +kernel
theorem dL_at_9 : decode cL_at 9 = .ok (.goto 6, 3) := by decide +kernel
theorem dL_at_12 : decode cL_at 12 = .ok (.astore_n 3, 1) := by decide +kernel
theorem dL_at_13 : decode cL_at 13 = .ok (.iconst 1, 1) := by decide +kernel
theorem dL_at_14 : decode cL_at 14 = .ok (.ireturn, 1) := by decide +kernel
theorem dL_at_15 : decode cL_at 15 = .ok (.iconst 0, 1) := by decide +kernel
theorem dL_at_16 : decode cL_at 16 = .ok (.ireturn, 1) := by decide +kernel
theorem dL_sound_0 : decode cL_sound 0 = .ok (.aload_n 2, 1) := by decide +kernel
theorem dL_sound_1 : decode cL_sound 1 = .ok (.iconst 0, 1) := by decide +kernel
theorem dL_sound_2 : decode cL_sound 2 = .ok (.aload_n 0, 1) := by decide +kernel
theorem dL_sound_3 : decode cL_sound 3 = .ok (.iload_n 1, 1) := by decide +kernel
theorem dL_sound_4 : decode cL_sound 4 = .ok (.invokevirtual 86, 3) := by decide +kernel
theorem dL_sound_7 : decode cL_sound 7 = .ok (.i2l, 1) := by decide +kernel
theorem dL_sound_8 : decode cL_sound 8 = .ok (.lastore, 1) := by decide +kernel
theorem dL_sound_9 : decode cL_sound 9 = .ok (.goto 6, 3) := by decide +kernel
theorem dL_sound_12 : decode cL_sound 12 = .ok (.astore_n 3, 1) := by decide +kernel
theorem dL_sound_13 : decode cL_sound 13 = .ok (.iconst 1, 1) := by decide +kernel
theorem dL_sound_14 : decode cL_sound 14 = .ok (.ireturn, 1) := by decide +kernel
theorem dL_sound_15 : decode cL_sound 15 = .ok (.iconst 0, 1) := by decide +kernel
theorem dL_sound_16 : decode cL_sound 16 = .ok (.ireturn, 1) := by decide +kernel
theorem dL_many_0 : decode cL_many 0 = .ok (.aload_n 2, 1) := by decide +kernel
theorem dL_many_1 : decode cL_many 1 = .ok (.iconst 0, 1) := by decide +kernel
theorem dL_many_2 : decode cL_many 2 = .ok (.aload_n 0, 1) := by decide +kernel
theorem dL_many_3 : decode cL_many 3 = .ok (.iload_n 1, 1) := by decide +kernel
theorem dL_many_4 : decode cL_many 4 = .ok (.invokevirtual 89, 3) := by decide +kernel
theorem dL_many_7 : decode cL_many 7 = .ok (.i2l, 1) := by decide +kernel
theorem dL_many_8 : decode cL_many 8 = .ok (.lastore, 1) := by decide +kernel
theorem dL_many_9 : decode cL_many 9 = .ok (.goto 6, 3) := by decide +kernel
theorem dL_many_12 : decode cL_many 12 = .ok (.astore_n 3, 1) := by decide +kernel
theorem dL_many_13 : decode cL_many 13 = .ok (.iconst 1, 1) := by decide +kernel
theorem dL_many_14 : decode cL_many 14 = .ok (.ireturn, 1) := by decide +kernel
theorem dL_many_15 : decode cL_many 15 = .ok (.iconst 0, 1) := by decide +kernel
theorem dL_many_16 : decode cL_many 16 = .ok (.ireturn, 1) := by decide +kernel
theorem dL_liftFor_0 : decode cL_liftFor 0 = .ok (.aload_n 3, 1) := by decide +kernel
theorem dL_liftFor_1 : decode cL_liftFor 1 = .ok (.iconst 0, 1) := by decide +kernel
theorem dL_liftFor_2 : decode cL_liftFor 2 = .ok (.aload_n 0, 1) := by decide +kernel
theorem dL_liftFor_3 : decode cL_liftFor 3 = .ok (.iload_n 1, 1) := by decide +kernel
theorem dL_liftFor_4 : decode cL_liftFor 4 = .ok (.iload_n 2, 1) := by decide +kernel
theorem dL_liftFor_5 : decode cL_liftFor 5 = .ok (.invokevirtual 92, 3) := by decide +kernel
theorem dL_liftFor_8 : decode cL_liftFor 8 = .ok (.i2l, 1) := by decide +kernel
theorem dL_liftFor_9 : decode cL_liftFor 9 = .ok (.lastore, 1) := by decide +kernel
theorem dL_liftFor_10 : decode cL_liftFor 10 = .ok (.goto 11, 3) := by decide +kernel
theorem dL_liftFor_13 : decode cL_liftFor 13 = .ok (.astore 4, 2) := by decide +kernel
theorem dL_liftFor_15 : decode cL_liftFor 15 = .ok (.iconst 1, 1) := by decide +kernel
theorem dL_liftFor_16 : decode cL_liftFor 16 = .ok (.ireturn, 1) := by decide +kernel
theorem dL_liftFor_17 : decode cL_liftFor 17 = .ok (.astore 4, 2) := by decide +kernel
theorem dL_liftFor_19 : decode cL_liftFor 19 = .ok (.iconst 2, 1) := by decide +kernel
theorem dL_liftFor_20 : decode cL_liftFor 20 = .ok (.ireturn, 1) := by decide +kernel
theorem dL_liftFor_21 : decode cL_liftFor 21 = .ok (.iconst 0, 1) := by decide +kernel
theorem dL_liftFor_22 : decode cL_liftFor 22 = .ok (.ireturn, 1) := by decide +kernel
theorem dL_law_0 : decode cL_law 0 = .ok (.new 8, 3) := by decide +kernel
theorem dL_law_3 : decode cL_law 3 = .ok (.dup, 1) := by decide +kernel
theorem dL_law_4 : decode cL_law 4 = .ok (.invokespecial 95, 3) := by decide +kernel
theorem dL_law_7 : decode cL_law 7 = .ok (.astore_n 1, 1) := by decide +kernel
theorem dL_law_8 : decode cL_law 8 = .ok (.new 96, 3) := by decide +kernel
theorem dL_law_11 : decode cL_law 11 = .ok (.dup, 1) := by decide +kernel
theorem dL_law_12 : decode cL_law 12 = .ok (.invokespecial 98, 3) := by decide +kernel
theorem dL_law_15 : decode cL_law 15 = .ok (.astore_n 2, 1) := by decide +kernel
theorem dL_law_16 : decode cL_law 16 = .ok (.iconst 1, 1) := by decide +kernel
theorem dL_law_17 : decode cL_law 17 = .ok (.newarray .long, 2) := by decide +kernel
theorem dL_law_19 : decode cL_law 19 = .ok (.astore_n 3, 1) := by decide +kernel
theorem dL_law_20 : decode cL_law 20 = .ok (.iconst 0, 1) := by decide +kernel
theorem dL_law_21 : decode cL_law 21 = .ok (.istore 4, 2) := by decide +kernel
theorem dL_law_23 : decode cL_law 23 = .ok (.iload 4, 2) := by decide +kernel
theorem dL_law_25 : decode cL_law 25 = .ok (.aload_n 0, 1) := by decide +kernel
theorem dL_law_26 : decode cL_law 26 = .ok (.arraylength, 1) := by decide +kernel
theorem dL_law_27 : decode cL_law 27 = .ok (.bipush 7, 2) := by decide +kernel
theorem dL_law_29 : decode cL_law 29 = .ok (.isub, 1) := by decide +kernel
theorem dL_law_30 : decode cL_law 30 = .ok (.if_icmp .gt 1884, 3) := by decide +kernel
theorem dL_law_33 : decode cL_law 33 = .ok (.aload_n 0, 1) := by decide +kernel
theorem dL_law_34 : decode cL_law 34 = .ok (.iload 4, 2) := by decide +kernel
theorem dL_law_36 : decode cL_law 36 = .ok (.iaload, 1) := by decide +kernel
theorem dL_law_37 : decode cL_law 37 = .ok (.bipush 31, 2) := by decide +kernel
theorem dL_law_39 : decode cL_law 39 = .ok (.iand, 1) := by decide +kernel
theorem dL_law_40 : decode cL_law 40 = .ok (.tableswitch 1868 0 28 #[132, 266, 334, 452, 520, 588, 656, 712, 780, 848, 904, 960, 1016, 1079, 1171, 1227, 1271, 1327, 1402, 1470, 1538, 1594, 1650, 1706, 1747, 1760, 1773, 1841, 1854], 132) := by decide +kernel
theorem dL_law_172 : decode cL_law 172 = .ok (.aload_n 1, 1) := by decide +kernel
theorem dL_law_173 : decode cL_law 173 = .ok (.aload_n 0, 1) := by decide +kernel
theorem dL_law_174 : decode cL_law 174 = .ok (.iload 4, 2) := by decide +kernel
theorem dL_law_176 : decode cL_law 176 = .ok (.iconst 1, 1) := by decide +kernel
theorem dL_law_177 : decode cL_law 177 = .ok (.iadd, 1) := by decide +kernel
theorem dL_law_178 : decode cL_law 178 = .ok (.iaload, 1) := by decide +kernel
theorem dL_law_179 : decode cL_law 179 = .ok (.aload_n 0, 1) := by decide +kernel
theorem dL_law_180 : decode cL_law 180 = .ok (.iload 4, 2) := by decide +kernel
theorem dL_law_182 : decode cL_law 182 = .ok (.iconst 2, 1) := by decide +kernel
theorem dL_law_183 : decode cL_law 183 = .ok (.iadd, 1) := by decide +kernel
theorem dL_law_184 : decode cL_law 184 = .ok (.iaload, 1) := by decide +kernel
theorem dL_law_185 : decode cL_law 185 = .ok (.aload_n 0, 1) := by decide +kernel
theorem dL_law_186 : decode cL_law 186 = .ok (.iload 4, 2) := by decide +kernel
theorem dL_law_188 : decode cL_law 188 = .ok (.iconst 3, 1) := by decide +kernel
theorem dL_law_189 : decode cL_law 189 = .ok (.iadd, 1) := by decide +kernel
theorem dL_law_190 : decode cL_law 190 = .ok (.iaload, 1) := by decide +kernel
theorem dL_law_191 : decode cL_law 191 = .ok (.aload_n 0, 1) := by decide +kernel
theorem dL_law_192 : decode cL_law 192 = .ok (.iload 4, 2) := by decide +kernel
theorem dL_law_194 : decode cL_law 194 = .ok (.iconst 4, 1) := by decide +kernel
theorem dL_law_195 : decode cL_law 195 = .ok (.iadd, 1) := by decide +kernel
theorem dL_law_196 : decode cL_law 196 = .ok (.iaload, 1) := by decide +kernel
theorem dL_law_197 : decode cL_law 197 = .ok (.aload_n 0, 1) := by decide +kernel
theorem dL_law_198 : decode cL_law 198 = .ok (.iload 4, 2) := by decide +kernel
theorem dL_law_200 : decode cL_law 200 = .ok (.iconst 5, 1) := by decide +kernel
theorem dL_law_201 : decode cL_law 201 = .ok (.iadd, 1) := by decide +kernel
theorem dL_law_202 : decode cL_law 202 = .ok (.iaload, 1) := by decide +kernel
theorem dL_law_203 : decode cL_law 203 = .ok (.aload_n 0, 1) := by decide +kernel
theorem dL_law_204 : decode cL_law 204 = .ok (.iload 4, 2) := by decide +kernel
theorem dL_law_206 : decode cL_law 206 = .ok (.bipush 6, 2) := by decide +kernel
theorem dL_law_208 : decode cL_law 208 = .ok (.iadd, 1) := by decide +kernel
theorem dL_law_209 : decode cL_law 209 = .ok (.iaload, 1) := by decide +kernel
theorem dL_law_210 : decode cL_law 210 = .ok (.ifCond .eq 7, 3) := by decide +kernel
theorem dL_law_213 : decode cL_law 213 = .ok (.iconst 1, 1) := by decide +kernel
theorem dL_law_214 : decode cL_law 214 = .ok (.goto 4, 3) := by decide +kernel
theorem dL_law_217 : decode cL_law 217 = .ok (.iconst 0, 1) := by decide +kernel
theorem dL_law_218 : decode cL_law 218 = .ok (.aload_n 3, 1) := by decide +kernel
theorem dL_law_219 : decode cL_law 219 = .ok (.invokestatic 99, 3) := by decide +kernel
theorem dL_law_222 : decode cL_law 222 = .ok (.istore 5, 2) := by decide +kernel
theorem dL_law_224 : decode cL_law 224 = .ok (.aload_n 2, 1) := by decide +kernel
theorem dL_law_225 : decode cL_law 225 = .ok (.aload_n 0, 1) := by decide +kernel
theorem dL_law_226 : decode cL_law 226 = .ok (.iload 4, 2) := by decide +kernel
theorem dL_law_228 : decode cL_law 228 = .ok (.iconst 1, 1) := by decide +kernel
theorem dL_law_229 : decode cL_law 229 = .ok (.iadd, 1) := by decide +kernel
theorem dL_law_230 : decode cL_law 230 = .ok (.iaload, 1) := by decide +kernel
theorem dL_law_231 : decode cL_law 231 = .ok (.aload_n 0, 1) := by decide +kernel
theorem dL_law_232 : decode cL_law 232 = .ok (.iload 4, 2) := by decide +kernel
theorem dL_law_234 : decode cL_law 234 = .ok (.iconst 2, 1) := by decide +kernel
theorem dL_law_235 : decode cL_law 235 = .ok (.iadd, 1) := by decide +kernel
theorem dL_law_236 : decode cL_law 236 = .ok (.iaload, 1) := by decide +kernel
theorem dL_law_237 : decode cL_law 237 = .ok (.aload_n 0, 1) := by decide +kernel
theorem dL_law_238 : decode cL_law 238 = .ok (.iload 4, 2) := by decide +kernel
theorem dL_law_240 : decode cL_law 240 = .ok (.iconst 3, 1) := by decide +kernel
theorem dL_law_241 : decode cL_law 241 = .ok (.iadd, 1) := by decide +kernel
theorem dL_law_242 : decode cL_law 242 = .ok (.iaload, 1) := by decide +kernel
theorem dL_law_243 : decode cL_law 243 = .ok (.aload_n 0, 1) := by decide +kernel
theorem dL_law_244 : decode cL_law 244 = .ok (.iload 4, 2) := by decide +kernel
theorem dL_law_246 : decode cL_law 246 = .ok (.iconst 4, 1) := by decide +kernel
theorem dL_law_247 : decode cL_law 247 = .ok (.iadd, 1) := by decide +kernel
theorem dL_law_248 : decode cL_law 248 = .ok (.iaload, 1) := by decide +kernel
theorem dL_law_249 : decode cL_law 249 = .ok (.aload_n 0, 1) := by decide +kernel
theorem dL_law_250 : decode cL_law 250 = .ok (.iload 4, 2) := by decide +kernel
theorem dL_law_252 : decode cL_law 252 = .ok (.iconst 5, 1) := by decide +kernel
theorem dL_law_253 : decode cL_law 253 = .ok (.iadd, 1) := by decide +kernel
theorem dL_law_254 : decode cL_law 254 = .ok (.iaload, 1) := by decide +kernel
theorem dL_law_255 : decode cL_law 255 = .ok (.aload_n 0, 1) := by decide +kernel
theorem dL_law_256 : decode cL_law 256 = .ok (.iload 4, 2) := by decide +kernel
theorem dL_law_258 : decode cL_law 258 = .ok (.bipush 6, 2) := by decide +kernel
theorem dL_law_260 : decode cL_law 260 = .ok (.iadd, 1) := by decide +kernel
theorem dL_law_261 : decode cL_law 261 = .ok (.iaload, 1) := by decide +kernel
theorem dL_law_262 : decode cL_law 262 = .ok (.ifCond .eq 7, 3) := by decide +kernel
theorem dL_law_265 : decode cL_law 265 = .ok (.iconst 1, 1) := by decide +kernel
theorem dL_law_266 : decode cL_law 266 = .ok (.goto 4, 3) := by decide +kernel
theorem dL_law_269 : decode cL_law 269 = .ok (.iconst 0, 1) := by decide +kernel
theorem dL_law_270 : decode cL_law 270 = .ok (.invokevirtual 104, 3) := by decide +kernel
theorem dL_law_273 : decode cL_law 273 = .ok (.istore 6, 2) := by decide +kernel
theorem dL_law_275 : decode cL_law 275 = .ok (.aload_n 2, 1) := by decide +kernel
theorem dL_law_276 : decode cL_law 276 = .ok (.invokevirtual 105, 3) := by decide +kernel
theorem dL_law_279 : decode cL_law 279 = .ok (.iload 5, 2) := by decide +kernel
theorem dL_law_281 : decode cL_law 281 = .ok (.if_icmp .eq 5, 3) := by decide +kernel
theorem dL_law_284 : decode cL_law 284 = .ok (.iconst 0, 1) := by decide +kernel
theorem dL_law_285 : decode cL_law 285 = .ok (.ireturn, 1) := by decide +kernel
theorem dL_law_286 : decode cL_law 286 = .ok (.iload 5, 2) := by decide +kernel
theorem dL_law_288 : decode cL_law 288 = .ok (.ifCond .ne 15, 3) := by decide +kernel
theorem dL_law_291 : decode cL_law 291 = .ok (.aload_n 3, 1) := by decide +kernel
theorem dL_law_292 : decode cL_law 292 = .ok (.iconst 0, 1) := by decide +kernel
theorem dL_law_293 : decode cL_law 293 = .ok (.laload, 1) := by decide +kernel
theorem dL_law_294 : decode cL_law 294 = .ok (.iload 6, 2) := by decide +kernel
theorem dL_law_296 : decode cL_law 296 = .ok (.i2l, 1) := by decide +kernel
theorem dL_law_297 : decode cL_law 297 = .ok (.lcmp, 1) := by decide +kernel
theorem dL_law_298 : decode cL_law 298 = .ok (.ifCond .eq 5, 3) := by decide +kernel
theorem dL_law_301 : decode cL_law 301 = .ok (.iconst 0, 1) := by decide +kernel
theorem dL_law_302 : decode cL_law 302 = .ok (.ireturn, 1) := by decide +kernel
theorem dL_law_303 : decode cL_law 303 = .ok (.goto 1605, 3) := by decide +kernel
theorem dL_law_306 : decode cL_law 306 = .ok (.aload_n 1, 1) := by decide +kernel
theorem dL_law_307 : decode cL_law 307 = .ok (.aload_n 0, 1) := by decide +kernel
theorem dL_law_308 : decode cL_law 308 = .ok (.iload 4, 2) := by decide +kernel
theorem dL_law_310 : decode cL_law 310 = .ok (.iconst 1, 1) := by decide +kernel
theorem dL_law_311 : decode cL_law 311 = .ok (.iadd, 1) := by decide +kernel
theorem dL_law_312 : decode cL_law 312 = .ok (.iaload, 1) := by decide +kernel
theorem dL_law_313 : decode cL_law 313 = .ok (.aload_n 0, 1) := by decide +kernel
theorem dL_law_314 : decode cL_law 314 = .ok (.iload 4, 2) := by decide +kernel
theorem dL_law_316 : decode cL_law 316 = .ok (.iconst 2, 1) := by decide +kernel
theorem dL_law_317 : decode cL_law 317 = .ok (.iadd, 1) := by decide +kernel
theorem dL_law_318 : decode cL_law 318 = .ok (.iaload, 1) := by decide +kernel
theorem dL_law_319 : decode cL_law 319 = .ok (.aload_n 3, 1) := by decide +kernel
theorem dL_law_320 : decode cL_law 320 = .ok (.invokestatic 108, 3) := by decide +kernel
theorem dL_law_323 : decode cL_law 323 = .ok (.istore 5, 2) := by decide +kernel
theorem dL_law_325 : decode cL_law 325 = .ok (.aload_n 2, 1) := by decide +kernel
theorem dL_law_326 : decode cL_law 326 = .ok (.aload_n 0, 1) := by decide +kernel
theorem dL_law_327 : decode cL_law 327 = .ok (.iload 4, 2) := by decide +kernel
theorem dL_law_329 : decode cL_law 329 = .ok (.iconst 1, 1) := by decide +kernel
theorem dL_law_330 : decode cL_law 330 = .ok (.iadd, 1) := by decide +kernel
theorem dL_law_331 : decode cL_law 331 = .ok (.iaload, 1) := by decide +kernel
theorem dL_law_332 : decode cL_law 332 = .ok (.aload_n 0, 1) := by decide +kernel
theorem dL_law_333 : decode cL_law 333 = .ok (.iload 4, 2) := by decide +kernel
theorem dL_law_335 : decode cL_law 335 = .ok (.iconst 2, 1) := by decide +kernel
theorem dL_law_336 : decode cL_law 336 = .ok (.iadd, 1) := by decide +kernel
theorem dL_law_337 : decode cL_law 337 = .ok (.iaload, 1) := by decide +kernel
theorem dL_law_338 : decode cL_law 338 = .ok (.invokevirtual 111, 3) := by decide +kernel
theorem dL_law_341 : decode cL_law 341 = .ok (.istore 6, 2) := by decide +kernel
theorem dL_law_343 : decode cL_law 343 = .ok (.aload_n 2, 1) := by decide +kernel
theorem dL_law_344 : decode cL_law 344 = .ok (.invokevirtual 105, 3) := by decide +kernel
theorem dL_law_347 : decode cL_law 347 = .ok (.iload 5, 2) := by decide +kernel
theorem dL_law_349 : decode cL_law 349 = .ok (.if_icmp .eq 5, 3) := by decide +kernel
theorem dL_law_352 : decode cL_law 352 = .ok (.iconst 0, 1) := by decide +kernel
theorem dL_law_353 : decode cL_law 353 = .ok (.ireturn, 1) := by decide +kernel
theorem dL_law_354 : decode cL_law 354 = .ok (.iload 5, 2) := by decide +kernel
theorem dL_law_356 : decode cL_law 356 = .ok (.ifCond .ne 15, 3) := by decide +kernel
theorem dL_law_359 : decode cL_law 359 = .ok (.aload_n 3, 1) := by decide +kernel
theorem dL_law_360 : decode cL_law 360 = .ok (.iconst 0, 1) := by decide +kernel
theorem dL_law_361 : decode cL_law 361 = .ok (.laload, 1) := by decide +kernel
theorem dL_law_362 : decode cL_law 362 = .ok (.iload 6, 2) := by decide +kernel
theorem dL_law_364 : decode cL_law 364 = .ok (.i2l, 1) := by decide +kernel
theorem dL_law_365 : decode cL_law 365 = .ok (.lcmp, 1) := by decide +kernel
theorem dL_law_366 : decode cL_law 366 = .ok (.ifCond .eq 5, 3) := by decide +kernel
theorem dL_law_369 : decode cL_law 369 = .ok (.iconst 0, 1) := by decide +kernel
theorem dL_law_370 : decode cL_law 370 = .ok (.ireturn, 1) := by decide +kernel
theorem dL_law_371 : decode cL_law 371 = .ok (.goto 1537, 3) := by decide +kernel
theorem dL_law_374 : decode cL_law 374 = .ok (.aload_n 1, 1) := by decide +kernel
theorem dL_law_375 : decode cL_law 375 = .ok (.aload_n 0, 1) := by decide +kernel
theorem dL_law_376 : decode cL_law 376 = .ok (.iload 4, 2) := by decide +kernel
theorem dL_law_378 : decode cL_law 378 = .ok (.iconst 1, 1) := by decide +kernel
theorem dL_law_379 : decode cL_law 379 = .ok (.iadd, 1) := by decide +kernel
theorem dL_law_380 : decode cL_law 380 = .ok (.iaload, 1) := by decide +kernel
theorem dL_law_381 : decode cL_law 381 = .ok (.aload_n 0, 1) := by decide +kernel
theorem dL_law_382 : decode cL_law 382 = .ok (.iload 4, 2) := by decide +kernel
theorem dL_law_384 : decode cL_law 384 = .ok (.iconst 2, 1) := by decide +kernel
theorem dL_law_385 : decode cL_law 385 = .ok (.iadd, 1) := by decide +kernel
theorem dL_law_386 : decode cL_law 386 = .ok (.iaload, 1) := by decide +kernel
theorem dL_law_387 : decode cL_law 387 = .ok (.aload_n 0, 1) := by decide +kernel
theorem dL_law_388 : decode cL_law 388 = .ok (.iload 4, 2) := by decide +kernel
theorem dL_law_390 : decode cL_law 390 = .ok (.iconst 3, 1) := by decide +kernel
theorem dL_law_391 : decode cL_law 391 = .ok (.iadd, 1) := by decide +kernel
theorem dL_law_392 : decode cL_law 392 = .ok (.iaload, 1) := by decide +kernel
theorem dL_law_393 : decode cL_law 393 = .ok (.aload_n 0, 1) := by decide +kernel
theorem dL_law_394 : decode cL_law 394 = .ok (.iload 4, 2) := by decide +kernel
theorem dL_law_396 : decode cL_law 396 = .ok (.iconst 4, 1) := by decide +kernel
theorem dL_law_397 : decode cL_law 397 = .ok (.iadd, 1) := by decide +kernel
theorem dL_law_398 : decode cL_law 398 = .ok (.iaload, 1) := by decide +kernel
theorem dL_law_399 : decode cL_law 399 = .ok (.aload_n 0, 1) := by decide +kernel
theorem dL_law_400 : decode cL_law 400 = .ok (.iload 4, 2) := by decide +kernel
theorem dL_law_402 : decode cL_law 402 = .ok (.iconst 5, 1) := by decide +kernel
theorem dL_law_403 : decode cL_law 403 = .ok (.iadd, 1) := by decide +kernel
theorem dL_law_404 : decode cL_law 404 = .ok (.iaload, 1) := by decide +kernel
theorem dL_law_405 : decode cL_law 405 = .ok (.aload_n 0, 1) := by decide +kernel
theorem dL_law_406 : decode cL_law 406 = .ok (.iload 4, 2) := by decide +kernel
theorem dL_law_408 : decode cL_law 408 = .ok (.bipush 6, 2) := by decide +kernel
theorem dL_law_410 : decode cL_law 410 = .ok (.iadd, 1) := by decide +kernel
theorem dL_law_411 : decode cL_law 411 = .ok (.iaload, 1) := by decide +kernel
theorem dL_law_412 : decode cL_law 412 = .ok (.aload_n 3, 1) := by decide +kernel
theorem dL_law_413 : decode cL_law 413 = .ok (.invokestatic 112, 3) := by decide +kernel
theorem dL_law_416 : decode cL_law 416 = .ok (.istore 5, 2) := by decide +kernel
theorem dL_law_418 : decode cL_law 418 = .ok (.aload_n 2, 1) := by decide +kernel
theorem dL_law_419 : decode cL_law 419 = .ok (.aload_n 0, 1) := by decide +kernel
theorem dL_law_420 : decode cL_law 420 = .ok (.iload 4, 2) := by decide +kernel
theorem dL_law_422 : decode cL_law 422 = .ok (.iconst 1, 1) := by decide +kernel
theorem dL_law_423 : decode cL_law 423 = .ok (.iadd, 1) := by decide +kernel
theorem dL_law_424 : decode cL_law 424 = .ok (.iaload, 1) := by decide +kernel
theorem dL_law_425 : decode cL_law 425 = .ok (.aload_n 0, 1) := by decide +kernel
theorem dL_law_426 : decode cL_law 426 = .ok (.iload 4, 2) := by decide +kernel
theorem dL_law_428 : decode cL_law 428 = .ok (.iconst 2, 1) := by decide +kernel
theorem dL_law_429 : decode cL_law 429 = .ok (.iadd, 1) := by decide +kernel
theorem dL_law_430 : decode cL_law 430 = .ok (.iaload, 1) := by decide +kernel
theorem dL_law_431 : decode cL_law 431 = .ok (.aload_n 0, 1) := by decide +kernel
theorem dL_law_432 : decode cL_law 432 = .ok (.iload 4, 2) := by decide +kernel
theorem dL_law_434 : decode cL_law 434 = .ok (.iconst 3, 1) := by decide +kernel
theorem dL_law_435 : decode cL_law 435 = .ok (.iadd, 1) := by decide +kernel
theorem dL_law_436 : decode cL_law 436 = .ok (.iaload, 1) := by decide +kernel
theorem dL_law_437 : decode cL_law 437 = .ok (.aload_n 0, 1) := by decide +kernel
theorem dL_law_438 : decode cL_law 438 = .ok (.iload 4, 2) := by decide +kernel
theorem dL_law_440 : decode cL_law 440 = .ok (.iconst 4, 1) := by decide +kernel
theorem dL_law_441 : decode cL_law 441 = .ok (.iadd, 1) := by decide +kernel
theorem dL_law_442 : decode cL_law 442 = .ok (.iaload, 1) := by decide +kernel
theorem dL_law_443 : decode cL_law 443 = .ok (.aload_n 0, 1) := by decide +kernel
theorem dL_law_444 : decode cL_law 444 = .ok (.iload 4, 2) := by decide +kernel
theorem dL_law_446 : decode cL_law 446 = .ok (.iconst 5, 1) := by decide +kernel
theorem dL_law_447 : decode cL_law 447 = .ok (.iadd, 1) := by decide +kernel
theorem dL_law_448 : decode cL_law 448 = .ok (.iaload, 1) := by decide +kernel
theorem dL_law_449 : decode cL_law 449 = .ok (.aload_n 0, 1) := by decide +kernel
theorem dL_law_450 : decode cL_law 450 = .ok (.iload 4, 2) := by decide +kernel
theorem dL_law_452 : decode cL_law 452 = .ok (.bipush 6, 2) := by decide +kernel
theorem dL_law_454 : decode cL_law 454 = .ok (.iadd, 1) := by decide +kernel
theorem dL_law_455 : decode cL_law 455 = .ok (.iaload, 1) := by decide +kernel
theorem dL_law_456 : decode cL_law 456 = .ok (.invokevirtual 115, 3) := by decide +kernel
theorem dL_law_459 : decode cL_law 459 = .ok (.istore 6, 2) := by decide +kernel
theorem dL_law_461 : decode cL_law 461 = .ok (.aload_n 2, 1) := by decide +kernel
theorem dL_law_462 : decode cL_law 462 = .ok (.invokevirtual 105, 3) := by decide +kernel
theorem dL_law_465 : decode cL_law 465 = .ok (.iload 5, 2) := by decide +kernel
theorem dL_law_467 : decode cL_law 467 = .ok (.if_icmp .eq 5, 3) := by decide +kernel
theorem dL_law_470 : decode cL_law 470 = .ok (.iconst 0, 1) := by decide +kernel
theorem dL_law_471 : decode cL_law 471 = .ok (.ireturn, 1) := by decide +kernel
theorem dL_law_472 : decode cL_law 472 = .ok (.iload 5, 2) := by decide +kernel
theorem dL_law_474 : decode cL_law 474 = .ok (.ifCond .ne 15, 3) := by decide +kernel
theorem dL_law_477 : decode cL_law 477 = .ok (.aload_n 3, 1) := by decide +kernel
theorem dL_law_478 : decode cL_law 478 = .ok (.iconst 0, 1) := by decide +kernel
theorem dL_law_479 : decode cL_law 479 = .ok (.laload, 1) := by decide +kernel
theorem dL_law_480 : decode cL_law 480 = .ok (.iload 6, 2) := by decide +kernel
theorem dL_law_482 : decode cL_law 482 = .ok (.i2l, 1) := by decide +kernel
theorem dL_law_483 : decode cL_law 483 = .ok (.lcmp, 1) := by decide +kernel
theorem dL_law_484 : decode cL_law 484 = .ok (.ifCond .eq 5, 3) := by decide +kernel
theorem dL_law_487 : decode cL_law 487 = .ok (.iconst 0, 1) := by decide +kernel
theorem dL_law_488 : decode cL_law 488 = .ok (.ireturn, 1) := by decide +kernel
theorem dL_law_489 : decode cL_law 489 = .ok (.goto 1419, 3) := by decide +kernel
theorem dL_law_492 : decode cL_law 492 = .ok (.aload_n 1, 1) := by decide +kernel
theorem dL_law_493 : decode cL_law 493 = .ok (.aload_n 0, 1) := by decide +kernel
theorem dL_law_494 : decode cL_law 494 = .ok (.iload 4, 2) := by decide +kernel
theorem dL_law_496 : decode cL_law 496 = .ok (.iconst 1, 1) := by decide +kernel
theorem dL_law_497 : decode cL_law 497 = .ok (.iadd, 1) := by decide +kernel
theorem dL_law_498 : decode cL_law 498 = .ok (.iaload, 1) := by decide +kernel
theorem dL_law_499 : decode cL_law 499 = .ok (.aload_n 0, 1) := by decide +kernel
theorem dL_law_500 : decode cL_law 500 = .ok (.iload 4, 2) := by decide +kernel
theorem dL_law_502 : decode cL_law 502 = .ok (.iconst 2, 1) := by decide +kernel
theorem dL_law_503 : decode cL_law 503 = .ok (.iadd, 1) := by decide +kernel
theorem dL_law_504 : decode cL_law 504 = .ok (.iaload, 1) := by decide +kernel
theorem dL_law_505 : decode cL_law 505 = .ok (.aload_n 3, 1) := by decide +kernel
theorem dL_law_506 : decode cL_law 506 = .ok (.invokestatic 116, 3) := by decide +kernel
theorem dL_law_509 : decode cL_law 509 = .ok (.istore 5, 2) := by decide +kernel
theorem dL_law_511 : decode cL_law 511 = .ok (.aload_n 2, 1) := by decide +kernel
theorem dL_law_512 : decode cL_law 512 = .ok (.aload_n 0, 1) := by decide +kernel
theorem dL_law_513 : decode cL_law 513 = .ok (.iload 4, 2) := by decide +kernel
theorem dL_law_515 : decode cL_law 515 = .ok (.iconst 1, 1) := by decide +kernel
theorem dL_law_516 : decode cL_law 516 = .ok (.iadd, 1) := by decide +kernel
theorem dL_law_517 : decode cL_law 517 = .ok (.iaload, 1) := by decide +kernel
theorem dL_law_518 : decode cL_law 518 = .ok (.aload_n 0, 1) := by decide +kernel
theorem dL_law_519 : decode cL_law 519 = .ok (.iload 4, 2) := by decide +kernel
theorem dL_law_521 : decode cL_law 521 = .ok (.iconst 2, 1) := by decide +kernel
theorem dL_law_522 : decode cL_law 522 = .ok (.iadd, 1) := by decide +kernel
theorem dL_law_523 : decode cL_law 523 = .ok (.iaload, 1) := by decide +kernel
theorem dL_law_524 : decode cL_law 524 = .ok (.invokevirtual 118, 3) := by decide +kernel
theorem dL_law_527 : decode cL_law 527 = .ok (.istore 6, 2) := by decide +kernel
theorem dL_law_529 : decode cL_law 529 = .ok (.aload_n 2, 1) := by decide +kernel
theorem dL_law_530 : decode cL_law 530 = .ok (.invokevirtual 105, 3) := by decide +kernel
theorem dL_law_533 : decode cL_law 533 = .ok (.iload 5, 2) := by decide +kernel
theorem dL_law_535 : decode cL_law 535 = .ok (.if_icmp .eq 5, 3) := by decide +kernel
theorem dL_law_538 : decode cL_law 538 = .ok (.iconst 0, 1) := by decide +kernel
theorem dL_law_539 : decode cL_law 539 = .ok (.ireturn, 1) := by decide +kernel
theorem dL_law_540 : decode cL_law 540 = .ok (.iload 5, 2) := by decide +kernel
theorem dL_law_542 : decode cL_law 542 = .ok (.ifCond .ne 15, 3) := by decide +kernel
theorem dL_law_545 : decode cL_law 545 = .ok (.aload_n 3, 1) := by decide +kernel
theorem dL_law_546 : decode cL_law 546 = .ok (.iconst 0, 1) := by decide +kernel
theorem dL_law_547 : decode cL_law 547 = .ok (.laload, 1) := by decide +kernel
theorem dL_law_548 : decode cL_law 548 = .ok (.iload 6, 2) := by decide +kernel
theorem dL_law_550 : decode cL_law 550 = .ok (.i2l, 1) := by decide +kernel
theorem dL_law_551 : decode cL_law 551 = .ok (.lcmp, 1) := by decide +kernel
theorem dL_law_552 : decode cL_law 552 = .ok (.ifCond .eq 5, 3) := by decide +kernel
theorem dL_law_555 : decode cL_law 555 = .ok (.iconst 0, 1) := by decide +kernel
theorem dL_law_556 : decode cL_law 556 = .ok (.ireturn, 1) := by decide +kernel
theorem dL_law_557 : decode cL_law 557 = .ok (.goto 1351, 3) := by decide +kernel
theorem dL_law_560 : decode cL_law 560 = .ok (.aload_n 1, 1) := by decide +kernel
theorem dL_law_561 : decode cL_law 561 = .ok (.aload_n 0, 1) := by decide +kernel
theorem dL_law_562 : decode cL_law 562 = .ok (.iload 4, 2) := by decide +kernel
theorem dL_law_564 : decode cL_law 564 = .ok (.iconst 1, 1) := by decide +kernel
theorem dL_law_565 : decode cL_law 565 = .ok (.iadd, 1) := by decide +kernel
theorem dL_law_566 : decode cL_law 566 = .ok (.iaload, 1) := by decide +kernel
theorem dL_law_567 : decode cL_law 567 = .ok (.aload_n 0, 1) := by decide +kernel
theorem dL_law_568 : decode cL_law 568 = .ok (.iload 4, 2) := by decide +kernel
theorem dL_law_570 : decode cL_law 570 = .ok (.iconst 2, 1) := by decide +kernel
theorem dL_law_571 : decode cL_law 571 = .ok (.iadd, 1) := by decide +kernel
theorem dL_law_572 : decode cL_law 572 = .ok (.iaload, 1) := by decide +kernel
theorem dL_law_573 : decode cL_law 573 = .ok (.aload_n 3, 1) := by decide +kernel
theorem dL_law_574 : decode cL_law 574 = .ok (.invokestatic 119, 3) := by decide +kernel
theorem dL_law_577 : decode cL_law 577 = .ok (.istore 5, 2) := by decide +kernel
theorem dL_law_579 : decode cL_law 579 = .ok (.aload_n 2, 1) := by decide +kernel
theorem dL_law_580 : decode cL_law 580 = .ok (.aload_n 0, 1) := by decide +kernel
theorem dL_law_581 : decode cL_law 581 = .ok (.iload 4, 2) := by decide +kernel
theorem dL_law_583 : decode cL_law 583 = .ok (.iconst 1, 1) := by decide +kernel
theorem dL_law_584 : decode cL_law 584 = .ok (.iadd, 1) := by decide +kernel
theorem dL_law_585 : decode cL_law 585 = .ok (.iaload, 1) := by decide +kernel
theorem dL_law_586 : decode cL_law 586 = .ok (.aload_n 0, 1) := by decide +kernel
theorem dL_law_587 : decode cL_law 587 = .ok (.iload 4, 2) := by decide +kernel
theorem dL_law_589 : decode cL_law 589 = .ok (.iconst 2, 1) := by decide +kernel
theorem dL_law_590 : decode cL_law 590 = .ok (.iadd, 1) := by decide +kernel
theorem dL_law_591 : decode cL_law 591 = .ok (.iaload, 1) := by decide +kernel
theorem dL_law_592 : decode cL_law 592 = .ok (.invokevirtual 121, 3) := by decide +kernel
theorem dL_law_595 : decode cL_law 595 = .ok (.istore 6, 2) := by decide +kernel
theorem dL_law_597 : decode cL_law 597 = .ok (.aload_n 2, 1) := by decide +kernel
theorem dL_law_598 : decode cL_law 598 = .ok (.invokevirtual 105, 3) := by decide +kernel
theorem dL_law_601 : decode cL_law 601 = .ok (.iload 5, 2) := by decide +kernel
theorem dL_law_603 : decode cL_law 603 = .ok (.if_icmp .eq 5, 3) := by decide +kernel
theorem dL_law_606 : decode cL_law 606 = .ok (.iconst 0, 1) := by decide +kernel
theorem dL_law_607 : decode cL_law 607 = .ok (.ireturn, 1) := by decide +kernel
theorem dL_law_608 : decode cL_law 608 = .ok (.iload 5, 2) := by decide +kernel
theorem dL_law_610 : decode cL_law 610 = .ok (.ifCond .ne 15, 3) := by decide +kernel
theorem dL_law_613 : decode cL_law 613 = .ok (.aload_n 3, 1) := by decide +kernel
theorem dL_law_614 : decode cL_law 614 = .ok (.iconst 0, 1) := by decide +kernel
theorem dL_law_615 : decode cL_law 615 = .ok (.laload, 1) := by decide +kernel
theorem dL_law_616 : decode cL_law 616 = .ok (.iload 6, 2) := by decide +kernel
theorem dL_law_618 : decode cL_law 618 = .ok (.i2l, 1) := by decide +kernel
theorem dL_law_619 : decode cL_law 619 = .ok (.lcmp, 1) := by decide +kernel
theorem dL_law_620 : decode cL_law 620 = .ok (.ifCond .eq 5, 3) := by decide +kernel
theorem dL_law_623 : decode cL_law 623 = .ok (.iconst 0, 1) := by decide +kernel
theorem dL_law_624 : decode cL_law 624 = .ok (.ireturn, 1) := by decide +kernel
theorem dL_law_625 : decode cL_law 625 = .ok (.goto 1283, 3) := by decide +kernel
theorem dL_law_628 : decode cL_law 628 = .ok (.aload_n 1, 1) := by decide +kernel
theorem dL_law_629 : decode cL_law 629 = .ok (.aload_n 0, 1) := by decide +kernel
theorem dL_law_630 : decode cL_law 630 = .ok (.iload 4, 2) := by decide +kernel
theorem dL_law_632 : decode cL_law 632 = .ok (.iconst 1, 1) := by decide +kernel
theorem dL_law_633 : decode cL_law 633 = .ok (.iadd, 1) := by decide +kernel
theorem dL_law_634 : decode cL_law 634 = .ok (.iaload, 1) := by decide +kernel
theorem dL_law_635 : decode cL_law 635 = .ok (.aload_n 0, 1) := by decide +kernel
theorem dL_law_636 : decode cL_law 636 = .ok (.iload 4, 2) := by decide +kernel
theorem dL_law_638 : decode cL_law 638 = .ok (.iconst 2, 1) := by decide +kernel
theorem dL_law_639 : decode cL_law 639 = .ok (.iadd, 1) := by decide +kernel
theorem dL_law_640 : decode cL_law 640 = .ok (.iaload, 1) := by decide +kernel
theorem dL_law_641 : decode cL_law 641 = .ok (.aload_n 3, 1) := by decide +kernel
theorem dL_law_642 : decode cL_law 642 = .ok (.invokestatic 122, 3) := by decide +kernel
theorem dL_law_645 : decode cL_law 645 = .ok (.istore 5, 2) := by decide +kernel
theorem dL_law_647 : decode cL_law 647 = .ok (.aload_n 2, 1) := by decide +kernel
theorem dL_law_648 : decode cL_law 648 = .ok (.aload_n 0, 1) := by decide +kernel
theorem dL_law_649 : decode cL_law 649 = .ok (.iload 4, 2) := by decide +kernel
theorem dL_law_651 : decode cL_law 651 = .ok (.iconst 1, 1) := by decide +kernel
theorem dL_law_652 : decode cL_law 652 = .ok (.iadd, 1) := by decide +kernel
theorem dL_law_653 : decode cL_law 653 = .ok (.iaload, 1) := by decide +kernel
theorem dL_law_654 : decode cL_law 654 = .ok (.aload_n 0, 1) := by decide +kernel
theorem dL_law_655 : decode cL_law 655 = .ok (.iload 4, 2) := by decide +kernel
theorem dL_law_657 : decode cL_law 657 = .ok (.iconst 2, 1) := by decide +kernel
theorem dL_law_658 : decode cL_law 658 = .ok (.iadd, 1) := by decide +kernel
theorem dL_law_659 : decode cL_law 659 = .ok (.iaload, 1) := by decide +kernel
theorem dL_law_660 : decode cL_law 660 = .ok (.invokevirtual 124, 3) := by decide +kernel
theorem dL_law_663 : decode cL_law 663 = .ok (.istore 6, 2) := by decide +kernel
theorem dL_law_665 : decode cL_law 665 = .ok (.aload_n 2, 1) := by decide +kernel
theorem dL_law_666 : decode cL_law 666 = .ok (.invokevirtual 105, 3) := by decide +kernel
theorem dL_law_669 : decode cL_law 669 = .ok (.iload 5, 2) := by decide +kernel
theorem dL_law_671 : decode cL_law 671 = .ok (.if_icmp .eq 5, 3) := by decide +kernel
theorem dL_law_674 : decode cL_law 674 = .ok (.iconst 0, 1) := by decide +kernel
theorem dL_law_675 : decode cL_law 675 = .ok (.ireturn, 1) := by decide +kernel
theorem dL_law_676 : decode cL_law 676 = .ok (.iload 5, 2) := by decide +kernel
theorem dL_law_678 : decode cL_law 678 = .ok (.ifCond .ne 15, 3) := by decide +kernel
theorem dL_law_681 : decode cL_law 681 = .ok (.aload_n 3, 1) := by decide +kernel
theorem dL_law_682 : decode cL_law 682 = .ok (.iconst 0, 1) := by decide +kernel
theorem dL_law_683 : decode cL_law 683 = .ok (.laload, 1) := by decide +kernel
theorem dL_law_684 : decode cL_law 684 = .ok (.iload 6, 2) := by decide +kernel
theorem dL_law_686 : decode cL_law 686 = .ok (.i2l, 1) := by decide +kernel
theorem dL_law_687 : decode cL_law 687 = .ok (.lcmp, 1) := by decide +kernel
theorem dL_law_688 : decode cL_law 688 = .ok (.ifCond .eq 5, 3) := by decide +kernel
theorem dL_law_691 : decode cL_law 691 = .ok (.iconst 0, 1) := by decide +kernel
theorem dL_law_692 : decode cL_law 692 = .ok (.ireturn, 1) := by decide +kernel
theorem dL_law_693 : decode cL_law 693 = .ok (.goto 1215, 3) := by decide +kernel
theorem dL_law_696 : decode cL_law 696 = .ok (.aload_n 1, 1) := by decide +kernel
theorem dL_law_697 : decode cL_law 697 = .ok (.aload_n 0, 1) := by decide +kernel
theorem dL_law_698 : decode cL_law 698 = .ok (.iload 4, 2) := by decide +kernel
theorem dL_law_700 : decode cL_law 700 = .ok (.iconst 1, 1) := by decide +kernel
theorem dL_law_701 : decode cL_law 701 = .ok (.iadd, 1) := by decide +kernel
theorem dL_law_702 : decode cL_law 702 = .ok (.iaload, 1) := by decide +kernel
theorem dL_law_703 : decode cL_law 703 = .ok (.aload_n 3, 1) := by decide +kernel
theorem dL_law_704 : decode cL_law 704 = .ok (.invokestatic 125, 3) := by decide +kernel
theorem dL_law_707 : decode cL_law 707 = .ok (.istore 5, 2) := by decide +kernel
theorem dL_law_709 : decode cL_law 709 = .ok (.aload_n 2, 1) := by decide +kernel
theorem dL_law_710 : decode cL_law 710 = .ok (.aload_n 0, 1) := by decide +kernel
theorem dL_law_711 : decode cL_law 711 = .ok (.iload 4, 2) := by decide +kernel
theorem dL_law_713 : decode cL_law 713 = .ok (.iconst 1, 1) := by decide +kernel
theorem dL_law_714 : decode cL_law 714 = .ok (.iadd, 1) := by decide +kernel
theorem dL_law_715 : decode cL_law 715 = .ok (.iaload, 1) := by decide +kernel
theorem dL_law_716 : decode cL_law 716 = .ok (.invokevirtual 128, 3) := by decide +kernel
theorem dL_law_719 : decode cL_law 719 = .ok (.istore 6, 2) := by decide +kernel
theorem dL_law_721 : decode cL_law 721 = .ok (.aload_n 2, 1) := by decide +kernel
theorem dL_law_722 : decode cL_law 722 = .ok (.invokevirtual 105, 3) := by decide +kernel
theorem dL_law_725 : decode cL_law 725 = .ok (.iload 5, 2) := by decide +kernel
theorem dL_law_727 : decode cL_law 727 = .ok (.if_icmp .eq 5, 3) := by decide +kernel
theorem dL_law_730 : decode cL_law 730 = .ok (.iconst 0, 1) := by decide +kernel
theorem dL_law_731 : decode cL_law 731 = .ok (.ireturn, 1) := by decide +kernel
theorem dL_law_732 : decode cL_law 732 = .ok (.iload 5, 2) := by decide +kernel
theorem dL_law_734 : decode cL_law 734 = .ok (.ifCond .ne 15, 3) := by decide +kernel
theorem dL_law_737 : decode cL_law 737 = .ok (.aload_n 3, 1) := by decide +kernel
theorem dL_law_738 : decode cL_law 738 = .ok (.iconst 0, 1) := by decide +kernel
theorem dL_law_739 : decode cL_law 739 = .ok (.laload, 1) := by decide +kernel
theorem dL_law_740 : decode cL_law 740 = .ok (.iload 6, 2) := by decide +kernel
theorem dL_law_742 : decode cL_law 742 = .ok (.i2l, 1) := by decide +kernel
theorem dL_law_743 : decode cL_law 743 = .ok (.lcmp, 1) := by decide +kernel
theorem dL_law_744 : decode cL_law 744 = .ok (.ifCond .eq 5, 3) := by decide +kernel
theorem dL_law_747 : decode cL_law 747 = .ok (.iconst 0, 1) := by decide +kernel
theorem dL_law_748 : decode cL_law 748 = .ok (.ireturn, 1) := by decide +kernel
theorem dL_law_749 : decode cL_law 749 = .ok (.goto 1159, 3) := by decide +kernel
theorem dL_law_752 : decode cL_law 752 = .ok (.aload_n 1, 1) := by decide +kernel
theorem dL_law_753 : decode cL_law 753 = .ok (.aload_n 0, 1) := by decide +kernel
theorem dL_law_754 : decode cL_law 754 = .ok (.iload 4, 2) := by decide +kernel
theorem dL_law_756 : decode cL_law 756 = .ok (.iconst 1, 1) := by decide +kernel
theorem dL_law_757 : decode cL_law 757 = .ok (.iadd, 1) := by decide +kernel
theorem dL_law_758 : decode cL_law 758 = .ok (.iaload, 1) := by decide +kernel
theorem dL_law_759 : decode cL_law 759 = .ok (.aload_n 0, 1) := by decide +kernel
theorem dL_law_760 : decode cL_law 760 = .ok (.iload 4, 2) := by decide +kernel
theorem dL_law_762 : decode cL_law 762 = .ok (.iconst 2, 1) := by decide +kernel
theorem dL_law_763 : decode cL_law 763 = .ok (.iadd, 1) := by decide +kernel
theorem dL_law_764 : decode cL_law 764 = .ok (.iaload, 1) := by decide +kernel
theorem dL_law_765 : decode cL_law 765 = .ok (.aload_n 3, 1) := by decide +kernel
theorem dL_law_766 : decode cL_law 766 = .ok (.invokestatic 129, 3) := by decide +kernel
theorem dL_law_769 : decode cL_law 769 = .ok (.istore 5, 2) := by decide +kernel
theorem dL_law_771 : decode cL_law 771 = .ok (.aload_n 2, 1) := by decide +kernel
theorem dL_law_772 : decode cL_law 772 = .ok (.aload_n 0, 1) := by decide +kernel
theorem dL_law_773 : decode cL_law 773 = .ok (.iload 4, 2) := by decide +kernel
theorem dL_law_775 : decode cL_law 775 = .ok (.iconst 1, 1) := by decide +kernel
theorem dL_law_776 : decode cL_law 776 = .ok (.iadd, 1) := by decide +kernel
theorem dL_law_777 : decode cL_law 777 = .ok (.iaload, 1) := by decide +kernel
theorem dL_law_778 : decode cL_law 778 = .ok (.aload_n 0, 1) := by decide +kernel
theorem dL_law_779 : decode cL_law 779 = .ok (.iload 4, 2) := by decide +kernel
theorem dL_law_781 : decode cL_law 781 = .ok (.iconst 2, 1) := by decide +kernel
theorem dL_law_782 : decode cL_law 782 = .ok (.iadd, 1) := by decide +kernel
theorem dL_law_783 : decode cL_law 783 = .ok (.iaload, 1) := by decide +kernel
theorem dL_law_784 : decode cL_law 784 = .ok (.invokevirtual 131, 3) := by decide +kernel
theorem dL_law_787 : decode cL_law 787 = .ok (.istore 6, 2) := by decide +kernel
theorem dL_law_789 : decode cL_law 789 = .ok (.aload_n 2, 1) := by decide +kernel
theorem dL_law_790 : decode cL_law 790 = .ok (.invokevirtual 105, 3) := by decide +kernel
theorem dL_law_793 : decode cL_law 793 = .ok (.iload 5, 2) := by decide +kernel
theorem dL_law_795 : decode cL_law 795 = .ok (.if_icmp .eq 5, 3) := by decide +kernel
theorem dL_law_798 : decode cL_law 798 = .ok (.iconst 0, 1) := by decide +kernel
theorem dL_law_799 : decode cL_law 799 = .ok (.ireturn, 1) := by decide +kernel
theorem dL_law_800 : decode cL_law 800 = .ok (.iload 5, 2) := by decide +kernel
theorem dL_law_802 : decode cL_law 802 = .ok (.ifCond .ne 15, 3) := by decide +kernel
theorem dL_law_805 : decode cL_law 805 = .ok (.aload_n 3, 1) := by decide +kernel
theorem dL_law_806 : decode cL_law 806 = .ok (.iconst 0, 1) := by decide +kernel
theorem dL_law_807 : decode cL_law 807 = .ok (.laload, 1) := by decide +kernel
theorem dL_law_808 : decode cL_law 808 = .ok (.iload 6, 2) := by decide +kernel
theorem dL_law_810 : decode cL_law 810 = .ok (.i2l, 1) := by decide +kernel
theorem dL_law_811 : decode cL_law 811 = .ok (.lcmp, 1) := by decide +kernel
theorem dL_law_812 : decode cL_law 812 = .ok (.ifCond .eq 5, 3) := by decide +kernel
theorem dL_law_815 : decode cL_law 815 = .ok (.iconst 0, 1) := by decide +kernel
theorem dL_law_816 : decode cL_law 816 = .ok (.ireturn, 1) := by decide +kernel
theorem dL_law_817 : decode cL_law 817 = .ok (.goto 1091, 3) := by decide +kernel
theorem dL_law_820 : decode cL_law 820 = .ok (.aload_n 1, 1) := by decide +kernel
theorem dL_law_821 : decode cL_law 821 = .ok (.aload_n 0, 1) := by decide +kernel
theorem dL_law_822 : decode cL_law 822 = .ok (.iload 4, 2) := by decide +kernel
theorem dL_law_824 : decode cL_law 824 = .ok (.iconst 1, 1) := by decide +kernel
theorem dL_law_825 : decode cL_law 825 = .ok (.iadd, 1) := by decide +kernel
theorem dL_law_826 : decode cL_law 826 = .ok (.iaload, 1) := by decide +kernel
theorem dL_law_827 : decode cL_law 827 = .ok (.aload_n 0, 1) := by decide +kernel
theorem dL_law_828 : decode cL_law 828 = .ok (.iload 4, 2) := by decide +kernel
theorem dL_law_830 : decode cL_law 830 = .ok (.iconst 2, 1) := by decide +kernel
theorem dL_law_831 : decode cL_law 831 = .ok (.iadd, 1) := by decide +kernel
theorem dL_law_832 : decode cL_law 832 = .ok (.iaload, 1) := by decide +kernel
theorem dL_law_833 : decode cL_law 833 = .ok (.aload_n 3, 1) := by decide +kernel
theorem dL_law_834 : decode cL_law 834 = .ok (.invokestatic 132, 3) := by decide +kernel
theorem dL_law_837 : decode cL_law 837 = .ok (.istore 5, 2) := by decide +kernel
theorem dL_law_839 : decode cL_law 839 = .ok (.aload_n 2, 1) := by decide +kernel
theorem dL_law_840 : decode cL_law 840 = .ok (.aload_n 0, 1) := by decide +kernel
theorem dL_law_841 : decode cL_law 841 = .ok (.iload 4, 2) := by decide +kernel
theorem dL_law_843 : decode cL_law 843 = .ok (.iconst 1, 1) := by decide +kernel
theorem dL_law_844 : decode cL_law 844 = .ok (.iadd, 1) := by decide +kernel
theorem dL_law_845 : decode cL_law 845 = .ok (.iaload, 1) := by decide +kernel
theorem dL_law_846 : decode cL_law 846 = .ok (.aload_n 0, 1) := by decide +kernel
theorem dL_law_847 : decode cL_law 847 = .ok (.iload 4, 2) := by decide +kernel
theorem dL_law_849 : decode cL_law 849 = .ok (.iconst 2, 1) := by decide +kernel
theorem dL_law_850 : decode cL_law 850 = .ok (.iadd, 1) := by decide +kernel
theorem dL_law_851 : decode cL_law 851 = .ok (.iaload, 1) := by decide +kernel
theorem dL_law_852 : decode cL_law 852 = .ok (.invokevirtual 134, 3) := by decide +kernel
theorem dL_law_855 : decode cL_law 855 = .ok (.istore 6, 2) := by decide +kernel
theorem dL_law_857 : decode cL_law 857 = .ok (.aload_n 2, 1) := by decide +kernel
theorem dL_law_858 : decode cL_law 858 = .ok (.invokevirtual 105, 3) := by decide +kernel
theorem dL_law_861 : decode cL_law 861 = .ok (.iload 5, 2) := by decide +kernel
theorem dL_law_863 : decode cL_law 863 = .ok (.if_icmp .eq 5, 3) := by decide +kernel
theorem dL_law_866 : decode cL_law 866 = .ok (.iconst 0, 1) := by decide +kernel
theorem dL_law_867 : decode cL_law 867 = .ok (.ireturn, 1) := by decide +kernel
theorem dL_law_868 : decode cL_law 868 = .ok (.iload 5, 2) := by decide +kernel
theorem dL_law_870 : decode cL_law 870 = .ok (.ifCond .ne 15, 3) := by decide +kernel
theorem dL_law_873 : decode cL_law 873 = .ok (.aload_n 3, 1) := by decide +kernel
theorem dL_law_874 : decode cL_law 874 = .ok (.iconst 0, 1) := by decide +kernel
theorem dL_law_875 : decode cL_law 875 = .ok (.laload, 1) := by decide +kernel
theorem dL_law_876 : decode cL_law 876 = .ok (.iload 6, 2) := by decide +kernel
theorem dL_law_878 : decode cL_law 878 = .ok (.i2l, 1) := by decide +kernel
theorem dL_law_879 : decode cL_law 879 = .ok (.lcmp, 1) := by decide +kernel
theorem dL_law_880 : decode cL_law 880 = .ok (.ifCond .eq 5, 3) := by decide +kernel
theorem dL_law_883 : decode cL_law 883 = .ok (.iconst 0, 1) := by decide +kernel
theorem dL_law_884 : decode cL_law 884 = .ok (.ireturn, 1) := by decide +kernel
theorem dL_law_885 : decode cL_law 885 = .ok (.goto 1023, 3) := by decide +kernel
theorem dL_law_888 : decode cL_law 888 = .ok (.aload_n 1, 1) := by decide +kernel
theorem dL_law_889 : decode cL_law 889 = .ok (.aload_n 0, 1) := by decide +kernel
theorem dL_law_890 : decode cL_law 890 = .ok (.iload 4, 2) := by decide +kernel
theorem dL_law_892 : decode cL_law 892 = .ok (.iconst 1, 1) := by decide +kernel
theorem dL_law_893 : decode cL_law 893 = .ok (.iadd, 1) := by decide +kernel
theorem dL_law_894 : decode cL_law 894 = .ok (.iaload, 1) := by decide +kernel
theorem dL_law_895 : decode cL_law 895 = .ok (.aload_n 3, 1) := by decide +kernel
theorem dL_law_896 : decode cL_law 896 = .ok (.invokestatic 135, 3) := by decide +kernel
theorem dL_law_899 : decode cL_law 899 = .ok (.istore 5, 2) := by decide +kernel
theorem dL_law_901 : decode cL_law 901 = .ok (.aload_n 2, 1) := by decide +kernel
theorem dL_law_902 : decode cL_law 902 = .ok (.aload_n 0, 1) := by decide +kernel
theorem dL_law_903 : decode cL_law 903 = .ok (.iload 4, 2) := by decide +kernel
theorem dL_law_905 : decode cL_law 905 = .ok (.iconst 1, 1) := by decide +kernel
theorem dL_law_906 : decode cL_law 906 = .ok (.iadd, 1) := by decide +kernel
theorem dL_law_907 : decode cL_law 907 = .ok (.iaload, 1) := by decide +kernel
theorem dL_law_908 : decode cL_law 908 = .ok (.invokevirtual 137, 3) := by decide +kernel
theorem dL_law_911 : decode cL_law 911 = .ok (.istore 6, 2) := by decide +kernel
theorem dL_law_913 : decode cL_law 913 = .ok (.aload_n 2, 1) := by decide +kernel
theorem dL_law_914 : decode cL_law 914 = .ok (.invokevirtual 105, 3) := by decide +kernel
theorem dL_law_917 : decode cL_law 917 = .ok (.iload 5, 2) := by decide +kernel
theorem dL_law_919 : decode cL_law 919 = .ok (.if_icmp .eq 5, 3) := by decide +kernel
theorem dL_law_922 : decode cL_law 922 = .ok (.iconst 0, 1) := by decide +kernel
theorem dL_law_923 : decode cL_law 923 = .ok (.ireturn, 1) := by decide +kernel
theorem dL_law_924 : decode cL_law 924 = .ok (.iload 5, 2) := by decide +kernel
theorem dL_law_926 : decode cL_law 926 = .ok (.ifCond .ne 15, 3) := by decide +kernel
theorem dL_law_929 : decode cL_law 929 = .ok (.aload_n 3, 1) := by decide +kernel
theorem dL_law_930 : decode cL_law 930 = .ok (.iconst 0, 1) := by decide +kernel
theorem dL_law_931 : decode cL_law 931 = .ok (.laload, 1) := by decide +kernel
theorem dL_law_932 : decode cL_law 932 = .ok (.iload 6, 2) := by decide +kernel
theorem dL_law_934 : decode cL_law 934 = .ok (.i2l, 1) := by decide +kernel
theorem dL_law_935 : decode cL_law 935 = .ok (.lcmp, 1) := by decide +kernel
theorem dL_law_936 : decode cL_law 936 = .ok (.ifCond .eq 5, 3) := by decide +kernel
theorem dL_law_939 : decode cL_law 939 = .ok (.iconst 0, 1) := by decide +kernel
theorem dL_law_940 : decode cL_law 940 = .ok (.ireturn, 1) := by decide +kernel
theorem dL_law_941 : decode cL_law 941 = .ok (.goto 967, 3) := by decide +kernel
theorem dL_law_944 : decode cL_law 944 = .ok (.aload_n 1, 1) := by decide +kernel
theorem dL_law_945 : decode cL_law 945 = .ok (.aload_n 0, 1) := by decide +kernel
theorem dL_law_946 : decode cL_law 946 = .ok (.iload 4, 2) := by decide +kernel
theorem dL_law_948 : decode cL_law 948 = .ok (.iconst 1, 1) := by decide +kernel
theorem dL_law_949 : decode cL_law 949 = .ok (.iadd, 1) := by decide +kernel
theorem dL_law_950 : decode cL_law 950 = .ok (.iaload, 1) := by decide +kernel
theorem dL_law_951 : decode cL_law 951 = .ok (.aload_n 3, 1) := by decide +kernel
theorem dL_law_952 : decode cL_law 952 = .ok (.invokestatic 138, 3) := by decide +kernel
theorem dL_law_955 : decode cL_law 955 = .ok (.istore 5, 2) := by decide +kernel
theorem dL_law_957 : decode cL_law 957 = .ok (.aload_n 2, 1) := by decide +kernel
theorem dL_law_958 : decode cL_law 958 = .ok (.aload_n 0, 1) := by decide +kernel
theorem dL_law_959 : decode cL_law 959 = .ok (.iload 4, 2) := by decide +kernel
theorem dL_law_961 : decode cL_law 961 = .ok (.iconst 1, 1) := by decide +kernel
theorem dL_law_962 : decode cL_law 962 = .ok (.iadd, 1) := by decide +kernel
theorem dL_law_963 : decode cL_law 963 = .ok (.iaload, 1) := by decide +kernel
theorem dL_law_964 : decode cL_law 964 = .ok (.invokevirtual 140, 3) := by decide +kernel
theorem dL_law_967 : decode cL_law 967 = .ok (.istore 6, 2) := by decide +kernel
theorem dL_law_969 : decode cL_law 969 = .ok (.aload_n 2, 1) := by decide +kernel
theorem dL_law_970 : decode cL_law 970 = .ok (.invokevirtual 105, 3) := by decide +kernel
theorem dL_law_973 : decode cL_law 973 = .ok (.iload 5, 2) := by decide +kernel
theorem dL_law_975 : decode cL_law 975 = .ok (.if_icmp .eq 5, 3) := by decide +kernel
theorem dL_law_978 : decode cL_law 978 = .ok (.iconst 0, 1) := by decide +kernel

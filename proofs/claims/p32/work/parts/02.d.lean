theorem dX6_mixScenes_55 : decode cX6_mixScenes 55 = .ok (.lstore_n 3, 1) := by decide +kernel
theorem dX6_mixScenes_56 : decode cX6_mixScenes 56 = .ok (.iinc 6 1, 3) := by decide +kernel
theorem dX6_mixScenes_59 : decode cX6_mixScenes 59 = .ok (.goto (-36), 3) := by decide +kernel
theorem dX6_mixScenes_62 : decode cX6_mixScenes 62 = .ok (.iinc 5 1, 3) := by decide +kernel
theorem dX6_mixScenes_65 : decode cX6_mixScenes 65 = .ok (.goto (-60), 3) := by decide +kernel
theorem dX6_mixScenes_68 : decode cX6_mixScenes 68 = .ok (.lload_n 3, 1) := by decide +kernel
theorem dX6_mixScenes_69 : decode cX6_mixScenes 69 = .ok (.lreturn, 1) := by decide +kernel
theorem dX6_nightValue_0 : decode cX6_nightValue 0 = .ok (.iload_n 1, 1) := by decide +kernel
theorem dX6_nightValue_1 : decode cX6_nightValue 1 = .ok (.tableswitch 187 0 14 #[75, 80, 91, 102, 113, 121, 129, 141, 149, 154, 159, 164, 169, 174, 179], 75) := by decide +kernel
theorem dX6_nightValue_76 : decode cX6_nightValue 76 = .ok (.aload_n 0, 1) := by decide +kernel
theorem dX6_nightValue_77 : decode cX6_nightValue 77 = .ok (.getfield 30, 3) := by decide +kernel
theorem dX6_nightValue_80 : decode cX6_nightValue 80 = .ok (.ireturn, 1) := by decide +kernel
theorem dX6_nightValue_81 : decode cX6_nightValue 81 = .ok (.aload_n 0, 1) := by decide +kernel
theorem dX6_nightValue_82 : decode cX6_nightValue 82 = .ok (.getfield 10, 3) := by decide +kernel
theorem dX6_nightValue_85 : decode cX6_nightValue 85 = .ok (.getfield 63, 3) := by decide +kernel
theorem dX6_nightValue_88 : decode cX6_nightValue 88 = .ok (.invokevirtual 67, 3) := by decide +kernel
theorem dX6_nightValue_91 : decode cX6_nightValue 91 = .ok (.ireturn, 1) := by decide +kernel
theorem dX6_nightValue_92 : decode cX6_nightValue 92 = .ok (.aload_n 0, 1) := by decide +kernel
theorem dX6_nightValue_93 : decode cX6_nightValue 93 = .ok (.getfield 19, 3) := by decide +kernel
theorem dX6_nightValue_96 : decode cX6_nightValue 96 = .ok (.getfield 98, 3) := by decide +kernel
theorem dX6_nightValue_99 : decode cX6_nightValue 99 = .ok (.invokevirtual 67, 3) := by decide +kernel
theorem dX6_nightValue_102 : decode cX6_nightValue 102 = .ok (.ireturn, 1) := by decide +kernel
theorem dX6_nightValue_103 : decode cX6_nightValue 103 = .ok (.aload_n 0, 1) := by decide +kernel
theorem dX6_nightValue_104 : decode cX6_nightValue 104 = .ok (.getfield 10, 3) := by decide +kernel
theorem dX6_nightValue_107 : decode cX6_nightValue 107 = .ok (.getfield 131, 3) := by decide +kernel
theorem dX6_nightValue_110 : decode cX6_nightValue 110 = .ok (.invokevirtual 67, 3) := by decide +kernel
theorem dX6_nightValue_113 : decode cX6_nightValue 113 = .ok (.ireturn, 1) := by decide +kernel
theorem dX6_nightValue_114 : decode cX6_nightValue 114 = .ok (.aload_n 0, 1) := by decide +kernel
theorem dX6_nightValue_115 : decode cX6_nightValue 115 = .ok (.getfield 10, 3) := by decide +kernel
theorem dX6_nightValue_118 : decode cX6_nightValue 118 = .ok (.getfield 348, 3) := by decide +kernel
theorem dX6_nightValue_121 : decode cX6_nightValue 121 = .ok (.ireturn, 1) := by decide +kernel
theorem dX6_nightValue_122 : decode cX6_nightValue 122 = .ok (.aload_n 0, 1) := by decide +kernel
theorem dX6_nightValue_123 : decode cX6_nightValue 123 = .ok (.getfield 10, 3) := by decide +kernel
theorem dX6_nightValue_126 : decode cX6_nightValue 126 = .ok (.getfield 164, 3) := by decide +kernel
theorem dX6_nightValue_129 : decode cX6_nightValue 129 = .ok (.ireturn, 1) := by decide +kernel
theorem dX6_nightValue_130 : decode cX6_nightValue 130 = .ok (.aload_n 0, 1) := by decide +kernel
theorem dX6_nightValue_131 : decode cX6_nightValue 131 = .ok (.getfield 10, 3) := by decide +kernel
theorem dX6_nightValue_134 : decode cX6_nightValue 134 = .ok (.aload_n 0, 1) := by decide +kernel
theorem dX6_nightValue_135 : decode cX6_nightValue 135 = .ok (.getfield 30, 3) := by decide +kernel
theorem dX6_nightValue_138 : decode cX6_nightValue 138 = .ok (.invokevirtual 350, 3) := by decide +kernel
theorem dX6_nightValue_141 : decode cX6_nightValue 141 = .ok (.ireturn, 1) := by decide +kernel
theorem dX6_nightValue_142 : decode cX6_nightValue 142 = .ok (.aload_n 0, 1) := by decide +kernel
theorem dX6_nightValue_143 : decode cX6_nightValue 143 = .ok (.getfield 19, 3) := by decide +kernel
theorem dX6_nightValue_146 : decode cX6_nightValue 146 = .ok (.invokevirtual 257, 3) := by decide +kernel
theorem dX6_nightValue_149 : decode cX6_nightValue 149 = .ok (.ireturn, 1) := by decide +kernel
theorem dX6_nightValue_150 : decode cX6_nightValue 150 = .ok (.aload_n 0, 1) := by decide +kernel
theorem dX6_nightValue_151 : decode cX6_nightValue 151 = .ok (.invokevirtual 353, 3) := by decide +kernel
theorem dX6_nightValue_154 : decode cX6_nightValue 154 = .ok (.ireturn, 1) := by decide +kernel
theorem dX6_nightValue_155 : decode cX6_nightValue 155 = .ok (.aload_n 0, 1) := by decide +kernel
theorem dX6_nightValue_156 : decode cX6_nightValue 156 = .ok (.getfield 34, 3) := by decide +kernel
theorem dX6_nightValue_159 : decode cX6_nightValue 159 = .ok (.ireturn, 1) := by decide +kernel
theorem dX6_nightValue_160 : decode cX6_nightValue 160 = .ok (.aload_n 0, 1) := by decide +kernel
theorem dX6_nightValue_161 : decode cX6_nightValue 161 = .ok (.getfield 40, 3) := by decide +kernel
theorem dX6_nightValue_164 : decode cX6_nightValue 164 = .ok (.ireturn, 1) := by decide +kernel
theorem dX6_nightValue_165 : decode cX6_nightValue 165 = .ok (.aload_n 0, 1) := by decide +kernel
theorem dX6_nightValue_166 : decode cX6_nightValue 166 = .ok (.getfield 43, 3) := by decide +kernel
theorem dX6_nightValue_169 : decode cX6_nightValue 169 = .ok (.ireturn, 1) := by decide +kernel
theorem dX6_nightValue_170 : decode cX6_nightValue 170 = .ok (.aload_n 0, 1) := by decide +kernel
theorem dX6_nightValue_171 : decode cX6_nightValue 171 = .ok (.getfield 46, 3) := by decide +kernel
theorem dX6_nightValue_174 : decode cX6_nightValue 174 = .ok (.ireturn, 1) := by decide +kernel
theorem dX6_nightValue_175 : decode cX6_nightValue 175 = .ok (.aload_n 0, 1) := by decide +kernel
theorem dX6_nightValue_176 : decode cX6_nightValue 176 = .ok (.getfield 49, 3) := by decide +kernel
theorem dX6_nightValue_179 : decode cX6_nightValue 179 = .ok (.ireturn, 1) := by decide +kernel
theorem dX6_nightValue_180 : decode cX6_nightValue 180 = .ok (.aload_n 0, 1) := by decide +kernel
theorem dX6_nightValue_181 : decode cX6_nightValue 181 = .ok (.getfield 26, 3) := by decide +kernel
theorem dX6_nightValue_184 : decode cX6_nightValue 184 = .ok (.getfield 287, 3) := by decide +kernel
theorem dX6_nightValue_187 : decode cX6_nightValue 187 = .ok (.ireturn, 1) := by decide +kernel
theorem dX6_nightValue_188 : decode cX6_nightValue 188 = .ok (.aload_n 0, 1) := by decide +kernel
theorem dX6_nightValue_189 : decode cX6_nightValue 189 = .ok (.getfield 19, 3) := by decide +kernel
theorem dX6_nightValue_192 : decode cX6_nightValue 192 = .ok (.invokevirtual 244, 3) := by decide +kernel
theorem dX6_nightValue_195 : decode cX6_nightValue 195 = .ok (.ireturn, 1) := by decide +kernel
theorem dX6_strangers_0 : decode cX6_strangers 0 = .ok (.aload_n 0, 1) := by decide +kernel
theorem dX6_strangers_1 : decode cX6_strangers 1 = .ok (.getfield 10, 3) := by decide +kernel
theorem dX6_strangers_4 : decode cX6_strangers 4 = .ok (.aload_n 0, 1) := by decide +kernel
theorem dX6_strangers_5 : decode cX6_strangers 5 = .ok (.getfield 30, 3) := by decide +kernel
theorem dX6_strangers_8 : decode cX6_strangers 8 = .ok (.invokevirtual 350, 3) := by decide +kernel
theorem dX6_strangers_11 : decode cX6_strangers 11 = .ok (.istore_n 1, 1) := by decide +kernel
theorem dX6_strangers_12 : decode cX6_strangers 12 = .ok (.iload_n 1, 1) := by decide +kernel
theorem dX6_strangers_13 : decode cX6_strangers 13 = .ok (.iconst (-1), 1) := by decide +kernel
theorem dX6_strangers_14 : decode cX6_strangers 14 = .ok (.if_icmp .ne 7, 3) := by decide +kernel
theorem dX6_strangers_17 : decode cX6_strangers 17 = .ok (.iconst 0, 1) := by decide +kernel
theorem dX6_strangers_18 : decode cX6_strangers 18 = .ok (.goto 20, 3) := by decide +kernel
theorem dX6_strangers_21 : decode cX6_strangers 21 = .ok (.aload_n 0, 1) := by decide +kernel
theorem dX6_strangers_22 : decode cX6_strangers 22 = .ok (.getfield 10, 3) := by decide +kernel
theorem dX6_strangers_25 : decode cX6_strangers 25 = .ok (.getfield 131, 3) := by decide +kernel
theorem dX6_strangers_28 : decode cX6_strangers 28 = .ok (.iload_n 1, 1) := by decide +kernel
theorem dX6_strangers_29 : decode cX6_strangers 29 = .ok (.invokevirtual 105, 3) := by decide +kernel
theorem dX6_strangers_32 : decode cX6_strangers 32 = .ok (.checkcast 147, 3) := by decide +kernel
theorem dX6_strangers_35 : decode cX6_strangers 35 = .ok (.getfield 356, 3) := by decide +kernel
theorem dX6_strangers_38 : decode cX6_strangers 38 = .ok (.istore_n 2, 1) := by decide +kernel
theorem dX6_strangers_39 : decode cX6_strangers 39 = .ok (.aload_n 0, 1) := by decide +kernel
theorem dX6_strangers_40 : decode cX6_strangers 40 = .ok (.getfield 19, 3) := by decide +kernel
theorem dX6_strangers_43 : decode cX6_strangers 43 = .ok (.invokevirtual 257, 3) := by decide +kernel
theorem dX6_strangers_46 : decode cX6_strangers 46 = .ok (.iload_n 2, 1) := by decide +kernel
theorem dX6_strangers_47 : decode cX6_strangers 47 = .ok (.iconst (-1), 1) := by decide +kernel
theorem dX6_strangers_48 : decode cX6_strangers 48 = .ok (.ixor, 1) := by decide +kernel
theorem dX6_strangers_49 : decode cX6_strangers 49 = .ok (.iand, 1) := by decide +kernel
theorem dX6_strangers_50 : decode cX6_strangers 50 = .ok (.ireturn, 1) := by decide +kernel
theorem dX6_beginPiece_0 : decode cX6_beginPiece 0 = .ok (.aload_n 0, 1) := by decide +kernel
theorem dX6_beginPiece_1 : decode cX6_beginPiece 1 = .ok (.getfield 10, 3) := by decide +kernel
theorem dX6_beginPiece_4 : decode cX6_beginPiece 4 = .ok (.aload_n 0, 1) := by decide +kernel
theorem dX6_beginPiece_5 : decode cX6_beginPiece 5 = .ok (.getfield 30, 3) := by decide +kernel
theorem dX6_beginPiece_8 : decode cX6_beginPiece 8 = .ok (.invokevirtual 350, 3) := by decide +kernel
theorem dX6_beginPiece_11 : decode cX6_beginPiece 11 = .ok (.istore_n 1, 1) := by decide +kernel
theorem dX6_beginPiece_12 : decode cX6_beginPiece 12 = .ok (.iload_n 1, 1) := by decide +kernel
theorem dX6_beginPiece_13 : decode cX6_beginPiece 13 = .ok (.iconst (-1), 1) := by decide +kernel
theorem dX6_beginPiece_14 : decode cX6_beginPiece 14 = .ok (.if_icmp .eq 34, 3) := by decide +kernel
theorem dX6_beginPiece_17 : decode cX6_beginPiece 17 = .ok (.aload_n 0, 1) := by decide +kernel
theorem dX6_beginPiece_18 : decode cX6_beginPiece 18 = .ok (.getfield 26, 3) := by decide +kernel
theorem dX6_beginPiece_21 : decode cX6_beginPiece 21 = .ok (.aload_n 0, 1) := by decide +kernel
theorem dX6_beginPiece_22 : decode cX6_beginPiece 22 = .ok (.getfield 10, 3) := by decide +kernel
theorem dX6_beginPiece_25 : decode cX6_beginPiece 25 = .ok (.getfield 131, 3) := by decide +kernel
theorem dX6_beginPiece_28 : decode cX6_beginPiece 28 = .ok (.iload_n 1, 1) := by decide +kernel
theorem dX6_beginPiece_29 : decode cX6_beginPiece 29 = .ok (.invokevirtual 105, 3) := by decide +kernel
theorem dX6_beginPiece_32 : decode cX6_beginPiece 32 = .ok (.checkcast 147, 3) := by decide +kernel
theorem dX6_beginPiece_35 : decode cX6_beginPiece 35 = .ok (.getfield 359, 3) := by decide +kernel
theorem dX6_beginPiece_38 : decode cX6_beginPiece 38 = .ok (.invokevirtual 362, 3) := by decide +kernel
theorem dX6_beginPiece_41 : decode cX6_beginPiece 41 = .ok (.ifCond .eq 7, 3) := by decide +kernel
theorem dX6_beginPiece_44 : decode cX6_beginPiece 44 = .ok (.iconst 1, 1) := by decide +kernel
theorem dX6_beginPiece_45 : decode cX6_beginPiece 45 = .ok (.goto 4, 3) := by decide +kernel
theorem dX6_beginPiece_48 : decode cX6_beginPiece 48 = .ok (.iconst 0, 1) := by decide +kernel
theorem dX6_beginPiece_49 : decode cX6_beginPiece 49 = .ok (.ireturn, 1) := by decide +kernel
theorem dX6_rightLevel_0 : decode cX6_rightLevel 0 = .ok (.iload_n 1, 1) := by decide +kernel
theorem dX6_rightLevel_1 : decode cX6_rightLevel 1 = .ok (.iload_n 0, 1) := by decide +kernel
theorem dX6_rightLevel_2 : decode cX6_rightLevel 2 = .ok (.if_icmp .le 5, 3) := by decide +kernel
theorem dX6_rightLevel_5 : decode cX6_rightLevel 5 = .ok (.iconst 1, 1) := by decide +kernel
theorem dX6_rightLevel_6 : decode cX6_rightLevel 6 = .ok (.ireturn, 1) := by decide +kernel
theorem dX6_rightLevel_7 : decode cX6_rightLevel 7 = .ok (.iload_n 1, 1) := by decide +kernel
theorem dX6_rightLevel_8 : decode cX6_rightLevel 8 = .ok (.iload_n 0, 1) := by decide +kernel
theorem dX6_rightLevel_9 : decode cX6_rightLevel 9 = .ok (.if_icmp .ge 7, 3) := by decide +kernel
theorem dX6_rightLevel_12 : decode cX6_rightLevel 12 = .ok (.iconst (-1), 1) := by decide +kernel
theorem dX6_rightLevel_13 : decode cX6_rightLevel 13 = .ok (.goto 4, 3) := by decide +kernel
theorem dX6_rightLevel_16 : decode cX6_rightLevel 16 = .ok (.iconst 0, 1) := by decide +kernel
theorem dX6_rightLevel_17 : decode cX6_rightLevel 17 = .ok (.ireturn, 1) := by decide +kernel
theorem dX6_goBy_0 : decode cX6_goBy 0 = .ok (.iconst 0, 1) := by decide +kernel
theorem dX6_goBy_1 : decode cX6_goBy 1 = .ok (.istore_n 3, 1) := by decide +kernel
theorem dX6_goBy_2 : decode cX6_goBy 2 = .ok (.iload_n 3, 1) := by decide +kernel
theorem dX6_goBy_3 : decode cX6_goBy 3 = .ok (.iload_n 1, 1) := by decide +kernel
theorem dX6_goBy_4 : decode cX6_goBy 4 = .ok (.if_icmp .ge 64, 3) := by decide +kernel
theorem dX6_goBy_7 : decode cX6_goBy 7 = .ok (.aload_n 0, 1) := by decide +kernel
theorem dX6_goBy_8 : decode cX6_goBy 8 = .ok (.dup, 1) := by decide +kernel
theorem dX6_goBy_9 : decode cX6_goBy 9 = .ok (.getfield 30, 3) := by decide +kernel
theorem dX6_goBy_12 : decode cX6_goBy 12 = .ok (.iconst 1, 1) := by decide +kernel
theorem dX6_goBy_13 : decode cX6_goBy 13 = .ok (.iadd, 1) := by decide +kernel
theorem dX6_goBy_14 : decode cX6_goBy 14 = .ok (.putfield 30, 3) := by decide +kernel
theorem dX6_goBy_17 : decode cX6_goBy 17 = .ok (.aload_n 0, 1) := by decide +kernel
theorem dX6_goBy_18 : decode cX6_goBy 18 = .ok (.getfield 26, 3) := by decide +kernel
theorem dX6_goBy_21 : decode cX6_goBy 21 = .ok (.invokevirtual 365, 3) := by decide +kernel
theorem dX6_goBy_24 : decode cX6_goBy 24 = .ok (.iload_n 2, 1) := by decide +kernel
theorem dX6_goBy_25 : decode cX6_goBy 25 = .ok (.ifCond .ne 20, 3) := by decide +kernel
theorem dX6_goBy_28 : decode cX6_goBy 28 = .ok (.aload_n 0, 1) := by decide +kernel
theorem dX6_goBy_29 : decode cX6_goBy 29 = .ok (.getfield 34, 3) := by decide +kernel
theorem dX6_goBy_32 : decode cX6_goBy 32 = .ok (.ifCond .le 13, 3) := by decide +kernel
theorem dX6_goBy_35 : decode cX6_goBy 35 = .ok (.aload_n 0, 1) := by decide +kernel
theorem dX6_goBy_36 : decode cX6_goBy 36 = .ok (.dup, 1) := by decide +kernel
theorem dX6_goBy_37 : decode cX6_goBy 37 = .ok (.getfield 34, 3) := by decide +kernel
theorem dX6_goBy_40 : decode cX6_goBy 40 = .ok (.iconst 1, 1) := by decide +kernel
theorem dX6_goBy_41 : decode cX6_goBy 41 = .ok (.isub, 1) := by decide +kernel
theorem dX6_goBy_42 : decode cX6_goBy 42 = .ok (.putfield 34, 3) := by decide +kernel
theorem dX6_goBy_45 : decode cX6_goBy 45 = .ok (.aload_n 0, 1) := by decide +kernel
theorem dX6_goBy_46 : decode cX6_goBy 46 = .ok (.getfield 30, 3) := by decide +kernel
theorem dX6_goBy_49 : decode cX6_goBy 49 = .ok (.bipush 30, 2) := by decide +kernel
theorem dX6_goBy_51 : decode cX6_goBy 51 = .ok (.irem, 1) := by decide +kernel
theorem dX6_goBy_52 : decode cX6_goBy 52 = .ok (.ifCond .ne 10, 3) := by decide +kernel
theorem dX6_goBy_55 : decode cX6_goBy 55 = .ok (.aload_n 0, 1) := by decide +kernel
theorem dX6_goBy_56 : decode cX6_goBy 56 = .ok (.getfield 19, 3) := by decide +kernel
theorem dX6_goBy_59 : decode cX6_goBy 59 = .ok (.invokevirtual 368, 3) := by decide +kernel
theorem dX6_goBy_62 : decode cX6_goBy 62 = .ok (.iinc 3 1, 3) := by decide +kernel
theorem dX6_goBy_65 : decode cX6_goBy 65 = .ok (.goto (-63), 3) := by decide +kernel
theorem dX6_goBy_68 : decode cX6_goBy 68 = .ok (.return_, 1) := by decide +kernel
theorem dX6_isPerson_0 : decode cX6_isPerson 0 = .ok (.iload_n 1, 1) := by decide +kernel
theorem dX6_isPerson_1 : decode cX6_isPerson 1 = .ok (.ifCond .lt 21, 3) := by decide +kernel
theorem dX6_isPerson_4 : decode cX6_isPerson 4 = .ok (.iload_n 1, 1) := by decide +kernel
theorem dX6_isPerson_5 : decode cX6_isPerson 5 = .ok (.aload_n 0, 1) := by decide +kernel
theorem dX6_isPerson_6 : decode cX6_isPerson 6 = .ok (.getfield 10, 3) := by decide +kernel
theorem dX6_isPerson_9 : decode cX6_isPerson 9 = .ok (.getfield 63, 3) := by decide +kernel
theorem dX6_isPerson_12 : decode cX6_isPerson 12 = .ok (.invokevirtual 67, 3) := by decide +kernel
theorem dX6_isPerson_15 : decode cX6_isPerson 15 = .ok (.if_icmp .ge 7, 3) := by decide +kernel
theorem dX6_isPerson_18 : decode cX6_isPerson 18 = .ok (.iconst 1, 1) := by decide +kernel
theorem dX6_isPerson_19 : decode cX6_isPerson 19 = .ok (.goto 4, 3) := by decide +kernel
theorem dX6_isPerson_22 : decode cX6_isPerson 22 = .ok (.iconst 0, 1) := by decide +kernel
theorem dX6_isPerson_23 : decode cX6_isPerson 23 = .ok (.ireturn, 1) := by decide +kernel
theorem dX6_isFigure_0 : decode cX6_isFigure 0 = .ok (.iload_n 1, 1) := by decide +kernel
theorem dX6_isFigure_1 : decode cX6_isFigure 1 = .ok (.ifCond .lt 21, 3) := by decide +kernel
theorem dX6_isFigure_4 : decode cX6_isFigure 4 = .ok (.iload_n 1, 1) := by decide +kernel
theorem dX6_isFigure_5 : decode cX6_isFigure 5 = .ok (.aload_n 0, 1) := by decide +kernel
theorem dX6_isFigure_6 : decode cX6_isFigure 6 = .ok (.getfield 19, 3) := by decide +kernel
theorem dX6_isFigure_9 : decode cX6_isFigure 9 = .ok (.getfield 98, 3) := by decide +kernel
theorem dX6_isFigure_12 : decode cX6_isFigure 12 = .ok (.invokevirtual 67, 3) := by decide +kernel
theorem dX6_isFigure_15 : decode cX6_isFigure 15 = .ok (.if_icmp .ge 7, 3) := by decide +kernel
theorem dX6_isFigure_18 : decode cX6_isFigure 18 = .ok (.iconst 1, 1) := by decide +kernel
theorem dX6_isFigure_19 : decode cX6_isFigure 19 = .ok (.goto 4, 3) := by decide +kernel
theorem dX6_isFigure_22 : decode cX6_isFigure 22 = .ok (.iconst 0, 1) := by decide +kernel
theorem dX6_isFigure_23 : decode cX6_isFigure 23 = .ok (.ireturn, 1) := by decide +kernel
theorem dX6_isScene_0 : decode cX6_isScene 0 = .ok (.iload_n 1, 1) := by decide +kernel
theorem dX6_isScene_1 : decode cX6_isScene 1 = .ok (.ifCond .lt 21, 3) := by decide +kernel
theorem dX6_isScene_4 : decode cX6_isScene 4 = .ok (.iload_n 1, 1) := by decide +kernel
theorem dX6_isScene_5 : decode cX6_isScene 5 = .ok (.aload_n 0, 1) := by decide +kernel
theorem dX6_isScene_6 : decode cX6_isScene 6 = .ok (.getfield 10, 3) := by decide +kernel
theorem dX6_isScene_9 : decode cX6_isScene 9 = .ok (.getfield 131, 3) := by decide +kernel
theorem dX6_isScene_12 : decode cX6_isScene 12 = .ok (.invokevirtual 67, 3) := by decide +kernel
theorem dX6_isScene_15 : decode cX6_isScene 15 = .ok (.if_icmp .ge 7, 3) := by decide +kernel
theorem dX6_isScene_18 : decode cX6_isScene 18 = .ok (.iconst 1, 1) := by decide +kernel
theorem dX6_isScene_19 : decode cX6_isScene 19 = .ok (.goto 4, 3) := by decide +kernel
theorem dX6_isScene_22 : decode cX6_isScene 22 = .ok (.iconst 0, 1) := by decide +kernel
theorem dX6_isScene_23 : decode cX6_isScene 23 = .ok (.ireturn, 1) := by decide +kernel
theorem dX6_isPlace_0 : decode cX6_isPlace 0 = .ok (.iload_n 0, 1) := by decide +kernel
theorem dX6_isPlace_1 : decode cX6_isPlace 1 = .ok (.iconst 0, 1) := by decide +kernel
theorem dX6_isPlace_2 : decode cX6_isPlace 2 = .ok (.bipush 9, 2) := by decide +kernel
theorem dX6_isPlace_4 : decode cX6_isPlace 4 = .ok (.invokestatic 52, 3) := by decide +kernel
theorem dX6_isPlace_7 : decode cX6_isPlace 7 = .ok (.ifCond .ne 7, 3) := by decide +kernel
theorem dX6_isPlace_10 : decode cX6_isPlace 10 = .ok (.iconst 1, 1) := by decide +kernel
theorem dX6_isPlace_11 : decode cX6_isPlace 11 = .ok (.goto 4, 3) := by decide +kernel
theorem dX6_isPlace_14 : decode cX6_isPlace 14 = .ok (.iconst 0, 1) := by decide +kernel
theorem dX6_isPlace_15 : decode cX6_isPlace 15 = .ok (.ireturn, 1) := by decide +kernel
theorem dX6_isLength_0 : decode cX6_isLength 0 = .ok (.iload_n 0, 1) := by decide +kernel
theorem dX6_isLength_1 : decode cX6_isLength 1 = .ok (.iconst 5, 1) := by decide +kernel
theorem dX6_isLength_2 : decode cX6_isLength 2 = .ok (.bipush 90, 2) := by decide +kernel
theorem dX6_isLength_4 : decode cX6_isLength 4 = .ok (.invokestatic 52, 3) := by decide +kernel
theorem dX6_isLength_7 : decode cX6_isLength 7 = .ok (.ifCond .ne 7, 3) := by decide +kernel
theorem dX6_isLength_10 : decode cX6_isLength 10 = .ok (.iconst 1, 1) := by decide +kernel
theorem dX6_isLength_11 : decode cX6_isLength 11 = .ok (.goto 4, 3) := by decide +kernel
theorem dX6_isLength_14 : decode cX6_isLength 14 = .ok (.iconst 0, 1) := by decide +kernel
theorem dX6_isLength_15 : decode cX6_isLength 15 = .ok (.ireturn, 1) := by decide +kernel
theorem dX6_isNoneOrOf_0 : decode cX6_isNoneOrOf 0 = .ok (.iload_n 1, 1) := by decide +kernel
theorem dX6_isNoneOrOf_1 : decode cX6_isNoneOrOf 1 = .ok (.iconst (-1), 1) := by decide +kernel
theorem dX6_isNoneOrOf_2 : decode cX6_isNoneOrOf 2 = .ok (.if_icmp .eq 11, 3) := by decide +kernel
theorem dX6_isNoneOrOf_5 : decode cX6_isNoneOrOf 5 = .ok (.iload_n 0, 1) := by decide +kernel
theorem dX6_isNoneOrOf_6 : decode cX6_isNoneOrOf 6 = .ok (.iload_n 1, 1) := by decide +kernel
theorem dX6_isNoneOrOf_7 : decode cX6_isNoneOrOf 7 = .ok (.invokestatic 260, 3) := by decide +kernel
theorem dX6_isNoneOrOf_10 : decode cX6_isNoneOrOf 10 = .ok (.ifCond .eq 7, 3) := by decide +kernel
theorem dX6_isNoneOrOf_13 : decode cX6_isNoneOrOf 13 = .ok (.iconst 1, 1) := by decide +kernel
theorem dX6_isNoneOrOf_14 : decode cX6_isNoneOrOf 14 = .ok (.goto 4, 3) := by decide +kernel
theorem dX6_isNoneOrOf_17 : decode cX6_isNoneOrOf 17 = .ok (.iconst 0, 1) := by decide +kernel
theorem dX6_isNoneOrOf_18 : decode cX6_isNoneOrOf 18 = .ok (.ireturn, 1) := by decide +kernel
theorem dX6_outside_0 : decode cX6_outside 0 = .ok (.iload_n 0, 1) := by decide +kernel
theorem dX6_outside_1 : decode cX6_outside 1 = .ok (.iload_n 1, 1) := by decide +kernel
theorem dX6_outside_2 : decode cX6_outside 2 = .ok (.if_icmp .lt 8, 3) := by decide +kernel
theorem dX6_outside_5 : decode cX6_outside 5 = .ok (.iload_n 0, 1) := by decide +kernel
theorem dX6_outside_6 : decode cX6_outside 6 = .ok (.iload_n 2, 1) := by decide +kernel
theorem dX6_outside_7 : decode cX6_outside 7 = .ok (.if_icmp .le 7, 3) := by decide +kernel
theorem dX6_outside_10 : decode cX6_outside 10 = .ok (.iconst 1, 1) := by decide +kernel
theorem dX6_outside_11 : decode cX6_outside 11 = .ok (.goto 4, 3) := by decide +kernel
theorem dX6_outside_14 : decode cX6_outside 14 = .ok (.iconst 0, 1) := by decide +kernel
theorem dX6_outside_15 : decode cX6_outside 15 = .ok (.ireturn, 1) := by decide +kernel
theorem dX6_holds_0 : decode cX6_holds 0 = .ok (.iload_n 1, 1) := by decide +kernel
theorem dX6_holds_1 : decode cX6_holds 1 = .ok (.ifCond .lt 22, 3) := by decide +kernel
theorem dX6_holds_4 : decode cX6_holds 4 = .ok (.iload_n 1, 1) := by decide +kernel
theorem dX6_holds_5 : decode cX6_holds 5 = .ok (.bipush 31, 2) := by decide +kernel
theorem dX6_holds_7 : decode cX6_holds 7 = .ok (.if_icmp .ge 16, 3) := by decide +kernel
theorem dX6_holds_10 : decode cX6_holds 10 = .ok (.iload_n 0, 1) := by decide +kernel
theorem dX6_holds_11 : decode cX6_holds 11 = .ok (.iload_n 1, 1) := by decide +kernel
theorem dX6_holds_12 : decode cX6_holds 12 = .ok (.ishr, 1) := by decide +kernel
theorem dX6_holds_13 : decode cX6_holds 13 = .ok (.iconst 1, 1) := by decide +kernel
theorem dX6_holds_14 : decode cX6_holds 14 = .ok (.iand, 1) := by decide +kernel
theorem dX6_holds_15 : decode cX6_holds 15 = .ok (.iconst 1, 1) := by decide +kernel
theorem dX6_holds_16 : decode cX6_holds 16 = .ok (.if_icmp .ne 7, 3) := by decide +kernel
theorem dX6_holds_19 : decode cX6_holds 19 = .ok (.iconst 1, 1) := by decide +kernel
theorem dX6_holds_20 : decode cX6_holds 20 = .ok (.goto 4, 3) := by decide +kernel
theorem dX6_holds_23 : decode cX6_holds 23 = .ok (.iconst 0, 1) := by decide +kernel
theorem dX6_holds_24 : decode cX6_holds 24 = .ok (.ireturn, 1) := by decide +kernel
theorem dX6_edge_0 : decode cX6_edge 0 = .ok (.iload_n 0, 1) := by decide +kernel
theorem dX6_edge_1 : decode cX6_edge 1 = .ok (.ifCond .ne 7, 3) := by decide +kernel
theorem dX6_edge_4 : decode cX6_edge 4 = .ok (.iconst 0, 1) := by decide +kernel
theorem dX6_edge_5 : decode cX6_edge 5 = .ok (.goto 5, 3) := by decide +kernel
theorem dX6_edge_8 : decode cX6_edge 8 = .ok (.bipush 9, 2) := by decide +kernel
theorem dX6_edge_10 : decode cX6_edge 10 = .ok (.ireturn, 1) := by decide +kernel
theorem dX6_reaches_0 : decode cX6_reaches 0 = .ok (.iload_n 0, 1) := by decide +kernel
theorem dX6_reaches_1 : decode cX6_reaches 1 = .ok (.iconst 2, 1) := by decide +kernel
theorem dX6_reaches_2 : decode cX6_reaches 2 = .ok (.if_icmp .ne 16, 3) := by decide +kernel
theorem dX6_reaches_5 : decode cX6_reaches 5 = .ok (.iload_n 1, 1) := by decide +kernel
theorem dX6_reaches_6 : decode cX6_reaches 6 = .ok (.iconst 5, 1) := by decide +kernel
theorem dX6_reaches_7 : decode cX6_reaches 7 = .ok (.if_icmp .gt 7, 3) := by decide +kernel
theorem dX6_reaches_10 : decode cX6_reaches 10 = .ok (.iconst 1, 1) := by decide +kernel
theorem dX6_reaches_11 : decode cX6_reaches 11 = .ok (.goto 17, 3) := by decide +kernel
theorem dX6_reaches_14 : decode cX6_reaches 14 = .ok (.iconst 0, 1) := by decide +kernel
theorem dX6_reaches_15 : decode cX6_reaches 15 = .ok (.goto 13, 3) := by decide +kernel
theorem dX6_reaches_18 : decode cX6_reaches 18 = .ok (.iload_n 1, 1) := by decide +kernel
theorem dX6_reaches_19 : decode cX6_reaches 19 = .ok (.iconst 4, 1) := by decide +kernel
theorem dX6_reaches_20 : decode cX6_reaches 20 = .ok (.if_icmp .lt 7, 3) := by decide +kernel
theorem dX6_reaches_23 : decode cX6_reaches 23 = .ok (.iconst 1, 1) := by decide +kernel
theorem dX6_reaches_24 : decode cX6_reaches 24 = .ok (.goto 4, 3) := by decide +kernel
theorem dX6_reaches_27 : decode cX6_reaches 27 = .ok (.iconst 0, 1) := by decide +kernel
theorem dX6_reaches_28 : decode cX6_reaches 28 = .ok (.ireturn, 1) := by decide +kernel
theorem dJ9_abs_0f7a4_0 : decode cJ9_abs_0f7a4 0 = .ok (.iload_n 0, 1) := by decide +kernel
theorem dJ9_abs_0f7a4_1 : decode cJ9_abs_0f7a4 1 = .ok (.ifCond .ge 8, 3) := by decide +kernel
theorem dJ9_abs_0f7a4_4 : decode cJ9_abs_0f7a4 4 = .ok (.iload_n 0, 1) := by decide +kernel
theorem dJ9_abs_0f7a4_5 : decode cJ9_abs_0f7a4 5 = .ok (.ineg, 1) := by decide +kernel
theorem dJ9_abs_0f7a4_6 : decode cJ9_abs_0f7a4 6 = .ok (.goto 4, 3) := by decide +kernel
theorem dJ9_abs_0f7a4_9 : decode cJ9_abs_0f7a4 9 = .ok (.iload_n 0, 1) := by decide +kernel
theorem dJ9_abs_0f7a4_10 : decode cJ9_abs_0f7a4 10 = .ok (.ireturn, 1) := by decide +kernel
theorem dJ9_abs_294c1_0 : decode cJ9_abs_294c1 0 = .ok (.dload_n 0, 1) := by decide +kernel
theorem dJ9_abs_294c1_1 : decode cJ9_abs_294c1 1 = .ok (.invokestatic 79, 3) := by decide +kernel
theorem dJ9_abs_294c1_4 : decode cJ9_abs_294c1 4 = .ok (.ldc2_w 135, 3) := by decide +kernel
theorem dJ9_abs_294c1_7 : decode cJ9_abs_294c1 7 = .ok (.land, 1) := by decide +kernel
theorem dJ9_abs_294c1_8 : decode cJ9_abs_294c1 8 = .ok (.invokestatic 166, 3) := by decide +kernel
theorem dJ9_abs_294c1_11 : decode cJ9_abs_294c1 11 = .ok (.dreturn, 1) := by decide +kernel
theorem dJ9_max_7cf53_0 : decode cJ9_max_7cf53 0 = .ok (.iload_n 0, 1) := by decide +kernel
theorem dJ9_max_7cf53_1 : decode cJ9_max_7cf53 1 = .ok (.iload_n 1, 1) := by decide +kernel
theorem dJ9_max_7cf53_2 : decode cJ9_max_7cf53 2 = .ok (.if_icmp .lt 7, 3) := by decide +kernel
theorem dJ9_max_7cf53_5 : decode cJ9_max_7cf53 5 = .ok (.iload_n 0, 1) := by decide +kernel
theorem dJ9_max_7cf53_6 : decode cJ9_max_7cf53 6 = .ok (.goto 4, 3) := by decide +kernel
theorem dJ9_max_7cf53_9 : decode cJ9_max_7cf53 9 = .ok (.iload_n 1, 1) := by decide +kernel
theorem dJ9_max_7cf53_10 : decode cJ9_max_7cf53 10 = .ok (.ireturn, 1) := by decide +kernel
theorem dJ9_min_7cf53_0 : decode cJ9_min_7cf53 0 = .ok (.iload_n 0, 1) := by decide +kernel
theorem dJ9_min_7cf53_1 : decode cJ9_min_7cf53 1 = .ok (.iload_n 1, 1) := by decide +kernel
theorem dJ9_min_7cf53_2 : decode cJ9_min_7cf53 2 = .ok (.if_icmp .gt 7, 3) := by decide +kernel
theorem dJ9_min_7cf53_5 : decode cJ9_min_7cf53 5 = .ok (.iload_n 0, 1) := by decide +kernel
theorem dJ9_min_7cf53_6 : decode cJ9_min_7cf53 6 = .ok (.goto 4, 3) := by decide +kernel
theorem dJ9_min_7cf53_9 : decode cJ9_min_7cf53 9 = .ok (.iload_n 1, 1) := by decide +kernel
theorem dJ9_min_7cf53_10 : decode cJ9_min_7cf53 10 = .ok (.ireturn, 1) := by decide +kernel
theorem dJxa1e45_init_da8c8_0 : decode cJxa1e45_init_da8c8 0 = .ok (.aload_n 0, 1) := by decide +kernel
theorem dJxa1e45_init_da8c8_1 : decode cJxa1e45_init_da8c8 1 = .ok (.invokespecial 1, 3) := by decide +kernel
theorem dJxa1e45_init_da8c8_4 : decode cJxa1e45_init_da8c8 4 = .ok (.return_, 1) := by decide +kernel
theorem dJxc12de_init_da8c8_0 : decode cJxc12de_init_da8c8 0 = .ok (.aload_n 0, 1) := by decide +kernel
theorem dJxc12de_init_da8c8_1 : decode cJxc12de_init_da8c8 1 = .ok (.invokespecial 1, 3) := by decide +kernel
theorem dJxc12de_init_da8c8_4 : decode cJxc12de_init_da8c8 4 = .ok (.aload_n 0, 1) := by decide +kernel
theorem dJxc12de_init_da8c8_5 : decode cJxc12de_init_da8c8 5 = .ok (.iconst 0, 1) := by decide +kernel
theorem dJxc12de_init_da8c8_6 : decode cJxc12de_init_da8c8 6 = .ok (.putfield 7, 3) := by decide +kernel
theorem dJxc12de_init_da8c8_9 : decode cJxc12de_init_da8c8 9 = .ok (.return_, 1) := by decide +kernel
theorem dJx4a65c_init_da8c8_0 : decode cJx4a65c_init_da8c8 0 = .ok (.aload_n 0, 1) := by decide +kernel
theorem dJx4a65c_init_da8c8_1 : decode cJx4a65c_init_da8c8 1 = .ok (.invokespecial 1, 3) := by decide +kernel
theorem dJx4a65c_init_da8c8_4 : decode cJx4a65c_init_da8c8 4 = .ok (.aload_n 0, 1) := by decide +kernel
theorem dJx4a65c_init_da8c8_5 : decode cJx4a65c_init_da8c8 5 = .ok (.getstatic 39, 3) := by decide +kernel
theorem dJx4a65c_init_da8c8_8 : decode cJx4a65c_init_da8c8 8 = .ok (.putfield 9, 3) := by decide +kernel
theorem dJx4a65c_init_da8c8_11 : decode cJx4a65c_init_da8c8 11 = .ok (.return_, 1) := by decide +kernel
theorem dJx4a65c_grow_92f84_0 : decode cJx4a65c_grow_92f84 0 = .ok (.aload_n 0, 1) := by decide +kernel
theorem dJx4a65c_grow_92f84_1 : decode cJx4a65c_grow_92f84 1 = .ok (.getfield 9, 3) := by decide +kernel
theorem dJx4a65c_grow_92f84_4 : decode cJx4a65c_grow_92f84 4 = .ok (.arraylength, 1) := by decide +kernel
theorem dJx4a65c_grow_92f84_5 : decode cJx4a65c_grow_92f84 5 = .ok (.istore_n 2, 1) := by decide +kernel
theorem dJx4a65c_grow_92f84_6 : decode cJx4a65c_grow_92f84 6 = .ok (.iload_n 2, 1) := by decide +kernel
theorem dJx4a65c_grow_92f84_7 : decode cJx4a65c_grow_92f84 7 = .ok (.ifCond .gt 13, 3) := by decide +kernel
theorem dJx4a65c_grow_92f84_10 : decode cJx4a65c_grow_92f84 10 = .ok (.aload_n 0, 1) := by decide +kernel
theorem dJx4a65c_grow_92f84_11 : decode cJx4a65c_grow_92f84 11 = .ok (.getfield 9, 3) := by decide +kernel
theorem dJx4a65c_grow_92f84_14 : decode cJx4a65c_grow_92f84 14 = .ok (.getstatic 39, 3) := by decide +kernel
theorem dJx4a65c_grow_92f84_17 : decode cJx4a65c_grow_92f84 17 = .ok (.if_acmp .eq 28, 3) := by decide +kernel
theorem dJx4a65c_grow_92f84_20 : decode cJx4a65c_grow_92f84 20 = .ok (.iload_n 2, 1) := by decide +kernel
theorem dJx4a65c_grow_92f84_21 : decode cJx4a65c_grow_92f84 21 = .ok (.iload_n 1, 1) := by decide +kernel
theorem dJx4a65c_grow_92f84_22 : decode cJx4a65c_grow_92f84 22 = .ok (.iload_n 2, 1) := by decide +kernel
theorem dJx4a65c_grow_92f84_23 : decode cJx4a65c_grow_92f84 23 = .ok (.isub, 1) := by decide +kernel
theorem dJx4a65c_grow_92f84_24 : decode cJx4a65c_grow_92f84 24 = .ok (.iload_n 2, 1) := by decide +kernel
theorem dJx4a65c_grow_92f84_25 : decode cJx4a65c_grow_92f84 25 = .ok (.iconst 1, 1) := by decide +kernel
theorem dJx4a65c_grow_92f84_26 : decode cJx4a65c_grow_92f84 26 = .ok (.ishr, 1) := by decide +kernel
theorem dJx4a65c_grow_92f84_27 : decode cJx4a65c_grow_92f84 27 = .ok (.invokestatic 73, 3) := by decide +kernel
theorem dJx4a65c_grow_92f84_30 : decode cJx4a65c_grow_92f84 30 = .ok (.istore_n 3, 1) := by decide +kernel
theorem dJx4a65c_grow_92f84_31 : decode cJx4a65c_grow_92f84 31 = .ok (.aload_n 0, 1) := by decide +kernel
theorem dJx4a65c_grow_92f84_32 : decode cJx4a65c_grow_92f84 32 = .ok (.aload_n 0, 1) := by decide +kernel
theorem dJx4a65c_grow_92f84_33 : decode cJx4a65c_grow_92f84 33 = .ok (.getfield 9, 3) := by decide +kernel
theorem dJx4a65c_grow_92f84_36 : decode cJx4a65c_grow_92f84 36 = .ok (.iload_n 3, 1) := by decide +kernel
theorem dJx4a65c_grow_92f84_37 : decode cJx4a65c_grow_92f84 37 = .ok (.invokestatic 66, 3) := by decide +kernel
theorem dJx4a65c_grow_92f84_40 : decode cJx4a65c_grow_92f84 40 = .ok (.dup_x1, 1) := by decide +kernel
theorem dJx4a65c_grow_92f84_41 : decode cJx4a65c_grow_92f84 41 = .ok (.putfield 9, 3) := by decide +kernel
theorem dJx4a65c_grow_92f84_44 : decode cJx4a65c_grow_92f84 44 = .ok (.areturn, 1) := by decide +kernel
theorem dJx4a65c_grow_92f84_45 : decode cJx4a65c_grow_92f84 45 = .ok (.aload_n 0, 1) := by decide +kernel
theorem dJx4a65c_grow_92f84_46 : decode cJx4a65c_grow_92f84 46 = .ok (.bipush 10, 2) := by decide +kernel
theorem dJx4a65c_grow_92f84_48 : decode cJx4a65c_grow_92f84 48 = .ok (.iload_n 1, 1) := by decide +kernel
theorem dJx4a65c_grow_92f84_49 : decode cJx4a65c_grow_92f84 49 = .ok (.invokestatic 79, 3) := by decide +kernel
theorem dJx4a65c_grow_92f84_52 : decode cJx4a65c_grow_92f84 52 = .ok (.anewarray 7, 3) := by decide +kernel
theorem dJx4a65c_grow_92f84_55 : decode cJx4a65c_grow_92f84 55 = .ok (.dup_x1, 1) := by decide +kernel
theorem dJx4a65c_grow_92f84_56 : decode cJx4a65c_grow_92f84 56 = .ok (.putfield 9, 3) := by decide +kernel
theorem dJx4a65c_grow_92f84_59 : decode cJx4a65c_grow_92f84 59 = .ok (.areturn, 1) := by decide +kernel
theorem dJx4a65c_grow_d5877_0 : decode cJx4a65c_grow_d5877 0 = .ok (.aload_n 0, 1) := by decide +kernel
theorem dJx4a65c_grow_d5877_1 : decode cJx4a65c_grow_d5877 1 = .ok (.aload_n 0, 1) := by decide +kernel
theorem dJx4a65c_grow_d5877_2 : decode cJx4a65c_grow_d5877 2 = .ok (.getfield 48, 3) := by decide +kernel
theorem dJx4a65c_grow_d5877_5 : decode cJx4a65c_grow_d5877 5 = .ok (.iconst 1, 1) := by decide +kernel
theorem dJx4a65c_grow_d5877_6 : decode cJx4a65c_grow_d5877 6 = .ok (.iadd, 1) := by decide +kernel
theorem dJx4a65c_grow_d5877_7 : decode cJx4a65c_grow_d5877 7 = .ok (.invokevirtual 69, 3) := by decide +kernel
theorem dJx4a65c_grow_d5877_10 : decode cJx4a65c_grow_d5877 10 = .ok (.areturn, 1) := by decide +kernel
theorem dJx4a65c_size_8abf5_0 : decode cJx4a65c_size_8abf5 0 = .ok (.aload_n 0, 1) := by decide +kernel
theorem dJx4a65c_size_8abf5_1 : decode cJx4a65c_size_8abf5 1 = .ok (.getfield 48, 3) := by decide +kernel
theorem dJx4a65c_size_8abf5_4 : decode cJx4a65c_size_8abf5 4 = .ok (.ireturn, 1) := by decide +kernel
theorem dJx4a65c_elementData_915e3_0 : decode cJx4a65c_elementData_915e3 0 = .ok (.aload_n 0, 1) := by decide +kernel
theorem dJx4a65c_elementData_915e3_1 : decode cJx4a65c_elementData_915e3 1 = .ok (.getfield 9, 3) := by decide +kernel
theorem dJx4a65c_elementData_915e3_4 : decode cJx4a65c_elementData_915e3 4 = .ok (.iload_n 1, 1) := by decide +kernel
theorem dJx4a65c_elementData_915e3_5 : decode cJx4a65c_elementData_915e3 5 = .ok (.aaload, 1) := by decide +kernel
theorem dJx4a65c_elementData_915e3_6 : decode cJx4a65c_elementData_915e3 6 = .ok (.areturn, 1) := by decide +kernel
theorem dJx4a65c_get_915e3_0 : decode cJx4a65c_get_915e3 0 = .ok (.iload_n 1, 1) := by decide +kernel
theorem dJx4a65c_get_915e3_1 : decode cJx4a65c_get_915e3 1 = .ok (.aload_n 0, 1) := by decide +kernel
theorem dJx4a65c_get_915e3_2 : decode cJx4a65c_get_915e3 2 = .ok (.getfield 48, 3) := by decide +kernel
theorem dJx4a65c_get_915e3_5 : decode cJx4a65c_get_915e3 5 = .ok (.invokestatic 118, 3) := by decide +kernel
theorem dJx4a65c_get_915e3_8 : decode cJx4a65c_get_915e3 8 = .ok (.pop, 1) := by decide +kernel
theorem dJx4a65c_get_915e3_9 : decode cJx4a65c_get_915e3 9 = .ok (.aload_n 0, 1) := by decide +kernel
theorem dJx4a65c_get_915e3_10 : decode cJx4a65c_get_915e3 10 = .ok (.iload_n 1, 1) := by decide +kernel
theorem dJx4a65c_get_915e3_11 : decode cJx4a65c_get_915e3 11 = .ok (.invokevirtual 123, 3) := by decide +kernel
theorem dJx4a65c_get_915e3_14 : decode cJx4a65c_get_915e3 14 = .ok (.areturn, 1) := by decide +kernel
theorem dJx4a65c_set_bcc79_0 : decode cJx4a65c_set_bcc79 0 = .ok (.iload_n 1, 1) := by decide +kernel
theorem dJx4a65c_set_bcc79_1 : decode cJx4a65c_set_bcc79 1 = .ok (.aload_n 0, 1) := by decide +kernel
theorem dJx4a65c_set_bcc79_2 : decode cJx4a65c_set_bcc79 2 = .ok (.getfield 48, 3) := by decide +kernel
theorem dJx4a65c_set_bcc79_5 : decode cJx4a65c_set_bcc79 5 = .ok (.invokestatic 118, 3) := by decide +kernel
theorem dJx4a65c_set_bcc79_8 : decode cJx4a65c_set_bcc79 8 = .ok (.pop, 1) := by decide +kernel
theorem dJx4a65c_set_bcc79_9 : decode cJx4a65c_set_bcc79 9 = .ok (.aload_n 0, 1) := by decide +kernel
theorem dJx4a65c_set_bcc79_10 : decode cJx4a65c_set_bcc79 10 = .ok (.iload_n 1, 1) := by decide +kernel
theorem dJx4a65c_set_bcc79_11 : decode cJx4a65c_set_bcc79 11 = .ok (.invokevirtual 123, 3) := by decide +kernel
theorem dJx4a65c_set_bcc79_14 : decode cJx4a65c_set_bcc79 14 = .ok (.astore_n 3, 1) := by decide +kernel
theorem dJx4a65c_set_bcc79_15 : decode cJx4a65c_set_bcc79 15 = .ok (.aload_n 0, 1) := by decide +kernel
theorem dJx4a65c_set_bcc79_16 : decode cJx4a65c_set_bcc79 16 = .ok (.getfield 9, 3) := by decide +kernel
theorem dJx4a65c_set_bcc79_19 : decode cJx4a65c_set_bcc79 19 = .ok (.iload_n 1, 1) := by decide +kernel
theorem dJx4a65c_set_bcc79_20 : decode cJx4a65c_set_bcc79 20 = .ok (.aload_n 2, 1) := by decide +kernel
theorem dJx4a65c_set_bcc79_21 : decode cJx4a65c_set_bcc79 21 = .ok (.aastore, 1) := by decide +kernel
theorem dJx4a65c_set_bcc79_22 : decode cJx4a65c_set_bcc79 22 = .ok (.aload_n 3, 1) := by decide +kernel
theorem dJx4a65c_set_bcc79_23 : decode cJx4a65c_set_bcc79 23 = .ok (.areturn, 1) := by decide +kernel
theorem dJx4a65c_add_72be8_0 : decode cJx4a65c_add_72be8 0 = .ok (.iload_n 3, 1) := by decide +kernel
theorem dJx4a65c_add_72be8_1 : decode cJx4a65c_add_72be8 1 = .ok (.aload_n 2, 1) := by decide +kernel
theorem dJx4a65c_add_72be8_2 : decode cJx4a65c_add_72be8 2 = .ok (.arraylength, 1) := by decide +kernel
theorem dJx4a65c_add_72be8_3 : decode cJx4a65c_add_72be8 3 = .ok (.if_icmp .ne 8, 3) := by decide +kernel
theorem dJx4a65c_add_72be8_6 : decode cJx4a65c_add_72be8 6 = .ok (.aload_n 0, 1) := by decide +kernel
theorem dJx4a65c_add_72be8_7 : decode cJx4a65c_add_72be8 7 = .ok (.invokevirtual 129, 3) := by decide +kernel
theorem dJx4a65c_add_72be8_10 : decode cJx4a65c_add_72be8 10 = .ok (.astore_n 2, 1) := by decide +kernel
theorem dJx4a65c_add_72be8_11 : decode cJx4a65c_add_72be8 11 = .ok (.aload_n 2, 1) := by decide +kernel
theorem dJx4a65c_add_72be8_12 : decode cJx4a65c_add_72be8 12 = .ok (.iload_n 3, 1) := by decide +kernel
theorem dJx4a65c_add_72be8_13 : decode cJx4a65c_add_72be8 13 = .ok (.aload_n 1, 1) := by decide +kernel
theorem dJx4a65c_add_72be8_14 : decode cJx4a65c_add_72be8 14 = .ok (.aastore, 1) := by decide +kernel
theorem dJx4a65c_add_72be8_15 : decode cJx4a65c_add_72be8 15 = .ok (.aload_n 0, 1) := by decide +kernel
theorem dJx4a65c_add_72be8_16 : decode cJx4a65c_add_72be8 16 = .ok (.iload_n 3, 1) := by decide +kernel
theorem dJx4a65c_add_72be8_17 : decode cJx4a65c_add_72be8 17 = .ok (.iconst 1, 1) := by decide +kernel
theorem dJx4a65c_add_72be8_18 : decode cJx4a65c_add_72be8 18 = .ok (.iadd, 1) := by decide +kernel
theorem dJx4a65c_add_72be8_19 : decode cJx4a65c_add_72be8 19 = .ok (.putfield 48, 3) := by decide +kernel
theorem dJx4a65c_add_72be8_22 : decode cJx4a65c_add_72be8 22 = .ok (.return_, 1) := by decide +kernel
theorem dJx4a65c_add_9ea2d_0 : decode cJx4a65c_add_9ea2d 0 = .ok (.aload_n 0, 1) := by decide +kernel
theorem dJx4a65c_add_9ea2d_1 : decode cJx4a65c_add_9ea2d 1 = .ok (.dup, 1) := by decide +kernel
theorem dJx4a65c_add_9ea2d_2 : decode cJx4a65c_add_9ea2d 2 = .ok (.getfield 63, 3) := by decide +kernel
theorem dJx4a65c_add_9ea2d_5 : decode cJx4a65c_add_9ea2d 5 = .ok (.iconst 1, 1) := by decide +kernel
theorem dJx4a65c_add_9ea2d_6 : decode cJx4a65c_add_9ea2d 6 = .ok (.iadd, 1) := by decide +kernel
theorem dJx4a65c_add_9ea2d_7 : decode cJx4a65c_add_9ea2d 7 = .ok (.putfield 63, 3) := by decide +kernel
theorem dJx4a65c_add_9ea2d_10 : decode cJx4a65c_add_9ea2d 10 = .ok (.aload_n 0, 1) := by decide +kernel
theorem dJx4a65c_add_9ea2d_11 : decode cJx4a65c_add_9ea2d 11 = .ok (.aload_n 1, 1) := by decide +kernel
theorem dJx4a65c_add_9ea2d_12 : decode cJx4a65c_add_9ea2d 12 = .ok (.aload_n 0, 1) := by decide +kernel
theorem dJx4a65c_add_9ea2d_13 : decode cJx4a65c_add_9ea2d 13 = .ok (.getfield 9, 3) := by decide +kernel
theorem dJx4a65c_add_9ea2d_16 : decode cJx4a65c_add_9ea2d 16 = .ok (.aload_n 0, 1) := by decide +kernel
theorem dJx4a65c_add_9ea2d_17 : decode cJx4a65c_add_9ea2d 17 = .ok (.getfield 48, 3) := by decide +kernel
theorem dJx4a65c_add_9ea2d_20 : decode cJx4a65c_add_9ea2d 20 = .ok (.invokevirtual 131, 3) := by decide +kernel
theorem dJx4a65c_add_9ea2d_23 : decode cJx4a65c_add_9ea2d 23 = .ok (.iconst 1, 1) := by decide +kernel
theorem dJx4a65c_add_9ea2d_24 : decode cJx4a65c_add_9ea2d 24 = .ok (.ireturn, 1) := by decide +kernel
theorem dJ7_copyOf_1904c_0 : decode cJ7_copyOf_1904c 0 = .ok (.aload_n 0, 1) := by decide +kernel
theorem dJ7_copyOf_1904c_1 : decode cJ7_copyOf_1904c 1 = .ok (.iload_n 1, 1) := by decide +kernel
theorem dJ7_copyOf_1904c_2 : decode cJ7_copyOf_1904c 2 = .ok (.aload_n 0, 1) := by decide +kernel
theorem dJ7_copyOf_1904c_3 : decode cJ7_copyOf_1904c 3 = .ok (.invokevirtual 86, 3) := by decide +kernel
theorem dJ7_copyOf_1904c_6 : decode cJ7_copyOf_1904c 6 = .ok (.invokestatic 300, 3) := by decide +kernel
theorem dJ7_copyOf_1904c_9 : decode cJ7_copyOf_1904c 9 = .ok (.areturn, 1) := by decide +kernel
theorem dJ7_copyOf_6403c_0 : decode cJ7_copyOf_6403c 0 = .ok (.aload_n 2, 1) := by decide +kernel
theorem dJ7_copyOf_6403c_1 : decode cJ7_copyOf_6403c 1 = .ok (.ldc 110, 2) := by decide +kernel
theorem dJ7_copyOf_6403c_3 : decode cJ7_copyOf_6403c 3 = .ok (.if_acmp .ne 10, 3) := by decide +kernel
theorem dJ7_copyOf_6403c_6 : decode cJ7_copyOf_6403c 6 = .ok (.iload_n 1, 1) := by decide +kernel
theorem dJ7_copyOf_6403c_7 : decode cJ7_copyOf_6403c 7 = .ok (.anewarray 2, 3) := by decide +kernel
theorem dJ7_copyOf_6403c_10 : decode cJ7_copyOf_6403c 10 = .ok (.goto 14, 3) := by decide +kernel
theorem dJ7_copyOf_6403c_13 : decode cJ7_copyOf_6403c 13 = .ok (.aload_n 2, 1) := by decide +kernel
theorem dJ7_copyOf_6403c_14 : decode cJ7_copyOf_6403c 14 = .ok (.invokevirtual 90, 3) := by decide +kernel
theorem dJ7_copyOf_6403c_17 : decode cJ7_copyOf_6403c 17 = .ok (.iload_n 1, 1) := by decide +kernel
theorem dJ7_copyOf_6403c_18 : decode cJ7_copyOf_6403c 18 = .ok (.invokestatic 95, 3) := by decide +kernel
theorem dJ7_copyOf_6403c_21 : decode cJ7_copyOf_6403c 21 = .ok (.checkcast 110, 3) := by decide +kernel
theorem dJ7_copyOf_6403c_24 : decode cJ7_copyOf_6403c 24 = .ok (.astore_n 3, 1) := by decide +kernel
theorem dJ7_copyOf_6403c_25 : decode cJ7_copyOf_6403c 25 = .ok (.aload_n 0, 1) := by decide +kernel
theorem dJ7_copyOf_6403c_26 : decode cJ7_copyOf_6403c 26 = .ok (.iconst 0, 1) := by decide +kernel
theorem dJ7_copyOf_6403c_27 : decode cJ7_copyOf_6403c 27 = .ok (.aload_n 3, 1) := by decide +kernel
theorem dJ7_copyOf_6403c_28 : decode cJ7_copyOf_6403c 28 = .ok (.iconst 0, 1) := by decide +kernel
theorem dJ7_copyOf_6403c_29 : decode cJ7_copyOf_6403c 29 = .ok (.aload_n 0, 1) := by decide +kernel
theorem dJ7_copyOf_6403c_30 : decode cJ7_copyOf_6403c 30 = .ok (.arraylength, 1) := by decide +kernel
theorem dJ7_copyOf_6403c_31 : decode cJ7_copyOf_6403c 31 = .ok (.iload_n 1, 1) := by decide +kernel
theorem dJ7_copyOf_6403c_32 : decode cJ7_copyOf_6403c 32 = .ok (.invokestatic 304, 3) := by decide +kernel
theorem dJ7_copyOf_6403c_35 : decode cJ7_copyOf_6403c 35 = .ok (.invokestatic 150, 3) := by decide +kernel
theorem dJ7_copyOf_6403c_38 : decode cJ7_copyOf_6403c 38 = .ok (.aload_n 3, 1) := by decide +kernel
theorem dJ7_copyOf_6403c_39 : decode cJ7_copyOf_6403c 39 = .ok (.areturn, 1) := by decide +kernel
theorem dJ15_checkIndex_7cf53_0 : decode cJ15_checkIndex_7cf53 0 = .ok (.iload_n 0, 1) := by decide +kernel
theorem dJ15_checkIndex_7cf53_1 : decode cJ15_checkIndex_7cf53 1 = .ok (.iload_n 1, 1) := by decide +kernel
theorem dJ15_checkIndex_7cf53_2 : decode cJ15_checkIndex_7cf53 2 = .ok (.aconst_null, 1) := by decide +kernel
theorem dJ15_checkIndex_7cf53_3 : decode cJ15_checkIndex_7cf53 3 = .ok (.invokestatic 105, 3) := by decide +kernel
theorem dJ15_checkIndex_7cf53_6 : decode cJ15_checkIndex_7cf53 6 = .ok (.ireturn, 1) := by decide +kernel
theorem dJ8_newLength_cabcc_0 : decode cJ8_newLength_cabcc 0 = .ok (.iload_n 0, 1) := by decide +kernel
theorem dJ8_newLength_cabcc_1 : decode cJ8_newLength_cabcc 1 = .ok (.iload_n 1, 1) := by decide +kernel
theorem dJ8_newLength_cabcc_2 : decode cJ8_newLength_cabcc 2 = .ok (.iload_n 2, 1) := by decide +kernel
theorem dJ8_newLength_cabcc_3 : decode cJ8_newLength_cabcc 3 = .ok (.invokestatic 194, 3) := by decide +kernel
theorem dJ8_newLength_cabcc_6 : decode cJ8_newLength_cabcc 6 = .ok (.iadd, 1) := by decide +kernel
theorem dJ8_newLength_cabcc_7 : decode cJ8_newLength_cabcc 7 = .ok (.istore_n 3, 1) := by decide +kernel
theorem dJ8_newLength_cabcc_8 : decode cJ8_newLength_cabcc 8 = .ok (.iconst 0, 1) := by decide +kernel
theorem dJ8_newLength_cabcc_9 : decode cJ8_newLength_cabcc 9 = .ok (.iload_n 3, 1) := by decide +kernel
theorem dJ8_newLength_cabcc_10 : decode cJ8_newLength_cabcc 10 = .ok (.if_icmp .ge 11, 3) := by decide +kernel
theorem dJ8_newLength_cabcc_13 : decode cJ8_newLength_cabcc 13 = .ok (.iload_n 3, 1) := by decide +kernel
theorem dJ8_newLength_cabcc_14 : decode cJ8_newLength_cabcc 14 = .ok (.ldc 200, 2) := by decide +kernel
theorem dJ8_newLength_cabcc_16 : decode cJ8_newLength_cabcc 16 = .ok (.if_icmp .gt 5, 3) := by decide +kernel
theorem dJ8_newLength_cabcc_19 : decode cJ8_newLength_cabcc 19 = .ok (.iload_n 3, 1) := by decide +kernel
theorem dJ8_newLength_cabcc_20 : decode cJ8_newLength_cabcc 20 = .ok (.ireturn, 1) := by decide +kernel
theorem dJ8_newLength_cabcc_21 : decode cJ8_newLength_cabcc 21 = .ok (.iload_n 0, 1) := by decide +kernel
theorem dJ8_newLength_cabcc_22 : decode cJ8_newLength_cabcc 22 = .ok (.iload_n 1, 1) := by decide +kernel
theorem dJ8_newLength_cabcc_23 : decode cJ8_newLength_cabcc 23 = .ok (.invokestatic 201, 3) := by decide +kernel
theorem dJ8_newLength_cabcc_26 : decode cJ8_newLength_cabcc 26 = .ok (.ireturn, 1) := by decide +kernel
theorem dJ8_hugeLength_7cf53_0 : decode cJ8_hugeLength_7cf53 0 = .ok (.iload_n 0, 1) := by decide +kernel
theorem dJ8_hugeLength_7cf53_1 : decode cJ8_hugeLength_7cf53 1 = .ok (.iload_n 1, 1) := by decide +kernel
theorem dJ8_hugeLength_7cf53_2 : decode cJ8_hugeLength_7cf53 2 = .ok (.iadd, 1) := by decide +kernel
theorem dJ8_hugeLength_7cf53_3 : decode cJ8_hugeLength_7cf53 3 = .ok (.istore_n 2, 1) := by decide +kernel
theorem dJ8_hugeLength_7cf53_4 : decode cJ8_hugeLength_7cf53 4 = .ok (.iload_n 2, 1) := by decide +kernel
theorem dJ8_hugeLength_7cf53_5 : decode cJ8_hugeLength_7cf53 5 = .ok (.ifCond .ge 44, 3) := by decide +kernel
theorem dJ8_hugeLength_7cf53_8 : decode cJ8_hugeLength_7cf53 8 = .ok (.new 204, 3) := by decide +kernel
theorem dJ8_hugeLength_7cf53_11 : decode cJ8_hugeLength_7cf53 11 = .ok (.dup, 1) := by decide +kernel
theorem dJ8_hugeLength_7cf53_12 : decode cJ8_hugeLength_7cf53 12 = .ok (.new 89, 3) := by decide +kernel
theorem dJ8_hugeLength_7cf53_15 : decode cJ8_hugeLength_7cf53 15 = .ok (.dup, 1) := by decide +kernel
theorem dJ8_hugeLength_7cf53_16 : decode cJ8_hugeLength_7cf53 16 = .ok (.invokespecial 91, 3) := by decide +kernel
theorem dJ8_hugeLength_7cf53_19 : decode cJ8_hugeLength_7cf53 19 = .ok (.ldc 206, 2) := by decide +kernel
theorem dJ8_hugeLength_7cf53_21 : decode cJ8_hugeLength_7cf53 21 = .ok (.invokevirtual 94, 3) := by decide +kernel
theorem dJ8_hugeLength_7cf53_24 : decode cJ8_hugeLength_7cf53 24 = .ok (.iload_n 0, 1) := by decide +kernel
theorem dJ8_hugeLength_7cf53_25 : decode cJ8_hugeLength_7cf53 25 = .ok (.invokevirtual 98, 3) := by decide +kernel
theorem dJ8_hugeLength_7cf53_28 : decode cJ8_hugeLength_7cf53 28 = .ok (.ldc 208, 2) := by decide +kernel
theorem dJ8_hugeLength_7cf53_30 : decode cJ8_hugeLength_7cf53 30 = .ok (.invokevirtual 94, 3) := by decide +kernel
theorem dJ8_hugeLength_7cf53_33 : decode cJ8_hugeLength_7cf53 33 = .ok (.iload_n 1, 1) := by decide +kernel
theorem dJ8_hugeLength_7cf53_34 : decode cJ8_hugeLength_7cf53 34 = .ok (.invokevirtual 98, 3) := by decide +kernel
theorem dJ8_hugeLength_7cf53_37 : decode cJ8_hugeLength_7cf53 37 = .ok (.ldc 210, 2) := by decide +kernel
theorem dJ8_hugeLength_7cf53_39 : decode cJ8_hugeLength_7cf53 39 = .ok (.invokevirtual 94, 3) := by decide +kernel
theorem dJ8_hugeLength_7cf53_42 : decode cJ8_hugeLength_7cf53 42 = .ok (.invokevirtual 101, 3) := by decide +kernel
theorem dJ8_hugeLength_7cf53_45 : decode cJ8_hugeLength_7cf53 45 = .ok (.invokespecial 212, 3) := by decide +kernel
theorem dJ8_hugeLength_7cf53_48 : decode cJ8_hugeLength_7cf53 48 = .ok (.athrow, 1) := by decide +kernel
theorem dJ8_hugeLength_7cf53_49 : decode cJ8_hugeLength_7cf53 49 = .ok (.iload_n 2, 1) := by decide +kernel
theorem dJ8_hugeLength_7cf53_50 : decode cJ8_hugeLength_7cf53 50 = .ok (.ldc 200, 2) := by decide +kernel
theorem dJ8_hugeLength_7cf53_52 : decode cJ8_hugeLength_7cf53 52 = .ok (.if_icmp .gt 6, 3) := by decide +kernel
theorem dJ8_hugeLength_7cf53_55 : decode cJ8_hugeLength_7cf53 55 = .ok (.ldc 200, 2) := by decide +kernel
theorem dJ8_hugeLength_7cf53_57 : decode cJ8_hugeLength_7cf53 57 = .ok (.ireturn, 1) := by decide +kernel
theorem dJ8_hugeLength_7cf53_58 : decode cJ8_hugeLength_7cf53 58 = .ok (.iload_n 2, 1) := by decide +kernel
theorem dJ8_hugeLength_7cf53_59 : decode cJ8_hugeLength_7cf53 59 = .ok (.ireturn, 1) := by decide +kernel
theorem dJ3_checkIndex_8e157_0 : decode cJ3_checkIndex_8e157 0 = .ok (.iload_n 0, 1) := by decide +kernel
theorem dJ3_checkIndex_8e157_1 : decode cJ3_checkIndex_8e157 1 = .ok (.ifCond .lt 8, 3) := by decide +kernel
theorem dJ3_checkIndex_8e157_4 : decode cJ3_checkIndex_8e157 4 = .ok (.iload_n 0, 1) := by decide +kernel
theorem dJ3_checkIndex_8e157_5 : decode cJ3_checkIndex_8e157 5 = .ok (.iload_n 1, 1) := by decide +kernel
theorem dJ3_checkIndex_8e157_6 : decode cJ3_checkIndex_8e157 6 = .ok (.if_icmp .lt 10, 3) := by decide +kernel
theorem dJ3_checkIndex_8e157_9 : decode cJ3_checkIndex_8e157 9 = .ok (.aload_n 2, 1) := by decide +kernel
theorem dJ3_checkIndex_8e157_10 : decode cJ3_checkIndex_8e157 10 = .ok (.iload_n 0, 1) := by decide +kernel
theorem dJ3_checkIndex_8e157_11 : decode cJ3_checkIndex_8e157 11 = .ok (.iload_n 1, 1) := by decide +kernel
theorem dJ3_checkIndex_8e157_12 : decode cJ3_checkIndex_8e157 12 = .ok (.invokestatic 95, 3) := by decide +kernel
theorem dJ3_checkIndex_8e157_15 : decode cJ3_checkIndex_8e157 15 = .ok (.athrow, 1) := by decide +kernel
theorem dJ3_checkIndex_8e157_16 : decode cJ3_checkIndex_8e157 16 = .ok (.iload_n 0, 1) := by decide +kernel
theorem dJ3_checkIndex_8e157_17 : decode cJ3_checkIndex_8e157 17 = .ok (.ireturn, 1) := by decide +kernel
theorem dL_below_0 : decode cL_below 0 = .ok (.iload_n 0, 1) := by decide +kernel
theorem dL_below_1 : decode cL_below 1 = .ok (.ldc 7, 2) := by decide +kernel
theorem dL_below_3 : decode cL_below 3 = .ok (.iand, 1) := by decide +kernel
theorem dL_below_4 : decode cL_below 4 = .ok (.iload_n 1, 1) := by decide +kernel
theorem dL_below_5 : decode cL_below 5 = .ok (.irem, 1) := by decide +kernel
theorem dL_below_6 : decode cL_below 6 = .ok (.ireturn, 1) := by decide +kernel
theorem dL_cell_0 : decode cL_cell 0 = .ok (.iload_n 1, 1) := by decide +kernel
theorem dL_cell_1 : decode cL_cell 1 = .ok (.aload_n 0, 1) := by decide +kernel
theorem dL_cell_2 : decode cL_cell 2 = .ok (.arraylength, 1) := by decide +kernel
theorem dL_cell_3 : decode cL_cell 3 = .ok (.if_icmp .ge 9, 3) := by decide +kernel
theorem dL_cell_6 : decode cL_cell 6 = .ok (.aload_n 0, 1) := by decide +kernel
theorem dL_cell_7 : decode cL_cell 7 = .ok (.iload_n 1, 1) := by decide +kernel
theorem dL_cell_8 : decode cL_cell 8 = .ok (.iaload, 1) := by decide +kernel
theorem dL_cell_9 : decode cL_cell 9 = .ok (.goto 9, 3) := by decide +kernel
theorem dL_cell_12 : decode cL_cell 12 = .ok (.ldc 8, 2) := by decide +kernel
theorem dL_cell_14 : decode cL_cell 14 = .ok (.iload_n 1, 1) := by decide +kernel
theorem dL_cell_15 : decode cL_cell 15 = .ok (.iconst 3, 1) := by decide +kernel
theorem dL_cell_16 : decode cL_cell 16 = .ok (.iadd, 1) := by decide +kernel
theorem dL_cell_17 : decode cL_cell 17 = .ok (.imul, 1) := by decide +kernel
theorem dL_cell_18 : decode cL_cell 18 = .ok (.ireturn, 1) := by decide +kernel
theorem dL_night_0 : decode cL_night 0 = .ok (.new 9, 3) := by decide +kernel
theorem dL_night_3 : decode cL_night 3 = .ok (.dup, 1) := by decide +kernel
theorem dL_night_4 : decode cL_night 4 = .ok (.invokespecial 11, 3) := by decide +kernel
theorem dL_night_7 : decode cL_night 7 = .ok (.astore_n 1, 1) := by decide +kernel
theorem dL_night_8 : decode cL_night 8 = .ok (.iconst 2, 1) := by decide +kernel
theorem dL_night_9 : decode cL_night 9 = .ok (.aload_n 0, 1) := by decide +kernel
theorem dL_night_10 : decode cL_night 10 = .ok (.iconst 0, 1) := by decide +kernel
theorem dL_night_11 : decode cL_night 11 = .ok (.invokestatic 12, 3) := by decide +kernel
theorem dL_night_14 : decode cL_night 14 = .ok (.iconst 5, 1) := by decide +kernel
theorem dL_night_15 : decode cL_night 15 = .ok (.invokestatic 18, 3) := by decide +kernel
theorem dL_night_18 : decode cL_night 18 = .ok (.iadd, 1) := by decide +kernel
theorem dL_night_19 : decode cL_night 19 = .ok (.istore_n 2, 1) := by decide +kernel
theorem dL_night_20 : decode cL_night 20 = .ok (.iconst 0, 1) := by decide +kernel
theorem dL_night_21 : decode cL_night 21 = .ok (.istore_n 3, 1) := by decide +kernel
theorem dL_night_22 : decode cL_night 22 = .ok (.iload_n 3, 1) := by decide +kernel
theorem dL_night_23 : decode cL_night 23 = .ok (.iload_n 2, 1) := by decide +kernel
theorem dL_night_24 : decode cL_night 24 = .ok (.if_icmp .ge 91, 3) := by decide +kernel
theorem dL_night_27 : decode cL_night 27 = .ok (.aload_n 0, 1) := by decide +kernel
theorem dL_night_28 : decode cL_night 28 = .ok (.iconst 1, 1) := by decide +kernel
theorem dL_night_29 : decode cL_night 29 = .ok (.iload_n 3, 1) := by decide +kernel
theorem dL_night_30 : decode cL_night 30 = .ok (.iadd, 1) := by decide +kernel
theorem dL_night_31 : decode cL_night 31 = .ok (.invokestatic 12, 3) := by decide +kernel
theorem dL_night_34 : decode cL_night 34 = .ok (.istore 4, 2) := by decide +kernel
theorem dL_night_36 : decode cL_night 36 = .ok (.iload 4, 2) := by decide +kernel
theorem dL_night_38 : decode cL_night 38 = .ok (.iconst 3, 1) := by decide +kernel
theorem dL_night_39 : decode cL_night 39 = .ok (.ishr, 1) := by decide +kernel
theorem dL_night_40 : decode cL_night 40 = .ok (.bipush 40, 2) := by decide +kernel
theorem dL_night_42 : decode cL_night 42 = .ok (.invokestatic 18, 3) := by decide +kernel
theorem dL_night_45 : decode cL_night 45 = .ok (.istore 5, 2) := by decide +kernel
theorem dL_night_47 : decode cL_night 47 = .ok (.aload_n 1, 1) := by decide +kernel
theorem dL_night_48 : decode cL_night 48 = .ok (.iload 4, 2) := by decide +kernel
theorem dL_night_50 : decode cL_night 50 = .ok (.iconst 2, 1) := by decide +kernel
theorem dL_night_51 : decode cL_night 51 = .ok (.invokestatic 18, 3) := by decide +kernel
theorem dL_night_54 : decode cL_night 54 = .ok (.iload 4, 2) := by decide +kernel
theorem dL_night_56 : decode cL_night 56 = .ok (.iconst 4, 1) := by decide +kernel
theorem dL_night_57 : decode cL_night 57 = .ok (.ishr, 1) := by decide +kernel
theorem dL_night_58 : decode cL_night 58 = .ok (.iconst 4, 1) := by decide +kernel
theorem dL_night_59 : decode cL_night 59 = .ok (.invokestatic 18, 3) := by decide +kernel
theorem dL_night_62 : decode cL_night 62 = .ok (.iload 4, 2) := by decide +kernel
theorem dL_night_64 : decode cL_night 64 = .ok (.iconst 5, 1) := by decide +kernel
theorem dL_night_65 : decode cL_night 65 = .ok (.ishr, 1) := by decide +kernel
theorem dL_night_66 : decode cL_night 66 = .ok (.bipush 10, 2) := by decide +kernel
theorem dL_night_68 : decode cL_night 68 = .ok (.invokestatic 18, 3) := by decide +kernel
theorem dL_night_71 : decode cL_night 71 = .ok (.iload 5, 2) := by decide +kernel
theorem dL_night_73 : decode cL_night 73 = .ok (.iload 5, 2) := by decide +kernel
theorem dL_night_75 : decode cL_night 75 = .ok (.iconst 1, 1) := by decide +kernel
theorem dL_night_76 : decode cL_night 76 = .ok (.iadd, 1) := by decide +kernel
theorem dL_night_77 : decode cL_night 77 = .ok (.iload 4, 2) := by decide +kernel
theorem dL_night_79 : decode cL_night 79 = .ok (.bipush 6, 2) := by decide +kernel
theorem dL_night_81 : decode cL_night 81 = .ok (.ishr, 1) := by decide +kernel
theorem dL_night_82 : decode cL_night 82 = .ok (.bipush 60, 2) := by decide +kernel
theorem dL_night_84 : decode cL_night 84 = .ok (.invokestatic 18, 3) := by decide +kernel
theorem dL_night_87 : decode cL_night 87 = .ok (.iadd, 1) := by decide +kernel
theorem dL_night_88 : decode cL_night 88 = .ok (.iload 4, 2) := by decide +kernel
theorem dL_night_90 : decode cL_night 90 = .ok (.bipush 7, 2) := by decide +kernel
theorem dL_night_92 : decode cL_night 92 = .ok (.ishr, 1) := by decide +kernel
theorem dL_night_93 : decode cL_night 93 = .ok (.iconst 2, 1) := by decide +kernel
theorem dL_night_94 : decode cL_night 94 = .ok (.invokestatic 18, 3) := by decide +kernel
theorem dL_night_97 : decode cL_night 97 = .ok (.ifCond .ne 7, 3) := by decide +kernel
theorem dL_night_100 : decode cL_night 100 = .ok (.iconst 1, 1) := by decide +kernel
theorem dL_night_101 : decode cL_night 101 = .ok (.goto 4, 3) := by decide +kernel
theorem dL_night_104 : decode cL_night 104 = .ok (.iconst 0, 1) := by decide +kernel
theorem dL_night_105 : decode cL_night 105 = .ok (.invokevirtual 22, 3) := by decide +kernel
theorem dL_night_108 : decode cL_night 108 = .ok (.pop, 1) := by decide +kernel
theorem dL_night_109 : decode cL_night 109 = .ok (.iinc 3 1, 3) := by decide +kernel
theorem dL_night_112 : decode cL_night 112 = .ok (.goto (-90), 3) := by decide +kernel
theorem dL_night_115 : decode cL_night 115 = .ok (.iconst 0, 1) := by decide +kernel
theorem dL_night_116 : decode cL_night 116 = .ok (.istore_n 3, 1) := by decide +kernel
theorem dL_night_117 : decode cL_night 117 = .ok (.iload_n 3, 1) := by decide +kernel
theorem dL_night_118 : decode cL_night 118 = .ok (.iconst 5, 1) := by decide +kernel
theorem dL_night_119 : decode cL_night 119 = .ok (.if_icmp .ge 46, 3) := by decide +kernel
theorem dL_night_122 : decode cL_night 122 = .ok (.aload_n 1, 1) := by decide +kernel
theorem dL_night_123 : decode cL_night 123 = .ok (.aload_n 0, 1) := by decide +kernel
theorem dL_night_124 : decode cL_night 124 = .ok (.bipush 8, 2) := by decide +kernel
theorem dL_night_126 : decode cL_night 126 = .ok (.invokestatic 12, 3) := by decide +kernel
theorem dL_night_129 : decode cL_night 129 = .ok (.iload_n 3, 1) := by decide +kernel
theorem dL_night_130 : decode cL_night 130 = .ok (.iconst 3, 1) := by decide +kernel
theorem dL_night_131 : decode cL_night 131 = .ok (.imul, 1) := by decide +kernel
theorem dL_night_132 : decode cL_night 132 = .ok (.ishr, 1) := by decide +kernel
theorem dL_night_133 : decode cL_night 133 = .ok (.iload_n 2, 1) := by decide +kernel
theorem dL_night_134 : decode cL_night 134 = .ok (.invokestatic 18, 3) := by decide +kernel
theorem dL_night_137 : decode cL_night 137 = .ok (.bipush 10, 2) := by decide +kernel
theorem dL_night_139 : decode cL_night 139 = .ok (.aload_n 0, 1) := by decide +kernel
theorem dL_night_140 : decode cL_night 140 = .ok (.bipush 9, 2) := by decide +kernel
theorem dL_night_142 : decode cL_night 142 = .ok (.invokestatic 12, 3) := by decide +kernel
theorem dL_night_145 : decode cL_night 145 = .ok (.iload_n 3, 1) := by decide +kernel
theorem dL_night_146 : decode cL_night 146 = .ok (.iconst 2, 1) := by decide +kernel
theorem dL_night_147 : decode cL_night 147 = .ok (.imul, 1) := by decide +kernel
theorem dL_night_148 : decode cL_night 148 = .ok (.ishr, 1) := by decide +kernel
theorem dL_night_149 : decode cL_night 149 = .ok (.bipush 81, 2) := by decide +kernel
theorem dL_night_151 : decode cL_night 151 = .ok (.invokestatic 18, 3) := by decide +kernel
theorem dL_night_154 : decode cL_night 154 = .ok (.iadd, 1) := by decide +kernel
theorem dL_night_155 : decode cL_night 155 = .ok (.invokevirtual 26, 3) := by decide +kernel
theorem dL_night_158 : decode cL_night 158 = .ok (.pop, 1) := by decide +kernel
theorem dL_night_159 : decode cL_night 159 = .ok (.iinc 3 1, 3) := by decide +kernel
theorem dL_night_162 : decode cL_night 162 = .ok (.goto (-45), 3) := by decide +kernel
theorem dL_night_165 : decode cL_night 165 = .ok (.aload_n 0, 1) := by decide +kernel
theorem dL_night_166 : decode cL_night 166 = .ok (.bipush 10, 2) := by decide +kernel
theorem dL_night_168 : decode cL_night 168 = .ok (.invokestatic 12, 3) := by decide +kernel
theorem dL_night_171 : decode cL_night 171 = .ok (.bipush 9, 2) := by decide +kernel
theorem dL_night_173 : decode cL_night 173 = .ok (.invokestatic 18, 3) := by decide +kernel
theorem dL_night_176 : decode cL_night 176 = .ok (.istore_n 3, 1) := by decide +kernel
theorem dL_night_177 : decode cL_night 177 = .ok (.iconst 0, 1) := by decide +kernel
theorem dL_night_178 : decode cL_night 178 = .ok (.istore 4, 2) := by decide +kernel
theorem dL_night_180 : decode cL_night 180 = .ok (.iload 4, 2) := by decide +kernel
theorem dL_night_182 : decode cL_night 182 = .ok (.iload_n 3, 1) := by decide +kernel
theorem dL_night_183 : decode cL_night 183 = .ok (.if_icmp .ge 131, 3) := by decide +kernel
theorem dL_night_186 : decode cL_night 186 = .ok (.aload_n 0, 1) := by decide +kernel
theorem dL_night_187 : decode cL_night 187 = .ok (.bipush 11, 2) := by decide +kernel
theorem dL_night_189 : decode cL_night 189 = .ok (.iload 4, 2) := by decide +kernel
theorem dL_night_191 : decode cL_night 191 = .ok (.iadd, 1) := by decide +kernel
theorem dL_night_192 : decode cL_night 192 = .ok (.invokestatic 12, 3) := by decide +kernel
theorem dL_night_195 : decode cL_night 195 = .ok (.istore 5, 2) := by decide +kernel
theorem dL_night_197 : decode cL_night 197 = .ok (.iload 5, 2) := by decide +kernel
theorem dL_night_199 : decode cL_night 199 = .ok (.iconst 4, 1) := by decide +kernel
theorem dL_night_200 : decode cL_night 200 = .ok (.ishr, 1) := by decide +kernel
theorem dL_night_201 : decode cL_night 201 = .ok (.iload_n 2, 1) := by decide +kernel
theorem dL_night_202 : decode cL_night 202 = .ok (.invokestatic 18, 3) := by decide +kernel
theorem dL_night_205 : decode cL_night 205 = .ok (.istore 6, 2) := by decide +kernel
theorem dL_night_207 : decode cL_night 207 = .ok (.iconst 1, 1) := by decide +kernel
theorem dL_night_208 : decode cL_night 208 = .ok (.iload 6, 2) := by decide +kernel
theorem dL_night_210 : decode cL_night 210 = .ok (.ishl, 1) := by decide +kernel
theorem dL_night_211 : decode cL_night 211 = .ok (.iload 5, 2) := by decide +kernel
theorem dL_night_213 : decode cL_night 213 = .ok (.iconst 3, 1) := by decide +kernel
theorem dL_night_214 : decode cL_night 214 = .ok (.ishr, 1) := by decide +kernel
theorem dL_night_215 : decode cL_night 215 = .ok (.iconst 1, 1) := by decide +kernel
theorem dL_night_216 : decode cL_night 216 = .ok (.iload_n 2, 1) := by decide +kernel
theorem dL_night_217 : decode cL_night 217 = .ok (.ishl, 1) := by decide +kernel
theorem dL_night_218 : decode cL_night 218 = .ok (.invokestatic 18, 3) := by decide +kernel
theorem dL_night_221 : decode cL_night 221 = .ok (.iload 5, 2) := by decide +kernel
theorem dL_night_223 : decode cL_night 223 = .ok (.bipush 6, 2) := by decide +kernel
theorem dL_night_225 : decode cL_night 225 = .ok (.ishr, 1) := by decide +kernel
theorem dL_night_226 : decode cL_night 226 = .ok (.iconst 1, 1) := by decide +kernel
theorem dL_night_227 : decode cL_night 227 = .ok (.iload_n 2, 1) := by decide +kernel
theorem dL_night_228 : decode cL_night 228 = .ok (.ishl, 1) := by decide +kernel
theorem dL_night_229 : decode cL_night 229 = .ok (.invokestatic 18, 3) := by decide +kernel
theorem dL_night_232 : decode cL_night 232 = .ok (.iand, 1) := by decide +kernel
theorem dL_night_233 : decode cL_night 233 = .ok (.ior, 1) := by decide +kernel
theorem dL_night_234 : decode cL_night 234 = .ok (.istore 7, 2) := by decide +kernel
theorem dL_night_236 : decode cL_night 236 = .ok (.aload_n 1, 1) := by decide +kernel
theorem dL_night_237 : decode cL_night 237 = .ok (.bipush 20, 2) := by decide +kernel
theorem dL_night_239 : decode cL_night 239 = .ok (.iload 5, 2) := by decide +kernel
theorem dL_night_241 : decode cL_night 241 = .ok (.iconst 2, 1) := by decide +kernel
theorem dL_night_242 : decode cL_night 242 = .ok (.ishr, 1) := by decide +kernel
theorem dL_night_243 : decode cL_night 243 = .ok (.bipush 40, 2) := by decide +kernel
theorem dL_night_245 : decode cL_night 245 = .ok (.invokestatic 18, 3) := by decide +kernel
theorem dL_night_248 : decode cL_night 248 = .ok (.iadd, 1) := by decide +kernel
theorem dL_night_249 : decode cL_night 249 = .ok (.iload 5, 2) := by decide +kernel
theorem dL_night_251 : decode cL_night 251 = .ok (.iconst 4, 1) := by decide +kernel
theorem dL_night_252 : decode cL_night 252 = .ok (.invokestatic 18, 3) := by decide +kernel
theorem dL_night_255 : decode cL_night 255 = .ok (.iload 7, 2) := by decide +kernel
theorem dL_night_257 : decode cL_night 257 = .ok (.iconst 5, 1) := by decide +kernel
theorem dL_night_258 : decode cL_night 258 = .ok (.iload 5, 2) := by decide +kernel
theorem dL_night_260 : decode cL_night 260 = .ok (.iconst 5, 1) := by decide +kernel
theorem dL_night_261 : decode cL_night 261 = .ok (.ishr, 1) := by decide +kernel
theorem dL_night_262 : decode cL_night 262 = .ok (.bipush 86, 2) := by decide +kernel
theorem dL_night_264 : decode cL_night 264 = .ok (.invokestatic 18, 3) := by decide +kernel
theorem dL_night_267 : decode cL_night 267 = .ok (.iadd, 1) := by decide +kernel
theorem dL_night_268 : decode cL_night 268 = .ok (.iload 5, 2) := by decide +kernel
theorem dL_night_270 : decode cL_night 270 = .ok (.bipush 7, 2) := by decide +kernel
theorem dL_night_272 : decode cL_night 272 = .ok (.ishr, 1) := by decide +kernel
theorem dL_night_273 : decode cL_night 273 = .ok (.iconst 5, 1) := by decide +kernel
theorem dL_night_274 : decode cL_night 274 = .ok (.invokestatic 18, 3) := by decide +kernel
theorem dL_night_277 : decode cL_night 277 = .ok (.ifCond .ne 8, 3) := by decide +kernel
theorem dL_night_280 : decode cL_night 280 = .ok (.iload 6, 2) := by decide +kernel
theorem dL_night_282 : decode cL_night 282 = .ok (.goto 4, 3) := by decide +kernel
theorem dL_night_285 : decode cL_night 285 = .ok (.iconst (-1), 1) := by decide +kernel
theorem dL_night_286 : decode cL_night 286 = .ok (.iload 5, 2) := by decide +kernel
theorem dL_night_288 : decode cL_night 288 = .ok (.bipush 6, 2) := by decide +kernel
theorem dL_night_290 : decode cL_night 290 = .ok (.ishr, 1) := by decide +kernel
theorem dL_night_291 : decode cL_night 291 = .ok (.iconst 3, 1) := by decide +kernel
theorem dL_night_292 : decode cL_night 292 = .ok (.invokestatic 18, 3) := by decide +kernel
theorem dL_night_295 : decode cL_night 295 = .ok (.ifCond .ne 8, 3) := by decide +kernel
theorem dL_night_298 : decode cL_night 298 = .ok (.iload 6, 2) := by decide +kernel
theorem dL_night_300 : decode cL_night 300 = .ok (.goto 4, 3) := by decide +kernel
theorem dL_night_303 : decode cL_night 303 = .ok (.iconst (-1), 1) := by decide +kernel
theorem dL_night_304 : decode cL_night 304 = .ok (.invokevirtual 29, 3) := by decide +kernel
theorem dL_night_307 : decode cL_night 307 = .ok (.pop, 1) := by decide +kernel
theorem dL_night_308 : decode cL_night 308 = .ok (.iinc 4 1, 3) := by decide +kernel
theorem dL_night_311 : decode cL_night 311 = .ok (.goto (-131), 3) := by decide +kernel
theorem dL_night_314 : decode cL_night 314 = .ok (.aload_n 1, 1) := by decide +kernel
theorem dL_night_315 : decode cL_night 315 = .ok (.areturn, 1) := by decide +kernel
theorem dL_law_0 : decode cL_law 0 = .ok (.aload_n 0, 1) := by decide +kernel
theorem dL_law_1 : decode cL_law 1 = .ok (.invokestatic 33, 3) := by decide +kernel
theorem dL_law_4 : decode cL_law 4 = .ok (.astore_n 1, 1) := by decide +kernel
theorem dL_law_5 : decode cL_law 5 = .ok (.iconst 0, 1) := by decide +kernel
theorem dL_law_6 : decode cL_law 6 = .ok (.istore_n 2, 1) := by decide +kernel
theorem dL_law_7 : decode cL_law 7 = .ok (.iconst 0, 1) := by decide +kernel
theorem dL_law_8 : decode cL_law 8 = .ok (.istore_n 3, 1) := by decide +kernel
theorem dL_law_9 : decode cL_law 9 = .ok (.iconst 0, 1) := by decide +kernel
theorem dL_law_10 : decode cL_law 10 = .ok (.istore 4, 2) := by decide +kernel
theorem dL_law_12 : decode cL_law 12 = .ok (.iconst 0, 1) := by decide +kernel
theorem dL_law_13 : decode cL_law 13 = .ok (.istore 5, 2) := by decide +kernel
theorem dL_law_15 : decode cL_law 15 = .ok (.bipush 50, 2) := by decide +kernel
theorem dL_law_17 : decode cL_law 17 = .ok (.istore 6, 2) := by decide +kernel
theorem dL_law_19 : decode cL_law 19 = .ok (.iconst 5, 1) := by decide +kernel
theorem dL_law_20 : decode cL_law 20 = .ok (.newarray .int, 2) := by decide +kernel
theorem dL_law_22 : decode cL_law 22 = .ok (.astore 7, 2) := by decide +kernel
theorem dL_law_24 : decode cL_law 24 = .ok (.iconst 0, 1) := by decide +kernel
theorem dL_law_25 : decode cL_law 25 = .ok (.istore 8, 2) := by decide +kernel
theorem dL_law_27 : decode cL_law 27 = .ok (.iload 8, 2) := by decide +kernel
theorem dL_law_29 : decode cL_law 29 = .ok (.bipush 80, 2) := by decide +kernel
theorem dL_law_31 : decode cL_law 31 = .ok (.if_icmp .ge 1271, 3) := by decide +kernel
theorem dL_law_34 : decode cL_law 34 = .ok (.aload_n 0, 1) := by decide +kernel
theorem dL_law_35 : decode cL_law 35 = .ok (.bipush 20, 2) := by decide +kernel
theorem dL_law_37 : decode cL_law 37 = .ok (.iload 8, 2) := by decide +kernel
theorem dL_law_39 : decode cL_law 39 = .ok (.bipush 11, 2) := by decide +kernel
theorem dL_law_41 : decode cL_law 41 = .ok (.irem, 1) := by decide +kernel
theorem dL_law_42 : decode cL_law 42 = .ok (.iadd, 1) := by decide +kernel
theorem dL_law_43 : decode cL_law 43 = .ok (.invokestatic 12, 3) := by decide +kernel
theorem dL_law_46 : decode cL_law 46 = .ok (.iload 8, 2) := by decide +kernel
theorem dL_law_48 : decode cL_law 48 = .ok (.bipush 11, 2) := by decide +kernel
theorem dL_law_50 : decode cL_law 50 = .ok (.idiv, 1) := by decide +kernel
theorem dL_law_51 : decode cL_law 51 = .ok (.iconst 4, 1) := by decide +kernel
theorem dL_law_52 : decode cL_law 52 = .ok (.imul, 1) := by decide +kernel
theorem dL_law_53 : decode cL_law 53 = .ok (.ishr, 1) := by decide +kernel
theorem dL_law_54 : decode cL_law 54 = .ok (.istore 9, 2) := by decide +kernel
theorem dL_law_56 : decode cL_law 56 = .ok (.iload 9, 2) := by decide +kernel
theorem dL_law_58 : decode cL_law 58 = .ok (.iconst 4, 1) := by decide +kernel
theorem dL_law_59 : decode cL_law 59 = .ok (.ishr, 1) := by decide +kernel
theorem dL_law_60 : decode cL_law 60 = .ok (.iconst 5, 1) := by decide +kernel
theorem dL_law_61 : decode cL_law 61 = .ok (.invokestatic 18, 3) := by decide +kernel
theorem dL_law_64 : decode cL_law 64 = .ok (.istore 10, 2) := by decide +kernel
theorem dL_law_66 : decode cL_law 66 = .ok (.aload_n 1, 1) := by decide +kernel
theorem dL_law_67 : decode cL_law 67 = .ok (.iload 10, 2) := by decide +kernel
theorem dL_law_69 : decode cL_law 69 = .ok (.iconst 3, 1) := by decide +kernel
theorem dL_law_70 : decode cL_law 70 = .ok (.invokevirtual 37, 3) := by decide +kernel
theorem dL_law_73 : decode cL_law 73 = .ok (.istore 11, 2) := by decide +kernel
theorem dL_law_75 : decode cL_law 75 = .ok (.aload_n 1, 1) := by decide +kernel
theorem dL_law_76 : decode cL_law 76 = .ok (.iload 10, 2) := by decide +kernel
theorem dL_law_78 : decode cL_law 78 = .ok (.iconst 4, 1) := by decide +kernel
theorem dL_law_79 : decode cL_law 79 = .ok (.invokevirtual 37, 3) := by decide +kernel
theorem dL_law_82 : decode cL_law 82 = .ok (.istore 12, 2) := by decide +kernel
theorem dL_law_84 : decode cL_law 84 = .ok (.aload_n 1, 1) := by decide +kernel
theorem dL_law_85 : decode cL_law 85 = .ok (.iconst 0, 1) := by decide +kernel
theorem dL_law_86 : decode cL_law 86 = .ok (.invokevirtual 40, 3) := by decide +kernel
theorem dL_law_89 : decode cL_law 89 = .ok (.istore 13, 2) := by decide +kernel
theorem dL_law_91 : decode cL_law 91 = .ok (.iload 9, 2) := by decide +kernel
theorem dL_law_93 : decode cL_law 93 = .ok (.bipush 18, 2) := by decide +kernel
theorem dL_law_95 : decode cL_law 95 = .ok (.invokestatic 18, 3) := by decide +kernel
theorem dL_law_98 : decode cL_law 98 = .ok (.tableswitch 977 0 15 #[78, 78, 78, 171, 171, 171, 299, 333, 381, 441, 508, 508, 633, 796, 879, 928], 78) := by decide +kernel
theorem dL_law_176 : decode cL_law 176 = .ok (.aload_n 1, 1) := by decide +kernel
theorem dL_law_177 : decode cL_law 177 = .ok (.invokevirtual 44, 3) := by decide +kernel
theorem dL_law_180 : decode cL_law 180 = .ok (.iload 10, 2) := by decide +kernel
theorem dL_law_182 : decode cL_law 182 = .ok (.ishr, 1) := by decide +kernel
theorem dL_law_183 : decode cL_law 183 = .ok (.iconst 1, 1) := by decide +kernel
theorem dL_law_184 : decode cL_law 184 = .ok (.iand, 1) := by decide +kernel
theorem dL_law_185 : decode cL_law 185 = .ok (.iconst 1, 1) := by decide +kernel
theorem dL_law_186 : decode cL_law 186 = .ok (.if_icmp .ne 7, 3) := by decide +kernel
theorem dL_law_189 : decode cL_law 189 = .ok (.iconst 1, 1) := by decide +kernel
theorem dL_law_190 : decode cL_law 190 = .ok (.goto 4, 3) := by decide +kernel
theorem dL_law_193 : decode cL_law 193 = .ok (.iconst 0, 1) := by decide +kernel
theorem dL_law_194 : decode cL_law 194 = .ok (.istore 14, 2) := by decide +kernel
theorem dL_law_196 : decode cL_law 196 = .ok (.aload_n 1, 1) := by decide +kernel
theorem dL_law_197 : decode cL_law 197 = .ok (.iconst 0, 1) := by decide +kernel
theorem dL_law_198 : decode cL_law 198 = .ok (.iload 10, 2) := by decide +kernel
theorem dL_law_200 : decode cL_law 200 = .ok (.invokestatic 48, 3) := by decide +kernel
theorem dL_law_203 : decode cL_law 203 = .ok (.istore 15, 2) := by decide +kernel
theorem dL_law_205 : decode cL_law 205 = .ok (.iload 15, 2) := by decide +kernel
theorem dL_law_207 : decode cL_law 207 = .ok (.ifCond .ge 7, 3) := by decide +kernel
theorem dL_law_210 : decode cL_law 210 = .ok (.iconst 1, 1) := by decide +kernel
theorem dL_law_211 : decode cL_law 211 = .ok (.goto 4, 3) := by decide +kernel
theorem dL_law_214 : decode cL_law 214 = .ok (.iconst 0, 1) := by decide +kernel
theorem dL_law_215 : decode cL_law 215 = .ok (.iload 14, 2) := by decide +kernel
theorem dL_law_217 : decode cL_law 217 = .ok (.if_icmp .eq 50, 3) := by decide +kernel
theorem dL_law_220 : decode cL_law 220 = .ok (.iload 14, 2) := by decide +kernel
theorem dL_law_222 : decode cL_law 222 = .ok (.ifCond .eq 939, 3) := by decide +kernel
theorem dL_law_225 : decode cL_law 225 = .ok (.aload_n 1, 1) := by decide +kernel
theorem dL_law_226 : decode cL_law 226 = .ok (.iload 10, 2) := by decide +kernel
theorem dL_law_228 : decode cL_law 228 = .ok (.iconst 3, 1) := by decide +kernel
theorem dL_law_229 : decode cL_law 229 = .ok (.invokevirtual 37, 3) := by decide +kernel
theorem dL_law_232 : decode cL_law 232 = .ok (.iload 15, 2) := by decide +kernel
theorem dL_law_234 : decode cL_law 234 = .ok (.if_icmp .ne 33, 3) := by decide +kernel
theorem dL_law_237 : decode cL_law 237 = .ok (.iload 15, 2) := by decide +kernel
theorem dL_law_239 : decode cL_law 239 = .ok (.iconst 2, 1) := by decide +kernel
theorem dL_law_240 : decode cL_law 240 = .ok (.if_icmp .eq 9, 3) := by decide +kernel
theorem dL_law_243 : decode cL_law 243 = .ok (.iload 15, 2) := by decide +kernel
theorem dL_law_245 : decode cL_law 245 = .ok (.iconst 3, 1) := by decide +kernel
theorem dL_law_246 : decode cL_law 246 = .ok (.if_icmp .ne 21, 3) := by decide +kernel
theorem dL_law_249 : decode cL_law 249 = .ok (.iload 11, 2) := by decide +kernel
theorem dL_law_251 : decode cL_law 251 = .ok (.iconst 1, 1) := by decide +kernel
theorem dL_law_252 : decode cL_law 252 = .ok (.if_icmp .ne 909, 3) := by decide +kernel
theorem dL_law_255 : decode cL_law 255 = .ok (.aload_n 1, 1) := by decide +kernel
theorem dL_law_256 : decode cL_law 256 = .ok (.iload 10, 2) := by decide +kernel
theorem dL_law_258 : decode cL_law 258 = .ok (.iconst 4, 1) := by decide +kernel
theorem dL_law_259 : decode cL_law 259 = .ok (.invokevirtual 37, 3) := by decide +kernel
theorem dL_law_262 : decode cL_law 262 = .ok (.iload 12, 2) := by decide +kernel
theorem dL_law_264 : decode cL_law 264 = .ok (.if_icmp .eq 897, 3) := by decide +kernel
theorem dL_law_267 : decode cL_law 267 = .ok (.iconst 0, 1) := by decide +kernel
theorem dL_law_268 : decode cL_law 268 = .ok (.ireturn, 1) := by decide +kernel
theorem dL_law_269 : decode cL_law 269 = .ok (.iload 9, 2) := by decide +kernel
theorem dL_law_271 : decode cL_law 271 = .ok (.iconst 3, 1) := by decide +kernel
theorem dL_law_272 : decode cL_law 272 = .ok (.ishr, 1) := by decide +kernel
theorem dL_law_273 : decode cL_law 273 = .ok (.bipush 10, 2) := by decide +kernel
theorem dL_law_275 : decode cL_law 275 = .ok (.invokestatic 18, 3) := by decide +kernel
theorem dL_law_278 : decode cL_law 278 = .ok (.istore 14, 2) := by decide +kernel
theorem dL_law_280 : decode cL_law 280 = .ok (.aload_n 1, 1) := by decide +kernel
theorem dL_law_281 : decode cL_law 281 = .ok (.iload 10, 2) := by decide +kernel
theorem dL_law_283 : decode cL_law 283 = .ok (.iload 14, 2) := by decide +kernel
theorem dL_law_285 : decode cL_law 285 = .ok (.invokestatic 52, 3) := by decide +kernel
theorem dL_law_288 : decode cL_law 288 = .ok (.istore 15, 2) := by decide +kernel
theorem dL_law_290 : decode cL_law 290 = .ok (.iload 11, 2) := by decide +kernel
theorem dL_law_292 : decode cL_law 292 = .ok (.iconst 1, 1) := by decide +kernel
theorem dL_law_293 : decode cL_law 293 = .ok (.if_icmp .le 36, 3) := by decide +kernel
theorem dL_law_296 : decode cL_law 296 = .ok (.iload 14, 2) := by decide +kernel
theorem dL_law_298 : decode cL_law 298 = .ok (.iload 12, 2) := by decide +kernel
theorem dL_law_300 : decode cL_law 300 = .ok (.if_icmp .eq 29, 3) := by decide +kernel
theorem dL_law_303 : decode cL_law 303 = .ok (.iload 11, 2) := by decide +kernel
theorem dL_law_305 : decode cL_law 305 = .ok (.iconst 2, 1) := by decide +kernel
theorem dL_law_306 : decode cL_law 306 = .ok (.if_icmp .ne 13, 3) := by decide +kernel
theorem dL_law_309 : decode cL_law 309 = .ok (.iload 14, 2) := by decide +kernel
theorem dL_law_311 : decode cL_law 311 = .ok (.bipush 6, 2) := by decide +kernel
theorem dL_law_313 : decode cL_law 313 = .ok (.if_icmp .ge 16, 3) := by decide +kernel
theorem dL_law_316 : decode cL_law 316 = .ok (.goto 9, 3) := by decide +kernel
theorem dL_law_319 : decode cL_law 319 = .ok (.iload 14, 2) := by decide +kernel
theorem dL_law_321 : decode cL_law 321 = .ok (.iconst 3, 1) := by decide +kernel
theorem dL_law_322 : decode cL_law 322 = .ok (.if_icmp .le 7, 3) := by decide +kernel
theorem dL_law_325 : decode cL_law 325 = .ok (.iconst 1, 1) := by decide +kernel
theorem dL_law_326 : decode cL_law 326 = .ok (.goto 4, 3) := by decide +kernel
theorem dL_law_329 : decode cL_law 329 = .ok (.iconst 0, 1) := by decide +kernel
theorem dL_law_330 : decode cL_law 330 = .ok (.istore 16, 2) := by decide +kernel
theorem dL_law_332 : decode cL_law 332 = .ok (.iload 15, 2) := by decide +kernel
theorem dL_law_334 : decode cL_law 334 = .ok (.ifCond .lt 47, 3) := by decide +kernel
theorem dL_law_337 : decode cL_law 337 = .ok (.iload 16, 2) := by decide +kernel
theorem dL_law_339 : decode cL_law 339 = .ok (.ifCond .eq 56, 3) := by decide +kernel
theorem dL_law_342 : decode cL_law 342 = .ok (.aload_n 1, 1) := by decide +kernel
theorem dL_law_343 : decode cL_law 343 = .ok (.iload 10, 2) := by decide +kernel
theorem dL_law_345 : decode cL_law 345 = .ok (.iconst 4, 1) := by decide +kernel
theorem dL_law_346 : decode cL_law 346 = .ok (.invokevirtual 37, 3) := by decide +kernel
theorem dL_law_349 : decode cL_law 349 = .ok (.iload 14, 2) := by decide +kernel
theorem dL_law_351 : decode cL_law 351 = .ok (.if_icmp .ne 44, 3) := by decide +kernel
theorem dL_law_354 : decode cL_law 354 = .ok (.iload 15, 2) := by decide +kernel
theorem dL_law_356 : decode cL_law 356 = .ok (.bipush 100, 2) := by decide +kernel
theorem dL_law_358 : decode cL_law 358 = .ok (.aload 7, 2) := by decide +kernel
theorem dL_law_360 : decode cL_law 360 = .ok (.iload 10, 2) := by decide +kernel
theorem dL_law_362 : decode cL_law 362 = .ok (.iaload, 1) := by decide +kernel
theorem dL_law_363 : decode cL_law 363 = .ok (.iload 14, 2) := by decide +kernel
theorem dL_law_365 : decode cL_law 365 = .ok (.iload 12, 2) := by decide +kernel
theorem dL_law_367 : decode cL_law 367 = .ok (.isub, 1) := by decide +kernel
theorem dL_law_368 : decode cL_law 368 = .ok (.invokestatic 55, 3) := by decide +kernel
theorem dL_law_371 : decode cL_law 371 = .ok (.iadd, 1) := by decide +kernel
theorem dL_law_372 : decode cL_law 372 = .ok (.invokestatic 60, 3) := by decide +kernel
theorem dL_law_375 : decode cL_law 375 = .ok (.if_icmp .eq 786, 3) := by decide +kernel
theorem dL_law_378 : decode cL_law 378 = .ok (.goto 17, 3) := by decide +kernel
theorem dL_law_381 : decode cL_law 381 = .ok (.iload 16, 2) := by decide +kernel
theorem dL_law_383 : decode cL_law 383 = .ok (.ifCond .eq 778, 3) := by decide +kernel
theorem dL_law_386 : decode cL_law 386 = .ok (.aload_n 1, 1) := by decide +kernel
theorem dL_law_387 : decode cL_law 387 = .ok (.iload 14, 2) := by decide +kernel
theorem dL_law_389 : decode cL_law 389 = .ok (.invokevirtual 63, 3) := by decide +kernel
theorem dL_law_392 : decode cL_law 392 = .ok (.ifCond .ge 769, 3) := by decide +kernel
theorem dL_law_395 : decode cL_law 395 = .ok (.iconst 0, 1) := by decide +kernel
theorem dL_law_396 : decode cL_law 396 = .ok (.ireturn, 1) := by decide +kernel
theorem dL_law_397 : decode cL_law 397 = .ok (.iload 11, 2) := by decide +kernel
theorem dL_law_399 : decode cL_law 399 = .ok (.iconst 1, 1) := by decide +kernel
theorem dL_law_400 : decode cL_law 400 = .ok (.if_icmp .le 761, 3) := by decide +kernel
theorem dL_law_403 : decode cL_law 403 = .ok (.aload_n 1, 1) := by decide +kernel
theorem dL_law_404 : decode cL_law 404 = .ok (.iload 10, 2) := by decide +kernel
theorem dL_law_406 : decode cL_law 406 = .ok (.iload 9, 2) := by decide +kernel
theorem dL_law_408 : decode cL_law 408 = .ok (.iconst 3, 1) := by decide +kernel
theorem dL_law_409 : decode cL_law 409 = .ok (.ishr, 1) := by decide +kernel
theorem dL_law_410 : decode cL_law 410 = .ok (.bipush 16, 2) := by decide +kernel
theorem dL_law_412 : decode cL_law 412 = .ok (.invokestatic 18, 3) := by decide +kernel
theorem dL_law_415 : decode cL_law 415 = .ok (.invokevirtual 66, 3) := by decide +kernel
theorem dL_law_418 : decode cL_law 418 = .ok (.aload_n 1, 1) := by decide +kernel
theorem dL_law_419 : decode cL_law 419 = .ok (.iload 10, 2) := by decide +kernel
theorem dL_law_421 : decode cL_law 421 = .ok (.bipush 6, 2) := by decide +kernel
theorem dL_law_423 : decode cL_law 423 = .ok (.invokevirtual 37, 3) := by decide +kernel
theorem dL_law_426 : decode cL_law 426 = .ok (.if_icmp .eq 735, 3) := by decide +kernel
theorem dL_law_429 : decode cL_law 429 = .ok (.iconst 0, 1) := by decide +kernel
theorem dL_law_430 : decode cL_law 430 = .ok (.ireturn, 1) := by decide +kernel
theorem dL_law_431 : decode cL_law 431 = .ok (.iload 11, 2) := by decide +kernel
theorem dL_law_433 : decode cL_law 433 = .ok (.iconst 1, 1) := by decide +kernel
theorem dL_law_434 : decode cL_law 434 = .ok (.if_icmp .le 7, 3) := by decide +kernel
theorem dL_law_437 : decode cL_law 437 = .ok (.iconst 1, 1) := by decide +kernel
theorem dL_law_438 : decode cL_law 438 = .ok (.goto 4, 3) := by decide +kernel
theorem dL_law_441 : decode cL_law 441 = .ok (.iconst 0, 1) := by decide +kernel
theorem dL_law_442 : decode cL_law 442 = .ok (.aload_n 1, 1) := by decide +kernel
theorem dL_law_443 : decode cL_law 443 = .ok (.iconst 1, 1) := by decide +kernel
theorem dL_law_444 : decode cL_law 444 = .ok (.iload 10, 2) := by decide +kernel
theorem dL_law_446 : decode cL_law 446 = .ok (.invokestatic 48, 3) := by decide +kernel
theorem dL_law_449 : decode cL_law 449 = .ok (.ifCond .lt 7, 3) := by decide +kernel
theorem dL_law_452 : decode cL_law 452 = .ok (.iconst 1, 1) := by decide +kernel
theorem dL_law_453 : decode cL_law 453 = .ok (.goto 4, 3) := by decide +kernel
theorem dL_law_456 : decode cL_law 456 = .ok (.iconst 0, 1) := by decide +kernel
theorem dL_law_457 : decode cL_law 457 = .ok (.if_icmp .ne 20, 3) := by decide +kernel
theorem dL_law_460 : decode cL_law 460 = .ok (.iload 11, 2) := by decide +kernel
theorem dL_law_462 : decode cL_law 462 = .ok (.iconst 1, 1) := by decide +kernel
theorem dL_law_463 : decode cL_law 463 = .ok (.if_icmp .le 698, 3) := by decide +kernel
theorem dL_law_466 : decode cL_law 466 = .ok (.aload_n 1, 1) := by decide +kernel
theorem dL_law_467 : decode cL_law 467 = .ok (.iload 10, 2) := by decide +kernel
theorem dL_law_469 : decode cL_law 469 = .ok (.iconst 3, 1) := by decide +kernel
theorem dL_law_470 : decode cL_law 470 = .ok (.invokevirtual 37, 3) := by decide +kernel
theorem dL_law_473 : decode cL_law 473 = .ok (.iconst 1, 1) := by decide +kernel
theorem dL_law_474 : decode cL_law 474 = .ok (.if_icmp .eq 687, 3) := by decide +kernel
theorem dL_law_477 : decode cL_law 477 = .ok (.iconst 0, 1) := by decide +kernel
theorem dL_law_478 : decode cL_law 478 = .ok (.ireturn, 1) := by decide +kernel
theorem dL_law_479 : decode cL_law 479 = .ok (.aload_n 1, 1) := by decide +kernel
theorem dL_law_480 : decode cL_law 480 = .ok (.iconst 2, 1) := by decide +kernel
theorem dL_law_481 : decode cL_law 481 = .ok (.iload 10, 2) := by decide +kernel
theorem dL_law_483 : decode cL_law 483 = .ok (.invokestatic 48, 3) := by decide +kernel
theorem dL_law_486 : decode cL_law 486 = .ok (.istore 14, 2) := by decide +kernel
theorem dL_law_488 : decode cL_law 488 = .ok (.iload 14, 2) := by decide +kernel
theorem dL_law_490 : decode cL_law 490 = .ok (.ifCond .lt 30, 3) := by decide +kernel
theorem dL_law_493 : decode cL_law 493 = .ok (.iload 11, 2) := by decide +kernel
theorem dL_law_495 : decode cL_law 495 = .ok (.iconst 2, 1) := by decide +kernel
theorem dL_law_496 : decode cL_law 496 = .ok (.if_icmp .lt 41, 3) := by decide +kernel
theorem dL_law_499 : decode cL_law 499 = .ok (.iload 14, 2) := by decide +kernel
theorem dL_law_501 : decode cL_law 501 = .ok (.iconst 5, 1) := by decide +kernel
theorem dL_law_502 : decode cL_law 502 = .ok (.iload 11, 2) := by decide +kernel
theorem dL_law_504 : decode cL_law 504 = .ok (.isub, 1) := by decide +kernel
theorem dL_law_505 : decode cL_law 505 = .ok (.if_icmp .ne 32, 3) := by decide +kernel
theorem dL_law_508 : decode cL_law 508 = .ok (.iload 12, 2) := by decide +kernel
theorem dL_law_510 : decode cL_law 510 = .ok (.iconst 4, 1) := by decide +kernel
theorem dL_law_511 : decode cL_law 511 = .ok (.if_icmp .lt 26, 3) := by decide +kernel
theorem dL_law_514 : decode cL_law 514 = .ok (.iload 12, 2) := by decide +kernel
theorem dL_law_516 : decode cL_law 516 = .ok (.iconst 5, 1) := by decide +kernel
theorem dL_law_517 : decode cL_law 517 = .ok (.if_icmp .gt 20, 3) := by decide +kernel
theorem dL_law_520 : decode cL_law 520 = .ok (.iload 14, 2) := by decide +kernel
theorem dL_law_522 : decode cL_law 522 = .ok (.ifCond .ge 639, 3) := by decide +kernel
theorem dL_law_525 : decode cL_law 525 = .ok (.aload_n 1, 1) := by decide +kernel
theorem dL_law_526 : decode cL_law 526 = .ok (.iload 10, 2) := by decide +kernel
theorem dL_law_528 : decode cL_law 528 = .ok (.iconst 3, 1) := by decide +kernel
theorem dL_law_529 : decode cL_law 529 = .ok (.invokevirtual 37, 3) := by decide +kernel
theorem dL_law_532 : decode cL_law 532 = .ok (.iload 11, 2) := by decide +kernel
theorem dL_law_534 : decode cL_law 534 = .ok (.if_icmp .eq 627, 3) := by decide +kernel
theorem dL_law_537 : decode cL_law 537 = .ok (.iconst 0, 1) := by decide +kernel
theorem dL_law_538 : decode cL_law 538 = .ok (.ireturn, 1) := by decide +kernel
theorem dL_law_539 : decode cL_law 539 = .ok (.aload_n 1, 1) := by decide +kernel
theorem dL_law_540 : decode cL_law 540 = .ok (.bipush 15, 2) := by decide +kernel
theorem dL_law_542 : decode cL_law 542 = .ok (.invokevirtual 40, 3) := by decide +kernel
theorem dL_law_545 : decode cL_law 545 = .ok (.istore 14, 2) := by decide +kernel
theorem dL_law_547 : decode cL_law 547 = .ok (.aload_n 1, 1) := by decide +kernel
theorem dL_law_548 : decode cL_law 548 = .ok (.iconst 3, 1) := by decide +kernel
theorem dL_law_549 : decode cL_law 549 = .ok (.iload 10, 2) := by decide +kernel
theorem dL_law_551 : decode cL_law 551 = .ok (.invokestatic 48, 3) := by decide +kernel
theorem dL_law_554 : decode cL_law 554 = .ok (.istore 15, 2) := by decide +kernel
theorem dL_law_556 : decode cL_law 556 = .ok (.iload 15, 2) := by decide +kernel
theorem dL_law_558 : decode cL_law 558 = .ok (.ifCond .lt 30, 3) := by decide +kernel
theorem dL_law_561 : decode cL_law 561 = .ok (.iload 15, 2) := by decide +kernel
theorem dL_law_563 : decode cL_law 563 = .ok (.iload 14, 2) := by decide +kernel
theorem dL_law_565 : decode cL_law 565 = .ok (.iconst 1, 1) := by decide +kernel
theorem dL_law_566 : decode cL_law 566 = .ok (.isub, 1) := by decide +kernel
theorem dL_law_567 : decode cL_law 567 = .ok (.if_icmp .ne 37, 3) := by decide +kernel
theorem dL_law_570 : decode cL_law 570 = .ok (.iload 11, 2) := by decide +kernel
theorem dL_law_572 : decode cL_law 572 = .ok (.iconst 2, 1) := by decide +kernel
theorem dL_law_573 : decode cL_law 573 = .ok (.if_icmp .lt 31, 3) := by decide +kernel
theorem dL_law_576 : decode cL_law 576 = .ok (.iload 12, 2) := by decide +kernel
theorem dL_law_578 : decode cL_law 578 = .ok (.ifCond .eq 10, 3) := by decide +kernel
theorem dL_law_581 : decode cL_law 581 = .ok (.iload 12, 2) := by decide +kernel
theorem dL_law_583 : decode cL_law 583 = .ok (.bipush 9, 2) := by decide +kernel
theorem dL_law_585 : decode cL_law 585 = .ok (.if_icmp .ne 19, 3) := by decide +kernel
theorem dL_law_588 : decode cL_law 588 = .ok (.iload 15, 2) := by decide +kernel
theorem dL_law_590 : decode cL_law 590 = .ok (.ifCond .ge 571, 3) := by decide +kernel
theorem dL_law_593 : decode cL_law 593 = .ok (.aload_n 1, 1) := by decide +kernel
theorem dL_law_594 : decode cL_law 594 = .ok (.bipush 15, 2) := by decide +kernel
theorem dL_law_596 : decode cL_law 596 = .ok (.invokevirtual 40, 3) := by decide +kernel
theorem dL_law_599 : decode cL_law 599 = .ok (.iload 14, 2) := by decide +kernel
theorem dL_law_601 : decode cL_law 601 = .ok (.if_icmp .eq 560, 3) := by decide +kernel
theorem dL_law_604 : decode cL_law 604 = .ok (.iconst 0, 1) := by decide +kernel
theorem dL_law_605 : decode cL_law 605 = .ok (.ireturn, 1) := by decide +kernel
theorem dL_law_606 : decode cL_law 606 = .ok (.iload 9, 2) := by decide +kernel
theorem dL_law_608 : decode cL_law 608 = .ok (.iconst 5, 1) := by decide +kernel
theorem dL_law_609 : decode cL_law 609 = .ok (.ishr, 1) := by decide +kernel
theorem dL_law_610 : decode cL_law 610 = .ok (.iconst 4, 1) := by decide +kernel
theorem dL_law_611 : decode cL_law 611 = .ok (.invokestatic 18, 3) := by decide +kernel
theorem dL_law_614 : decode cL_law 614 = .ok (.istore 14, 2) := by decide +kernel
theorem dL_law_616 : decode cL_law 616 = .ok (.iload 14, 2) := by decide +kernel
theorem dL_law_618 : decode cL_law 618 = .ok (.ifCond .ne 28, 3) := by decide +kernel
theorem dL_law_621 : decode cL_law 621 = .ok (.aload_n 1, 1) := by decide +kernel
theorem dL_law_622 : decode cL_law 622 = .ok (.iconst 0, 1) := by decide +kernel
theorem dL_law_623 : decode cL_law 623 = .ok (.invokevirtual 69, 3) := by decide +kernel
theorem dL_law_626 : decode cL_law 626 = .ok (.ifCond .ge 16, 3) := by decide +kernel
theorem dL_law_629 : decode cL_law 629 = .ok (.aload_n 1, 1) := by decide +kernel
theorem dL_law_630 : decode cL_law 630 = .ok (.bipush 6, 2) := by decide +kernel
theorem dL_law_632 : decode cL_law 632 = .ok (.invokevirtual 40, 3) := by decide +kernel
theorem dL_law_635 : decode cL_law 635 = .ok (.ifCond .lt 7, 3) := by decide +kernel
theorem dL_law_638 : decode cL_law 638 = .ok (.iconst 1, 1) := by decide +kernel
theorem dL_law_639 : decode cL_law 639 = .ok (.goto 20, 3) := by decide +kernel
theorem dL_law_642 : decode cL_law 642 = .ok (.iconst 0, 1) := by decide +kernel
theorem dL_law_643 : decode cL_law 643 = .ok (.goto 16, 3) := by decide +kernel
theorem dL_law_646 : decode cL_law 646 = .ok (.aload_n 1, 1) := by decide +kernel
theorem dL_law_647 : decode cL_law 647 = .ok (.iconst 0, 1) := by decide +kernel
theorem dL_law_648 : decode cL_law 648 = .ok (.invokevirtual 69, 3) := by decide +kernel
theorem dL_law_651 : decode cL_law 651 = .ok (.ifCond .lt 7, 3) := by decide +kernel
theorem dL_law_654 : decode cL_law 654 = .ok (.iconst 1, 1) := by decide +kernel
theorem dL_law_655 : decode cL_law 655 = .ok (.goto 4, 3) := by decide +kernel
theorem dL_law_658 : decode cL_law 658 = .ok (.iconst 0, 1) := by decide +kernel
theorem dL_law_659 : decode cL_law 659 = .ok (.istore 15, 2) := by decide +kernel
theorem dL_law_661 : decode cL_law 661 = .ok (.iload 15, 2) := by decide +kernel
theorem dL_law_663 : decode cL_law 663 = .ok (.ifCond .ne 6, 3) := by decide +kernel
theorem dL_law_666 : decode cL_law 666 = .ok (.iinc 2 1, 3) := by decide +kernel
theorem dL_law_669 : decode cL_law 669 = .ok (.aload_n 1, 1) := by decide +kernel
theorem dL_law_670 : decode cL_law 670 = .ok (.iload 14, 2) := by decide +kernel
theorem dL_law_672 : decode cL_law 672 = .ok (.invokevirtual 72, 3) := by decide +kernel
theorem dL_law_675 : decode cL_law 675 = .ok (.iload 15, 2) := by decide +kernel
theorem dL_law_677 : decode cL_law 677 = .ok (.if_icmp .ne 52, 3) := by decide +kernel
theorem dL_law_680 : decode cL_law 680 = .ok (.iload 15, 2) := by decide +kernel
theorem dL_law_682 : decode cL_law 682 = .ok (.ifCond .eq 18, 3) := by decide +kernel
theorem dL_law_685 : decode cL_law 685 = .ok (.iload 14, 2) := by decide +kernel
theorem dL_law_687 : decode cL_law 687 = .ok (.ifCond .le 13, 3) := by decide +kernel
theorem dL_law_690 : decode cL_law 690 = .ok (.aload_n 1, 1) := by decide +kernel
theorem dL_law_691 : decode cL_law 691 = .ok (.iconst 3, 1) := by decide +kernel
theorem dL_law_692 : decode cL_law 692 = .ok (.invokevirtual 69, 3) := by decide +kernel
theorem dL_law_695 : decode cL_law 695 = .ok (.iload 14, 2) := by decide +kernel
theorem dL_law_697 : decode cL_law 697 = .ok (.if_icmp .ne 32, 3) := by decide +kernel
theorem dL_law_700 : decode cL_law 700 = .ok (.iload 15, 2) := by decide +kernel
theorem dL_law_702 : decode cL_law 702 = .ok (.ifCond .eq 459, 3) := by decide +kernel
theorem dL_law_705 : decode cL_law 705 = .ok (.iload 14, 2) := by decide +kernel
theorem dL_law_707 : decode cL_law 707 = .ok (.ifCond .ne 454, 3) := by decide +kernel
theorem dL_law_710 : decode cL_law 710 = .ok (.aload_n 1, 1) := by decide +kernel
theorem dL_law_711 : decode cL_law 711 = .ok (.iconst 0, 1) := by decide +kernel
theorem dL_law_712 : decode cL_law 712 = .ok (.invokevirtual 69, 3) := by decide +kernel
theorem dL_law_715 : decode cL_law 715 = .ok (.aload_n 1, 1) := by decide +kernel
theorem dL_law_716 : decode cL_law 716 = .ok (.aload_n 1, 1) := by decide +kernel
theorem dL_law_717 : decode cL_law 717 = .ok (.bipush 6, 2) := by decide +kernel
theorem dL_law_719 : decode cL_law 719 = .ok (.invokevirtual 40, 3) := by decide +kernel
theorem dL_law_722 : decode cL_law 722 = .ok (.iconst 1, 1) := by decide +kernel
theorem dL_law_723 : decode cL_law 723 = .ok (.invokevirtual 76, 3) := by decide +kernel
theorem dL_law_726 : decode cL_law 726 = .ok (.if_icmp .eq 435, 3) := by decide +kernel
theorem dL_law_729 : decode cL_law 729 = .ok (.iconst 0, 1) := by decide +kernel
theorem dL_law_730 : decode cL_law 730 = .ok (.ireturn, 1) := by decide +kernel
theorem dL_law_731 : decode cL_law 731 = .ok (.iload 9, 2) := by decide +kernel
theorem dL_law_733 : decode cL_law 733 = .ok (.iconst 3, 1) := by decide +kernel
theorem dL_law_734 : decode cL_law 734 = .ok (.ishr, 1) := by decide +kernel
theorem dL_law_735 : decode cL_law 735 = .ok (.aload_n 1, 1) := by decide +kernel
theorem dL_law_736 : decode cL_law 736 = .ok (.iconst 1, 1) := by decide +kernel
theorem dL_law_737 : decode cL_law 737 = .ok (.invokevirtual 40, 3) := by decide +kernel
theorem dL_law_740 : decode cL_law 740 = .ok (.invokestatic 18, 3) := by decide +kernel
theorem dL_law_743 : decode cL_law 743 = .ok (.istore 14, 2) := by decide +kernel
theorem dL_law_745 : decode cL_law 745 = .ok (.iload 14, 2) := by decide +kernel
theorem dL_law_747 : decode cL_law 747 = .ok (.iconst 1, 1) := by decide +kernel
theorem dL_law_748 : decode cL_law 748 = .ok (.iadd, 1) := by decide +kernel
theorem dL_law_749 : decode cL_law 749 = .ok (.aload_n 1, 1) := by decide +kernel
theorem dL_law_750 : decode cL_law 750 = .ok (.iconst 1, 1) := by decide +kernel
theorem dL_law_751 : decode cL_law 751 = .ok (.invokevirtual 40, 3) := by decide +kernel
theorem dL_law_754 : decode cL_law 754 = .ok (.irem, 1) := by decide +kernel
theorem dL_law_755 : decode cL_law 755 = .ok (.istore 15, 2) := by decide +kernel
theorem dL_law_757 : decode cL_law 757 = .ok (.iconst 1, 1) := by decide +kernel
theorem dL_law_758 : decode cL_law 758 = .ok (.iload 9, 2) := by decide +kernel
theorem dL_law_760 : decode cL_law 760 = .ok (.bipush 6, 2) := by decide +kernel
theorem dL_law_762 : decode cL_law 762 = .ok (.ishr, 1) := by decide +kernel
theorem dL_law_763 : decode cL_law 763 = .ok (.bipush 9, 2) := by decide +kernel
theorem dL_law_765 : decode cL_law 765 = .ok (.invokestatic 18, 3) := by decide +kernel
theorem dL_law_768 : decode cL_law 768 = .ok (.iadd, 1) := by decide +kernel
theorem dL_law_769 : decode cL_law 769 = .ok (.istore 16, 2) := by decide +kernel
theorem dL_law_771 : decode cL_law 771 = .ok (.aload_n 1, 1) := by decide +kernel
theorem dL_law_772 : decode cL_law 772 = .ok (.bipush 9, 2) := by decide +kernel
theorem dL_law_774 : decode cL_law 774 = .ok (.invokevirtual 40, 3) := by decide +kernel
theorem dL_law_777 : decode cL_law 777 = .ok (.istore 17, 2) := by decide +kernel
theorem dL_law_779 : decode cL_law 779 = .ok (.aload_n 1, 1) := by decide +kernel
theorem dL_law_780 : decode cL_law 780 = .ok (.bipush 7, 2) := by decide +kernel
theorem dL_law_782 : decode cL_law 782 = .ok (.invokevirtual 40, 3) := by decide +kernel
theorem dL_law_785 : decode cL_law 785 = .ok (.iload 14, 2) := by decide +kernel
theorem dL_law_787 : decode cL_law 787 = .ok (.ishr, 1) := by decide +kernel
theorem dL_law_788 : decode cL_law 788 = .ok (.iconst 1, 1) := by decide +kernel
theorem dL_law_789 : decode cL_law 789 = .ok (.iand, 1) := by decide +kernel
theorem dL_law_790 : decode cL_law 790 = .ok (.ifCond .eq 371, 3) := by decide +kernel
theorem dL_law_793 : decode cL_law 793 = .ok (.iload 17, 2) := by decide +kernel
theorem dL_law_795 : decode cL_law 795 = .ok (.bipush 79, 2) := by decide +kernel
theorem dL_law_797 : decode cL_law 797 = .ok (.if_icmp .gt 364, 3) := by decide +kernel
theorem dL_law_800 : decode cL_law 800 = .ok (.iload 13, 2) := by decide +kernel
theorem dL_law_802 : decode cL_law 802 = .ok (.iload 16, 2) := by decide +kernel
theorem dL_law_804 : decode cL_law 804 = .ok (.iadd, 1) := by decide +kernel
theorem dL_law_805 : decode cL_law 805 = .ok (.sipush 540, 3) := by decide +kernel
theorem dL_law_808 : decode cL_law 808 = .ok (.if_icmp .le 6, 3) := by decide +kernel
theorem dL_law_811 : decode cL_law 811 = .ok (.goto 350, 3) := by decide +kernel
theorem dL_law_814 : decode cL_law 814 = .ok (.aload_n 1, 1) := by decide +kernel
theorem dL_law_815 : decode cL_law 815 = .ok (.iload 14, 2) := by decide +kernel
theorem dL_law_817 : decode cL_law 817 = .ok (.iload 15, 2) := by decide +kernel
theorem dL_law_819 : decode cL_law 819 = .ok (.iload 16, 2) := by decide +kernel
theorem dL_law_821 : decode cL_law 821 = .ok (.iload 9, 2) := by decide +kernel
theorem dL_law_823 : decode cL_law 823 = .ok (.iconst 2, 1) := by decide +kernel
theorem dL_law_824 : decode cL_law 824 = .ok (.ishr, 1) := by decide +kernel
theorem dL_law_825 : decode cL_law 825 = .ok (.iconst 3, 1) := by decide +kernel
theorem dL_law_826 : decode cL_law 826 = .ok (.invokestatic 18, 3) := by decide +kernel
theorem dL_law_829 : decode cL_law 829 = .ok (.iconst 1, 1) := by decide +kernel
theorem dL_law_830 : decode cL_law 830 = .ok (.isub, 1) := by decide +kernel
theorem dL_law_831 : decode cL_law 831 = .ok (.invokevirtual 79, 3) := by decide +kernel
theorem dL_law_834 : decode cL_law 834 = .ok (.istore 18, 2) := by decide +kernel
theorem dL_law_836 : decode cL_law 836 = .ok (.iload_n 3, 1) := by decide +kernel
theorem dL_law_837 : decode cL_law 837 = .ok (.aload_n 1, 1) := by decide +kernel
theorem dL_law_838 : decode cL_law 838 = .ok (.bipush 12, 2) := by decide +kernel
theorem dL_law_840 : decode cL_law 840 = .ok (.invokevirtual 40, 3) := by decide +kernel
theorem dL_law_843 : decode cL_law 843 = .ok (.iload_n 3, 1) := by decide +kernel
theorem dL_law_844 : decode cL_law 844 = .ok (.if_icmp .le 7, 3) := by decide +kernel
theorem dL_law_847 : decode cL_law 847 = .ok (.iconst 1, 1) := by decide +kernel
theorem dL_law_848 : decode cL_law 848 = .ok (.goto 4, 3) := by decide +kernel
theorem dL_law_851 : decode cL_law 851 = .ok (.iconst 0, 1) := by decide +kernel
theorem dL_law_852 : decode cL_law 852 = .ok (.iadd, 1) := by decide +kernel
theorem dL_law_853 : decode cL_law 853 = .ok (.istore_n 3, 1) := by decide +kernel
theorem dL_law_854 : decode cL_law 854 = .ok (.iload 18, 2) := by decide +kernel
theorem dL_law_856 : decode cL_law 856 = .ok (.iload 17, 2) := by decide +kernel
theorem dL_law_858 : decode cL_law 858 = .ok (.if_icmp .le 34, 3) := by decide +kernel
theorem dL_law_861 : decode cL_law 861 = .ok (.iload 18, 2) := by decide +kernel
theorem dL_law_863 : decode cL_law 863 = .ok (.bipush 100, 2) := by decide +kernel
theorem dL_law_865 : decode cL_law 865 = .ok (.if_icmp .gt 27, 3) := by decide +kernel
theorem dL_law_868 : decode cL_law 868 = .ok (.iload 18, 2) := by decide +kernel
theorem dL_law_870 : decode cL_law 870 = .ok (.aload_n 1, 1) := by decide +kernel
theorem dL_law_871 : decode cL_law 871 = .ok (.bipush 9, 2) := by decide +kernel
theorem dL_law_873 : decode cL_law 873 = .ok (.invokevirtual 40, 3) := by decide +kernel
theorem dL_law_876 : decode cL_law 876 = .ok (.if_icmp .ne 16, 3) := by decide +kernel
theorem dL_law_879 : decode cL_law 879 = .ok (.aload_n 1, 1) := by decide +kernel
theorem dL_law_880 : decode cL_law 880 = .ok (.iconst 0, 1) := by decide +kernel
theorem dL_law_881 : decode cL_law 881 = .ok (.invokevirtual 40, 3) := by decide +kernel
theorem dL_law_884 : decode cL_law 884 = .ok (.iload 13, 2) := by decide +kernel
theorem dL_law_886 : decode cL_law 886 = .ok (.iload 16, 2) := by decide +kernel
theorem dL_law_888 : decode cL_law 888 = .ok (.iadd, 1) := by decide +kernel
theorem dL_law_889 : decode cL_law 889 = .ok (.if_icmp .eq 272, 3) := by decide +kernel
theorem dL_law_892 : decode cL_law 892 = .ok (.iconst 0, 1) := by decide +kernel
theorem dL_law_893 : decode cL_law 893 = .ok (.ireturn, 1) := by decide +kernel
theorem dL_law_894 : decode cL_law 894 = .ok (.aload_n 1, 1) := by decide +kernel
theorem dL_law_895 : decode cL_law 895 = .ok (.bipush 10, 2) := by decide +kernel
theorem dL_law_897 : decode cL_law 897 = .ok (.invokevirtual 40, 3) := by decide +kernel
theorem dL_law_900 : decode cL_law 900 = .ok (.istore 14, 2) := by decide +kernel
theorem dL_law_902 : decode cL_law 902 = .ok (.iload 9, 2) := by decide +kernel
theorem dL_law_904 : decode cL_law 904 = .ok (.iconst 3, 1) := by decide +kernel
theorem dL_law_905 : decode cL_law 905 = .ok (.ishr, 1) := by decide +kernel
theorem dL_law_906 : decode cL_law 906 = .ok (.bipush 10, 2) := by decide +kernel
theorem dL_law_908 : decode cL_law 908 = .ok (.invokestatic 18, 3) := by decide +kernel
theorem dL_law_911 : decode cL_law 911 = .ok (.istore 15, 2) := by decide +kernel
theorem dL_law_913 : decode cL_law 913 = .ok (.iload 15, 2) := by decide +kernel
theorem dL_law_915 : decode cL_law 915 = .ok (.iload 14, 2) := by decide +kernel
theorem dL_law_917 : decode cL_law 917 = .ok (.if_icmp .le 6, 3) := by decide +kernel
theorem dL_law_920 : decode cL_law 920 = .ok (.iinc 4 1, 3) := by decide +kernel
theorem dL_law_923 : decode cL_law 923 = .ok (.aload_n 1, 1) := by decide +kernel
theorem dL_law_924 : decode cL_law 924 = .ok (.iload 15, 2) := by decide +kernel
theorem dL_law_926 : decode cL_law 926 = .ok (.invokevirtual 83, 3) := by decide +kernel
theorem dL_law_929 : decode cL_law 929 = .ok (.iload 15, 2) := by decide +kernel
theorem dL_law_931 : decode cL_law 931 = .ok (.iload 14, 2) := by decide +kernel
theorem dL_law_933 : decode cL_law 933 = .ok (.if_icmp .le 8, 3) := by decide +kernel
theorem dL_law_936 : decode cL_law 936 = .ok (.bipush (-2), 2) := by decide +kernel
theorem dL_law_938 : decode cL_law 938 = .ok (.goto 8, 3) := by decide +kernel
theorem dL_law_941 : decode cL_law 941 = .ok (.iload 14, 2) := by decide +kernel
theorem dL_law_943 : decode cL_law 943 = .ok (.iload 15, 2) := by decide +kernel
theorem dL_law_945 : decode cL_law 945 = .ok (.isub, 1) := by decide +kernel
theorem dL_law_946 : decode cL_law 946 = .ok (.if_icmp .ne 29, 3) := by decide +kernel
theorem dL_law_949 : decode cL_law 949 = .ok (.aload_n 1, 1) := by decide +kernel
theorem dL_law_950 : decode cL_law 950 = .ok (.bipush 10, 2) := by decide +kernel
theorem dL_law_952 : decode cL_law 952 = .ok (.invokevirtual 40, 3) := by decide +kernel
theorem dL_law_955 : decode cL_law 955 = .ok (.iload 15, 2) := by decide +kernel
theorem dL_law_957 : decode cL_law 957 = .ok (.iload 14, 2) := by decide +kernel
theorem dL_law_959 : decode cL_law 959 = .ok (.if_icmp .le 8, 3) := by decide +kernel
theorem dL_law_962 : decode cL_law 962 = .ok (.iload 14, 2) := by decide +kernel
theorem dL_law_964 : decode cL_law 964 = .ok (.goto 8, 3) := by decide +kernel
theorem dL_law_967 : decode cL_law 967 = .ok (.iload 14, 2) := by decide +kernel
theorem dL_law_969 : decode cL_law 969 = .ok (.iload 15, 2) := by decide +kernel
theorem dL_law_971 : decode cL_law 971 = .ok (.isub, 1) := by decide +kernel
theorem dL_law_972 : decode cL_law 972 = .ok (.if_icmp .eq 189, 3) := by decide +kernel
theorem dL_law_975 : decode cL_law 975 = .ok (.iconst 0, 1) := by decide +kernel
theorem dL_law_976 : decode cL_law 976 = .ok (.ireturn, 1) := by decide +kernel
theorem dL_law_977 : decode cL_law 977 = .ok (.aload_n 1, 1) := by decide +kernel
theorem dL_law_978 : decode cL_law 978 = .ok (.bipush 10, 2) := by decide +kernel
theorem dL_law_980 : decode cL_law 980 = .ok (.invokevirtual 40, 3) := by decide +kernel
theorem dL_law_983 : decode cL_law 983 = .ok (.istore 14, 2) := by decide +kernel
theorem dL_law_985 : decode cL_law 985 = .ok (.iload 13, 2) := by decide +kernel
theorem dL_law_987 : decode cL_law 987 = .ok (.sipush 537, 3) := by decide +kernel
theorem dL_law_990 : decode cL_law 990 = .ok (.if_icmp .le 6, 3) := by decide +kernel
theorem dL_law_993 : decode cL_law 993 = .ok (.goto 168, 3) := by decide +kernel
theorem dL_law_996 : decode cL_law 996 = .ok (.aload_n 1, 1) := by decide +kernel
theorem dL_law_997 : decode cL_law 997 = .ok (.invokevirtual 86, 3) := by decide +kernel
theorem dL_law_1000 : decode cL_law 1000 = .ok (.bipush 30, 2) := by decide +kernel
theorem dL_law_1002 : decode cL_law 1002 = .ok (.iload 14, 2) := by decide +kernel
theorem dL_law_1004 : decode cL_law 1004 = .ok (.iconst 5, 1) := by decide +kernel
theorem dL_law_1005 : decode cL_law 1005 = .ok (.iadd, 1) := by decide +kernel
theorem dL_law_1006 : decode cL_law 1006 = .ok (.invokestatic 60, 3) := by decide +kernel
theorem dL_law_1009 : decode cL_law 1009 = .ok (.if_icmp .ne 15, 3) := by decide +kernel
theorem dL_law_1012 : decode cL_law 1012 = .ok (.aload_n 1, 1) := by decide +kernel
theorem dL_law_1013 : decode cL_law 1013 = .ok (.iconst 0, 1) := by decide +kernel
theorem dL_law_1014 : decode cL_law 1014 = .ok (.invokevirtual 40, 3) := by decide +kernel
theorem dL_law_1017 : decode cL_law 1017 = .ok (.iload 13, 2) := by decide +kernel
theorem dL_law_1019 : decode cL_law 1019 = .ok (.iconst 3, 1) := by decide +kernel
theorem dL_law_1020 : decode cL_law 1020 = .ok (.iadd, 1) := by decide +kernel
theorem dL_law_1021 : decode cL_law 1021 = .ok (.if_icmp .eq 140, 3) := by decide +kernel
theorem dL_law_1024 : decode cL_law 1024 = .ok (.iconst 0, 1) := by decide +kernel
theorem dL_law_1025 : decode cL_law 1025 = .ok (.ireturn, 1) := by decide +kernel
theorem dL_law_1026 : decode cL_law 1026 = .ok (.aload_n 1, 1) := by decide +kernel
theorem dL_law_1027 : decode cL_law 1027 = .ok (.bipush 20, 2) := by decide +kernel
theorem dL_law_1029 : decode cL_law 1029 = .ok (.iload 9, 2) := by decide +kernel
theorem dL_law_1031 : decode cL_law 1031 = .ok (.iconst 3, 1) := by decide +kernel
theorem dL_law_1032 : decode cL_law 1032 = .ok (.ishr, 1) := by decide +kernel
theorem dL_law_1033 : decode cL_law 1033 = .ok (.bipush 61, 2) := by decide +kernel
theorem dL_law_1035 : decode cL_law 1035 = .ok (.invokestatic 18, 3) := by decide +kernel
theorem dL_law_1038 : decode cL_law 1038 = .ok (.iadd, 1) := by decide +kernel
theorem dL_law_1039 : decode cL_law 1039 = .ok (.iload 9, 2) := by decide +kernel
theorem dL_law_1041 : decode cL_law 1041 = .ok (.iconst 5, 1) := by decide +kernel
theorem dL_law_1042 : decode cL_law 1042 = .ok (.ishr, 1) := by decide +kernel
theorem dL_law_1043 : decode cL_law 1043 = .ok (.bipush 10, 2) := by decide +kernel
theorem dL_law_1045 : decode cL_law 1045 = .ok (.invokestatic 18, 3) := by decide +kernel
theorem dL_law_1048 : decode cL_law 1048 = .ok (.invokevirtual 89, 3) := by decide +kernel
theorem dL_law_1051 : decode cL_law 1051 = .ok (.iload 6, 2) := by decide +kernel
theorem dL_law_1053 : decode cL_law 1053 = .ok (.if_icmp .eq 5, 3) := by decide +kernel
theorem dL_law_1056 : decode cL_law 1056 = .ok (.iconst 0, 1) := by decide +kernel
theorem dL_law_1057 : decode cL_law 1057 = .ok (.ireturn, 1) := by decide +kernel
theorem dL_law_1058 : decode cL_law 1058 = .ok (.bipush 20, 2) := by decide +kernel
theorem dL_law_1060 : decode cL_law 1060 = .ok (.iload 9, 2) := by decide +kernel
theorem dL_law_1062 : decode cL_law 1062 = .ok (.iconst 3, 1) := by decide +kernel
theorem dL_law_1063 : decode cL_law 1063 = .ok (.ishr, 1) := by decide +kernel
theorem dL_law_1064 : decode cL_law 1064 = .ok (.bipush 61, 2) := by decide +kernel
theorem dL_law_1066 : decode cL_law 1066 = .ok (.invokestatic 18, 3) := by decide +kernel
theorem dL_law_1069 : decode cL_law 1069 = .ok (.iadd, 1) := by decide +kernel
theorem dL_law_1070 : decode cL_law 1070 = .ok (.istore 6, 2) := by decide +kernel
theorem dL_law_1072 : decode cL_law 1072 = .ok (.goto 89, 3) := by decide +kernel
theorem dL_law_1075 : decode cL_law 1075 = .ok (.iconst 1, 1) := by decide +kernel
theorem dL_law_1076 : decode cL_law 1076 = .ok (.iload 9, 2) := by decide +kernel
theorem dL_law_1078 : decode cL_law 1078 = .ok (.iconst 3, 1) := by decide +kernel
theorem dL_law_1079 : decode cL_law 1079 = .ok (.ishr, 1) := by decide +kernel
theorem dL_law_1080 : decode cL_law 1080 = .ok (.bipush 14, 2) := by decide +kernel
theorem dL_law_1082 : decode cL_law 1082 = .ok (.invokestatic 18, 3) := by decide +kernel
theorem dL_law_1085 : decode cL_law 1085 = .ok (.iadd, 1) := by decide +kernel
theorem dL_law_1086 : decode cL_law 1086 = .ok (.istore 14, 2) := by decide +kernel
theorem dL_law_1088 : decode cL_law 1088 = .ok (.aload_n 1, 1) := by decide +kernel
theorem dL_law_1089 : decode cL_law 1089 = .ok (.bipush 9, 2) := by decide +kernel
theorem dL_law_1091 : decode cL_law 1091 = .ok (.invokevirtual 40, 3) := by decide +kernel
theorem dL_law_1094 : decode cL_law 1094 = .ok (.istore 15, 2) := by decide +kernel
theorem dL_law_1096 : decode cL_law 1096 = .ok (.iload 13, 2) := by decide +kernel
theorem dL_law_1098 : decode cL_law 1098 = .ok (.iload 14, 2) := by decide +kernel
theorem dL_law_1100 : decode cL_law 1100 = .ok (.iadd, 1) := by decide +kernel
theorem dL_law_1101 : decode cL_law 1101 = .ok (.sipush 540, 3) := by decide +kernel
theorem dL_law_1104 : decode cL_law 1104 = .ok (.if_icmp .le 6, 3) := by decide +kernel
theorem dL_law_1107 : decode cL_law 1107 = .ok (.goto 54, 3) := by decide +kernel
theorem dL_law_1110 : decode cL_law 1110 = .ok (.aload_n 1, 1) := by decide +kernel
theorem dL_law_1111 : decode cL_law 1111 = .ok (.iload 14, 2) := by decide +kernel
theorem dL_law_1113 : decode cL_law 1113 = .ok (.invokevirtual 92, 3) := by decide +kernel
theorem dL_law_1116 : decode cL_law 1116 = .ok (.aload_n 1, 1) := by decide +kernel
theorem dL_law_1117 : decode cL_law 1117 = .ok (.bipush 14, 2) := by decide +kernel
theorem dL_law_1119 : decode cL_law 1119 = .ok (.invokevirtual 40, 3) := by decide +kernel
theorem dL_law_1122 : decode cL_law 1122 = .ok (.iload 5, 2) := by decide +kernel
theorem dL_law_1124 : decode cL_law 1124 = .ok (.isub, 1) := by decide +kernel
theorem dL_law_1125 : decode cL_law 1125 = .ok (.if_icmp .ne 34, 3) := by decide +kernel
theorem dL_law_1128 : decode cL_law 1128 = .ok (.aload_n 1, 1) := by decide +kernel
theorem dL_law_1129 : decode cL_law 1129 = .ok (.bipush 9, 2) := by decide +kernel
theorem dL_law_1131 : decode cL_law 1131 = .ok (.invokevirtual 40, 3) := by decide +kernel
theorem dL_law_1134 : decode cL_law 1134 = .ok (.iconst 0, 1) := by decide +kernel
theorem dL_law_1135 : decode cL_law 1135 = .ok (.iload 15, 2) := by decide +kernel
theorem dL_law_1137 : decode cL_law 1137 = .ok (.iload 14, 2) := by decide +kernel
theorem dL_law_1139 : decode cL_law 1139 = .ok (.isub, 1) := by decide +kernel
theorem dL_law_1140 : decode cL_law 1140 = .ok (.invokestatic 95, 3) := by decide +kernel
theorem dL_law_1143 : decode cL_law 1143 = .ok (.if_icmp .ne 16, 3) := by decide +kernel
theorem dL_law_1146 : decode cL_law 1146 = .ok (.aload_n 1, 1) := by decide +kernel
theorem dL_law_1147 : decode cL_law 1147 = .ok (.iconst 0, 1) := by decide +kernel
theorem dL_law_1148 : decode cL_law 1148 = .ok (.invokevirtual 40, 3) := by decide +kernel
theorem dL_law_1151 : decode cL_law 1151 = .ok (.iload 13, 2) := by decide +kernel
theorem dL_law_1153 : decode cL_law 1153 = .ok (.iload 14, 2) := by decide +kernel
theorem dL_law_1155 : decode cL_law 1155 = .ok (.iadd, 1) := by decide +kernel
theorem dL_law_1156 : decode cL_law 1156 = .ok (.if_icmp .eq 5, 3) := by decide +kernel
theorem dL_law_1159 : decode cL_law 1159 = .ok (.iconst 0, 1) := by decide +kernel
theorem dL_law_1160 : decode cL_law 1160 = .ok (.ireturn, 1) := by decide +kernel
theorem dL_law_1161 : decode cL_law 1161 = .ok (.aload_n 1, 1) := by decide +kernel
theorem dL_law_1162 : decode cL_law 1162 = .ok (.bipush 14, 2) := by decide +kernel
theorem dL_law_1164 : decode cL_law 1164 = .ok (.invokevirtual 40, 3) := by decide +kernel
theorem dL_law_1167 : decode cL_law 1167 = .ok (.istore 5, 2) := by decide +kernel
theorem dL_law_1169 : decode cL_law 1169 = .ok (.aload_n 1, 1) := by decide +kernel
theorem dL_law_1170 : decode cL_law 1170 = .ok (.iconst 0, 1) := by decide +kernel
theorem dL_law_1171 : decode cL_law 1171 = .ok (.invokevirtual 40, 3) := by decide +kernel
theorem dL_law_1174 : decode cL_law 1174 = .ok (.bipush 30, 2) := by decide +kernel
theorem dL_law_1176 : decode cL_law 1176 = .ok (.idiv, 1) := by decide +kernel
theorem dL_law_1177 : decode cL_law 1177 = .ok (.iload 13, 2) := by decide +kernel
theorem dL_law_1179 : decode cL_law 1179 = .ok (.bipush 30, 2) := by decide +kernel
theorem dL_law_1181 : decode cL_law 1181 = .ok (.idiv, 1) := by decide +kernel
theorem dL_law_1182 : decode cL_law 1182 = .ok (.isub, 1) := by decide +kernel
theorem dL_law_1183 : decode cL_law 1183 = .ok (.istore 14, 2) := by decide +kernel
theorem dL_law_1185 : decode cL_law 1185 = .ok (.iconst 0, 1) := by decide +kernel
theorem dL_law_1186 : decode cL_law 1186 = .ok (.istore 15, 2) := by decide +kernel
theorem dL_law_1188 : decode cL_law 1188 = .ok (.iload 15, 2) := by decide +kernel
theorem dL_law_1190 : decode cL_law 1190 = .ok (.iconst 5, 1) := by decide +kernel
theorem dL_law_1191 : decode cL_law 1191 = .ok (.if_icmp .ge 63, 3) := by decide +kernel
theorem dL_law_1194 : decode cL_law 1194 = .ok (.aload_n 1, 1) := by decide +kernel
theorem dL_law_1195 : decode cL_law 1195 = .ok (.iload 15, 2) := by decide +kernel
theorem dL_law_1197 : decode cL_law 1197 = .ok (.iconst 2, 1) := by decide +kernel
theorem dL_law_1198 : decode cL_law 1198 = .ok (.invokevirtual 37, 3) := by decide +kernel
theorem dL_law_1201 : decode cL_law 1201 = .ok (.istore 16, 2) := by decide +kernel
theorem dL_law_1203 : decode cL_law 1203 = .ok (.iload 16, 2) := by decide +kernel
theorem dL_law_1205 : decode cL_law 1205 = .ok (.aload 7, 2) := by decide +kernel
theorem dL_law_1207 : decode cL_law 1207 = .ok (.iload 15, 2) := by decide +kernel
theorem dL_law_1209 : decode cL_law 1209 = .ok (.iaload, 1) := by decide +kernel
theorem dL_law_1210 : decode cL_law 1210 = .ok (.isub, 1) := by decide +kernel
theorem dL_law_1211 : decode cL_law 1211 = .ok (.istore 17, 2) := by decide +kernel
theorem dL_law_1213 : decode cL_law 1213 = .ok (.iload 17, 2) := by decide +kernel
theorem dL_law_1215 : decode cL_law 1215 = .ok (.ifCond .lt 24, 3) := by decide +kernel
theorem dL_law_1218 : decode cL_law 1218 = .ok (.iload 17, 2) := by decide +kernel
theorem dL_law_1220 : decode cL_law 1220 = .ok (.iload 14, 2) := by decide +kernel
theorem dL_law_1222 : decode cL_law 1222 = .ok (.iload 15, 2) := by decide +kernel
theorem dL_law_1224 : decode cL_law 1224 = .ok (.iload 10, 2) := by decide +kernel
theorem dL_law_1226 : decode cL_law 1226 = .ok (.if_icmp .ne 8, 3) := by decide +kernel
theorem dL_law_1229 : decode cL_law 1229 = .ok (.bipush 9, 2) := by decide +kernel
theorem dL_law_1231 : decode cL_law 1231 = .ok (.goto 4, 3) := by decide +kernel
theorem dL_law_1234 : decode cL_law 1234 = .ok (.iconst 0, 1) := by decide +kernel
theorem dL_law_1235 : decode cL_law 1235 = .ok (.iadd, 1) := by decide +kernel
theorem dL_law_1236 : decode cL_law 1236 = .ok (.if_icmp .le 5, 3) := by decide +kernel
theorem dL_law_1239 : decode cL_law 1239 = .ok (.iconst 0, 1) := by decide +kernel
theorem dL_law_1240 : decode cL_law 1240 = .ok (.ireturn, 1) := by decide +kernel
theorem dL_law_1241 : decode cL_law 1241 = .ok (.aload 7, 2) := by decide +kernel
theorem dL_law_1243 : decode cL_law 1243 = .ok (.iload 15, 2) := by decide +kernel
theorem dL_law_1245 : decode cL_law 1245 = .ok (.iload 16, 2) := by decide +kernel
theorem dL_law_1247 : decode cL_law 1247 = .ok (.iastore, 1) := by decide +kernel
theorem dL_law_1248 : decode cL_law 1248 = .ok (.iinc 15 1, 3) := by decide +kernel
theorem dL_law_1251 : decode cL_law 1251 = .ok (.goto (-63), 3) := by decide +kernel
theorem dL_law_1254 : decode cL_law 1254 = .ok (.aload_n 1, 1) := by decide +kernel
theorem dL_law_1255 : decode cL_law 1255 = .ok (.bipush 11, 2) := by decide +kernel
theorem dL_law_1257 : decode cL_law 1257 = .ok (.invokevirtual 40, 3) := by decide +kernel
theorem dL_law_1260 : decode cL_law 1260 = .ok (.iload_n 2, 1) := by decide +kernel
theorem dL_law_1261 : decode cL_law 1261 = .ok (.if_icmp .ne 33, 3) := by decide +kernel
theorem dL_law_1264 : decode cL_law 1264 = .ok (.aload_n 1, 1) := by decide +kernel
theorem dL_law_1265 : decode cL_law 1265 = .ok (.bipush 12, 2) := by decide +kernel
theorem dL_law_1267 : decode cL_law 1267 = .ok (.invokevirtual 40, 3) := by decide +kernel
theorem dL_law_1270 : decode cL_law 1270 = .ok (.iload_n 3, 1) := by decide +kernel
theorem dL_law_1271 : decode cL_law 1271 = .ok (.if_icmp .ne 23, 3) := by decide +kernel
theorem dL_law_1274 : decode cL_law 1274 = .ok (.aload_n 1, 1) := by decide +kernel
theorem dL_law_1275 : decode cL_law 1275 = .ok (.bipush 13, 2) := by decide +kernel
theorem dL_law_1277 : decode cL_law 1277 = .ok (.invokevirtual 40, 3) := by decide +kernel
theorem dL_law_1280 : decode cL_law 1280 = .ok (.iload 4, 2) := by decide +kernel
theorem dL_law_1282 : decode cL_law 1282 = .ok (.if_icmp .ne 12, 3) := by decide +kernel
theorem dL_law_1285 : decode cL_law 1285 = .ok (.aload_n 1, 1) := by decide +kernel
theorem dL_law_1286 : decode cL_law 1286 = .ok (.iload 6, 2) := by decide +kernel
theorem dL_law_1288 : decode cL_law 1288 = .ok (.invokestatic 98, 3) := by decide +kernel
theorem dL_law_1291 : decode cL_law 1291 = .ok (.ifCond .ne 5, 3) := by decide +kernel
theorem dL_law_1294 : decode cL_law 1294 = .ok (.iconst 0, 1) := by decide +kernel
theorem dL_law_1295 : decode cL_law 1295 = .ok (.ireturn, 1) := by decide +kernel
theorem dL_law_1296 : decode cL_law 1296 = .ok (.iinc 8 1, 3) := by decide +kernel
theorem dL_law_1299 : decode cL_law 1299 = .ok (.goto (-1272), 3) := by decide +kernel
theorem dL_law_1302 : decode cL_law 1302 = .ok (.aload_n 1, 1) := by decide +kernel
theorem dL_law_1303 : decode cL_law 1303 = .ok (.invokevirtual 102, 3) := by decide +kernel
theorem dL_law_1306 : decode cL_law 1306 = .ok (.lstore 8, 2) := by decide +kernel
theorem dL_law_1308 : decode cL_law 1308 = .ok (.aload_n 1, 1) := by decide +kernel
theorem dL_law_1309 : decode cL_law 1309 = .ok (.iload 6, 2) := by decide +kernel
theorem dL_law_1311 : decode cL_law 1311 = .ok (.invokestatic 98, 3) := by decide +kernel
theorem dL_law_1314 : decode cL_law 1314 = .ok (.ifCond .eq 17, 3) := by decide +kernel
theorem dL_law_1317 : decode cL_law 1317 = .ok (.aload_n 1, 1) := by decide +kernel
theorem dL_law_1318 : decode cL_law 1318 = .ok (.invokevirtual 102, 3) := by decide +kernel
theorem dL_law_1321 : decode cL_law 1321 = .ok (.lload 8, 2) := by decide +kernel
theorem dL_law_1323 : decode cL_law 1323 = .ok (.lcmp, 1) := by decide +kernel
theorem dL_law_1324 : decode cL_law 1324 = .ok (.ifCond .ne 7, 3) := by decide +kernel
theorem dL_law_1327 : decode cL_law 1327 = .ok (.iconst 1, 1) := by decide +kernel
theorem dL_law_1328 : decode cL_law 1328 = .ok (.goto 4, 3) := by decide +kernel
theorem dL_law_1331 : decode cL_law 1331 = .ok (.iconst 0, 1) := by decide +kernel
theorem dL_law_1332 : decode cL_law 1332 = .ok (.ireturn, 1) := by decide +kernel
theorem dL_done_0 : decode cL_done 0 = .ok (.iload_n 1, 1) := by decide +kernel
theorem dL_done_1 : decode cL_done 1 = .ok (.ifCond .ne 11, 3) := by decide +kernel
theorem dL_done_4 : decode cL_done 4 = .ok (.aload_n 0, 1) := by decide +kernel
theorem dL_done_5 : decode cL_done 5 = .ok (.iload_n 2, 1) := by decide +kernel
theorem dL_done_6 : decode cL_done 6 = .ok (.invokevirtual 106, 3) := by decide +kernel
theorem dL_done_9 : decode cL_done 9 = .ok (.goto 34, 3) := by decide +kernel
theorem dL_done_12 : decode cL_done 12 = .ok (.iload_n 1, 1) := by decide +kernel
theorem dL_done_13 : decode cL_done 13 = .ok (.iconst 1, 1) := by decide +kernel
theorem dL_done_14 : decode cL_done 14 = .ok (.if_icmp .ne 11, 3) := by decide +kernel
theorem dL_done_17 : decode cL_done 17 = .ok (.aload_n 0, 1) := by decide +kernel
theorem dL_done_18 : decode cL_done 18 = .ok (.iload_n 2, 1) := by decide +kernel
theorem dL_done_19 : decode cL_done 19 = .ok (.invokevirtual 109, 3) := by decide +kernel
theorem dL_done_22 : decode cL_done 22 = .ok (.goto 21, 3) := by decide +kernel
theorem dL_done_25 : decode cL_done 25 = .ok (.iload_n 1, 1) := by decide +kernel
theorem dL_done_26 : decode cL_done 26 = .ok (.iconst 2, 1) := by decide +kernel
theorem dL_done_27 : decode cL_done 27 = .ok (.if_icmp .ne 11, 3) := by decide +kernel
theorem dL_done_30 : decode cL_done 30 = .ok (.aload_n 0, 1) := by decide +kernel
theorem dL_done_31 : decode cL_done 31 = .ok (.iload_n 2, 1) := by decide +kernel
theorem dL_done_32 : decode cL_done 32 = .ok (.invokevirtual 112, 3) := by decide +kernel
theorem dL_done_35 : decode cL_done 35 = .ok (.goto 8, 3) := by decide +kernel
theorem dL_done_38 : decode cL_done 38 = .ok (.aload_n 0, 1) := by decide +kernel
theorem dL_done_39 : decode cL_done 39 = .ok (.iload_n 2, 1) := by decide +kernel
theorem dL_done_40 : decode cL_done 40 = .ok (.invokevirtual 115, 3) := by decide +kernel
theorem dL_done_43 : decode cL_done 43 = .ok (.ireturn, 1) := by decide +kernel
theorem dL_done_44 : decode cL_done 44 = .ok (.astore_n 3, 1) := by decide +kernel
theorem dL_done_45 : decode cL_done 45 = .ok (.iconst (-1), 1) := by decide +kernel
theorem dL_done_46 : decode cL_done 46 = .ok (.ireturn, 1) := by decide +kernel
theorem dL_move_0 : decode cL_move 0 = .ok (.aload_n 0, 1) := by decide +kernel
theorem dL_move_1 : decode cL_move 1 = .ok (.iload_n 1, 1) := by decide +kernel
theorem dL_move_2 : decode cL_move 2 = .ok (.iload_n 2, 1) := by decide +kernel
theorem dL_move_3 : decode cL_move 3 = .ok (.invokevirtual 120, 3) := by decide +kernel
theorem dL_move_6 : decode cL_move 6 = .ok (.ireturn, 1) := by decide +kernel
theorem dL_move_7 : decode cL_move 7 = .ok (.astore_n 3, 1) := by decide +kernel
theorem dL_move_8 : decode cL_move 8 = .ok (.iconst (-1), 1) := by decide +kernel
theorem dL_move_9 : decode cL_move 9 = .ok (.ireturn, 1) := by decide +kernel
theorem dL_isSo_0 : decode cL_isSo 0 = .ok (.iconst 0, 1) := by decide +kernel
theorem dL_isSo_1 : decode cL_isSo 1 = .ok (.istore_n 2, 1) := by decide +kernel
theorem dL_isSo_2 : decode cL_isSo 2 = .ok (.iconst 0, 1) := by decide +kernel
theorem dL_isSo_3 : decode cL_isSo 3 = .ok (.istore_n 3, 1) := by decide +kernel
theorem dL_isSo_4 : decode cL_isSo 4 = .ok (.iconst 0, 1) := by decide +kernel
theorem dL_isSo_5 : decode cL_isSo 5 = .ok (.istore 4, 2) := by decide +kernel
theorem dL_isSo_7 : decode cL_isSo 7 = .ok (.iconst 0, 1) := by decide +kernel
theorem dL_isSo_8 : decode cL_isSo 8 = .ok (.istore 5, 2) := by decide +kernel
theorem dL_isSo_10 : decode cL_isSo 10 = .ok (.iconst 0, 1) := by decide +kernel
theorem dL_isSo_11 : decode cL_isSo 11 = .ok (.istore 6, 2) := by decide +kernel
theorem dL_isSo_13 : decode cL_isSo 13 = .ok (.iconst 0, 1) := by decide +kernel
theorem dL_isSo_14 : decode cL_isSo 14 = .ok (.istore 7, 2) := by decide +kernel
theorem dL_isSo_16 : decode cL_isSo 16 = .ok (.iload 7, 2) := by decide +kernel
theorem dL_isSo_18 : decode cL_isSo 18 = .ok (.iconst 5, 1) := by decide +kernel
theorem dL_isSo_19 : decode cL_isSo 19 = .ok (.if_icmp .ge 218, 3) := by decide +kernel
theorem dL_isSo_22 : decode cL_isSo 22 = .ok (.aload_n 0, 1) := by decide +kernel
theorem dL_isSo_23 : decode cL_isSo 23 = .ok (.iload 7, 2) := by decide +kernel
theorem dL_isSo_25 : decode cL_isSo 25 = .ok (.iconst 3, 1) := by decide +kernel
theorem dL_isSo_26 : decode cL_isSo 26 = .ok (.invokevirtual 37, 3) := by decide +kernel
theorem dL_isSo_29 : decode cL_isSo 29 = .ok (.istore 8, 2) := by decide +kernel
theorem dL_isSo_31 : decode cL_isSo 31 = .ok (.aload_n 0, 1) := by decide +kernel
theorem dL_isSo_32 : decode cL_isSo 32 = .ok (.iload 7, 2) := by decide +kernel
theorem dL_isSo_34 : decode cL_isSo 34 = .ok (.iconst 4, 1) := by decide +kernel
theorem dL_isSo_35 : decode cL_isSo 35 = .ok (.invokevirtual 37, 3) := by decide +kernel
theorem dL_isSo_38 : decode cL_isSo 38 = .ok (.istore 9, 2) := by decide +kernel
theorem dL_isSo_40 : decode cL_isSo 40 = .ok (.aload_n 0, 1) := by decide +kernel
theorem dL_isSo_41 : decode cL_isSo 41 = .ok (.iload 7, 2) := by decide +kernel
theorem dL_isSo_43 : decode cL_isSo 43 = .ok (.iconst 5, 1) := by decide +kernel
theorem dL_isSo_44 : decode cL_isSo 44 = .ok (.invokevirtual 37, 3) := by decide +kernel
theorem dL_isSo_47 : decode cL_isSo 47 = .ok (.istore 10, 2) := by decide +kernel
theorem dL_isSo_49 : decode cL_isSo 49 = .ok (.iload 8, 2) := by decide +kernel
theorem dL_isSo_51 : decode cL_isSo 51 = .ok (.iconst 2, 1) := by decide +kernel
theorem dL_isSo_52 : decode cL_isSo 52 = .ok (.if_icmp .ne 6, 3) := by decide +kernel
theorem dL_isSo_55 : decode cL_isSo 55 = .ok (.iinc 4 1, 3) := by decide +kernel
theorem dL_isSo_58 : decode cL_isSo 58 = .ok (.iload 8, 2) := by decide +kernel
theorem dL_isSo_60 : decode cL_isSo 60 = .ok (.iconst 3, 1) := by decide +kernel
theorem dL_isSo_61 : decode cL_isSo 61 = .ok (.if_icmp .ne 6, 3) := by decide +kernel
theorem dL_isSo_64 : decode cL_isSo 64 = .ok (.iinc 5 1, 3) := by decide +kernel
theorem dL_isSo_67 : decode cL_isSo 67 = .ok (.iload 8, 2) := by decide +kernel
theorem dL_isSo_69 : decode cL_isSo 69 = .ok (.iconst 2, 1) := by decide +kernel
theorem dL_isSo_70 : decode cL_isSo 70 = .ok (.if_icmp .ne 9, 3) := by decide +kernel
theorem dL_isSo_73 : decode cL_isSo 73 = .ok (.iload 9, 2) := by decide +kernel
theorem dL_isSo_75 : decode cL_isSo 75 = .ok (.iconst 5, 1) := by decide +kernel
theorem dL_isSo_76 : decode cL_isSo 76 = .ok (.if_icmp .gt 53, 3) := by decide +kernel
theorem dL_isSo_79 : decode cL_isSo 79 = .ok (.iload 8, 2) := by decide +kernel
theorem dL_isSo_81 : decode cL_isSo 81 = .ok (.iconst 3, 1) := by decide +kernel
theorem dL_isSo_82 : decode cL_isSo 82 = .ok (.if_icmp .ne 9, 3) := by decide +kernel
theorem dL_isSo_85 : decode cL_isSo 85 = .ok (.iload 9, 2) := by decide +kernel
theorem dL_isSo_87 : decode cL_isSo 87 = .ok (.iconst 4, 1) := by decide +kernel
theorem dL_isSo_88 : decode cL_isSo 88 = .ok (.if_icmp .lt 41, 3) := by decide +kernel
theorem dL_isSo_91 : decode cL_isSo 91 = .ok (.iload 8, 2) := by decide +kernel
theorem dL_isSo_93 : decode cL_isSo 93 = .ok (.ifCond .le 14, 3) := by decide +kernel
theorem dL_isSo_96 : decode cL_isSo 96 = .ok (.aload_n 0, 1) := by decide +kernel
theorem dL_isSo_97 : decode cL_isSo 97 = .ok (.iload 9, 2) := by decide +kernel
theorem dL_isSo_99 : decode cL_isSo 99 = .ok (.invokevirtual 63, 3) := by decide +kernel
theorem dL_isSo_102 : decode cL_isSo 102 = .ok (.iload 7, 2) := by decide +kernel
theorem dL_isSo_104 : decode cL_isSo 104 = .ok (.if_icmp .ne 25, 3) := by decide +kernel
theorem dL_isSo_107 : decode cL_isSo 107 = .ok (.iload 8, 2) := by decide +kernel
theorem dL_isSo_109 : decode cL_isSo 109 = .ok (.ifCond .ne 9, 3) := by decide +kernel
theorem dL_isSo_112 : decode cL_isSo 112 = .ok (.iload 9, 2) := by decide +kernel
theorem dL_isSo_114 : decode cL_isSo 114 = .ok (.iconst (-1), 1) := by decide +kernel
theorem dL_isSo_115 : decode cL_isSo 115 = .ok (.if_icmp .ne 14, 3) := by decide +kernel
theorem dL_isSo_118 : decode cL_isSo 118 = .ok (.iload 8, 2) := by decide +kernel
theorem dL_isSo_120 : decode cL_isSo 120 = .ok (.iconst 2, 1) := by decide +kernel
theorem dL_isSo_121 : decode cL_isSo 121 = .ok (.if_icmp .ge 10, 3) := by decide +kernel
theorem dL_isSo_124 : decode cL_isSo 124 = .ok (.iload 10, 2) := by decide +kernel
theorem dL_isSo_126 : decode cL_isSo 126 = .ok (.ifCond .eq 5, 3) := by decide +kernel
theorem dL_isSo_129 : decode cL_isSo 129 = .ok (.iconst 0, 1) := by decide +kernel
theorem dL_isSo_130 : decode cL_isSo 130 = .ok (.ireturn, 1) := by decide +kernel
theorem dL_isSo_131 : decode cL_isSo 131 = .ok (.aload_n 0, 1) := by decide +kernel
theorem dL_isSo_132 : decode cL_isSo 132 = .ok (.iload 7, 2) := by decide +kernel
theorem dL_isSo_134 : decode cL_isSo 134 = .ok (.bipush 6, 2) := by decide +kernel
theorem dL_isSo_136 : decode cL_isSo 136 = .ok (.invokevirtual 37, 3) := by decide +kernel
theorem dL_isSo_139 : decode cL_isSo 139 = .ok (.aload_n 0, 1) := by decide +kernel
theorem dL_isSo_140 : decode cL_isSo 140 = .ok (.iload 7, 2) := by decide +kernel
theorem dL_isSo_142 : decode cL_isSo 142 = .ok (.iconst 1, 1) := by decide +kernel
theorem dL_isSo_143 : decode cL_isSo 143 = .ok (.invokevirtual 37, 3) := by decide +kernel
theorem dL_isSo_146 : decode cL_isSo 146 = .ok (.if_icmp .lt 47, 3) := by decide +kernel
theorem dL_isSo_149 : decode cL_isSo 149 = .ok (.aload_n 0, 1) := by decide +kernel
theorem dL_isSo_150 : decode cL_isSo 150 = .ok (.iload 7, 2) := by decide +kernel
theorem dL_isSo_152 : decode cL_isSo 152 = .ok (.bipush 6, 2) := by decide +kernel
theorem dL_isSo_154 : decode cL_isSo 154 = .ok (.invokevirtual 37, 3) := by decide +kernel
theorem dL_isSo_157 : decode cL_isSo 157 = .ok (.aload_n 0, 1) := by decide +kernel
theorem dL_isSo_158 : decode cL_isSo 158 = .ok (.iload 7, 2) := by decide +kernel
theorem dL_isSo_160 : decode cL_isSo 160 = .ok (.iconst 1, 1) := by decide +kernel
theorem dL_isSo_161 : decode cL_isSo 161 = .ok (.invokevirtual 37, 3) := by decide +kernel
theorem dL_isSo_164 : decode cL_isSo 164 = .ok (.iload_n 1, 1) := by decide +kernel
theorem dL_isSo_165 : decode cL_isSo 165 = .ok (.imul, 1) := by decide +kernel
theorem dL_isSo_166 : decode cL_isSo 166 = .ok (.iload_n 1, 1) := by decide +kernel
theorem dL_isSo_167 : decode cL_isSo 167 = .ok (.iload 10, 2) := by decide +kernel
theorem dL_isSo_169 : decode cL_isSo 169 = .ok (.isub, 1) := by decide +kernel
theorem dL_isSo_170 : decode cL_isSo 170 = .ok (.idiv, 1) := by decide +kernel
theorem dL_isSo_171 : decode cL_isSo 171 = .ok (.if_icmp .ne 22, 3) := by decide +kernel
theorem dL_isSo_174 : decode cL_isSo 174 = .ok (.aload_n 0, 1) := by decide +kernel
theorem dL_isSo_175 : decode cL_isSo 175 = .ok (.iload 7, 2) := by decide +kernel
theorem dL_isSo_177 : decode cL_isSo 177 = .ok (.iconst 2, 1) := by decide +kernel
theorem dL_isSo_178 : decode cL_isSo 178 = .ok (.invokevirtual 37, 3) := by decide +kernel
theorem dL_isSo_181 : decode cL_isSo 181 = .ok (.bipush 100, 2) := by decide +kernel
theorem dL_isSo_183 : decode cL_isSo 183 = .ok (.if_icmp .gt 10, 3) := by decide +kernel
theorem dL_isSo_186 : decode cL_isSo 186 = .ok (.iload 10, 2) := by decide +kernel
theorem dL_isSo_188 : decode cL_isSo 188 = .ok (.bipush 15, 2) := by decide +kernel
theorem dL_isSo_190 : decode cL_isSo 190 = .ok (.if_icmp .le 5, 3) := by decide +kernel
theorem dL_isSo_193 : decode cL_isSo 193 = .ok (.iconst 0, 1) := by decide +kernel
theorem dL_isSo_194 : decode cL_isSo 194 = .ok (.ireturn, 1) := by decide +kernel
theorem dL_isSo_195 : decode cL_isSo 195 = .ok (.iload 8, 2) := by decide +kernel
theorem dL_isSo_197 : decode cL_isSo 197 = .ok (.ifCond .ne 6, 3) := by decide +kernel
theorem dL_isSo_200 : decode cL_isSo 200 = .ok (.goto 31, 3) := by decide +kernel
theorem dL_isSo_203 : decode cL_isSo 203 = .ok (.iinc 3 1, 3) := by decide +kernel
theorem dL_isSo_206 : decode cL_isSo 206 = .ok (.iload 6, 2) := by decide +kernel
theorem dL_isSo_208 : decode cL_isSo 208 = .ok (.aload_n 0, 1) := by decide +kernel
theorem dL_isSo_209 : decode cL_isSo 209 = .ok (.iload 7, 2) := by decide +kernel
theorem dL_isSo_211 : decode cL_isSo 211 = .ok (.bipush 6, 2) := by decide +kernel
theorem dL_isSo_213 : decode cL_isSo 213 = .ok (.invokevirtual 37, 3) := by decide +kernel
theorem dL_isSo_216 : decode cL_isSo 216 = .ok (.iadd, 1) := by decide +kernel
theorem dL_isSo_217 : decode cL_isSo 217 = .ok (.istore 6, 2) := by decide +kernel
theorem dL_isSo_219 : decode cL_isSo 219 = .ok (.iload_n 2, 1) := by decide +kernel
theorem dL_isSo_220 : decode cL_isSo 220 = .ok (.iconst 1, 1) := by decide +kernel
theorem dL_isSo_221 : decode cL_isSo 221 = .ok (.aload_n 0, 1) := by decide +kernel
theorem dL_isSo_222 : decode cL_isSo 222 = .ok (.iload 7, 2) := by decide +kernel
theorem dL_isSo_224 : decode cL_isSo 224 = .ok (.iconst 0, 1) := by decide +kernel
theorem dL_isSo_225 : decode cL_isSo 225 = .ok (.invokevirtual 37, 3) := by decide +kernel
theorem dL_isSo_228 : decode cL_isSo 228 = .ok (.ishl, 1) := by decide +kernel
theorem dL_isSo_229 : decode cL_isSo 229 = .ok (.ior, 1) := by decide +kernel
theorem dL_isSo_230 : decode cL_isSo 230 = .ok (.istore_n 2, 1) := by decide +kernel
theorem dL_isSo_231 : decode cL_isSo 231 = .ok (.iinc 7 1, 3) := by decide +kernel
theorem dL_isSo_234 : decode cL_isSo 234 = .ok (.goto (-218), 3) := by decide +kernel
theorem dL_isSo_237 : decode cL_isSo 237 = .ok (.iconst 0, 1) := by decide +kernel
theorem dL_isSo_238 : decode cL_isSo 238 = .ok (.istore 7, 2) := by decide +kernel
theorem dL_isSo_240 : decode cL_isSo 240 = .ok (.iconst 0, 1) := by decide +kernel
theorem dL_isSo_241 : decode cL_isSo 241 = .ok (.istore 8, 2) := by decide +kernel
theorem dL_isSo_243 : decode cL_isSo 243 = .ok (.iload 8, 2) := by decide +kernel
theorem dL_isSo_245 : decode cL_isSo 245 = .ok (.bipush 10, 2) := by decide +kernel
theorem dL_isSo_247 : decode cL_isSo 247 = .ok (.if_icmp .ge 28, 3) := by decide +kernel
theorem dL_isSo_250 : decode cL_isSo 250 = .ok (.iload 7, 2) := by decide +kernel
theorem dL_isSo_252 : decode cL_isSo 252 = .ok (.aload_n 0, 1) := by decide +kernel
theorem dL_isSo_253 : decode cL_isSo 253 = .ok (.iload 8, 2) := by decide +kernel
theorem dL_isSo_255 : decode cL_isSo 255 = .ok (.invokevirtual 63, 3) := by decide +kernel
theorem dL_isSo_258 : decode cL_isSo 258 = .ok (.ifCond .ge 7, 3) := by decide +kernel
theorem dL_isSo_261 : decode cL_isSo 261 = .ok (.iconst 0, 1) := by decide +kernel
theorem dL_isSo_262 : decode cL_isSo 262 = .ok (.goto 4, 3) := by decide +kernel
theorem dL_isSo_265 : decode cL_isSo 265 = .ok (.iconst 1, 1) := by decide +kernel
theorem dL_isSo_266 : decode cL_isSo 266 = .ok (.iadd, 1) := by decide +kernel
theorem dL_isSo_267 : decode cL_isSo 267 = .ok (.istore 7, 2) := by decide +kernel
theorem dL_isSo_269 : decode cL_isSo 269 = .ok (.iinc 8 1, 3) := by decide +kernel
theorem dL_isSo_272 : decode cL_isSo 272 = .ok (.goto (-29), 3) := by decide +kernel
theorem dL_isSo_275 : decode cL_isSo 275 = .ok (.iload 4, 2) := by decide +kernel
theorem dL_isSo_277 : decode cL_isSo 277 = .ok (.iconst 1, 1) := by decide +kernel
theorem dL_isSo_278 : decode cL_isSo 278 = .ok (.if_icmp .gt 56, 3) := by decide +kernel
theorem dL_isSo_281 : decode cL_isSo 281 = .ok (.iload 5, 2) := by decide +kernel
theorem dL_isSo_283 : decode cL_isSo 283 = .ok (.iconst 1, 1) := by decide +kernel
theorem dL_isSo_284 : decode cL_isSo 284 = .ok (.if_icmp .gt 50, 3) := by decide +kernel
theorem dL_isSo_287 : decode cL_isSo 287 = .ok (.iload 7, 2) := by decide +kernel
theorem dL_isSo_289 : decode cL_isSo 289 = .ok (.iload_n 3, 1) := by decide +kernel
theorem dL_isSo_290 : decode cL_isSo 290 = .ok (.if_icmp .ne 44, 3) := by decide +kernel
theorem dL_isSo_293 : decode cL_isSo 293 = .ok (.aload_n 0, 1) := by decide +kernel
theorem dL_isSo_294 : decode cL_isSo 294 = .ok (.bipush 15, 2) := by decide +kernel
theorem dL_isSo_296 : decode cL_isSo 296 = .ok (.invokevirtual 40, 3) := by decide +kernel
theorem dL_isSo_299 : decode cL_isSo 299 = .ok (.iload_n 3, 1) := by decide +kernel
theorem dL_isSo_300 : decode cL_isSo 300 = .ok (.if_icmp .ne 34, 3) := by decide +kernel
theorem dL_isSo_303 : decode cL_isSo 303 = .ok (.aload_n 0, 1) := by decide +kernel
theorem dL_isSo_304 : decode cL_isSo 304 = .ok (.bipush 7, 2) := by decide +kernel
theorem dL_isSo_306 : decode cL_isSo 306 = .ok (.invokevirtual 40, 3) := by decide +kernel
theorem dL_isSo_309 : decode cL_isSo 309 = .ok (.iload_n 2, 1) := by decide +kernel
theorem dL_isSo_310 : decode cL_isSo 310 = .ok (.if_icmp .ne 24, 3) := by decide +kernel
theorem dL_isSo_313 : decode cL_isSo 313 = .ok (.aload_n 0, 1) := by decide +kernel
theorem dL_isSo_314 : decode cL_isSo 314 = .ok (.invokevirtual 122, 3) := by decide +kernel
theorem dL_isSo_317 : decode cL_isSo 317 = .ok (.iload_n 3, 1) := by decide +kernel
theorem dL_isSo_318 : decode cL_isSo 318 = .ok (.i2d, 1) := by decide +kernel
theorem dL_isSo_319 : decode cL_isSo 319 = .ok (.dmul, 1) := by decide +kernel
theorem dL_isSo_320 : decode cL_isSo 320 = .ok (.iload 6, 2) := by decide +kernel
theorem dL_isSo_322 : decode cL_isSo 322 = .ok (.i2d, 1) := by decide +kernel
theorem dL_isSo_323 : decode cL_isSo 323 = .ok (.dsub, 1) := by decide +kernel
theorem dL_isSo_324 : decode cL_isSo 324 = .ok (.invokestatic 126, 3) := by decide +kernel
theorem dL_isSo_327 : decode cL_isSo 327 = .ok (.ldc2_w 129, 3) := by decide +kernel
theorem dL_isSo_330 : decode cL_isSo 330 = .ok (.dcmp .l, 1) := by decide +kernel
theorem dL_isSo_331 : decode cL_isSo 331 = .ok (.ifCond .le 5, 3) := by decide +kernel
theorem dL_isSo_334 : decode cL_isSo 334 = .ok (.iconst 0, 1) := by decide +kernel
theorem dL_isSo_335 : decode cL_isSo 335 = .ok (.ireturn, 1) := by decide +kernel
theorem dL_isSo_336 : decode cL_isSo 336 = .ok (.iconst 0, 1) := by decide +kernel
theorem dL_isSo_337 : decode cL_isSo 337 = .ok (.istore 8, 2) := by decide +kernel
theorem dL_isSo_339 : decode cL_isSo 339 = .ok (.iconst 0, 1) := by decide +kernel
theorem dL_isSo_340 : decode cL_isSo 340 = .ok (.istore 9, 2) := by decide +kernel
theorem dL_isSo_342 : decode cL_isSo 342 = .ok (.iconst (-1), 1) := by decide +kernel
theorem dL_isSo_343 : decode cL_isSo 343 = .ok (.istore 10, 2) := by decide +kernel
theorem dL_isSo_345 : decode cL_isSo 345 = .ok (.iconst 0, 1) := by decide +kernel
theorem dL_isSo_346 : decode cL_isSo 346 = .ok (.istore 11, 2) := by decide +kernel
theorem dL_isSo_348 : decode cL_isSo 348 = .ok (.iload 11, 2) := by decide +kernel
theorem dL_isSo_350 : decode cL_isSo 350 = .ok (.aload_n 0, 1) := by decide +kernel
theorem dL_isSo_351 : decode cL_isSo 351 = .ok (.iconst 3, 1) := by decide +kernel
theorem dL_isSo_352 : decode cL_isSo 352 = .ok (.invokevirtual 40, 3) := by decide +kernel
theorem dL_isSo_355 : decode cL_isSo 355 = .ok (.if_icmp .ge 283, 3) := by decide +kernel
theorem dL_isSo_358 : decode cL_isSo 358 = .ok (.aload_n 0, 1) := by decide +kernel
theorem dL_isSo_359 : decode cL_isSo 359 = .ok (.iload 11, 2) := by decide +kernel
theorem dL_isSo_361 : decode cL_isSo 361 = .ok (.bipush 6, 2) := by decide +kernel
theorem dL_isSo_363 : decode cL_isSo 363 = .ok (.invokevirtual 76, 3) := by decide +kernel
theorem dL_isSo_366 : decode cL_isSo 366 = .ok (.iload 8, 2) := by decide +kernel
theorem dL_isSo_368 : decode cL_isSo 368 = .ok (.if_icmp .ne 47, 3) := by decide +kernel
theorem dL_isSo_371 : decode cL_isSo 371 = .ok (.aload_n 0, 1) := by decide +kernel
theorem dL_isSo_372 : decode cL_isSo 372 = .ok (.iload 11, 2) := by decide +kernel
theorem dL_isSo_374 : decode cL_isSo 374 = .ok (.bipush 7, 2) := by decide +kernel
theorem dL_isSo_376 : decode cL_isSo 376 = .ok (.invokevirtual 76, 3) := by decide +kernel
theorem dL_isSo_379 : decode cL_isSo 379 = .ok (.iconst 2, 1) := by decide +kernel
theorem dL_isSo_380 : decode cL_isSo 380 = .ok (.iload 8, 2) := by decide +kernel
theorem dL_isSo_382 : decode cL_isSo 382 = .ok (.sipush 180, 3) := by decide +kernel
theorem dL_isSo_385 : decode cL_isSo 385 = .ok (.idiv, 1) := by decide +kernel
theorem dL_isSo_386 : decode cL_isSo 386 = .ok (.invokestatic 60, 3) := by decide +kernel
theorem dL_isSo_389 : decode cL_isSo 389 = .ok (.if_icmp .ne 26, 3) := by decide +kernel
theorem dL_isSo_392 : decode cL_isSo 392 = .ok (.aload_n 0, 1) := by decide +kernel
theorem dL_isSo_393 : decode cL_isSo 393 = .ok (.iload 11, 2) := by decide +kernel
theorem dL_isSo_395 : decode cL_isSo 395 = .ok (.bipush 8, 2) := by decide +kernel
theorem dL_isSo_397 : decode cL_isSo 397 = .ok (.invokevirtual 76, 3) := by decide +kernel
theorem dL_isSo_400 : decode cL_isSo 400 = .ok (.ifCond .lt 15, 3) := by decide +kernel
theorem dL_isSo_403 : decode cL_isSo 403 = .ok (.aload_n 0, 1) := by decide +kernel
theorem dL_isSo_404 : decode cL_isSo 404 = .ok (.iload 11, 2) := by decide +kernel
theorem dL_isSo_406 : decode cL_isSo 406 = .ok (.bipush 8, 2) := by decide +kernel
theorem dL_isSo_408 : decode cL_isSo 408 = .ok (.invokevirtual 76, 3) := by decide +kernel
theorem dL_isSo_411 : decode cL_isSo 411 = .ok (.iconst 5, 1) := by decide +kernel
theorem dL_isSo_412 : decode cL_isSo 412 = .ok (.if_icmp .le 5, 3) := by decide +kernel
theorem dL_isSo_415 : decode cL_isSo 415 = .ok (.iconst 0, 1) := by decide +kernel
theorem dL_isSo_416 : decode cL_isSo 416 = .ok (.ireturn, 1) := by decide +kernel
theorem dL_isSo_417 : decode cL_isSo 417 = .ok (.aload_n 0, 1) := by decide +kernel
theorem dL_isSo_418 : decode cL_isSo 418 = .ok (.iconst 0, 1) := by decide +kernel
theorem dL_isSo_419 : decode cL_isSo 419 = .ok (.invokevirtual 40, 3) := by decide +kernel
theorem dL_isSo_422 : decode cL_isSo 422 = .ok (.iload 8, 2) := by decide +kernel
theorem dL_isSo_424 : decode cL_isSo 424 = .ok (.if_icmp .lt 25, 3) := by decide +kernel
theorem dL_isSo_427 : decode cL_isSo 427 = .ok (.aload_n 0, 1) := by decide +kernel
theorem dL_isSo_428 : decode cL_isSo 428 = .ok (.iconst 0, 1) := by decide +kernel
theorem dL_isSo_429 : decode cL_isSo 429 = .ok (.invokevirtual 40, 3) := by decide +kernel
theorem dL_isSo_432 : decode cL_isSo 432 = .ok (.iload 8, 2) := by decide +kernel
theorem dL_isSo_434 : decode cL_isSo 434 = .ok (.aload_n 0, 1) := by decide +kernel
theorem dL_isSo_435 : decode cL_isSo 435 = .ok (.iload 11, 2) := by decide +kernel
theorem dL_isSo_437 : decode cL_isSo 437 = .ok (.iconst 3, 1) := by decide +kernel
theorem dL_isSo_438 : decode cL_isSo 438 = .ok (.invokevirtual 76, 3) := by decide +kernel
theorem dL_isSo_441 : decode cL_isSo 441 = .ok (.iadd, 1) := by decide +kernel
theorem dL_isSo_442 : decode cL_isSo 442 = .ok (.if_icmp .ge 7, 3) := by decide +kernel
theorem dL_isSo_445 : decode cL_isSo 445 = .ok (.iload 11, 2) := by decide +kernel
theorem dL_isSo_447 : decode cL_isSo 447 = .ok (.istore 10, 2) := by decide +kernel
theorem dL_isSo_449 : decode cL_isSo 449 = .ok (.iload 8, 2) := by decide +kernel
theorem dL_isSo_451 : decode cL_isSo 451 = .ok (.aload_n 0, 1) := by decide +kernel
theorem dL_isSo_452 : decode cL_isSo 452 = .ok (.iload 11, 2) := by decide +kernel
theorem dL_isSo_454 : decode cL_isSo 454 = .ok (.iconst 3, 1) := by decide +kernel
theorem dL_isSo_455 : decode cL_isSo 455 = .ok (.invokevirtual 76, 3) := by decide +kernel
theorem dL_isSo_458 : decode cL_isSo 458 = .ok (.iadd, 1) := by decide +kernel
theorem dL_isSo_459 : decode cL_isSo 459 = .ok (.istore 8, 2) := by decide +kernel
theorem dL_isSo_461 : decode cL_isSo 461 = .ok (.iload 9, 2) := by decide +kernel
theorem dL_isSo_463 : decode cL_isSo 463 = .ok (.aload_n 0, 1) := by decide +kernel
theorem dL_isSo_464 : decode cL_isSo 464 = .ok (.iload 11, 2) := by decide +kernel
theorem dL_isSo_466 : decode cL_isSo 466 = .ok (.bipush 8, 2) := by decide +kernel
theorem dL_isSo_468 : decode cL_isSo 468 = .ok (.invokevirtual 76, 3) := by decide +kernel
theorem dL_isSo_471 : decode cL_isSo 471 = .ok (.ifCond .le 7, 3) := by decide +kernel
theorem dL_isSo_474 : decode cL_isSo 474 = .ok (.iconst 1, 1) := by decide +kernel
theorem dL_isSo_475 : decode cL_isSo 475 = .ok (.goto 4, 3) := by decide +kernel
theorem dL_isSo_478 : decode cL_isSo 478 = .ok (.iconst 0, 1) := by decide +kernel
theorem dL_isSo_479 : decode cL_isSo 479 = .ok (.iadd, 1) := by decide +kernel
theorem dL_isSo_480 : decode cL_isSo 480 = .ok (.istore 9, 2) := by decide +kernel
theorem dL_isSo_482 : decode cL_isSo 482 = .ok (.iconst 0, 1) := by decide +kernel
theorem dL_isSo_483 : decode cL_isSo 483 = .ok (.istore 12, 2) := by decide +kernel
theorem dL_isSo_485 : decode cL_isSo 485 = .ok (.iload 12, 2) := by decide +kernel
theorem dL_isSo_487 : decode cL_isSo 487 = .ok (.aload_n 0, 1) := by decide +kernel
theorem dL_isSo_488 : decode cL_isSo 488 = .ok (.iconst 1, 1) := by decide +kernel
theorem dL_isSo_489 : decode cL_isSo 489 = .ok (.invokevirtual 40, 3) := by decide +kernel
theorem dL_isSo_492 : decode cL_isSo 492 = .ok (.if_icmp .ge 140, 3) := by decide +kernel
theorem dL_isSo_495 : decode cL_isSo 495 = .ok (.aload_n 0, 1) := by decide +kernel
theorem dL_isSo_496 : decode cL_isSo 496 = .ok (.iload 12, 2) := by decide +kernel
theorem dL_isSo_498 : decode cL_isSo 498 = .ok (.iload 11, 2) := by decide +kernel
theorem dL_isSo_500 : decode cL_isSo 500 = .ok (.invokevirtual 131, 3) := by decide +kernel
theorem dL_isSo_503 : decode cL_isSo 503 = .ok (.istore 13, 2) := by decide +kernel
theorem dL_isSo_505 : decode cL_isSo 505 = .ok (.aload_n 0, 1) := by decide +kernel
theorem dL_isSo_506 : decode cL_isSo 506 = .ok (.iload 11, 2) := by decide +kernel
theorem dL_isSo_508 : decode cL_isSo 508 = .ok (.iconst 5, 1) := by decide +kernel
theorem dL_isSo_509 : decode cL_isSo 509 = .ok (.invokevirtual 76, 3) := by decide +kernel
theorem dL_isSo_512 : decode cL_isSo 512 = .ok (.istore 14, 2) := by decide +kernel
theorem dL_isSo_514 : decode cL_isSo 514 = .ok (.iload 13, 2) := by decide +kernel
theorem dL_isSo_516 : decode cL_isSo 516 = .ok (.ifCond .ne 39, 3) := by decide +kernel
theorem dL_isSo_519 : decode cL_isSo 519 = .ok (.iload 14, 2) := by decide +kernel
theorem dL_isSo_521 : decode cL_isSo 521 = .ok (.ifCond .lt 34, 3) := by decide +kernel
theorem dL_isSo_524 : decode cL_isSo 524 = .ok (.aload_n 0, 1) := by decide +kernel
theorem dL_isSo_525 : decode cL_isSo 525 = .ok (.iload 14, 2) := by decide +kernel
theorem dL_isSo_527 : decode cL_isSo 527 = .ok (.iload 11, 2) := by decide +kernel
theorem dL_isSo_529 : decode cL_isSo 529 = .ok (.iconst 1, 1) := by decide +kernel
theorem dL_isSo_530 : decode cL_isSo 530 = .ok (.isub, 1) := by decide +kernel
theorem dL_isSo_531 : decode cL_isSo 531 = .ok (.invokevirtual 131, 3) := by decide +kernel
theorem dL_isSo_534 : decode cL_isSo 534 = .ok (.ifCond .eq 21, 3) := by decide +kernel
theorem dL_isSo_537 : decode cL_isSo 537 = .ok (.aload_n 0, 1) := by decide +kernel
theorem dL_isSo_538 : decode cL_isSo 538 = .ok (.iload 11, 2) := by decide +kernel
theorem dL_isSo_540 : decode cL_isSo 540 = .ok (.iconst 2, 1) := by decide +kernel
theorem dL_isSo_541 : decode cL_isSo 541 = .ok (.invokevirtual 76, 3) := by decide +kernel
theorem dL_isSo_544 : decode cL_isSo 544 = .ok (.iload 12, 2) := by decide +kernel
theorem dL_isSo_546 : decode cL_isSo 546 = .ok (.ishr, 1) := by decide +kernel
theorem dL_isSo_547 : decode cL_isSo 547 = .ok (.iconst 1, 1) := by decide +kernel
theorem dL_isSo_548 : decode cL_isSo 548 = .ok (.iand, 1) := by decide +kernel
theorem dL_isSo_549 : decode cL_isSo 549 = .ok (.iconst 1, 1) := by decide +kernel
theorem dL_isSo_550 : decode cL_isSo 550 = .ok (.if_icmp .ne 5, 3) := by decide +kernel
theorem dL_isSo_553 : decode cL_isSo 553 = .ok (.iconst 0, 1) := by decide +kernel
theorem dL_isSo_554 : decode cL_isSo 554 = .ok (.ireturn, 1) := by decide +kernel
theorem dL_isSo_555 : decode cL_isSo 555 = .ok (.aload_n 0, 1) := by decide +kernel
theorem dL_isSo_556 : decode cL_isSo 556 = .ok (.iload 12, 2) := by decide +kernel
theorem dL_isSo_558 : decode cL_isSo 558 = .ok (.iload 11, 2) := by decide +kernel
theorem dL_isSo_560 : decode cL_isSo 560 = .ok (.iconst 1, 1) := by decide +kernel
theorem dL_isSo_561 : decode cL_isSo 561 = .ok (.isub, 1) := by decide +kernel
theorem dL_isSo_562 : decode cL_isSo 562 = .ok (.invokevirtual 131, 3) := by decide +kernel
theorem dL_isSo_565 : decode cL_isSo 565 = .ok (.ifCond .eq 8, 3) := by decide +kernel
theorem dL_isSo_568 : decode cL_isSo 568 = .ok (.iload 13, 2) := by decide +kernel
theorem dL_isSo_570 : decode cL_isSo 570 = .ok (.ifCond .eq 54, 3) := by decide +kernel
theorem dL_isSo_573 : decode cL_isSo 573 = .ok (.iload 13, 2) := by decide +kernel
theorem dL_isSo_575 : decode cL_isSo 575 = .ok (.ifCond .eq 51, 3) := by decide +kernel
theorem dL_isSo_578 : decode cL_isSo 578 = .ok (.aload_n 0, 1) := by decide +kernel
theorem dL_isSo_579 : decode cL_isSo 579 = .ok (.iload 12, 2) := by decide +kernel
theorem dL_isSo_581 : decode cL_isSo 581 = .ok (.iload 11, 2) := by decide +kernel
theorem dL_isSo_583 : decode cL_isSo 583 = .ok (.iconst 1, 1) := by decide +kernel
theorem dL_isSo_584 : decode cL_isSo 584 = .ok (.isub, 1) := by decide +kernel
theorem dL_isSo_585 : decode cL_isSo 585 = .ok (.invokevirtual 131, 3) := by decide +kernel
theorem dL_isSo_588 : decode cL_isSo 588 = .ok (.ifCond .ne 38, 3) := by decide +kernel
theorem dL_isSo_591 : decode cL_isSo 591 = .ok (.aload_n 0, 1) := by decide +kernel
theorem dL_isSo_592 : decode cL_isSo 592 = .ok (.iload 11, 2) := by decide +kernel
theorem dL_isSo_594 : decode cL_isSo 594 = .ok (.iconst 2, 1) := by decide +kernel
theorem dL_isSo_595 : decode cL_isSo 595 = .ok (.invokevirtual 76, 3) := by decide +kernel
theorem dL_isSo_598 : decode cL_isSo 598 = .ok (.iload 12, 2) := by decide +kernel
theorem dL_isSo_600 : decode cL_isSo 600 = .ok (.ishr, 1) := by decide +kernel
theorem dL_isSo_601 : decode cL_isSo 601 = .ok (.iconst 1, 1) := by decide +kernel
theorem dL_isSo_602 : decode cL_isSo 602 = .ok (.iand, 1) := by decide +kernel
theorem dL_isSo_603 : decode cL_isSo 603 = .ok (.ifCond .eq 21, 3) := by decide +kernel
theorem dL_isSo_606 : decode cL_isSo 606 = .ok (.iload 14, 2) := by decide +kernel
theorem dL_isSo_608 : decode cL_isSo 608 = .ok (.ifCond .lt 16, 3) := by decide +kernel
theorem dL_isSo_611 : decode cL_isSo 611 = .ok (.aload_n 0, 1) := by decide +kernel
theorem dL_isSo_612 : decode cL_isSo 612 = .ok (.iload 14, 2) := by decide +kernel
theorem dL_isSo_614 : decode cL_isSo 614 = .ok (.iload 11, 2) := by decide +kernel
theorem dL_isSo_616 : decode cL_isSo 616 = .ok (.iconst 1, 1) := by decide +kernel
theorem dL_isSo_617 : decode cL_isSo 617 = .ok (.isub, 1) := by decide +kernel
theorem dL_isSo_618 : decode cL_isSo 618 = .ok (.invokevirtual 131, 3) := by decide +kernel
theorem dL_isSo_621 : decode cL_isSo 621 = .ok (.ifCond .ne 5, 3) := by decide +kernel
theorem dL_isSo_624 : decode cL_isSo 624 = .ok (.iconst 0, 1) := by decide +kernel
theorem dL_isSo_625 : decode cL_isSo 625 = .ok (.ireturn, 1) := by decide +kernel
theorem dL_isSo_626 : decode cL_isSo 626 = .ok (.iinc 12 1, 3) := by decide +kernel
theorem dL_isSo_629 : decode cL_isSo 629 = .ok (.goto (-144), 3) := by decide +kernel
theorem dL_isSo_632 : decode cL_isSo 632 = .ok (.iinc 11 1, 3) := by decide +kernel
theorem dL_isSo_635 : decode cL_isSo 635 = .ok (.goto (-287), 3) := by decide +kernel
theorem dL_isSo_638 : decode cL_isSo 638 = .ok (.iload 10, 2) := by decide +kernel
theorem dL_isSo_640 : decode cL_isSo 640 = .ok (.ifCond .ge 7, 3) := by decide +kernel
theorem dL_isSo_643 : decode cL_isSo 643 = .ok (.iload_n 2, 1) := by decide +kernel
theorem dL_isSo_644 : decode cL_isSo 644 = .ok (.goto 14, 3) := by decide +kernel
theorem dL_isSo_647 : decode cL_isSo 647 = .ok (.iload_n 2, 1) := by decide +kernel
theorem dL_isSo_648 : decode cL_isSo 648 = .ok (.aload_n 0, 1) := by decide +kernel
theorem dL_isSo_649 : decode cL_isSo 649 = .ok (.iload 10, 2) := by decide +kernel
theorem dL_isSo_651 : decode cL_isSo 651 = .ok (.iconst 2, 1) := by decide +kernel
theorem dL_isSo_652 : decode cL_isSo 652 = .ok (.invokevirtual 76, 3) := by decide +kernel
theorem dL_isSo_655 : decode cL_isSo 655 = .ok (.iconst (-1), 1) := by decide +kernel
theorem dL_isSo_656 : decode cL_isSo 656 = .ok (.ixor, 1) := by decide +kernel
theorem dL_isSo_657 : decode cL_isSo 657 = .ok (.iand, 1) := by decide +kernel
theorem dL_isSo_658 : decode cL_isSo 658 = .ok (.istore 11, 2) := by decide +kernel
theorem dL_isSo_660 : decode cL_isSo 660 = .ok (.aload_n 0, 1) := by decide +kernel
theorem dL_isSo_661 : decode cL_isSo 661 = .ok (.iconst 4, 1) := by decide +kernel
theorem dL_isSo_662 : decode cL_isSo 662 = .ok (.invokevirtual 40, 3) := by decide +kernel
theorem dL_isSo_665 : decode cL_isSo 665 = .ok (.iload 8, 2) := by decide +kernel
theorem dL_isSo_667 : decode cL_isSo 667 = .ok (.if_icmp .ne 86, 3) := by decide +kernel
theorem dL_isSo_670 : decode cL_isSo 670 = .ok (.aload_n 0, 1) := by decide +kernel
theorem dL_isSo_671 : decode cL_isSo 671 = .ok (.iconst 5, 1) := by decide +kernel
theorem dL_isSo_672 : decode cL_isSo 672 = .ok (.invokevirtual 40, 3) := by decide +kernel
theorem dL_isSo_675 : decode cL_isSo 675 = .ok (.iload 9, 2) := by decide +kernel
theorem dL_isSo_677 : decode cL_isSo 677 = .ok (.if_icmp .ne 76, 3) := by decide +kernel
theorem dL_isSo_680 : decode cL_isSo 680 = .ok (.aload_n 0, 1) := by decide +kernel
theorem dL_isSo_681 : decode cL_isSo 681 = .ok (.bipush 6, 2) := by decide +kernel
theorem dL_isSo_683 : decode cL_isSo 683 = .ok (.invokevirtual 40, 3) := by decide +kernel
theorem dL_isSo_686 : decode cL_isSo 686 = .ok (.iload 10, 2) := by decide +kernel
theorem dL_isSo_688 : decode cL_isSo 688 = .ok (.if_icmp .ne 65, 3) := by decide +kernel
theorem dL_isSo_691 : decode cL_isSo 691 = .ok (.aload_n 0, 1) := by decide +kernel
theorem dL_isSo_692 : decode cL_isSo 692 = .ok (.bipush 8, 2) := by decide +kernel
theorem dL_isSo_694 : decode cL_isSo 694 = .ok (.invokevirtual 40, 3) := by decide +kernel
theorem dL_isSo_697 : decode cL_isSo 697 = .ok (.iload 11, 2) := by decide +kernel
theorem dL_isSo_699 : decode cL_isSo 699 = .ok (.if_icmp .ne 54, 3) := by decide +kernel
theorem dL_isSo_702 : decode cL_isSo 702 = .ok (.aload_n 0, 1) := by decide +kernel
theorem dL_isSo_703 : decode cL_isSo 703 = .ok (.iconst 0, 1) := by decide +kernel
theorem dL_isSo_704 : decode cL_isSo 704 = .ok (.invokevirtual 40, 3) := by decide +kernel
theorem dL_isSo_707 : decode cL_isSo 707 = .ok (.sipush 540, 3) := by decide +kernel
theorem dL_isSo_710 : decode cL_isSo 710 = .ok (.if_icmp .gt 43, 3) := by decide +kernel
theorem dL_isSo_713 : decode cL_isSo 713 = .ok (.aload_n 0, 1) := by decide +kernel
theorem dL_isSo_714 : decode cL_isSo 714 = .ok (.bipush 9, 2) := by decide +kernel
theorem dL_isSo_716 : decode cL_isSo 716 = .ok (.invokevirtual 40, 3) := by decide +kernel
theorem dL_isSo_719 : decode cL_isSo 719 = .ok (.ifCond .lt 34, 3) := by decide +kernel
theorem dL_isSo_722 : decode cL_isSo 722 = .ok (.aload_n 0, 1) := by decide +kernel
theorem dL_isSo_723 : decode cL_isSo 723 = .ok (.bipush 9, 2) := by decide +kernel
theorem dL_isSo_725 : decode cL_isSo 725 = .ok (.invokevirtual 40, 3) := by decide +kernel
theorem dL_isSo_728 : decode cL_isSo 728 = .ok (.bipush 100, 2) := by decide +kernel
theorem dL_isSo_730 : decode cL_isSo 730 = .ok (.if_icmp .gt 23, 3) := by decide +kernel
theorem dL_isSo_733 : decode cL_isSo 733 = .ok (.aload_n 0, 1) := by decide +kernel
theorem dL_isSo_734 : decode cL_isSo 734 = .ok (.bipush 10, 2) := by decide +kernel
theorem dL_isSo_736 : decode cL_isSo 736 = .ok (.invokevirtual 40, 3) := by decide +kernel
theorem dL_isSo_739 : decode cL_isSo 739 = .ok (.ifCond .lt 14, 3) := by decide +kernel
theorem dL_isSo_742 : decode cL_isSo 742 = .ok (.aload_n 0, 1) := by decide +kernel
theorem dL_isSo_743 : decode cL_isSo 743 = .ok (.bipush 10, 2) := by decide +kernel
theorem dL_isSo_745 : decode cL_isSo 745 = .ok (.invokevirtual 40, 3) := by decide +kernel
theorem dL_isSo_748 : decode cL_isSo 748 = .ok (.bipush 30, 2) := by decide +kernel
theorem dL_isSo_750 : decode cL_isSo 750 = .ok (.if_icmp .le 5, 3) := by decide +kernel
theorem dL_isSo_753 : decode cL_isSo 753 = .ok (.iconst 0, 1) := by decide +kernel
theorem dL_isSo_754 : decode cL_isSo 754 = .ok (.ireturn, 1) := by decide +kernel
theorem dL_isSo_755 : decode cL_isSo 755 = .ok (.aload_n 0, 1) := by decide +kernel
theorem dL_isSo_756 : decode cL_isSo 756 = .ok (.iconst 0, 1) := by decide +kernel
theorem dL_isSo_757 : decode cL_isSo 757 = .ok (.invokevirtual 69, 3) := by decide +kernel
theorem dL_isSo_760 : decode cL_isSo 760 = .ok (.istore 12, 2) := by decide +kernel
theorem dL_isSo_762 : decode cL_isSo 762 = .ok (.iload 12, 2) := by decide +kernel
theorem dL_isSo_764 : decode cL_isSo 764 = .ok (.ifCond .ne 8, 3) := by decide +kernel
theorem dL_isSo_767 : decode cL_isSo 767 = .ok (.bipush 8, 2) := by decide +kernel
theorem dL_isSo_769 : decode cL_isSo 769 = .ok (.goto 27, 3) := by decide +kernel
theorem dL_isSo_772 : decode cL_isSo 772 = .ok (.iload 12, 2) := by decide +kernel
theorem dL_isSo_774 : decode cL_isSo 774 = .ok (.iconst 1, 1) := by decide +kernel
theorem dL_isSo_775 : decode cL_isSo 775 = .ok (.if_icmp .ne 8, 3) := by decide +kernel
theorem dL_isSo_778 : decode cL_isSo 778 = .ok (.bipush 16, 2) := by decide +kernel
theorem dL_isSo_780 : decode cL_isSo 780 = .ok (.goto 16, 3) := by decide +kernel
theorem dL_isSo_783 : decode cL_isSo 783 = .ok (.iload 12, 2) := by decide +kernel
theorem dL_isSo_785 : decode cL_isSo 785 = .ok (.iconst 2, 1) := by decide +kernel
theorem dL_isSo_786 : decode cL_isSo 786 = .ok (.if_icmp .ne 8, 3) := by decide +kernel
theorem dL_isSo_789 : decode cL_isSo 789 = .ok (.bipush 12, 2) := by decide +kernel
theorem dL_isSo_791 : decode cL_isSo 791 = .ok (.goto 5, 3) := by decide +kernel
theorem dL_isSo_794 : decode cL_isSo 794 = .ok (.bipush 32, 2) := by decide +kernel
theorem dL_isSo_796 : decode cL_isSo 796 = .ok (.istore 13, 2) := by decide +kernel
theorem dL_isSo_798 : decode cL_isSo 798 = .ok (.aload_n 0, 1) := by decide +kernel
theorem dL_isSo_799 : decode cL_isSo 799 = .ok (.invokevirtual 135, 3) := by decide +kernel
theorem dL_isSo_802 : decode cL_isSo 802 = .ok (.istore 14, 2) := by decide +kernel
theorem dL_isSo_804 : decode cL_isSo 804 = .ok (.iload 12, 2) := by decide +kernel
theorem dL_isSo_806 : decode cL_isSo 806 = .ok (.ifCond .ge 35, 3) := by decide +kernel
theorem dL_isSo_809 : decode cL_isSo 809 = .ok (.aload_n 0, 1) := by decide +kernel
theorem dL_isSo_810 : decode cL_isSo 810 = .ok (.iconst 1, 1) := by decide +kernel
theorem dL_isSo_811 : decode cL_isSo 811 = .ok (.invokevirtual 69, 3) := by decide +kernel
theorem dL_isSo_814 : decode cL_isSo 814 = .ok (.aload_n 0, 1) := by decide +kernel
theorem dL_isSo_815 : decode cL_isSo 815 = .ok (.iconst 2, 1) := by decide +kernel
theorem dL_isSo_816 : decode cL_isSo 816 = .ok (.invokevirtual 69, 3) := by decide +kernel
theorem dL_isSo_819 : decode cL_isSo 819 = .ok (.iadd, 1) := by decide +kernel
theorem dL_isSo_820 : decode cL_isSo 820 = .ok (.aload_n 0, 1) := by decide +kernel
theorem dL_isSo_821 : decode cL_isSo 821 = .ok (.iconst 3, 1) := by decide +kernel
theorem dL_isSo_822 : decode cL_isSo 822 = .ok (.invokevirtual 69, 3) := by decide +kernel
theorem dL_isSo_825 : decode cL_isSo 825 = .ok (.iadd, 1) := by decide +kernel
theorem dL_isSo_826 : decode cL_isSo 826 = .ok (.ifCond .ne 13, 3) := by decide +kernel
theorem dL_isSo_829 : decode cL_isSo 829 = .ok (.iload 14, 2) := by decide +kernel
theorem dL_isSo_831 : decode cL_isSo 831 = .ok (.iconst (-1), 1) := by decide +kernel
theorem dL_isSo_832 : decode cL_isSo 832 = .ok (.if_icmp .ne 7, 3) := by decide +kernel
theorem dL_isSo_835 : decode cL_isSo 835 = .ok (.iconst 1, 1) := by decide +kernel
theorem dL_isSo_836 : decode cL_isSo 836 = .ok (.goto 4, 3) := by decide +kernel
theorem dL_isSo_839 : decode cL_isSo 839 = .ok (.iconst 0, 1) := by decide +kernel
theorem dL_isSo_840 : decode cL_isSo 840 = .ok (.ireturn, 1) := by decide +kernel
theorem dL_isSo_841 : decode cL_isSo 841 = .ok (.aload_n 0, 1) := by decide +kernel
theorem dL_isSo_842 : decode cL_isSo 842 = .ok (.invokevirtual 138, 3) := by decide +kernel
theorem dL_isSo_845 : decode cL_isSo 845 = .ok (.istore 15, 2) := by decide +kernel
theorem dL_isSo_847 : decode cL_isSo 847 = .ok (.aload_n 0, 1) := by decide +kernel
theorem dL_isSo_848 : decode cL_isSo 848 = .ok (.iconst 1, 1) := by decide +kernel
theorem dL_isSo_849 : decode cL_isSo 849 = .ok (.invokevirtual 69, 3) := by decide +kernel
theorem dL_isSo_852 : decode cL_isSo 852 = .ok (.ifCond .le 116, 3) := by decide +kernel
theorem dL_isSo_855 : decode cL_isSo 855 = .ok (.aload_n 0, 1) := by decide +kernel
theorem dL_isSo_856 : decode cL_isSo 856 = .ok (.iconst 1, 1) := by decide +kernel
theorem dL_isSo_857 : decode cL_isSo 857 = .ok (.invokevirtual 69, 3) := by decide +kernel
theorem dL_isSo_860 : decode cL_isSo 860 = .ok (.iconst 4, 1) := by decide +kernel
theorem dL_isSo_861 : decode cL_isSo 861 = .ok (.if_icmp .ge 107, 3) := by decide +kernel
theorem dL_isSo_864 : decode cL_isSo 864 = .ok (.aload_n 0, 1) := by decide +kernel
theorem dL_isSo_865 : decode cL_isSo 865 = .ok (.iconst 2, 1) := by decide +kernel
theorem dL_isSo_866 : decode cL_isSo 866 = .ok (.invokevirtual 69, 3) := by decide +kernel
theorem dL_isSo_869 : decode cL_isSo 869 = .ok (.ifCond .lt 99, 3) := by decide +kernel
theorem dL_isSo_872 : decode cL_isSo 872 = .ok (.aload_n 0, 1) := by decide +kernel
theorem dL_isSo_873 : decode cL_isSo 873 = .ok (.iconst 2, 1) := by decide +kernel
theorem dL_isSo_874 : decode cL_isSo 874 = .ok (.invokevirtual 69, 3) := by decide +kernel
theorem dL_isSo_877 : decode cL_isSo 877 = .ok (.iload 13, 2) := by decide +kernel
theorem dL_isSo_879 : decode cL_isSo 879 = .ok (.if_icmp .ge 89, 3) := by decide +kernel
theorem dL_isSo_882 : decode cL_isSo 882 = .ok (.bipush 8, 2) := by decide +kernel
theorem dL_isSo_884 : decode cL_isSo 884 = .ok (.aload_n 0, 1) := by decide +kernel
theorem dL_isSo_885 : decode cL_isSo 885 = .ok (.iconst 1, 1) := by decide +kernel
theorem dL_isSo_886 : decode cL_isSo 886 = .ok (.invokevirtual 69, 3) := by decide +kernel
theorem dL_isSo_889 : decode cL_isSo 889 = .ok (.imul, 1) := by decide +kernel
theorem dL_isSo_890 : decode cL_isSo 890 = .ok (.iload 14, 2) := by decide +kernel
theorem dL_isSo_892 : decode cL_isSo 892 = .ok (.imul, 1) := by decide +kernel
theorem dL_isSo_893 : decode cL_isSo 893 = .ok (.aload_n 0, 1) := by decide +kernel
theorem dL_isSo_894 : decode cL_isSo 894 = .ok (.iconst 2, 1) := by decide +kernel
theorem dL_isSo_895 : decode cL_isSo 895 = .ok (.invokevirtual 69, 3) := by decide +kernel
theorem dL_isSo_898 : decode cL_isSo 898 = .ok (.iadd, 1) := by decide +kernel
theorem dL_isSo_899 : decode cL_isSo 899 = .ok (.iload 13, 2) := by decide +kernel
theorem dL_isSo_901 : decode cL_isSo 901 = .ok (.if_icmp .lt 67, 3) := by decide +kernel
theorem dL_isSo_904 : decode cL_isSo 904 = .ok (.bipush 8, 2) := by decide +kernel
theorem dL_isSo_906 : decode cL_isSo 906 = .ok (.aload_n 0, 1) := by decide +kernel
theorem dL_isSo_907 : decode cL_isSo 907 = .ok (.iconst 1, 1) := by decide +kernel
theorem dL_isSo_908 : decode cL_isSo 908 = .ok (.invokevirtual 69, 3) := by decide +kernel
theorem dL_isSo_911 : decode cL_isSo 911 = .ok (.imul, 1) := by decide +kernel
theorem dL_isSo_912 : decode cL_isSo 912 = .ok (.iload 14, 2) := by decide +kernel
theorem dL_isSo_914 : decode cL_isSo 914 = .ok (.iconst 1, 1) := by decide +kernel
theorem dL_isSo_915 : decode cL_isSo 915 = .ok (.isub, 1) := by decide +kernel
theorem dL_isSo_916 : decode cL_isSo 916 = .ok (.imul, 1) := by decide +kernel
theorem dL_isSo_917 : decode cL_isSo 917 = .ok (.aload_n 0, 1) := by decide +kernel
theorem dL_isSo_918 : decode cL_isSo 918 = .ok (.iconst 2, 1) := by decide +kernel
theorem dL_isSo_919 : decode cL_isSo 919 = .ok (.invokevirtual 69, 3) := by decide +kernel
theorem dL_isSo_922 : decode cL_isSo 922 = .ok (.iadd, 1) := by decide +kernel
theorem dL_isSo_923 : decode cL_isSo 923 = .ok (.iload 13, 2) := by decide +kernel
theorem dL_isSo_925 : decode cL_isSo 925 = .ok (.if_icmp .ge 43, 3) := by decide +kernel
theorem dL_isSo_928 : decode cL_isSo 928 = .ok (.iload 15, 2) := by decide +kernel
theorem dL_isSo_930 : decode cL_isSo 930 = .ok (.ifCond .lt 34, 3) := by decide +kernel
theorem dL_isSo_933 : decode cL_isSo 933 = .ok (.iload 15, 2) := by decide +kernel
theorem dL_isSo_935 : decode cL_isSo 935 = .ok (.bipush 10, 2) := by decide +kernel
theorem dL_isSo_937 : decode cL_isSo 937 = .ok (.idiv, 1) := by decide +kernel
theorem dL_isSo_938 : decode cL_isSo 938 = .ok (.iload 15, 2) := by decide +kernel
theorem dL_isSo_940 : decode cL_isSo 940 = .ok (.bipush 10, 2) := by decide +kernel
theorem dL_isSo_942 : decode cL_isSo 942 = .ok (.irem, 1) := by decide +kernel
theorem dL_isSo_943 : decode cL_isSo 943 = .ok (.if_icmp .ge 25, 3) := by decide +kernel
theorem dL_isSo_946 : decode cL_isSo 946 = .ok (.iload 15, 2) := by decide +kernel
theorem dL_isSo_948 : decode cL_isSo 948 = .ok (.bipush 10, 2) := by decide +kernel
theorem dL_isSo_950 : decode cL_isSo 950 = .ok (.irem, 1) := by decide +kernel
theorem dL_isSo_951 : decode cL_isSo 951 = .ok (.aload_n 0, 1) := by decide +kernel
theorem dL_isSo_952 : decode cL_isSo 952 = .ok (.iconst 3, 1) := by decide +kernel
theorem dL_isSo_953 : decode cL_isSo 953 = .ok (.invokevirtual 40, 3) := by decide +kernel
theorem dL_isSo_956 : decode cL_isSo 956 = .ok (.if_icmp .ge 12, 3) := by decide +kernel
theorem dL_isSo_959 : decode cL_isSo 959 = .ok (.iload 9, 2) := by decide +kernel
theorem dL_isSo_961 : decode cL_isSo 961 = .ok (.ifCond .le 7, 3) := by decide +kernel
theorem dL_isSo_964 : decode cL_isSo 964 = .ok (.iconst 1, 1) := by decide +kernel
theorem dL_isSo_965 : decode cL_isSo 965 = .ok (.goto 4, 3) := by decide +kernel
theorem dL_isSo_968 : decode cL_isSo 968 = .ok (.iconst 0, 1) := by decide +kernel
theorem dL_isSo_969 : decode cL_isSo 969 = .ok (.ireturn, 1) := by decide +kernel

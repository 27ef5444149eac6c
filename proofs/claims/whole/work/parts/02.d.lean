theorem dX6_digest_137 : decode cX6_digest 137 = .ok (.invokestatic 332, 3) := by decide +kernel
theorem dX6_digest_140 : decode cX6_digest 140 = .ok (.lreturn, 1) := by decide +kernel
theorem dX6_mix_0 : decode cX6_mix 0 = .ok (.lload_n 0, 1) := by decide +kernel
theorem dX6_mix_1 : decode cX6_mix 1 = .ok (.ldc2_w 346, 3) := by decide +kernel
theorem dX6_mix_4 : decode cX6_mix 4 = .ok (.lmul, 1) := by decide +kernel
theorem dX6_mix_5 : decode cX6_mix 5 = .ok (.lload_n 2, 1) := by decide +kernel
theorem dX6_mix_6 : decode cX6_mix 6 = .ok (.ladd, 1) := by decide +kernel
theorem dX6_mix_7 : decode cX6_mix 7 = .ok (.lreturn, 1) := by decide +kernel
theorem dX6_mixPersons_0 : decode cX6_mixPersons 0 = .ok (.aload_n 0, 1) := by decide +kernel
theorem dX6_mixPersons_1 : decode cX6_mixPersons 1 = .ok (.getfield 10, 3) := by decide +kernel
theorem dX6_mixPersons_4 : decode cX6_mixPersons 4 = .ok (.aload_n 0, 1) := by decide +kernel
theorem dX6_mixPersons_5 : decode cX6_mixPersons 5 = .ok (.getfield 10, 3) := by decide +kernel
theorem dX6_mixPersons_8 : decode cX6_mixPersons 8 = .ok (.getfield 131, 3) := by decide +kernel
theorem dX6_mixPersons_11 : decode cX6_mixPersons 11 = .ok (.invokevirtual 67, 3) := by decide +kernel
theorem dX6_mixPersons_14 : decode cX6_mixPersons 14 = .ok (.iconst 1, 1) := by decide +kernel
theorem dX6_mixPersons_15 : decode cX6_mixPersons 15 = .ok (.isub, 1) := by decide +kernel
theorem dX6_mixPersons_16 : decode cX6_mixPersons 16 = .ok (.invokevirtual 292, 3) := by decide +kernel
theorem dX6_mixPersons_19 : decode cX6_mixPersons 19 = .ok (.istore_n 3, 1) := by decide +kernel
theorem dX6_mixPersons_20 : decode cX6_mixPersons 20 = .ok (.lload_n 1, 1) := by decide +kernel
theorem dX6_mixPersons_21 : decode cX6_mixPersons 21 = .ok (.lstore 4, 2) := by decide +kernel
theorem dX6_mixPersons_23 : decode cX6_mixPersons 23 = .ok (.iconst 0, 1) := by decide +kernel
theorem dX6_mixPersons_24 : decode cX6_mixPersons 24 = .ok (.istore 6, 2) := by decide +kernel
theorem dX6_mixPersons_26 : decode cX6_mixPersons 26 = .ok (.iload 6, 2) := by decide +kernel
theorem dX6_mixPersons_28 : decode cX6_mixPersons 28 = .ok (.aload_n 0, 1) := by decide +kernel
theorem dX6_mixPersons_29 : decode cX6_mixPersons 29 = .ok (.getfield 10, 3) := by decide +kernel
theorem dX6_mixPersons_32 : decode cX6_mixPersons 32 = .ok (.getfield 63, 3) := by decide +kernel
theorem dX6_mixPersons_35 : decode cX6_mixPersons 35 = .ok (.invokevirtual 67, 3) := by decide +kernel
theorem dX6_mixPersons_38 : decode cX6_mixPersons 38 = .ok (.if_icmp .ge 30, 3) := by decide +kernel
theorem dX6_mixPersons_41 : decode cX6_mixPersons 41 = .ok (.lload 4, 2) := by decide +kernel
theorem dX6_mixPersons_43 : decode cX6_mixPersons 43 = .ok (.iload_n 3, 1) := by decide +kernel
theorem dX6_mixPersons_44 : decode cX6_mixPersons 44 = .ok (.iload 6, 2) := by decide +kernel
theorem dX6_mixPersons_46 : decode cX6_mixPersons 46 = .ok (.invokestatic 260, 3) := by decide +kernel
theorem dX6_mixPersons_49 : decode cX6_mixPersons 49 = .ok (.ifCond .eq 7, 3) := by decide +kernel
theorem dX6_mixPersons_52 : decode cX6_mixPersons 52 = .ok (.lconst 1, 1) := by decide +kernel
theorem dX6_mixPersons_53 : decode cX6_mixPersons 53 = .ok (.goto 4, 3) := by decide +kernel
theorem dX6_mixPersons_56 : decode cX6_mixPersons 56 = .ok (.lconst 0, 1) := by decide +kernel
theorem dX6_mixPersons_57 : decode cX6_mixPersons 57 = .ok (.invokestatic 332, 3) := by decide +kernel
theorem dX6_mixPersons_60 : decode cX6_mixPersons 60 = .ok (.lstore 4, 2) := by decide +kernel
theorem dX6_mixPersons_62 : decode cX6_mixPersons 62 = .ok (.iinc 6 1, 3) := by decide +kernel
theorem dX6_mixPersons_65 : decode cX6_mixPersons 65 = .ok (.goto (-39), 3) := by decide +kernel
theorem dX6_mixPersons_68 : decode cX6_mixPersons 68 = .ok (.lload 4, 2) := by decide +kernel
theorem dX6_mixPersons_70 : decode cX6_mixPersons 70 = .ok (.lreturn, 1) := by decide +kernel
theorem dX6_mixFigures_0 : decode cX6_mixFigures 0 = .ok (.lload_n 1, 1) := by decide +kernel
theorem dX6_mixFigures_1 : decode cX6_mixFigures 1 = .ok (.lstore_n 3, 1) := by decide +kernel
theorem dX6_mixFigures_2 : decode cX6_mixFigures 2 = .ok (.iconst 0, 1) := by decide +kernel
theorem dX6_mixFigures_3 : decode cX6_mixFigures 3 = .ok (.istore 5, 2) := by decide +kernel
theorem dX6_mixFigures_5 : decode cX6_mixFigures 5 = .ok (.iload 5, 2) := by decide +kernel
theorem dX6_mixFigures_7 : decode cX6_mixFigures 7 = .ok (.aload_n 0, 1) := by decide +kernel
theorem dX6_mixFigures_8 : decode cX6_mixFigures 8 = .ok (.getfield 19, 3) := by decide +kernel
theorem dX6_mixFigures_11 : decode cX6_mixFigures 11 = .ok (.getfield 98, 3) := by decide +kernel
theorem dX6_mixFigures_14 : decode cX6_mixFigures 14 = .ok (.invokevirtual 67, 3) := by decide +kernel
theorem dX6_mixFigures_17 : decode cX6_mixFigures 17 = .ok (.if_icmp .ge 76, 3) := by decide +kernel
theorem dX6_mixFigures_20 : decode cX6_mixFigures 20 = .ok (.aload_n 0, 1) := by decide +kernel
theorem dX6_mixFigures_21 : decode cX6_mixFigures 21 = .ok (.getfield 19, 3) := by decide +kernel
theorem dX6_mixFigures_24 : decode cX6_mixFigures 24 = .ok (.getfield 98, 3) := by decide +kernel
theorem dX6_mixFigures_27 : decode cX6_mixFigures 27 = .ok (.iload 5, 2) := by decide +kernel
theorem dX6_mixFigures_29 : decode cX6_mixFigures 29 = .ok (.invokevirtual 105, 3) := by decide +kernel
theorem dX6_mixFigures_32 : decode cX6_mixFigures 32 = .ok (.checkcast 103, 3) := by decide +kernel
theorem dX6_mixFigures_35 : decode cX6_mixFigures 35 = .ok (.astore 6, 2) := by decide +kernel
theorem dX6_mixFigures_37 : decode cX6_mixFigures 37 = .ok (.iconst 0, 1) := by decide +kernel
theorem dX6_mixFigures_38 : decode cX6_mixFigures 38 = .ok (.istore 7, 2) := by decide +kernel
theorem dX6_mixFigures_40 : decode cX6_mixFigures 40 = .ok (.iload 7, 2) := by decide +kernel
theorem dX6_mixFigures_42 : decode cX6_mixFigures 42 = .ok (.bipush 7, 2) := by decide +kernel
theorem dX6_mixFigures_44 : decode cX6_mixFigures 44 = .ok (.if_icmp .gt 26, 3) := by decide +kernel
theorem dX6_mixFigures_47 : decode cX6_mixFigures 47 = .ok (.lload_n 3, 1) := by decide +kernel
theorem dX6_mixFigures_48 : decode cX6_mixFigures 48 = .ok (.aload_n 0, 1) := by decide +kernel
theorem dX6_mixFigures_49 : decode cX6_mixFigures 49 = .ok (.getfield 19, 3) := by decide +kernel
theorem dX6_mixFigures_52 : decode cX6_mixFigures 52 = .ok (.aload 6, 2) := by decide +kernel
theorem dX6_mixFigures_54 : decode cX6_mixFigures 54 = .ok (.iload 7, 2) := by decide +kernel
theorem dX6_mixFigures_56 : decode cX6_mixFigures 56 = .ok (.invokevirtual 297, 3) := by decide +kernel
theorem dX6_mixFigures_59 : decode cX6_mixFigures 59 = .ok (.i2l, 1) := by decide +kernel
theorem dX6_mixFigures_60 : decode cX6_mixFigures 60 = .ok (.invokestatic 332, 3) := by decide +kernel
theorem dX6_mixFigures_63 : decode cX6_mixFigures 63 = .ok (.lstore_n 3, 1) := by decide +kernel
theorem dX6_mixFigures_64 : decode cX6_mixFigures 64 = .ok (.iinc 7 1, 3) := by decide +kernel
theorem dX6_mixFigures_67 : decode cX6_mixFigures 67 = .ok (.goto (-27), 3) := by decide +kernel
theorem dX6_mixFigures_70 : decode cX6_mixFigures 70 = .ok (.lload_n 3, 1) := by decide +kernel
theorem dX6_mixFigures_71 : decode cX6_mixFigures 71 = .ok (.aload_n 0, 1) := by decide +kernel
theorem dX6_mixFigures_72 : decode cX6_mixFigures 72 = .ok (.getfield 19, 3) := by decide +kernel
theorem dX6_mixFigures_75 : decode cX6_mixFigures 75 = .ok (.aload 6, 2) := by decide +kernel
theorem dX6_mixFigures_77 : decode cX6_mixFigures 77 = .ok (.bipush 60, 2) := by decide +kernel
theorem dX6_mixFigures_79 : decode cX6_mixFigures 79 = .ok (.invokevirtual 324, 3) := by decide +kernel
theorem dX6_mixFigures_82 : decode cX6_mixFigures 82 = .ok (.i2l, 1) := by decide +kernel
theorem dX6_mixFigures_83 : decode cX6_mixFigures 83 = .ok (.invokestatic 332, 3) := by decide +kernel
theorem dX6_mixFigures_86 : decode cX6_mixFigures 86 = .ok (.lstore_n 3, 1) := by decide +kernel
theorem dX6_mixFigures_87 : decode cX6_mixFigures 87 = .ok (.iinc 5 1, 3) := by decide +kernel
theorem dX6_mixFigures_90 : decode cX6_mixFigures 90 = .ok (.goto (-85), 3) := by decide +kernel
theorem dX6_mixFigures_93 : decode cX6_mixFigures 93 = .ok (.lload_n 3, 1) := by decide +kernel
theorem dX6_mixFigures_94 : decode cX6_mixFigures 94 = .ok (.lreturn, 1) := by decide +kernel
theorem dX6_mixScenes_0 : decode cX6_mixScenes 0 = .ok (.lload_n 1, 1) := by decide +kernel
theorem dX6_mixScenes_1 : decode cX6_mixScenes 1 = .ok (.lstore_n 3, 1) := by decide +kernel
theorem dX6_mixScenes_2 : decode cX6_mixScenes 2 = .ok (.iconst 0, 1) := by decide +kernel
theorem dX6_mixScenes_3 : decode cX6_mixScenes 3 = .ok (.istore 5, 2) := by decide +kernel
theorem dX6_mixScenes_5 : decode cX6_mixScenes 5 = .ok (.iload 5, 2) := by decide +kernel
theorem dX6_mixScenes_7 : decode cX6_mixScenes 7 = .ok (.aload_n 0, 1) := by decide +kernel
theorem dX6_mixScenes_8 : decode cX6_mixScenes 8 = .ok (.getfield 10, 3) := by decide +kernel
theorem dX6_mixScenes_11 : decode cX6_mixScenes 11 = .ok (.getfield 131, 3) := by decide +kernel
theorem dX6_mixScenes_14 : decode cX6_mixScenes 14 = .ok (.invokevirtual 67, 3) := by decide +kernel
theorem dX6_mixScenes_17 : decode cX6_mixScenes 17 = .ok (.if_icmp .ge 51, 3) := by decide +kernel
theorem dX6_mixScenes_20 : decode cX6_mixScenes 20 = .ok (.iconst 0, 1) := by decide +kernel
theorem dX6_mixScenes_21 : decode cX6_mixScenes 21 = .ok (.istore 6, 2) := by decide +kernel
theorem dX6_mixScenes_23 : decode cX6_mixScenes 23 = .ok (.iload 6, 2) := by decide +kernel
theorem dX6_mixScenes_25 : decode cX6_mixScenes 25 = .ok (.bipush 8, 2) := by decide +kernel
theorem dX6_mixScenes_27 : decode cX6_mixScenes 27 = .ok (.if_icmp .gt 35, 3) := by decide +kernel
theorem dX6_mixScenes_30 : decode cX6_mixScenes 30 = .ok (.lload_n 3, 1) := by decide +kernel
theorem dX6_mixScenes_31 : decode cX6_mixScenes 31 = .ok (.aload_n 0, 1) := by decide +kernel
theorem dX6_mixScenes_32 : decode cX6_mixScenes 32 = .ok (.getfield 10, 3) := by decide +kernel
theorem dX6_mixScenes_35 : decode cX6_mixScenes 35 = .ok (.getfield 131, 3) := by decide +kernel
theorem dX6_mixScenes_38 : decode cX6_mixScenes 38 = .ok (.iload 5, 2) := by decide +kernel
theorem dX6_mixScenes_40 : decode cX6_mixScenes 40 = .ok (.invokevirtual 105, 3) := by decide +kernel
theorem dX6_mixScenes_43 : decode cX6_mixScenes 43 = .ok (.checkcast 147, 3) := by decide +kernel
theorem dX6_mixScenes_46 : decode cX6_mixScenes 46 = .ok (.iload 6, 2) := by decide +kernel
theorem dX6_mixScenes_48 : decode cX6_mixScenes 48 = .ok (.invokevirtual 302, 3) := by decide +kernel
theorem dX6_mixScenes_51 : decode cX6_mixScenes 51 = .ok (.i2l, 1) := by decide +kernel
theorem dX6_mixScenes_52 : decode cX6_mixScenes 52 = .ok (.invokestatic 332, 3) := by decide +kernel
theorem dX6_mixScenes_55 : decode cX6_mixScenes 55 = .ok (.lstore_n 3, 1) := by decide +kernel
theorem dX6_mixScenes_56 : decode cX6_mixScenes 56 = .ok (.iinc 6 1, 3) := by decide +kernel
theorem dX6_mixScenes_59 : decode cX6_mixScenes 59 = .ok (.goto (-36), 3) := by decide +kernel
theorem dX6_mixScenes_62 : decode cX6_mixScenes 62 = .ok (.iinc 5 1, 3) := by decide +kernel
theorem dX6_mixScenes_65 : decode cX6_mixScenes 65 = .ok (.goto (-60), 3) := by decide +kernel
theorem dX6_mixScenes_68 : decode cX6_mixScenes 68 = .ok (.lload_n 3, 1) := by decide +kernel
theorem dX6_mixScenes_69 : decode cX6_mixScenes 69 = .ok (.lreturn, 1) := by decide +kernel
theorem dX6_nightValue_0 : decode cX6_nightValue 0 = .ok (.iload_n 1, 1) := by decide +kernel
theorem dX6_nightValue_1 : decode cX6_nightValue 1 = .ok (.tableswitch 187 0 14 #[75, 80, 91, 102, 113, 121, 129, 141, 149, 154, 159, 164, 169, 174, 179], 75) := by decide +kernel
theorem dX6_nightValue_76 : decode cX6_nightValue 76 = .ok (.aload_n 0, 1) := by decide +kernel
theorem dX6_nightValue_77 : decode cX6_nightValue 77 = .ok (.getfield 30, 3) := by decide +kernel
theorem dX6_nightValue_80 : decode cX6_nightValue 80 = .ok (.ireturn, 1) := by decide +kernel
theorem dX6_nightValue_81 : decode cX6_nightValue 81 = .ok (.aload_n 0, 1) := by decide +kernel
theorem dX6_nightValue_82 : decode cX6_nightValue 82 = .ok (.getfield 10, 3) := by decide +kernel
theorem dX6_nightValue_85 : decode cX6_nightValue 85 = .ok (.getfield 63, 3) := by decide +kernel
theorem dX6_nightValue_88 : decode cX6_nightValue 88 = .ok (.invokevirtual 67, 3) := by decide +kernel
theorem dX6_nightValue_91 : decode cX6_nightValue 91 = .ok (.ireturn, 1) := by decide +kernel
theorem dX6_nightValue_92 : decode cX6_nightValue 92 = .ok (.aload_n 0, 1) := by decide +kernel
theorem dX6_nightValue_93 : decode cX6_nightValue 93 = .ok (.getfield 19, 3) := by decide +kernel
theorem dX6_nightValue_96 : decode cX6_nightValue 96 = .ok (.getfield 98, 3) := by decide +kernel
theorem dX6_nightValue_99 : decode cX6_nightValue 99 = .ok (.invokevirtual 67, 3) := by decide +kernel
theorem dX6_nightValue_102 : decode cX6_nightValue 102 = .ok (.ireturn, 1) := by decide +kernel
theorem dX6_nightValue_103 : decode cX6_nightValue 103 = .ok (.aload_n 0, 1) := by decide +kernel
theorem dX6_nightValue_104 : decode cX6_nightValue 104 = .ok (.getfield 10, 3) := by decide +kernel
theorem dX6_nightValue_107 : decode cX6_nightValue 107 = .ok (.getfield 131, 3) := by decide +kernel
theorem dX6_nightValue_110 : decode cX6_nightValue 110 = .ok (.invokevirtual 67, 3) := by decide +kernel
theorem dX6_nightValue_113 : decode cX6_nightValue 113 = .ok (.ireturn, 1) := by decide +kernel
theorem dX6_nightValue_114 : decode cX6_nightValue 114 = .ok (.aload_n 0, 1) := by decide +kernel
theorem dX6_nightValue_115 : decode cX6_nightValue 115 = .ok (.getfield 10, 3) := by decide +kernel
theorem dX6_nightValue_118 : decode cX6_nightValue 118 = .ok (.getfield 348, 3) := by decide +kernel
theorem dX6_nightValue_121 : decode cX6_nightValue 121 = .ok (.ireturn, 1) := by decide +kernel
theorem dX6_nightValue_122 : decode cX6_nightValue 122 = .ok (.aload_n 0, 1) := by decide +kernel
theorem dX6_nightValue_123 : decode cX6_nightValue 123 = .ok (.getfield 10, 3) := by decide +kernel
theorem dX6_nightValue_126 : decode cX6_nightValue 126 = .ok (.getfield 164, 3) := by decide +kernel
theorem dX6_nightValue_129 : decode cX6_nightValue 129 = .ok (.ireturn, 1) := by decide +kernel
theorem dX6_nightValue_130 : decode cX6_nightValue 130 = .ok (.aload_n 0, 1) := by decide +kernel
theorem dX6_nightValue_131 : decode cX6_nightValue 131 = .ok (.getfield 10, 3) := by decide +kernel
theorem dX6_nightValue_134 : decode cX6_nightValue 134 = .ok (.aload_n 0, 1) := by decide +kernel
theorem dX6_nightValue_135 : decode cX6_nightValue 135 = .ok (.getfield 30, 3) := by decide +kernel
theorem dX6_nightValue_138 : decode cX6_nightValue 138 = .ok (.invokevirtual 350, 3) := by decide +kernel
theorem dX6_nightValue_141 : decode cX6_nightValue 141 = .ok (.ireturn, 1) := by decide +kernel
theorem dX6_nightValue_142 : decode cX6_nightValue 142 = .ok (.aload_n 0, 1) := by decide +kernel
theorem dX6_nightValue_143 : decode cX6_nightValue 143 = .ok (.getfield 19, 3) := by decide +kernel
theorem dX6_nightValue_146 : decode cX6_nightValue 146 = .ok (.invokevirtual 257, 3) := by decide +kernel
theorem dX6_nightValue_149 : decode cX6_nightValue 149 = .ok (.ireturn, 1) := by decide +kernel
theorem dX6_nightValue_150 : decode cX6_nightValue 150 = .ok (.aload_n 0, 1) := by decide +kernel
theorem dX6_nightValue_151 : decode cX6_nightValue 151 = .ok (.invokevirtual 353, 3) := by decide +kernel
theorem dX6_nightValue_154 : decode cX6_nightValue 154 = .ok (.ireturn, 1) := by decide +kernel
theorem dX6_nightValue_155 : decode cX6_nightValue 155 = .ok (.aload_n 0, 1) := by decide +kernel
theorem dX6_nightValue_156 : decode cX6_nightValue 156 = .ok (.getfield 34, 3) := by decide +kernel
theorem dX6_nightValue_159 : decode cX6_nightValue 159 = .ok (.ireturn, 1) := by decide +kernel
theorem dX6_nightValue_160 : decode cX6_nightValue 160 = .ok (.aload_n 0, 1) := by decide +kernel
theorem dX6_nightValue_161 : decode cX6_nightValue 161 = .ok (.getfield 40, 3) := by decide +kernel
theorem dX6_nightValue_164 : decode cX6_nightValue 164 = .ok (.ireturn, 1) := by decide +kernel
theorem dX6_nightValue_165 : decode cX6_nightValue 165 = .ok (.aload_n 0, 1) := by decide +kernel
theorem dX6_nightValue_166 : decode cX6_nightValue 166 = .ok (.getfield 43, 3) := by decide +kernel
theorem dX6_nightValue_169 : decode cX6_nightValue 169 = .ok (.ireturn, 1) := by decide +kernel
theorem dX6_nightValue_170 : decode cX6_nightValue 170 = .ok (.aload_n 0, 1) := by decide +kernel
theorem dX6_nightValue_171 : decode cX6_nightValue 171 = .ok (.getfield 46, 3) := by decide +kernel
theorem dX6_nightValue_174 : decode cX6_nightValue 174 = .ok (.ireturn, 1) := by decide +kernel
theorem dX6_nightValue_175 : decode cX6_nightValue 175 = .ok (.aload_n 0, 1) := by decide +kernel
theorem dX6_nightValue_176 : decode cX6_nightValue 176 = .ok (.getfield 49, 3) := by decide +kernel
theorem dX6_nightValue_179 : decode cX6_nightValue 179 = .ok (.ireturn, 1) := by decide +kernel
theorem dX6_nightValue_180 : decode cX6_nightValue 180 = .ok (.aload_n 0, 1) := by decide +kernel
theorem dX6_nightValue_181 : decode cX6_nightValue 181 = .ok (.getfield 26, 3) := by decide +kernel
theorem dX6_nightValue_184 : decode cX6_nightValue 184 = .ok (.getfield 287, 3) := by decide +kernel
theorem dX6_nightValue_187 : decode cX6_nightValue 187 = .ok (.ireturn, 1) := by decide +kernel
theorem dX6_nightValue_188 : decode cX6_nightValue 188 = .ok (.aload_n 0, 1) := by decide +kernel
theorem dX6_nightValue_189 : decode cX6_nightValue 189 = .ok (.getfield 19, 3) := by decide +kernel
theorem dX6_nightValue_192 : decode cX6_nightValue 192 = .ok (.invokevirtual 244, 3) := by decide +kernel
theorem dX6_nightValue_195 : decode cX6_nightValue 195 = .ok (.ireturn, 1) := by decide +kernel
theorem dX6_strangers_0 : decode cX6_strangers 0 = .ok (.aload_n 0, 1) := by decide +kernel
theorem dX6_strangers_1 : decode cX6_strangers 1 = .ok (.getfield 10, 3) := by decide +kernel
theorem dX6_strangers_4 : decode cX6_strangers 4 = .ok (.aload_n 0, 1) := by decide +kernel
theorem dX6_strangers_5 : decode cX6_strangers 5 = .ok (.getfield 30, 3) := by decide +kernel
theorem dX6_strangers_8 : decode cX6_strangers 8 = .ok (.invokevirtual 350, 3) := by decide +kernel
theorem dX6_strangers_11 : decode cX6_strangers 11 = .ok (.istore_n 1, 1) := by decide +kernel
theorem dX6_strangers_12 : decode cX6_strangers 12 = .ok (.iload_n 1, 1) := by decide +kernel
theorem dX6_strangers_13 : decode cX6_strangers 13 = .ok (.iconst (-1), 1) := by decide +kernel
theorem dX6_strangers_14 : decode cX6_strangers 14 = .ok (.if_icmp .ne 7, 3) := by decide +kernel
theorem dX6_strangers_17 : decode cX6_strangers 17 = .ok (.iconst 0, 1) := by decide +kernel
theorem dX6_strangers_18 : decode cX6_strangers 18 = .ok (.goto 20, 3) := by decide +kernel
theorem dX6_strangers_21 : decode cX6_strangers 21 = .ok (.aload_n 0, 1) := by decide +kernel
theorem dX6_strangers_22 : decode cX6_strangers 22 = .ok (.getfield 10, 3) := by decide +kernel
theorem dX6_strangers_25 : decode cX6_strangers 25 = .ok (.getfield 131, 3) := by decide +kernel
theorem dX6_strangers_28 : decode cX6_strangers 28 = .ok (.iload_n 1, 1) := by decide +kernel
theorem dX6_strangers_29 : decode cX6_strangers 29 = .ok (.invokevirtual 105, 3) := by decide +kernel
theorem dX6_strangers_32 : decode cX6_strangers 32 = .ok (.checkcast 147, 3) := by decide +kernel
theorem dX6_strangers_35 : decode cX6_strangers 35 = .ok (.getfield 356, 3) := by decide +kernel
theorem dX6_strangers_38 : decode cX6_strangers 38 = .ok (.istore_n 2, 1) := by decide +kernel
theorem dX6_strangers_39 : decode cX6_strangers 39 = .ok (.aload_n 0, 1) := by decide +kernel
theorem dX6_strangers_40 : decode cX6_strangers 40 = .ok (.getfield 19, 3) := by decide +kernel
theorem dX6_strangers_43 : decode cX6_strangers 43 = .ok (.invokevirtual 257, 3) := by decide +kernel
theorem dX6_strangers_46 : decode cX6_strangers 46 = .ok (.iload_n 2, 1) := by decide +kernel
theorem dX6_strangers_47 : decode cX6_strangers 47 = .ok (.iconst (-1), 1) := by decide +kernel
theorem dX6_strangers_48 : decode cX6_strangers 48 = .ok (.ixor, 1) := by decide +kernel
theorem dX6_strangers_49 : decode cX6_strangers 49 = .ok (.iand, 1) := by decide +kernel
theorem dX6_strangers_50 : decode cX6_strangers 50 = .ok (.ireturn, 1) := by decide +kernel
theorem dX6_beginPiece_0 : decode cX6_beginPiece 0 = .ok (.aload_n 0, 1) := by decide +kernel
theorem dX6_beginPiece_1 : decode cX6_beginPiece 1 = .ok (.getfield 10, 3) := by decide +kernel
theorem dX6_beginPiece_4 : decode cX6_beginPiece 4 = .ok (.aload_n 0, 1) := by decide +kernel
theorem dX6_beginPiece_5 : decode cX6_beginPiece 5 = .ok (.getfield 30, 3) := by decide +kernel
theorem dX6_beginPiece_8 : decode cX6_beginPiece 8 = .ok (.invokevirtual 350, 3) := by decide +kernel
theorem dX6_beginPiece_11 : decode cX6_beginPiece 11 = .ok (.istore_n 1, 1) := by decide +kernel
theorem dX6_beginPiece_12 : decode cX6_beginPiece 12 = .ok (.iload_n 1, 1) := by decide +kernel
theorem dX6_beginPiece_13 : decode cX6_beginPiece 13 = .ok (.iconst (-1), 1) := by decide +kernel
theorem dX6_beginPiece_14 : decode cX6_beginPiece 14 = .ok (.if_icmp .eq 34, 3) := by decide +kernel
theorem dX6_beginPiece_17 : decode cX6_beginPiece 17 = .ok (.aload_n 0, 1) := by decide +kernel
theorem dX6_beginPiece_18 : decode cX6_beginPiece 18 = .ok (.getfield 26, 3) := by decide +kernel
theorem dX6_beginPiece_21 : decode cX6_beginPiece 21 = .ok (.aload_n 0, 1) := by decide +kernel
theorem dX6_beginPiece_22 : decode cX6_beginPiece 22 = .ok (.getfield 10, 3) := by decide +kernel
theorem dX6_beginPiece_25 : decode cX6_beginPiece 25 = .ok (.getfield 131, 3) := by decide +kernel
theorem dX6_beginPiece_28 : decode cX6_beginPiece 28 = .ok (.iload_n 1, 1) := by decide +kernel
theorem dX6_beginPiece_29 : decode cX6_beginPiece 29 = .ok (.invokevirtual 105, 3) := by decide +kernel
theorem dX6_beginPiece_32 : decode cX6_beginPiece 32 = .ok (.checkcast 147, 3) := by decide +kernel
theorem dX6_beginPiece_35 : decode cX6_beginPiece 35 = .ok (.getfield 359, 3) := by decide +kernel
theorem dX6_beginPiece_38 : decode cX6_beginPiece 38 = .ok (.invokevirtual 362, 3) := by decide +kernel
theorem dX6_beginPiece_41 : decode cX6_beginPiece 41 = .ok (.ifCond .eq 7, 3) := by decide +kernel
theorem dX6_beginPiece_44 : decode cX6_beginPiece 44 = .ok (.iconst 1, 1) := by decide +kernel
theorem dX6_beginPiece_45 : decode cX6_beginPiece 45 = .ok (.goto 4, 3) := by decide +kernel
theorem dX6_beginPiece_48 : decode cX6_beginPiece 48 = .ok (.iconst 0, 1) := by decide +kernel
theorem dX6_beginPiece_49 : decode cX6_beginPiece 49 = .ok (.ireturn, 1) := by decide +kernel
theorem dX6_rightLevel_0 : decode cX6_rightLevel 0 = .ok (.iload_n 1, 1) := by decide +kernel
theorem dX6_rightLevel_1 : decode cX6_rightLevel 1 = .ok (.iload_n 0, 1) := by decide +kernel
theorem dX6_rightLevel_2 : decode cX6_rightLevel 2 = .ok (.if_icmp .le 5, 3) := by decide +kernel
theorem dX6_rightLevel_5 : decode cX6_rightLevel 5 = .ok (.iconst 1, 1) := by decide +kernel
theorem dX6_rightLevel_6 : decode cX6_rightLevel 6 = .ok (.ireturn, 1) := by decide +kernel
theorem dX6_rightLevel_7 : decode cX6_rightLevel 7 = .ok (.iload_n 1, 1) := by decide +kernel
theorem dX6_rightLevel_8 : decode cX6_rightLevel 8 = .ok (.iload_n 0, 1) := by decide +kernel
theorem dX6_rightLevel_9 : decode cX6_rightLevel 9 = .ok (.if_icmp .ge 7, 3) := by decide +kernel
theorem dX6_rightLevel_12 : decode cX6_rightLevel 12 = .ok (.iconst (-1), 1) := by decide +kernel
theorem dX6_rightLevel_13 : decode cX6_rightLevel 13 = .ok (.goto 4, 3) := by decide +kernel
theorem dX6_rightLevel_16 : decode cX6_rightLevel 16 = .ok (.iconst 0, 1) := by decide +kernel
theorem dX6_rightLevel_17 : decode cX6_rightLevel 17 = .ok (.ireturn, 1) := by decide +kernel
theorem dX6_goBy_0 : decode cX6_goBy 0 = .ok (.iconst 0, 1) := by decide +kernel
theorem dX6_goBy_1 : decode cX6_goBy 1 = .ok (.istore_n 3, 1) := by decide +kernel
theorem dX6_goBy_2 : decode cX6_goBy 2 = .ok (.iload_n 3, 1) := by decide +kernel
theorem dX6_goBy_3 : decode cX6_goBy 3 = .ok (.iload_n 1, 1) := by decide +kernel
theorem dX6_goBy_4 : decode cX6_goBy 4 = .ok (.if_icmp .ge 64, 3) := by decide +kernel
theorem dX6_goBy_7 : decode cX6_goBy 7 = .ok (.aload_n 0, 1) := by decide +kernel
theorem dX6_goBy_8 : decode cX6_goBy 8 = .ok (.dup, 1) := by decide +kernel
theorem dX6_goBy_9 : decode cX6_goBy 9 = .ok (.getfield 30, 3) := by decide +kernel
theorem dX6_goBy_12 : decode cX6_goBy 12 = .ok (.iconst 1, 1) := by decide +kernel
theorem dX6_goBy_13 : decode cX6_goBy 13 = .ok (.iadd, 1) := by decide +kernel
theorem dX6_goBy_14 : decode cX6_goBy 14 = .ok (.putfield 30, 3) := by decide +kernel
theorem dX6_goBy_17 : decode cX6_goBy 17 = .ok (.aload_n 0, 1) := by decide +kernel
theorem dX6_goBy_18 : decode cX6_goBy 18 = .ok (.getfield 26, 3) := by decide +kernel
theorem dX6_goBy_21 : decode cX6_goBy 21 = .ok (.invokevirtual 365, 3) := by decide +kernel
theorem dX6_goBy_24 : decode cX6_goBy 24 = .ok (.iload_n 2, 1) := by decide +kernel
theorem dX6_goBy_25 : decode cX6_goBy 25 = .ok (.ifCond .ne 20, 3) := by decide +kernel
theorem dX6_goBy_28 : decode cX6_goBy 28 = .ok (.aload_n 0, 1) := by decide +kernel
theorem dX6_goBy_29 : decode cX6_goBy 29 = .ok (.getfield 34, 3) := by decide +kernel
theorem dX6_goBy_32 : decode cX6_goBy 32 = .ok (.ifCond .le 13, 3) := by decide +kernel
theorem dX6_goBy_35 : decode cX6_goBy 35 = .ok (.aload_n 0, 1) := by decide +kernel
theorem dX6_goBy_36 : decode cX6_goBy 36 = .ok (.dup, 1) := by decide +kernel
theorem dX6_goBy_37 : decode cX6_goBy 37 = .ok (.getfield 34, 3) := by decide +kernel
theorem dX6_goBy_40 : decode cX6_goBy 40 = .ok (.iconst 1, 1) := by decide +kernel
theorem dX6_goBy_41 : decode cX6_goBy 41 = .ok (.isub, 1) := by decide +kernel
theorem dX6_goBy_42 : decode cX6_goBy 42 = .ok (.putfield 34, 3) := by decide +kernel
theorem dX6_goBy_45 : decode cX6_goBy 45 = .ok (.aload_n 0, 1) := by decide +kernel
theorem dX6_goBy_46 : decode cX6_goBy 46 = .ok (.getfield 30, 3) := by decide +kernel
theorem dX6_goBy_49 : decode cX6_goBy 49 = .ok (.bipush 30, 2) := by decide +kernel
theorem dX6_goBy_51 : decode cX6_goBy 51 = .ok (.irem, 1) := by decide +kernel
theorem dX6_goBy_52 : decode cX6_goBy 52 = .ok (.ifCond .ne 10, 3) := by decide +kernel
theorem dX6_goBy_55 : decode cX6_goBy 55 = .ok (.aload_n 0, 1) := by decide +kernel
theorem dX6_goBy_56 : decode cX6_goBy 56 = .ok (.getfield 19, 3) := by decide +kernel
theorem dX6_goBy_59 : decode cX6_goBy 59 = .ok (.invokevirtual 368, 3) := by decide +kernel
theorem dX6_goBy_62 : decode cX6_goBy 62 = .ok (.iinc 3 1, 3) := by decide +kernel
theorem dX6_goBy_65 : decode cX6_goBy 65 = .ok (.goto (-63), 3) := by decide +kernel
theorem dX6_goBy_68 : decode cX6_goBy 68 = .ok (.return_, 1) := by decide +kernel
theorem dX6_isPerson_0 : decode cX6_isPerson 0 = .ok (.iload_n 1, 1) := by decide +kernel
theorem dX6_isPerson_1 : decode cX6_isPerson 1 = .ok (.ifCond .lt 21, 3) := by decide +kernel
theorem dX6_isPerson_4 : decode cX6_isPerson 4 = .ok (.iload_n 1, 1) := by decide +kernel
theorem dX6_isPerson_5 : decode cX6_isPerson 5 = .ok (.aload_n 0, 1) := by decide +kernel
theorem dX6_isPerson_6 : decode cX6_isPerson 6 = .ok (.getfield 10, 3) := by decide +kernel
theorem dX6_isPerson_9 : decode cX6_isPerson 9 = .ok (.getfield 63, 3) := by decide +kernel
theorem dX6_isPerson_12 : decode cX6_isPerson 12 = .ok (.invokevirtual 67, 3) := by decide +kernel
theorem dX6_isPerson_15 : decode cX6_isPerson 15 = .ok (.if_icmp .ge 7, 3) := by decide +kernel
theorem dX6_isPerson_18 : decode cX6_isPerson 18 = .ok (.iconst 1, 1) := by decide +kernel
theorem dX6_isPerson_19 : decode cX6_isPerson 19 = .ok (.goto 4, 3) := by decide +kernel
theorem dX6_isPerson_22 : decode cX6_isPerson 22 = .ok (.iconst 0, 1) := by decide +kernel
theorem dX6_isPerson_23 : decode cX6_isPerson 23 = .ok (.ireturn, 1) := by decide +kernel
theorem dX6_isFigure_0 : decode cX6_isFigure 0 = .ok (.iload_n 1, 1) := by decide +kernel
theorem dX6_isFigure_1 : decode cX6_isFigure 1 = .ok (.ifCond .lt 21, 3) := by decide +kernel
theorem dX6_isFigure_4 : decode cX6_isFigure 4 = .ok (.iload_n 1, 1) := by decide +kernel
theorem dX6_isFigure_5 : decode cX6_isFigure 5 = .ok (.aload_n 0, 1) := by decide +kernel
theorem dX6_isFigure_6 : decode cX6_isFigure 6 = .ok (.getfield 19, 3) := by decide +kernel
theorem dX6_isFigure_9 : decode cX6_isFigure 9 = .ok (.getfield 98, 3) := by decide +kernel
theorem dX6_isFigure_12 : decode cX6_isFigure 12 = .ok (.invokevirtual 67, 3) := by decide +kernel
theorem dX6_isFigure_15 : decode cX6_isFigure 15 = .ok (.if_icmp .ge 7, 3) := by decide +kernel
theorem dX6_isFigure_18 : decode cX6_isFigure 18 = .ok (.iconst 1, 1) := by decide +kernel
theorem dX6_isFigure_19 : decode cX6_isFigure 19 = .ok (.goto 4, 3) := by decide +kernel
theorem dX6_isFigure_22 : decode cX6_isFigure 22 = .ok (.iconst 0, 1) := by decide +kernel
theorem dX6_isFigure_23 : decode cX6_isFigure 23 = .ok (.ireturn, 1) := by decide +kernel
theorem dX6_isScene_0 : decode cX6_isScene 0 = .ok (.iload_n 1, 1) := by decide +kernel
theorem dX6_isScene_1 : decode cX6_isScene 1 = .ok (.ifCond .lt 21, 3) := by decide +kernel
theorem dX6_isScene_4 : decode cX6_isScene 4 = .ok (.iload_n 1, 1) := by decide +kernel
theorem dX6_isScene_5 : decode cX6_isScene 5 = .ok (.aload_n 0, 1) := by decide +kernel
theorem dX6_isScene_6 : decode cX6_isScene 6 = .ok (.getfield 10, 3) := by decide +kernel
theorem dX6_isScene_9 : decode cX6_isScene 9 = .ok (.getfield 131, 3) := by decide +kernel
theorem dX6_isScene_12 : decode cX6_isScene 12 = .ok (.invokevirtual 67, 3) := by decide +kernel
theorem dX6_isScene_15 : decode cX6_isScene 15 = .ok (.if_icmp .ge 7, 3) := by decide +kernel
theorem dX6_isScene_18 : decode cX6_isScene 18 = .ok (.iconst 1, 1) := by decide +kernel
theorem dX6_isScene_19 : decode cX6_isScene 19 = .ok (.goto 4, 3) := by decide +kernel
theorem dX6_isScene_22 : decode cX6_isScene 22 = .ok (.iconst 0, 1) := by decide +kernel
theorem dX6_isScene_23 : decode cX6_isScene 23 = .ok (.ireturn, 1) := by decide +kernel
theorem dX6_isPlace_0 : decode cX6_isPlace 0 = .ok (.iload_n 0, 1) := by decide +kernel
theorem dX6_isPlace_1 : decode cX6_isPlace 1 = .ok (.iconst 0, 1) := by decide +kernel
theorem dX6_isPlace_2 : decode cX6_isPlace 2 = .ok (.bipush 9, 2) := by decide +kernel
theorem dX6_isPlace_4 : decode cX6_isPlace 4 = .ok (.invokestatic 52, 3) := by decide +kernel
theorem dX6_isPlace_7 : decode cX6_isPlace 7 = .ok (.ifCond .ne 7, 3) := by decide +kernel
theorem dX6_isPlace_10 : decode cX6_isPlace 10 = .ok (.iconst 1, 1) := by decide +kernel
theorem dX6_isPlace_11 : decode cX6_isPlace 11 = .ok (.goto 4, 3) := by decide +kernel
theorem dX6_isPlace_14 : decode cX6_isPlace 14 = .ok (.iconst 0, 1) := by decide +kernel
theorem dX6_isPlace_15 : decode cX6_isPlace 15 = .ok (.ireturn, 1) := by decide +kernel
theorem dX6_isLength_0 : decode cX6_isLength 0 = .ok (.iload_n 0, 1) := by decide +kernel
theorem dX6_isLength_1 : decode cX6_isLength 1 = .ok (.iconst 5, 1) := by decide +kernel
theorem dX6_isLength_2 : decode cX6_isLength 2 = .ok (.bipush 90, 2) := by decide +kernel
theorem dX6_isLength_4 : decode cX6_isLength 4 = .ok (.invokestatic 52, 3) := by decide +kernel
theorem dX6_isLength_7 : decode cX6_isLength 7 = .ok (.ifCond .ne 7, 3) := by decide +kernel
theorem dX6_isLength_10 : decode cX6_isLength 10 = .ok (.iconst 1, 1) := by decide +kernel
theorem dX6_isLength_11 : decode cX6_isLength 11 = .ok (.goto 4, 3) := by decide +kernel
theorem dX6_isLength_14 : decode cX6_isLength 14 = .ok (.iconst 0, 1) := by decide +kernel
theorem dX6_isLength_15 : decode cX6_isLength 15 = .ok (.ireturn, 1) := by decide +kernel
theorem dX6_isNoneOrOf_0 : decode cX6_isNoneOrOf 0 = .ok (.iload_n 1, 1) := by decide +kernel
theorem dX6_isNoneOrOf_1 : decode cX6_isNoneOrOf 1 = .ok (.iconst (-1), 1) := by decide +kernel
theorem dX6_isNoneOrOf_2 : decode cX6_isNoneOrOf 2 = .ok (.if_icmp .eq 11, 3) := by decide +kernel
theorem dX6_isNoneOrOf_5 : decode cX6_isNoneOrOf 5 = .ok (.iload_n 0, 1) := by decide +kernel
theorem dX6_isNoneOrOf_6 : decode cX6_isNoneOrOf 6 = .ok (.iload_n 1, 1) := by decide +kernel
theorem dX6_isNoneOrOf_7 : decode cX6_isNoneOrOf 7 = .ok (.invokestatic 260, 3) := by decide +kernel
theorem dX6_isNoneOrOf_10 : decode cX6_isNoneOrOf 10 = .ok (.ifCond .eq 7, 3) := by decide +kernel
theorem dX6_isNoneOrOf_13 : decode cX6_isNoneOrOf 13 = .ok (.iconst 1, 1) := by decide +kernel
theorem dX6_isNoneOrOf_14 : decode cX6_isNoneOrOf 14 = .ok (.goto 4, 3) := by decide +kernel
theorem dX6_isNoneOrOf_17 : decode cX6_isNoneOrOf 17 = .ok (.iconst 0, 1) := by decide +kernel
theorem dX6_isNoneOrOf_18 : decode cX6_isNoneOrOf 18 = .ok (.ireturn, 1) := by decide +kernel
theorem dX6_outside_0 : decode cX6_outside 0 = .ok (.iload_n 0, 1) := by decide +kernel
theorem dX6_outside_1 : decode cX6_outside 1 = .ok (.iload_n 1, 1) := by decide +kernel
theorem dX6_outside_2 : decode cX6_outside 2 = .ok (.if_icmp .lt 8, 3) := by decide +kernel
theorem dX6_outside_5 : decode cX6_outside 5 = .ok (.iload_n 0, 1) := by decide +kernel
theorem dX6_outside_6 : decode cX6_outside 6 = .ok (.iload_n 2, 1) := by decide +kernel
theorem dX6_outside_7 : decode cX6_outside 7 = .ok (.if_icmp .le 7, 3) := by decide +kernel
theorem dX6_outside_10 : decode cX6_outside 10 = .ok (.iconst 1, 1) := by decide +kernel
theorem dX6_outside_11 : decode cX6_outside 11 = .ok (.goto 4, 3) := by decide +kernel
theorem dX6_outside_14 : decode cX6_outside 14 = .ok (.iconst 0, 1) := by decide +kernel
theorem dX6_outside_15 : decode cX6_outside 15 = .ok (.ireturn, 1) := by decide +kernel
theorem dX6_holds_0 : decode cX6_holds 0 = .ok (.iload_n 1, 1) := by decide +kernel
theorem dX6_holds_1 : decode cX6_holds 1 = .ok (.ifCond .lt 22, 3) := by decide +kernel
theorem dX6_holds_4 : decode cX6_holds 4 = .ok (.iload_n 1, 1) := by decide +kernel
theorem dX6_holds_5 : decode cX6_holds 5 = .ok (.bipush 31, 2) := by decide +kernel
theorem dX6_holds_7 : decode cX6_holds 7 = .ok (.if_icmp .ge 16, 3) := by decide +kernel
theorem dX6_holds_10 : decode cX6_holds 10 = .ok (.iload_n 0, 1) := by decide +kernel
theorem dX6_holds_11 : decode cX6_holds 11 = .ok (.iload_n 1, 1) := by decide +kernel
theorem dX6_holds_12 : decode cX6_holds 12 = .ok (.ishr, 1) := by decide +kernel
theorem dX6_holds_13 : decode cX6_holds 13 = .ok (.iconst 1, 1) := by decide +kernel
theorem dX6_holds_14 : decode cX6_holds 14 = .ok (.iand, 1) := by decide +kernel
theorem dX6_holds_15 : decode cX6_holds 15 = .ok (.iconst 1, 1) := by decide +kernel
theorem dX6_holds_16 : decode cX6_holds 16 = .ok (.if_icmp .ne 7, 3) := by decide +kernel
theorem dX6_holds_19 : decode cX6_holds 19 = .ok (.iconst 1, 1) := by decide +kernel
theorem dX6_holds_20 : decode cX6_holds 20 = .ok (.goto 4, 3) := by decide +kernel
theorem dX6_holds_23 : decode cX6_holds 23 = .ok (.iconst 0, 1) := by decide +kernel
theorem dX6_holds_24 : decode cX6_holds 24 = .ok (.ireturn, 1) := by decide +kernel
theorem dX6_edge_0 : decode cX6_edge 0 = .ok (.iload_n 0, 1) := by decide +kernel
theorem dX6_edge_1 : decode cX6_edge 1 = .ok (.ifCond .ne 7, 3) := by decide +kernel
theorem dX6_edge_4 : decode cX6_edge 4 = .ok (.iconst 0, 1) := by decide +kernel
theorem dX6_edge_5 : decode cX6_edge 5 = .ok (.goto 5, 3) := by decide +kernel
theorem dX6_edge_8 : decode cX6_edge 8 = .ok (.bipush 9, 2) := by decide +kernel
theorem dX6_edge_10 : decode cX6_edge 10 = .ok (.ireturn, 1) := by decide +kernel
theorem dX6_reaches_0 : decode cX6_reaches 0 = .ok (.iload_n 0, 1) := by decide +kernel
theorem dX6_reaches_1 : decode cX6_reaches 1 = .ok (.iconst 2, 1) := by decide +kernel
theorem dX6_reaches_2 : decode cX6_reaches 2 = .ok (.if_icmp .ne 16, 3) := by decide +kernel
theorem dX6_reaches_5 : decode cX6_reaches 5 = .ok (.iload_n 1, 1) := by decide +kernel
theorem dX6_reaches_6 : decode cX6_reaches 6 = .ok (.iconst 5, 1) := by decide +kernel
theorem dX6_reaches_7 : decode cX6_reaches 7 = .ok (.if_icmp .gt 7, 3) := by decide +kernel
theorem dX6_reaches_10 : decode cX6_reaches 10 = .ok (.iconst 1, 1) := by decide +kernel
theorem dX6_reaches_11 : decode cX6_reaches 11 = .ok (.goto 17, 3) := by decide +kernel
theorem dX6_reaches_14 : decode cX6_reaches 14 = .ok (.iconst 0, 1) := by decide +kernel
theorem dX6_reaches_15 : decode cX6_reaches 15 = .ok (.goto 13, 3) := by decide +kernel
theorem dX6_reaches_18 : decode cX6_reaches 18 = .ok (.iload_n 1, 1) := by decide +kernel
theorem dX6_reaches_19 : decode cX6_reaches 19 = .ok (.iconst 4, 1) := by decide +kernel
theorem dX6_reaches_20 : decode cX6_reaches 20 = .ok (.if_icmp .lt 7, 3) := by decide +kernel
theorem dX6_reaches_23 : decode cX6_reaches 23 = .ok (.iconst 1, 1) := by decide +kernel
theorem dX6_reaches_24 : decode cX6_reaches 24 = .ok (.goto 4, 3) := by decide +kernel
theorem dX6_reaches_27 : decode cX6_reaches 27 = .ok (.iconst 0, 1) := by decide +kernel
theorem dX6_reaches_28 : decode cX6_reaches 28 = .ok (.ireturn, 1) := by decide +kernel
theorem dX7_init_0 : decode cX7_init 0 = .ok (.aload_n 0, 1) := by decide +kernel
theorem dX7_init_1 : decode cX7_init 1 = .ok (.invokespecial 1, 3) := by decide +kernel
theorem dX7_init_4 : decode cX7_init 4 = .ok (.aload_n 0, 1) := by decide +kernel
theorem dX7_init_5 : decode cX7_init 5 = .ok (.new 7, 3) := by decide +kernel
theorem dX7_init_8 : decode cX7_init 8 = .ok (.dup, 1) := by decide +kernel
theorem dX7_init_9 : decode cX7_init 9 = .ok (.invokespecial 9, 3) := by decide +kernel
theorem dX7_init_12 : decode cX7_init 12 = .ok (.putfield 10, 3) := by decide +kernel
theorem dX7_init_15 : decode cX7_init 15 = .ok (.aload_n 0, 1) := by decide +kernel
theorem dX7_init_16 : decode cX7_init 16 = .ok (.new 7, 3) := by decide +kernel
theorem dX7_init_19 : decode cX7_init 19 = .ok (.dup, 1) := by decide +kernel
theorem dX7_init_20 : decode cX7_init 20 = .ok (.invokespecial 9, 3) := by decide +kernel
theorem dX7_init_23 : decode cX7_init 23 = .ok (.putfield 16, 3) := by decide +kernel
theorem dX7_init_26 : decode cX7_init 26 = .ok (.aload_n 0, 1) := by decide +kernel
theorem dX7_init_27 : decode cX7_init 27 = .ok (.new 7, 3) := by decide +kernel
theorem dX7_init_30 : decode cX7_init 30 = .ok (.dup, 1) := by decide +kernel
theorem dX7_init_31 : decode cX7_init 31 = .ok (.invokespecial 9, 3) := by decide +kernel
theorem dX7_init_34 : decode cX7_init 34 = .ok (.putfield 19, 3) := by decide +kernel
theorem dX7_init_37 : decode cX7_init 37 = .ok (.aload_n 0, 1) := by decide +kernel
theorem dX7_init_38 : decode cX7_init 38 = .ok (.bipush 50, 2) := by decide +kernel
theorem dX7_init_40 : decode cX7_init 40 = .ok (.putfield 22, 3) := by decide +kernel
theorem dX7_init_43 : decode cX7_init 43 = .ok (.aload_n 0, 1) := by decide +kernel
theorem dX7_init_44 : decode cX7_init 44 = .ok (.iconst (-1), 1) := by decide +kernel
theorem dX7_init_45 : decode cX7_init 45 = .ok (.putfield 26, 3) := by decide +kernel
theorem dX7_init_48 : decode cX7_init 48 = .ok (.aload_n 0, 1) := by decide +kernel
theorem dX7_init_49 : decode cX7_init 49 = .ok (.iconst 5, 1) := by decide +kernel
theorem dX7_init_50 : decode cX7_init 50 = .ok (.putfield 29, 3) := by decide +kernel
theorem dX7_init_53 : decode cX7_init 53 = .ok (.aload_n 0, 1) := by decide +kernel
theorem dX7_init_54 : decode cX7_init 54 = .ok (.bipush 20, 2) := by decide +kernel
theorem dX7_init_56 : decode cX7_init 56 = .ok (.putfield 32, 3) := by decide +kernel
theorem dX7_init_59 : decode cX7_init 59 = .ok (.return_, 1) := by decide +kernel
theorem dX7_thrown_0 : decode cX7_thrown 0 = .ok (.aload_n 0, 1) := by decide +kernel
theorem dX7_thrown_1 : decode cX7_thrown 1 = .ok (.getfield 35, 3) := by decide +kernel
theorem dX7_thrown_4 : decode cX7_thrown 4 = .ok (.ireturn, 1) := by decide +kernel
theorem dX7_refuse_0 : decode cX7_refuse 0 = .ok (.aload_n 0, 1) := by decide +kernel
theorem dX7_refuse_1 : decode cX7_refuse 1 = .ok (.iload_n 1, 1) := by decide +kernel
theorem dX7_refuse_2 : decode cX7_refuse 2 = .ok (.putfield 35, 3) := by decide +kernel
theorem dX7_refuse_5 : decode cX7_refuse 5 = .ok (.iconst 0, 1) := by decide +kernel
theorem dX7_refuse_6 : decode cX7_refuse 6 = .ok (.ireturn, 1) := by decide +kernel
theorem dX7_is_0 : decode cX7_is 0 = .ok (.iload_n 0, 1) := by decide +kernel
theorem dX7_is_1 : decode cX7_is 1 = .ok (.iload_n 1, 1) := by decide +kernel
theorem dX7_is_2 : decode cX7_is 2 = .ok (.if_icmp .lt 12, 3) := by decide +kernel
theorem dX7_is_5 : decode cX7_is 5 = .ok (.iload_n 0, 1) := by decide +kernel
theorem dX7_is_6 : decode cX7_is 6 = .ok (.iload_n 2, 1) := by decide +kernel
theorem dX7_is_7 : decode cX7_is 7 = .ok (.if_icmp .gt 7, 3) := by decide +kernel
theorem dX7_is_10 : decode cX7_is 10 = .ok (.iconst 1, 1) := by decide +kernel
theorem dX7_is_11 : decode cX7_is 11 = .ok (.goto 4, 3) := by decide +kernel
theorem dX7_is_14 : decode cX7_is 14 = .ok (.iconst 0, 1) := by decide +kernel
theorem dX7_is_15 : decode cX7_is 15 = .ok (.ireturn, 1) := by decide +kernel
theorem dX7_isPerson_0 : decode cX7_isPerson 0 = .ok (.iload_n 1, 1) := by decide +kernel
theorem dX7_isPerson_1 : decode cX7_isPerson 1 = .ok (.iconst 0, 1) := by decide +kernel
theorem dX7_isPerson_2 : decode cX7_isPerson 2 = .ok (.aload_n 0, 1) := by decide +kernel
theorem dX7_isPerson_3 : decode cX7_isPerson 3 = .ok (.getfield 10, 3) := by decide +kernel
theorem dX7_isPerson_6 : decode cX7_isPerson 6 = .ok (.invokevirtual 38, 3) := by decide +kernel
theorem dX7_isPerson_9 : decode cX7_isPerson 9 = .ok (.iconst 1, 1) := by decide +kernel
theorem dX7_isPerson_10 : decode cX7_isPerson 10 = .ok (.isub, 1) := by decide +kernel
theorem dX7_isPerson_11 : decode cX7_isPerson 11 = .ok (.invokestatic 42, 3) := by decide +kernel
theorem dX7_isPerson_14 : decode cX7_isPerson 14 = .ok (.ireturn, 1) := by decide +kernel
theorem dX7_isFigure_0 : decode cX7_isFigure 0 = .ok (.iload_n 1, 1) := by decide +kernel
theorem dX7_isFigure_1 : decode cX7_isFigure 1 = .ok (.iconst 0, 1) := by decide +kernel
theorem dX7_isFigure_2 : decode cX7_isFigure 2 = .ok (.aload_n 0, 1) := by decide +kernel
theorem dX7_isFigure_3 : decode cX7_isFigure 3 = .ok (.getfield 16, 3) := by decide +kernel
theorem dX7_isFigure_6 : decode cX7_isFigure 6 = .ok (.invokevirtual 38, 3) := by decide +kernel
theorem dX7_isFigure_9 : decode cX7_isFigure 9 = .ok (.iconst 1, 1) := by decide +kernel
theorem dX7_isFigure_10 : decode cX7_isFigure 10 = .ok (.isub, 1) := by decide +kernel
theorem dX7_isFigure_11 : decode cX7_isFigure 11 = .ok (.invokestatic 42, 3) := by decide +kernel
theorem dX7_isFigure_14 : decode cX7_isFigure 14 = .ok (.ireturn, 1) := by decide +kernel
theorem dX7_isScene_0 : decode cX7_isScene 0 = .ok (.iload_n 1, 1) := by decide +kernel
theorem dX7_isScene_1 : decode cX7_isScene 1 = .ok (.iconst 0, 1) := by decide +kernel
theorem dX7_isScene_2 : decode cX7_isScene 2 = .ok (.aload_n 0, 1) := by decide +kernel
theorem dX7_isScene_3 : decode cX7_isScene 3 = .ok (.getfield 19, 3) := by decide +kernel
theorem dX7_isScene_6 : decode cX7_isScene 6 = .ok (.invokevirtual 38, 3) := by decide +kernel
theorem dX7_isScene_9 : decode cX7_isScene 9 = .ok (.iconst 1, 1) := by decide +kernel
theorem dX7_isScene_10 : decode cX7_isScene 10 = .ok (.isub, 1) := by decide +kernel
theorem dX7_isScene_11 : decode cX7_isScene 11 = .ok (.invokestatic 42, 3) := by decide +kernel
theorem dX7_isScene_14 : decode cX7_isScene 14 = .ok (.ireturn, 1) := by decide +kernel
theorem dX7_plot_0 : decode cX7_plot 0 = .ok (.aload_n 1, 1) := by decide +kernel
theorem dX7_plot_1 : decode cX7_plot 1 = .ok (.invokevirtual 38, 3) := by decide +kernel
theorem dX7_plot_4 : decode cX7_plot 4 = .ok (.iconst 3, 1) := by decide +kernel
theorem dX7_plot_5 : decode cX7_plot 5 = .ok (.multianewarray 46 2, 4) := by decide +kernel
theorem dX7_plot_9 : decode cX7_plot 9 = .ok (.astore_n 2, 1) := by decide +kernel
theorem dX7_plot_10 : decode cX7_plot 10 = .ok (.iconst 0, 1) := by decide +kernel
theorem dX7_plot_11 : decode cX7_plot 11 = .ok (.istore_n 3, 1) := by decide +kernel
theorem dX7_plot_12 : decode cX7_plot 12 = .ok (.iconst 0, 1) := by decide +kernel
theorem dX7_plot_13 : decode cX7_plot 13 = .ok (.istore 4, 2) := by decide +kernel
theorem dX7_plot_15 : decode cX7_plot 15 = .ok (.iconst 0, 1) := by decide +kernel
theorem dX7_plot_16 : decode cX7_plot 16 = .ok (.istore 5, 2) := by decide +kernel
theorem dX7_plot_18 : decode cX7_plot 18 = .ok (.iload 5, 2) := by decide +kernel
theorem dX7_plot_20 : decode cX7_plot 20 = .ok (.aload_n 0, 1) := by decide +kernel
theorem dX7_plot_21 : decode cX7_plot 21 = .ok (.getfield 10, 3) := by decide +kernel
theorem dX7_plot_24 : decode cX7_plot 24 = .ok (.invokevirtual 38, 3) := by decide +kernel
theorem dX7_plot_27 : decode cX7_plot 27 = .ok (.if_icmp .ge 31, 3) := by decide +kernel
theorem dX7_plot_30 : decode cX7_plot 30 = .ok (.iload 4, 2) := by decide +kernel
theorem dX7_plot_32 : decode cX7_plot 32 = .ok (.aload_n 0, 1) := by decide +kernel
theorem dX7_plot_33 : decode cX7_plot 33 = .ok (.getfield 10, 3) := by decide +kernel
theorem dX7_plot_36 : decode cX7_plot 36 = .ok (.iload 5, 2) := by decide +kernel
theorem dX7_plot_38 : decode cX7_plot 38 = .ok (.invokevirtual 48, 3) := by decide +kernel
theorem dX7_plot_41 : decode cX7_plot 41 = .ok (.checkcast 52, 3) := by decide +kernel
theorem dX7_plot_44 : decode cX7_plot 44 = .ok (.iconst 5, 1) := by decide +kernel
theorem dX7_plot_45 : decode cX7_plot 45 = .ok (.iaload, 1) := by decide +kernel
theorem dX7_plot_46 : decode cX7_plot 46 = .ok (.iload 5, 2) := by decide +kernel
theorem dX7_plot_48 : decode cX7_plot 48 = .ok (.ishl, 1) := by decide +kernel
theorem dX7_plot_49 : decode cX7_plot 49 = .ok (.ior, 1) := by decide +kernel
theorem dX7_plot_50 : decode cX7_plot 50 = .ok (.istore 4, 2) := by decide +kernel
theorem dX7_plot_52 : decode cX7_plot 52 = .ok (.iinc 5 1, 3) := by decide +kernel
theorem dX7_plot_55 : decode cX7_plot 55 = .ok (.goto (-37), 3) := by decide +kernel
theorem dX7_plot_58 : decode cX7_plot 58 = .ok (.iconst 0, 1) := by decide +kernel
theorem dX7_plot_59 : decode cX7_plot 59 = .ok (.istore 5, 2) := by decide +kernel
theorem dX7_plot_61 : decode cX7_plot 61 = .ok (.iload 5, 2) := by decide +kernel
theorem dX7_plot_63 : decode cX7_plot 63 = .ok (.aload_n 1, 1) := by decide +kernel
theorem dX7_plot_64 : decode cX7_plot 64 = .ok (.invokevirtual 38, 3) := by decide +kernel
theorem dX7_plot_67 : decode cX7_plot 67 = .ok (.if_icmp .ge 88, 3) := by decide +kernel
theorem dX7_plot_70 : decode cX7_plot 70 = .ok (.aload_n 1, 1) := by decide +kernel
theorem dX7_plot_71 : decode cX7_plot 71 = .ok (.iload 5, 2) := by decide +kernel
theorem dX7_plot_73 : decode cX7_plot 73 = .ok (.invokevirtual 48, 3) := by decide +kernel
theorem dX7_plot_76 : decode cX7_plot 76 = .ok (.checkcast 52, 3) := by decide +kernel
theorem dX7_plot_79 : decode cX7_plot 79 = .ok (.astore 6, 2) := by decide +kernel
theorem dX7_plot_81 : decode cX7_plot 81 = .ok (.aload_n 2, 1) := by decide +kernel
theorem dX7_plot_82 : decode cX7_plot 82 = .ok (.iload 5, 2) := by decide +kernel
theorem dX7_plot_84 : decode cX7_plot 84 = .ok (.aaload, 1) := by decide +kernel
theorem dX7_plot_85 : decode cX7_plot 85 = .ok (.iconst 0, 1) := by decide +kernel
theorem dX7_plot_86 : decode cX7_plot 86 = .ok (.iload_n 3, 1) := by decide +kernel
theorem dX7_plot_87 : decode cX7_plot 87 = .ok (.iastore, 1) := by decide +kernel
theorem dX7_plot_88 : decode cX7_plot 88 = .ok (.aload_n 2, 1) := by decide +kernel
theorem dX7_plot_89 : decode cX7_plot 89 = .ok (.iload 5, 2) := by decide +kernel
theorem dX7_plot_91 : decode cX7_plot 91 = .ok (.aaload, 1) := by decide +kernel
theorem dX7_plot_92 : decode cX7_plot 92 = .ok (.iconst 1, 1) := by decide +kernel
theorem dX7_plot_93 : decode cX7_plot 93 = .ok (.aload_n 0, 1) := by decide +kernel
theorem dX7_plot_94 : decode cX7_plot 94 = .ok (.aload_n 1, 1) := by decide +kernel
theorem dX7_plot_95 : decode cX7_plot 95 = .ok (.iload 5, 2) := by decide +kernel
theorem dX7_plot_97 : decode cX7_plot 97 = .ok (.iload_n 3, 1) := by decide +kernel
theorem dX7_plot_98 : decode cX7_plot 98 = .ok (.iload 4, 2) := by decide +kernel
theorem dX7_plot_100 : decode cX7_plot 100 = .ok (.invokevirtual 54, 3) := by decide +kernel
theorem dX7_plot_103 : decode cX7_plot 103 = .ok (.iastore, 1) := by decide +kernel
theorem dX7_plot_104 : decode cX7_plot 104 = .ok (.iload_n 3, 1) := by decide +kernel
theorem dX7_plot_105 : decode cX7_plot 105 = .ok (.aload 6, 2) := by decide +kernel
theorem dX7_plot_107 : decode cX7_plot 107 = .ok (.iconst 3, 1) := by decide +kernel
theorem dX7_plot_108 : decode cX7_plot 108 = .ok (.iaload, 1) := by decide +kernel
theorem dX7_plot_109 : decode cX7_plot 109 = .ok (.iadd, 1) := by decide +kernel
theorem dX7_plot_110 : decode cX7_plot 110 = .ok (.istore_n 3, 1) := by decide +kernel
theorem dX7_plot_111 : decode cX7_plot 111 = .ok (.aload 6, 2) := by decide +kernel
theorem dX7_plot_113 : decode cX7_plot 113 = .ok (.iconst 5, 1) := by decide +kernel
theorem dX7_plot_114 : decode cX7_plot 114 = .ok (.iaload, 1) := by decide +kernel
theorem dX7_plot_115 : decode cX7_plot 115 = .ok (.iconst (-1), 1) := by decide +kernel
theorem dX7_plot_116 : decode cX7_plot 116 = .ok (.if_icmp .eq 25, 3) := by decide +kernel
theorem dX7_plot_119 : decode cX7_plot 119 = .ok (.iload 4, 2) := by decide +kernel
theorem dX7_plot_121 : decode cX7_plot 121 = .ok (.aload 6, 2) := by decide +kernel
theorem dX7_plot_123 : decode cX7_plot 123 = .ok (.iconst 5, 1) := by decide +kernel
theorem dX7_plot_124 : decode cX7_plot 124 = .ok (.iaload, 1) := by decide +kernel
theorem dX7_plot_125 : decode cX7_plot 125 = .ok (.ishr, 1) := by decide +kernel
theorem dX7_plot_126 : decode cX7_plot 126 = .ok (.iconst 1, 1) := by decide +kernel
theorem dX7_plot_127 : decode cX7_plot 127 = .ok (.iand, 1) := by decide +kernel
theorem dX7_plot_128 : decode cX7_plot 128 = .ok (.iconst 1, 1) := by decide +kernel
theorem dX7_plot_129 : decode cX7_plot 129 = .ok (.if_icmp .ne 12, 3) := by decide +kernel
theorem dX7_plot_132 : decode cX7_plot 132 = .ok (.iload 4, 2) := by decide +kernel
theorem dX7_plot_134 : decode cX7_plot 134 = .ok (.aload 6, 2) := by decide +kernel
theorem dX7_plot_136 : decode cX7_plot 136 = .ok (.iconst 2, 1) := by decide +kernel
theorem dX7_plot_137 : decode cX7_plot 137 = .ok (.iaload, 1) := by decide +kernel
theorem dX7_plot_138 : decode cX7_plot 138 = .ok (.ior, 1) := by decide +kernel
theorem dX7_plot_139 : decode cX7_plot 139 = .ok (.istore 4, 2) := by decide +kernel
theorem dX7_plot_141 : decode cX7_plot 141 = .ok (.aload_n 2, 1) := by decide +kernel
theorem dX7_plot_142 : decode cX7_plot 142 = .ok (.iload 5, 2) := by decide +kernel
theorem dX7_plot_144 : decode cX7_plot 144 = .ok (.aaload, 1) := by decide +kernel
theorem dX7_plot_145 : decode cX7_plot 145 = .ok (.iconst 2, 1) := by decide +kernel
theorem dX7_plot_146 : decode cX7_plot 146 = .ok (.iload 4, 2) := by decide +kernel
theorem dX7_plot_148 : decode cX7_plot 148 = .ok (.iastore, 1) := by decide +kernel
theorem dX7_plot_149 : decode cX7_plot 149 = .ok (.iinc 5 1, 3) := by decide +kernel
theorem dX7_plot_152 : decode cX7_plot 152 = .ok (.goto (-91), 3) := by decide +kernel
theorem dX7_plot_155 : decode cX7_plot 155 = .ok (.aload_n 2, 1) := by decide +kernel
theorem dX7_plot_156 : decode cX7_plot 156 = .ok (.areturn, 1) := by decide +kernel
theorem dX7_breach_0 : decode cX7_breach 0 = .ok (.aload_n 1, 1) := by decide +kernel
theorem dX7_breach_1 : decode cX7_breach 1 = .ok (.iload_n 2, 1) := by decide +kernel
theorem dX7_breach_2 : decode cX7_breach 2 = .ok (.invokevirtual 48, 3) := by decide +kernel
theorem dX7_breach_5 : decode cX7_breach 5 = .ok (.checkcast 52, 3) := by decide +kernel
theorem dX7_breach_8 : decode cX7_breach 8 = .ok (.astore 5, 2) := by decide +kernel
theorem dX7_breach_10 : decode cX7_breach 10 = .ok (.iconst 0, 1) := by decide +kernel
theorem dX7_breach_11 : decode cX7_breach 11 = .ok (.istore 6, 2) := by decide +kernel
theorem dX7_breach_13 : decode cX7_breach 13 = .ok (.iload 6, 2) := by decide +kernel
theorem dX7_breach_15 : decode cX7_breach 15 = .ok (.aload_n 0, 1) := by decide +kernel
theorem dX7_breach_16 : decode cX7_breach 16 = .ok (.getfield 10, 3) := by decide +kernel
theorem dX7_breach_19 : decode cX7_breach 19 = .ok (.invokevirtual 38, 3) := by decide +kernel
theorem dX7_breach_22 : decode cX7_breach 22 = .ok (.if_icmp .ge 70, 3) := by decide +kernel
theorem dX7_breach_25 : decode cX7_breach 25 = .ok (.aload_n 0, 1) := by decide +kernel
theorem dX7_breach_26 : decode cX7_breach 26 = .ok (.getfield 10, 3) := by decide +kernel
theorem dX7_breach_29 : decode cX7_breach 29 = .ok (.iload 6, 2) := by decide +kernel
theorem dX7_breach_31 : decode cX7_breach 31 = .ok (.invokevirtual 48, 3) := by decide +kernel
theorem dX7_breach_34 : decode cX7_breach 34 = .ok (.checkcast 52, 3) := by decide +kernel
theorem dX7_breach_37 : decode cX7_breach 37 = .ok (.astore 7, 2) := by decide +kernel
theorem dX7_breach_39 : decode cX7_breach 39 = .ok (.aload 5, 2) := by decide +kernel
theorem dX7_breach_41 : decode cX7_breach 41 = .ok (.iconst 2, 1) := by decide +kernel
theorem dX7_breach_42 : decode cX7_breach 42 = .ok (.iaload, 1) := by decide +kernel
theorem dX7_breach_43 : decode cX7_breach 43 = .ok (.iload 6, 2) := by decide +kernel
theorem dX7_breach_45 : decode cX7_breach 45 = .ok (.ishr, 1) := by decide +kernel
theorem dX7_breach_46 : decode cX7_breach 46 = .ok (.iconst 1, 1) := by decide +kernel
theorem dX7_breach_47 : decode cX7_breach 47 = .ok (.iand, 1) := by decide +kernel
theorem dX7_breach_48 : decode cX7_breach 48 = .ok (.iconst 1, 1) := by decide +kernel
theorem dX7_breach_49 : decode cX7_breach 49 = .ok (.if_icmp .ne 37, 3) := by decide +kernel
theorem dX7_breach_52 : decode cX7_breach 52 = .ok (.aload 5, 2) := by decide +kernel
theorem dX7_breach_54 : decode cX7_breach 54 = .ok (.iconst 0, 1) := by decide +kernel
theorem dX7_breach_55 : decode cX7_breach 55 = .ok (.iaload, 1) := by decide +kernel
theorem dX7_breach_56 : decode cX7_breach 56 = .ok (.aload 7, 2) := by decide +kernel
theorem dX7_breach_58 : decode cX7_breach 58 = .ok (.iconst 3, 1) := by decide +kernel
theorem dX7_breach_59 : decode cX7_breach 59 = .ok (.iaload, 1) := by decide +kernel
theorem dX7_breach_60 : decode cX7_breach 60 = .ok (.if_icmp .lt 24, 3) := by decide +kernel
theorem dX7_breach_63 : decode cX7_breach 63 = .ok (.aload 5, 2) := by decide +kernel
theorem dX7_breach_65 : decode cX7_breach 65 = .ok (.iconst 0, 1) := by decide +kernel
theorem dX7_breach_66 : decode cX7_breach 66 = .ok (.iaload, 1) := by decide +kernel
theorem dX7_breach_67 : decode cX7_breach 67 = .ok (.aload 7, 2) := by decide +kernel
theorem dX7_breach_69 : decode cX7_breach 69 = .ok (.iconst 4, 1) := by decide +kernel
theorem dX7_breach_70 : decode cX7_breach 70 = .ok (.iaload, 1) := by decide +kernel
theorem dX7_breach_71 : decode cX7_breach 71 = .ok (.if_icmp .gt 13, 3) := by decide +kernel
theorem dX7_breach_74 : decode cX7_breach 74 = .ok (.aload_n 1, 1) := by decide +kernel
theorem dX7_breach_75 : decode cX7_breach 75 = .ok (.iload_n 2, 1) := by decide +kernel
theorem dX7_breach_76 : decode cX7_breach 76 = .ok (.iload 6, 2) := by decide +kernel
theorem dX7_breach_78 : decode cX7_breach 78 = .ok (.invokestatic 58, 3) := by decide +kernel
theorem dX7_breach_81 : decode cX7_breach 81 = .ok (.ifCond .eq 5, 3) := by decide +kernel
theorem dX7_breach_84 : decode cX7_breach 84 = .ok (.iconst 1, 1) := by decide +kernel
theorem dX7_breach_85 : decode cX7_breach 85 = .ok (.ireturn, 1) := by decide +kernel
theorem dX7_breach_86 : decode cX7_breach 86 = .ok (.iinc 6 1, 3) := by decide +kernel
theorem dX7_breach_89 : decode cX7_breach 89 = .ok (.goto (-76), 3) := by decide +kernel
theorem dX7_breach_92 : decode cX7_breach 92 = .ok (.aload 5, 2) := by decide +kernel
theorem dX7_breach_94 : decode cX7_breach 94 = .ok (.iconst 4, 1) := by decide +kernel
theorem dX7_breach_95 : decode cX7_breach 95 = .ok (.iaload, 1) := by decide +kernel
theorem dX7_breach_96 : decode cX7_breach 96 = .ok (.iconst (-1), 1) := by decide +kernel
theorem dX7_breach_97 : decode cX7_breach 97 = .ok (.if_icmp .eq 28, 3) := by decide +kernel
theorem dX7_breach_100 : decode cX7_breach 100 = .ok (.aload_n 0, 1) := by decide +kernel
theorem dX7_breach_101 : decode cX7_breach 101 = .ok (.getfield 10, 3) := by decide +kernel
theorem dX7_breach_104 : decode cX7_breach 104 = .ok (.aload 5, 2) := by decide +kernel
theorem dX7_breach_106 : decode cX7_breach 106 = .ok (.iconst 4, 1) := by decide +kernel
theorem dX7_breach_107 : decode cX7_breach 107 = .ok (.iaload, 1) := by decide +kernel
theorem dX7_breach_108 : decode cX7_breach 108 = .ok (.invokevirtual 48, 3) := by decide +kernel
theorem dX7_breach_111 : decode cX7_breach 111 = .ok (.checkcast 52, 3) := by decide +kernel
theorem dX7_breach_114 : decode cX7_breach 114 = .ok (.iconst 4, 1) := by decide +kernel
theorem dX7_breach_115 : decode cX7_breach 115 = .ok (.iaload, 1) := by decide +kernel
theorem dX7_breach_116 : decode cX7_breach 116 = .ok (.aload 5, 2) := by decide +kernel
theorem dX7_breach_118 : decode cX7_breach 118 = .ok (.iconst 0, 1) := by decide +kernel
theorem dX7_breach_119 : decode cX7_breach 119 = .ok (.iaload, 1) := by decide +kernel
theorem dX7_breach_120 : decode cX7_breach 120 = .ok (.if_icmp .eq 5, 3) := by decide +kernel
theorem dX7_breach_123 : decode cX7_breach 123 = .ok (.iconst 2, 1) := by decide +kernel
theorem dX7_breach_124 : decode cX7_breach 124 = .ok (.ireturn, 1) := by decide +kernel
theorem dX7_breach_125 : decode cX7_breach 125 = .ok (.aload 5, 2) := by decide +kernel
theorem dX7_breach_127 : decode cX7_breach 127 = .ok (.iconst 5, 1) := by decide +kernel
theorem dX7_breach_128 : decode cX7_breach 128 = .ok (.iaload, 1) := by decide +kernel
theorem dX7_breach_129 : decode cX7_breach 129 = .ok (.iconst (-1), 1) := by decide +kernel
theorem dX7_breach_130 : decode cX7_breach 130 = .ok (.if_icmp .eq 17, 3) := by decide +kernel
theorem dX7_breach_133 : decode cX7_breach 133 = .ok (.iload 4, 2) := by decide +kernel
theorem dX7_breach_135 : decode cX7_breach 135 = .ok (.aload 5, 2) := by decide +kernel
theorem dX7_breach_137 : decode cX7_breach 137 = .ok (.iconst 5, 1) := by decide +kernel
theorem dX7_breach_138 : decode cX7_breach 138 = .ok (.iaload, 1) := by decide +kernel
theorem dX7_breach_139 : decode cX7_breach 139 = .ok (.ishr, 1) := by decide +kernel
theorem dX7_breach_140 : decode cX7_breach 140 = .ok (.iconst 1, 1) := by decide +kernel
theorem dX7_breach_141 : decode cX7_breach 141 = .ok (.iand, 1) := by decide +kernel
theorem dX7_breach_142 : decode cX7_breach 142 = .ok (.ifCond .ne 5, 3) := by decide +kernel
theorem dX7_breach_145 : decode cX7_breach 145 = .ok (.iconst 3, 1) := by decide +kernel
theorem dX7_breach_146 : decode cX7_breach 146 = .ok (.ireturn, 1) := by decide +kernel
theorem dX7_breach_147 : decode cX7_breach 147 = .ok (.aload 5, 2) := by decide +kernel
theorem dX7_breach_149 : decode cX7_breach 149 = .ok (.iconst 1, 1) := by decide +kernel
theorem dX7_breach_150 : decode cX7_breach 150 = .ok (.iaload, 1) := by decide +kernel
theorem dX7_breach_151 : decode cX7_breach 151 = .ok (.iconst 2, 1) := by decide +kernel
theorem dX7_breach_152 : decode cX7_breach 152 = .ok (.iload_n 3, 1) := by decide +kernel
theorem dX7_breach_153 : decode cX7_breach 153 = .ok (.sipush 180, 3) := by decide +kernel
theorem dX7_breach_156 : decode cX7_breach 156 = .ok (.idiv, 1) := by decide +kernel
theorem dX7_breach_157 : decode cX7_breach 157 = .ok (.invokestatic 62, 3) := by decide +kernel
theorem dX7_breach_160 : decode cX7_breach 160 = .ok (.iconst 1, 1) := by decide +kernel
theorem dX7_breach_161 : decode cX7_breach 161 = .ok (.iadd, 1) := by decide +kernel
theorem dX7_breach_162 : decode cX7_breach 162 = .ok (.if_icmp .le 5, 3) := by decide +kernel
theorem dX7_breach_165 : decode cX7_breach 165 = .ok (.iconst 4, 1) := by decide +kernel
theorem dX7_breach_166 : decode cX7_breach 166 = .ok (.ireturn, 1) := by decide +kernel
theorem dX7_breach_167 : decode cX7_breach 167 = .ok (.iload_n 3, 1) := by decide +kernel
theorem dX7_breach_168 : decode cX7_breach 168 = .ok (.aload 5, 2) := by decide +kernel
theorem dX7_breach_170 : decode cX7_breach 170 = .ok (.iconst 3, 1) := by decide +kernel
theorem dX7_breach_171 : decode cX7_breach 171 = .ok (.iaload, 1) := by decide +kernel
theorem dX7_breach_172 : decode cX7_breach 172 = .ok (.iadd, 1) := by decide +kernel
theorem dX7_breach_173 : decode cX7_breach 173 = .ok (.sipush 540, 3) := by decide +kernel
theorem dX7_breach_176 : decode cX7_breach 176 = .ok (.if_icmp .le 7, 3) := by decide +kernel
theorem dX7_breach_179 : decode cX7_breach 179 = .ok (.iconst 5, 1) := by decide +kernel
theorem dX7_breach_180 : decode cX7_breach 180 = .ok (.goto 4, 3) := by decide +kernel
theorem dX7_breach_183 : decode cX7_breach 183 = .ok (.iconst 0, 1) := by decide +kernel
theorem dX7_breach_184 : decode cX7_breach 184 = .ok (.ireturn, 1) := by decide +kernel
theorem dX7_isDead_0 : decode cX7_isDead 0 = .ok (.iconst 0, 1) := by decide +kernel
theorem dX7_isDead_1 : decode cX7_isDead 1 = .ok (.istore_n 3, 1) := by decide +kernel
theorem dX7_isDead_2 : decode cX7_isDead 2 = .ok (.iload_n 3, 1) := by decide +kernel
theorem dX7_isDead_3 : decode cX7_isDead 3 = .ok (.iload_n 1, 1) := by decide +kernel
theorem dX7_isDead_4 : decode cX7_isDead 4 = .ok (.if_icmp .ge 48, 3) := by decide +kernel
theorem dX7_isDead_7 : decode cX7_isDead 7 = .ok (.aload_n 0, 1) := by decide +kernel
theorem dX7_isDead_8 : decode cX7_isDead 8 = .ok (.iload_n 3, 1) := by decide +kernel
theorem dX7_isDead_9 : decode cX7_isDead 9 = .ok (.invokevirtual 48, 3) := by decide +kernel
theorem dX7_isDead_12 : decode cX7_isDead 12 = .ok (.checkcast 52, 3) := by decide +kernel
theorem dX7_isDead_15 : decode cX7_isDead 15 = .ok (.iconst 4, 1) := by decide +kernel
theorem dX7_isDead_16 : decode cX7_isDead 16 = .ok (.iaload, 1) := by decide +kernel
theorem dX7_isDead_17 : decode cX7_isDead 17 = .ok (.iload_n 2, 1) := by decide +kernel
theorem dX7_isDead_18 : decode cX7_isDead 18 = .ok (.if_icmp .ne 28, 3) := by decide +kernel
theorem dX7_isDead_21 : decode cX7_isDead 21 = .ok (.aload_n 0, 1) := by decide +kernel
theorem dX7_isDead_22 : decode cX7_isDead 22 = .ok (.iload_n 3, 1) := by decide +kernel
theorem dX7_isDead_23 : decode cX7_isDead 23 = .ok (.invokevirtual 48, 3) := by decide +kernel
theorem dX7_isDead_26 : decode cX7_isDead 26 = .ok (.checkcast 52, 3) := by decide +kernel
theorem dX7_isDead_29 : decode cX7_isDead 29 = .ok (.iconst 0, 1) := by decide +kernel
theorem dX7_isDead_30 : decode cX7_isDead 30 = .ok (.iaload, 1) := by decide +kernel
theorem dX7_isDead_31 : decode cX7_isDead 31 = .ok (.aload_n 0, 1) := by decide +kernel
theorem dX7_isDead_32 : decode cX7_isDead 32 = .ok (.iload_n 1, 1) := by decide +kernel
theorem dX7_isDead_33 : decode cX7_isDead 33 = .ok (.invokevirtual 48, 3) := by decide +kernel
theorem dX7_isDead_36 : decode cX7_isDead 36 = .ok (.checkcast 52, 3) := by decide +kernel
theorem dX7_isDead_39 : decode cX7_isDead 39 = .ok (.iconst 0, 1) := by decide +kernel
theorem dX7_isDead_40 : decode cX7_isDead 40 = .ok (.iaload, 1) := by decide +kernel
theorem dX7_isDead_41 : decode cX7_isDead 41 = .ok (.if_icmp .gt 5, 3) := by decide +kernel
theorem dX7_isDead_44 : decode cX7_isDead 44 = .ok (.iconst 1, 1) := by decide +kernel
theorem dX7_isDead_45 : decode cX7_isDead 45 = .ok (.ireturn, 1) := by decide +kernel
theorem dX7_isDead_46 : decode cX7_isDead 46 = .ok (.iinc 3 1, 3) := by decide +kernel
theorem dX7_isDead_49 : decode cX7_isDead 49 = .ok (.goto (-47), 3) := by decide +kernel
theorem dX7_isDead_52 : decode cX7_isDead 52 = .ok (.iconst 0, 1) := by decide +kernel
theorem dX7_isDead_53 : decode cX7_isDead 53 = .ok (.ireturn, 1) := by decide +kernel
theorem dX7_breaches_0 : decode cX7_breaches 0 = .ok (.iconst 0, 1) := by decide +kernel
theorem dX7_breaches_1 : decode cX7_breaches 1 = .ok (.istore_n 2, 1) := by decide +kernel
theorem dX7_breaches_2 : decode cX7_breaches 2 = .ok (.aload_n 0, 1) := by decide +kernel
theorem dX7_breaches_3 : decode cX7_breaches 3 = .ok (.aload_n 1, 1) := by decide +kernel
theorem dX7_breaches_4 : decode cX7_breaches 4 = .ok (.invokevirtual 68, 3) := by decide +kernel
theorem dX7_breaches_7 : decode cX7_breaches 7 = .ok (.astore_n 3, 1) := by decide +kernel
theorem dX7_breaches_8 : decode cX7_breaches 8 = .ok (.aload_n 3, 1) := by decide +kernel
theorem dX7_breaches_9 : decode cX7_breaches 9 = .ok (.arraylength, 1) := by decide +kernel
theorem dX7_breaches_10 : decode cX7_breaches 10 = .ok (.istore 4, 2) := by decide +kernel
theorem dX7_breaches_12 : decode cX7_breaches 12 = .ok (.iconst 0, 1) := by decide +kernel
theorem dX7_breaches_13 : decode cX7_breaches 13 = .ok (.istore 5, 2) := by decide +kernel
theorem dX7_breaches_15 : decode cX7_breaches 15 = .ok (.iload 5, 2) := by decide +kernel
theorem dX7_breaches_17 : decode cX7_breaches 17 = .ok (.iload 4, 2) := by decide +kernel
theorem dX7_breaches_19 : decode cX7_breaches 19 = .ok (.if_icmp .ge 30, 3) := by decide +kernel
theorem dX7_breaches_22 : decode cX7_breaches 22 = .ok (.aload_n 3, 1) := by decide +kernel
theorem dX7_breaches_23 : decode cX7_breaches 23 = .ok (.iload 5, 2) := by decide +kernel
theorem dX7_breaches_25 : decode cX7_breaches 25 = .ok (.aaload, 1) := by decide +kernel
theorem dX7_breaches_26 : decode cX7_breaches 26 = .ok (.astore 6, 2) := by decide +kernel
theorem dX7_breaches_28 : decode cX7_breaches 28 = .ok (.iload_n 2, 1) := by decide +kernel
theorem dX7_breaches_29 : decode cX7_breaches 29 = .ok (.aload 6, 2) := by decide +kernel
theorem dX7_breaches_31 : decode cX7_breaches 31 = .ok (.iconst 1, 1) := by decide +kernel
theorem dX7_breaches_32 : decode cX7_breaches 32 = .ok (.iaload, 1) := by decide +kernel
theorem dX7_breaches_33 : decode cX7_breaches 33 = .ok (.ifCond .le 7, 3) := by decide +kernel
theorem dX7_breaches_36 : decode cX7_breaches 36 = .ok (.iconst 1, 1) := by decide +kernel
theorem dX7_breaches_37 : decode cX7_breaches 37 = .ok (.goto 4, 3) := by decide +kernel
theorem dX7_breaches_40 : decode cX7_breaches 40 = .ok (.iconst 0, 1) := by decide +kernel
theorem dX7_breaches_41 : decode cX7_breaches 41 = .ok (.iadd, 1) := by decide +kernel
theorem dX7_breaches_42 : decode cX7_breaches 42 = .ok (.istore_n 2, 1) := by decide +kernel
theorem dX7_breaches_43 : decode cX7_breaches 43 = .ok (.iinc 5 1, 3) := by decide +kernel
theorem dX7_breaches_46 : decode cX7_breaches 46 = .ok (.goto (-31), 3) := by decide +kernel
theorem dX7_breaches_49 : decode cX7_breaches 49 = .ok (.iload_n 2, 1) := by decide +kernel
theorem dX7_breaches_50 : decode cX7_breaches 50 = .ok (.ireturn, 1) := by decide +kernel
theorem dX7_over_0 : decode cX7_over 0 = .ok (.iconst 0, 1) := by decide +kernel
theorem dX7_over_1 : decode cX7_over 1 = .ok (.istore_n 1, 1) := by decide +kernel
theorem dX7_over_2 : decode cX7_over 2 = .ok (.aload_n 0, 1) := by decide +kernel
theorem dX7_over_3 : decode cX7_over 3 = .ok (.getfield 19, 3) := by decide +kernel
theorem dX7_over_6 : decode cX7_over 6 = .ok (.invokevirtual 72, 3) := by decide +kernel
theorem dX7_over_9 : decode cX7_over 9 = .ok (.astore_n 2, 1) := by decide +kernel
theorem dX7_over_10 : decode cX7_over 10 = .ok (.aload_n 2, 1) := by decide +kernel
theorem dX7_over_11 : decode cX7_over 11 = .ok (.invokeinterface 76 1, 5) := by decide +kernel
theorem dX7_over_16 : decode cX7_over 16 = .ok (.ifCond .eq 22, 3) := by decide +kernel
theorem dX7_over_19 : decode cX7_over 19 = .ok (.aload_n 2, 1) := by decide +kernel
theorem dX7_over_20 : decode cX7_over 20 = .ok (.invokeinterface 82 1, 5) := by decide +kernel
theorem dX7_over_25 : decode cX7_over 25 = .ok (.checkcast 52, 3) := by decide +kernel
theorem dX7_over_28 : decode cX7_over 28 = .ok (.astore_n 3, 1) := by decide +kernel
theorem dX7_over_29 : decode cX7_over 29 = .ok (.iload_n 1, 1) := by decide +kernel
theorem dX7_over_30 : decode cX7_over 30 = .ok (.aload_n 3, 1) := by decide +kernel
theorem dX7_over_31 : decode cX7_over 31 = .ok (.iconst 3, 1) := by decide +kernel
theorem dX7_over_32 : decode cX7_over 32 = .ok (.iaload, 1) := by decide +kernel
theorem dX7_over_33 : decode cX7_over 33 = .ok (.iadd, 1) := by decide +kernel
theorem dX7_over_34 : decode cX7_over 34 = .ok (.istore_n 1, 1) := by decide +kernel
theorem dX7_over_35 : decode cX7_over 35 = .ok (.goto (-25), 3) := by decide +kernel
theorem dX7_over_38 : decode cX7_over 38 = .ok (.iload_n 1, 1) := by decide +kernel
theorem dX7_over_39 : decode cX7_over 39 = .ok (.ireturn, 1) := by decide +kernel
theorem dX7_on_0 : decode cX7_on 0 = .ok (.iconst 0, 1) := by decide +kernel
theorem dX7_on_1 : decode cX7_on 1 = .ok (.istore_n 1, 1) := by decide +kernel
theorem dX7_on_2 : decode cX7_on 2 = .ok (.iconst 0, 1) := by decide +kernel
theorem dX7_on_3 : decode cX7_on 3 = .ok (.istore_n 2, 1) := by decide +kernel
theorem dX7_on_4 : decode cX7_on 4 = .ok (.iload_n 2, 1) := by decide +kernel
theorem dX7_on_5 : decode cX7_on 5 = .ok (.aload_n 0, 1) := by decide +kernel
theorem dX7_on_6 : decode cX7_on 6 = .ok (.getfield 19, 3) := by decide +kernel
theorem dX7_on_9 : decode cX7_on 9 = .ok (.invokevirtual 38, 3) := by decide +kernel
theorem dX7_on_12 : decode cX7_on 12 = .ok (.if_icmp .ge 35, 3) := by decide +kernel
theorem dX7_on_15 : decode cX7_on 15 = .ok (.iload_n 1, 1) := by decide +kernel
theorem dX7_on_16 : decode cX7_on 16 = .ok (.aload_n 0, 1) := by decide +kernel
theorem dX7_on_17 : decode cX7_on 17 = .ok (.getfield 19, 3) := by decide +kernel
theorem dX7_on_20 : decode cX7_on 20 = .ok (.iload_n 2, 1) := by decide +kernel
theorem dX7_on_21 : decode cX7_on 21 = .ok (.invokevirtual 48, 3) := by decide +kernel
theorem dX7_on_24 : decode cX7_on 24 = .ok (.checkcast 52, 3) := by decide +kernel
theorem dX7_on_27 : decode cX7_on 27 = .ok (.iconst 3, 1) := by decide +kernel
theorem dX7_on_28 : decode cX7_on 28 = .ok (.iaload, 1) := by decide +kernel
theorem dX7_on_29 : decode cX7_on 29 = .ok (.iadd, 1) := by decide +kernel
theorem dX7_on_30 : decode cX7_on 30 = .ok (.istore_n 1, 1) := by decide +kernel
theorem dX7_on_31 : decode cX7_on 31 = .ok (.aload_n 0, 1) := by decide +kernel
theorem dX7_on_32 : decode cX7_on 32 = .ok (.getfield 86, 3) := by decide +kernel
theorem dX7_on_35 : decode cX7_on 35 = .ok (.iload_n 1, 1) := by decide +kernel
theorem dX7_on_36 : decode cX7_on 36 = .ok (.if_icmp .ge 5, 3) := by decide +kernel
theorem dX7_on_39 : decode cX7_on 39 = .ok (.iload_n 2, 1) := by decide +kernel
theorem dX7_on_40 : decode cX7_on 40 = .ok (.ireturn, 1) := by decide +kernel
theorem dX7_on_41 : decode cX7_on 41 = .ok (.iinc 2 1, 3) := by decide +kernel
theorem dX7_on_44 : decode cX7_on 44 = .ok (.goto (-40), 3) := by decide +kernel
theorem dX7_on_47 : decode cX7_on 47 = .ok (.iconst (-1), 1) := by decide +kernel
theorem dX7_on_48 : decode cX7_on 48 = .ok (.ireturn, 1) := by decide +kernel
theorem dX7_exchange_0 : decode cX7_exchange 0 = .ok (.aload_n 0, 1) := by decide +kernel
theorem dX7_exchange_1 : decode cX7_exchange 1 = .ok (.iload_n 1, 1) := by decide +kernel
theorem dX7_exchange_2 : decode cX7_exchange 2 = .ok (.invokevirtual 48, 3) := by decide +kernel
theorem dX7_exchange_5 : decode cX7_exchange 5 = .ok (.checkcast 52, 3) := by decide +kernel
theorem dX7_exchange_8 : decode cX7_exchange 8 = .ok (.astore_n 3, 1) := by decide +kernel
theorem dX7_exchange_9 : decode cX7_exchange 9 = .ok (.aload_n 0, 1) := by decide +kernel
theorem dX7_exchange_10 : decode cX7_exchange 10 = .ok (.iload_n 1, 1) := by decide +kernel
theorem dX7_exchange_11 : decode cX7_exchange 11 = .ok (.aload_n 0, 1) := by decide +kernel
theorem dX7_exchange_12 : decode cX7_exchange 12 = .ok (.iload_n 2, 1) := by decide +kernel
theorem dX7_exchange_13 : decode cX7_exchange 13 = .ok (.invokevirtual 48, 3) := by decide +kernel
theorem dX7_exchange_16 : decode cX7_exchange 16 = .ok (.checkcast 52, 3) := by decide +kernel
theorem dX7_exchange_19 : decode cX7_exchange 19 = .ok (.invokevirtual 89, 3) := by decide +kernel
theorem dX7_exchange_22 : decode cX7_exchange 22 = .ok (.pop, 1) := by decide +kernel
theorem dX7_exchange_23 : decode cX7_exchange 23 = .ok (.aload_n 0, 1) := by decide +kernel
theorem dX7_exchange_24 : decode cX7_exchange 24 = .ok (.iload_n 2, 1) := by decide +kernel
theorem dX7_exchange_25 : decode cX7_exchange 25 = .ok (.aload_n 3, 1) := by decide +kernel
theorem dX7_exchange_26 : decode cX7_exchange 26 = .ok (.invokevirtual 89, 3) := by decide +kernel
theorem dX7_exchange_29 : decode cX7_exchange 29 = .ok (.pop, 1) := by decide +kernel
theorem dX7_exchange_30 : decode cX7_exchange 30 = .ok (.return_, 1) := by decide +kernel
theorem dX7_person_0 : decode cX7_person 0 = .ok (.aload_n 0, 1) := by decide +kernel
theorem dX7_person_1 : decode cX7_person 1 = .ok (.iconst 0, 1) := by decide +kernel
theorem dX7_person_2 : decode cX7_person 2 = .ok (.putfield 35, 3) := by decide +kernel
theorem dX7_person_5 : decode cX7_person 5 = .ok (.iload_n 1, 1) := by decide +kernel
theorem dX7_person_6 : decode cX7_person 6 = .ok (.iconst 0, 1) := by decide +kernel
theorem dX7_person_7 : decode cX7_person 7 = .ok (.iconst 1, 1) := by decide +kernel
theorem dX7_person_8 : decode cX7_person 8 = .ok (.invokestatic 42, 3) := by decide +kernel
theorem dX7_person_11 : decode cX7_person 11 = .ok (.ifCond .eq 47, 3) := by decide +kernel
theorem dX7_person_14 : decode cX7_person 14 = .ok (.iload_n 2, 1) := by decide +kernel
theorem dX7_person_15 : decode cX7_person 15 = .ok (.iconst 0, 1) := by decide +kernel
theorem dX7_person_16 : decode cX7_person 16 = .ok (.iconst 3, 1) := by decide +kernel
theorem dX7_person_17 : decode cX7_person 17 = .ok (.invokestatic 42, 3) := by decide +kernel
theorem dX7_person_20 : decode cX7_person 20 = .ok (.ifCond .eq 38, 3) := by decide +kernel
theorem dX7_person_23 : decode cX7_person 23 = .ok (.iload_n 3, 1) := by decide +kernel
theorem dX7_person_24 : decode cX7_person 24 = .ok (.iconst 0, 1) := by decide +kernel
theorem dX7_person_25 : decode cX7_person 25 = .ok (.bipush 9, 2) := by decide +kernel
theorem dX7_person_27 : decode cX7_person 27 = .ok (.invokestatic 42, 3) := by decide +kernel
theorem dX7_person_30 : decode cX7_person 30 = .ok (.ifCond .eq 28, 3) := by decide +kernel
theorem dX7_person_33 : decode cX7_person 33 = .ok (.iload 4, 2) := by decide +kernel
theorem dX7_person_35 : decode cX7_person 35 = .ok (.iconst 0, 1) := by decide +kernel
theorem dX7_person_36 : decode cX7_person 36 = .ok (.bipush 99, 2) := by decide +kernel
theorem dX7_person_38 : decode cX7_person 38 = .ok (.invokestatic 42, 3) := by decide +kernel
theorem dX7_person_41 : decode cX7_person 41 = .ok (.ifCond .eq 17, 3) := by decide +kernel
theorem dX7_person_44 : decode cX7_person 44 = .ok (.iload 5, 2) := by decide +kernel
theorem dX7_person_46 : decode cX7_person 46 = .ok (.iload 4, 2) := by decide +kernel
theorem dX7_person_48 : decode cX7_person 48 = .ok (.iconst 1, 1) := by decide +kernel
theorem dX7_person_49 : decode cX7_person 49 = .ok (.iadd, 1) := by decide +kernel
theorem dX7_person_50 : decode cX7_person 50 = .ok (.bipush 100, 2) := by decide +kernel
theorem dX7_person_52 : decode cX7_person 52 = .ok (.invokestatic 42, 3) := by decide +kernel
theorem dX7_person_55 : decode cX7_person 55 = .ok (.ifCond .ne 9, 3) := by decide +kernel
theorem dX7_person_58 : decode cX7_person 58 = .ok (.aload_n 0, 1) := by decide +kernel
theorem dX7_person_59 : decode cX7_person 59 = .ok (.iconst 1, 1) := by decide +kernel
theorem dX7_person_60 : decode cX7_person 60 = .ok (.invokevirtual 93, 3) := by decide +kernel
theorem dX7_person_63 : decode cX7_person 63 = .ok (.ireturn, 1) := by decide +kernel
theorem dX7_person_64 : decode cX7_person 64 = .ok (.aload_n 0, 1) := by decide +kernel
theorem dX7_person_65 : decode cX7_person 65 = .ok (.getfield 10, 3) := by decide +kernel
theorem dX7_person_68 : decode cX7_person 68 = .ok (.invokevirtual 38, 3) := by decide +kernel
theorem dX7_person_71 : decode cX7_person 71 = .ok (.bipush 8, 2) := by decide +kernel
theorem dX7_person_73 : decode cX7_person 73 = .ok (.if_icmp .ne 9, 3) := by decide +kernel
theorem dX7_person_76 : decode cX7_person 76 = .ok (.aload_n 0, 1) := by decide +kernel
theorem dX7_person_77 : decode cX7_person 77 = .ok (.iconst 2, 1) := by decide +kernel
theorem dX7_person_78 : decode cX7_person 78 = .ok (.invokevirtual 93, 3) := by decide +kernel
theorem dX7_person_81 : decode cX7_person 81 = .ok (.ireturn, 1) := by decide +kernel
theorem dX7_person_82 : decode cX7_person 82 = .ok (.bipush 6, 2) := by decide +kernel
theorem dX7_person_84 : decode cX7_person 84 = .ok (.newarray .int, 2) := by decide +kernel
theorem dX7_person_86 : decode cX7_person 86 = .ok (.dup, 1) := by decide +kernel
theorem dX7_person_87 : decode cX7_person 87 = .ok (.iconst 0, 1) := by decide +kernel
theorem dX7_person_88 : decode cX7_person 88 = .ok (.iload_n 1, 1) := by decide +kernel
theorem dX7_person_89 : decode cX7_person 89 = .ok (.iastore, 1) := by decide +kernel
theorem dX7_person_90 : decode cX7_person 90 = .ok (.dup, 1) := by decide +kernel
theorem dX7_person_91 : decode cX7_person 91 = .ok (.iconst 1, 1) := by decide +kernel
theorem dX7_person_92 : decode cX7_person 92 = .ok (.iload_n 2, 1) := by decide +kernel
theorem dX7_person_93 : decode cX7_person 93 = .ok (.iastore, 1) := by decide +kernel
theorem dX7_person_94 : decode cX7_person 94 = .ok (.dup, 1) := by decide +kernel
theorem dX7_person_95 : decode cX7_person 95 = .ok (.iconst 2, 1) := by decide +kernel
theorem dX7_person_96 : decode cX7_person 96 = .ok (.iload_n 3, 1) := by decide +kernel
theorem dX7_person_97 : decode cX7_person 97 = .ok (.iastore, 1) := by decide +kernel
theorem dX7_person_98 : decode cX7_person 98 = .ok (.dup, 1) := by decide +kernel
theorem dX7_person_99 : decode cX7_person 99 = .ok (.iconst 3, 1) := by decide +kernel
theorem dX7_person_100 : decode cX7_person 100 = .ok (.iload 4, 2) := by decide +kernel
theorem dX7_person_102 : decode cX7_person 102 = .ok (.iastore, 1) := by decide +kernel
theorem dX7_person_103 : decode cX7_person 103 = .ok (.dup, 1) := by decide +kernel
theorem dX7_person_104 : decode cX7_person 104 = .ok (.iconst 4, 1) := by decide +kernel
theorem dX7_person_105 : decode cX7_person 105 = .ok (.iload 5, 2) := by decide +kernel
theorem dX7_person_107 : decode cX7_person 107 = .ok (.iastore, 1) := by decide +kernel
theorem dX7_person_108 : decode cX7_person 108 = .ok (.dup, 1) := by decide +kernel
theorem dX7_person_109 : decode cX7_person 109 = .ok (.iconst 5, 1) := by decide +kernel
theorem dX7_person_110 : decode cX7_person 110 = .ok (.iload 6, 2) := by decide +kernel
theorem dX7_person_112 : decode cX7_person 112 = .ok (.ifCond .eq 7, 3) := by decide +kernel
theorem dX7_person_115 : decode cX7_person 115 = .ok (.iconst 1, 1) := by decide +kernel
theorem dX7_person_116 : decode cX7_person 116 = .ok (.goto 4, 3) := by decide +kernel
theorem dX7_person_119 : decode cX7_person 119 = .ok (.iconst 0, 1) := by decide +kernel
theorem dX7_person_120 : decode cX7_person 120 = .ok (.iastore, 1) := by decide +kernel
theorem dX7_person_121 : decode cX7_person 121 = .ok (.astore 7, 2) := by decide +kernel
theorem dX7_person_123 : decode cX7_person 123 = .ok (.aload_n 0, 1) := by decide +kernel
theorem dX7_person_124 : decode cX7_person 124 = .ok (.getfield 10, 3) := by decide +kernel
theorem dX7_person_127 : decode cX7_person 127 = .ok (.aload 7, 2) := by decide +kernel
theorem dX7_person_129 : decode cX7_person 129 = .ok (.invokevirtual 97, 3) := by decide +kernel
theorem dX7_person_132 : decode cX7_person 132 = .ok (.pop, 1) := by decide +kernel
theorem dX7_person_133 : decode cX7_person 133 = .ok (.aload_n 0, 1) := by decide +kernel
theorem dX7_person_134 : decode cX7_person 134 = .ok (.getfield 10, 3) := by decide +kernel
theorem dX7_person_137 : decode cX7_person 137 = .ok (.invokevirtual 38, 3) := by decide +kernel
theorem dX7_person_140 : decode cX7_person 140 = .ok (.iconst 1, 1) := by decide +kernel
theorem dX7_person_141 : decode cX7_person 141 = .ok (.isub, 1) := by decide +kernel
theorem dX7_person_142 : decode cX7_person 142 = .ok (.ireturn, 1) := by decide +kernel
theorem dX7_figure_0 : decode cX7_figure 0 = .ok (.aload_n 0, 1) := by decide +kernel
theorem dX7_figure_1 : decode cX7_figure 1 = .ok (.iconst 0, 1) := by decide +kernel
theorem dX7_figure_2 : decode cX7_figure 2 = .ok (.putfield 35, 3) := by decide +kernel
theorem dX7_figure_5 : decode cX7_figure 5 = .ok (.aload_n 0, 1) := by decide +kernel
theorem dX7_figure_6 : decode cX7_figure 6 = .ok (.iload_n 1, 1) := by decide +kernel
theorem dX7_figure_7 : decode cX7_figure 7 = .ok (.invokevirtual 101, 3) := by decide +kernel
theorem dX7_figure_10 : decode cX7_figure 10 = .ok (.ifCond .ne 9, 3) := by decide +kernel
theorem dX7_figure_13 : decode cX7_figure 13 = .ok (.aload_n 0, 1) := by decide +kernel
theorem dX7_figure_14 : decode cX7_figure 14 = .ok (.iconst 1, 1) := by decide +kernel
theorem dX7_figure_15 : decode cX7_figure 15 = .ok (.invokevirtual 93, 3) := by decide +kernel
theorem dX7_figure_18 : decode cX7_figure 18 = .ok (.ireturn, 1) := by decide +kernel
theorem dX7_figure_19 : decode cX7_figure 19 = .ok (.iload_n 2, 1) := by decide +kernel
theorem dX7_figure_20 : decode cX7_figure 20 = .ok (.bipush 10, 2) := by decide +kernel
theorem dX7_figure_22 : decode cX7_figure 22 = .ok (.bipush 90, 2) := by decide +kernel
theorem dX7_figure_24 : decode cX7_figure 24 = .ok (.invokestatic 42, 3) := by decide +kernel
theorem dX7_figure_27 : decode cX7_figure 27 = .ok (.ifCond .ne 9, 3) := by decide +kernel
theorem dX7_figure_30 : decode cX7_figure 30 = .ok (.aload_n 0, 1) := by decide +kernel
theorem dX7_figure_31 : decode cX7_figure 31 = .ok (.iconst 2, 1) := by decide +kernel
theorem dX7_figure_32 : decode cX7_figure 32 = .ok (.invokevirtual 93, 3) := by decide +kernel
theorem dX7_figure_35 : decode cX7_figure 35 = .ok (.ireturn, 1) := by decide +kernel
theorem dX7_figure_36 : decode cX7_figure 36 = .ok (.aload_n 0, 1) := by decide +kernel
theorem dX7_figure_37 : decode cX7_figure 37 = .ok (.getfield 16, 3) := by decide +kernel
theorem dX7_figure_40 : decode cX7_figure 40 = .ok (.invokevirtual 38, 3) := by decide +kernel
theorem dX7_figure_43 : decode cX7_figure 43 = .ok (.bipush 12, 2) := by decide +kernel
theorem dX7_figure_45 : decode cX7_figure 45 = .ok (.if_icmp .ne 9, 3) := by decide +kernel
theorem dX7_figure_48 : decode cX7_figure 48 = .ok (.aload_n 0, 1) := by decide +kernel
theorem dX7_figure_49 : decode cX7_figure 49 = .ok (.iconst 3, 1) := by decide +kernel
theorem dX7_figure_50 : decode cX7_figure 50 = .ok (.invokevirtual 93, 3) := by decide +kernel
theorem dX7_figure_53 : decode cX7_figure 53 = .ok (.ireturn, 1) := by decide +kernel
theorem dX7_figure_54 : decode cX7_figure 54 = .ok (.bipush 6, 2) := by decide +kernel
theorem dX7_figure_56 : decode cX7_figure 56 = .ok (.newarray .int, 2) := by decide +kernel
theorem dX7_figure_58 : decode cX7_figure 58 = .ok (.dup, 1) := by decide +kernel
theorem dX7_figure_59 : decode cX7_figure 59 = .ok (.iconst 0, 1) := by decide +kernel
theorem dX7_figure_60 : decode cX7_figure 60 = .ok (.iload_n 1, 1) := by decide +kernel
theorem dX7_figure_61 : decode cX7_figure 61 = .ok (.iastore, 1) := by decide +kernel
theorem dX7_figure_62 : decode cX7_figure 62 = .ok (.dup, 1) := by decide +kernel
theorem dX7_figure_63 : decode cX7_figure 63 = .ok (.iconst 1, 1) := by decide +kernel
theorem dX7_figure_64 : decode cX7_figure 64 = .ok (.iload_n 2, 1) := by decide +kernel
theorem dX7_figure_65 : decode cX7_figure 65 = .ok (.iastore, 1) := by decide +kernel
theorem dX7_figure_66 : decode cX7_figure 66 = .ok (.dup, 1) := by decide +kernel
theorem dX7_figure_67 : decode cX7_figure 67 = .ok (.iconst 2, 1) := by decide +kernel
theorem dX7_figure_68 : decode cX7_figure 68 = .ok (.iconst 0, 1) := by decide +kernel
theorem dX7_figure_69 : decode cX7_figure 69 = .ok (.iastore, 1) := by decide +kernel
theorem dX7_figure_70 : decode cX7_figure 70 = .ok (.dup, 1) := by decide +kernel
theorem dX7_figure_71 : decode cX7_figure 71 = .ok (.iconst 3, 1) := by decide +kernel
theorem dX7_figure_72 : decode cX7_figure 72 = .ok (.iconst 0, 1) := by decide +kernel
theorem dX7_figure_73 : decode cX7_figure 73 = .ok (.iastore, 1) := by decide +kernel
theorem dX7_figure_74 : decode cX7_figure 74 = .ok (.dup, 1) := by decide +kernel
theorem dX7_figure_75 : decode cX7_figure 75 = .ok (.iconst 4, 1) := by decide +kernel
theorem dX7_figure_76 : decode cX7_figure 76 = .ok (.iconst (-1), 1) := by decide +kernel
theorem dX7_figure_77 : decode cX7_figure 77 = .ok (.iastore, 1) := by decide +kernel
theorem dX7_figure_78 : decode cX7_figure 78 = .ok (.dup, 1) := by decide +kernel
theorem dX7_figure_79 : decode cX7_figure 79 = .ok (.iconst 5, 1) := by decide +kernel
theorem dX7_figure_80 : decode cX7_figure 80 = .ok (.iconst 0, 1) := by decide +kernel
theorem dX7_figure_81 : decode cX7_figure 81 = .ok (.iastore, 1) := by decide +kernel
theorem dX7_figure_82 : decode cX7_figure 82 = .ok (.astore_n 3, 1) := by decide +kernel
theorem dX7_figure_83 : decode cX7_figure 83 = .ok (.aload_n 0, 1) := by decide +kernel
theorem dX7_figure_84 : decode cX7_figure 84 = .ok (.getfield 16, 3) := by decide +kernel
theorem dX7_figure_87 : decode cX7_figure 87 = .ok (.aload_n 3, 1) := by decide +kernel
theorem dX7_figure_88 : decode cX7_figure 88 = .ok (.invokevirtual 97, 3) := by decide +kernel
theorem dX7_figure_91 : decode cX7_figure 91 = .ok (.pop, 1) := by decide +kernel
theorem dX7_figure_92 : decode cX7_figure 92 = .ok (.aload_n 0, 1) := by decide +kernel
theorem dX7_figure_93 : decode cX7_figure 93 = .ok (.getfield 16, 3) := by decide +kernel
theorem dX7_figure_96 : decode cX7_figure 96 = .ok (.invokevirtual 38, 3) := by decide +kernel
theorem dX7_figure_99 : decode cX7_figure 99 = .ok (.iconst 1, 1) := by decide +kernel
theorem dX7_figure_100 : decode cX7_figure 100 = .ok (.isub, 1) := by decide +kernel
theorem dX7_figure_101 : decode cX7_figure 101 = .ok (.ireturn, 1) := by decide +kernel
theorem dX7_isOf_0 : decode cX7_isOf 0 = .ok (.iload_n 1, 1) := by decide +kernel
theorem dX7_isOf_1 : decode cX7_isOf 1 = .ok (.iconst (-1), 1) := by decide +kernel
theorem dX7_isOf_2 : decode cX7_isOf 2 = .ok (.if_icmp .eq 20, 3) := by decide +kernel
theorem dX7_isOf_5 : decode cX7_isOf 5 = .ok (.aload_n 0, 1) := by decide +kernel
theorem dX7_isOf_6 : decode cX7_isOf 6 = .ok (.iload_n 1, 1) := by decide +kernel
theorem dX7_isOf_7 : decode cX7_isOf 7 = .ok (.invokevirtual 101, 3) := by decide +kernel
theorem dX7_isOf_10 : decode cX7_isOf 10 = .ok (.ifCond .eq 16, 3) := by decide +kernel
theorem dX7_isOf_13 : decode cX7_isOf 13 = .ok (.iload_n 2, 1) := by decide +kernel
theorem dX7_isOf_14 : decode cX7_isOf 14 = .ok (.iload_n 1, 1) := by decide +kernel
theorem dX7_isOf_15 : decode cX7_isOf 15 = .ok (.ishr, 1) := by decide +kernel
theorem dX7_isOf_16 : decode cX7_isOf 16 = .ok (.iconst 1, 1) := by decide +kernel
theorem dX7_isOf_17 : decode cX7_isOf 17 = .ok (.iand, 1) := by decide +kernel
theorem dX7_isOf_18 : decode cX7_isOf 18 = .ok (.iconst 1, 1) := by decide +kernel
theorem dX7_isOf_19 : decode cX7_isOf 19 = .ok (.if_icmp .ne 7, 3) := by decide +kernel
theorem dX7_isOf_22 : decode cX7_isOf 22 = .ok (.iconst 1, 1) := by decide +kernel
theorem dX7_isOf_23 : decode cX7_isOf 23 = .ok (.goto 4, 3) := by decide +kernel
theorem dX7_isOf_26 : decode cX7_isOf 26 = .ok (.iconst 0, 1) := by decide +kernel
theorem dX7_isOf_27 : decode cX7_isOf 27 = .ok (.ireturn, 1) := by decide +kernel
theorem dX7_scene_0 : decode cX7_scene 0 = .ok (.aload_n 0, 1) := by decide +kernel
theorem dX7_scene_1 : decode cX7_scene 1 = .ok (.iconst 0, 1) := by decide +kernel
theorem dX7_scene_2 : decode cX7_scene 2 = .ok (.putfield 35, 3) := by decide +kernel
theorem dX7_scene_5 : decode cX7_scene 5 = .ok (.iload_n 1, 1) := by decide +kernel
theorem dX7_scene_6 : decode cX7_scene 6 = .ok (.iconst 0, 1) := by decide +kernel
theorem dX7_scene_7 : decode cX7_scene 7 = .ok (.bipush 100, 2) := by decide +kernel
theorem dX7_scene_9 : decode cX7_scene 9 = .ok (.invokestatic 42, 3) := by decide +kernel
theorem dX7_scene_12 : decode cX7_scene 12 = .ok (.ifCond .eq 62, 3) := by decide +kernel
theorem dX7_scene_15 : decode cX7_scene 15 = .ok (.iload_n 2, 1) := by decide +kernel
theorem dX7_scene_16 : decode cX7_scene 16 = .ok (.iconst 0, 1) := by decide +kernel
theorem dX7_scene_17 : decode cX7_scene 17 = .ok (.iconst 3, 1) := by decide +kernel
theorem dX7_scene_18 : decode cX7_scene 18 = .ok (.invokestatic 42, 3) := by decide +kernel
theorem dX7_scene_21 : decode cX7_scene 21 = .ok (.ifCond .eq 53, 3) := by decide +kernel
theorem dX7_scene_24 : decode cX7_scene 24 = .ok (.iload_n 3, 1) := by decide +kernel
theorem dX7_scene_25 : decode cX7_scene 25 = .ok (.iconst 1, 1) := by decide +kernel
theorem dX7_scene_26 : decode cX7_scene 26 = .ok (.iconst 1, 1) := by decide +kernel
theorem dX7_scene_27 : decode cX7_scene 27 = .ok (.aload_n 0, 1) := by decide +kernel
theorem dX7_scene_28 : decode cX7_scene 28 = .ok (.getfield 10, 3) := by decide +kernel
theorem dX7_scene_31 : decode cX7_scene 31 = .ok (.invokevirtual 38, 3) := by decide +kernel
theorem dX7_scene_34 : decode cX7_scene 34 = .ok (.ishl, 1) := by decide +kernel
theorem dX7_scene_35 : decode cX7_scene 35 = .ok (.iconst 1, 1) := by decide +kernel
theorem dX7_scene_36 : decode cX7_scene 36 = .ok (.isub, 1) := by decide +kernel
theorem dX7_scene_37 : decode cX7_scene 37 = .ok (.invokestatic 42, 3) := by decide +kernel
theorem dX7_scene_40 : decode cX7_scene 40 = .ok (.ifCond .eq 34, 3) := by decide +kernel
theorem dX7_scene_43 : decode cX7_scene 43 = .ok (.iload 4, 2) := by decide +kernel
theorem dX7_scene_45 : decode cX7_scene 45 = .ok (.iconst 5, 1) := by decide +kernel
theorem dX7_scene_46 : decode cX7_scene 46 = .ok (.bipush 90, 2) := by decide +kernel
theorem dX7_scene_48 : decode cX7_scene 48 = .ok (.invokestatic 42, 3) := by decide +kernel
theorem dX7_scene_51 : decode cX7_scene 51 = .ok (.ifCond .eq 23, 3) := by decide +kernel
theorem dX7_scene_54 : decode cX7_scene 54 = .ok (.aload_n 0, 1) := by decide +kernel
theorem dX7_scene_55 : decode cX7_scene 55 = .ok (.iload 5, 2) := by decide +kernel
theorem dX7_scene_57 : decode cX7_scene 57 = .ok (.iload_n 3, 1) := by decide +kernel
theorem dX7_scene_58 : decode cX7_scene 58 = .ok (.invokevirtual 105, 3) := by decide +kernel
theorem dX7_scene_61 : decode cX7_scene 61 = .ok (.ifCond .eq 13, 3) := by decide +kernel
theorem dX7_scene_64 : decode cX7_scene 64 = .ok (.aload_n 0, 1) := by decide +kernel
theorem dX7_scene_65 : decode cX7_scene 65 = .ok (.iload 6, 2) := by decide +kernel
theorem dX7_scene_67 : decode cX7_scene 67 = .ok (.iload_n 3, 1) := by decide +kernel
theorem dX7_scene_68 : decode cX7_scene 68 = .ok (.invokevirtual 105, 3) := by decide +kernel
theorem dX7_scene_71 : decode cX7_scene 71 = .ok (.ifCond .ne 9, 3) := by decide +kernel
theorem dX7_scene_74 : decode cX7_scene 74 = .ok (.aload_n 0, 1) := by decide +kernel
theorem dX7_scene_75 : decode cX7_scene 75 = .ok (.iconst 1, 1) := by decide +kernel
theorem dX7_scene_76 : decode cX7_scene 76 = .ok (.invokevirtual 93, 3) := by decide +kernel
theorem dX7_scene_79 : decode cX7_scene 79 = .ok (.ireturn, 1) := by decide +kernel
theorem dX7_scene_80 : decode cX7_scene 80 = .ok (.aload_n 0, 1) := by decide +kernel
theorem dX7_scene_81 : decode cX7_scene 81 = .ok (.getfield 19, 3) := by decide +kernel
theorem dX7_scene_84 : decode cX7_scene 84 = .ok (.invokevirtual 38, 3) := by decide +kernel
theorem dX7_scene_87 : decode cX7_scene 87 = .ok (.bipush 10, 2) := by decide +kernel
theorem dX7_scene_89 : decode cX7_scene 89 = .ok (.if_icmp .ne 9, 3) := by decide +kernel
theorem dX7_scene_92 : decode cX7_scene 92 = .ok (.aload_n 0, 1) := by decide +kernel
theorem dX7_scene_93 : decode cX7_scene 93 = .ok (.iconst 2, 1) := by decide +kernel
theorem dX7_scene_94 : decode cX7_scene 94 = .ok (.invokevirtual 93, 3) := by decide +kernel
theorem dX7_scene_97 : decode cX7_scene 97 = .ok (.ireturn, 1) := by decide +kernel
theorem dX7_scene_98 : decode cX7_scene 98 = .ok (.bipush 6, 2) := by decide +kernel
theorem dX7_scene_100 : decode cX7_scene 100 = .ok (.newarray .int, 2) := by decide +kernel
theorem dX7_scene_102 : decode cX7_scene 102 = .ok (.dup, 1) := by decide +kernel
theorem dX7_scene_103 : decode cX7_scene 103 = .ok (.iconst 0, 1) := by decide +kernel
theorem dX7_scene_104 : decode cX7_scene 104 = .ok (.iload_n 1, 1) := by decide +kernel
theorem dX7_scene_105 : decode cX7_scene 105 = .ok (.iastore, 1) := by decide +kernel
theorem dX7_scene_106 : decode cX7_scene 106 = .ok (.dup, 1) := by decide +kernel
theorem dX7_scene_107 : decode cX7_scene 107 = .ok (.iconst 1, 1) := by decide +kernel
theorem dX7_scene_108 : decode cX7_scene 108 = .ok (.iload_n 2, 1) := by decide +kernel
theorem dX7_scene_109 : decode cX7_scene 109 = .ok (.iastore, 1) := by decide +kernel
theorem dX7_scene_110 : decode cX7_scene 110 = .ok (.dup, 1) := by decide +kernel
theorem dX7_scene_111 : decode cX7_scene 111 = .ok (.iconst 2, 1) := by decide +kernel
theorem dX7_scene_112 : decode cX7_scene 112 = .ok (.iload_n 3, 1) := by decide +kernel
theorem dX7_scene_113 : decode cX7_scene 113 = .ok (.iastore, 1) := by decide +kernel
theorem dX7_scene_114 : decode cX7_scene 114 = .ok (.dup, 1) := by decide +kernel
theorem dX7_scene_115 : decode cX7_scene 115 = .ok (.iconst 3, 1) := by decide +kernel
theorem dX7_scene_116 : decode cX7_scene 116 = .ok (.iload 4, 2) := by decide +kernel
theorem dX7_scene_118 : decode cX7_scene 118 = .ok (.iastore, 1) := by decide +kernel
theorem dX7_scene_119 : decode cX7_scene 119 = .ok (.dup, 1) := by decide +kernel
theorem dX7_scene_120 : decode cX7_scene 120 = .ok (.iconst 4, 1) := by decide +kernel
theorem dX7_scene_121 : decode cX7_scene 121 = .ok (.iload 5, 2) := by decide +kernel
theorem dX7_scene_123 : decode cX7_scene 123 = .ok (.iastore, 1) := by decide +kernel
theorem dX7_scene_124 : decode cX7_scene 124 = .ok (.dup, 1) := by decide +kernel
theorem dX7_scene_125 : decode cX7_scene 125 = .ok (.iconst 5, 1) := by decide +kernel
theorem dX7_scene_126 : decode cX7_scene 126 = .ok (.iload 6, 2) := by decide +kernel
theorem dX7_scene_128 : decode cX7_scene 128 = .ok (.iastore, 1) := by decide +kernel
theorem dX7_scene_129 : decode cX7_scene 129 = .ok (.astore 7, 2) := by decide +kernel
theorem dX7_scene_131 : decode cX7_scene 131 = .ok (.aload_n 0, 1) := by decide +kernel
theorem dX7_scene_132 : decode cX7_scene 132 = .ok (.getfield 19, 3) := by decide +kernel
theorem dX7_scene_135 : decode cX7_scene 135 = .ok (.aload 7, 2) := by decide +kernel
theorem dX7_scene_137 : decode cX7_scene 137 = .ok (.invokevirtual 97, 3) := by decide +kernel
theorem dX7_scene_140 : decode cX7_scene 140 = .ok (.pop, 1) := by decide +kernel
theorem dX7_scene_141 : decode cX7_scene 141 = .ok (.aload_n 0, 1) := by decide +kernel
theorem dX7_scene_142 : decode cX7_scene 142 = .ok (.getfield 19, 3) := by decide +kernel
theorem dX7_scene_145 : decode cX7_scene 145 = .ok (.invokevirtual 38, 3) := by decide +kernel
theorem dX7_scene_148 : decode cX7_scene 148 = .ok (.iconst 1, 1) := by decide +kernel
theorem dX7_scene_149 : decode cX7_scene 149 = .ok (.isub, 1) := by decide +kernel
theorem dX7_scene_150 : decode cX7_scene 150 = .ok (.ireturn, 1) := by decide +kernel
theorem dX7_length_0 : decode cX7_length 0 = .ok (.aload_n 0, 1) := by decide +kernel
theorem dX7_length_1 : decode cX7_length 1 = .ok (.iconst 0, 1) := by decide +kernel
theorem dX7_length_2 : decode cX7_length 2 = .ok (.putfield 35, 3) := by decide +kernel
theorem dX7_length_5 : decode cX7_length 5 = .ok (.aload_n 0, 1) := by decide +kernel
theorem dX7_length_6 : decode cX7_length 6 = .ok (.iload_n 1, 1) := by decide +kernel
theorem dX7_length_7 : decode cX7_length 7 = .ok (.invokevirtual 109, 3) := by decide +kernel
theorem dX7_length_10 : decode cX7_length 10 = .ok (.ifCond .ne 9, 3) := by decide +kernel
theorem dX7_length_13 : decode cX7_length 13 = .ok (.aload_n 0, 1) := by decide +kernel
theorem dX7_length_14 : decode cX7_length 14 = .ok (.iconst 1, 1) := by decide +kernel
theorem dX7_length_15 : decode cX7_length 15 = .ok (.invokevirtual 93, 3) := by decide +kernel
theorem dX7_length_18 : decode cX7_length 18 = .ok (.ireturn, 1) := by decide +kernel
theorem dX7_length_19 : decode cX7_length 19 = .ok (.iload_n 2, 1) := by decide +kernel
theorem dX7_length_20 : decode cX7_length 20 = .ok (.iconst 5, 1) := by decide +kernel
theorem dX7_length_21 : decode cX7_length 21 = .ok (.bipush 90, 2) := by decide +kernel
theorem dX7_length_23 : decode cX7_length 23 = .ok (.invokestatic 42, 3) := by decide +kernel
theorem dX7_length_26 : decode cX7_length 26 = .ok (.ifCond .ne 9, 3) := by decide +kernel
theorem dX7_length_29 : decode cX7_length 29 = .ok (.aload_n 0, 1) := by decide +kernel
theorem dX7_length_30 : decode cX7_length 30 = .ok (.iconst 2, 1) := by decide +kernel
theorem dX7_length_31 : decode cX7_length 31 = .ok (.invokevirtual 93, 3) := by decide +kernel
theorem dX7_length_34 : decode cX7_length 34 = .ok (.ireturn, 1) := by decide +kernel
theorem dX7_length_35 : decode cX7_length 35 = .ok (.aload_n 0, 1) := by decide +kernel
theorem dX7_length_36 : decode cX7_length 36 = .ok (.getfield 19, 3) := by decide +kernel
theorem dX7_length_39 : decode cX7_length 39 = .ok (.iload_n 1, 1) := by decide +kernel
theorem dX7_length_40 : decode cX7_length 40 = .ok (.invokevirtual 48, 3) := by decide +kernel
theorem dX7_length_43 : decode cX7_length 43 = .ok (.checkcast 52, 3) := by decide +kernel
theorem dX7_length_46 : decode cX7_length 46 = .ok (.astore_n 3, 1) := by decide +kernel
theorem dX7_length_47 : decode cX7_length 47 = .ok (.aload_n 0, 1) := by decide +kernel
theorem dX7_length_48 : decode cX7_length 48 = .ok (.aload_n 0, 1) := by decide +kernel
theorem dX7_length_49 : decode cX7_length 49 = .ok (.getfield 19, 3) := by decide +kernel
theorem dX7_length_52 : decode cX7_length 52 = .ok (.invokevirtual 68, 3) := by decide +kernel
theorem dX7_length_55 : decode cX7_length 55 = .ok (.iload_n 1, 1) := by decide +kernel
theorem dX7_length_56 : decode cX7_length 56 = .ok (.aaload, 1) := by decide +kernel
theorem dX7_length_57 : decode cX7_length 57 = .ok (.iconst 0, 1) := by decide +kernel
theorem dX7_length_58 : decode cX7_length 58 = .ok (.iaload, 1) := by decide +kernel
theorem dX7_length_59 : decode cX7_length 59 = .ok (.aload_n 3, 1) := by decide +kernel
theorem dX7_length_60 : decode cX7_length 60 = .ok (.iconst 3, 1) := by decide +kernel
theorem dX7_length_61 : decode cX7_length 61 = .ok (.iaload, 1) := by decide +kernel
theorem dX7_length_62 : decode cX7_length 62 = .ok (.iadd, 1) := by decide +kernel
theorem dX7_length_63 : decode cX7_length 63 = .ok (.aload_n 0, 1) := by decide +kernel
theorem dX7_length_64 : decode cX7_length 64 = .ok (.getfield 86, 3) := by decide +kernel
theorem dX7_length_67 : decode cX7_length 67 = .ok (.if_icmp .gt 9, 3) := by decide +kernel
theorem dX7_length_70 : decode cX7_length 70 = .ok (.aload_n 0, 1) := by decide +kernel
theorem dX7_length_71 : decode cX7_length 71 = .ok (.iconst 3, 1) := by decide +kernel
theorem dX7_length_72 : decode cX7_length 72 = .ok (.invokevirtual 93, 3) := by decide +kernel
theorem dX7_length_75 : decode cX7_length 75 = .ok (.ireturn, 1) := by decide +kernel
theorem dX7_length_76 : decode cX7_length 76 = .ok (.aload_n 3, 1) := by decide +kernel
theorem dX7_length_77 : decode cX7_length 77 = .ok (.iconst 3, 1) := by decide +kernel
theorem dX7_length_78 : decode cX7_length 78 = .ok (.iaload, 1) := by decide +kernel
theorem dX7_length_79 : decode cX7_length 79 = .ok (.istore 4, 2) := by decide +kernel
theorem dX7_length_81 : decode cX7_length 81 = .ok (.aload_n 3, 1) := by decide +kernel
theorem dX7_length_82 : decode cX7_length 82 = .ok (.iconst 3, 1) := by decide +kernel
theorem dX7_length_83 : decode cX7_length 83 = .ok (.iload_n 2, 1) := by decide +kernel
theorem dX7_length_84 : decode cX7_length 84 = .ok (.iastore, 1) := by decide +kernel
theorem dX7_length_85 : decode cX7_length 85 = .ok (.iload 4, 2) := by decide +kernel
theorem dX7_length_87 : decode cX7_length 87 = .ok (.ireturn, 1) := by decide +kernel
theorem dX7_swap_0 : decode cX7_swap 0 = .ok (.aload_n 0, 1) := by decide +kernel
theorem dX7_swap_1 : decode cX7_swap 1 = .ok (.iconst 0, 1) := by decide +kernel
theorem dX7_swap_2 : decode cX7_swap 2 = .ok (.putfield 35, 3) := by decide +kernel
theorem dX7_swap_5 : decode cX7_swap 5 = .ok (.aload_n 0, 1) := by decide +kernel
theorem dX7_swap_6 : decode cX7_swap 6 = .ok (.iload_n 1, 1) := by decide +kernel
theorem dX7_swap_7 : decode cX7_swap 7 = .ok (.invokevirtual 109, 3) := by decide +kernel
theorem dX7_swap_10 : decode cX7_swap 10 = .ok (.ifCond .eq 11, 3) := by decide +kernel
theorem dX7_swap_13 : decode cX7_swap 13 = .ok (.aload_n 0, 1) := by decide +kernel
theorem dX7_swap_14 : decode cX7_swap 14 = .ok (.iload_n 2, 1) := by decide +kernel
theorem dX7_swap_15 : decode cX7_swap 15 = .ok (.invokevirtual 109, 3) := by decide +kernel
theorem dX7_swap_18 : decode cX7_swap 18 = .ok (.ifCond .ne 9, 3) := by decide +kernel
theorem dX7_swap_21 : decode cX7_swap 21 = .ok (.aload_n 0, 1) := by decide +kernel
theorem dX7_swap_22 : decode cX7_swap 22 = .ok (.iconst 1, 1) := by decide +kernel
theorem dX7_swap_23 : decode cX7_swap 23 = .ok (.invokevirtual 93, 3) := by decide +kernel
theorem dX7_swap_26 : decode cX7_swap 26 = .ok (.ireturn, 1) := by decide +kernel
theorem dX7_swap_27 : decode cX7_swap 27 = .ok (.aload_n 0, 1) := by decide +kernel
theorem dX7_swap_28 : decode cX7_swap 28 = .ok (.getfield 86, 3) := by decide +kernel
theorem dX7_swap_31 : decode cX7_swap 31 = .ok (.ifCond .le 9, 3) := by decide +kernel
theorem dX7_swap_34 : decode cX7_swap 34 = .ok (.aload_n 0, 1) := by decide +kernel
theorem dX7_swap_35 : decode cX7_swap 35 = .ok (.iconst 2, 1) := by decide +kernel
theorem dX7_swap_36 : decode cX7_swap 36 = .ok (.invokevirtual 93, 3) := by decide +kernel
theorem dX7_swap_39 : decode cX7_swap 39 = .ok (.ireturn, 1) := by decide +kernel
theorem dX7_swap_40 : decode cX7_swap 40 = .ok (.aload_n 0, 1) := by decide +kernel
theorem dX7_swap_41 : decode cX7_swap 41 = .ok (.getfield 19, 3) := by decide +kernel
theorem dX7_swap_44 : decode cX7_swap 44 = .ok (.iload_n 1, 1) := by decide +kernel
theorem dX7_swap_45 : decode cX7_swap 45 = .ok (.iload_n 2, 1) := by decide +kernel
theorem dX7_swap_46 : decode cX7_swap 46 = .ok (.invokestatic 112, 3) := by decide +kernel
theorem dX7_swap_49 : decode cX7_swap 49 = .ok (.aload_n 0, 1) := by decide +kernel
theorem dX7_swap_50 : decode cX7_swap 50 = .ok (.aload_n 0, 1) := by decide +kernel
theorem dX7_swap_51 : decode cX7_swap 51 = .ok (.getfield 19, 3) := by decide +kernel
theorem dX7_swap_54 : decode cX7_swap 54 = .ok (.invokevirtual 116, 3) := by decide +kernel
theorem dX7_swap_57 : decode cX7_swap 57 = .ok (.ireturn, 1) := by decide +kernel
theorem dX7_lamp_0 : decode cX7_lamp 0 = .ok (.aload_n 0, 1) := by decide +kernel
theorem dX7_lamp_1 : decode cX7_lamp 1 = .ok (.iconst 0, 1) := by decide +kernel
theorem dX7_lamp_2 : decode cX7_lamp 2 = .ok (.putfield 35, 3) := by decide +kernel
theorem dX7_lamp_5 : decode cX7_lamp 5 = .ok (.iload_n 1, 1) := by decide +kernel
theorem dX7_lamp_6 : decode cX7_lamp 6 = .ok (.bipush 20, 2) := by decide +kernel
theorem dX7_lamp_8 : decode cX7_lamp 8 = .ok (.bipush 80, 2) := by decide +kernel
theorem dX7_lamp_10 : decode cX7_lamp 10 = .ok (.invokestatic 42, 3) := by decide +kernel
theorem dX7_lamp_13 : decode cX7_lamp 13 = .ok (.ifCond .eq 13, 3) := by decide +kernel
theorem dX7_lamp_16 : decode cX7_lamp 16 = .ok (.iload_n 2, 1) := by decide +kernel
theorem dX7_lamp_17 : decode cX7_lamp 17 = .ok (.iconst 0, 1) := by decide +kernel
theorem dX7_lamp_18 : decode cX7_lamp 18 = .ok (.bipush 9, 2) := by decide +kernel
theorem dX7_lamp_20 : decode cX7_lamp 20 = .ok (.invokestatic 42, 3) := by decide +kernel
theorem dX7_lamp_23 : decode cX7_lamp 23 = .ok (.ifCond .ne 9, 3) := by decide +kernel
theorem dX7_lamp_26 : decode cX7_lamp 26 = .ok (.aload_n 0, 1) := by decide +kernel
theorem dX7_lamp_27 : decode cX7_lamp 27 = .ok (.iconst 1, 1) := by decide +kernel
theorem dX7_lamp_28 : decode cX7_lamp 28 = .ok (.invokevirtual 93, 3) := by decide +kernel
theorem dX7_lamp_31 : decode cX7_lamp 31 = .ok (.ireturn, 1) := by decide +kernel
theorem dX7_lamp_32 : decode cX7_lamp 32 = .ok (.aload_n 0, 1) := by decide +kernel
theorem dX7_lamp_33 : decode cX7_lamp 33 = .ok (.getfield 22, 3) := by decide +kernel
theorem dX7_lamp_36 : decode cX7_lamp 36 = .ok (.istore_n 3, 1) := by decide +kernel
theorem dX7_lamp_37 : decode cX7_lamp 37 = .ok (.aload_n 0, 1) := by decide +kernel
theorem dX7_lamp_38 : decode cX7_lamp 38 = .ok (.iload_n 1, 1) := by decide +kernel
theorem dX7_lamp_39 : decode cX7_lamp 39 = .ok (.putfield 22, 3) := by decide +kernel
theorem dX7_lamp_42 : decode cX7_lamp 42 = .ok (.aload_n 0, 1) := by decide +kernel
theorem dX7_lamp_43 : decode cX7_lamp 43 = .ok (.iload_n 2, 1) := by decide +kernel
theorem dX7_lamp_44 : decode cX7_lamp 44 = .ok (.putfield 120, 3) := by decide +kernel
theorem dX7_lamp_47 : decode cX7_lamp 47 = .ok (.iload_n 3, 1) := by decide +kernel
theorem dX7_lamp_48 : decode cX7_lamp 48 = .ok (.ireturn, 1) := by decide +kernel
theorem dX7_at_0 : decode cX7_at 0 = .ok (.iconst 0, 1) := by decide +kernel
theorem dX7_at_1 : decode cX7_at 1 = .ok (.istore_n 3, 1) := by decide +kernel
theorem dX7_at_2 : decode cX7_at 2 = .ok (.iload_n 3, 1) := by decide +kernel
theorem dX7_at_3 : decode cX7_at 3 = .ok (.aload_n 0, 1) := by decide +kernel
theorem dX7_at_4 : decode cX7_at 4 = .ok (.getfield 16, 3) := by decide +kernel
theorem dX7_at_7 : decode cX7_at 7 = .ok (.invokevirtual 38, 3) := by decide +kernel
theorem dX7_at_10 : decode cX7_at 10 = .ok (.if_icmp .ge 28, 3) := by decide +kernel
theorem dX7_at_13 : decode cX7_at 13 = .ok (.aload_n 0, 1) := by decide +kernel
theorem dX7_at_14 : decode cX7_at 14 = .ok (.getfield 16, 3) := by decide +kernel
theorem dX7_at_17 : decode cX7_at 17 = .ok (.iload_n 3, 1) := by decide +kernel
theorem dX7_at_18 : decode cX7_at 18 = .ok (.invokevirtual 48, 3) := by decide +kernel
theorem dX7_at_21 : decode cX7_at 21 = .ok (.checkcast 52, 3) := by decide +kernel
theorem dX7_at_24 : decode cX7_at 24 = .ok (.iconst 4, 1) := by decide +kernel
theorem dX7_at_25 : decode cX7_at 25 = .ok (.iaload, 1) := by decide +kernel
theorem dX7_at_26 : decode cX7_at 26 = .ok (.iload_n 1, 1) := by decide +kernel
theorem dX7_at_27 : decode cX7_at 27 = .ok (.if_icmp .ne 5, 3) := by decide +kernel
theorem dX7_at_30 : decode cX7_at 30 = .ok (.iload_n 3, 1) := by decide +kernel
theorem dX7_at_31 : decode cX7_at 31 = .ok (.ireturn, 1) := by decide +kernel
theorem dX7_at_32 : decode cX7_at 32 = .ok (.iinc 3 1, 3) := by decide +kernel
theorem dX7_at_35 : decode cX7_at 35 = .ok (.goto (-33), 3) := by decide +kernel
theorem dX7_at_38 : decode cX7_at 38 = .ok (.iload_n 2, 1) := by decide +kernel
theorem dX7_at_39 : decode cX7_at 39 = .ok (.ireturn, 1) := by decide +kernel
theorem dX7_isFree_0 : decode cX7_isFree 0 = .ok (.aload_n 0, 1) := by decide +kernel
theorem dX7_isFree_1 : decode cX7_isFree 1 = .ok (.getfield 16, 3) := by decide +kernel
theorem dX7_isFree_4 : decode cX7_isFree 4 = .ok (.invokevirtual 72, 3) := by decide +kernel
theorem dX7_isFree_7 : decode cX7_isFree 7 = .ok (.astore_n 2, 1) := by decide +kernel
theorem dX7_isFree_8 : decode cX7_isFree 8 = .ok (.aload_n 2, 1) := by decide +kernel
theorem dX7_isFree_9 : decode cX7_isFree 9 = .ok (.invokeinterface 76 1, 5) := by decide +kernel
theorem dX7_isFree_14 : decode cX7_isFree 14 = .ok (.ifCond .eq 25, 3) := by decide +kernel
theorem dX7_isFree_17 : decode cX7_isFree 17 = .ok (.aload_n 2, 1) := by decide +kernel
theorem dX7_isFree_18 : decode cX7_isFree 18 = .ok (.invokeinterface 82 1, 5) := by decide +kernel
theorem dX7_isFree_23 : decode cX7_isFree 23 = .ok (.checkcast 52, 3) := by decide +kernel
theorem dX7_isFree_26 : decode cX7_isFree 26 = .ok (.astore_n 3, 1) := by decide +kernel
theorem dX7_isFree_27 : decode cX7_isFree 27 = .ok (.aload_n 3, 1) := by decide +kernel
theorem dX7_isFree_28 : decode cX7_isFree 28 = .ok (.iconst 3, 1) := by decide +kernel
theorem dX7_isFree_29 : decode cX7_isFree 29 = .ok (.iaload, 1) := by decide +kernel
theorem dX7_isFree_30 : decode cX7_isFree 30 = .ok (.iload_n 1, 1) := by decide +kernel
theorem dX7_isFree_31 : decode cX7_isFree 31 = .ok (.if_icmp .ne 5, 3) := by decide +kernel
theorem dX7_isFree_34 : decode cX7_isFree 34 = .ok (.iconst 0, 1) := by decide +kernel
theorem dX7_isFree_35 : decode cX7_isFree 35 = .ok (.ireturn, 1) := by decide +kernel
theorem dX7_isFree_36 : decode cX7_isFree 36 = .ok (.goto (-28), 3) := by decide +kernel
theorem dX7_isFree_39 : decode cX7_isFree 39 = .ok (.iconst 1, 1) := by decide +kernel
theorem dX7_isFree_40 : decode cX7_isFree 40 = .ok (.ireturn, 1) := by decide +kernel
theorem dX7_reaches_0 : decode cX7_reaches 0 = .ok (.iload_n 0, 1) := by decide +kernel
theorem dX7_reaches_1 : decode cX7_reaches 1 = .ok (.iconst 2, 1) := by decide +kernel
theorem dX7_reaches_2 : decode cX7_reaches 2 = .ok (.if_icmp .ne 12, 3) := by decide +kernel
theorem dX7_reaches_5 : decode cX7_reaches 5 = .ok (.iload_n 1, 1) := by decide +kernel
theorem dX7_reaches_6 : decode cX7_reaches 6 = .ok (.iconst 0, 1) := by decide +kernel
theorem dX7_reaches_7 : decode cX7_reaches 7 = .ok (.iconst 5, 1) := by decide +kernel
theorem dX7_reaches_8 : decode cX7_reaches 8 = .ok (.invokestatic 42, 3) := by decide +kernel
theorem dX7_reaches_11 : decode cX7_reaches 11 = .ok (.goto 10, 3) := by decide +kernel
theorem dX7_reaches_14 : decode cX7_reaches 14 = .ok (.iload_n 1, 1) := by decide +kernel
theorem dX7_reaches_15 : decode cX7_reaches 15 = .ok (.iconst 4, 1) := by decide +kernel
theorem dX7_reaches_16 : decode cX7_reaches 16 = .ok (.bipush 9, 2) := by decide +kernel
theorem dX7_reaches_18 : decode cX7_reaches 18 = .ok (.invokestatic 42, 3) := by decide +kernel
theorem dX7_reaches_21 : decode cX7_reaches 21 = .ok (.ireturn, 1) := by decide +kernel
theorem dX7_gripper_0 : decode cX7_gripper 0 = .ok (.aload_n 0, 1) := by decide +kernel
theorem dX7_gripper_1 : decode cX7_gripper 1 = .ok (.getfield 16, 3) := by decide +kernel
theorem dX7_gripper_4 : decode cX7_gripper 4 = .ok (.iload_n 1, 1) := by decide +kernel
theorem dX7_gripper_5 : decode cX7_gripper 5 = .ok (.invokevirtual 48, 3) := by decide +kernel
theorem dX7_gripper_8 : decode cX7_gripper 8 = .ok (.checkcast 52, 3) := by decide +kernel
theorem dX7_gripper_11 : decode cX7_gripper 11 = .ok (.astore_n 2, 1) := by decide +kernel
theorem dX7_gripper_12 : decode cX7_gripper 12 = .ok (.aload_n 2, 1) := by decide +kernel
theorem dX7_gripper_13 : decode cX7_gripper 13 = .ok (.iconst 3, 1) := by decide +kernel
theorem dX7_gripper_14 : decode cX7_gripper 14 = .ok (.iaload, 1) := by decide +kernel
theorem dX7_gripper_15 : decode cX7_gripper 15 = .ok (.iconst 2, 1) := by decide +kernel
theorem dX7_gripper_16 : decode cX7_gripper 16 = .ok (.if_icmp .lt 5, 3) := by decide +kernel
theorem dX7_gripper_19 : decode cX7_gripper 19 = .ok (.iconst (-1), 1) := by decide +kernel
theorem dX7_gripper_20 : decode cX7_gripper 20 = .ok (.ireturn, 1) := by decide +kernel
theorem dX7_gripper_21 : decode cX7_gripper 21 = .ok (.aload_n 2, 1) := by decide +kernel
theorem dX7_gripper_22 : decode cX7_gripper 22 = .ok (.iconst 3, 1) := by decide +kernel
theorem dX7_gripper_23 : decode cX7_gripper 23 = .ok (.iaload, 1) := by decide +kernel
theorem dX7_gripper_24 : decode cX7_gripper 24 = .ok (.ifCond .ne 55, 3) := by decide +kernel
theorem dX7_gripper_27 : decode cX7_gripper 27 = .ok (.iconst 2, 1) := by decide +kernel
theorem dX7_gripper_28 : decode cX7_gripper 28 = .ok (.aload_n 0, 1) := by decide +kernel
theorem dX7_gripper_29 : decode cX7_gripper 29 = .ok (.getfield 10, 3) := by decide +kernel
theorem dX7_gripper_32 : decode cX7_gripper 32 = .ok (.aload_n 2, 1) := by decide +kernel
theorem dX7_gripper_33 : decode cX7_gripper 33 = .ok (.iconst 0, 1) := by decide +kernel
theorem dX7_gripper_34 : decode cX7_gripper 34 = .ok (.iaload, 1) := by decide +kernel
theorem dX7_gripper_35 : decode cX7_gripper 35 = .ok (.invokevirtual 48, 3) := by decide +kernel
theorem dX7_gripper_38 : decode cX7_gripper 38 = .ok (.checkcast 52, 3) := by decide +kernel
theorem dX7_gripper_41 : decode cX7_gripper 41 = .ok (.iconst 0, 1) := by decide +kernel
theorem dX7_gripper_42 : decode cX7_gripper 42 = .ok (.iaload, 1) := by decide +kernel
theorem dX7_gripper_43 : decode cX7_gripper 43 = .ok (.iadd, 1) := by decide +kernel
theorem dX7_gripper_44 : decode cX7_gripper 44 = .ok (.istore_n 3, 1) := by decide +kernel
theorem dX7_gripper_45 : decode cX7_gripper 45 = .ok (.aload_n 0, 1) := by decide +kernel
theorem dX7_gripper_46 : decode cX7_gripper 46 = .ok (.iload_n 3, 1) := by decide +kernel
theorem dX7_gripper_47 : decode cX7_gripper 47 = .ok (.invokevirtual 123, 3) := by decide +kernel
theorem dX7_gripper_50 : decode cX7_gripper 50 = .ok (.ifCond .eq 27, 3) := by decide +kernel
theorem dX7_gripper_53 : decode cX7_gripper 53 = .ok (.aload_n 0, 1) := by decide +kernel
theorem dX7_gripper_54 : decode cX7_gripper 54 = .ok (.iload_n 3, 1) := by decide +kernel
theorem dX7_gripper_55 : decode cX7_gripper 55 = .ok (.iconst 2, 1) := by decide +kernel
theorem dX7_gripper_56 : decode cX7_gripper 56 = .ok (.if_icmp .ne 7, 3) := by decide +kernel
theorem dX7_gripper_59 : decode cX7_gripper 59 = .ok (.iconst 0, 1) := by decide +kernel
theorem dX7_gripper_60 : decode cX7_gripper 60 = .ok (.goto 5, 3) := by decide +kernel
theorem dX7_gripper_63 : decode cX7_gripper 63 = .ok (.bipush 9, 2) := by decide +kernel
theorem dX7_gripper_65 : decode cX7_gripper 65 = .ok (.iconst (-1), 1) := by decide +kernel
theorem dX7_gripper_66 : decode cX7_gripper 66 = .ok (.invokevirtual 126, 3) := by decide +kernel
theorem dX7_gripper_69 : decode cX7_gripper 69 = .ok (.iconst (-1), 1) := by decide +kernel
theorem dX7_gripper_70 : decode cX7_gripper 70 = .ok (.if_icmp .ne 7, 3) := by decide +kernel
theorem dX7_gripper_73 : decode cX7_gripper 73 = .ok (.iload_n 3, 1) := by decide +kernel
theorem dX7_gripper_74 : decode cX7_gripper 74 = .ok (.goto 4, 3) := by decide +kernel
theorem dX7_gripper_77 : decode cX7_gripper 77 = .ok (.iconst (-1), 1) := by decide +kernel
theorem dX7_gripper_78 : decode cX7_gripper 78 = .ok (.ireturn, 1) := by decide +kernel
theorem dX7_gripper_79 : decode cX7_gripper 79 = .ok (.iconst 2, 1) := by decide +kernel
theorem dX7_gripper_80 : decode cX7_gripper 80 = .ok (.istore_n 3, 1) := by decide +kernel
theorem dX7_gripper_81 : decode cX7_gripper 81 = .ok (.iload_n 3, 1) := by decide +kernel
theorem dX7_gripper_82 : decode cX7_gripper 82 = .ok (.iconst 3, 1) := by decide +kernel
theorem dX7_gripper_83 : decode cX7_gripper 83 = .ok (.if_icmp .gt 29, 3) := by decide +kernel
theorem dX7_gripper_86 : decode cX7_gripper 86 = .ok (.aload_n 0, 1) := by decide +kernel
theorem dX7_gripper_87 : decode cX7_gripper 87 = .ok (.iload_n 3, 1) := by decide +kernel
theorem dX7_gripper_88 : decode cX7_gripper 88 = .ok (.invokevirtual 123, 3) := by decide +kernel
theorem dX7_gripper_91 : decode cX7_gripper 91 = .ok (.ifCond .eq 15, 3) := by decide +kernel
theorem dX7_gripper_94 : decode cX7_gripper 94 = .ok (.iload_n 3, 1) := by decide +kernel
theorem dX7_gripper_95 : decode cX7_gripper 95 = .ok (.aload_n 2, 1) := by decide +kernel
theorem dX7_gripper_96 : decode cX7_gripper 96 = .ok (.iconst 4, 1) := by decide +kernel
theorem dX7_gripper_97 : decode cX7_gripper 97 = .ok (.iaload, 1) := by decide +kernel
theorem dX7_gripper_98 : decode cX7_gripper 98 = .ok (.invokestatic 129, 3) := by decide +kernel
theorem dX7_gripper_101 : decode cX7_gripper 101 = .ok (.ifCond .eq 5, 3) := by decide +kernel
theorem dX7_gripper_104 : decode cX7_gripper 104 = .ok (.iload_n 3, 1) := by decide +kernel
theorem dX7_gripper_105 : decode cX7_gripper 105 = .ok (.ireturn, 1) := by decide +kernel
theorem dX7_gripper_106 : decode cX7_gripper 106 = .ok (.iinc 3 1, 3) := by decide +kernel
theorem dX7_gripper_109 : decode cX7_gripper 109 = .ok (.goto (-28), 3) := by decide +kernel
theorem dX7_gripper_112 : decode cX7_gripper 112 = .ok (.iconst (-1), 1) := by decide +kernel
theorem dX7_gripper_113 : decode cX7_gripper 113 = .ok (.ireturn, 1) := by decide +kernel
theorem dX7_grip_0 : decode cX7_grip 0 = .ok (.aload_n 0, 1) := by decide +kernel
theorem dX7_grip_1 : decode cX7_grip 1 = .ok (.iconst 0, 1) := by decide +kernel
theorem dX7_grip_2 : decode cX7_grip 2 = .ok (.putfield 35, 3) := by decide +kernel
theorem dX7_grip_5 : decode cX7_grip 5 = .ok (.aload_n 0, 1) := by decide +kernel
theorem dX7_grip_6 : decode cX7_grip 6 = .ok (.iload_n 1, 1) := by decide +kernel
theorem dX7_grip_7 : decode cX7_grip 7 = .ok (.invokevirtual 132, 3) := by decide +kernel
theorem dX7_grip_10 : decode cX7_grip 10 = .ok (.ifCond .ne 9, 3) := by decide +kernel
theorem dX7_grip_13 : decode cX7_grip 13 = .ok (.aload_n 0, 1) := by decide +kernel
theorem dX7_grip_14 : decode cX7_grip 14 = .ok (.iconst 1, 1) := by decide +kernel
theorem dX7_grip_15 : decode cX7_grip 15 = .ok (.invokevirtual 93, 3) := by decide +kernel
theorem dX7_grip_18 : decode cX7_grip 18 = .ok (.ireturn, 1) := by decide +kernel
theorem dX7_grip_19 : decode cX7_grip 19 = .ok (.aload_n 0, 1) := by decide +kernel
theorem dX7_grip_20 : decode cX7_grip 20 = .ok (.iload_n 1, 1) := by decide +kernel
theorem dX7_grip_21 : decode cX7_grip 21 = .ok (.invokevirtual 135, 3) := by decide +kernel
theorem dX7_grip_24 : decode cX7_grip 24 = .ok (.istore_n 2, 1) := by decide +kernel
theorem dX7_grip_25 : decode cX7_grip 25 = .ok (.iload_n 2, 1) := by decide +kernel
theorem dX7_grip_26 : decode cX7_grip 26 = .ok (.iconst (-1), 1) := by decide +kernel
theorem dX7_grip_27 : decode cX7_grip 27 = .ok (.if_icmp .ne 9, 3) := by decide +kernel
theorem dX7_grip_30 : decode cX7_grip 30 = .ok (.aload_n 0, 1) := by decide +kernel
theorem dX7_grip_31 : decode cX7_grip 31 = .ok (.iconst 2, 1) := by decide +kernel
theorem dX7_grip_32 : decode cX7_grip 32 = .ok (.invokevirtual 93, 3) := by decide +kernel
theorem dX7_grip_35 : decode cX7_grip 35 = .ok (.ireturn, 1) := by decide +kernel
theorem dX7_grip_36 : decode cX7_grip 36 = .ok (.aload_n 0, 1) := by decide +kernel
theorem dX7_grip_37 : decode cX7_grip 37 = .ok (.getfield 16, 3) := by decide +kernel
theorem dX7_grip_40 : decode cX7_grip 40 = .ok (.iload_n 1, 1) := by decide +kernel
theorem dX7_grip_41 : decode cX7_grip 41 = .ok (.invokevirtual 48, 3) := by decide +kernel
theorem dX7_grip_44 : decode cX7_grip 44 = .ok (.checkcast 52, 3) := by decide +kernel
theorem dX7_grip_47 : decode cX7_grip 47 = .ok (.astore_n 3, 1) := by decide +kernel
theorem dX7_grip_48 : decode cX7_grip 48 = .ok (.aload_n 3, 1) := by decide +kernel
theorem dX7_grip_49 : decode cX7_grip 49 = .ok (.iconst 3, 1) := by decide +kernel
theorem dX7_grip_50 : decode cX7_grip 50 = .ok (.iaload, 1) := by decide +kernel
theorem dX7_grip_51 : decode cX7_grip 51 = .ok (.ifCond .ne 17, 3) := by decide +kernel
theorem dX7_grip_54 : decode cX7_grip 54 = .ok (.aload_n 3, 1) := by decide +kernel
theorem dX7_grip_55 : decode cX7_grip 55 = .ok (.iconst 4, 1) := by decide +kernel
theorem dX7_grip_56 : decode cX7_grip 56 = .ok (.iload_n 2, 1) := by decide +kernel
theorem dX7_grip_57 : decode cX7_grip 57 = .ok (.iconst 2, 1) := by decide +kernel
theorem dX7_grip_58 : decode cX7_grip 58 = .ok (.if_icmp .ne 7, 3) := by decide +kernel
theorem dX7_grip_61 : decode cX7_grip 61 = .ok (.iconst 0, 1) := by decide +kernel
theorem dX7_grip_62 : decode cX7_grip 62 = .ok (.goto 5, 3) := by decide +kernel
theorem dX7_grip_65 : decode cX7_grip 65 = .ok (.bipush 9, 2) := by decide +kernel
theorem dX7_grip_67 : decode cX7_grip 67 = .ok (.iastore, 1) := by decide +kernel
theorem dX7_grip_68 : decode cX7_grip 68 = .ok (.aload_n 3, 1) := by decide +kernel
theorem dX7_grip_69 : decode cX7_grip 69 = .ok (.iconst 3, 1) := by decide +kernel
theorem dX7_grip_70 : decode cX7_grip 70 = .ok (.iload_n 2, 1) := by decide +kernel
theorem dX7_grip_71 : decode cX7_grip 71 = .ok (.iastore, 1) := by decide +kernel
theorem dX7_grip_72 : decode cX7_grip 72 = .ok (.aload_n 3, 1) := by decide +kernel
theorem dX7_grip_73 : decode cX7_grip 73 = .ok (.iconst 5, 1) := by decide +kernel
theorem dX7_grip_74 : decode cX7_grip 74 = .ok (.iconst 0, 1) := by decide +kernel
theorem dX7_grip_75 : decode cX7_grip 75 = .ok (.iastore, 1) := by decide +kernel
theorem dX7_grip_76 : decode cX7_grip 76 = .ok (.iload_n 2, 1) := by decide +kernel
theorem dX7_grip_77 : decode cX7_grip 77 = .ok (.ireturn, 1) := by decide +kernel
theorem dX7_isHeld_0 : decode cX7_isHeld 0 = .ok (.aload_n 0, 1) := by decide +kernel
theorem dX7_isHeld_1 : decode cX7_isHeld 1 = .ok (.getfield 16, 3) := by decide +kernel
theorem dX7_isHeld_4 : decode cX7_isHeld 4 = .ok (.iload_n 1, 1) := by decide +kernel
theorem dX7_isHeld_5 : decode cX7_isHeld 5 = .ok (.invokevirtual 48, 3) := by decide +kernel
theorem dX7_isHeld_8 : decode cX7_isHeld 8 = .ok (.checkcast 52, 3) := by decide +kernel
theorem dX7_isHeld_11 : decode cX7_isHeld 11 = .ok (.iconst 3, 1) := by decide +kernel
theorem dX7_isHeld_12 : decode cX7_isHeld 12 = .ok (.iaload, 1) := by decide +kernel
theorem dX7_isHeld_13 : decode cX7_isHeld 13 = .ok (.iconst 2, 1) := by decide +kernel
theorem dX7_isHeld_14 : decode cX7_isHeld 14 = .ok (.if_icmp .lt 7, 3) := by decide +kernel
theorem dX7_isHeld_17 : decode cX7_isHeld 17 = .ok (.iconst 1, 1) := by decide +kernel
theorem dX7_isHeld_18 : decode cX7_isHeld 18 = .ok (.goto 4, 3) := by decide +kernel
theorem dX7_isHeld_21 : decode cX7_isHeld 21 = .ok (.iconst 0, 1) := by decide +kernel
theorem dX7_isHeld_22 : decode cX7_isHeld 22 = .ok (.ireturn, 1) := by decide +kernel
theorem dX7_wear_0 : decode cX7_wear 0 = .ok (.aload_n 0, 1) := by decide +kernel
theorem dX7_wear_1 : decode cX7_wear 1 = .ok (.iconst 2, 1) := by decide +kernel
theorem dX7_wear_2 : decode cX7_wear 2 = .ok (.bipush 100, 2) := by decide +kernel
theorem dX7_wear_4 : decode cX7_wear 4 = .ok (.aload_n 0, 1) := by decide +kernel
theorem dX7_wear_5 : decode cX7_wear 5 = .ok (.iconst 2, 1) := by decide +kernel
theorem dX7_wear_6 : decode cX7_wear 6 = .ok (.iaload, 1) := by decide +kernel
theorem dX7_wear_7 : decode cX7_wear 7 = .ok (.iload_n 1, 1) := by decide +kernel
theorem dX7_wear_8 : decode cX7_wear 8 = .ok (.iadd, 1) := by decide +kernel
theorem dX7_wear_9 : decode cX7_wear 9 = .ok (.invokestatic 62, 3) := by decide +kernel
theorem dX7_wear_12 : decode cX7_wear 12 = .ok (.iastore, 1) := by decide +kernel
theorem dX7_wear_13 : decode cX7_wear 13 = .ok (.return_, 1) := by decide +kernel
theorem dX7_move_0 : decode cX7_move 0 = .ok (.aload_n 0, 1) := by decide +kernel
theorem dX7_move_1 : decode cX7_move 1 = .ok (.iconst 0, 1) := by decide +kernel
theorem dX7_move_2 : decode cX7_move 2 = .ok (.putfield 35, 3) := by decide +kernel
theorem dX7_move_5 : decode cX7_move 5 = .ok (.aload_n 0, 1) := by decide +kernel
theorem dX7_move_6 : decode cX7_move 6 = .ok (.iload_n 1, 1) := by decide +kernel
theorem dX7_move_7 : decode cX7_move 7 = .ok (.invokevirtual 132, 3) := by decide +kernel
theorem dX7_move_10 : decode cX7_move 10 = .ok (.ifCond .ne 9, 3) := by decide +kernel
theorem dX7_move_13 : decode cX7_move 13 = .ok (.aload_n 0, 1) := by decide +kernel
theorem dX7_move_14 : decode cX7_move 14 = .ok (.iconst 1, 1) := by decide +kernel
theorem dX7_move_15 : decode cX7_move 15 = .ok (.invokevirtual 93, 3) := by decide +kernel
theorem dX7_move_18 : decode cX7_move 18 = .ok (.ireturn, 1) := by decide +kernel
theorem dX7_move_19 : decode cX7_move 19 = .ok (.iload_n 2, 1) := by decide +kernel
theorem dX7_move_20 : decode cX7_move 20 = .ok (.iconst 0, 1) := by decide +kernel
theorem dX7_move_21 : decode cX7_move 21 = .ok (.bipush 9, 2) := by decide +kernel
theorem dX7_move_23 : decode cX7_move 23 = .ok (.invokestatic 42, 3) := by decide +kernel
theorem dX7_move_26 : decode cX7_move 26 = .ok (.ifCond .ne 9, 3) := by decide +kernel
theorem dX7_move_29 : decode cX7_move 29 = .ok (.aload_n 0, 1) := by decide +kernel
theorem dX7_move_30 : decode cX7_move 30 = .ok (.iconst 2, 1) := by decide +kernel
theorem dX7_move_31 : decode cX7_move 31 = .ok (.invokevirtual 93, 3) := by decide +kernel
theorem dX7_move_34 : decode cX7_move 34 = .ok (.ireturn, 1) := by decide +kernel
theorem dX7_move_35 : decode cX7_move 35 = .ok (.aload_n 0, 1) := by decide +kernel
theorem dX7_move_36 : decode cX7_move 36 = .ok (.getfield 16, 3) := by decide +kernel
theorem dX7_move_39 : decode cX7_move 39 = .ok (.iload_n 1, 1) := by decide +kernel
theorem dX7_move_40 : decode cX7_move 40 = .ok (.invokevirtual 48, 3) := by decide +kernel
theorem dX7_move_43 : decode cX7_move 43 = .ok (.checkcast 52, 3) := by decide +kernel
theorem dX7_move_46 : decode cX7_move 46 = .ok (.astore_n 3, 1) := by decide +kernel
theorem dX7_move_47 : decode cX7_move 47 = .ok (.aload_n 0, 1) := by decide +kernel
theorem dX7_move_48 : decode cX7_move 48 = .ok (.iload_n 1, 1) := by decide +kernel
theorem dX7_move_49 : decode cX7_move 49 = .ok (.invokevirtual 138, 3) := by decide +kernel
theorem dX7_move_52 : decode cX7_move 52 = .ok (.ifCond .eq 23, 3) := by decide +kernel
theorem dX7_move_55 : decode cX7_move 55 = .ok (.aload_n 0, 1) := by decide +kernel
theorem dX7_move_56 : decode cX7_move 56 = .ok (.iload_n 2, 1) := by decide +kernel
theorem dX7_move_57 : decode cX7_move 57 = .ok (.iconst (-1), 1) := by decide +kernel
theorem dX7_move_58 : decode cX7_move 58 = .ok (.invokevirtual 126, 3) := by decide +kernel
theorem dX7_move_61 : decode cX7_move 61 = .ok (.iconst (-1), 1) := by decide +kernel
theorem dX7_move_62 : decode cX7_move 62 = .ok (.if_icmp .ne 13, 3) := by decide +kernel
theorem dX7_move_65 : decode cX7_move 65 = .ok (.aload_n 3, 1) := by decide +kernel
theorem dX7_move_66 : decode cX7_move 66 = .ok (.iconst 3, 1) := by decide +kernel
theorem dX7_move_67 : decode cX7_move 67 = .ok (.iaload, 1) := by decide +kernel
theorem dX7_move_68 : decode cX7_move 68 = .ok (.iload_n 2, 1) := by decide +kernel
theorem dX7_move_69 : decode cX7_move 69 = .ok (.invokestatic 129, 3) := by decide +kernel
theorem dX7_move_72 : decode cX7_move 72 = .ok (.ifCond .ne 9, 3) := by decide +kernel
theorem dX7_move_75 : decode cX7_move 75 = .ok (.aload_n 0, 1) := by decide +kernel
theorem dX7_move_76 : decode cX7_move 76 = .ok (.iconst 3, 1) := by decide +kernel
theorem dX7_move_77 : decode cX7_move 77 = .ok (.invokevirtual 93, 3) := by decide +kernel
theorem dX7_move_80 : decode cX7_move 80 = .ok (.ireturn, 1) := by decide +kernel
theorem dX7_move_81 : decode cX7_move 81 = .ok (.aload_n 3, 1) := by decide +kernel
theorem dX7_move_82 : decode cX7_move 82 = .ok (.iload_n 2, 1) := by decide +kernel
theorem dX7_move_83 : decode cX7_move 83 = .ok (.aload_n 3, 1) := by decide +kernel
theorem dX7_move_84 : decode cX7_move 84 = .ok (.iconst 4, 1) := by decide +kernel
theorem dX7_move_85 : decode cX7_move 85 = .ok (.iaload, 1) := by decide +kernel
theorem dX7_move_86 : decode cX7_move 86 = .ok (.isub, 1) := by decide +kernel
theorem dX7_move_87 : decode cX7_move 87 = .ok (.invokestatic 141, 3) := by decide +kernel
theorem dX7_move_90 : decode cX7_move 90 = .ok (.invokestatic 144, 3) := by decide +kernel
theorem dX7_move_93 : decode cX7_move 93 = .ok (.aload_n 3, 1) := by decide +kernel
theorem dX7_move_94 : decode cX7_move 94 = .ok (.iconst 4, 1) := by decide +kernel
theorem dX7_move_95 : decode cX7_move 95 = .ok (.iload_n 2, 1) := by decide +kernel
theorem dX7_move_96 : decode cX7_move 96 = .ok (.iastore, 1) := by decide +kernel
theorem dX7_move_97 : decode cX7_move 97 = .ok (.aload_n 3, 1) := by decide +kernel
theorem dX7_move_98 : decode cX7_move 98 = .ok (.iconst 2, 1) := by decide +kernel
theorem dX7_move_99 : decode cX7_move 99 = .ok (.iaload, 1) := by decide +kernel
theorem dX7_move_100 : decode cX7_move 100 = .ok (.ireturn, 1) := by decide +kernel
theorem dX7_shadow_0 : decode cX7_shadow 0 = .ok (.aload_n 1, 1) := by decide +kernel
theorem dX7_shadow_1 : decode cX7_shadow 1 = .ok (.iconst 1, 1) := by decide +kernel
theorem dX7_shadow_2 : decode cX7_shadow 2 = .ok (.iaload, 1) := by decide +kernel
theorem dX7_shadow_3 : decode cX7_shadow 3 = .ok (.aload_n 0, 1) := by decide +kernel
theorem dX7_shadow_4 : decode cX7_shadow 4 = .ok (.getfield 22, 3) := by decide +kernel
theorem dX7_shadow_7 : decode cX7_shadow 7 = .ok (.imul, 1) := by decide +kernel
theorem dX7_shadow_8 : decode cX7_shadow 8 = .ok (.aload_n 0, 1) := by decide +kernel
theorem dX7_shadow_9 : decode cX7_shadow 9 = .ok (.getfield 22, 3) := by decide +kernel
theorem dX7_shadow_12 : decode cX7_shadow 12 = .ok (.iload_n 2, 1) := by decide +kernel
theorem dX7_shadow_13 : decode cX7_shadow 13 = .ok (.isub, 1) := by decide +kernel
theorem dX7_shadow_14 : decode cX7_shadow 14 = .ok (.idiv, 1) := by decide +kernel
theorem dX7_shadow_15 : decode cX7_shadow 15 = .ok (.ireturn, 1) := by decide +kernel
theorem dX7_lift_0 : decode cX7_lift 0 = .ok (.aload_n 0, 1) := by decide +kernel
theorem dX7_lift_1 : decode cX7_lift 1 = .ok (.iconst 0, 1) := by decide +kernel
theorem dX7_lift_2 : decode cX7_lift 2 = .ok (.putfield 35, 3) := by decide +kernel
theorem dX7_lift_5 : decode cX7_lift 5 = .ok (.aload_n 0, 1) := by decide +kernel
theorem dX7_lift_6 : decode cX7_lift 6 = .ok (.iload_n 1, 1) := by decide +kernel
theorem dX7_lift_7 : decode cX7_lift 7 = .ok (.invokevirtual 132, 3) := by decide +kernel
theorem dX7_lift_10 : decode cX7_lift 10 = .ok (.ifCond .ne 9, 3) := by decide +kernel
theorem dX7_lift_13 : decode cX7_lift 13 = .ok (.aload_n 0, 1) := by decide +kernel
theorem dX7_lift_14 : decode cX7_lift 14 = .ok (.iconst 1, 1) := by decide +kernel
theorem dX7_lift_15 : decode cX7_lift 15 = .ok (.invokevirtual 93, 3) := by decide +kernel
theorem dX7_lift_18 : decode cX7_lift 18 = .ok (.ireturn, 1) := by decide +kernel
theorem dX7_lift_19 : decode cX7_lift 19 = .ok (.iload_n 2, 1) := by decide +kernel
theorem dX7_lift_20 : decode cX7_lift 20 = .ok (.iconst 0, 1) := by decide +kernel
theorem dX7_lift_21 : decode cX7_lift 21 = .ok (.bipush 15, 2) := by decide +kernel
theorem dX7_lift_23 : decode cX7_lift 23 = .ok (.invokestatic 42, 3) := by decide +kernel
theorem dX7_lift_26 : decode cX7_lift 26 = .ok (.ifCond .ne 9, 3) := by decide +kernel
theorem dX7_lift_29 : decode cX7_lift 29 = .ok (.aload_n 0, 1) := by decide +kernel
theorem dX7_lift_30 : decode cX7_lift 30 = .ok (.iconst 2, 1) := by decide +kernel
theorem dX7_lift_31 : decode cX7_lift 31 = .ok (.invokevirtual 93, 3) := by decide +kernel
theorem dX7_lift_34 : decode cX7_lift 34 = .ok (.ireturn, 1) := by decide +kernel
theorem dX7_lift_35 : decode cX7_lift 35 = .ok (.aload_n 0, 1) := by decide +kernel
theorem dX7_lift_36 : decode cX7_lift 36 = .ok (.iload_n 1, 1) := by decide +kernel
theorem dX7_lift_37 : decode cX7_lift 37 = .ok (.invokevirtual 138, 3) := by decide +kernel
theorem dX7_lift_40 : decode cX7_lift 40 = .ok (.ifCond .ne 9, 3) := by decide +kernel
theorem dX7_lift_43 : decode cX7_lift 43 = .ok (.aload_n 0, 1) := by decide +kernel
theorem dX7_lift_44 : decode cX7_lift 44 = .ok (.iconst 3, 1) := by decide +kernel
theorem dX7_lift_45 : decode cX7_lift 45 = .ok (.invokevirtual 93, 3) := by decide +kernel
theorem dX7_lift_48 : decode cX7_lift 48 = .ok (.ireturn, 1) := by decide +kernel
theorem dX7_lift_49 : decode cX7_lift 49 = .ok (.aload_n 0, 1) := by decide +kernel
theorem dX7_lift_50 : decode cX7_lift 50 = .ok (.getfield 16, 3) := by decide +kernel
theorem dX7_lift_53 : decode cX7_lift 53 = .ok (.iload_n 1, 1) := by decide +kernel
theorem dX7_lift_54 : decode cX7_lift 54 = .ok (.invokevirtual 48, 3) := by decide +kernel
theorem dX7_lift_57 : decode cX7_lift 57 = .ok (.checkcast 52, 3) := by decide +kernel
theorem dX7_lift_60 : decode cX7_lift 60 = .ok (.iconst 5, 1) := by decide +kernel
theorem dX7_lift_61 : decode cX7_lift 61 = .ok (.iload_n 2, 1) := by decide +kernel
theorem dX7_lift_62 : decode cX7_lift 62 = .ok (.iastore, 1) := by decide +kernel
theorem dX7_lift_63 : decode cX7_lift 63 = .ok (.aload_n 0, 1) := by decide +kernel
theorem dX7_lift_64 : decode cX7_lift 64 = .ok (.aload_n 0, 1) := by decide +kernel
theorem dX7_lift_65 : decode cX7_lift 65 = .ok (.getfield 16, 3) := by decide +kernel
theorem dX7_lift_68 : decode cX7_lift 68 = .ok (.iload_n 1, 1) := by decide +kernel
theorem dX7_lift_69 : decode cX7_lift 69 = .ok (.invokevirtual 48, 3) := by decide +kernel
theorem dX7_lift_72 : decode cX7_lift 72 = .ok (.checkcast 52, 3) := by decide +kernel
theorem dX7_lift_75 : decode cX7_lift 75 = .ok (.iload_n 2, 1) := by decide +kernel
theorem dX7_lift_76 : decode cX7_lift 76 = .ok (.invokevirtual 148, 3) := by decide +kernel
theorem dX7_lift_79 : decode cX7_lift 79 = .ok (.ireturn, 1) := by decide +kernel
theorem dX7_plant_0 : decode cX7_plant 0 = .ok (.aload_n 0, 1) := by decide +kernel
theorem dX7_plant_1 : decode cX7_plant 1 = .ok (.iconst 0, 1) := by decide +kernel
theorem dX7_plant_2 : decode cX7_plant 2 = .ok (.putfield 35, 3) := by decide +kernel
theorem dX7_plant_5 : decode cX7_plant 5 = .ok (.aload_n 0, 1) := by decide +kernel
theorem dX7_plant_6 : decode cX7_plant 6 = .ok (.iload_n 1, 1) := by decide +kernel
theorem dX7_plant_7 : decode cX7_plant 7 = .ok (.invokevirtual 132, 3) := by decide +kernel
theorem dX7_plant_10 : decode cX7_plant 10 = .ok (.ifCond .ne 9, 3) := by decide +kernel
theorem dX7_plant_13 : decode cX7_plant 13 = .ok (.aload_n 0, 1) := by decide +kernel
theorem dX7_plant_14 : decode cX7_plant 14 = .ok (.iconst 1, 1) := by decide +kernel
theorem dX7_plant_15 : decode cX7_plant 15 = .ok (.invokevirtual 93, 3) := by decide +kernel
theorem dX7_plant_18 : decode cX7_plant 18 = .ok (.ireturn, 1) := by decide +kernel
theorem dX7_plant_19 : decode cX7_plant 19 = .ok (.aload_n 0, 1) := by decide +kernel
theorem dX7_plant_20 : decode cX7_plant 20 = .ok (.iload_n 1, 1) := by decide +kernel
theorem dX7_plant_21 : decode cX7_plant 21 = .ok (.invokevirtual 138, 3) := by decide +kernel
theorem dX7_plant_24 : decode cX7_plant 24 = .ok (.ifCond .ne 9, 3) := by decide +kernel
theorem dX7_plant_27 : decode cX7_plant 27 = .ok (.aload_n 0, 1) := by decide +kernel
theorem dX7_plant_28 : decode cX7_plant 28 = .ok (.iconst 2, 1) := by decide +kernel
theorem dX7_plant_29 : decode cX7_plant 29 = .ok (.invokevirtual 93, 3) := by decide +kernel
theorem dX7_plant_32 : decode cX7_plant 32 = .ok (.ireturn, 1) := by decide +kernel
theorem dX7_plant_33 : decode cX7_plant 33 = .ok (.aload_n 0, 1) := by decide +kernel
theorem dX7_plant_34 : decode cX7_plant 34 = .ok (.getfield 16, 3) := by decide +kernel
theorem dX7_plant_37 : decode cX7_plant 37 = .ok (.iload_n 1, 1) := by decide +kernel
theorem dX7_plant_38 : decode cX7_plant 38 = .ok (.invokevirtual 48, 3) := by decide +kernel
theorem dX7_plant_41 : decode cX7_plant 41 = .ok (.checkcast 52, 3) := by decide +kernel
theorem dX7_plant_44 : decode cX7_plant 44 = .ok (.astore_n 2, 1) := by decide +kernel
theorem dX7_plant_45 : decode cX7_plant 45 = .ok (.aload_n 2, 1) := by decide +kernel
theorem dX7_plant_46 : decode cX7_plant 46 = .ok (.iconst 3, 1) := by decide +kernel
theorem dX7_plant_47 : decode cX7_plant 47 = .ok (.iconst 1, 1) := by decide +kernel
theorem dX7_plant_48 : decode cX7_plant 48 = .ok (.iastore, 1) := by decide +kernel
theorem dX7_plant_49 : decode cX7_plant 49 = .ok (.aload_n 2, 1) := by decide +kernel
theorem dX7_plant_50 : decode cX7_plant 50 = .ok (.iconst 5, 1) := by decide +kernel
theorem dX7_plant_51 : decode cX7_plant 51 = .ok (.iconst 0, 1) := by decide +kernel
theorem dX7_plant_52 : decode cX7_plant 52 = .ok (.iastore, 1) := by decide +kernel
theorem dX7_plant_53 : decode cX7_plant 53 = .ok (.aload_n 2, 1) := by decide +kernel
theorem dX7_plant_54 : decode cX7_plant 54 = .ok (.iconst 4, 1) := by decide +kernel
theorem dX7_plant_55 : decode cX7_plant 55 = .ok (.iaload, 1) := by decide +kernel
theorem dX7_plant_56 : decode cX7_plant 56 = .ok (.ireturn, 1) := by decide +kernel
theorem dX7_hand_0 : decode cX7_hand 0 = .ok (.aload_n 0, 1) := by decide +kernel
theorem dX7_hand_1 : decode cX7_hand 1 = .ok (.iconst 0, 1) := by decide +kernel
theorem dX7_hand_2 : decode cX7_hand 2 = .ok (.putfield 35, 3) := by decide +kernel
theorem dX7_hand_5 : decode cX7_hand 5 = .ok (.aload_n 0, 1) := by decide +kernel
theorem dX7_hand_6 : decode cX7_hand 6 = .ok (.iload_n 1, 1) := by decide +kernel
theorem dX7_hand_7 : decode cX7_hand 7 = .ok (.invokevirtual 132, 3) := by decide +kernel
theorem dX7_hand_10 : decode cX7_hand 10 = .ok (.ifCond .ne 9, 3) := by decide +kernel
theorem dX7_hand_13 : decode cX7_hand 13 = .ok (.aload_n 0, 1) := by decide +kernel
theorem dX7_hand_14 : decode cX7_hand 14 = .ok (.iconst 1, 1) := by decide +kernel
theorem dX7_hand_15 : decode cX7_hand 15 = .ok (.invokevirtual 93, 3) := by decide +kernel
theorem dX7_hand_18 : decode cX7_hand 18 = .ok (.ireturn, 1) := by decide +kernel
theorem dX7_hand_19 : decode cX7_hand 19 = .ok (.aload_n 0, 1) := by decide +kernel
theorem dX7_hand_20 : decode cX7_hand 20 = .ok (.getfield 16, 3) := by decide +kernel
theorem dX7_hand_23 : decode cX7_hand 23 = .ok (.iload_n 1, 1) := by decide +kernel
theorem dX7_hand_24 : decode cX7_hand 24 = .ok (.invokevirtual 48, 3) := by decide +kernel
theorem dX7_hand_27 : decode cX7_hand 27 = .ok (.checkcast 52, 3) := by decide +kernel
theorem dX7_hand_30 : decode cX7_hand 30 = .ok (.astore_n 2, 1) := by decide +kernel
theorem dX7_hand_31 : decode cX7_hand 31 = .ok (.iconst 5, 1) := by decide +kernel
theorem dX7_hand_32 : decode cX7_hand 32 = .ok (.aload_n 2, 1) := by decide +kernel
theorem dX7_hand_33 : decode cX7_hand 33 = .ok (.iconst 3, 1) := by decide +kernel
theorem dX7_hand_34 : decode cX7_hand 34 = .ok (.iaload, 1) := by decide +kernel
theorem dX7_hand_35 : decode cX7_hand 35 = .ok (.isub, 1) := by decide +kernel
theorem dX7_hand_36 : decode cX7_hand 36 = .ok (.istore_n 3, 1) := by decide +kernel
theorem dX7_hand_37 : decode cX7_hand 37 = .ok (.aload_n 0, 1) := by decide +kernel
theorem dX7_hand_38 : decode cX7_hand 38 = .ok (.iload_n 1, 1) := by decide +kernel
theorem dX7_hand_39 : decode cX7_hand 39 = .ok (.invokevirtual 138, 3) := by decide +kernel
theorem dX7_hand_42 : decode cX7_hand 42 = .ok (.ifCond .eq 21, 3) := by decide +kernel
theorem dX7_hand_45 : decode cX7_hand 45 = .ok (.aload_n 0, 1) := by decide +kernel
theorem dX7_hand_46 : decode cX7_hand 46 = .ok (.iload_n 3, 1) := by decide +kernel
theorem dX7_hand_47 : decode cX7_hand 47 = .ok (.invokevirtual 123, 3) := by decide +kernel
theorem dX7_hand_50 : decode cX7_hand 50 = .ok (.ifCond .eq 13, 3) := by decide +kernel
theorem dX7_hand_53 : decode cX7_hand 53 = .ok (.iload_n 3, 1) := by decide +kernel
theorem dX7_hand_54 : decode cX7_hand 54 = .ok (.aload_n 2, 1) := by decide +kernel
theorem dX7_hand_55 : decode cX7_hand 55 = .ok (.iconst 4, 1) := by decide +kernel
theorem dX7_hand_56 : decode cX7_hand 56 = .ok (.iaload, 1) := by decide +kernel
theorem dX7_hand_57 : decode cX7_hand 57 = .ok (.invokestatic 129, 3) := by decide +kernel
theorem dX7_hand_60 : decode cX7_hand 60 = .ok (.ifCond .ne 9, 3) := by decide +kernel
theorem dX7_hand_63 : decode cX7_hand 63 = .ok (.aload_n 0, 1) := by decide +kernel
theorem dX7_hand_64 : decode cX7_hand 64 = .ok (.iconst 2, 1) := by decide +kernel
theorem dX7_hand_65 : decode cX7_hand 65 = .ok (.invokevirtual 93, 3) := by decide +kernel
theorem dX7_hand_68 : decode cX7_hand 68 = .ok (.ireturn, 1) := by decide +kernel
theorem dX7_hand_69 : decode cX7_hand 69 = .ok (.aload_n 2, 1) := by decide +kernel
theorem dX7_hand_70 : decode cX7_hand 70 = .ok (.iconst 3, 1) := by decide +kernel
theorem dX7_hand_71 : decode cX7_hand 71 = .ok (.iload_n 3, 1) := by decide +kernel
theorem dX7_hand_72 : decode cX7_hand 72 = .ok (.iastore, 1) := by decide +kernel
theorem dX7_hand_73 : decode cX7_hand 73 = .ok (.iload_n 3, 1) := by decide +kernel
theorem dX7_hand_74 : decode cX7_hand 74 = .ok (.ireturn, 1) := by decide +kernel
theorem dX7_onScreen_0 : decode cX7_onScreen 0 = .ok (.iconst 0, 1) := by decide +kernel
theorem dX7_onScreen_1 : decode cX7_onScreen 1 = .ok (.istore_n 1, 1) := by decide +kernel
theorem dX7_onScreen_2 : decode cX7_onScreen 2 = .ok (.aload_n 0, 1) := by decide +kernel
theorem dX7_onScreen_3 : decode cX7_onScreen 3 = .ok (.getfield 16, 3) := by decide +kernel
theorem dX7_onScreen_6 : decode cX7_onScreen 6 = .ok (.invokevirtual 72, 3) := by decide +kernel
theorem dX7_onScreen_9 : decode cX7_onScreen 9 = .ok (.astore_n 2, 1) := by decide +kernel
theorem dX7_onScreen_10 : decode cX7_onScreen 10 = .ok (.aload_n 2, 1) := by decide +kernel
theorem dX7_onScreen_11 : decode cX7_onScreen 11 = .ok (.invokeinterface 76 1, 5) := by decide +kernel
theorem dX7_onScreen_16 : decode cX7_onScreen 16 = .ok (.ifCond .eq 30, 3) := by decide +kernel
theorem dX7_onScreen_19 : decode cX7_onScreen 19 = .ok (.aload_n 2, 1) := by decide +kernel
theorem dX7_onScreen_20 : decode cX7_onScreen 20 = .ok (.invokeinterface 82 1, 5) := by decide +kernel
theorem dX7_onScreen_25 : decode cX7_onScreen 25 = .ok (.checkcast 52, 3) := by decide +kernel
theorem dX7_onScreen_28 : decode cX7_onScreen 28 = .ok (.astore_n 3, 1) := by decide +kernel
theorem dX7_onScreen_29 : decode cX7_onScreen 29 = .ok (.iload_n 1, 1) := by decide +kernel
theorem dX7_onScreen_30 : decode cX7_onScreen 30 = .ok (.aload_n 3, 1) := by decide +kernel
theorem dX7_onScreen_31 : decode cX7_onScreen 31 = .ok (.iconst 3, 1) := by decide +kernel
theorem dX7_onScreen_32 : decode cX7_onScreen 32 = .ok (.iaload, 1) := by decide +kernel
theorem dX7_onScreen_33 : decode cX7_onScreen 33 = .ok (.ifCond .ne 7, 3) := by decide +kernel
theorem dX7_onScreen_36 : decode cX7_onScreen 36 = .ok (.iconst 0, 1) := by decide +kernel
theorem dX7_onScreen_37 : decode cX7_onScreen 37 = .ok (.goto 4, 3) := by decide +kernel
theorem dX7_onScreen_40 : decode cX7_onScreen 40 = .ok (.iconst 1, 1) := by decide +kernel
theorem dX7_onScreen_41 : decode cX7_onScreen 41 = .ok (.iadd, 1) := by decide +kernel
theorem dX7_onScreen_42 : decode cX7_onScreen 42 = .ok (.istore_n 1, 1) := by decide +kernel
theorem dX7_onScreen_43 : decode cX7_onScreen 43 = .ok (.goto (-33), 3) := by decide +kernel
theorem dX7_onScreen_46 : decode cX7_onScreen 46 = .ok (.iload_n 1, 1) := by decide +kernel
theorem dX7_onScreen_47 : decode cX7_onScreen 47 = .ok (.ireturn, 1) := by decide +kernel
theorem dX7_away_0 : decode cX7_away 0 = .ok (.aload_n 0, 1) := by decide +kernel
theorem dX7_away_1 : decode cX7_away 1 = .ok (.iconst 0, 1) := by decide +kernel
theorem dX7_away_2 : decode cX7_away 2 = .ok (.putfield 35, 3) := by decide +kernel
theorem dX7_away_5 : decode cX7_away 5 = .ok (.aload_n 0, 1) := by decide +kernel
theorem dX7_away_6 : decode cX7_away 6 = .ok (.iload_n 1, 1) := by decide +kernel
theorem dX7_away_7 : decode cX7_away 7 = .ok (.invokevirtual 132, 3) := by decide +kernel
theorem dX7_away_10 : decode cX7_away 10 = .ok (.ifCond .ne 9, 3) := by decide +kernel
theorem dX7_away_13 : decode cX7_away 13 = .ok (.aload_n 0, 1) := by decide +kernel
theorem dX7_away_14 : decode cX7_away 14 = .ok (.iconst 1, 1) := by decide +kernel
theorem dX7_away_15 : decode cX7_away 15 = .ok (.invokevirtual 93, 3) := by decide +kernel
theorem dX7_away_18 : decode cX7_away 18 = .ok (.ireturn, 1) := by decide +kernel
theorem dX7_away_19 : decode cX7_away 19 = .ok (.aload_n 0, 1) := by decide +kernel
theorem dX7_away_20 : decode cX7_away 20 = .ok (.getfield 16, 3) := by decide +kernel
theorem dX7_away_23 : decode cX7_away 23 = .ok (.iload_n 1, 1) := by decide +kernel
theorem dX7_away_24 : decode cX7_away 24 = .ok (.invokevirtual 48, 3) := by decide +kernel
theorem dX7_away_27 : decode cX7_away 27 = .ok (.checkcast 52, 3) := by decide +kernel
theorem dX7_away_30 : decode cX7_away 30 = .ok (.astore_n 2, 1) := by decide +kernel
theorem dX7_away_31 : decode cX7_away 31 = .ok (.aload_n 0, 1) := by decide +kernel
theorem dX7_away_32 : decode cX7_away 32 = .ok (.iload_n 1, 1) := by decide +kernel
theorem dX7_away_33 : decode cX7_away 33 = .ok (.invokevirtual 138, 3) := by decide +kernel
theorem dX7_away_36 : decode cX7_away 36 = .ok (.ifCond .eq 27, 3) := by decide +kernel
theorem dX7_away_39 : decode cX7_away 39 = .ok (.aload_n 2, 1) := by decide +kernel
theorem dX7_away_40 : decode cX7_away 40 = .ok (.iconst 4, 1) := by decide +kernel
theorem dX7_away_41 : decode cX7_away 41 = .ok (.iaload, 1) := by decide +kernel
theorem dX7_away_42 : decode cX7_away 42 = .ok (.bipush 9, 2) := by decide +kernel
theorem dX7_away_44 : decode cX7_away 44 = .ok (.aload_n 0, 1) := by decide +kernel
theorem dX7_away_45 : decode cX7_away 45 = .ok (.getfield 10, 3) := by decide +kernel
theorem dX7_away_48 : decode cX7_away 48 = .ok (.aload_n 2, 1) := by decide +kernel
theorem dX7_away_49 : decode cX7_away 49 = .ok (.iconst 0, 1) := by decide +kernel
theorem dX7_away_50 : decode cX7_away 50 = .ok (.iaload, 1) := by decide +kernel
theorem dX7_away_51 : decode cX7_away 51 = .ok (.invokevirtual 48, 3) := by decide +kernel
theorem dX7_away_54 : decode cX7_away 54 = .ok (.checkcast 52, 3) := by decide +kernel
theorem dX7_away_57 : decode cX7_away 57 = .ok (.iconst 0, 1) := by decide +kernel
theorem dX7_away_58 : decode cX7_away 58 = .ok (.iaload, 1) := by decide +kernel
theorem dX7_away_59 : decode cX7_away 59 = .ok (.imul, 1) := by decide +kernel
theorem dX7_away_60 : decode cX7_away 60 = .ok (.if_icmp .eq 9, 3) := by decide +kernel
theorem dX7_away_63 : decode cX7_away 63 = .ok (.aload_n 0, 1) := by decide +kernel
theorem dX7_away_64 : decode cX7_away 64 = .ok (.iconst 2, 1) := by decide +kernel
theorem dX7_away_65 : decode cX7_away 65 = .ok (.invokevirtual 93, 3) := by decide +kernel
theorem dX7_away_68 : decode cX7_away 68 = .ok (.ireturn, 1) := by decide +kernel
theorem dX7_away_69 : decode cX7_away 69 = .ok (.aload_n 2, 1) := by decide +kernel
theorem dX7_away_70 : decode cX7_away 70 = .ok (.iconst 3, 1) := by decide +kernel
theorem dX7_away_71 : decode cX7_away 71 = .ok (.iconst 0, 1) := by decide +kernel
theorem dX7_away_72 : decode cX7_away 72 = .ok (.iastore, 1) := by decide +kernel
theorem dX7_away_73 : decode cX7_away 73 = .ok (.aload_n 2, 1) := by decide +kernel
theorem dX7_away_74 : decode cX7_away 74 = .ok (.iconst 4, 1) := by decide +kernel
theorem dX7_away_75 : decode cX7_away 75 = .ok (.iconst (-1), 1) := by decide +kernel
theorem dX7_away_76 : decode cX7_away 76 = .ok (.iastore, 1) := by decide +kernel
theorem dX7_away_77 : decode cX7_away 77 = .ok (.aload_n 2, 1) := by decide +kernel
theorem dX7_away_78 : decode cX7_away 78 = .ok (.iconst 5, 1) := by decide +kernel
theorem dX7_away_79 : decode cX7_away 79 = .ok (.iconst 0, 1) := by decide +kernel
theorem dX7_away_80 : decode cX7_away 80 = .ok (.iastore, 1) := by decide +kernel
theorem dX7_away_81 : decode cX7_away 81 = .ok (.aload_n 0, 1) := by decide +kernel
theorem dX7_away_82 : decode cX7_away 82 = .ok (.invokevirtual 152, 3) := by decide +kernel
theorem dX7_away_85 : decode cX7_away 85 = .ok (.ireturn, 1) := by decide +kernel
theorem dX7_tap_0 : decode cX7_tap 0 = .ok (.aload_n 0, 1) := by decide +kernel
theorem dX7_tap_1 : decode cX7_tap 1 = .ok (.iload_n 1, 1) := by decide +kernel
theorem dX7_tap_2 : decode cX7_tap 2 = .ok (.iconst 0, 1) := by decide +kernel
theorem dX7_tap_3 : decode cX7_tap 3 = .ok (.iconst 3, 1) := by decide +kernel
theorem dX7_tap_4 : decode cX7_tap 4 = .ok (.invokestatic 42, 3) := by decide +kernel
theorem dX7_tap_7 : decode cX7_tap 7 = .ok (.ifCond .eq 7, 3) := by decide +kernel
theorem dX7_tap_10 : decode cX7_tap 10 = .ok (.iconst 0, 1) := by decide +kernel
theorem dX7_tap_11 : decode cX7_tap 11 = .ok (.goto 4, 3) := by decide +kernel
theorem dX7_tap_14 : decode cX7_tap 14 = .ok (.iconst 1, 1) := by decide +kernel
theorem dX7_tap_15 : decode cX7_tap 15 = .ok (.putfield 35, 3) := by decide +kernel
theorem dX7_tap_18 : decode cX7_tap 18 = .ok (.aload_n 0, 1) := by decide +kernel
theorem dX7_tap_19 : decode cX7_tap 19 = .ok (.getfield 35, 3) := by decide +kernel
theorem dX7_tap_22 : decode cX7_tap 22 = .ok (.ifCond .le 5, 3) := by decide +kernel
theorem dX7_tap_25 : decode cX7_tap 25 = .ok (.iconst 0, 1) := by decide +kernel
theorem dX7_tap_26 : decode cX7_tap 26 = .ok (.ireturn, 1) := by decide +kernel
theorem dX7_tap_27 : decode cX7_tap 27 = .ok (.aload_n 0, 1) := by decide +kernel
theorem dX7_tap_28 : decode cX7_tap 28 = .ok (.invokevirtual 155, 3) := by decide +kernel
theorem dX7_tap_31 : decode cX7_tap 31 = .ok (.istore_n 2, 1) := by decide +kernel
theorem dX7_tap_32 : decode cX7_tap 32 = .ok (.iload_n 1, 1) := by decide +kernel
theorem dX7_tap_33 : decode cX7_tap 33 = .ok (.ifCond .ne 24, 3) := by decide +kernel
theorem dX7_tap_36 : decode cX7_tap 36 = .ok (.aload_n 0, 1) := by decide +kernel
theorem dX7_tap_37 : decode cX7_tap 37 = .ok (.getfield 26, 3) := by decide +kernel
theorem dX7_tap_40 : decode cX7_tap 40 = .ok (.iconst (-1), 1) := by decide +kernel
theorem dX7_tap_41 : decode cX7_tap 41 = .ok (.if_icmp .ne 12, 3) := by decide +kernel
theorem dX7_tap_44 : decode cX7_tap 44 = .ok (.iload_n 2, 1) := by decide +kernel
theorem dX7_tap_45 : decode cX7_tap 45 = .ok (.iconst (-1), 1) := by decide +kernel
theorem dX7_tap_46 : decode cX7_tap 46 = .ok (.if_icmp .eq 7, 3) := by decide +kernel
theorem dX7_tap_49 : decode cX7_tap 49 = .ok (.iconst 1, 1) := by decide +kernel
theorem dX7_tap_50 : decode cX7_tap 50 = .ok (.goto 20, 3) := by decide +kernel
theorem dX7_tap_53 : decode cX7_tap 53 = .ok (.iconst 0, 1) := by decide +kernel
theorem dX7_tap_54 : decode cX7_tap 54 = .ok (.goto 16, 3) := by decide +kernel
theorem dX7_tap_57 : decode cX7_tap 57 = .ok (.aload_n 0, 1) := by decide +kernel
theorem dX7_tap_58 : decode cX7_tap 58 = .ok (.getfield 26, 3) := by decide +kernel
theorem dX7_tap_61 : decode cX7_tap 61 = .ok (.iconst (-1), 1) := by decide +kernel
theorem dX7_tap_62 : decode cX7_tap 62 = .ok (.if_icmp .eq 7, 3) := by decide +kernel
theorem dX7_tap_65 : decode cX7_tap 65 = .ok (.iconst 1, 1) := by decide +kernel
theorem dX7_tap_66 : decode cX7_tap 66 = .ok (.goto 4, 3) := by decide +kernel
theorem dX7_tap_69 : decode cX7_tap 69 = .ok (.iconst 0, 1) := by decide +kernel
theorem dX7_tap_70 : decode cX7_tap 70 = .ok (.istore_n 3, 1) := by decide +kernel
theorem dX7_tap_71 : decode cX7_tap 71 = .ok (.iload_n 3, 1) := by decide +kernel
theorem dX7_tap_72 : decode cX7_tap 72 = .ok (.ifCond .ne 16, 3) := by decide +kernel
theorem dX7_tap_75 : decode cX7_tap 75 = .ok (.aload_n 0, 1) := by decide +kernel
theorem dX7_tap_76 : decode cX7_tap 76 = .ok (.dup, 1) := by decide +kernel
theorem dX7_tap_77 : decode cX7_tap 77 = .ok (.getfield 158, 3) := by decide +kernel
theorem dX7_tap_80 : decode cX7_tap 80 = .ok (.iconst 1, 1) := by decide +kernel
theorem dX7_tap_81 : decode cX7_tap 81 = .ok (.iadd, 1) := by decide +kernel
theorem dX7_tap_82 : decode cX7_tap 82 = .ok (.putfield 158, 3) := by decide +kernel
theorem dX7_tap_85 : decode cX7_tap 85 = .ok (.goto 47, 3) := by decide +kernel
theorem dX7_tap_88 : decode cX7_tap 88 = .ok (.iload_n 1, 1) := by decide +kernel
theorem dX7_tap_89 : decode cX7_tap 89 = .ok (.ifCond .le 11, 3) := by decide +kernel
theorem dX7_tap_92 : decode cX7_tap 92 = .ok (.aload_n 0, 1) := by decide +kernel
theorem dX7_tap_93 : decode cX7_tap 93 = .ok (.iload_n 1, 1) := by decide +kernel
theorem dX7_tap_94 : decode cX7_tap 94 = .ok (.putfield 161, 3) := by decide +kernel
theorem dX7_tap_97 : decode cX7_tap 97 = .ok (.goto 35, 3) := by decide +kernel
theorem dX7_tap_100 : decode cX7_tap 100 = .ok (.aload_n 0, 1) := by decide +kernel
theorem dX7_tap_101 : decode cX7_tap 101 = .ok (.aload_n 0, 1) := by decide +kernel
theorem dX7_tap_102 : decode cX7_tap 102 = .ok (.getfield 19, 3) := by decide +kernel
theorem dX7_tap_105 : decode cX7_tap 105 = .ok (.iload_n 2, 1) := by decide +kernel
theorem dX7_tap_106 : decode cX7_tap 106 = .ok (.invokevirtual 48, 3) := by decide +kernel
theorem dX7_tap_109 : decode cX7_tap 109 = .ok (.checkcast 52, 3) := by decide +kernel
theorem dX7_tap_112 : decode cX7_tap 112 = .ok (.iconst 1, 1) := by decide +kernel
theorem dX7_tap_113 : decode cX7_tap 113 = .ok (.iaload, 1) := by decide +kernel
theorem dX7_tap_114 : decode cX7_tap 114 = .ok (.putfield 26, 3) := by decide +kernel
theorem dX7_tap_117 : decode cX7_tap 117 = .ok (.aload_n 0, 1) := by decide +kernel
theorem dX7_tap_118 : decode cX7_tap 118 = .ok (.iconst 1, 1) := by decide +kernel
theorem dX7_tap_119 : decode cX7_tap 119 = .ok (.putfield 164, 3) := by decide +kernel
theorem dX7_tap_122 : decode cX7_tap 122 = .ok (.aload_n 0, 1) := by decide +kernel
theorem dX7_tap_123 : decode cX7_tap 123 = .ok (.iconst 0, 1) := by decide +kernel
theorem dX7_tap_124 : decode cX7_tap 124 = .ok (.putfield 167, 3) := by decide +kernel
theorem dX7_tap_127 : decode cX7_tap 127 = .ok (.aload_n 0, 1) := by decide +kernel
theorem dX7_tap_128 : decode cX7_tap 128 = .ok (.iconst 0, 1) := by decide +kernel
theorem dX7_tap_129 : decode cX7_tap 129 = .ok (.putfield 161, 3) := by decide +kernel
theorem dX7_tap_132 : decode cX7_tap 132 = .ok (.iload_n 3, 1) := by decide +kernel
theorem dX7_tap_133 : decode cX7_tap 133 = .ok (.ireturn, 1) := by decide +kernel
theorem dX7_cycle_0 : decode cX7_cycle 0 = .ok (.iconst 4, 1) := by decide +kernel
theorem dX7_cycle_1 : decode cX7_cycle 1 = .ok (.newarray .int, 2) := by decide +kernel
theorem dX7_cycle_3 : decode cX7_cycle 3 = .ok (.dup, 1) := by decide +kernel
theorem dX7_cycle_4 : decode cX7_cycle 4 = .ok (.iconst 0, 1) := by decide +kernel
theorem dX7_cycle_5 : decode cX7_cycle 5 = .ok (.bipush 8, 2) := by decide +kernel
theorem dX7_cycle_7 : decode cX7_cycle 7 = .ok (.iastore, 1) := by decide +kernel
theorem dX7_cycle_8 : decode cX7_cycle 8 = .ok (.dup, 1) := by decide +kernel
theorem dX7_cycle_9 : decode cX7_cycle 9 = .ok (.iconst 1, 1) := by decide +kernel
theorem dX7_cycle_10 : decode cX7_cycle 10 = .ok (.bipush 16, 2) := by decide +kernel
theorem dX7_cycle_12 : decode cX7_cycle 12 = .ok (.iastore, 1) := by decide +kernel
theorem dX7_cycle_13 : decode cX7_cycle 13 = .ok (.dup, 1) := by decide +kernel
theorem dX7_cycle_14 : decode cX7_cycle 14 = .ok (.iconst 2, 1) := by decide +kernel
theorem dX7_cycle_15 : decode cX7_cycle 15 = .ok (.bipush 12, 2) := by decide +kernel
theorem dX7_cycle_17 : decode cX7_cycle 17 = .ok (.iastore, 1) := by decide +kernel
theorem dX7_cycle_18 : decode cX7_cycle 18 = .ok (.dup, 1) := by decide +kernel
theorem dX7_cycle_19 : decode cX7_cycle 19 = .ok (.iconst 3, 1) := by decide +kernel
theorem dX7_cycle_20 : decode cX7_cycle 20 = .ok (.bipush 32, 2) := by decide +kernel
theorem dX7_cycle_22 : decode cX7_cycle 22 = .ok (.iastore, 1) := by decide +kernel
theorem dX7_cycle_23 : decode cX7_cycle 23 = .ok (.astore_n 1, 1) := by decide +kernel
theorem dX7_cycle_24 : decode cX7_cycle 24 = .ok (.aload_n 1, 1) := by decide +kernel
theorem dX7_cycle_25 : decode cX7_cycle 25 = .ok (.aload_n 0, 1) := by decide +kernel
theorem dX7_cycle_26 : decode cX7_cycle 26 = .ok (.getfield 26, 3) := by decide +kernel
theorem dX7_cycle_29 : decode cX7_cycle 29 = .ok (.iaload, 1) := by decide +kernel
theorem dX7_cycle_30 : decode cX7_cycle 30 = .ok (.ireturn, 1) := by decide +kernel
theorem dX7_silence_0 : decode cX7_silence 0 = .ok (.aload_n 0, 1) := by decide +kernel
theorem dX7_silence_1 : decode cX7_silence 1 = .ok (.iconst (-1), 1) := by decide +kernel
theorem dX7_silence_2 : decode cX7_silence 2 = .ok (.putfield 26, 3) := by decide +kernel
theorem dX7_silence_5 : decode cX7_silence 5 = .ok (.aload_n 0, 1) := by decide +kernel
theorem dX7_silence_6 : decode cX7_silence 6 = .ok (.iconst 0, 1) := by decide +kernel
theorem dX7_silence_7 : decode cX7_silence 7 = .ok (.putfield 164, 3) := by decide +kernel
theorem dX7_silence_10 : decode cX7_silence 10 = .ok (.aload_n 0, 1) := by decide +kernel
theorem dX7_silence_11 : decode cX7_silence 11 = .ok (.iconst 0, 1) := by decide +kernel
theorem dX7_silence_12 : decode cX7_silence 12 = .ok (.putfield 167, 3) := by decide +kernel
theorem dX7_silence_15 : decode cX7_silence 15 = .ok (.aload_n 0, 1) := by decide +kernel
theorem dX7_silence_16 : decode cX7_silence 16 = .ok (.iconst 0, 1) := by decide +kernel
theorem dX7_silence_17 : decode cX7_silence 17 = .ok (.putfield 161, 3) := by decide +kernel
theorem dX7_silence_20 : decode cX7_silence 20 = .ok (.return_, 1) := by decide +kernel
theorem dX7_play_0 : decode cX7_play 0 = .ok (.iconst 0, 1) := by decide +kernel
theorem dX7_play_1 : decode cX7_play 1 = .ok (.istore_n 1, 1) := by decide +kernel
theorem dX7_play_2 : decode cX7_play 2 = .ok (.bipush 8, 2) := by decide +kernel
theorem dX7_play_4 : decode cX7_play 4 = .ok (.aload_n 0, 1) := by decide +kernel
theorem dX7_play_5 : decode cX7_play 5 = .ok (.getfield 164, 3) := by decide +kernel
theorem dX7_play_8 : decode cX7_play 8 = .ok (.imul, 1) := by decide +kernel
theorem dX7_play_9 : decode cX7_play 9 = .ok (.istore_n 2, 1) := by decide +kernel
theorem dX7_play_10 : decode cX7_play 10 = .ok (.iload_n 2, 1) := by decide +kernel
theorem dX7_play_11 : decode cX7_play 11 = .ok (.ifCond .le 110, 3) := by decide +kernel
theorem dX7_play_14 : decode cX7_play 14 = .ok (.aload_n 0, 1) := by decide +kernel
theorem dX7_play_15 : decode cX7_play 15 = .ok (.getfield 26, 3) := by decide +kernel
theorem dX7_play_18 : decode cX7_play 18 = .ok (.iconst (-1), 1) := by decide +kernel
theorem dX7_play_19 : decode cX7_play 19 = .ok (.if_icmp .eq 102, 3) := by decide +kernel
theorem dX7_play_22 : decode cX7_play 22 = .ok (.aload_n 0, 1) := by decide +kernel
theorem dX7_play_23 : decode cX7_play 23 = .ok (.dup, 1) := by decide +kernel
theorem dX7_play_24 : decode cX7_play 24 = .ok (.getfield 167, 3) := by decide +kernel
theorem dX7_play_27 : decode cX7_play 27 = .ok (.iconst 1, 1) := by decide +kernel
theorem dX7_play_28 : decode cX7_play 28 = .ok (.iadd, 1) := by decide +kernel
theorem dX7_play_29 : decode cX7_play 29 = .ok (.putfield 167, 3) := by decide +kernel
theorem dX7_play_32 : decode cX7_play 32 = .ok (.aload_n 0, 1) := by decide +kernel
theorem dX7_play_33 : decode cX7_play 33 = .ok (.getfield 167, 3) := by decide +kernel
theorem dX7_play_36 : decode cX7_play 36 = .ok (.aload_n 0, 1) := by decide +kernel
theorem dX7_play_37 : decode cX7_play 37 = .ok (.invokevirtual 170, 3) := by decide +kernel
theorem dX7_play_40 : decode cX7_play 40 = .ok (.if_icmp .ge 6, 3) := by decide +kernel
theorem dX7_play_43 : decode cX7_play 43 = .ok (.goto 72, 3) := by decide +kernel
theorem dX7_play_46 : decode cX7_play 46 = .ok (.aload_n 0, 1) := by decide +kernel
theorem dX7_play_47 : decode cX7_play 47 = .ok (.iconst 0, 1) := by decide +kernel
theorem dX7_play_48 : decode cX7_play 48 = .ok (.putfield 167, 3) := by decide +kernel
theorem dX7_play_51 : decode cX7_play 51 = .ok (.iinc 1 1, 3) := by decide +kernel
theorem dX7_play_54 : decode cX7_play 54 = .ok (.aload_n 0, 1) := by decide +kernel
theorem dX7_play_55 : decode cX7_play 55 = .ok (.getfield 161, 3) := by decide +kernel
theorem dX7_play_58 : decode cX7_play 58 = .ok (.iconst 1, 1) := by decide +kernel
theorem dX7_play_59 : decode cX7_play 59 = .ok (.if_icmp .ne 17, 3) := by decide +kernel
theorem dX7_play_62 : decode cX7_play 62 = .ok (.aload_n 0, 1) := by decide +kernel
theorem dX7_play_63 : decode cX7_play 63 = .ok (.iconst 3, 1) := by decide +kernel
theorem dX7_play_64 : decode cX7_play 64 = .ok (.aload_n 0, 1) := by decide +kernel
theorem dX7_play_65 : decode cX7_play 65 = .ok (.getfield 164, 3) := by decide +kernel
theorem dX7_play_68 : decode cX7_play 68 = .ok (.iconst 1, 1) := by decide +kernel
theorem dX7_play_69 : decode cX7_play 69 = .ok (.iadd, 1) := by decide +kernel
theorem dX7_play_70 : decode cX7_play 70 = .ok (.invokestatic 62, 3) := by decide +kernel
theorem dX7_play_73 : decode cX7_play 73 = .ok (.putfield 164, 3) := by decide +kernel
theorem dX7_play_76 : decode cX7_play 76 = .ok (.aload_n 0, 1) := by decide +kernel
theorem dX7_play_77 : decode cX7_play 77 = .ok (.getfield 161, 3) := by decide +kernel
theorem dX7_play_80 : decode cX7_play 80 = .ok (.iconst 2, 1) := by decide +kernel
theorem dX7_play_81 : decode cX7_play 81 = .ok (.if_icmp .ne 17, 3) := by decide +kernel
theorem dX7_play_84 : decode cX7_play 84 = .ok (.aload_n 0, 1) := by decide +kernel
theorem dX7_play_85 : decode cX7_play 85 = .ok (.iconst 1, 1) := by decide +kernel
theorem dX7_play_86 : decode cX7_play 86 = .ok (.aload_n 0, 1) := by decide +kernel
theorem dX7_play_87 : decode cX7_play 87 = .ok (.getfield 164, 3) := by decide +kernel
theorem dX7_play_90 : decode cX7_play 90 = .ok (.iconst 1, 1) := by decide +kernel
theorem dX7_play_91 : decode cX7_play 91 = .ok (.isub, 1) := by decide +kernel
theorem dX7_play_92 : decode cX7_play 92 = .ok (.invokestatic 173, 3) := by decide +kernel
theorem dX7_play_95 : decode cX7_play 95 = .ok (.putfield 164, 3) := by decide +kernel
theorem dX7_play_98 : decode cX7_play 98 = .ok (.aload_n 0, 1) := by decide +kernel
theorem dX7_play_99 : decode cX7_play 99 = .ok (.getfield 161, 3) := by decide +kernel
theorem dX7_play_102 : decode cX7_play 102 = .ok (.iconst 3, 1) := by decide +kernel
theorem dX7_play_103 : decode cX7_play 103 = .ok (.if_icmp .ne 7, 3) := by decide +kernel
theorem dX7_play_106 : decode cX7_play 106 = .ok (.aload_n 0, 1) := by decide +kernel
theorem dX7_play_107 : decode cX7_play 107 = .ok (.invokevirtual 176, 3) := by decide +kernel
theorem dX7_play_110 : decode cX7_play 110 = .ok (.aload_n 0, 1) := by decide +kernel
theorem dX7_play_111 : decode cX7_play 111 = .ok (.iconst 0, 1) := by decide +kernel
theorem dX7_play_112 : decode cX7_play 112 = .ok (.putfield 161, 3) := by decide +kernel
theorem dX7_play_115 : decode cX7_play 115 = .ok (.iinc 2 (-1), 3) := by decide +kernel
theorem dX7_play_118 : decode cX7_play 118 = .ok (.goto (-108), 3) := by decide +kernel
theorem dX7_play_121 : decode cX7_play 121 = .ok (.aload_n 0, 1) := by decide +kernel
theorem dX7_play_122 : decode cX7_play 122 = .ok (.dup, 1) := by decide +kernel
theorem dX7_play_123 : decode cX7_play 123 = .ok (.getfield 179, 3) := by decide +kernel
theorem dX7_play_126 : decode cX7_play 126 = .ok (.iload_n 1, 1) := by decide +kernel
theorem dX7_play_127 : decode cX7_play 127 = .ok (.iadd, 1) := by decide +kernel
theorem dX7_play_128 : decode cX7_play 128 = .ok (.putfield 179, 3) := by decide +kernel
theorem dX7_play_131 : decode cX7_play 131 = .ok (.iload_n 1, 1) := by decide +kernel
theorem dX7_play_132 : decode cX7_play 132 = .ok (.ireturn, 1) := by decide +kernel
theorem dX7_go_0 : decode cX7_go 0 = .ok (.iconst 0, 1) := by decide +kernel
theorem dX7_go_1 : decode cX7_go 1 = .ok (.istore_n 3, 1) := by decide +kernel
theorem dX7_go_2 : decode cX7_go 2 = .ok (.iconst 0, 1) := by decide +kernel
theorem dX7_go_3 : decode cX7_go 3 = .ok (.istore 4, 2) := by decide +kernel
theorem dX7_go_5 : decode cX7_go 5 = .ok (.iload 4, 2) := by decide +kernel
theorem dX7_go_7 : decode cX7_go 7 = .ok (.iload_n 1, 1) := by decide +kernel
theorem dX7_go_8 : decode cX7_go 8 = .ok (.if_icmp .ge 101, 3) := by decide +kernel
theorem dX7_go_11 : decode cX7_go 11 = .ok (.aload_n 0, 1) := by decide +kernel
theorem dX7_go_12 : decode cX7_go 12 = .ok (.dup, 1) := by decide +kernel
theorem dX7_go_13 : decode cX7_go 13 = .ok (.getfield 86, 3) := by decide +kernel
theorem dX7_go_16 : decode cX7_go 16 = .ok (.iconst 1, 1) := by decide +kernel
theorem dX7_go_17 : decode cX7_go 17 = .ok (.iadd, 1) := by decide +kernel
theorem dX7_go_18 : decode cX7_go 18 = .ok (.putfield 86, 3) := by decide +kernel
theorem dX7_go_21 : decode cX7_go 21 = .ok (.iload_n 3, 1) := by decide +kernel
theorem dX7_go_22 : decode cX7_go 22 = .ok (.aload_n 0, 1) := by decide +kernel
theorem dX7_go_23 : decode cX7_go 23 = .ok (.invokevirtual 182, 3) := by decide +kernel
theorem dX7_go_26 : decode cX7_go 26 = .ok (.iadd, 1) := by decide +kernel
theorem dX7_go_27 : decode cX7_go 27 = .ok (.istore_n 3, 1) := by decide +kernel
theorem dX7_go_28 : decode cX7_go 28 = .ok (.iload_n 2, 1) := by decide +kernel
theorem dX7_go_29 : decode cX7_go 29 = .ok (.ifCond .ne 17, 3) := by decide +kernel
theorem dX7_go_32 : decode cX7_go 32 = .ok (.aload_n 0, 1) := by decide +kernel
theorem dX7_go_33 : decode cX7_go 33 = .ok (.iconst 0, 1) := by decide +kernel
theorem dX7_go_34 : decode cX7_go 34 = .ok (.aload_n 0, 1) := by decide +kernel
theorem dX7_go_35 : decode cX7_go 35 = .ok (.getfield 185, 3) := by decide +kernel
theorem dX7_go_38 : decode cX7_go 38 = .ok (.iconst 1, 1) := by decide +kernel
theorem dX7_go_39 : decode cX7_go 39 = .ok (.isub, 1) := by decide +kernel
theorem dX7_go_40 : decode cX7_go 40 = .ok (.invokestatic 173, 3) := by decide +kernel
theorem dX7_go_43 : decode cX7_go 43 = .ok (.putfield 185, 3) := by decide +kernel
theorem dX7_go_46 : decode cX7_go 46 = .ok (.aload_n 0, 1) := by decide +kernel
theorem dX7_go_47 : decode cX7_go 47 = .ok (.getfield 16, 3) := by decide +kernel
theorem dX7_go_50 : decode cX7_go 50 = .ok (.invokevirtual 72, 3) := by decide +kernel
theorem dX7_go_53 : decode cX7_go 53 = .ok (.astore 5, 2) := by decide +kernel
theorem dX7_go_55 : decode cX7_go 55 = .ok (.aload 5, 2) := by decide +kernel
theorem dX7_go_57 : decode cX7_go 57 = .ok (.invokeinterface 76 1, 5) := by decide +kernel
theorem dX7_go_62 : decode cX7_go 62 = .ok (.ifCond .eq 41, 3) := by decide +kernel
theorem dX7_go_65 : decode cX7_go 65 = .ok (.aload 5, 2) := by decide +kernel
theorem dX7_go_67 : decode cX7_go 67 = .ok (.invokeinterface 82 1, 5) := by decide +kernel
theorem dX7_go_72 : decode cX7_go 72 = .ok (.checkcast 52, 3) := by decide +kernel
theorem dX7_go_75 : decode cX7_go 75 = .ok (.astore 6, 2) := by decide +kernel
theorem dX7_go_77 : decode cX7_go 77 = .ok (.aload_n 0, 1) := by decide +kernel
theorem dX7_go_78 : decode cX7_go 78 = .ok (.getfield 86, 3) := by decide +kernel
theorem dX7_go_81 : decode cX7_go 81 = .ok (.bipush 30, 2) := by decide +kernel
theorem dX7_go_83 : decode cX7_go 83 = .ok (.irem, 1) := by decide +kernel
theorem dX7_go_84 : decode cX7_go 84 = .ok (.ifCond .ne 16, 3) := by decide +kernel
theorem dX7_go_87 : decode cX7_go 87 = .ok (.aload 6, 2) := by decide +kernel
theorem dX7_go_89 : decode cX7_go 89 = .ok (.iconst 3, 1) := by decide +kernel
theorem dX7_go_90 : decode cX7_go 90 = .ok (.iaload, 1) := by decide +kernel
theorem dX7_go_91 : decode cX7_go 91 = .ok (.ifCond .eq 9, 3) := by decide +kernel
theorem dX7_go_94 : decode cX7_go 94 = .ok (.aload 6, 2) := by decide +kernel
theorem dX7_go_96 : decode cX7_go 96 = .ok (.iconst 1, 1) := by decide +kernel
theorem dX7_go_97 : decode cX7_go 97 = .ok (.invokestatic 144, 3) := by decide +kernel
theorem dX7_go_100 : decode cX7_go 100 = .ok (.goto (-45), 3) := by decide +kernel
theorem dX7_go_103 : decode cX7_go 103 = .ok (.iinc 4 1, 3) := by decide +kernel
theorem dX7_go_106 : decode cX7_go 106 = .ok (.goto (-101), 3) := by decide +kernel
theorem dX7_go_109 : decode cX7_go 109 = .ok (.iload_n 3, 1) := by decide +kernel
theorem dX7_go_110 : decode cX7_go 110 = .ok (.ireturn, 1) := by decide +kernel
theorem dX7_people_0 : decode cX7_people 0 = .ok (.iconst 0, 1) := by decide +kernel
theorem dX7_people_1 : decode cX7_people 1 = .ok (.istore_n 1, 1) := by decide +kernel
theorem dX7_people_2 : decode cX7_people 2 = .ok (.aload_n 0, 1) := by decide +kernel
theorem dX7_people_3 : decode cX7_people 3 = .ok (.getfield 16, 3) := by decide +kernel
theorem dX7_people_6 : decode cX7_people 6 = .ok (.invokevirtual 72, 3) := by decide +kernel
theorem dX7_people_9 : decode cX7_people 9 = .ok (.astore_n 2, 1) := by decide +kernel
theorem dX7_people_10 : decode cX7_people 10 = .ok (.aload_n 2, 1) := by decide +kernel
theorem dX7_people_11 : decode cX7_people 11 = .ok (.invokeinterface 76 1, 5) := by decide +kernel
theorem dX7_people_16 : decode cX7_people 16 = .ok (.ifCond .eq 30, 3) := by decide +kernel
theorem dX7_people_19 : decode cX7_people 19 = .ok (.aload_n 2, 1) := by decide +kernel
theorem dX7_people_20 : decode cX7_people 20 = .ok (.invokeinterface 82 1, 5) := by decide +kernel
theorem dX7_people_25 : decode cX7_people 25 = .ok (.checkcast 52, 3) := by decide +kernel
theorem dX7_people_28 : decode cX7_people 28 = .ok (.astore_n 3, 1) := by decide +kernel
theorem dX7_people_29 : decode cX7_people 29 = .ok (.aload_n 3, 1) := by decide +kernel
theorem dX7_people_30 : decode cX7_people 30 = .ok (.iconst 3, 1) := by decide +kernel
theorem dX7_people_31 : decode cX7_people 31 = .ok (.iaload, 1) := by decide +kernel
theorem dX7_people_32 : decode cX7_people 32 = .ok (.ifCond .eq 11, 3) := by decide +kernel
theorem dX7_people_35 : decode cX7_people 35 = .ok (.iload_n 1, 1) := by decide +kernel
theorem dX7_people_36 : decode cX7_people 36 = .ok (.iconst 1, 1) := by decide +kernel
theorem dX7_people_37 : decode cX7_people 37 = .ok (.aload_n 3, 1) := by decide +kernel
theorem dX7_people_38 : decode cX7_people 38 = .ok (.iconst 0, 1) := by decide +kernel
theorem dX7_people_39 : decode cX7_people 39 = .ok (.iaload, 1) := by decide +kernel
theorem dX7_people_40 : decode cX7_people 40 = .ok (.ishl, 1) := by decide +kernel
theorem dX7_people_41 : decode cX7_people 41 = .ok (.ior, 1) := by decide +kernel
theorem dX7_people_42 : decode cX7_people 42 = .ok (.istore_n 1, 1) := by decide +kernel
theorem dX7_people_43 : decode cX7_people 43 = .ok (.goto (-33), 3) := by decide +kernel
theorem dX7_people_46 : decode cX7_people 46 = .ok (.iload_n 1, 1) := by decide +kernel
theorem dX7_people_47 : decode cX7_people 47 = .ok (.ireturn, 1) := by decide +kernel
theorem dX7_speak_0 : decode cX7_speak 0 = .ok (.aload_n 0, 1) := by decide +kernel
theorem dX7_speak_1 : decode cX7_speak 1 = .ok (.iconst 0, 1) := by decide +kernel
theorem dX7_speak_2 : decode cX7_speak 2 = .ok (.putfield 35, 3) := by decide +kernel
theorem dX7_speak_5 : decode cX7_speak 5 = .ok (.aload_n 0, 1) := by decide +kernel
theorem dX7_speak_6 : decode cX7_speak 6 = .ok (.iload_n 1, 1) := by decide +kernel
theorem dX7_speak_7 : decode cX7_speak 7 = .ok (.invokevirtual 101, 3) := by decide +kernel
theorem dX7_speak_10 : decode cX7_speak 10 = .ok (.ifCond .eq 11, 3) := by decide +kernel
theorem dX7_speak_13 : decode cX7_speak 13 = .ok (.aload_n 0, 1) := by decide +kernel
theorem dX7_speak_14 : decode cX7_speak 14 = .ok (.iload_n 2, 1) := by decide +kernel
theorem dX7_speak_15 : decode cX7_speak 15 = .ok (.invokevirtual 101, 3) := by decide +kernel
theorem dX7_speak_18 : decode cX7_speak 18 = .ok (.ifCond .ne 9, 3) := by decide +kernel
theorem dX7_speak_21 : decode cX7_speak 21 = .ok (.aload_n 0, 1) := by decide +kernel
theorem dX7_speak_22 : decode cX7_speak 22 = .ok (.iconst 1, 1) := by decide +kernel
theorem dX7_speak_23 : decode cX7_speak 23 = .ok (.invokevirtual 93, 3) := by decide +kernel
theorem dX7_speak_26 : decode cX7_speak 26 = .ok (.ireturn, 1) := by decide +kernel
theorem dX7_speak_27 : decode cX7_speak 27 = .ok (.iload_n 1, 1) := by decide +kernel
theorem dX7_speak_28 : decode cX7_speak 28 = .ok (.iload_n 2, 1) := by decide +kernel
theorem dX7_speak_29 : decode cX7_speak 29 = .ok (.if_icmp .eq 23, 3) := by decide +kernel
theorem dX7_speak_32 : decode cX7_speak 32 = .ok (.iload_n 3, 1) := by decide +kernel
theorem dX7_speak_33 : decode cX7_speak 33 = .ok (.iconst 1, 1) := by decide +kernel
theorem dX7_speak_34 : decode cX7_speak 34 = .ok (.bipush 9, 2) := by decide +kernel
theorem dX7_speak_36 : decode cX7_speak 36 = .ok (.invokestatic 42, 3) := by decide +kernel
theorem dX7_speak_39 : decode cX7_speak 39 = .ok (.ifCond .eq 13, 3) := by decide +kernel
theorem dX7_speak_42 : decode cX7_speak 42 = .ok (.iload 4, 2) := by decide +kernel
theorem dX7_speak_44 : decode cX7_speak 44 = .ok (.iconst (-1), 1) := by decide +kernel
theorem dX7_speak_45 : decode cX7_speak 45 = .ok (.iconst 1, 1) := by decide +kernel
theorem dX7_speak_46 : decode cX7_speak 46 = .ok (.invokestatic 42, 3) := by decide +kernel
theorem dX7_speak_49 : decode cX7_speak 49 = .ok (.ifCond .ne 9, 3) := by decide +kernel
theorem dX7_speak_52 : decode cX7_speak 52 = .ok (.aload_n 0, 1) := by decide +kernel
theorem dX7_speak_53 : decode cX7_speak 53 = .ok (.iconst 2, 1) := by decide +kernel
theorem dX7_speak_54 : decode cX7_speak 54 = .ok (.invokevirtual 93, 3) := by decide +kernel
theorem dX7_speak_57 : decode cX7_speak 57 = .ok (.ireturn, 1) := by decide +kernel
theorem dX7_speak_58 : decode cX7_speak 58 = .ok (.aload_n 0, 1) := by decide +kernel
theorem dX7_speak_59 : decode cX7_speak 59 = .ok (.invokevirtual 188, 3) := by decide +kernel
theorem dX7_speak_62 : decode cX7_speak 62 = .ok (.iload_n 1, 1) := by decide +kernel
theorem dX7_speak_63 : decode cX7_speak 63 = .ok (.ishr, 1) := by decide +kernel
theorem dX7_speak_64 : decode cX7_speak 64 = .ok (.iconst 1, 1) := by decide +kernel
theorem dX7_speak_65 : decode cX7_speak 65 = .ok (.iand, 1) := by decide +kernel
theorem dX7_speak_66 : decode cX7_speak 66 = .ok (.ifCond .eq 24, 3) := by decide +kernel
theorem dX7_speak_69 : decode cX7_speak 69 = .ok (.aload_n 0, 1) := by decide +kernel
theorem dX7_speak_70 : decode cX7_speak 70 = .ok (.getfield 185, 3) := by decide +kernel
theorem dX7_speak_73 : decode cX7_speak 73 = .ok (.bipush 80, 2) := by decide +kernel
theorem dX7_speak_75 : decode cX7_speak 75 = .ok (.if_icmp .ge 15, 3) := by decide +kernel
theorem dX7_speak_78 : decode cX7_speak 78 = .ok (.aload_n 0, 1) := by decide +kernel
theorem dX7_speak_79 : decode cX7_speak 79 = .ok (.getfield 86, 3) := by decide +kernel
theorem dX7_speak_82 : decode cX7_speak 82 = .ok (.iload_n 3, 1) := by decide +kernel
theorem dX7_speak_83 : decode cX7_speak 83 = .ok (.iadd, 1) := by decide +kernel
theorem dX7_speak_84 : decode cX7_speak 84 = .ok (.sipush 540, 3) := by decide +kernel
theorem dX7_speak_87 : decode cX7_speak 87 = .ok (.if_icmp .le 9, 3) := by decide +kernel
theorem dX7_speak_90 : decode cX7_speak 90 = .ok (.aload_n 0, 1) := by decide +kernel
theorem dX7_speak_91 : decode cX7_speak 91 = .ok (.iconst 3, 1) := by decide +kernel
theorem dX7_speak_92 : decode cX7_speak 92 = .ok (.invokevirtual 93, 3) := by decide +kernel
theorem dX7_speak_95 : decode cX7_speak 95 = .ok (.ireturn, 1) := by decide +kernel
theorem dX7_speak_96 : decode cX7_speak 96 = .ok (.aload_n 0, 1) := by decide +kernel
theorem dX7_speak_97 : decode cX7_speak 97 = .ok (.getfield 10, 3) := by decide +kernel
theorem dX7_speak_100 : decode cX7_speak 100 = .ok (.iload_n 1, 1) := by decide +kernel
theorem dX7_speak_101 : decode cX7_speak 101 = .ok (.invokevirtual 48, 3) := by decide +kernel
theorem dX7_speak_104 : decode cX7_speak 104 = .ok (.checkcast 52, 3) := by decide +kernel
theorem dX7_speak_107 : decode cX7_speak 107 = .ok (.astore 5, 2) := by decide +kernel
theorem dX7_speak_109 : decode cX7_speak 109 = .ok (.aload_n 0, 1) := by decide +kernel
theorem dX7_speak_110 : decode cX7_speak 110 = .ok (.bipush 100, 2) := by decide +kernel
theorem dX7_speak_112 : decode cX7_speak 112 = .ok (.aload_n 0, 1) := by decide +kernel
theorem dX7_speak_113 : decode cX7_speak 113 = .ok (.getfield 185, 3) := by decide +kernel
theorem dX7_speak_116 : decode cX7_speak 116 = .ok (.iload_n 3, 1) := by decide +kernel
theorem dX7_speak_117 : decode cX7_speak 117 = .ok (.aload 5, 2) := by decide +kernel
theorem dX7_speak_119 : decode cX7_speak 119 = .ok (.iconst 2, 1) := by decide +kernel
theorem dX7_speak_120 : decode cX7_speak 120 = .ok (.iaload, 1) := by decide +kernel
theorem dX7_speak_121 : decode cX7_speak 121 = .ok (.aload_n 0, 1) := by decide +kernel
theorem dX7_speak_122 : decode cX7_speak 122 = .ok (.getfield 29, 3) := by decide +kernel
theorem dX7_speak_125 : decode cX7_speak 125 = .ok (.isub, 1) := by decide +kernel
theorem dX7_speak_126 : decode cX7_speak 126 = .ok (.invokestatic 141, 3) := by decide +kernel
theorem dX7_speak_129 : decode cX7_speak 129 = .ok (.imul, 1) := by decide +kernel
theorem dX7_speak_130 : decode cX7_speak 130 = .ok (.iconst 3, 1) := by decide +kernel
theorem dX7_speak_131 : decode cX7_speak 131 = .ok (.idiv, 1) := by decide +kernel
theorem dX7_speak_132 : decode cX7_speak 132 = .ok (.iadd, 1) := by decide +kernel
theorem dX7_speak_133 : decode cX7_speak 133 = .ok (.iconst 1, 1) := by decide +kernel
theorem dX7_speak_134 : decode cX7_speak 134 = .ok (.iadd, 1) := by decide +kernel
theorem dX7_speak_135 : decode cX7_speak 135 = .ok (.invokestatic 62, 3) := by decide +kernel
theorem dX7_speak_138 : decode cX7_speak 138 = .ok (.putfield 185, 3) := by decide +kernel
theorem dX7_speak_141 : decode cX7_speak 141 = .ok (.aload_n 0, 1) := by decide +kernel
theorem dX7_speak_142 : decode cX7_speak 142 = .ok (.aload 5, 2) := by decide +kernel
theorem dX7_speak_144 : decode cX7_speak 144 = .ok (.iconst 2, 1) := by decide +kernel
theorem dX7_speak_145 : decode cX7_speak 145 = .ok (.iaload, 1) := by decide +kernel
theorem dX7_speak_146 : decode cX7_speak 146 = .ok (.putfield 29, 3) := by decide +kernel
theorem dX7_speak_149 : decode cX7_speak 149 = .ok (.aload_n 0, 1) := by decide +kernel
theorem dX7_speak_150 : decode cX7_speak 150 = .ok (.dup, 1) := by decide +kernel
theorem dX7_speak_151 : decode cX7_speak 151 = .ok (.getfield 191, 3) := by decide +kernel
theorem dX7_speak_154 : decode cX7_speak 154 = .ok (.iload 4, 2) := by decide +kernel
theorem dX7_speak_156 : decode cX7_speak 156 = .ok (.aload_n 0, 1) := by decide +kernel
theorem dX7_speak_157 : decode cX7_speak 157 = .ok (.getfield 10, 3) := by decide +kernel
theorem dX7_speak_160 : decode cX7_speak 160 = .ok (.iload_n 2, 1) := by decide +kernel
theorem dX7_speak_161 : decode cX7_speak 161 = .ok (.invokevirtual 48, 3) := by decide +kernel
theorem dX7_speak_164 : decode cX7_speak 164 = .ok (.checkcast 52, 3) := by decide +kernel
theorem dX7_speak_167 : decode cX7_speak 167 = .ok (.iconst 1, 1) := by decide +kernel
theorem dX7_speak_168 : decode cX7_speak 168 = .ok (.iaload, 1) := by decide +kernel
theorem dX7_speak_169 : decode cX7_speak 169 = .ok (.aload 5, 2) := by decide +kernel
theorem dX7_speak_171 : decode cX7_speak 171 = .ok (.iconst 1, 1) := by decide +kernel
theorem dX7_speak_172 : decode cX7_speak 172 = .ok (.iaload, 1) := by decide +kernel
theorem dX7_speak_173 : decode cX7_speak 173 = .ok (.isub, 1) := by decide +kernel
theorem dX7_speak_174 : decode cX7_speak 174 = .ok (.invokestatic 194, 3) := by decide +kernel
theorem dX7_speak_177 : decode cX7_speak 177 = .ok (.if_icmp .ne 7, 3) := by decide +kernel
theorem dX7_speak_180 : decode cX7_speak 180 = .ok (.iconst 0, 1) := by decide +kernel
theorem dX7_speak_181 : decode cX7_speak 181 = .ok (.goto 4, 3) := by decide +kernel
theorem dX7_speak_184 : decode cX7_speak 184 = .ok (.iconst 1, 1) := by decide +kernel
theorem dX7_speak_185 : decode cX7_speak 185 = .ok (.iadd, 1) := by decide +kernel
theorem dX7_speak_186 : decode cX7_speak 186 = .ok (.putfield 191, 3) := by decide +kernel
theorem dX7_speak_189 : decode cX7_speak 189 = .ok (.aload_n 0, 1) := by decide +kernel
theorem dX7_speak_190 : decode cX7_speak 190 = .ok (.iload_n 3, 1) := by decide +kernel
theorem dX7_speak_191 : decode cX7_speak 191 = .ok (.iconst 1, 1) := by decide +kernel
theorem dX7_speak_192 : decode cX7_speak 192 = .ok (.invokevirtual 199, 3) := by decide +kernel
theorem dX7_speak_195 : decode cX7_speak 195 = .ok (.pop, 1) := by decide +kernel
theorem dX7_speak_196 : decode cX7_speak 196 = .ok (.aload_n 0, 1) := by decide +kernel
theorem dX7_speak_197 : decode cX7_speak 197 = .ok (.getfield 185, 3) := by decide +kernel
theorem dX7_speak_200 : decode cX7_speak 200 = .ok (.ireturn, 1) := by decide +kernel
theorem dX7_joke_0 : decode cX7_joke 0 = .ok (.aload_n 0, 1) := by decide +kernel
theorem dX7_joke_1 : decode cX7_joke 1 = .ok (.iconst 0, 1) := by decide +kernel
theorem dX7_joke_2 : decode cX7_joke 2 = .ok (.putfield 35, 3) := by decide +kernel
theorem dX7_joke_5 : decode cX7_joke 5 = .ok (.iload_n 1, 1) := by decide +kernel
theorem dX7_joke_6 : decode cX7_joke 6 = .ok (.iconst 0, 1) := by decide +kernel
theorem dX7_joke_7 : decode cX7_joke 7 = .ok (.bipush 9, 2) := by decide +kernel
theorem dX7_joke_9 : decode cX7_joke 9 = .ok (.invokestatic 42, 3) := by decide +kernel
theorem dX7_joke_12 : decode cX7_joke 12 = .ok (.ifCond .ne 9, 3) := by decide +kernel
theorem dX7_joke_15 : decode cX7_joke 15 = .ok (.aload_n 0, 1) := by decide +kernel
theorem dX7_joke_16 : decode cX7_joke 16 = .ok (.iconst 1, 1) := by decide +kernel
theorem dX7_joke_17 : decode cX7_joke 17 = .ok (.invokevirtual 93, 3) := by decide +kernel
theorem dX7_joke_20 : decode cX7_joke 20 = .ok (.ireturn, 1) := by decide +kernel
theorem dX7_joke_21 : decode cX7_joke 21 = .ok (.aload_n 0, 1) := by decide +kernel
theorem dX7_joke_22 : decode cX7_joke 22 = .ok (.getfield 32, 3) := by decide +kernel
theorem dX7_joke_25 : decode cX7_joke 25 = .ok (.iload_n 1, 1) := by decide +kernel
theorem dX7_joke_26 : decode cX7_joke 26 = .ok (.if_icmp .ge 16, 3) := by decide +kernel
theorem dX7_joke_29 : decode cX7_joke 29 = .ok (.aload_n 0, 1) := by decide +kernel
theorem dX7_joke_30 : decode cX7_joke 30 = .ok (.dup, 1) := by decide +kernel
theorem dX7_joke_31 : decode cX7_joke 31 = .ok (.getfield 203, 3) := by decide +kernel
theorem dX7_joke_34 : decode cX7_joke 34 = .ok (.iconst 1, 1) := by decide +kernel
theorem dX7_joke_35 : decode cX7_joke 35 = .ok (.iadd, 1) := by decide +kernel
theorem dX7_joke_36 : decode cX7_joke 36 = .ok (.putfield 203, 3) := by decide +kernel
theorem dX7_joke_39 : decode cX7_joke 39 = .ok (.bipush (-2), 2) := by decide +kernel
theorem dX7_joke_41 : decode cX7_joke 41 = .ok (.ireturn, 1) := by decide +kernel
theorem dX7_joke_42 : decode cX7_joke 42 = .ok (.aload_n 0, 1) := by decide +kernel
theorem dX7_joke_43 : decode cX7_joke 43 = .ok (.dup, 1) := by decide +kernel
theorem dX7_joke_44 : decode cX7_joke 44 = .ok (.getfield 32, 3) := by decide +kernel
theorem dX7_joke_47 : decode cX7_joke 47 = .ok (.iload_n 1, 1) := by decide +kernel
theorem dX7_joke_48 : decode cX7_joke 48 = .ok (.isub, 1) := by decide +kernel
theorem dX7_joke_49 : decode cX7_joke 49 = .ok (.putfield 32, 3) := by decide +kernel
theorem dX7_joke_52 : decode cX7_joke 52 = .ok (.aload_n 0, 1) := by decide +kernel
theorem dX7_joke_53 : decode cX7_joke 53 = .ok (.getfield 32, 3) := by decide +kernel
theorem dX7_joke_56 : decode cX7_joke 56 = .ok (.ireturn, 1) := by decide +kernel
theorem dX7_offer_0 : decode cX7_offer 0 = .ok (.aload_n 0, 1) := by decide +kernel
theorem dX7_offer_1 : decode cX7_offer 1 = .ok (.iconst 0, 1) := by decide +kernel
theorem dX7_offer_2 : decode cX7_offer 2 = .ok (.putfield 35, 3) := by decide +kernel
theorem dX7_offer_5 : decode cX7_offer 5 = .ok (.aload_n 0, 1) := by decide +kernel
theorem dX7_offer_6 : decode cX7_offer 6 = .ok (.getfield 86, 3) := by decide +kernel
theorem dX7_offer_9 : decode cX7_offer 9 = .ok (.iconst 3, 1) := by decide +kernel
theorem dX7_offer_10 : decode cX7_offer 10 = .ok (.iadd, 1) := by decide +kernel
theorem dX7_offer_11 : decode cX7_offer 11 = .ok (.sipush 540, 3) := by decide +kernel
theorem dX7_offer_14 : decode cX7_offer 14 = .ok (.if_icmp .le 9, 3) := by decide +kernel
theorem dX7_offer_17 : decode cX7_offer 17 = .ok (.aload_n 0, 1) := by decide +kernel
theorem dX7_offer_18 : decode cX7_offer 18 = .ok (.iconst 1, 1) := by decide +kernel
theorem dX7_offer_19 : decode cX7_offer 19 = .ok (.invokevirtual 93, 3) := by decide +kernel
theorem dX7_offer_22 : decode cX7_offer 22 = .ok (.ireturn, 1) := by decide +kernel
theorem dX7_offer_23 : decode cX7_offer 23 = .ok (.aload_n 0, 1) := by decide +kernel
theorem dX7_offer_24 : decode cX7_offer 24 = .ok (.bipush 30, 2) := by decide +kernel
theorem dX7_offer_26 : decode cX7_offer 26 = .ok (.aload_n 0, 1) := by decide +kernel
theorem dX7_offer_27 : decode cX7_offer 27 = .ok (.getfield 32, 3) := by decide +kernel

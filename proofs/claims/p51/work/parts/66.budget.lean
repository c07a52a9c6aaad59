-- ===== by hand: budget =====
theorem f200_0 : aF 0 zM200.2.2.2.2.2.2.2 = some (0, (.iload_n 1), 1, 0, 0) := by decide +kernel
theorem f200_1 : aF 1 zM200.2.2.2.2.2.2.2 = some (1, (.iconst 0), 1, 0, 0) := by decide +kernel
theorem f200_2 : aF 2 zM200.2.2.2.2.2.2.2 = some (2, (.aload_n 0), 1, 0, 0) := by decide +kernel
theorem f200_3 : aF 3 zM200.2.2.2.2.2.2.2 = some (3, (.getfield 265), 3, 12, 2) := by decide +kernel
theorem f200_6 : aF 6 zM200.2.2.2.2.2.2.2 = some (6, (.iconst 1), 1, 0, 0) := by decide +kernel
theorem f200_7 : aF 7 zM200.2.2.2.2.2.2.2 = some (7, .isub, 1, 0, 0) := by decide +kernel
theorem f200_8 : aF 8 zM200.2.2.2.2.2.2.2 = some (8, (.invokestatic 258), 3, 196, 0) := by decide +kernel
theorem f200_11 : aF 11 zM200.2.2.2.2.2.2.2 = some (11, .ireturn, 1, 0, 0) := by decide +kernel
theorem f202_0 : aF 0 zM202.2.2.2.2.2.2.2 = some (0, (.aload_n 0), 1, 0, 0) := by decide +kernel
theorem f202_1 : aF 1 zM202.2.2.2.2.2.2.2 = some (1, (.iload_n 1), 1, 0, 0) := by decide +kernel
theorem f202_2 : aF 2 zM202.2.2.2.2.2.2.2 = some (2, (.invokevirtual 268), 3, 200, 0) := by decide +kernel
theorem f202_5 : aF 5 zM202.2.2.2.2.2.2.2 = some (5, (.ifCond .eq 20), 3, 25, 0) := by decide +kernel
theorem f202_8 : aF 8 zM202.2.2.2.2.2.2.2 = some (8, (.aload_n 0), 1, 0, 0) := by decide +kernel
theorem f202_9 : aF 9 zM202.2.2.2.2.2.2.2 = some (9, (.getfield 7), 3, 12, 3) := by decide +kernel
theorem f202_12 : aF 12 zM202.2.2.2.2.2.2.2 = some (12, (.iload_n 1), 1, 0, 0) := by decide +kernel
theorem f202_13 : aF 13 zM202.2.2.2.2.2.2.2 = some (13, .iaload, 1, 0, 0) := by decide +kernel
theorem f202_14 : aF 14 zM202.2.2.2.2.2.2.2 = some (14, (.iconst 1), 1, 0, 0) := by decide +kernel
theorem f202_15 : aF 15 zM202.2.2.2.2.2.2.2 = some (15, (.invokestatic 272), 3, 201, 0) := by decide +kernel
theorem f202_18 : aF 18 zM202.2.2.2.2.2.2.2 = some (18, (.ifCond .eq 7), 3, 25, 0) := by decide +kernel
theorem f202_21 : aF 21 zM202.2.2.2.2.2.2.2 = some (21, (.iconst 1), 1, 0, 0) := by decide +kernel
theorem f202_22 : aF 22 zM202.2.2.2.2.2.2.2 = some (22, (.goto 4), 3, 26, 0) := by decide +kernel
theorem f202_25 : aF 25 zM202.2.2.2.2.2.2.2 = some (25, (.iconst 0), 1, 0, 0) := by decide +kernel
theorem f202_26 : aF 26 zM202.2.2.2.2.2.2.2 = some (26, .ireturn, 1, 0, 0) := by decide +kernel
theorem f281_0 : aF 0 zM281.2.2.2.2.2.2.2 = some (0, (.aload_n 0), 1, 0, 0) := by decide +kernel
theorem f281_1 : aF 1 zM281.2.2.2.2.2.2.2 = some (1, (.iload_n 1), 1, 0, 0) := by decide +kernel
theorem f281_2 : aF 2 zM281.2.2.2.2.2.2.2 = some (2, (.invokevirtual 316), 3, 202, 0) := by decide +kernel
theorem f281_5 : aF 5 zM281.2.2.2.2.2.2.2 = some (5, (.ifCond .eq 21), 3, 26, 0) := by decide +kernel
theorem f281_8 : aF 8 zM281.2.2.2.2.2.2.2 = some (8, (.iload_n 2), 1, 0, 0) := by decide +kernel
theorem f281_9 : aF 9 zM281.2.2.2.2.2.2.2 = some (9, (.invokestatic 372), 3, 198, 0) := by decide +kernel
theorem f281_12 : aF 12 zM281.2.2.2.2.2.2.2 = some (12, (.ifCond .eq 14), 3, 26, 0) := by decide +kernel
theorem f281_15 : aF 15 zM281.2.2.2.2.2.2.2 = some (15, (.iload_n 3), 1, 0, 0) := by decide +kernel
theorem f281_16 : aF 16 zM281.2.2.2.2.2.2.2 = some (16, (.iconst 0), 1, 0, 0) := by decide +kernel
theorem f281_17 : aF 17 zM281.2.2.2.2.2.2.2 = some (17, (.ldc_w 479), 3, 2000000000, 0) := by decide +kernel
theorem f281_20 : aF 20 zM281.2.2.2.2.2.2.2 = some (20, (.invokestatic 258), 3, 196, 0) := by decide +kernel
theorem f281_23 : aF 23 zM281.2.2.2.2.2.2.2 = some (23, (.ifCond .ne 5), 3, 28, 0) := by decide +kernel
theorem f281_26 : aF 26 zM281.2.2.2.2.2.2.2 = some (26, (.iconst (-1)), 1, 0, 0) := by decide +kernel
theorem f281_27 : aF 27 zM281.2.2.2.2.2.2.2 = some (27, .ireturn, 1, 0, 0) := by decide +kernel
theorem f281_28 : aF 28 zM281.2.2.2.2.2.2.2 = some (28, (.lconst 0), 1, 0, 0) := by decide +kernel
theorem f281_29 : aF 29 zM281.2.2.2.2.2.2.2 = some (29, (.lstore 4), 2, 0, 0) := by decide +kernel
theorem f281_31 : aF 31 zM281.2.2.2.2.2.2.2 = some (31, (.iconst 0), 1, 0, 0) := by decide +kernel
theorem f281_32 : aF 32 zM281.2.2.2.2.2.2.2 = some (32, (.istore 6), 2, 0, 0) := by decide +kernel
theorem f281_34 : aF 34 zM281.2.2.2.2.2.2.2 = some (34, (.iload 6), 2, 0, 0) := by decide +kernel
theorem f281_36 : aF 36 zM281.2.2.2.2.2.2.2 = some (36, (.aload_n 0), 1, 0, 0) := by decide +kernel
theorem f281_37 : aF 37 zM281.2.2.2.2.2.2.2 = some (37, (.getfield 265), 3, 12, 2) := by decide +kernel
theorem f281_40 : aF 40 zM281.2.2.2.2.2.2.2 = some (40, (.if_icmp .ge 70), 3, 110, 0) := by decide +kernel
theorem f281_43 : aF 43 zM281.2.2.2.2.2.2.2 = some (43, (.aload_n 0), 1, 0, 0) := by decide +kernel
theorem f281_44 : aF 44 zM281.2.2.2.2.2.2.2 = some (44, (.getfield 194), 3, 12, 77) := by decide +kernel
theorem f281_47 : aF 47 zM281.2.2.2.2.2.2.2 = some (47, (.iload 6), 2, 0, 0) := by decide +kernel
theorem f281_49 : aF 49 zM281.2.2.2.2.2.2.2 = some (49, (.aload_n 0), 1, 0, 0) := by decide +kernel
theorem f281_50 : aF 50 zM281.2.2.2.2.2.2.2 = some (50, (.iload 6), 2, 0, 0) := by decide +kernel
theorem f281_52 : aF 52 zM281.2.2.2.2.2.2.2 = some (52, (.invokevirtual 316), 3, 202, 0) := by decide +kernel
theorem f281_55 : aF 55 zM281.2.2.2.2.2.2.2 = some (55, (.ifCond .eq 35), 3, 90, 0) := by decide +kernel
theorem f281_58 : aF 58 zM281.2.2.2.2.2.2.2 = some (58, (.aload_n 0), 1, 0, 0) := by decide +kernel
theorem f281_59 : aF 59 zM281.2.2.2.2.2.2.2 = some (59, (.getfield 13), 3, 12, 4) := by decide +kernel
theorem f281_62 : aF 62 zM281.2.2.2.2.2.2.2 = some (62, (.iload 6), 2, 0, 0) := by decide +kernel
theorem f281_64 : aF 64 zM281.2.2.2.2.2.2.2 = some (64, .iaload, 1, 0, 0) := by decide +kernel
theorem f281_65 : aF 65 zM281.2.2.2.2.2.2.2 = some (65, (.aload_n 0), 1, 0, 0) := by decide +kernel
theorem f281_66 : aF 66 zM281.2.2.2.2.2.2.2 = some (66, (.getfield 13), 3, 12, 4) := by decide +kernel
theorem f281_69 : aF 69 zM281.2.2.2.2.2.2.2 = some (69, (.iload_n 1), 1, 0, 0) := by decide +kernel
theorem f281_70 : aF 70 zM281.2.2.2.2.2.2.2 = some (70, .iaload, 1, 0, 0) := by decide +kernel
theorem f281_71 : aF 71 zM281.2.2.2.2.2.2.2 = some (71, (.if_icmp .ne 19), 3, 90, 0) := by decide +kernel
theorem f281_74 : aF 74 zM281.2.2.2.2.2.2.2 = some (74, (.aload_n 0), 1, 0, 0) := by decide +kernel
theorem f281_75 : aF 75 zM281.2.2.2.2.2.2.2 = some (75, (.iload 6), 2, 0, 0) := by decide +kernel
theorem f281_77 : aF 77 zM281.2.2.2.2.2.2.2 = some (77, (.iload_n 2), 1, 0, 0) := by decide +kernel
theorem f281_78 : aF 78 zM281.2.2.2.2.2.2.2 = some (78, (.aload_n 0), 1, 0, 0) := by decide +kernel
theorem f281_79 : aF 79 zM281.2.2.2.2.2.2.2 = some (79, (.getfield 262), 3, 12, 1) := by decide +kernel
theorem f281_82 : aF 82 zM281.2.2.2.2.2.2.2 = some (82, (.iconst (-1)), 1, 0, 0) := by decide +kernel
theorem f281_83 : aF 83 zM281.2.2.2.2.2.2.2 = some (83, (.invokevirtual 502), 3, 277, 0) := by decide +kernel
theorem f281_86 : aF 86 zM281.2.2.2.2.2.2.2 = some (86, .i2l, 1, 0, 0) := by decide +kernel
theorem f281_87 : aF 87 zM281.2.2.2.2.2.2.2 = some (87, (.goto 4), 3, 91, 0) := by decide +kernel
theorem f281_90 : aF 90 zM281.2.2.2.2.2.2.2 = some (90, (.lconst 0), 1, 0, 0) := by decide +kernel
theorem f281_91 : aF 91 zM281.2.2.2.2.2.2.2 = some (91, .lastore, 1, 0, 0) := by decide +kernel
theorem f281_92 : aF 92 zM281.2.2.2.2.2.2.2 = some (92, (.lload 4), 2, 0, 0) := by decide +kernel
theorem f281_94 : aF 94 zM281.2.2.2.2.2.2.2 = some (94, (.aload_n 0), 1, 0, 0) := by decide +kernel
theorem f281_95 : aF 95 zM281.2.2.2.2.2.2.2 = some (95, (.getfield 194), 3, 12, 77) := by decide +kernel
theorem f281_98 : aF 98 zM281.2.2.2.2.2.2.2 = some (98, (.iload 6), 2, 0, 0) := by decide +kernel
theorem f281_100 : aF 100 zM281.2.2.2.2.2.2.2 = some (100, .laload, 1, 0, 0) := by decide +kernel
theorem f281_101 : aF 101 zM281.2.2.2.2.2.2.2 = some (101, .ladd, 1, 0, 0) := by decide +kernel
theorem f281_102 : aF 102 zM281.2.2.2.2.2.2.2 = some (102, (.lstore 4), 2, 0, 0) := by decide +kernel
theorem f281_104 : aF 104 zM281.2.2.2.2.2.2.2 = some (104, (.iinc 6 1), 3, 0, 0) := by decide +kernel
theorem f281_107 : aF 107 zM281.2.2.2.2.2.2.2 = some (107, (.goto (-73)), 3, 34, 0) := by decide +kernel
theorem f281_110 : aF 110 zM281.2.2.2.2.2.2.2 = some (110, (.lload 4), 2, 0, 0) := by decide +kernel
theorem f281_112 : aF 112 zM281.2.2.2.2.2.2.2 = some (112, (.iload_n 3), 1, 0, 0) := by decide +kernel
theorem f281_113 : aF 113 zM281.2.2.2.2.2.2.2 = some (113, .i2l, 1, 0, 0) := by decide +kernel
theorem f281_114 : aF 114 zM281.2.2.2.2.2.2.2 = some (114, .lcmp, 1, 0, 0) := by decide +kernel
theorem f281_115 : aF 115 zM281.2.2.2.2.2.2.2 = some (115, (.ifCond .gt 11), 3, 126, 0) := by decide +kernel
theorem f281_118 : aF 118 zM281.2.2.2.2.2.2.2 = some (118, (.aload_n 0), 1, 0, 0) := by decide +kernel
theorem f281_119 : aF 119 zM281.2.2.2.2.2.2.2 = some (119, (.getfield 194), 3, 12, 77) := by decide +kernel
theorem f281_122 : aF 122 zM281.2.2.2.2.2.2.2 = some (122, (.iload_n 1), 1, 0, 0) := by decide +kernel
theorem f281_123 : aF 123 zM281.2.2.2.2.2.2.2 = some (123, .laload, 1, 0, 0) := by decide +kernel
theorem f281_124 : aF 124 zM281.2.2.2.2.2.2.2 = some (124, .l2i, 1, 0, 0) := by decide +kernel
theorem f281_125 : aF 125 zM281.2.2.2.2.2.2.2 = some (125, .ireturn, 1, 0, 0) := by decide +kernel
theorem f281_126 : aF 126 zM281.2.2.2.2.2.2.2 = some (126, (.iload_n 3), 1, 0, 0) := by decide +kernel
theorem f281_127 : aF 127 zM281.2.2.2.2.2.2.2 = some (127, .i2l, 1, 0, 0) := by decide +kernel
theorem f281_128 : aF 128 zM281.2.2.2.2.2.2.2 = some (128, (.lstore 6), 2, 0, 0) := by decide +kernel
theorem f281_130 : aF 130 zM281.2.2.2.2.2.2.2 = some (130, (.iconst 0), 1, 0, 0) := by decide +kernel
theorem f281_131 : aF 131 zM281.2.2.2.2.2.2.2 = some (131, (.istore 8), 2, 0, 0) := by decide +kernel
theorem f281_133 : aF 133 zM281.2.2.2.2.2.2.2 = some (133, (.iload 8), 2, 0, 0) := by decide +kernel
theorem f281_135 : aF 135 zM281.2.2.2.2.2.2.2 = some (135, (.aload_n 0), 1, 0, 0) := by decide +kernel
theorem f281_136 : aF 136 zM281.2.2.2.2.2.2.2 = some (136, (.getfield 265), 3, 12, 2) := by decide +kernel
theorem f281_139 : aF 139 zM281.2.2.2.2.2.2.2 = some (139, (.if_icmp .ge 41), 3, 180, 0) := by decide +kernel
theorem f281_142 : aF 142 zM281.2.2.2.2.2.2.2 = some (142, (.aload_n 0), 1, 0, 0) := by decide +kernel
theorem f281_143 : aF 143 zM281.2.2.2.2.2.2.2 = some (143, (.getfield 198), 3, 12, 78) := by decide +kernel
theorem f281_146 : aF 146 zM281.2.2.2.2.2.2.2 = some (146, (.iload 8), 2, 0, 0) := by decide +kernel
theorem f281_148 : aF 148 zM281.2.2.2.2.2.2.2 = some (148, (.iload_n 3), 1, 0, 0) := by decide +kernel
theorem f281_149 : aF 149 zM281.2.2.2.2.2.2.2 = some (149, .i2l, 1, 0, 0) := by decide +kernel
theorem f281_150 : aF 150 zM281.2.2.2.2.2.2.2 = some (150, (.aload_n 0), 1, 0, 0) := by decide +kernel
theorem f281_151 : aF 151 zM281.2.2.2.2.2.2.2 = some (151, (.getfield 194), 3, 12, 77) := by decide +kernel
theorem f281_154 : aF 154 zM281.2.2.2.2.2.2.2 = some (154, (.iload 8), 2, 0, 0) := by decide +kernel
theorem f281_156 : aF 156 zM281.2.2.2.2.2.2.2 = some (156, .laload, 1, 0, 0) := by decide +kernel
theorem f281_157 : aF 157 zM281.2.2.2.2.2.2.2 = some (157, .lmul, 1, 0, 0) := by decide +kernel
theorem f281_158 : aF 158 zM281.2.2.2.2.2.2.2 = some (158, (.lload 4), 2, 0, 0) := by decide +kernel
theorem f281_160 : aF 160 zM281.2.2.2.2.2.2.2 = some (160, .ldiv, 1, 0, 0) := by decide +kernel
theorem f281_161 : aF 161 zM281.2.2.2.2.2.2.2 = some (161, .lastore, 1, 0, 0) := by decide +kernel
theorem f281_162 : aF 162 zM281.2.2.2.2.2.2.2 = some (162, (.lload 6), 2, 0, 0) := by decide +kernel
theorem f281_164 : aF 164 zM281.2.2.2.2.2.2.2 = some (164, (.aload_n 0), 1, 0, 0) := by decide +kernel
theorem f281_165 : aF 165 zM281.2.2.2.2.2.2.2 = some (165, (.getfield 198), 3, 12, 78) := by decide +kernel
theorem f281_168 : aF 168 zM281.2.2.2.2.2.2.2 = some (168, (.iload 8), 2, 0, 0) := by decide +kernel
theorem f281_170 : aF 170 zM281.2.2.2.2.2.2.2 = some (170, .laload, 1, 0, 0) := by decide +kernel
theorem f281_171 : aF 171 zM281.2.2.2.2.2.2.2 = some (171, .lsub, 1, 0, 0) := by decide +kernel
theorem f281_172 : aF 172 zM281.2.2.2.2.2.2.2 = some (172, (.lstore 6), 2, 0, 0) := by decide +kernel
theorem f281_174 : aF 174 zM281.2.2.2.2.2.2.2 = some (174, (.iinc 8 1), 3, 0, 0) := by decide +kernel
theorem f281_177 : aF 177 zM281.2.2.2.2.2.2.2 = some (177, (.goto (-44)), 3, 133, 0) := by decide +kernel
theorem f281_180 : aF 180 zM281.2.2.2.2.2.2.2 = some (180, (.lload 6), 2, 0, 0) := by decide +kernel
theorem f281_182 : aF 182 zM281.2.2.2.2.2.2.2 = some (182, (.lconst 0), 1, 0, 0) := by decide +kernel
theorem f281_183 : aF 183 zM281.2.2.2.2.2.2.2 = some (183, .lcmp, 1, 0, 0) := by decide +kernel
theorem f281_184 : aF 184 zM281.2.2.2.2.2.2.2 = some (184, (.ifCond .le 122), 3, 306, 0) := by decide +kernel
theorem f281_187 : aF 187 zM281.2.2.2.2.2.2.2 = some (187, (.iconst (-1)), 1, 0, 0) := by decide +kernel
theorem f281_188 : aF 188 zM281.2.2.2.2.2.2.2 = some (188, (.istore 8), 2, 0, 0) := by decide +kernel
theorem f281_190 : aF 190 zM281.2.2.2.2.2.2.2 = some (190, (.iconst 0), 1, 0, 0) := by decide +kernel
theorem f281_191 : aF 191 zM281.2.2.2.2.2.2.2 = some (191, (.istore 9), 2, 0, 0) := by decide +kernel
theorem f281_193 : aF 193 zM281.2.2.2.2.2.2.2 = some (193, (.iload 9), 2, 0, 0) := by decide +kernel
theorem f281_195 : aF 195 zM281.2.2.2.2.2.2.2 = some (195, (.aload_n 0), 1, 0, 0) := by decide +kernel
theorem f281_196 : aF 196 zM281.2.2.2.2.2.2.2 = some (196, (.getfield 265), 3, 12, 2) := by decide +kernel
theorem f281_199 : aF 199 zM281.2.2.2.2.2.2.2 = some (199, (.if_icmp .ge 87), 3, 286, 0) := by decide +kernel
theorem f281_202 : aF 202 zM281.2.2.2.2.2.2.2 = some (202, (.aload_n 0), 1, 0, 0) := by decide +kernel
theorem f281_203 : aF 203 zM281.2.2.2.2.2.2.2 = some (203, (.getfield 194), 3, 12, 77) := by decide +kernel
theorem f281_206 : aF 206 zM281.2.2.2.2.2.2.2 = some (206, (.iload 9), 2, 0, 0) := by decide +kernel
theorem f281_208 : aF 208 zM281.2.2.2.2.2.2.2 = some (208, .laload, 1, 0, 0) := by decide +kernel
theorem f281_209 : aF 209 zM281.2.2.2.2.2.2.2 = some (209, (.lconst 0), 1, 0, 0) := by decide +kernel
theorem f281_210 : aF 210 zM281.2.2.2.2.2.2.2 = some (210, .lcmp, 1, 0, 0) := by decide +kernel
theorem f281_211 : aF 211 zM281.2.2.2.2.2.2.2 = some (211, (.ifCond .eq 69), 3, 280, 0) := by decide +kernel
theorem f281_214 : aF 214 zM281.2.2.2.2.2.2.2 = some (214, (.aload_n 0), 1, 0, 0) := by decide +kernel
theorem f281_215 : aF 215 zM281.2.2.2.2.2.2.2 = some (215, (.getfield 198), 3, 12, 78) := by decide +kernel
theorem f281_218 : aF 218 zM281.2.2.2.2.2.2.2 = some (218, (.iload 9), 2, 0, 0) := by decide +kernel
theorem f281_220 : aF 220 zM281.2.2.2.2.2.2.2 = some (220, .laload, 1, 0, 0) := by decide +kernel
theorem f281_221 : aF 221 zM281.2.2.2.2.2.2.2 = some (221, (.iload_n 3), 1, 0, 0) := by decide +kernel
theorem f281_222 : aF 222 zM281.2.2.2.2.2.2.2 = some (222, .i2l, 1, 0, 0) := by decide +kernel
theorem f281_223 : aF 223 zM281.2.2.2.2.2.2.2 = some (223, (.aload_n 0), 1, 0, 0) := by decide +kernel
theorem f281_224 : aF 224 zM281.2.2.2.2.2.2.2 = some (224, (.getfield 194), 3, 12, 77) := by decide +kernel
theorem f281_227 : aF 227 zM281.2.2.2.2.2.2.2 = some (227, (.iload 9), 2, 0, 0) := by decide +kernel
theorem f281_229 : aF 229 zM281.2.2.2.2.2.2.2 = some (229, .laload, 1, 0, 0) := by decide +kernel
theorem f281_230 : aF 230 zM281.2.2.2.2.2.2.2 = some (230, .lmul, 1, 0, 0) := by decide +kernel
theorem f281_231 : aF 231 zM281.2.2.2.2.2.2.2 = some (231, (.lload 4), 2, 0, 0) := by decide +kernel
theorem f281_233 : aF 233 zM281.2.2.2.2.2.2.2 = some (233, .ldiv, 1, 0, 0) := by decide +kernel
theorem f281_234 : aF 234 zM281.2.2.2.2.2.2.2 = some (234, .lcmp, 1, 0, 0) := by decide +kernel
theorem f281_235 : aF 235 zM281.2.2.2.2.2.2.2 = some (235, (.ifCond .le 6), 3, 241, 0) := by decide +kernel
theorem f281_238 : aF 238 zM281.2.2.2.2.2.2.2 = some (238, (.goto 42), 3, 280, 0) := by decide +kernel
theorem f281_241 : aF 241 zM281.2.2.2.2.2.2.2 = some (241, (.iload 8), 2, 0, 0) := by decide +kernel
theorem f281_243 : aF 243 zM281.2.2.2.2.2.2.2 = some (243, (.ifCond .lt 33), 3, 276, 0) := by decide +kernel
theorem f281_246 : aF 246 zM281.2.2.2.2.2.2.2 = some (246, (.iload_n 3), 1, 0, 0) := by decide +kernel
theorem f281_247 : aF 247 zM281.2.2.2.2.2.2.2 = some (247, .i2l, 1, 0, 0) := by decide +kernel
theorem f281_248 : aF 248 zM281.2.2.2.2.2.2.2 = some (248, (.aload_n 0), 1, 0, 0) := by decide +kernel
theorem f281_249 : aF 249 zM281.2.2.2.2.2.2.2 = some (249, (.getfield 194), 3, 12, 77) := by decide +kernel
theorem f281_252 : aF 252 zM281.2.2.2.2.2.2.2 = some (252, (.iload 9), 2, 0, 0) := by decide +kernel
theorem f281_254 : aF 254 zM281.2.2.2.2.2.2.2 = some (254, .laload, 1, 0, 0) := by decide +kernel
theorem f281_255 : aF 255 zM281.2.2.2.2.2.2.2 = some (255, .lmul, 1, 0, 0) := by decide +kernel
theorem f281_256 : aF 256 zM281.2.2.2.2.2.2.2 = some (256, (.lload 4), 2, 0, 0) := by decide +kernel
theorem f281_258 : aF 258 zM281.2.2.2.2.2.2.2 = some (258, .lrem, 1, 0, 0) := by decide +kernel
theorem f281_259 : aF 259 zM281.2.2.2.2.2.2.2 = some (259, (.iload_n 3), 1, 0, 0) := by decide +kernel
theorem f281_260 : aF 260 zM281.2.2.2.2.2.2.2 = some (260, .i2l, 1, 0, 0) := by decide +kernel
theorem f281_261 : aF 261 zM281.2.2.2.2.2.2.2 = some (261, (.aload_n 0), 1, 0, 0) := by decide +kernel
theorem f281_262 : aF 262 zM281.2.2.2.2.2.2.2 = some (262, (.getfield 194), 3, 12, 77) := by decide +kernel
theorem f281_265 : aF 265 zM281.2.2.2.2.2.2.2 = some (265, (.iload 8), 2, 0, 0) := by decide +kernel
theorem f281_267 : aF 267 zM281.2.2.2.2.2.2.2 = some (267, .laload, 1, 0, 0) := by decide +kernel
theorem f281_268 : aF 268 zM281.2.2.2.2.2.2.2 = some (268, .lmul, 1, 0, 0) := by decide +kernel
theorem f281_269 : aF 269 zM281.2.2.2.2.2.2.2 = some (269, (.lload 4), 2, 0, 0) := by decide +kernel
theorem f281_271 : aF 271 zM281.2.2.2.2.2.2.2 = some (271, .lrem, 1, 0, 0) := by decide +kernel
theorem f281_272 : aF 272 zM281.2.2.2.2.2.2.2 = some (272, .lcmp, 1, 0, 0) := by decide +kernel
theorem f281_273 : aF 273 zM281.2.2.2.2.2.2.2 = some (273, (.ifCond .le 7), 3, 280, 0) := by decide +kernel
theorem f281_276 : aF 276 zM281.2.2.2.2.2.2.2 = some (276, (.iload 9), 2, 0, 0) := by decide +kernel
theorem f281_278 : aF 278 zM281.2.2.2.2.2.2.2 = some (278, (.istore 8), 2, 0, 0) := by decide +kernel
theorem f281_280 : aF 280 zM281.2.2.2.2.2.2.2 = some (280, (.iinc 9 1), 3, 0, 0) := by decide +kernel
theorem f281_283 : aF 283 zM281.2.2.2.2.2.2.2 = some (283, (.goto (-90)), 3, 193, 0) := by decide +kernel
theorem f281_286 : aF 286 zM281.2.2.2.2.2.2.2 = some (286, (.aload_n 0), 1, 0, 0) := by decide +kernel
theorem f281_287 : aF 287 zM281.2.2.2.2.2.2.2 = some (287, (.getfield 198), 3, 12, 78) := by decide +kernel
theorem f281_290 : aF 290 zM281.2.2.2.2.2.2.2 = some (290, (.iload 8), 2, 0, 0) := by decide +kernel
theorem f281_292 : aF 292 zM281.2.2.2.2.2.2.2 = some (292, .dup2, 1, 0, 0) := by decide +kernel
theorem f281_293 : aF 293 zM281.2.2.2.2.2.2.2 = some (293, .laload, 1, 0, 0) := by decide +kernel
theorem f281_294 : aF 294 zM281.2.2.2.2.2.2.2 = some (294, (.lconst 1), 1, 0, 0) := by decide +kernel
theorem f281_295 : aF 295 zM281.2.2.2.2.2.2.2 = some (295, .ladd, 1, 0, 0) := by decide +kernel
theorem f281_296 : aF 296 zM281.2.2.2.2.2.2.2 = some (296, .lastore, 1, 0, 0) := by decide +kernel
theorem f281_297 : aF 297 zM281.2.2.2.2.2.2.2 = some (297, (.lload 6), 2, 0, 0) := by decide +kernel
theorem f281_299 : aF 299 zM281.2.2.2.2.2.2.2 = some (299, (.lconst 1), 1, 0, 0) := by decide +kernel
theorem f281_300 : aF 300 zM281.2.2.2.2.2.2.2 = some (300, .lsub, 1, 0, 0) := by decide +kernel
theorem f281_301 : aF 301 zM281.2.2.2.2.2.2.2 = some (301, (.lstore 6), 2, 0, 0) := by decide +kernel
theorem f281_303 : aF 303 zM281.2.2.2.2.2.2.2 = some (303, (.goto (-123)), 3, 180, 0) := by decide +kernel
theorem f281_306 : aF 306 zM281.2.2.2.2.2.2.2 = some (306, (.aload_n 0), 1, 0, 0) := by decide +kernel
theorem f281_307 : aF 307 zM281.2.2.2.2.2.2.2 = some (307, (.getfield 198), 3, 12, 78) := by decide +kernel
theorem f281_310 : aF 310 zM281.2.2.2.2.2.2.2 = some (310, (.iload_n 1), 1, 0, 0) := by decide +kernel
theorem f281_311 : aF 311 zM281.2.2.2.2.2.2.2 = some (311, .laload, 1, 0, 0) := by decide +kernel
theorem f281_312 : aF 312 zM281.2.2.2.2.2.2.2 = some (312, .l2i, 1, 0, 0) := by decide +kernel
theorem f281_313 : aF 313 zM281.2.2.2.2.2.2.2 = some (313, .ireturn, 1, 0, 0) := by decide +kernel
theorem updL_s {f : Nat → Int64} {k : Nat} {x : Int64} : vp_updL f k x k = x := by unfold vp_updL; rw [if_pos rfl]
theorem updL_n {f : Nat → Int64} {k j : Nat} {x : Int64} (h : j ≠ k) : vp_updL f k x j = f j := by unfold vp_updL; rw [if_neg h]
theorem isBody_wp {X : aX} {h : aH} {x nb : Int32} {fs : List Value} (c72 : h.1[72]? = some (.inr (12, fs))) (F72_2 : fs[2]? = some (.int nb)) (n0 : 0 ≤ nb.toInt) (n1 : nb.toInt ≤ 150) : Wp X 1 zM200 (fun v h' => h = h' ∧ ∃ r : Int32, v = some (.int r) ∧ (r.toInt = 0 ∨ r.toInt = 1) ∧ (r.toInt = 1 → 0 ≤ x.toInt ∧ x.toInt < nb.toInt)) 0 [some (.ref 72), some (.int x)] [] h := by
  refine wp1 (fun n d => r_iloadn f200_0 rfl) ?_
  refine w_iconst f200_1 (fun v1 hv1 => ?_)
  refine wp1 (fun n d => r_aloadn f200_2 rfl) ?_
  refine w_get f200_3 c72 F72_2 ?_
  refine w_iconst f200_6 (fun v6 hv6 => ?_)
  refine w_isub f200_7 (by omega) (by omega) (fun v7 hv7 => ?_)
  refine wp_in (lv := 0) (Y := zM196) (in_wp) (fun n d v h' e => r_stat (as := [.int x, .int v1, .int v7]) (r := []) f200_8 rfl (show zmt[196]? = some zM196 from rfl) rfl rfl rfl rfl rfl rfl e) (by first | decide | omega) ?_
  rintro v h' ⟨rfl, v8, rfl, z, r⟩
  show Wp _ _ _ _ 11 [some (.ref 72), some (.int x)] [.int v8] _
  refine wp_end (fun n d => r_zreturn f200_11 rfl (z.elim (fun q => Or.inl (b_i.mpr q)) (fun q => Or.inr (b_i.mpr q)))) ⟨rfl, _, rfl, z, fun q => ?_⟩
  have := r q
  omega
theorem isFarm_wp {X : aX} (GU : dGood X cC314) {σ : List Nat} {h : aH} (I : dI σ h) {x nb : Int32} {fs : List Value} (c72 : h.1[72]? = some (.inr (12, fs))) (F72_2 : fs[2]? = some (.int nb)) (n0 : 0 ≤ nb.toInt) (n1 : nb.toInt ≤ 150) : Wp X 2 zM202 (fun v h' => (∃ σ', dI σ' h' ∧ dG [] σ h σ' h') ∧ ∃ r : Int32, v = some (.int r) ∧ (r.toInt = 0 ∨ r.toInt = 1) ∧ (r.toInt = 1 → 0 ≤ x.toInt ∧ x.toInt < nb.toInt)) 0 [some (.ref 72), some (.int x)] [] h := by
  refine wp1 (fun n d => r_aloadn f202_0 rfl) ?_
  refine wp1 (fun n d => r_iloadn f202_1 rfl) ?_
  refine wp_in (lv := 1) (Y := zM200) (isBody_wp (x := x) c72 F72_2 n0 n1) (fun n d v h' e => r_virt (as := [.int x]) (r := []) f202_2 c72 (show zmt[200]? = some zM200 from rfl) rfl rfl rfl rfl rfl rfl e) (by decide) ?_
  rintro v h' ⟨rfl, vb, rfl, z, r⟩
  show Wp _ _ _ _ 5 [some (.ref 72), some (.int x)] [.int vb] _
  have kf : Wp X 2 zM202 (fun v h' => (∃ σ', dI σ' h' ∧ dG [] σ h σ' h') ∧ ∃ r : Int32, v = some (.int r) ∧ (r.toInt = 0 ∨ r.toInt = 1) ∧ (r.toInt = 1 → 0 ≤ x.toInt ∧ x.toInt < nb.toInt)) 25 [some (.ref 72), some (.int x)] [] h := by
    refine w_iconst f202_25 (fun v25 hv25 => ?_)
    exact wp_end (fun n d => r_zreturn f202_26 rfl (Or.inl (b_i.mpr hv25))) ⟨⟨σ, I, dG_refl _ _ _⟩, _, rfl, Or.inl hv25, fun e => by omega⟩
  refine w_if_eq f202_5 (fun e5 => kf) (fun e5 => ?_)
  have hb := r (by omega)
  refine wp1 (fun n d => r_aloadn f202_8 rfl) ?_
  have F1001 := hI_r I c72 (f := 3) (q := 73) (by decide +kernel)
  refine w_get f202_9 c72 F1001 ?_
  refine wp1 (fun n d => r_iloadn f202_12 rfl) ?_
  obtain ⟨g1002, c1002, R1002⟩ := hI_a I (r := 73) (a := 0) (n := 150) (lo := 0) (hi := 7) (by decide +kernel)
  refine w_iald f202_13 c1002 (by omega) (by omega) (fun v13 hv13 => ?_)
  have bv13 := R1002 x.toInt.toNat (by omega)
  rw [← hv13] at bv13
  refine w_iconst f202_14 (fun v14 hv14 => ?_)
  refine wp_good GU (Y := zM201) (show zmt[201]? = some zM201 from rfl) I (ρ := [0, v13.toInt, v14.toInt]) (dK_v (kV_of rfl ⟨⟨by decide, by decide⟩, iR v13, iR v14, trivial⟩)) (dL_of (l := [some (.int v13), some (.int v14)]) ⟨lw_i rfl, lw_i rfl, trivial⟩) (fun n d v h' e => r_stat (as := [.int v13, .int v14]) (r := []) f202_15 rfl (show zmt[201]? = some zM201 from rfl) rfl rfl rfl rfl rfl rfl e) (by first | decide | (show 0 + 1 ≤ _; omega)) (fun v h1003 σ1003 I1003 G1003 P1003 => ?_)
  obtain ⟨v15, rfl, p15, q15⟩ := rpost_i P1003 rfl
  have p15 : 0 ≤ v15.toInt := p15
  have q15 : v15.toInt ≤ 1 := q15
  show Wp _ _ _ _ 18 [some (.ref 72), some (.int x)] [.int v15] _
  obtain ⟨fs1004, c1004, df1004⟩ := dG_o I.1 G1003 c72 (by decide)
  have F1005 := (df1004 2 rfl).trans F72_2
  have F1006 := (df1004 3 rfl).trans F1001
  have c1007 := dG_a I.1 G1003 c1002 (by decide) rfl
  refine w_if_eq f202_18 (fun _ => ?_) (fun e18 => ?_)
  · refine w_iconst f202_25 (fun v25 hv25 => ?_)
    exact wp_end (fun n d => r_zreturn f202_26 rfl (Or.inl (b_i.mpr hv25))) ⟨⟨_, I1003, (dG_sub (by decide) G1003)⟩, _, rfl, Or.inl hv25, fun e => by omega⟩
  · refine w_iconst f202_21 (fun v21 hv21 => ?_)
    refine wp1 (fun n d => r_goto f202_22) ?_
    exact wp_end (fun n d => r_zreturn f202_26 rfl (Or.inr (b_i.mpr hv21))) ⟨⟨_, I1003, (dG_sub (by decide) G1003)⟩, _, rfl, Or.inr hv21, fun _ => hb⟩
theorem budA {X : aX} {D : Nat} (G2 : dGood X cC302) (GP : dGood X cC184) (hD : 10 ≤ D) {Q : Option Value → aH → Prop} {x1 x2 x3 nb : Int32} {u7 u8 u9 : Option Value} (f0 : 0 ≤ x1.toInt) (f1 : x1.toInt ≤ 149) (y0 : 0 ≤ x2.toInt) (y1 : x2.toInt ≤ 9) (n0 : 0 ≤ nb.toInt) (n1 : nb.toInt ≤ 150) : ∀ (k : Nat) (x4 : Int64) (x6 : Int32) (σ : List Nat) (h : aH) (fs : List Value) (gw : Nat → Int64), (nb.toInt - x6.toInt).toNat = k → 0 ≤ x6.toInt → x6.toInt ≤ nb.toInt → dI σ h → h.1[130]? = some (.inl (1, 150, .inr (.inl gw))) → h.1[72]? = some (.inr (12, fs)) → fs[2]? = some (.int nb) → (∀ j, j < x6.toInt.toNat → -2147483648 ≤ (gw j).toInt ∧ (gw j).toInt ≤ 2147483647) → x4.toInt = sumN (fun j => (gw j).toInt) x6.toInt.toNat →
    (∀ (σ' : List Nat) (h' : aH) (gw' : Nat → Int64) (x4' : Int64) (x6' : Int32), dI σ' h' → dG cC194.2.2.1 σ h σ' h' → h'.1[130]? = some (.inl (1, 150, .inr (.inl gw'))) → (∀ j, j < nb.toInt.toNat → -2147483648 ≤ (gw' j).toInt ∧ (gw' j).toInt ≤ 2147483647) → x4'.toInt = sumN (fun j => (gw' j).toInt) nb.toInt.toNat → Wp X D zM281 Q 110 [some (.ref 72), some (.int x1), some (.int x2), some (.int x3), some (.long x4'), none, some (.int x6'), u7, u8, u9] [] h') → Wp X D zM281 Q 34 [some (.ref 72), some (.int x1), some (.int x2), some (.int x3), some (.long x4), none, some (.int x6), u7, u8, u9] [] h := by
  intro k
  induction k with
  | zero =>
    intro x4 x6 σ h fs gw hk a0 a1 I c130 c72 F72_2 hb hs kq
    refine wp1 (fun n d => r_iload f281_34 rfl) ?_
    refine wp1 (fun n d => r_aloadn f281_36 rfl) ?_
    refine w_get f281_37 c72 F72_2 ?_
    refine w_icmp_ge f281_40 (fun e => kq σ h gw x4 x6 I (dG_refl _ _ _) c130 ?_ ?_) (fun e => absurd e (by omega))
    · rw [show nb.toInt.toNat = x6.toInt.toNat by omega]; exact hb
    · rw [show nb.toInt.toNat = x6.toInt.toNat by omega]; exact hs
  | succ k ih =>
    intro x4 x6 σ h fs gw hk a0 a1 I c130 c72 F72_2 hb hs kq
    have sb := sumN_bd (f := fun j => (gw j).toInt) (B := 2147483648) x6.toInt.toNat (fun j hj => by have := hb j hj; omega)
    refine wp1 (fun n d => r_iload f281_34 rfl) ?_
    refine wp1 (fun n d => r_aloadn f281_36 rfl) ?_
    refine w_get f281_37 c72 F72_2 ?_
    refine w_icmp_ge f281_40 (fun e40 => absurd e40 (by omega)) (fun e40 => ?_)
    have k91 : ∀ (σ1 : List Nat) (h1 : aH) (z : Int64), dI σ1 h1 → dG cC194.2.2.1 σ h σ1 h1 → h1.1[130]? = some (.inl (1, 150, .inr (.inl gw))) → -2147483648 ≤ z.toInt → z.toInt ≤ 2147483647 → Wp X D zM281 Q 91 [some (.ref 72), some (.int x1), some (.int x2), some (.int x3), some (.long x4), none, some (.int x6), u7, u8, u9] [.long z, .int x6, .ref 130] h1 := by
      intro σ1 h1 z I1 G1 d130 z0 z1
      obtain ⟨fs1, d72, dfs⟩ := dG_o I.1 G1 c72 (by decide)
      have E72_2 := (dfs 2 rfl).trans F72_2
      refine w_lastI f281_91 d130 (by omega) (by omega) I1 (W := cC194.2.2.1) (lo := (-9223372036854775808)) (hi := 9223372036854775807) (by decide +kernel) (by decide) (jR z).1 (jR z).2 (fun h1001 I1001 G1001 c1001 ne1001 => ?_)
      obtain ⟨g1001, hg1001⟩ : ∃ g', g' = vp_updL gw x6.toInt.toNat z := ⟨_, rfl⟩
      rw [← hg1001] at c1001
      have c1002 := (ne1001 72 (by decide)).trans d72
      refine wp1 (fun n d => r_lload f281_92 rfl) ?_
      refine wp1 (fun n d => r_aloadn f281_94 rfl) ?_
      have F1003 := hI_r I1001 c1002 (f := 77) (q := 130) (by decide +kernel)
      refine w_get f281_95 c1002 F1003 ?_
      refine wp1 (fun n d => r_iload f281_98 rfl) ?_
      refine w_lald f281_100 c1001 (by omega) (by omega) (fun v100 hv100 => ?_)
      have hz : v100.toInt = z.toInt := by rw [hv100, hg1001, updL_s]
      refine w_ladd f281_101 (by omega) (by omega) (fun v101 hv101 => ?_)
      refine wp1 (fun n d => r_lstore (L' := [some (.ref 72), some (.int x1), some (.int x2), some (.int x3), some (.long v101), none, some (.int x6), u7, u8, u9]) f281_102 rfl rfl) ?_
      refine w_iinc f281_104 rfl (by omega) (by omega) (fun v104 hv104 => ?_)
      show Wp _ _ _ _ 107 [some (.ref 72), some (.int x1), some (.int x2), some (.int x3), some (.long v101), none, some (.int v104), u7, u8, u9] [] _
      refine wp1 (fun n d => r_goto f281_107) ?_
      have e1 : v104.toInt.toNat = x6.toInt.toNat + 1 := by omega
      refine ih v101 v104 σ1 h1001 fs1 g1001 (by omega) (by omega) (by omega) I1001 c1001 c1002 E72_2 ?_ ?_ (fun σ' h' g' y4 y6 I' G' => kq σ' h' g' y4 y6 I' (dG_trans (dG_trans G1 G1001) G'))
      · rw [e1]
        intro j hj
        rw [hg1001]
        by_cases e : j = x6.toInt.toNat
        · subst e; rw [updL_s]; exact ⟨z0, z1⟩
        · rw [updL_n e]; exact hb j (by omega)
      · rw [e1]
        show _ = sumN (fun j => (g1001 j).toInt) x6.toInt.toNat + (g1001 x6.toInt.toNat).toInt
        rw [sumN_congr x6.toInt.toNat (f := fun j => (g1001 j).toInt) (g := fun j => (gw j).toInt) (fun j hj => by rw [hg1001, updL_n (by omega)]), hg1001, updL_s, ← hs]
        omega
    refine wp1 (fun n d => r_aloadn f281_43 rfl) ?_
    have F1001 := hI_r I c72 (f := 77) (q := 130) (by decide +kernel)
    refine w_get f281_44 c72 F1001 ?_
    refine wp1 (fun n d => r_iload f281_47 rfl) ?_
    refine wp1 (fun n d => r_aloadn f281_49 rfl) ?_
    refine wp1 (fun n d => r_iload f281_50 rfl) ?_
    refine wp_good G2 (Y := zM202) (show zmt[202]? = some zM202 from rfl) I (ρ := [0, x6.toInt]) (dK_v (kV_of rfl ⟨⟨by decide, by decide⟩, ⟨by show (0 : Int) ≤ _; omega, by show _ ≤ (149 : Int); omega⟩, trivial⟩)) (dL_of (l := [some (.ref 72), some (.int x6)]) ⟨lw_r (by decide), lw_i rfl, trivial⟩) (fun n d v h' e => r_virt (as := [.int x6]) (r := [.int x6, .ref 130]) f281_52 c72 (show zmt[202]? = some zM202 from rfl) rfl rfl rfl rfl rfl rfl e) (by first | decide | (show 2 + 1 ≤ _; omega)) (fun v h1002 σ1002 I1002 G1002 P1002 => ?_)
    obtain ⟨v52, rfl, p52, q52⟩ := rpost_i P1002 rfl
    have p52 : 0 ≤ v52.toInt := p52
    have q52 : v52.toInt ≤ 1 := q52
    show Wp _ _ _ _ 55 [some (.ref 72), some (.int x1), some (.int x2), some (.int x3), some (.long x4), none, some (.int x6), u7, u8, u9] [.int v52, .int x6, .ref 130] _
    obtain ⟨fs1003, c1003, df1003⟩ := dG_o I.1 G1002 c72 (by decide)
    have F1004 := (df1003 2 rfl).trans F72_2
    have F1005 := (df1003 77 rfl).trans F1001
    have c1006 := dG_a I.1 G1002 c130 (by decide) rfl
    have k90 : ∀ (σ1 : List Nat) (h1 : aH), dI σ1 h1 → dG cC194.2.2.1 σ h σ1 h1 → h1.1[130]? = some (.inl (1, 150, .inr (.inl gw))) → Wp X D zM281 Q 90 [some (.ref 72), some (.int x1), some (.int x2), some (.int x3), some (.long x4), none, some (.int x6), u7, u8, u9] [.int x6, .ref 130] h1 := by
      intro σ1 h1 I1 G1 d130
      refine w_lconst f281_90 (fun v hv => ?_)
      have hv : v.toInt = 0 := hv
      exact k91 σ1 h1 v I1 G1 d130 (by omega) (by omega)
    refine w_if_eq f281_55 (fun e55 => k90 _ _ I1002 (dG_sub (by decide) G1002) c1006) (fun e55 => ?_)
    refine wp1 (fun n d => r_aloadn f281_58 rfl) ?_
    have F1007 := hI_r I1002 c1003 (f := 4) (q := 74) (by decide +kernel)
    refine w_get f281_59 c1003 F1007 ?_
    refine wp1 (fun n d => r_iload f281_62 rfl) ?_
    obtain ⟨g1008, c1008, R1008⟩ := hI_a I1002 (r := 74) (a := 0) (n := 150) (lo := 0) (hi := 3) (by decide +kernel)
    refine w_iald f281_64 c1008 (by omega) (by omega) (fun v64 hv64 => ?_)
    have bv64 := R1008 x6.toInt.toNat (by omega)
    rw [← hv64] at bv64
    refine wp1 (fun n d => r_aloadn f281_65 rfl) ?_
    refine w_get f281_66 c1003 F1007 ?_
    refine wp1 (fun n d => r_iloadn f281_69 rfl) ?_
    refine w_iald f281_70 c1008 (by omega) (by omega) (fun v70 hv70 => ?_)
    have bv70 := R1008 x1.toInt.toNat (by omega)
    rw [← hv70] at bv70
    refine w_icmp_ne f281_71 (fun e71 => k90 _ _ I1002 (dG_sub (by decide) G1002) c1006) (fun e71 => ?_)
    refine wp1 (fun n d => r_aloadn f281_74 rfl) ?_
    refine wp1 (fun n d => r_iload f281_75 rfl) ?_
    refine wp1 (fun n d => r_iloadn f281_77 rfl) ?_
    refine wp1 (fun n d => r_aloadn f281_78 rfl) ?_
    obtain ⟨x1_1009, F1009, lo1009, hi1009⟩ := hI_i I1002 c1003 (f := 1) (lo := 0) (hi := 3649) (by decide +kernel)
    refine w_get f281_79 c1003 F1009 ?_
    refine w_iconst f281_82 (fun v82 hv82 => ?_)
    refine wp_good GP (Y := zM277) (show zmt[277]? = some zM277 from rfl) I1002 (ρ := [0, x6.toInt, x2.toInt, x1_1009.toInt]) (dK_v (kV_of rfl ⟨⟨by decide, by decide⟩, ⟨by show (0 : Int) ≤ _; omega, by show _ ≤ (149 : Int); omega⟩, ⟨by show (0 : Int) ≤ _; omega, by show _ ≤ (9 : Int); omega⟩, ⟨by show (0 : Int) ≤ _; omega, by show _ ≤ (3649 : Int); omega⟩, trivial⟩)) (dL_of (l := [some (.ref 72), some (.int x6), some (.int x2), some (.int x1_1009), some (.int v82), none, none, none, none, none, none, none, none]) ⟨lw_r (by decide), lw_i rfl, lw_i rfl, lw_i rfl, lw_c rfl (by show _ = ((-1) : Int); omega), lw_0, lw_0, lw_0, lw_0, lw_0, lw_0, lw_0, lw_0, trivial⟩) (fun n d v h' e => r_virt (as := [.int x6, .int x2, .int x1_1009, .int v82]) (r := [.int x6, .ref 130]) f281_83 c1003 (show zmt[277]? = some zM277 from rfl) rfl rfl rfl rfl rfl rfl e) (by first | decide | (show 9 + 1 ≤ _; omega)) (fun v h1010 σ1010 I1010 G1010 P1010 => ?_)
    obtain ⟨v83, rfl, p83, q83⟩ := rpost_i P1010 rfl
    have p83 : (-2147483648) ≤ v83.toInt := p83
    have q83 : v83.toInt ≤ 2147483647 := q83
    show Wp _ _ _ _ 86 [some (.ref 72), some (.int x1), some (.int x2), some (.int x3), some (.long x4), none, some (.int x6), u7, u8, u9] [.int v83, .int x6, .ref 130] _
    obtain ⟨fs1011, c1011, df1011⟩ := dG_o I1002.1 G1010 c1003 (by decide)
    have F1012 := (df1011 2 rfl).trans F1004
    have F1013 := (df1011 77 rfl).trans F1005
    have F1014 := (df1011 4 rfl).trans F1007
    have F1015 := (df1011 1 rfl).trans F1009
    have c1016 := dG_a I1002.1 G1010 c1006 (by decide) rfl
    have c1017 := dG_a I1002.1 G1010 c1008 (by decide) rfl
    refine w_i2l f281_86 (fun v86 hv86 => ?_)
    refine wp1 (fun n d => r_goto f281_87) ?_
    exact k91 _ _ v86 I1010 (dG_trans (dG_sub (by decide) G1002) (dG_sub (by decide) G1010)) c1016 (by omega) (by omega)
theorem budB {X : aX} {D : Nat} {Q : Option Value → aH → Prop} {x1 x2 x3 nb : Int32} {x4 : Int64} {u9 : Option Value} {gw : Nat → Int64} (v0 : 0 ≤ x3.toInt) (v1 : x3.toInt ≤ 2000000000) (t0 : 1 ≤ x4.toInt) (n0 : 0 ≤ nb.toInt) (n1 : nb.toInt ≤ 150) (hb : ∀ j, j < nb.toInt.toNat → -2147483648 ≤ (gw j).toInt ∧ (gw j).toInt ≤ 2147483647) : ∀ (k : Nat) (x6 : Int64) (x8 : Int32) (σ : List Nat) (h : aH) (fs : List Value) (gg : Nat → Int64), (nb.toInt - x8.toInt).toNat = k → 0 ≤ x8.toInt → x8.toInt ≤ nb.toInt → dI σ h → h.1[130]? = some (.inl (1, 150, .inr (.inl gw))) → h.1[131]? = some (.inl (1, 150, .inr (.inl gg))) → h.1[72]? = some (.inr (12, fs)) → fs[2]? = some (.int nb) → (∀ j, j < x8.toInt.toNat → (gg j).toInt = ((x3.toInt * (gw j).toInt).tdiv x4.toInt)) → x6.toInt = (x3.toInt - sumN (fun j => ((x3.toInt * (gw j).toInt).tdiv x4.toInt)) x8.toInt.toNat).bmod (2 ^ 64) →
    (∀ (h' : aH) (gg' : Nat → Int64) (x6' : Int64) (x8' : Int32), dI σ h' → dG cC194.2.2.1 σ h σ h' → h'.1[130]? = some (.inl (1, 150, .inr (.inl gw))) → h'.1[131]? = some (.inl (1, 150, .inr (.inl gg'))) → (∀ j, j < nb.toInt.toNat → (gg' j).toInt = ((x3.toInt * (gw j).toInt).tdiv x4.toInt)) → x6'.toInt = (x3.toInt - sumN (fun j => ((x3.toInt * (gw j).toInt).tdiv x4.toInt)) nb.toInt.toNat).bmod (2 ^ 64) → Wp X D zM281 Q 180 [some (.ref 72), some (.int x1), some (.int x2), some (.int x3), some (.long x4), none, some (.long x6'), none, some (.int x8'), u9] [] h') → Wp X D zM281 Q 133 [some (.ref 72), some (.int x1), some (.int x2), some (.int x3), some (.long x4), none, some (.long x6), none, some (.int x8), u9] [] h := by
  intro k
  induction k with
  | zero =>
    intro x6 x8 σ h fs gg hk a0 a1 I c130 c131 c72 F72_2 hq hs kq
    refine wp1 (fun n d => r_iload f281_133 rfl) ?_
    refine wp1 (fun n d => r_aloadn f281_135 rfl) ?_
    refine w_get f281_136 c72 F72_2 ?_
    refine w_icmp_ge f281_139 (fun e => kq h gg x6 x8 I (dG_refl _ _ _) c130 c131 ?_ ?_) (fun e => absurd e (by omega))
    · rw [show nb.toInt.toNat = x8.toInt.toNat by omega]; exact hq
    · rw [show nb.toInt.toNat = x8.toInt.toNat by omega]; exact hs
  | succ k ih =>
    intro x6 x8 σ h fs gg hk a0 a1 I c130 c131 c72 F72_2 hq hs kq
    have hbj := hb x8.toInt.toNat (by omega)
    have mb := mul_bd (v := x3.toInt) (w := (gw x8.toInt.toNat).toInt) (A := 2000000000) (B := 2147483648) v0 v1 (by omega) (by omega) (by omega)
    refine wp1 (fun n d => r_iload f281_133 rfl) ?_
    refine wp1 (fun n d => r_aloadn f281_135 rfl) ?_
    refine w_get f281_136 c72 F72_2 ?_
    refine w_icmp_ge f281_139 (fun e139 => absurd e139 (by omega)) (fun e139 => ?_)
    refine wp1 (fun n d => r_aloadn f281_142 rfl) ?_
    have F1001 := hI_r I c72 (f := 78) (q := 131) (by decide +kernel)
    refine w_get f281_143 c72 F1001 ?_
    refine wp1 (fun n d => r_iload f281_146 rfl) ?_
    refine wp1 (fun n d => r_iloadn f281_148 rfl) ?_
    refine w_i2l f281_149 (fun v149 hv149 => ?_)
    refine wp1 (fun n d => r_aloadn f281_150 rfl) ?_
    have F1002 := hI_r I c72 (f := 77) (q := 130) (by decide +kernel)
    refine w_get f281_151 c72 F1002 ?_
    refine wp1 (fun n d => r_iload f281_154 rfl) ?_
    refine w_lald f281_156 c130 (by omega) (by omega) (fun v156 hv156 => ?_)
    rw [← hv156, ← hv149] at mb
    refine w_lmul f281_157 (by omega) (by omega) (fun v157 hv157 => ?_)
    refine wp1 (fun n d => r_lload f281_158 rfl) ?_
    refine w_ldivt f281_160 t0 (fun v160 hv160 => ?_)
    have hq8 : v160.toInt = (x3.toInt * (gw x8.toInt.toNat).toInt).tdiv x4.toInt := by rw [hv160, hv157, hv149, hv156]
    have jv := jR v160
    refine w_lastI f281_161 c131 (by omega) (by omega) I (W := cC194.2.2.1) (lo := (-9223372036854775808)) (hi := 9223372036854775807) (by decide +kernel) (by decide) (jR v160).1 (jR v160).2 (fun h1003 I1003 G1003 c1003 ne1003 => ?_)
    obtain ⟨g1003, hg1003⟩ : ∃ g', g' = vp_updL gg x8.toInt.toNat v160 := ⟨_, rfl⟩
    rw [← hg1003] at c1003
    have c1004 := (ne1003 72 (by decide)).trans c72
    have c1005 := (ne1003 130 (by decide)).trans c130
    refine wp1 (fun n d => r_lload f281_162 rfl) ?_
    refine wp1 (fun n d => r_aloadn f281_164 rfl) ?_
    refine w_get f281_165 c1004 F1001 ?_
    refine wp1 (fun n d => r_iload f281_168 rfl) ?_
    refine w_lald f281_170 c1003 (by omega) (by omega) (fun v170 hv170 => ?_)
    have hz : v170.toInt = v160.toInt := by rw [hv170, hg1003, updL_s]
    refine w_lsubm f281_171 (fun v171 hv171 => ?_)
    refine wp1 (fun n d => r_lstore (L' := [some (.ref 72), some (.int x1), some (.int x2), some (.int x3), some (.long x4), none, some (.long v171), none, some (.int x8), u9]) f281_172 rfl rfl) ?_
    refine w_iinc f281_174 rfl (by omega) (by omega) (fun v174 hv174 => ?_)
    show Wp _ _ _ _ 177 [some (.ref 72), some (.int x1), some (.int x2), some (.int x3), some (.long x4), none, some (.long v171), none, some (.int v174), u9] [] _
    refine wp1 (fun n d => r_goto f281_177) ?_
    have e1 : v174.toInt.toNat = x8.toInt.toNat + 1 := by omega
    refine ih v171 v174 σ h1003 fs g1003 (by omega) (by omega) (by omega) I1003 c1005 c1003 c1004 F72_2 ?_ ?_ (fun h' g' y6 y8 I' G' => kq h' g' y6 y8 I' (dG_trans G1003 G'))
    · rw [e1]
      intro j hj
      rw [hg1003]
      by_cases e : j = x8.toInt.toNat
      · subst e; rw [updL_s]; exact hq8
      · rw [updL_n e]; exact hq j (by omega)
    · rw [e1, hv171, hs, hz, hq8, Int.bmod_sub_bmod]
      show _ = (x3.toInt - (sumN (fun j => ((x3.toInt * (gw j).toInt).tdiv x4.toInt)) x8.toInt.toNat + (x3.toInt * (gw x8.toInt.toNat).toInt).tdiv x4.toInt)).bmod (2 ^ 64)
      rw [Int.sub_sub]
def pB (v all : Int) (gw gg : Nat → Int64) (j : Nat) : Bool := decide ((gw j).toInt ≠ 0) && decide ((gg j).toInt ≤ (v * (gw j).toInt).tdiv all)
theorem pB_1 {v all : Int} {gw gg : Nat → Int64} {j : Nat} (h1 : (gw j).toInt ≠ 0) (h2 : (gg j).toInt ≤ (v * (gw j).toInt).tdiv all) : pB v all gw gg j = true := by
  unfold pB
  rw [Bool.and_eq_true, decide_eq_true_eq, decide_eq_true_eq]
  exact ⟨h1, h2⟩
theorem pB_0 {v all : Int} {gw gg : Nat → Int64} {j : Nat} (h : (gw j).toInt = 0 ∨ (v * (gw j).toInt).tdiv all < (gg j).toInt) : pB v all gw gg j = false := by
  cases e : pB v all gw gg j with
  | false => rfl
  | true =>
    unfold pB at e
    rw [Bool.and_eq_true, decide_eq_true_eq, decide_eq_true_eq] at e
    rcases h with q | q
    · exact absurd q e.1
    · omega
theorem budD {X : aX} {D : Nat} {Q : Option Value → aH → Prop} {x1 x2 x3 nb : Int32} {x4 x6 : Int64} {gw gg : Nat → Int64} {σ : List Nat} {h : aH} {fs : List Value} (v0 : 0 ≤ x3.toInt) (v1 : x3.toInt ≤ 2000000000) (t0 : 1 ≤ x4.toInt) (n0 : 0 ≤ nb.toInt) (n1 : nb.toInt ≤ 150) (hb : ∀ j, j < nb.toInt.toNat → -2147483648 ≤ (gw j).toInt ∧ (gw j).toInt ≤ 2147483647) (I : dI σ h) (c130 : h.1[130]? = some (.inl (1, 150, .inr (.inl gw)))) (c131 : h.1[131]? = some (.inl (1, 150, .inr (.inl gg)))) (c72 : h.1[72]? = some (.inr (12, fs))) (F72_2 : fs[2]? = some (.int nb))
    (kq : ∀ (x8' x9' : Int32), (x8'.toInt = -1 ∧ cntP (pB x3.toInt x4.toInt gw gg) nb.toInt.toNat = 0 ∨ 0 ≤ x8'.toInt ∧ x8'.toInt.toNat < nb.toInt.toNat ∧ pB x3.toInt x4.toInt gw gg x8'.toInt.toNat = true) → Wp X D zM281 Q 286 [some (.ref 72), some (.int x1), some (.int x2), some (.int x3), some (.long x4), none, some (.long x6), none, some (.int x8'), some (.int x9')] [] h) : ∀ (k : Nat) (x8 x9 : Int32), (nb.toInt - x9.toInt).toNat = k → 0 ≤ x9.toInt → x9.toInt ≤ nb.toInt → (x8.toInt = -1 ∧ cntP (pB x3.toInt x4.toInt gw gg) x9.toInt.toNat = 0 ∨ 0 ≤ x8.toInt ∧ x8.toInt.toNat < nb.toInt.toNat ∧ pB x3.toInt x4.toInt gw gg x8.toInt.toNat = true) → Wp X D zM281 Q 193 [some (.ref 72), some (.int x1), some (.int x2), some (.int x3), some (.long x4), none, some (.long x6), none, some (.int x8), some (.int x9)] [] h := by
  intro k
  induction k with
  | zero =>
    intro x8 x9 hk a0 a1 hi
    refine wp1 (fun n d => r_iload f281_193 rfl) ?_
    refine wp1 (fun n d => r_aloadn f281_195 rfl) ?_
    refine w_get f281_196 c72 F72_2 ?_
    refine w_icmp_ge f281_199 (fun e => kq x8 x9 ?_) (fun e => absurd e (by omega))
    rw [show nb.toInt.toNat = x9.toInt.toNat by omega] at *
    exact hi
  | succ k ih =>
    intro x8 x9 hk a0 a1 hi
    have hbj := hb x9.toInt.toNat (by omega)
    have mb := mul_bd (v := x3.toInt) (w := (gw x9.toInt.toNat).toInt) (A := 2000000000) (B := 2147483648) v0 v1 (by omega) (by omega) (by omega)
    refine wp1 (fun n d => r_iload f281_193 rfl) ?_
    refine wp1 (fun n d => r_aloadn f281_195 rfl) ?_
    refine w_get f281_196 c72 F72_2 ?_
    refine w_icmp_ge f281_199 (fun e199 => absurd e199 (by omega)) (fun e199 => ?_)
    have k280 : ∀ x8' : Int32, (x8'.toInt = -1 ∧ cntP (pB x3.toInt x4.toInt gw gg) (x9.toInt.toNat + 1) = 0 ∨ 0 ≤ x8'.toInt ∧ x8'.toInt.toNat < nb.toInt.toNat ∧ pB x3.toInt x4.toInt gw gg x8'.toInt.toNat = true) → Wp X D zM281 Q 280 [some (.ref 72), some (.int x1), some (.int x2), some (.int x3), some (.long x4), none, some (.long x6), none, some (.int x8'), some (.int x9)] [] h := by
      intro x8' hi'
      refine w_iinc f281_280 rfl (by omega) (by omega) (fun v280 hv280 => ?_)
      show Wp _ _ _ _ 283 [some (.ref 72), some (.int x1), some (.int x2), some (.int x3), some (.long x4), none, some (.long x6), none, some (.int x8'), some (.int v280)] [] _
      refine wp1 (fun n d => r_goto f281_283) ?_
      exact ih x8' v280 (by omega) (by omega) (by omega) (by rw [show v280.toInt.toNat = x9.toInt.toNat + 1 by omega]; exact hi')
    have hc1 : cntP (pB x3.toInt x4.toInt gw gg) (x9.toInt.toNat + 1) = cntP (pB x3.toInt x4.toInt gw gg) x9.toInt.toNat + (if pB x3.toInt x4.toInt gw gg x9.toInt.toNat = true then 1 else 0) := rfl
    have k0 : pB x3.toInt x4.toInt gw gg x9.toInt.toNat = false → Wp X D zM281 Q 280 [some (.ref 72), some (.int x1), some (.int x2), some (.int x3), some (.long x4), none, some (.long x6), none, some (.int x8), some (.int x9)] [] h := by
      intro e
      refine k280 x8 ?_
      rw [hc1, e]
      rcases hi with ⟨i1, i2⟩ | i
      · exact Or.inl ⟨i1, by rw [i2]; rfl⟩
      · exact Or.inr i
    have k276 : pB x3.toInt x4.toInt gw gg x9.toInt.toNat = true → Wp X D zM281 Q 276 [some (.ref 72), some (.int x1), some (.int x2), some (.int x3), some (.long x4), none, some (.long x6), none, some (.int x8), some (.int x9)] [] h := by
      intro e
      refine wp1 (fun n d => r_iload f281_276 rfl) ?_
      refine wp1 (fun n d => r_istore (L' := [some (.ref 72), some (.int x1), some (.int x2), some (.int x3), some (.long x4), none, some (.long x6), none, some (.int x9), some (.int x9)]) f281_278 rfl rfl) ?_
      exact k280 x9 (Or.inr ⟨a0, by omega, e⟩)
    refine wp1 (fun n d => r_aloadn f281_202 rfl) ?_
    have F1001 := hI_r I c72 (f := 77) (q := 130) (by decide +kernel)
    refine w_get f281_203 c72 F1001 ?_
    refine wp1 (fun n d => r_iload f281_206 rfl) ?_
    refine w_lald f281_208 c130 (by omega) (by omega) (fun v208 hv208 => ?_)
    refine w_lconst f281_209 (fun v209 hv209 => ?_)
    have hv209 : v209.toInt = 0 := hv209
    have hv209 : v209.toInt = 0 := hv209
    refine w_lcmp_eq f281_210 f281_211 (fun e210 => k0 (pB_0 (Or.inl (by rw [← hv208]; omega)))) (fun e210 => ?_)
    refine wp1 (fun n d => r_aloadn f281_214 rfl) ?_
    have F1002 := hI_r I c72 (f := 78) (q := 131) (by decide +kernel)
    refine w_get f281_215 c72 F1002 ?_
    refine wp1 (fun n d => r_iload f281_218 rfl) ?_
    refine w_lald f281_220 c131 (by omega) (by omega) (fun v220 hv220 => ?_)
    refine wp1 (fun n d => r_iloadn f281_221 rfl) ?_
    refine w_i2l f281_222 (fun v222 hv222 => ?_)
    refine wp1 (fun n d => r_aloadn f281_223 rfl) ?_
    refine w_get f281_224 c72 F1001 ?_
    refine wp1 (fun n d => r_iload f281_227 rfl) ?_
    refine w_lald f281_229 c130 (by omega) (by omega) (fun v229 hv229 => ?_)
    have mb1 := mb
    rw [← hv229, ← hv222] at mb1
    refine w_lmul f281_230 (by omega) (by omega) (fun v230 hv230 => ?_)
    refine wp1 (fun n d => r_lload f281_231 rfl) ?_
    refine w_ldivt f281_233 t0 (fun v233 hv233 => ?_)
    have hq8 : v233.toInt = (x3.toInt * (gw x9.toInt.toNat).toInt).tdiv x4.toInt := by rw [hv233, hv230, hv222, hv229]
    refine w_lcmp_le f281_234 f281_235 (fun e234 => ?_) (fun e234 => ?_)
    rotate_left
    · refine wp1 (fun n d => r_goto f281_238) ?_
      exact k0 (pB_0 (Or.inr (by rw [← hq8, ← hv220]; exact e234)))
    have hp : pB x3.toInt x4.toInt gw gg x9.toInt.toNat = true := pB_1 (by rw [← hv208]; omega) (by rw [← hq8, ← hv220]; exact e234)
    refine wp1 (fun n d => r_iload f281_241 rfl) ?_
    refine w_if_lt f281_243 (fun e243 => k276 hp) (fun e243 => ?_)
    obtain ⟨i1, i2, i3⟩ : 0 ≤ x8.toInt ∧ x8.toInt.toNat < nb.toInt.toNat ∧ pB x3.toInt x4.toInt gw gg x8.toInt.toNat = true := by
      rcases hi with ⟨i1, i2⟩ | i
      · omega
      · exact i
    have hbi := hb x8.toInt.toNat (by omega)
    have mc := mul_bd (v := x3.toInt) (w := (gw x8.toInt.toNat).toInt) (A := 2000000000) (B := 2147483648) v0 v1 (by omega) (by omega) (by omega)
    refine wp1 (fun n d => r_iloadn f281_246 rfl) ?_
    refine w_i2l f281_247 (fun v247 hv247 => ?_)
    refine wp1 (fun n d => r_aloadn f281_248 rfl) ?_
    refine w_get f281_249 c72 F1001 ?_
    refine wp1 (fun n d => r_iload f281_252 rfl) ?_
    refine w_lald f281_254 c130 (by omega) (by omega) (fun v254 hv254 => ?_)
    have mb2 := mb
    rw [← hv254, ← hv247] at mb2
    refine w_lmul f281_255 (by omega) (by omega) (fun v255 hv255 => ?_)
    refine wp1 (fun n d => r_lload f281_256 rfl) ?_
    refine w_lrem' f281_258 t0 (fun v258 => ?_)
    refine wp1 (fun n d => r_iloadn f281_259 rfl) ?_
    refine w_i2l f281_260 (fun v260 hv260 => ?_)
    refine wp1 (fun n d => r_aloadn f281_261 rfl) ?_
    refine w_get f281_262 c72 F1001 ?_
    refine wp1 (fun n d => r_iload f281_265 rfl) ?_
    refine w_lald f281_267 c130 (by omega) (by omega) (fun v267 hv267 => ?_)
    rw [← hv267, ← hv260] at mc
    refine w_lmul f281_268 (by omega) (by omega) (fun v268 hv268 => ?_)
    refine wp1 (fun n d => r_lload f281_269 rfl) ?_
    refine w_lrem' f281_271 t0 (fun v271 => ?_)
    exact w_lcmp_le f281_272 f281_273 (fun _ => k280 x8 (Or.inr ⟨i1, i2, i3⟩)) (fun _ => k276 hp)
theorem budC {X : aX} {D : Nat} {Q : Option Value → aH → Prop} {x1 x2 x3 nb : Int32} {x4 : Int64} {gw : Nat → Int64} (v0 : 0 ≤ x3.toInt) (v1 : x3.toInt ≤ 2000000000) (t0 : 1 ≤ x4.toInt) (n0 : 0 ≤ nb.toInt) (n1 : nb.toInt ≤ 150) (hb : ∀ j, j < nb.toInt.toNat → -2147483648 ≤ (gw j).toInt ∧ (gw j).toInt ≤ 2147483647) : ∀ (k : Nat) (x6 : Int64) (u8 u9 : Option Value) (σ : List Nat) (h : aH) (fs : List Value) (gg : Nat → Int64), x6.toInt.toNat = k → x6.toInt ≤ cntP (pB x3.toInt x4.toInt gw gg) nb.toInt.toNat → dI σ h → h.1[130]? = some (.inl (1, 150, .inr (.inl gw))) → h.1[131]? = some (.inl (1, 150, .inr (.inl gg))) → h.1[72]? = some (.inr (12, fs)) → fs[2]? = some (.int nb) →
    (∀ (h' : aH) (x6' : Int64) (v8 v9 : Option Value), dI σ h' → dG cC194.2.2.1 σ h σ h' → Wp X D zM281 Q 306 [some (.ref 72), some (.int x1), some (.int x2), some (.int x3), some (.long x4), none, some (.long x6'), none, v8, v9] [] h') → Wp X D zM281 Q 180 [some (.ref 72), some (.int x1), some (.int x2), some (.int x3), some (.long x4), none, some (.long x6), none, u8, u9] [] h := by
  intro k
  induction k with
  | zero =>
    intro x6 u8 u9 σ h fs gg hk hc I c130 c131 c72 F72_2 kq
    refine wp1 (fun n d => r_lload f281_180 rfl) ?_
    refine w_lconst f281_182 (fun v182 hv182 => ?_)
    have hv182 : v182.toInt = 0 := hv182
    have hv182 : v182.toInt = 0 := hv182
    exact w_lcmp_le f281_183 f281_184 (fun e => kq h x6 _ _ I (dG_refl _ _ _)) (fun e => absurd e (by omega))
  | succ k ih =>
    intro x6 u8 u9 σ h fs gg hk hc I c130 c131 c72 F72_2 kq
    have hle := cntP_le (pB x3.toInt x4.toInt gw gg) nb.toInt.toNat
    refine wp1 (fun n d => r_lload f281_180 rfl) ?_
    refine w_lconst f281_182 (fun v182 hv182 => ?_)
    have hv182 : v182.toInt = 0 := hv182
    have hv182 : v182.toInt = 0 := hv182
    refine w_lcmp_le f281_183 f281_184 (fun e183 => absurd e183 (by omega)) (fun e183 => ?_)
    refine w_iconst f281_187 (fun v187 hv187 => ?_)
    refine wp1 (fun n d => r_istore (L' := [some (.ref 72), some (.int x1), some (.int x2), some (.int x3), some (.long x4), none, some (.long x6), none, some (.int v187), u9]) f281_188 rfl rfl) ?_
    refine w_iconst f281_190 (fun v190 hv190 => ?_)
    refine wp1 (fun n d => r_istore (L' := [some (.ref 72), some (.int x1), some (.int x2), some (.int x3), some (.long x4), none, some (.long x6), none, some (.int v187), some (.int v190)]) f281_191 rfl rfl) ?_
    refine budD v0 v1 t0 n0 n1 hb I c130 c131 c72 F72_2 (fun x8' x9' hi => ?_) _ v187 v190 rfl (by omega) (by omega) (Or.inl ⟨by omega, by rw [show v190.toInt.toNat = 0 by omega]; rfl⟩)
    obtain ⟨i1, i2, i3⟩ : 0 ≤ x8'.toInt ∧ x8'.toInt.toNat < nb.toInt.toNat ∧ pB x3.toInt x4.toInt gw gg x8'.toInt.toNat = true := by
      rcases hi with ⟨i1, i2⟩ | i
      · omega
      · exact i
    have i4 : (gw x8'.toInt.toNat).toInt ≠ 0 ∧ (gg x8'.toInt.toNat).toInt ≤ (x3.toInt * (gw x8'.toInt.toNat).toInt).tdiv x4.toInt := by
      have := i3
      unfold pB at this
      rw [Bool.and_eq_true, decide_eq_true_eq, decide_eq_true_eq] at this
      exact this
    have hbi := hb x8'.toInt.toNat (by omega)
    have mc := mul_bd (v := x3.toInt) (w := (gw x8'.toInt.toNat).toInt) (A := 2000000000) (B := 2147483648) v0 v1 (by omega) (by omega) (by omega)
    have td := tdiv_b (x := x3.toInt * (gw x8'.toInt.toNat).toInt) (y := x4.toInt) t0
    refine wp1 (fun n d => r_aloadn f281_286 rfl) ?_
    have F1001 := hI_r I c72 (f := 78) (q := 131) (by decide +kernel)
    refine w_get f281_287 c72 F1001 ?_
    refine wp1 (fun n d => r_iload f281_290 rfl) ?_
    refine wp1 (fun n d => r_dup2 f281_292 rfl) ?_
    refine w_lald f281_293 c131 (by omega) (by omega) (fun v293 hv293 => ?_)
    have jb := jR v293
    have i5 := i4.2
    rw [← hv293] at i5
    refine w_lconst f281_294 (fun v294 hv294 => ?_)
    have hv294 : v294.toInt = 1 := hv294
    have hv294 : v294.toInt = 1 := hv294
    refine w_ladd f281_295 (by omega) (by omega) (fun v295 hv295 => ?_)
    have jb2 := jR v295
    refine w_lastI f281_296 c131 (by omega) (by omega) I (W := cC194.2.2.1) (lo := (-9223372036854775808)) (hi := 9223372036854775807) (by decide +kernel) (by decide) (jR v295).1 (jR v295).2 (fun h1002 I1002 G1002 c1002 ne1002 => ?_)
    obtain ⟨g1002, hg1002⟩ : ∃ g', g' = vp_updL gg x8'.toInt.toNat v295 := ⟨_, rfl⟩
    rw [← hg1002] at c1002
    have c1003 := (ne1002 72 (by decide)).trans c72
    have c1004 := (ne1002 130 (by decide)).trans c130
    refine wp1 (fun n d => r_lload f281_297 rfl) ?_
    refine w_lconst f281_299 (fun v299 hv299 => ?_)
    have hv299 : v299.toInt = 1 := hv299
    have hv299 : v299.toInt = 1 := hv299
    refine w_lsub f281_300 (by omega) (by omega) (fun v300 hv300 => ?_)
    refine wp1 (fun n d => r_lstore (L' := [some (.ref 72), some (.int x1), some (.int x2), some (.int x3), some (.long x4), none, some (.long v300), none, some (.int x8'), some (.int x9')]) f281_301 rfl rfl) ?_
    refine wp1 (fun n d => r_goto f281_303) ?_
    have hcu := cntP_upd (p := pB x3.toInt x4.toInt gw gg) (q := pB x3.toInt x4.toInt gw g1002) i3 (fun j hj e => by
      unfold pB at e ⊢
      rw [hg1002, updL_n hj]
      exact e) nb.toInt.toNat i2
    exact ih v300 (some (.int x8')) (some (.int x9')) σ h1002 fs g1002 (by omega) (by omega) I1002 c1004 c1002 c1003 F72_2 (fun h' y6 w8 w9 I' G' => kq h' y6 w8 w9 I' (dG_trans G1002 G'))
theorem hand_194 {X : aX} (G2 : dGood X cC302) (GU : dGood X cC314) (GP : dGood X cC184) : dGood X cC194 := by
  intro M hM l h σ ρ rh I K L
  have hM0 : zmt[281]? = some zM281 := rfl
  cases (show zmt[281]? = some M from hM).symm.trans hM0
  have a0 := dL_r L (i := 0) (c := 72) (o := 0) rfl (by decide)
  obtain ⟨x1, a1, b1, b1'⟩ := hL_i L K.1 (i := 1) (p := 1) (o := 0) (lo := -2147483648) (hi := 2147483647) rfl rfl
  obtain ⟨x2, a2, b2, b2'⟩ := hL_i L K.1 (i := 2) (p := 2) (o := 0) (lo := -2147483648) (hi := 2147483647) rfl rfl
  obtain ⟨x3, a3, b3, b3'⟩ := hL_i L K.1 (i := 3) (p := 3) (o := 0) (lo := -2147483648) (hi := 2147483647) rfl rfl
  obtain ⟨u0, l1, rfl, e1⟩ := hcons (show l.length = 10 from L.1)
  obtain ⟨u1, l2, rfl, e2⟩ := hcons e1
  obtain ⟨u2, l3, rfl, e3⟩ := hcons e2
  obtain ⟨u3, l4, rfl, e4⟩ := hcons e3
  obtain ⟨u4, l5, rfl, e5⟩ := hcons e4
  obtain ⟨u5, l6, rfl, e6⟩ := hcons e5
  obtain ⟨u6, l7, rfl, e7⟩ := hcons e6
  obtain ⟨u7, l8, rfl, e8⟩ := hcons e7
  obtain ⟨u8, l9, rfl, e9⟩ := hcons e8
  obtain ⟨u9, l10, rfl, e10⟩ := hcons e9
  cases hnil e10
  cases Option.some.inj a0
  cases Option.some.inj a1
  cases Option.some.inj a2
  cases Option.some.inj a3
  have fin : ∀ (x : Int32) (σ' : List Nat) (h' : aH), dI σ' h' → dG cC194.2.2.1 σ h σ' h' → hQ cC194 σ h (some (.int x)) h' := fun x σ' h' I' G' => ⟨σ', I', G', _, List.mem_cons_self, post_i I'.1 (iR x).1 (iR x).2⟩
  refine hEnd ?_
  show Wp X 30 zM281 _ 0 [some (.ref 72), some (.int x1), some (.int x2), some (.int x3), u4, u5, u6, u7, u8, u9] [] h
  have k26 : ∀ (σ1 : List Nat) (h1 : aH), dI σ1 h1 → dG cC194.2.2.1 σ h σ1 h1 → Wp X 30 zM281 (hQ cC194 σ h) 26 [some (.ref 72), some (.int x1), some (.int x2), some (.int x3), u4, u5, u6, u7, u8, u9] [] h1 := fun σ1 h1 I1 G1 => w_iconst f281_26 (fun v _ => wp_end (fun n d => r_ireturn f281_27 rfl) (fin v σ1 h1 I1 G1))
  obtain ⟨fs, c72⟩ := hI_o I (r := 72) (ci := 12) (by decide +kernel)
  obtain ⟨nb, F72_2, nb0, nb1⟩ := hI_i I c72 (f := 2) (lo := 0) (hi := 150) (by decide +kernel)
  refine wp1 (fun n d => r_aloadn f281_0 rfl) ?_
  refine wp1 (fun n d => r_iloadn f281_1 rfl) ?_
  refine wp_in (lv := 2) (Y := zM202) (isFarm_wp (x := x1) GU I c72 F72_2 nb0 nb1) (fun n d v h' e => r_virt (as := [.int x1]) (r := []) f281_2 c72 (show zmt[202]? = some zM202 from rfl) rfl rfl rfl rfl rfl rfl e) (by decide) ?_
  rintro v h1 ⟨⟨σ1, I1, G1'⟩, vf, rfl, zf, rf⟩
  have G1 : dG cC194.2.2.1 σ h σ1 h1 := dG_sub (by decide) G1'
  show Wp _ _ _ _ 5 [some (.ref 72), some (.int x1), some (.int x2), some (.int x3), u4, u5, u6, u7, u8, u9] [.int vf] _
  obtain ⟨fs1, d72, dfs⟩ := dG_o I.1 G1' c72 (by decide)
  have E72_2 := (dfs 2 rfl).trans F72_2
  refine w_if_eq f281_5 (fun e5 => k26 σ1 h1 I1 G1) (fun e5 => ?_)
  refine wp1 (fun n d => r_iloadn f281_8 rfl) ?_
  refine wp_in (lv := 1) (Y := zM198) (isYear_wp (x := x2)) (fun n d v h' e => r_stat (as := [.int x2]) (r := []) f281_9 rfl (show zmt[198]? = some zM198 from rfl) rfl rfl rfl rfl rfl rfl e) (by first | decide | omega) ?_
  rintro v h' ⟨rfl, v9, rfl, z2, r2⟩
  show Wp _ _ _ _ 12 [some (.ref 72), some (.int x1), some (.int x2), some (.int x3), u4, u5, u6, u7, u8, u9] [.int v9] _
  refine w_if_eq f281_12 (fun e12 => k26 σ1 h1 I1 G1) (fun e12 => ?_)
  refine wp1 (fun n d => r_iloadn f281_15 rfl) ?_
  refine w_iconst f281_16 (fun v16 hv16 => ?_)
  refine w_ldc_w f281_17 (fun v17 hv17 => ?_)
  have hv17 : v17.toInt = 2000000000 := hv17
  refine wp_in (lv := 0) (Y := zM196) (in_wp) (fun n d v h' e => r_stat (as := [.int x3, .int v16, .int v17]) (r := []) f281_20 rfl (show zmt[196]? = some zM196 from rfl) rfl rfl rfl rfl rfl rfl e) (by first | decide | omega) ?_
  rintro v h' ⟨rfl, v20, rfl, z3, r3⟩
  show Wp _ _ _ _ 23 [some (.ref 72), some (.int x1), some (.int x2), some (.int x3), u4, u5, u6, u7, u8, u9] [.int v20] _
  refine w_if_ne f281_23 (fun e23 => ?_) (fun _ => k26 σ1 h1 I1 G1)
  have Rf := rf (by omega)
  have R2 := r2 (by omega)
  have R3 := r3 (by omega)
  refine w_lconst f281_28 (fun v28 hv28 => ?_)
  have hv28 : v28.toInt = 0 := hv28
  refine wp1 (fun n d => r_lstore (L' := [some (.ref 72), some (.int x1), some (.int x2), some (.int x3), some (.long v28), none, u6, u7, u8, u9]) f281_29 rfl rfl) ?_
  refine w_iconst f281_31 (fun v31 hv31 => ?_)
  refine wp1 (fun n d => r_istore (L' := [some (.ref 72), some (.int x1), some (.int x2), some (.int x3), some (.long v28), none, some (.int v31), u7, u8, u9]) f281_32 rfl rfl) ?_
  obtain ⟨g1001, c1001, R1001⟩ := hI_j I1 (r := 130) (n := 150) (lo := (-9223372036854775808)) (hi := 9223372036854775807) (by decide +kernel)
  refine budA G2 GP (by decide) (by omega) (by omega) (by omega) (by omega) (nb := nb) (by omega) (by omega) _ v28 v31 σ1 h1 fs1 _ rfl (by omega) (by omega) I1 c1001 d72 E72_2 (fun j hj => absurd hj (by omega)) ?_ (fun σ2 h2 gw x4 x6 I2 G2' d130 hb hs => ?_)
  · rw [show v31.toInt.toNat = 0 by omega]
    show v28.toInt = 0
    exact hv28
  obtain ⟨fs2, e72, dfs2⟩ := dG_o I1.1 G2' d72 (by decide)
  have H72_2 := (dfs2 2 rfl).trans E72_2
  refine wp1 (fun n d => r_lload f281_110 rfl) ?_
  refine wp1 (fun n d => r_iloadn f281_112 rfl) ?_
  refine w_i2l f281_113 (fun v113 hv113 => ?_)
  refine w_lcmp_gt f281_114 f281_115 (fun e114 => ?_) (fun e114 => ?_)
  rotate_left
  · refine wp1 (fun n d => r_aloadn f281_118 rfl) ?_
    have F2501 := hI_r I2 e72 (f := 77) (q := 130) (by decide +kernel)
    refine w_get f281_119 e72 F2501 ?_
    refine wp1 (fun n d => r_iloadn f281_122 rfl) ?_
    refine w_lald f281_123 d130 (by omega) (by omega) (fun v123 hv123 => ?_)
    refine wp1 (fun n d => r_l2i f281_124 rfl) ?_
    exact wp_end (fun n d => r_ireturn f281_125 rfl) (fin _ _ _ I2 (dG_trans G1 G2'))
  refine wp1 (fun n d => r_iloadn f281_126 rfl) ?_
  refine w_i2l f281_127 (fun v127 hv127 => ?_)
  refine wp1 (fun n d => r_lstore (L' := [some (.ref 72), some (.int x1), some (.int x2), some (.int x3), some (.long x4), none, some (.long v127), none, u8, u9]) f281_128 rfl rfl) ?_
  refine w_iconst f281_130 (fun v130 hv130 => ?_)
  refine wp1 (fun n d => r_istore (L' := [some (.ref 72), some (.int x1), some (.int x2), some (.int x3), some (.long x4), none, some (.long v127), none, some (.int v130), u9]) f281_131 rfl rfl) ?_
  obtain ⟨g2001, c2001, R2001⟩ := hI_j I2 (r := 131) (n := 150) (lo := (-9223372036854775808)) (hi := 9223372036854775807) (by decide +kernel)
  refine budB (by omega) (by omega) (by omega) (nb := nb) (by omega) (by omega) hb _ v127 v130 σ2 h2 fs2 _ rfl (by omega) (by omega) I2 d130 c2001 e72 H72_2 (fun j hj => absurd hj (by omega)) ?_ (fun h3 gg y6 y8 I3 G3 f130 f131 hq hs2 => ?_)
  · rw [show v130.toInt.toNat = 0 by omega]
    show v127.toInt = (x3.toInt - 0).bmod (2 ^ 64)
    rw [bm64 (by omega) (by omega)]
    omega
  have pe := parts_end (v := x3.toInt) (all := x4.toInt) (w := fun j => (gw j).toInt) (n := nb.toInt.toNat) (by omega) hs.symm
  have cl := cntP_le (fun j => decide ((gw j).toInt ≠ 0)) nb.toInt.toNat
  rw [bm64 (by omega) (by omega)] at hs2
  have ci := cntP_imp (p := fun j => decide ((gw j).toInt ≠ 0)) (q := pB x3.toInt x4.toInt gw gg) nb.toInt.toNat (fun j hj e => pB_1 (by simpa using e) (by rw [hq j hj]; exact Int.le_refl _))
  obtain ⟨fs3, f72, dfs3⟩ := dG_o I2.1 G3 e72 (by decide)
  have J72_2 := (dfs3 2 rfl).trans H72_2
  refine budC (by omega) (by omega) (by omega) (nb := nb) (by omega) (by omega) hb _ y6 (some (.int y8)) _ σ2 h3 fs3 gg rfl (by omega) I3 f130 f131 f72 J72_2 (fun h4 z6 w8 w9 I4 G4 => ?_)
  revert w8 w9; intro u8 u9
  refine wp1 (fun n d => r_aloadn f281_306 rfl) ?_
  obtain ⟨fs3001, c3001⟩ := hI_o I4 (r := 72) (ci := 12) (by decide +kernel)
  have F3002 := hI_r I4 c3001 (f := 78) (q := 131) (by decide +kernel)
  refine w_get f281_307 c3001 F3002 ?_
  refine wp1 (fun n d => r_iloadn f281_310 rfl) ?_
  obtain ⟨g3003, c3003, R3003⟩ := hI_j I4 (r := 131) (n := 150) (lo := (-9223372036854775808)) (hi := 9223372036854775807) (by decide +kernel)
  refine w_lald f281_311 c3003 (by omega) (by omega) (fun v311 hv311 => ?_)
  have bv311 := R3003 x1.toInt.toNat (by omega)
  rw [← hv311] at bv311
  refine wp1 (fun n d => r_l2i f281_312 rfl) ?_
  exact wp_end (fun n d => r_ireturn f281_313 rfl) (fin _ _ _ I4 (dG_trans (dG_trans G1 G2') (dG_trans G3 G4)))

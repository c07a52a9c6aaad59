-- ===== by hand: findFacts =====
theorem f272_0 : aF 0 zM272.2.2.2.2.2.2.2 = some (0, (.aload_n 0), 1, 0, 0) := by decide +kernel
theorem f272_1 : aF 1 zM272.2.2.2.2.2.2.2 = some (1, (.iload_n 3), 1, 0, 0) := by decide +kernel
theorem f272_2 : aF 2 zM272.2.2.2.2.2.2.2 = some (2, (.invokevirtual 368), 3, 239, 0) := by decide +kernel
theorem f272_5 : aF 5 zM272.2.2.2.2.2.2.2 = some (5, (.aload_n 0), 1, 0, 0) := by decide +kernel
theorem f272_6 : aF 6 zM272.2.2.2.2.2.2.2 = some (6, (.iload_n 1), 1, 0, 0) := by decide +kernel
theorem f272_7 : aF 7 zM272.2.2.2.2.2.2.2 = some (7, (.iload_n 2), 1, 0, 0) := by decide +kernel
theorem f272_8 : aF 8 zM272.2.2.2.2.2.2.2 = some (8, (.iconst 0), 1, 0, 0) := by decide +kernel
theorem f272_9 : aF 9 zM272.2.2.2.2.2.2.2 = some (9, (.invokevirtual 463), 3, 270, 0) := by decide +kernel
theorem f272_12 : aF 12 zM272.2.2.2.2.2.2.2 = some (12, (.istore 4), 2, 0, 0) := by decide +kernel
theorem f272_14 : aF 14 zM272.2.2.2.2.2.2.2 = some (14, (.iconst 0), 1, 0, 0) := by decide +kernel
theorem f272_15 : aF 15 zM272.2.2.2.2.2.2.2 = some (15, (.istore 5), 2, 0, 0) := by decide +kernel
theorem f272_17 : aF 17 zM272.2.2.2.2.2.2.2 = some (17, (.iconst (-1)), 1, 0, 0) := by decide +kernel
theorem f272_18 : aF 18 zM272.2.2.2.2.2.2.2 = some (18, (.istore 6), 2, 0, 0) := by decide +kernel
theorem f272_20 : aF 20 zM272.2.2.2.2.2.2.2 = some (20, (.iconst 0), 1, 0, 0) := by decide +kernel
theorem f272_21 : aF 21 zM272.2.2.2.2.2.2.2 = some (21, (.istore 7), 2, 0, 0) := by decide +kernel
theorem f272_23 : aF 23 zM272.2.2.2.2.2.2.2 = some (23, (.iload 7), 2, 0, 0) := by decide +kernel
theorem f272_25 : aF 25 zM272.2.2.2.2.2.2.2 = some (25, (.bipush 8), 2, 0, 0) := by decide +kernel
theorem f272_27 : aF 27 zM272.2.2.2.2.2.2.2 = some (27, (.if_icmp .ge 17), 3, 44, 0) := by decide +kernel
theorem f272_30 : aF 30 zM272.2.2.2.2.2.2.2 = some (30, (.aload_n 0), 1, 0, 0) := by decide +kernel
theorem f272_31 : aF 31 zM272.2.2.2.2.2.2.2 = some (31, (.getfield 182), 3, 12, 72) := by decide +kernel
theorem f272_34 : aF 34 zM272.2.2.2.2.2.2.2 = some (34, (.iload 7), 2, 0, 0) := by decide +kernel
theorem f272_36 : aF 36 zM272.2.2.2.2.2.2.2 = some (36, (.iconst 0), 1, 0, 0) := by decide +kernel
theorem f272_37 : aF 37 zM272.2.2.2.2.2.2.2 = some (37, .iastore, 1, 0, 0) := by decide +kernel
theorem f272_38 : aF 38 zM272.2.2.2.2.2.2.2 = some (38, (.iinc 7 1), 3, 0, 0) := by decide +kernel
theorem f272_41 : aF 41 zM272.2.2.2.2.2.2.2 = some (41, (.goto (-18)), 3, 23, 0) := by decide +kernel
theorem f272_44 : aF 44 zM272.2.2.2.2.2.2.2 = some (44, (.iconst 0), 1, 0, 0) := by decide +kernel
theorem f272_45 : aF 45 zM272.2.2.2.2.2.2.2 = some (45, (.istore 7), 2, 0, 0) := by decide +kernel
theorem f272_47 : aF 47 zM272.2.2.2.2.2.2.2 = some (47, (.iload 7), 2, 0, 0) := by decide +kernel
theorem f272_49 : aF 49 zM272.2.2.2.2.2.2.2 = some (49, (.aload_n 0), 1, 0, 0) := by decide +kernel
theorem f272_50 : aF 50 zM272.2.2.2.2.2.2.2 = some (50, (.getfield 336), 3, 12, 19) := by decide +kernel
theorem f272_53 : aF 53 zM272.2.2.2.2.2.2.2 = some (53, (.if_icmp .ge 101), 3, 154, 0) := by decide +kernel
theorem f272_56 : aF 56 zM272.2.2.2.2.2.2.2 = some (56, (.aload_n 0), 1, 0, 0) := by decide +kernel
theorem f272_57 : aF 57 zM272.2.2.2.2.2.2.2 = some (57, (.getfield 108), 3, 12, 40) := by decide +kernel
theorem f272_60 : aF 60 zM272.2.2.2.2.2.2.2 = some (60, (.iload 7), 2, 0, 0) := by decide +kernel
theorem f272_62 : aF 62 zM272.2.2.2.2.2.2.2 = some (62, .baload, 1, 0, 0) := by decide +kernel
theorem f272_63 : aF 63 zM272.2.2.2.2.2.2.2 = some (63, (.ifCond .eq 85), 3, 148, 0) := by decide +kernel
theorem f272_66 : aF 66 zM272.2.2.2.2.2.2.2 = some (66, (.aload_n 0), 1, 0, 0) := by decide +kernel
theorem f272_67 : aF 67 zM272.2.2.2.2.2.2.2 = some (67, (.getfield 52), 3, 12, 20) := by decide +kernel
theorem f272_70 : aF 70 zM272.2.2.2.2.2.2.2 = some (70, (.iload 7), 2, 0, 0) := by decide +kernel
theorem f272_72 : aF 72 zM272.2.2.2.2.2.2.2 = some (72, .iaload, 1, 0, 0) := by decide +kernel
theorem f272_73 : aF 73 zM272.2.2.2.2.2.2.2 = some (73, (.iload_n 1), 1, 0, 0) := by decide +kernel
theorem f272_74 : aF 74 zM272.2.2.2.2.2.2.2 = some (74, (.if_icmp .ne 74), 3, 148, 0) := by decide +kernel
theorem f272_77 : aF 77 zM272.2.2.2.2.2.2.2 = some (77, (.aload_n 0), 1, 0, 0) := by decide +kernel
theorem f272_78 : aF 78 zM272.2.2.2.2.2.2.2 = some (78, (.iload 7), 2, 0, 0) := by decide +kernel
theorem f272_80 : aF 80 zM272.2.2.2.2.2.2.2 = some (80, (.invokevirtual 342), 3, 229, 0) := by decide +kernel
theorem f272_83 : aF 83 zM272.2.2.2.2.2.2.2 = some (83, (.iload_n 2), 1, 0, 0) := by decide +kernel
theorem f272_84 : aF 84 zM272.2.2.2.2.2.2.2 = some (84, (.if_icmp .eq 6), 3, 90, 0) := by decide +kernel
theorem f272_87 : aF 87 zM272.2.2.2.2.2.2.2 = some (87, (.goto 61), 3, 148, 0) := by decide +kernel
theorem f272_90 : aF 90 zM272.2.2.2.2.2.2.2 = some (90, (.aload_n 0), 1, 0, 0) := by decide +kernel
theorem f272_91 : aF 91 zM272.2.2.2.2.2.2.2 = some (91, (.getfield 182), 3, 12, 72) := by decide +kernel
theorem f272_94 : aF 94 zM272.2.2.2.2.2.2.2 = some (94, (.aload_n 0), 1, 0, 0) := by decide +kernel
theorem f272_95 : aF 95 zM272.2.2.2.2.2.2.2 = some (95, (.getfield 58), 3, 12, 22) := by decide +kernel
theorem f272_98 : aF 98 zM272.2.2.2.2.2.2.2 = some (98, (.iload 7), 2, 0, 0) := by decide +kernel
theorem f272_100 : aF 100 zM272.2.2.2.2.2.2.2 = some (100, .iaload, 1, 0, 0) := by decide +kernel
theorem f272_101 : aF 101 zM272.2.2.2.2.2.2.2 = some (101, .dup2, 1, 0, 0) := by decide +kernel
theorem f272_102 : aF 102 zM272.2.2.2.2.2.2.2 = some (102, .iaload, 1, 0, 0) := by decide +kernel
theorem f272_103 : aF 103 zM272.2.2.2.2.2.2.2 = some (103, (.aload_n 0), 1, 0, 0) := by decide +kernel
theorem f272_104 : aF 104 zM272.2.2.2.2.2.2.2 = some (104, (.getfield 112), 3, 12, 41) := by decide +kernel
theorem f272_107 : aF 107 zM272.2.2.2.2.2.2.2 = some (107, (.iload 7), 2, 0, 0) := by decide +kernel
theorem f272_109 : aF 109 zM272.2.2.2.2.2.2.2 = some (109, .iaload, 1, 0, 0) := by decide +kernel
theorem f272_110 : aF 110 zM272.2.2.2.2.2.2.2 = some (110, .iadd, 1, 0, 0) := by decide +kernel
theorem f272_111 : aF 111 zM272.2.2.2.2.2.2.2 = some (111, .iastore, 1, 0, 0) := by decide +kernel
theorem f272_112 : aF 112 zM272.2.2.2.2.2.2.2 = some (112, (.iload 5), 2, 0, 0) := by decide +kernel
theorem f272_114 : aF 114 zM272.2.2.2.2.2.2.2 = some (114, (.aload_n 0), 1, 0, 0) := by decide +kernel
theorem f272_115 : aF 115 zM272.2.2.2.2.2.2.2 = some (115, (.getfield 7), 3, 12, 3) := by decide +kernel
theorem f272_118 : aF 118 zM272.2.2.2.2.2.2.2 = some (118, (.aload_n 0), 1, 0, 0) := by decide +kernel
theorem f272_119 : aF 119 zM272.2.2.2.2.2.2.2 = some (119, (.getfield 55), 3, 12, 21) := by decide +kernel
theorem f272_122 : aF 122 zM272.2.2.2.2.2.2.2 = some (122, (.iload 7), 2, 0, 0) := by decide +kernel
theorem f272_124 : aF 124 zM272.2.2.2.2.2.2.2 = some (124, .iaload, 1, 0, 0) := by decide +kernel
theorem f272_125 : aF 125 zM272.2.2.2.2.2.2.2 = some (125, .iaload, 1, 0, 0) := by decide +kernel
theorem f272_126 : aF 126 zM272.2.2.2.2.2.2.2 = some (126, (.iconst 5), 1, 0, 0) := by decide +kernel
theorem f272_127 : aF 127 zM272.2.2.2.2.2.2.2 = some (127, (.if_icmp .ne 13), 3, 140, 0) := by decide +kernel
theorem f272_130 : aF 130 zM272.2.2.2.2.2.2.2 = some (130, (.aload_n 0), 1, 0, 0) := by decide +kernel
theorem f272_131 : aF 131 zM272.2.2.2.2.2.2.2 = some (131, (.getfield 112), 3, 12, 41) := by decide +kernel
theorem f272_134 : aF 134 zM272.2.2.2.2.2.2.2 = some (134, (.iload 7), 2, 0, 0) := by decide +kernel
theorem f272_136 : aF 136 zM272.2.2.2.2.2.2.2 = some (136, .iaload, 1, 0, 0) := by decide +kernel
theorem f272_137 : aF 137 zM272.2.2.2.2.2.2.2 = some (137, (.goto 4), 3, 141, 0) := by decide +kernel
theorem f272_140 : aF 140 zM272.2.2.2.2.2.2.2 = some (140, (.iconst 0), 1, 0, 0) := by decide +kernel
theorem f272_141 : aF 141 zM272.2.2.2.2.2.2.2 = some (141, .iadd, 1, 0, 0) := by decide +kernel
theorem f272_142 : aF 142 zM272.2.2.2.2.2.2.2 = some (142, (.istore 5), 2, 0, 0) := by decide +kernel
theorem f272_144 : aF 144 zM272.2.2.2.2.2.2.2 = some (144, (.iload 7), 2, 0, 0) := by decide +kernel
theorem f272_146 : aF 146 zM272.2.2.2.2.2.2.2 = some (146, (.istore 6), 2, 0, 0) := by decide +kernel
theorem f272_148 : aF 148 zM272.2.2.2.2.2.2.2 = some (148, (.iinc 7 1), 3, 0, 0) := by decide +kernel
theorem f272_151 : aF 151 zM272.2.2.2.2.2.2.2 = some (151, (.goto (-104)), 3, 47, 0) := by decide +kernel
theorem f272_154 : aF 154 zM272.2.2.2.2.2.2.2 = some (154, (.iconst 0), 1, 0, 0) := by decide +kernel
theorem f272_155 : aF 155 zM272.2.2.2.2.2.2.2 = some (155, (.istore 7), 2, 0, 0) := by decide +kernel
theorem f272_157 : aF 157 zM272.2.2.2.2.2.2.2 = some (157, (.iconst 0), 1, 0, 0) := by decide +kernel
theorem f272_158 : aF 158 zM272.2.2.2.2.2.2.2 = some (158, (.istore 8), 2, 0, 0) := by decide +kernel
theorem f272_160 : aF 160 zM272.2.2.2.2.2.2.2 = some (160, (.iconst 0), 1, 0, 0) := by decide +kernel
theorem f272_161 : aF 161 zM272.2.2.2.2.2.2.2 = some (161, (.istore 9), 2, 0, 0) := by decide +kernel
theorem f272_163 : aF 163 zM272.2.2.2.2.2.2.2 = some (163, (.iload 9), 2, 0, 0) := by decide +kernel
theorem f272_165 : aF 165 zM272.2.2.2.2.2.2.2 = some (165, (.bipush 8), 2, 0, 0) := by decide +kernel
theorem f272_167 : aF 167 zM272.2.2.2.2.2.2.2 = some (167, (.if_icmp .ge 43), 3, 210, 0) := by decide +kernel
theorem f272_170 : aF 170 zM272.2.2.2.2.2.2.2 = some (170, (.iload 7), 2, 0, 0) := by decide +kernel
theorem f272_172 : aF 172 zM272.2.2.2.2.2.2.2 = some (172, (.aload_n 0), 1, 0, 0) := by decide +kernel
theorem f272_173 : aF 173 zM272.2.2.2.2.2.2.2 = some (173, (.getfield 182), 3, 12, 72) := by decide +kernel
theorem f272_176 : aF 176 zM272.2.2.2.2.2.2.2 = some (176, (.iload 9), 2, 0, 0) := by decide +kernel
theorem f272_178 : aF 178 zM272.2.2.2.2.2.2.2 = some (178, .iaload, 1, 0, 0) := by decide +kernel
theorem f272_179 : aF 179 zM272.2.2.2.2.2.2.2 = some (179, (.ifCond .le 7), 3, 186, 0) := by decide +kernel
theorem f272_182 : aF 182 zM272.2.2.2.2.2.2.2 = some (182, (.iconst 1), 1, 0, 0) := by decide +kernel
theorem f272_183 : aF 183 zM272.2.2.2.2.2.2.2 = some (183, (.goto 4), 3, 187, 0) := by decide +kernel
theorem f272_186 : aF 186 zM272.2.2.2.2.2.2.2 = some (186, (.iconst 0), 1, 0, 0) := by decide +kernel
theorem f272_187 : aF 187 zM272.2.2.2.2.2.2.2 = some (187, .iadd, 1, 0, 0) := by decide +kernel
theorem f272_188 : aF 188 zM272.2.2.2.2.2.2.2 = some (188, (.istore 7), 2, 0, 0) := by decide +kernel
theorem f272_190 : aF 190 zM272.2.2.2.2.2.2.2 = some (190, (.iload 8), 2, 0, 0) := by decide +kernel
theorem f272_192 : aF 192 zM272.2.2.2.2.2.2.2 = some (192, (.aload_n 0), 1, 0, 0) := by decide +kernel
theorem f272_193 : aF 193 zM272.2.2.2.2.2.2.2 = some (193, (.getfield 182), 3, 12, 72) := by decide +kernel
theorem f272_196 : aF 196 zM272.2.2.2.2.2.2.2 = some (196, (.iload 9), 2, 0, 0) := by decide +kernel
theorem f272_198 : aF 198 zM272.2.2.2.2.2.2.2 = some (198, .iaload, 1, 0, 0) := by decide +kernel
theorem f272_199 : aF 199 zM272.2.2.2.2.2.2.2 = some (199, (.invokestatic 293), 3, 212, 0) := by decide +kernel
theorem f272_202 : aF 202 zM272.2.2.2.2.2.2.2 = some (202, (.istore 8), 2, 0, 0) := by decide +kernel
theorem f272_204 : aF 204 zM272.2.2.2.2.2.2.2 = some (204, (.iinc 9 1), 3, 0, 0) := by decide +kernel
theorem f272_207 : aF 207 zM272.2.2.2.2.2.2.2 = some (207, (.goto (-44)), 3, 163, 0) := by decide +kernel
theorem f272_210 : aF 210 zM272.2.2.2.2.2.2.2 = some (210, (.iconst 0), 1, 0, 0) := by decide +kernel
theorem f272_211 : aF 211 zM272.2.2.2.2.2.2.2 = some (211, (.istore 9), 2, 0, 0) := by decide +kernel
theorem f272_213 : aF 213 zM272.2.2.2.2.2.2.2 = some (213, (.iconst 0), 1, 0, 0) := by decide +kernel
theorem f272_214 : aF 214 zM272.2.2.2.2.2.2.2 = some (214, (.istore 10), 2, 0, 0) := by decide +kernel
theorem f272_216 : aF 216 zM272.2.2.2.2.2.2.2 = some (216, (.iload 10), 2, 0, 0) := by decide +kernel
theorem f272_218 : aF 218 zM272.2.2.2.2.2.2.2 = some (218, (.iload_n 2), 1, 0, 0) := by decide +kernel
theorem f272_219 : aF 219 zM272.2.2.2.2.2.2.2 = some (219, (.if_icmp .ge 38), 3, 257, 0) := by decide +kernel
theorem f272_222 : aF 222 zM272.2.2.2.2.2.2.2 = some (222, (.iload 9), 2, 0, 0) := by decide +kernel
theorem f272_224 : aF 224 zM272.2.2.2.2.2.2.2 = some (224, (.aload_n 0), 1, 0, 0) := by decide +kernel
theorem f272_225 : aF 225 zM272.2.2.2.2.2.2.2 = some (225, (.iload_n 1), 1, 0, 0) := by decide +kernel
theorem f272_226 : aF 226 zM272.2.2.2.2.2.2.2 = some (226, (.iload 10), 2, 0, 0) := by decide +kernel
theorem f272_228 : aF 228 zM272.2.2.2.2.2.2.2 = some (228, (.iconst 0), 1, 0, 0) := by decide +kernel
theorem f272_229 : aF 229 zM272.2.2.2.2.2.2.2 = some (229, (.invokevirtual 463), 3, 270, 0) := by decide +kernel
theorem f272_232 : aF 232 zM272.2.2.2.2.2.2.2 = some (232, (.aload_n 0), 1, 0, 0) := by decide +kernel
theorem f272_233 : aF 233 zM272.2.2.2.2.2.2.2 = some (233, (.iload_n 1), 1, 0, 0) := by decide +kernel
theorem f272_234 : aF 234 zM272.2.2.2.2.2.2.2 = some (234, (.iload 10), 2, 0, 0) := by decide +kernel
theorem f272_236 : aF 236 zM272.2.2.2.2.2.2.2 = some (236, (.iconst 1), 1, 0, 0) := by decide +kernel
theorem f272_237 : aF 237 zM272.2.2.2.2.2.2.2 = some (237, (.invokevirtual 463), 3, 270, 0) := by decide +kernel
theorem f272_240 : aF 240 zM272.2.2.2.2.2.2.2 = some (240, (.if_icmp .le 7), 3, 247, 0) := by decide +kernel
theorem f272_243 : aF 243 zM272.2.2.2.2.2.2.2 = some (243, (.iconst 1), 1, 0, 0) := by decide +kernel
theorem f272_244 : aF 244 zM272.2.2.2.2.2.2.2 = some (244, (.goto 4), 3, 248, 0) := by decide +kernel
theorem f272_247 : aF 247 zM272.2.2.2.2.2.2.2 = some (247, (.iconst 0), 1, 0, 0) := by decide +kernel
theorem f272_248 : aF 248 zM272.2.2.2.2.2.2.2 = some (248, .iadd, 1, 0, 0) := by decide +kernel
theorem f272_249 : aF 249 zM272.2.2.2.2.2.2.2 = some (249, (.istore 9), 2, 0, 0) := by decide +kernel
theorem f272_251 : aF 251 zM272.2.2.2.2.2.2.2 = some (251, (.iinc 10 1), 3, 0, 0) := by decide +kernel
theorem f272_254 : aF 254 zM272.2.2.2.2.2.2.2 = some (254, (.goto (-38)), 3, 216, 0) := by decide +kernel
theorem f272_257 : aF 257 zM272.2.2.2.2.2.2.2 = some (257, (.iconst 0), 1, 0, 0) := by decide +kernel
theorem f272_258 : aF 258 zM272.2.2.2.2.2.2.2 = some (258, (.istore 10), 2, 0, 0) := by decide +kernel
theorem f272_260 : aF 260 zM272.2.2.2.2.2.2.2 = some (260, (.iconst 0), 1, 0, 0) := by decide +kernel
theorem f272_261 : aF 261 zM272.2.2.2.2.2.2.2 = some (261, (.istore 11), 2, 0, 0) := by decide +kernel
theorem f272_263 : aF 263 zM272.2.2.2.2.2.2.2 = some (263, (.iload 11), 2, 0, 0) := by decide +kernel
theorem f272_265 : aF 265 zM272.2.2.2.2.2.2.2 = some (265, (.aload_n 0), 1, 0, 0) := by decide +kernel
theorem f272_266 : aF 266 zM272.2.2.2.2.2.2.2 = some (266, (.getfield 265), 3, 12, 2) := by decide +kernel
theorem f272_269 : aF 269 zM272.2.2.2.2.2.2.2 = some (269, (.if_icmp .ge 53), 3, 322, 0) := by decide +kernel
theorem f272_272 : aF 272 zM272.2.2.2.2.2.2.2 = some (272, (.iload 10), 2, 0, 0) := by decide +kernel
theorem f272_274 : aF 274 zM272.2.2.2.2.2.2.2 = some (274, (.aload_n 0), 1, 0, 0) := by decide +kernel
theorem f272_275 : aF 275 zM272.2.2.2.2.2.2.2 = some (275, (.getfield 7), 3, 12, 3) := by decide +kernel
theorem f272_278 : aF 278 zM272.2.2.2.2.2.2.2 = some (278, (.iload 11), 2, 0, 0) := by decide +kernel
theorem f272_280 : aF 280 zM272.2.2.2.2.2.2.2 = some (280, .iaload, 1, 0, 0) := by decide +kernel
theorem f272_281 : aF 281 zM272.2.2.2.2.2.2.2 = some (281, (.bipush 6), 2, 0, 0) := by decide +kernel
theorem f272_283 : aF 283 zM272.2.2.2.2.2.2.2 = some (283, (.if_icmp .ne 29), 3, 312, 0) := by decide +kernel
theorem f272_286 : aF 286 zM272.2.2.2.2.2.2.2 = some (286, (.aload_n 0), 1, 0, 0) := by decide +kernel
theorem f272_287 : aF 287 zM272.2.2.2.2.2.2.2 = some (287, (.iload 11), 2, 0, 0) := by decide +kernel
theorem f272_289 : aF 289 zM272.2.2.2.2.2.2.2 = some (289, (.sipush 365), 3, 0, 0) := by decide +kernel
theorem f272_292 : aF 292 zM272.2.2.2.2.2.2.2 = some (292, (.iload_n 2), 1, 0, 0) := by decide +kernel
theorem f272_293 : aF 293 zM272.2.2.2.2.2.2.2 = some (293, .imul, 1, 0, 0) := by decide +kernel
theorem f272_294 : aF 294 zM272.2.2.2.2.2.2.2 = some (294, (.sipush 365), 3, 0, 0) := by decide +kernel
theorem f272_297 : aF 297 zM272.2.2.2.2.2.2.2 = some (297, .iadd, 1, 0, 0) := by decide +kernel
theorem f272_298 : aF 298 zM272.2.2.2.2.2.2.2 = some (298, (.iconst 1), 1, 0, 0) := by decide +kernel
theorem f272_299 : aF 299 zM272.2.2.2.2.2.2.2 = some (299, .isub, 1, 0, 0) := by decide +kernel
theorem f272_300 : aF 300 zM272.2.2.2.2.2.2.2 = some (300, (.iload_n 3), 1, 0, 0) := by decide +kernel
theorem f272_301 : aF 301 zM272.2.2.2.2.2.2.2 = some (301, (.invokevirtual 331), 3, 226, 0) := by decide +kernel
theorem f272_304 : aF 304 zM272.2.2.2.2.2.2.2 = some (304, (.iload_n 1), 1, 0, 0) := by decide +kernel
theorem f272_305 : aF 305 zM272.2.2.2.2.2.2.2 = some (305, (.if_icmp .ne 7), 3, 312, 0) := by decide +kernel
theorem f272_308 : aF 308 zM272.2.2.2.2.2.2.2 = some (308, (.iconst 1), 1, 0, 0) := by decide +kernel
theorem f272_309 : aF 309 zM272.2.2.2.2.2.2.2 = some (309, (.goto 4), 3, 313, 0) := by decide +kernel
theorem f272_312 : aF 312 zM272.2.2.2.2.2.2.2 = some (312, (.iconst 0), 1, 0, 0) := by decide +kernel
theorem f272_313 : aF 313 zM272.2.2.2.2.2.2.2 = some (313, .iadd, 1, 0, 0) := by decide +kernel
theorem f272_314 : aF 314 zM272.2.2.2.2.2.2.2 = some (314, (.istore 10), 2, 0, 0) := by decide +kernel
theorem f272_316 : aF 316 zM272.2.2.2.2.2.2.2 = some (316, (.iinc 11 1), 3, 0, 0) := by decide +kernel
theorem f272_319 : aF 319 zM272.2.2.2.2.2.2.2 = some (319, (.goto (-56)), 3, 263, 0) := by decide +kernel
theorem f272_322 : aF 322 zM272.2.2.2.2.2.2.2 = some (322, (.aload_n 0), 1, 0, 0) := by decide +kernel
theorem f272_323 : aF 323 zM272.2.2.2.2.2.2.2 = some (323, (.getfield 176), 3, 12, 69) := by decide +kernel
theorem f272_326 : aF 326 zM272.2.2.2.2.2.2.2 = some (326, (.iconst 0), 1, 0, 0) := by decide +kernel
theorem f272_327 : aF 327 zM272.2.2.2.2.2.2.2 = some (327, (.iload_n 2), 1, 0, 0) := by decide +kernel
theorem f272_328 : aF 328 zM272.2.2.2.2.2.2.2 = some (328, .iastore, 1, 0, 0) := by decide +kernel
theorem f272_329 : aF 329 zM272.2.2.2.2.2.2.2 = some (329, (.aload_n 0), 1, 0, 0) := by decide +kernel
theorem f272_330 : aF 330 zM272.2.2.2.2.2.2.2 = some (330, (.getfield 176), 3, 12, 69) := by decide +kernel
theorem f272_333 : aF 333 zM272.2.2.2.2.2.2.2 = some (333, (.iconst 1), 1, 0, 0) := by decide +kernel
theorem f272_334 : aF 334 zM272.2.2.2.2.2.2.2 = some (334, (.aload_n 0), 1, 0, 0) := by decide +kernel
theorem f272_335 : aF 335 zM272.2.2.2.2.2.2.2 = some (335, (.getfield 7), 3, 12, 3) := by decide +kernel
theorem f272_338 : aF 338 zM272.2.2.2.2.2.2.2 = some (338, (.iload_n 1), 1, 0, 0) := by decide +kernel
theorem f272_339 : aF 339 zM272.2.2.2.2.2.2.2 = some (339, .iaload, 1, 0, 0) := by decide +kernel
theorem f272_340 : aF 340 zM272.2.2.2.2.2.2.2 = some (340, .iastore, 1, 0, 0) := by decide +kernel
theorem f272_341 : aF 341 zM272.2.2.2.2.2.2.2 = some (341, (.aload_n 0), 1, 0, 0) := by decide +kernel
theorem f272_342 : aF 342 zM272.2.2.2.2.2.2.2 = some (342, (.getfield 176), 3, 12, 69) := by decide +kernel
theorem f272_345 : aF 345 zM272.2.2.2.2.2.2.2 = some (345, (.iconst 2), 1, 0, 0) := by decide +kernel
theorem f272_346 : aF 346 zM272.2.2.2.2.2.2.2 = some (346, (.iload 4), 2, 0, 0) := by decide +kernel
theorem f272_348 : aF 348 zM272.2.2.2.2.2.2.2 = some (348, .iastore, 1, 0, 0) := by decide +kernel
theorem f272_349 : aF 349 zM272.2.2.2.2.2.2.2 = some (349, (.aload_n 0), 1, 0, 0) := by decide +kernel
theorem f272_350 : aF 350 zM272.2.2.2.2.2.2.2 = some (350, (.getfield 176), 3, 12, 69) := by decide +kernel
theorem f272_353 : aF 353 zM272.2.2.2.2.2.2.2 = some (353, (.iconst 3), 1, 0, 0) := by decide +kernel
theorem f272_354 : aF 354 zM272.2.2.2.2.2.2.2 = some (354, (.aload_n 0), 1, 0, 0) := by decide +kernel
theorem f272_355 : aF 355 zM272.2.2.2.2.2.2.2 = some (355, (.iload_n 1), 1, 0, 0) := by decide +kernel
theorem f272_356 : aF 356 zM272.2.2.2.2.2.2.2 = some (356, (.iload_n 2), 1, 0, 0) := by decide +kernel
theorem f272_357 : aF 357 zM272.2.2.2.2.2.2.2 = some (357, (.iconst 1), 1, 0, 0) := by decide +kernel
theorem f272_358 : aF 358 zM272.2.2.2.2.2.2.2 = some (358, (.invokevirtual 463), 3, 270, 0) := by decide +kernel
theorem f272_361 : aF 361 zM272.2.2.2.2.2.2.2 = some (361, .iastore, 1, 0, 0) := by decide +kernel
theorem f272_362 : aF 362 zM272.2.2.2.2.2.2.2 = some (362, (.aload_n 0), 1, 0, 0) := by decide +kernel
theorem f272_363 : aF 363 zM272.2.2.2.2.2.2.2 = some (363, (.getfield 176), 3, 12, 69) := by decide +kernel
theorem f272_366 : aF 366 zM272.2.2.2.2.2.2.2 = some (366, (.iconst 4), 1, 0, 0) := by decide +kernel
theorem f272_367 : aF 367 zM272.2.2.2.2.2.2.2 = some (367, (.iload 4), 2, 0, 0) := by decide +kernel
theorem f272_369 : aF 369 zM272.2.2.2.2.2.2.2 = some (369, (.ifCond .ne 7), 3, 376, 0) := by decide +kernel
theorem f272_372 : aF 372 zM272.2.2.2.2.2.2.2 = some (372, (.iconst 0), 1, 0, 0) := by decide +kernel
theorem f272_373 : aF 373 zM272.2.2.2.2.2.2.2 = some (373, (.goto 11), 3, 384, 0) := by decide +kernel
theorem f272_376 : aF 376 zM272.2.2.2.2.2.2.2 = some (376, (.bipush 100), 2, 0, 0) := by decide +kernel
theorem f272_378 : aF 378 zM272.2.2.2.2.2.2.2 = some (378, (.iload 5), 2, 0, 0) := by decide +kernel
theorem f272_380 : aF 380 zM272.2.2.2.2.2.2.2 = some (380, .imul, 1, 0, 0) := by decide +kernel
theorem f272_381 : aF 381 zM272.2.2.2.2.2.2.2 = some (381, (.iload 4), 2, 0, 0) := by decide +kernel
theorem f272_383 : aF 383 zM272.2.2.2.2.2.2.2 = some (383, .idiv, 1, 0, 0) := by decide +kernel
theorem f272_384 : aF 384 zM272.2.2.2.2.2.2.2 = some (384, .iastore, 1, 0, 0) := by decide +kernel
theorem f272_385 : aF 385 zM272.2.2.2.2.2.2.2 = some (385, (.aload_n 0), 1, 0, 0) := by decide +kernel
theorem f272_386 : aF 386 zM272.2.2.2.2.2.2.2 = some (386, (.getfield 176), 3, 12, 69) := by decide +kernel
theorem f272_389 : aF 389 zM272.2.2.2.2.2.2.2 = some (389, (.iconst 5), 1, 0, 0) := by decide +kernel
theorem f272_390 : aF 390 zM272.2.2.2.2.2.2.2 = some (390, (.iload 7), 2, 0, 0) := by decide +kernel
theorem f272_392 : aF 392 zM272.2.2.2.2.2.2.2 = some (392, .iastore, 1, 0, 0) := by decide +kernel
theorem f272_393 : aF 393 zM272.2.2.2.2.2.2.2 = some (393, (.aload_n 0), 1, 0, 0) := by decide +kernel
theorem f272_394 : aF 394 zM272.2.2.2.2.2.2.2 = some (394, (.getfield 176), 3, 12, 69) := by decide +kernel
theorem f272_397 : aF 397 zM272.2.2.2.2.2.2.2 = some (397, (.bipush 6), 2, 0, 0) := by decide +kernel
theorem f272_399 : aF 399 zM272.2.2.2.2.2.2.2 = some (399, (.iload 4), 2, 0, 0) := by decide +kernel
theorem f272_401 : aF 401 zM272.2.2.2.2.2.2.2 = some (401, (.ifCond .ne 7), 3, 408, 0) := by decide +kernel
theorem f272_404 : aF 404 zM272.2.2.2.2.2.2.2 = some (404, (.iconst 0), 1, 0, 0) := by decide +kernel
theorem f272_405 : aF 405 zM272.2.2.2.2.2.2.2 = some (405, (.goto 11), 3, 416, 0) := by decide +kernel
theorem f272_408 : aF 408 zM272.2.2.2.2.2.2.2 = some (408, (.bipush 100), 2, 0, 0) := by decide +kernel
theorem f272_410 : aF 410 zM272.2.2.2.2.2.2.2 = some (410, (.iload 8), 2, 0, 0) := by decide +kernel
theorem f272_412 : aF 412 zM272.2.2.2.2.2.2.2 = some (412, .imul, 1, 0, 0) := by decide +kernel
theorem f272_413 : aF 413 zM272.2.2.2.2.2.2.2 = some (413, (.iload 4), 2, 0, 0) := by decide +kernel
theorem f272_415 : aF 415 zM272.2.2.2.2.2.2.2 = some (415, .idiv, 1, 0, 0) := by decide +kernel
theorem f272_416 : aF 416 zM272.2.2.2.2.2.2.2 = some (416, .iastore, 1, 0, 0) := by decide +kernel
theorem f272_417 : aF 417 zM272.2.2.2.2.2.2.2 = some (417, (.aload_n 0), 1, 0, 0) := by decide +kernel
theorem f272_418 : aF 418 zM272.2.2.2.2.2.2.2 = some (418, (.getfield 176), 3, 12, 69) := by decide +kernel
theorem f272_421 : aF 421 zM272.2.2.2.2.2.2.2 = some (421, (.bipush 7), 2, 0, 0) := by decide +kernel
theorem f272_423 : aF 423 zM272.2.2.2.2.2.2.2 = some (423, (.iload 6), 2, 0, 0) := by decide +kernel
theorem f272_425 : aF 425 zM272.2.2.2.2.2.2.2 = some (425, (.ifCond .ge 7), 3, 432, 0) := by decide +kernel
theorem f272_428 : aF 428 zM272.2.2.2.2.2.2.2 = some (428, (.iconst 0), 1, 0, 0) := by decide +kernel
theorem f272_429 : aF 429 zM272.2.2.2.2.2.2.2 = some (429, (.goto 9), 3, 438, 0) := by decide +kernel
theorem f272_432 : aF 432 zM272.2.2.2.2.2.2.2 = some (432, (.aload_n 0), 1, 0, 0) := by decide +kernel
theorem f272_433 : aF 433 zM272.2.2.2.2.2.2.2 = some (433, (.iload 6), 2, 0, 0) := by decide +kernel
theorem f272_435 : aF 435 zM272.2.2.2.2.2.2.2 = some (435, (.invokevirtual 379), 3, 240, 0) := by decide +kernel
theorem f272_438 : aF 438 zM272.2.2.2.2.2.2.2 = some (438, .iastore, 1, 0, 0) := by decide +kernel
theorem f272_439 : aF 439 zM272.2.2.2.2.2.2.2 = some (439, (.aload_n 0), 1, 0, 0) := by decide +kernel
theorem f272_440 : aF 440 zM272.2.2.2.2.2.2.2 = some (440, (.getfield 176), 3, 12, 69) := by decide +kernel
theorem f272_443 : aF 443 zM272.2.2.2.2.2.2.2 = some (443, (.bipush 8), 2, 0, 0) := by decide +kernel
theorem f272_445 : aF 445 zM272.2.2.2.2.2.2.2 = some (445, (.aload_n 0), 1, 0, 0) := by decide +kernel
theorem f272_446 : aF 446 zM272.2.2.2.2.2.2.2 = some (446, (.iload_n 1), 1, 0, 0) := by decide +kernel
theorem f272_447 : aF 447 zM272.2.2.2.2.2.2.2 = some (447, (.iload_n 2), 1, 0, 0) := by decide +kernel
theorem f272_448 : aF 448 zM272.2.2.2.2.2.2.2 = some (448, (.invokevirtual 467), 3, 271, 0) := by decide +kernel
theorem f272_451 : aF 451 zM272.2.2.2.2.2.2.2 = some (451, .iastore, 1, 0, 0) := by decide +kernel
theorem f272_452 : aF 452 zM272.2.2.2.2.2.2.2 = some (452, (.aload_n 0), 1, 0, 0) := by decide +kernel
theorem f272_453 : aF 453 zM272.2.2.2.2.2.2.2 = some (453, (.getfield 176), 3, 12, 69) := by decide +kernel
theorem f272_456 : aF 456 zM272.2.2.2.2.2.2.2 = some (456, (.bipush 9), 2, 0, 0) := by decide +kernel
theorem f272_458 : aF 458 zM272.2.2.2.2.2.2.2 = some (458, (.iload 10), 2, 0, 0) := by decide +kernel
theorem f272_460 : aF 460 zM272.2.2.2.2.2.2.2 = some (460, .iastore, 1, 0, 0) := by decide +kernel
theorem f272_461 : aF 461 zM272.2.2.2.2.2.2.2 = some (461, (.aload_n 0), 1, 0, 0) := by decide +kernel
theorem f272_462 : aF 462 zM272.2.2.2.2.2.2.2 = some (462, (.getfield 176), 3, 12, 69) := by decide +kernel
theorem f272_465 : aF 465 zM272.2.2.2.2.2.2.2 = some (465, (.bipush 10), 2, 0, 0) := by decide +kernel
theorem f272_467 : aF 467 zM272.2.2.2.2.2.2.2 = some (467, (.iconst 0), 1, 0, 0) := by decide +kernel
theorem f272_468 : aF 468 zM272.2.2.2.2.2.2.2 = some (468, .iastore, 1, 0, 0) := by decide +kernel
theorem f272_469 : aF 469 zM272.2.2.2.2.2.2.2 = some (469, (.aload_n 0), 1, 0, 0) := by decide +kernel
theorem f272_470 : aF 470 zM272.2.2.2.2.2.2.2 = some (470, (.getfield 176), 3, 12, 69) := by decide +kernel
theorem f272_473 : aF 473 zM272.2.2.2.2.2.2.2 = some (473, (.bipush 11), 2, 0, 0) := by decide +kernel
theorem f272_475 : aF 475 zM272.2.2.2.2.2.2.2 = some (475, (.aload_n 0), 1, 0, 0) := by decide +kernel
theorem f272_476 : aF 476 zM272.2.2.2.2.2.2.2 = some (476, (.iload_n 1), 1, 0, 0) := by decide +kernel
theorem f272_477 : aF 477 zM272.2.2.2.2.2.2.2 = some (477, (.iload_n 2), 1, 0, 0) := by decide +kernel
theorem f272_478 : aF 478 zM272.2.2.2.2.2.2.2 = some (478, (.iload_n 3), 1, 0, 0) := by decide +kernel
theorem f272_479 : aF 479 zM272.2.2.2.2.2.2.2 = some (479, (.invokevirtual 470), 3, 273, 0) := by decide +kernel
theorem f272_482 : aF 482 zM272.2.2.2.2.2.2.2 = some (482, (.ifCond .eq 7), 3, 489, 0) := by decide +kernel
theorem f272_485 : aF 485 zM272.2.2.2.2.2.2.2 = some (485, (.iconst 1), 1, 0, 0) := by decide +kernel
theorem f272_486 : aF 486 zM272.2.2.2.2.2.2.2 = some (486, (.goto 4), 3, 490, 0) := by decide +kernel
theorem f272_489 : aF 489 zM272.2.2.2.2.2.2.2 = some (489, (.iconst 0), 1, 0, 0) := by decide +kernel
theorem f272_490 : aF 490 zM272.2.2.2.2.2.2.2 = some (490, .iastore, 1, 0, 0) := by decide +kernel
theorem f272_491 : aF 491 zM272.2.2.2.2.2.2.2 = some (491, (.aload_n 0), 1, 0, 0) := by decide +kernel
theorem f272_492 : aF 492 zM272.2.2.2.2.2.2.2 = some (492, (.getfield 176), 3, 12, 69) := by decide +kernel
theorem f272_495 : aF 495 zM272.2.2.2.2.2.2.2 = some (495, (.bipush 12), 2, 0, 0) := by decide +kernel
theorem f272_497 : aF 497 zM272.2.2.2.2.2.2.2 = some (497, (.iload 9), 2, 0, 0) := by decide +kernel
theorem f272_499 : aF 499 zM272.2.2.2.2.2.2.2 = some (499, .iastore, 1, 0, 0) := by decide +kernel
theorem f272_500 : aF 500 zM272.2.2.2.2.2.2.2 = some (500, .return_, 1, 0, 0) := by decide +kernel
theorem ffA {X : aX} {D : Nat} {Q : Option Value → aH → Prop} {x1 x2 x3 x4 x5 x6 : Int32} {u8 u9 u10 u11 : Option Value}  : ∀ (k : Nat) (x7 : Int32) (σ : List Nat) (h : aH) (fs : List Value), (8 - x7.toInt).toNat = k → 0 ≤ x7.toInt → dI σ h → h.1[72]? = some (.inr (12, fs)) →
    (∀ (σ' : List Nat) (h' : aH) (x7' : Int32), 0 ≤ x7'.toInt → dI σ' h' → dG cC163.2.2.1 σ h σ' h' → Wp X D zM272 Q 44 [some (.ref 72), some (.int x1), some (.int x2), some (.int x3), some (.int x4), some (.int x5), some (.int x6), some (.int x7'), u8, u9, u10, u11] [] h') → Wp X D zM272 Q 23 [some (.ref 72), some (.int x1), some (.int x2), some (.int x3), some (.int x4), some (.int x5), some (.int x6), some (.int x7), u8, u9, u10, u11] [] h := by
  intro k
  induction k with
  | zero =>
    intro x7 σ h fs hk iv I c72  kq
    refine wp1 (fun n d => r_iload f272_23 rfl) ?_
    refine w_bipush f272_25 (fun v25 hv25 => ?_)
    exact w_icmp_ge f272_27 (fun e => kq σ h x7 iv I (dG_refl _ _ _)) (fun e => absurd e (by omega))
  | succ k ih =>
    intro x7 σ h fs hk iv I c72  kq
    refine wp1 (fun n d => r_iload f272_23 rfl) ?_
    refine w_bipush f272_25 (fun v25 hv25 => ?_)
    refine w_icmp_ge f272_27 (fun e27 => absurd e27 (by omega)) (fun e27 => ?_)
    refine wp1 (fun n d => r_aloadn f272_30 rfl) ?_
    have F1001 := hI_r I c72 (f := 72) (q := 126) (by decide +kernel)
    refine w_get f272_31 c72 F1001 ?_
    refine wp1 (fun n d => r_iload f272_34 rfl) ?_
    refine w_iconst f272_36 (fun v36 hv36 => ?_)
    obtain ⟨g1002, c1002, R1002⟩ := hI_a I (r := 126) (a := 0) (n := 8) (lo := (-2147483648)) (hi := 2147483647) (by decide +kernel)
    refine w_iastI f272_37 c1002 (by omega) (by omega) I (W := cC163.2.2.1) (lo := (-2147483648)) (hi := 2147483647) (by decide +kernel) (by decide) (iR v36).1 (iR v36).2 (fun h1003 I1003 G1003 c1003 ne1003 => ?_)
    obtain ⟨g1003, hg1003⟩ : ∃ g', g' = upd g1002 x7.toInt.toNat v36 := ⟨_, rfl⟩
    rw [← hg1003] at c1003
    have c1004 := (ne1003 72 (by decide)).trans c72
    refine w_iinc f272_38 rfl (by omega) (by omega) (fun v38 hv38 => ?_)
    show Wp _ _ _ _ 41 [some (.ref 72), some (.int x1), some (.int x2), some (.int x3), some (.int x4), some (.int x5), some (.int x6), some (.int v38), u8, u9, u10, u11] [] _
    refine wp1 (fun n d => r_goto f272_41) ?_
    exact ih v38 σ h1003 fs (by omega) (by omega) I1003 c1004  (fun σ' h' x7' ix I' G' => kq σ' h' x7' ix I' (dG_trans G1003 G'))
theorem ffB {X : aX} {D : Nat} {Q : Option Value → aH → Prop} {x1 x2 x3 x4 nc : Int32} {u8 u9 u10 u11 : Option Value} (GY : dGood X cC319) (hD : 1 ≤ D) (f0 : 0 ≤ x1.toInt) (f1 : x1.toInt ≤ 149) (y0 : 0 ≤ x2.toInt) (y1 : x2.toInt ≤ 9) (d0 : 0 ≤ x3.toInt) (d1 : x3.toInt ≤ 3649) (c0 : 0 ≤ nc.toInt) (c1 : nc.toInt ≤ 300) : ∀ (k : Nat) (x5 : Int32) (x6 : Int32) (x7 : Int32) (σ : List Nat) (h : aH) (fs : List Value), (nc.toInt - x7.toInt).toNat = k → (0 ≤ x7.toInt ∧ -1 ≤ x6.toInt ∧ x6.toInt ≤ 299) → dI σ h → h.1[72]? = some (.inr (12, fs)) → fs[19]? = some (.int nc) →
    (∀ (σ' : List Nat) (h' : aH) (x5' : Int32) (x6' : Int32) (x7' : Int32), (0 ≤ x7'.toInt ∧ -1 ≤ x6'.toInt ∧ x6'.toInt ≤ 299) → dI σ' h' → dG cC163.2.2.1 σ h σ' h' → Wp X D zM272 Q 154 [some (.ref 72), some (.int x1), some (.int x2), some (.int x3), some (.int x4), some (.int x5'), some (.int x6'), some (.int x7'), u8, u9, u10, u11] [] h') → Wp X D zM272 Q 47 [some (.ref 72), some (.int x1), some (.int x2), some (.int x3), some (.int x4), some (.int x5), some (.int x6), some (.int x7), u8, u9, u10, u11] [] h := by
  intro k
  induction k with
  | zero =>
    intro x5 x6 x7 σ h fs hk iv I c72 E19 kq
    refine wp1 (fun n d => r_iload f272_47 rfl) ?_
    refine wp1 (fun n d => r_aloadn f272_49 rfl) ?_
    refine w_get f272_50 c72 E19 ?_
    exact w_icmp_ge f272_53 (fun e => kq σ h x5 x6 x7 iv I (dG_refl _ _ _)) (fun e => absurd e (by omega))
  | succ k ih =>
    intro x5 x6 x7 σ h fs hk iv I c72 E19 kq
    refine wp1 (fun n d => r_iload f272_47 rfl) ?_
    refine wp1 (fun n d => r_aloadn f272_49 rfl) ?_
    refine w_get f272_50 c72 E19 ?_
    refine w_icmp_ge f272_53 (fun e53 => absurd e53 (by omega)) (fun e53 => ?_)
    have k148 : ∀ (σ1 : List Nat) (h1 : aH) (y5 y6 : Int32), -1 ≤ y6.toInt → y6.toInt ≤ 299 → dI σ1 h1 → dG cC163.2.2.1 σ h σ1 h1 → Wp X D zM272 Q 148 [some (.ref 72), some (.int x1), some (.int x2), some (.int x3), some (.int x4), some (.int y5), some (.int y6), some (.int x7), u8, u9, u10, u11] [] h1 := by
      intro σ1 h1 y5 y6 p0 p1 I1 G1
      obtain ⟨fs1, d72, dfs⟩ := dG_o I.1 G1 c72 (by decide)
      have K19 := (dfs 19 rfl).trans E19
      refine w_iinc f272_148 rfl (by omega) (by omega) (fun v148 hv148 => ?_)
      show Wp _ _ _ _ 151 [some (.ref 72), some (.int x1), some (.int x2), some (.int x3), some (.int x4), some (.int y5), some (.int y6), some (.int v148), u8, u9, u10, u11] [] _
      refine wp1 (fun n d => r_goto f272_151) ?_
      exact ih y5 y6 v148 σ1 h1 fs1 (by omega) (by omega) I1 d72 K19 (fun σ' h' x5' x6' x7' ix I' G' => kq σ' h' x5' x6' x7' ix I' (dG_trans G1 G'))
    refine wp1 (fun n d => r_aloadn f272_56 rfl) ?_
    have F1001 := hI_r I c72 (f := 40) (q := 103) (by decide +kernel)
    refine w_get f272_57 c72 F1001 ?_
    refine wp1 (fun n d => r_iload f272_60 rfl) ?_
    obtain ⟨g1002, c1002, R1002⟩ := hI_a I (r := 103) (a := 2) (n := 300) (lo := 0) (hi := 1) (by decide +kernel)
    refine w_zald f272_62 c1002 (by omega) (by omega) (fun v62 hv62 => ?_)
    have bv62 := R1002 x7.toInt.toNat (by omega)
    rw [← hv62] at bv62
    refine w_if_eq f272_63 (fun e63 => k148 _ _ x5 x6 (by omega) (by omega) I (dG_refl _ _ _)) (fun e63 => ?_)
    refine wp1 (fun n d => r_aloadn f272_66 rfl) ?_
    have F1003 := hI_r I c72 (f := 20) (q := 87) (by decide +kernel)
    refine w_get f272_67 c72 F1003 ?_
    refine wp1 (fun n d => r_iload f272_70 rfl) ?_
    obtain ⟨g1004, c1004, R1004⟩ := hI_a I (r := 87) (a := 0) (n := 300) (lo := 0) (hi := 149) (by decide +kernel)
    refine w_iald f272_72 c1004 (by omega) (by omega) (fun v72 hv72 => ?_)
    have bv72 := R1004 x7.toInt.toNat (by omega)
    rw [← hv72] at bv72
    refine wp1 (fun n d => r_iloadn f272_73 rfl) ?_
    refine w_icmp_ne f272_74 (fun e74 => k148 _ _ x5 x6 (by omega) (by omega) I (dG_refl _ _ _)) (fun e74 => ?_)
    refine wp1 (fun n d => r_aloadn f272_77 rfl) ?_
    refine wp1 (fun n d => r_iload f272_78 rfl) ?_
    refine wp_good GY (Y := zM229) (show zmt[229]? = some zM229 from rfl) I (ρ := [0, x7.toInt]) (dK_v (kV_of rfl ⟨⟨by decide, by decide⟩, ⟨by show (0 : Int) ≤ _; omega, by show _ ≤ (299 : Int); omega⟩, trivial⟩)) (dL_of (l := [some (.ref 72), some (.int x7)]) ⟨lw_r (by decide), lw_i rfl, trivial⟩) (fun n d v h' e => r_virt (as := [.int x7]) (r := []) f272_80 c72 (show zmt[229]? = some zM229 from rfl) rfl rfl rfl rfl rfl rfl e) (by first | decide | (show 0 + 1 ≤ _; omega)) (fun v h1005 σ1005 I1005 G1005 P1005 => ?_)
    obtain ⟨v80, rfl, p80, q80⟩ := rpost_i P1005 rfl
    have p80 : (-5883516) ≤ v80.toInt := p80
    have q80 : v80.toInt ≤ 5883516 := q80
    show Wp _ _ _ _ 83 [some (.ref 72), some (.int x1), some (.int x2), some (.int x3), some (.int x4), some (.int x5), some (.int x6), some (.int x7), u8, u9, u10, u11] [.int v80] _
    obtain ⟨fs1006, c1006, df1006⟩ := dG_o I.1 G1005 c72 (by decide)
    have F1007 := (df1006 19 rfl).trans E19
    have F1008 := (df1006 40 rfl).trans F1001
    have F1009 := (df1006 20 rfl).trans F1003
    have c1010 := dG_a I.1 G1005 c1002 (by decide) rfl
    have c1011 := dG_a I.1 G1005 c1004 (by decide) rfl
    refine wp1 (fun n d => r_iloadn f272_83 rfl) ?_
    refine w_icmp_eq f272_84 (fun e84 => ?_) (fun e84 => ?_)
    rotate_left
    · refine wp1 (fun n d => r_goto f272_87) ?_
      exact k148 _ _ x5 x6 (by omega) (by omega) I1005 (dG_sub (by decide) G1005)
    refine wp1 (fun n d => r_aloadn f272_90 rfl) ?_
    have F1012 := hI_r I1005 c1006 (f := 72) (q := 126) (by decide +kernel)
    refine w_get f272_91 c1006 F1012 ?_
    refine wp1 (fun n d => r_aloadn f272_94 rfl) ?_
    have F1013 := hI_r I1005 c1006 (f := 22) (q := 89) (by decide +kernel)
    refine w_get f272_95 c1006 F1013 ?_
    refine wp1 (fun n d => r_iload f272_98 rfl) ?_
    obtain ⟨g1014, c1014, R1014⟩ := hI_a I1005 (r := 89) (a := 0) (n := 300) (lo := 0) (hi := 7) (by decide +kernel)
    refine w_iald f272_100 c1014 (by omega) (by omega) (fun v100 hv100 => ?_)
    have bv100 := R1014 x7.toInt.toNat (by omega)
    rw [← hv100] at bv100
    refine wp1 (fun n d => r_dup2 f272_101 rfl) ?_
    obtain ⟨g1015, c1015, R1015⟩ := hI_a I1005 (r := 126) (a := 0) (n := 8) (lo := (-2147483648)) (hi := 2147483647) (by decide +kernel)
    refine w_iald f272_102 c1015 (by omega) (by omega) (fun v102 hv102 => ?_)
    have bv102 := R1015 v100.toInt.toNat (by omega)
    rw [← hv102] at bv102
    refine wp1 (fun n d => r_aloadn f272_103 rfl) ?_
    have F1016 := hI_r I1005 c1006 (f := 41) (q := 104) (by decide +kernel)
    refine w_get f272_104 c1006 F1016 ?_
    refine wp1 (fun n d => r_iload f272_107 rfl) ?_
    obtain ⟨g1017, c1017, R1017⟩ := hI_a I1005 (r := 104) (a := 0) (n := 300) (lo := (-2147483648)) (hi := 2147483647) (by decide +kernel)
    refine w_iald f272_109 c1017 (by omega) (by omega) (fun v109 hv109 => ?_)
    have bv109 := R1017 x7.toInt.toNat (by omega)
    rw [← hv109] at bv109
    refine w_iadd' f272_110 (fun v110 => ?_)
    refine w_iastI f272_111 c1015 (by omega) (by omega) I1005 (W := cC163.2.2.1) (lo := (-2147483648)) (hi := 2147483647) (by decide +kernel) (by decide) (iR v110).1 (iR v110).2 (fun h1018 I1018 G1018 c1018 ne1018 => ?_)
    obtain ⟨g1018, hg1018⟩ : ∃ g', g' = upd g1015 v100.toInt.toNat v110 := ⟨_, rfl⟩
    rw [← hg1018] at c1018
    have c1019 := (ne1018 72 (by decide)).trans c1006
    have c1020 := (ne1018 103 (by decide)).trans c1010
    have c1021 := (ne1018 87 (by decide)).trans c1011
    have c1022 := (ne1018 89 (by decide)).trans c1014
    have c1023 := (ne1018 104 (by decide)).trans c1017
    have k141 : ∀ v : Int32, Wp X D zM272 Q 141 [some (.ref 72), some (.int x1), some (.int x2), some (.int x3), some (.int x4), some (.int x5), some (.int x6), some (.int x7), u8, u9, u10, u11] [.int v, .int x5] h1018 := by
      intro v
      refine w_iadd' f272_141 (fun v141 => ?_)
      refine wp1 (fun n d => r_istore (L' := [some (.ref 72), some (.int x1), some (.int x2), some (.int x3), some (.int x4), some (.int v141), some (.int x6), some (.int x7), u8, u9, u10, u11]) f272_142 rfl rfl) ?_
      refine wp1 (fun n d => r_iload f272_144 rfl) ?_
      refine wp1 (fun n d => r_istore (L' := [some (.ref 72), some (.int x1), some (.int x2), some (.int x3), some (.int x4), some (.int v141), some (.int x7), some (.int x7), u8, u9, u10, u11]) f272_146 rfl rfl) ?_
      exact k148 _ _ v141 x7 (by omega) (by omega) I1018 (dG_trans (dG_sub (by decide) G1005) G1018)
    refine wp1 (fun n d => r_iload f272_112 rfl) ?_
    refine wp1 (fun n d => r_aloadn f272_114 rfl) ?_
    have F1024 := hI_r I1018 c1019 (f := 3) (q := 73) (by decide +kernel)
    refine w_get f272_115 c1019 F1024 ?_
    refine wp1 (fun n d => r_aloadn f272_118 rfl) ?_
    have F1025 := hI_r I1018 c1019 (f := 21) (q := 88) (by decide +kernel)
    refine w_get f272_119 c1019 F1025 ?_
    refine wp1 (fun n d => r_iload f272_122 rfl) ?_
    obtain ⟨g1026, c1026, R1026⟩ := hI_a I1018 (r := 88) (a := 0) (n := 300) (lo := 0) (hi := 149) (by decide +kernel)
    refine w_iald f272_124 c1026 (by omega) (by omega) (fun v124 hv124 => ?_)
    have bv124 := R1026 x7.toInt.toNat (by omega)
    rw [← hv124] at bv124
    obtain ⟨g1027, c1027, R1027⟩ := hI_a I1018 (r := 73) (a := 0) (n := 150) (lo := 0) (hi := 7) (by decide +kernel)
    refine w_iald f272_125 c1027 (by omega) (by omega) (fun v125 hv125 => ?_)
    have bv125 := R1027 v124.toInt.toNat (by omega)
    rw [← hv125] at bv125
    refine w_iconst f272_126 (fun v126 hv126 => ?_)
    refine w_icmp_ne f272_127 (fun e127 => ?_) (fun e127 => ?_)
    · refine w_iconst f272_140 (fun v140 hv140 => ?_)
      exact k141 v140
    · refine wp1 (fun n d => r_aloadn f272_130 rfl) ?_
      refine w_get f272_131 c1019 F1016 ?_
      refine wp1 (fun n d => r_iload f272_134 rfl) ?_
      refine w_iald f272_136 c1023 (by omega) (by omega) (fun v136 hv136 => ?_)
      have bv136 := R1017 x7.toInt.toNat (by omega)
      rw [← hv136] at bv136
      refine wp1 (fun n d => r_goto f272_137) ?_
      exact k141 v136
theorem ffC {X : aX} {D : Nat} {Q : Option Value → aH → Prop} {x1 x2 x3 x4 x5 x6 : Int32} {u10 u11 : Option Value} (GG : dGood X cC322) (hD : 1 ≤ D)  : ∀ (k : Nat) (x7 : Int32) (x8 : Int32) (x9 : Int32) (σ : List Nat) (h : aH) (fs : List Value), (8 - x9.toInt).toNat = k → 0 ≤ x9.toInt → dI σ h → h.1[72]? = some (.inr (12, fs)) →
    (∀ (σ' : List Nat) (h' : aH) (x7' : Int32) (x8' : Int32) (x9' : Int32), 0 ≤ x9'.toInt → dI σ' h' → dG cC163.2.2.1 σ h σ' h' → Wp X D zM272 Q 210 [some (.ref 72), some (.int x1), some (.int x2), some (.int x3), some (.int x4), some (.int x5), some (.int x6), some (.int x7'), some (.int x8'), some (.int x9'), u10, u11] [] h') → Wp X D zM272 Q 163 [some (.ref 72), some (.int x1), some (.int x2), some (.int x3), some (.int x4), some (.int x5), some (.int x6), some (.int x7), some (.int x8), some (.int x9), u10, u11] [] h := by
  intro k
  induction k with
  | zero =>
    intro x7 x8 x9 σ h fs hk iv I c72  kq
    refine wp1 (fun n d => r_iload f272_163 rfl) ?_
    refine w_bipush f272_165 (fun v165 hv165 => ?_)
    exact w_icmp_ge f272_167 (fun e => kq σ h x7 x8 x9 iv I (dG_refl _ _ _)) (fun e => absurd e (by omega))
  | succ k ih =>
    intro x7 x8 x9 σ h fs hk iv I c72  kq
    refine wp1 (fun n d => r_iload f272_163 rfl) ?_
    refine w_bipush f272_165 (fun v165 hv165 => ?_)
    refine w_icmp_ge f272_167 (fun e167 => absurd e167 (by omega)) (fun e167 => ?_)
    refine wp1 (fun n d => r_iload f272_170 rfl) ?_
    refine wp1 (fun n d => r_aloadn f272_172 rfl) ?_
    have F1001 := hI_r I c72 (f := 72) (q := 126) (by decide +kernel)
    refine w_get f272_173 c72 F1001 ?_
    refine wp1 (fun n d => r_iload f272_176 rfl) ?_
    obtain ⟨g1002, c1002, R1002⟩ := hI_a I (r := 126) (a := 0) (n := 8) (lo := (-2147483648)) (hi := 2147483647) (by decide +kernel)
    refine w_iald f272_178 c1002 (by omega) (by omega) (fun v178 hv178 => ?_)
    have bv178 := R1002 x9.toInt.toNat (by omega)
    rw [← hv178] at bv178
    have k187 : ∀ v : Int32, Wp X D zM272 Q 187 [some (.ref 72), some (.int x1), some (.int x2), some (.int x3), some (.int x4), some (.int x5), some (.int x6), some (.int x7), some (.int x8), some (.int x9), u10, u11] [.int v, .int x7] h := by
      intro v
      refine w_iadd' f272_187 (fun v187 => ?_)
      refine wp1 (fun n d => r_istore (L' := [some (.ref 72), some (.int x1), some (.int x2), some (.int x3), some (.int x4), some (.int x5), some (.int x6), some (.int v187), some (.int x8), some (.int x9), u10, u11]) f272_188 rfl rfl) ?_
      refine wp1 (fun n d => r_iload f272_190 rfl) ?_
      refine wp1 (fun n d => r_aloadn f272_192 rfl) ?_
      refine w_get f272_193 c72 F1001 ?_
      refine wp1 (fun n d => r_iload f272_196 rfl) ?_
      refine w_iald f272_198 c1002 (by omega) (by omega) (fun v198 hv198 => ?_)
      have bv198 := R1002 x9.toInt.toNat (by omega)
      rw [← hv198] at bv198
      refine wp_good GG (Y := zM212) (show zmt[212]? = some zM212 from rfl) I (ρ := [0, x8.toInt, v198.toInt]) (dK_v (kV_of rfl ⟨⟨by decide, by decide⟩, iR x8, iR v198, trivial⟩)) (dL_of (l := [some (.int x8), some (.int v198)]) ⟨lw_i rfl, lw_i rfl, trivial⟩) (fun n d v h' e => r_stat (as := [.int x8, .int v198]) (r := []) f272_199 rfl (show zmt[212]? = some zM212 from rfl) rfl rfl rfl rfl rfl rfl e) (by first | decide | (show 0 + 1 ≤ _; omega)) (fun v h1003 σ1003 I1003 G1003 P1003 => ?_)
      obtain ⟨v199, rfl, p199, q199⟩ := rpost_i P1003 rfl
      have p199 : (-2147483648) ≤ v199.toInt := p199
      have q199 : v199.toInt ≤ 2147483647 := q199
      show Wp _ _ _ _ 202 [some (.ref 72), some (.int x1), some (.int x2), some (.int x3), some (.int x4), some (.int x5), some (.int x6), some (.int v187), some (.int x8), some (.int x9), u10, u11] [.int v199] _
      obtain ⟨fs1004, c1004, df1004⟩ := dG_o I.1 G1003 c72 (by decide)
      have F1005 := (df1004 72 rfl).trans F1001
      have c1006 := dG_a I.1 G1003 c1002 (by decide) rfl
      refine wp1 (fun n d => r_istore (L' := [some (.ref 72), some (.int x1), some (.int x2), some (.int x3), some (.int x4), some (.int x5), some (.int x6), some (.int v187), some (.int v199), some (.int x9), u10, u11]) f272_202 rfl rfl) ?_
      refine w_iinc f272_204 rfl (by omega) (by omega) (fun v204 hv204 => ?_)
      show Wp _ _ _ _ 207 [some (.ref 72), some (.int x1), some (.int x2), some (.int x3), some (.int x4), some (.int x5), some (.int x6), some (.int v187), some (.int v199), some (.int v204), u10, u11] [] _
      refine wp1 (fun n d => r_goto f272_207) ?_
      exact ih v187 v199 v204 σ1003 h1003 fs1004 (by omega) (by omega) I1003 c1004  (fun σ' h' x7' x8' x9' ix I' G' => kq σ' h' x7' x8' x9' ix I' (dG_trans (dG_sub (by decide) G1003) G'))
    refine w_if_le f272_179 (fun _ => ?_) (fun _ => ?_)
    · refine w_iconst f272_186 (fun v186 hv186 => ?_)
      exact k187 v186
    · refine w_iconst f272_182 (fun v182 hv182 => ?_)
      refine wp1 (fun n d => r_goto f272_183) ?_
      exact k187 v182
theorem ffD {X : aX} {D : Nat} {Q : Option Value → aH → Prop} {x1 x2 x3 x4 x5 x6 x7 x8 : Int32} {u11 : Option Value} (GS : dGood X cC157) (hD : 2 ≤ D) (f0 : 0 ≤ x1.toInt) (f1 : x1.toInt ≤ 149) (y0 : 0 ≤ x2.toInt) (y1 : x2.toInt ≤ 9) (d0 : 0 ≤ x3.toInt) (d1 : x3.toInt ≤ 3649) : ∀ (k : Nat) (x9 : Int32) (x10 : Int32) (σ : List Nat) (h : aH) (fs : List Value), (x2.toInt - x10.toInt).toNat = k → 0 ≤ x10.toInt → dI σ h → h.1[72]? = some (.inr (12, fs)) →
    (∀ (σ' : List Nat) (h' : aH) (x9' : Int32) (x10' : Int32), 0 ≤ x10'.toInt → dI σ' h' → dG cC163.2.2.1 σ h σ' h' → Wp X D zM272 Q 257 [some (.ref 72), some (.int x1), some (.int x2), some (.int x3), some (.int x4), some (.int x5), some (.int x6), some (.int x7), some (.int x8), some (.int x9'), some (.int x10'), u11] [] h') → Wp X D zM272 Q 216 [some (.ref 72), some (.int x1), some (.int x2), some (.int x3), some (.int x4), some (.int x5), some (.int x6), some (.int x7), some (.int x8), some (.int x9), some (.int x10), u11] [] h := by
  intro k
  induction k with
  | zero =>
    intro x9 x10 σ h fs hk iv I c72  kq
    refine wp1 (fun n d => r_iload f272_216 rfl) ?_
    refine wp1 (fun n d => r_iloadn f272_218 rfl) ?_
    exact w_icmp_ge f272_219 (fun e => kq σ h x9 x10 iv I (dG_refl _ _ _)) (fun e => absurd e (by omega))
  | succ k ih =>
    intro x9 x10 σ h fs hk iv I c72  kq
    refine wp1 (fun n d => r_iload f272_216 rfl) ?_
    refine wp1 (fun n d => r_iloadn f272_218 rfl) ?_
    refine w_icmp_ge f272_219 (fun e219 => absurd e219 (by omega)) (fun e219 => ?_)
    refine wp1 (fun n d => r_iload f272_222 rfl) ?_
    refine wp1 (fun n d => r_aloadn f272_224 rfl) ?_
    refine wp1 (fun n d => r_iloadn f272_225 rfl) ?_
    refine wp1 (fun n d => r_iload f272_226 rfl) ?_
    refine w_iconst f272_228 (fun v228 hv228 => ?_)
    refine wp_good GS (Y := zM270) (show zmt[270]? = some zM270 from rfl) I (ρ := [0, x1.toInt, x10.toInt, v228.toInt]) (dK_v (kV_of rfl ⟨⟨by decide, by decide⟩, ⟨by show (0 : Int) ≤ _; omega, by show _ ≤ (149 : Int); omega⟩, ⟨by show (0 : Int) ≤ _; omega, by show _ ≤ (9 : Int); omega⟩, ⟨by show (0 : Int) ≤ _; omega, by show _ ≤ (1 : Int); omega⟩, trivial⟩)) (dL_of (l := [some (.ref 72), some (.int x1), some (.int x10), some (.int v228), none, none]) ⟨lw_r (by decide), lw_i rfl, lw_i rfl, lw_i rfl, lw_0, lw_0, trivial⟩) (fun n d v h' e => r_virt (as := [.int x1, .int x10, .int v228]) (r := [.int x9]) f272_229 c72 (show zmt[270]? = some zM270 from rfl) rfl rfl rfl rfl rfl rfl e) (by first | decide | (show 1 + 1 ≤ _; omega)) (fun v h1001 σ1001 I1001 G1001 P1001 => ?_)
    obtain ⟨v229, rfl, p229, q229⟩ := rpost_i P1001 rfl
    have p229 : (-2147483648) ≤ v229.toInt := p229
    have q229 : v229.toInt ≤ 2147483647 := q229
    show Wp _ _ _ _ 232 [some (.ref 72), some (.int x1), some (.int x2), some (.int x3), some (.int x4), some (.int x5), some (.int x6), some (.int x7), some (.int x8), some (.int x9), some (.int x10), u11] [.int v229, .int x9] _
    obtain ⟨fs1002, c1002, df1002⟩ := dG_o I.1 G1001 c72 (by decide)
    refine wp1 (fun n d => r_aloadn f272_232 rfl) ?_
    refine wp1 (fun n d => r_iloadn f272_233 rfl) ?_
    refine wp1 (fun n d => r_iload f272_234 rfl) ?_
    refine w_iconst f272_236 (fun v236 hv236 => ?_)
    refine wp_good GS (Y := zM270) (show zmt[270]? = some zM270 from rfl) I1001 (ρ := [0, x1.toInt, x10.toInt, v236.toInt]) (dK_v (kV_of rfl ⟨⟨by decide, by decide⟩, ⟨by show (0 : Int) ≤ _; omega, by show _ ≤ (149 : Int); omega⟩, ⟨by show (0 : Int) ≤ _; omega, by show _ ≤ (9 : Int); omega⟩, ⟨by show (0 : Int) ≤ _; omega, by show _ ≤ (1 : Int); omega⟩, trivial⟩)) (dL_of (l := [some (.ref 72), some (.int x1), some (.int x10), some (.int v236), none, none]) ⟨lw_r (by decide), lw_i rfl, lw_i rfl, lw_i rfl, lw_0, lw_0, trivial⟩) (fun n d v h' e => r_virt (as := [.int x1, .int x10, .int v236]) (r := [.int v229, .int x9]) f272_237 c1002 (show zmt[270]? = some zM270 from rfl) rfl rfl rfl rfl rfl rfl e) (by first | decide | (show 1 + 1 ≤ _; omega)) (fun v h1003 σ1003 I1003 G1003 P1003 => ?_)
    obtain ⟨v237, rfl, p237, q237⟩ := rpost_i P1003 rfl
    have p237 : (-2147483648) ≤ v237.toInt := p237
    have q237 : v237.toInt ≤ 2147483647 := q237
    show Wp _ _ _ _ 240 [some (.ref 72), some (.int x1), some (.int x2), some (.int x3), some (.int x4), some (.int x5), some (.int x6), some (.int x7), some (.int x8), some (.int x9), some (.int x10), u11] [.int v237, .int v229, .int x9] _
    obtain ⟨fs1004, c1004, df1004⟩ := dG_o I1001.1 G1003 c1002 (by decide)
    have k248 : ∀ v : Int32, Wp X D zM272 Q 248 [some (.ref 72), some (.int x1), some (.int x2), some (.int x3), some (.int x4), some (.int x5), some (.int x6), some (.int x7), some (.int x8), some (.int x9), some (.int x10), u11] [.int v, .int x9] h1003 := by
      intro v
      refine w_iadd' f272_248 (fun v248 => ?_)
      refine wp1 (fun n d => r_istore (L' := [some (.ref 72), some (.int x1), some (.int x2), some (.int x3), some (.int x4), some (.int x5), some (.int x6), some (.int x7), some (.int x8), some (.int v248), some (.int x10), u11]) f272_249 rfl rfl) ?_
      refine w_iinc f272_251 rfl (by omega) (by omega) (fun v251 hv251 => ?_)
      show Wp _ _ _ _ 254 [some (.ref 72), some (.int x1), some (.int x2), some (.int x3), some (.int x4), some (.int x5), some (.int x6), some (.int x7), some (.int x8), some (.int v248), some (.int v251), u11] [] _
      refine wp1 (fun n d => r_goto f272_254) ?_
      exact ih v248 v251 σ1003 h1003 fs1004 (by omega) (by omega) I1003 c1004  (fun σ' h' x9' x10' ix I' G' => kq σ' h' x9' x10' ix I' (dG_trans (dG_trans (dG_sub (by decide) G1001) (dG_sub (by decide) G1003)) G'))
    refine w_icmp_le f272_240 (fun _ => ?_) (fun _ => ?_)
    · refine w_iconst f272_247 (fun v247 hv247 => ?_)
      exact k248 v247
    · refine w_iconst f272_243 (fun v243 hv243 => ?_)
      refine wp1 (fun n d => r_goto f272_244) ?_
      exact k248 v243
def hF : List Nat := [2, 5, 14, 15, 16, 17, 18]
def hA : List Nat := [75, 83, 84, 85, 86]
theorem hAll : lkAll hF [226] = true := by decide +kernel
theorem hH0 {σ : List Nat} {h : aH} (I : dI σ h) : lkH hF hA h h := lkH_of I (by decide +kernel)
theorem hH1 {σ σ' : List Nat} {h h' : aH} (I : dI σ h) (G : dG cC184.2.2.1 σ h σ' h') : lkH hF hA h h' := lkH_dG (hH0 I) I.1 G (by decide +kernel)
def hSp (X : aX) (h0 : aH) (z k : Int32) (fh : Nat → Int32) : Prop := ∀ (b dd : Int32), 0 ≤ b.toInt → b.toInt ≤ 149 → dd.toInt = z.toInt → ∀ h', lkH hF hA h0 h' → pA X 0 226 [some (.ref 72), some (.int b), some (.int dd), some (.int k), none, none] h' (fh b.toInt.toNat)
theorem hol_of {X : aX} (GH : dGood X cC311) {σ : List Nat} {h : aH} (I : dI σ h) {z k : Int32} (z0 : 0 ≤ z.toInt) (z1 : z.toInt ≤ 3649) : ∃ f : Nat → Int32, hSp X h z k f := by
  have : ∀ n : Nat, ∃ v : Int32, n ≤ 149 → ∀ b : Int32, b.toInt = n → ∀ h', lkH hF hA h h' → pA X 0 226 [some (.ref 72), some (.int b), some (.int z), some (.int k), none, none] h' v := by
    intro n
    by_cases hn : n ≤ 149
    · have e : (Int32.ofInt n).toInt = n := Int32.toInt_ofInt_of_le (by omega) (by omega)
      obtain ⟨v, -, -, q⟩ := pA_of GH (Y := zM226) rfl I (ρ := [0, (Int32.ofInt n).toInt, z.toInt, k.toInt]) (l1 := [some (.ref 72), some (.int (Int32.ofInt n)), some (.int z), some (.int k), none, none]) (dK_v (kV_of rfl ⟨⟨by decide, by decide⟩, ⟨by show (0 : Int) ≤ _; omega, by show _ ≤ (149 : Int); omega⟩, ⟨by show (0 : Int) ≤ _; omega, by show _ ≤ (3649 : Int); omega⟩, iR k, trivial⟩)) (dL_of ⟨lw_r (by decide), lw_i rfl, lw_i rfl, lw_i rfl, lw_0, lw_0, trivial⟩) hAll (by decide) (hH0 I) (lkL_ri [Int32.ofInt n, z, k] 2) rfl
      refine ⟨v, fun _ b hb h' H => ?_⟩
      have : b = Int32.ofInt n := b_i.mpr (by omega)
      rw [this]
      exact q h' H
    · exact ⟨0, fun q => absurd q hn⟩
  obtain ⟨f, hf⟩ := Classical.skolem.mp this
  refine ⟨f, fun b dd h1 h2 h3 h' H => ?_⟩
  have : dd = z := b_i.mpr h3
  subst this
  exact hf b.toInt.toNat (by omega) b (by omega) h' H
def pH (gk fh : Nat → Int32) (f : Int) (b : Nat) : Bool := decide ((gk b).toInt = 6) && decide ((fh b).toInt = f)
theorem pH_1 {gk fh : Nat → Int32} {f : Int} {b : Nat} (h1 : (gk b).toInt = 6) (h2 : (fh b).toInt = f) : pH gk fh f b = true := by
  unfold pH
  rw [Bool.and_eq_true, decide_eq_true_eq, decide_eq_true_eq]
  exact ⟨h1, h2⟩
theorem pH_0 {gk fh : Nat → Int32} {f : Int} {b : Nat} (h : (gk b).toInt ≠ 6 ∨ (fh b).toInt ≠ f) : pH gk fh f b = false := by
  cases e : pH gk fh f b with
  | false => rfl
  | true =>
    unfold pH at e
    rw [Bool.and_eq_true, decide_eq_true_eq, decide_eq_true_eq] at e
    rcases h with q | q
    · exact absurd e.1 q
    · exact absurd e.2 q
theorem ffE {X : aX} {D : Nat} {Q : Option Value → aH → Prop} {x1 x2 x3 x4 x5 x6 x7 x8 x9 nb z : Int32} {h0 h : aH} {fs : List Value} {gk fh : Nat → Int32} (hD : 1 ≤ D) (y0 : 0 ≤ x2.toInt) (y1 : x2.toInt ≤ 9) (hz : z.toInt = 365 * x2.toInt + 364) (n0 : 0 ≤ nb.toInt) (n1 : nb.toInt ≤ 150) (S : hSp X h0 z x3 fh) (lk : lkH hF hA h0 h) (c72 : h.1[72]? = some (.inr (12, fs))) (E2 : fs[2]? = some (.int nb)) (E3 : fs[3]? = some (.ref 73)) (c73 : h.1[73]? = some (.inl (0, 150, .inl gk)))
    (kq : ∀ (y10 y11 : Int32), y10.toInt = cntP (pH gk fh x1.toInt) nb.toInt.toNat → Wp X D zM272 Q 322 [some (.ref 72), some (.int x1), some (.int x2), some (.int x3), some (.int x4), some (.int x5), some (.int x6), some (.int x7), some (.int x8), some (.int x9), some (.int y10), some (.int y11)] [] h) : ∀ (k : Nat) (x10 x11 : Int32), (nb.toInt - x11.toInt).toNat = k → 0 ≤ x11.toInt → x11.toInt ≤ nb.toInt → x10.toInt = cntP (pH gk fh x1.toInt) x11.toInt.toNat → Wp X D zM272 Q 263 [some (.ref 72), some (.int x1), some (.int x2), some (.int x3), some (.int x4), some (.int x5), some (.int x6), some (.int x7), some (.int x8), some (.int x9), some (.int x10), some (.int x11)] [] h := by
  intro k
  induction k with
  | zero =>
    intro x10 x11 hk a0 a1 hc
    refine wp1 (fun n d => r_iload f272_263 rfl) ?_
    refine wp1 (fun n d => r_aloadn f272_265 rfl) ?_
    refine w_get f272_266 c72 E2 ?_
    refine w_icmp_ge f272_269 (fun e => kq x10 x11 ?_) (fun e => absurd e (by omega))
    rw [show nb.toInt.toNat = x11.toInt.toNat by omega]
    exact hc
  | succ k ih =>
    intro x10 x11 hk a0 a1 hc
    have hle := cntP_le (pH gk fh x1.toInt) x11.toInt.toNat
    have hc1 : cntP (pH gk fh x1.toInt) (x11.toInt.toNat + 1) = cntP (pH gk fh x1.toInt) x11.toInt.toNat + (if pH gk fh x1.toInt x11.toInt.toNat = true then 1 else 0) := rfl
    refine wp1 (fun n d => r_iload f272_263 rfl) ?_
    refine wp1 (fun n d => r_aloadn f272_265 rfl) ?_
    refine w_get f272_266 c72 E2 ?_
    refine w_icmp_ge f272_269 (fun e269 => absurd e269 (by omega)) (fun e269 => ?_)
    have k313 : ∀ v : Int32, 0 ≤ v.toInt → v.toInt ≤ 1 → (v.toInt = if pH gk fh x1.toInt x11.toInt.toNat = true then 1 else 0) → Wp X D zM272 Q 313 [some (.ref 72), some (.int x1), some (.int x2), some (.int x3), some (.int x4), some (.int x5), some (.int x6), some (.int x7), some (.int x8), some (.int x9), some (.int x10), some (.int x11)] [.int v, .int x10] h := by
      intro v v0 v1 hv
      refine w_iadd f272_313 (by omega) (by omega) (fun v313 hv313 => ?_)
      refine wp1 (fun n d => r_istore (L' := [some (.ref 72), some (.int x1), some (.int x2), some (.int x3), some (.int x4), some (.int x5), some (.int x6), some (.int x7), some (.int x8), some (.int x9), some (.int v313), some (.int x11)]) f272_314 rfl rfl) ?_
      refine w_iinc f272_316 rfl (by omega) (by omega) (fun v316 hv316 => ?_)
      show Wp _ _ _ _ 319 [some (.ref 72), some (.int x1), some (.int x2), some (.int x3), some (.int x4), some (.int x5), some (.int x6), some (.int x7), some (.int x8), some (.int x9), some (.int v313), some (.int v316)] [] _
      refine wp1 (fun n d => r_goto f272_319) ?_
      refine ih v313 v316 (by omega) (by omega) (by omega) ?_
      rw [show v316.toInt.toNat = x11.toInt.toNat + 1 by omega, hc1, hv313, hv, hc]
      split <;> omega
    have k312 : pH gk fh x1.toInt x11.toInt.toNat = false → Wp X D zM272 Q 312 [some (.ref 72), some (.int x1), some (.int x2), some (.int x3), some (.int x4), some (.int x5), some (.int x6), some (.int x7), some (.int x8), some (.int x9), some (.int x10), some (.int x11)] [.int x10] h := by
      intro e
      refine w_iconst f272_312 (fun v hv => ?_)
      exact k313 v (by omega) (by omega) (by rw [e]; exact hv)
    refine wp1 (fun n d => r_iload f272_272 rfl) ?_
    refine wp1 (fun n d => r_aloadn f272_274 rfl) ?_
    refine w_get f272_275 c72 E3 ?_
    refine wp1 (fun n d => r_iload f272_278 rfl) ?_
    refine w_iald f272_280 c73 (by omega) (by omega) (fun v280 hv280 => ?_)
    refine w_bipush f272_281 (fun v281 hv281 => ?_)
    refine w_icmp_ne f272_283 (fun e283 => k312 (pH_0 (Or.inl (by rw [← hv280]; omega)))) (fun e283 => ?_)
    refine wp1 (fun n d => r_aloadn f272_286 rfl) ?_
    refine wp1 (fun n d => r_iload f272_287 rfl) ?_
    refine w_sipush f272_289 (fun v289 hv289 => ?_)
    refine wp1 (fun n d => r_iloadn f272_292 rfl) ?_
    refine w_imul f272_293 (by rw [hv289]; omega) (by rw [hv289]; omega) (fun v293 hv293 => ?_)
    rw [hv289] at hv293
    refine w_sipush f272_294 (fun v294 hv294 => ?_)
    refine w_iadd f272_297 (by omega) (by omega) (fun v297 hv297 => ?_)
    refine w_iconst f272_298 (fun v298 hv298 => ?_)
    refine w_isub f272_299 (by omega) (by omega) (fun v299 hv299 => ?_)
    refine wp1 (fun n d => r_iloadn f272_300 rfl) ?_
    refine wp_pA (Y := zM226) (r := [.int x10]) (show zmt[226]? = some zM226 from rfl) (S x11 v299 (by omega) (by omega) (by omega) _ lk) (fun n d v h' e => r_virt (as := [.int x11, .int v299, .int x3]) (r := [.int x10]) f272_301 c72 (show zmt[226]? = some zM226 from rfl) rfl rfl rfl rfl rfl rfl e) (by omega) ?_
    show Wp _ _ _ _ 304 [some (.ref 72), some (.int x1), some (.int x2), some (.int x3), some (.int x4), some (.int x5), some (.int x6), some (.int x7), some (.int x8), some (.int x9), some (.int x10), some (.int x11)] [.int (fh x11.toInt.toNat), .int x10] _
    refine wp1 (fun n d => r_iloadn f272_304 rfl) ?_
    refine w_icmp_ne f272_305 (fun e305 => k312 (pH_0 (Or.inr e305))) (fun e305 => ?_)
    refine w_iconst f272_308 (fun v308 hv308 => ?_)
    refine wp1 (fun n d => r_goto f272_309) ?_
    exact k313 v308 (by omega) (by omega) (by rw [if_pos (pH_1 (by rw [← hv280]; omega) e305)]; exact hv308)
theorem ffT {X : aX} {D : Nat} {x1 x2 x3 x4 x5 x6 x7 x8 x9 x10 x11 : Int32} {σ0 : List Nat} {h0 : aH} (GS : dGood X cC157) (GE : dGood X cC318) (GL : dGood X cC320) (GP : dGood X cC321) (hD : 4 ≤ D) (f0 : 0 ≤ x1.toInt) (f1 : x1.toInt ≤ 149) (y0 : 0 ≤ x2.toInt) (y1 : x2.toInt ≤ 9) (d0 : 0 ≤ x3.toInt) (d1 : x3.toInt ≤ 3649) (l0 : -1 ≤ x6.toInt) (l1 : x6.toInt ≤ 299) {σ : List Nat} {h : aH} (I : dI σ h) (G : dG cC163.2.2.1 σ0 h0 σ h) : Wp X D zM272 (fun v h' => v = none ∧ ∃ (σ' : List Nat) (g : Nat → Int32), dI σ' h' ∧ dG cC163.2.2.1 σ0 h0 σ' h' ∧ h'.1[124]? = some (.inl (0, 13, .inl g)) ∧ g 9 = x10) 322 [some (.ref 72), some (.int x1), some (.int x2), some (.int x3), some (.int x4), some (.int x5), some (.int x6), some (.int x7), some (.int x8), some (.int x9), some (.int x10), some (.int x11)] [] h := by
  have k490 : ∀ (σ1 : List Nat) (h1 : aH) (v : Int32) (i11 : Int32) (g : Nat → Int32), dI σ1 h1 → dG cC163.2.2.1 σ0 h0 σ1 h1 → i11.toInt = 11 → h1.1[124]? = some (.inl (0, 13, .inl g)) → g 9 = x10 → Wp X D zM272 (fun v h' => v = none ∧ ∃ (σ' : List Nat) (g : Nat → Int32), dI σ' h' ∧ dG cC163.2.2.1 σ0 h0 σ' h' ∧ h'.1[124]? = some (.inl (0, 13, .inl g)) ∧ g 9 = x10) 490 [some (.ref 72), some (.int x1), some (.int x2), some (.int x3), some (.int x4), some (.int x5), some (.int x6), some (.int x7), some (.int x8), some (.int x9), some (.int x10), some (.int x11)] [.int v, .int i11, .ref 124] h1 := by
    intro σ1 h1 v i11 g I1 G1 hi d124 g9
    refine w_iastI f272_490 d124 (by omega) (by omega) I1 (W := cC163.2.2.1) (lo := (-2147483648)) (hi := 2147483647) (by decide +kernel) (by decide) (iR v).1 (iR v).2 (fun h1001 I1001 G1001 c1001 ne1001 => ?_)
    obtain ⟨g1001, hg1001⟩ : ∃ g', g' = upd g i11.toInt.toNat v := ⟨_, rfl⟩
    rw [← hg1001] at c1001
    refine wp1 (fun n d => r_aloadn f272_491 rfl) ?_
    obtain ⟨fs1002, c1002⟩ := hI_o I1001 (r := 72) (ci := 12) (by decide +kernel)
    have F1003 := hI_r I1001 c1002 (f := 69) (q := 124) (by decide +kernel)
    refine w_get f272_492 c1002 F1003 ?_
    refine w_bipush f272_495 (fun v495 hv495 => ?_)
    refine wp1 (fun n d => r_iload f272_497 rfl) ?_
    refine w_iastI f272_499 c1001 (by omega) (by omega) I1001 (W := cC163.2.2.1) (lo := (-2147483648)) (hi := 2147483647) (by decide +kernel) (by decide) (iR x9).1 (iR x9).2 (fun h1004 I1004 G1004 c1004 ne1004 => ?_)
    obtain ⟨g1004, hg1004⟩ : ∃ g', g' = upd g1001 v495.toInt.toNat x9 := ⟨_, rfl⟩
    rw [← hg1004] at c1004
    have c1005 := (ne1004 72 (by decide)).trans c1002
    refine wp_end (fun n d => r_vreturn f272_500 rfl) ⟨rfl, σ1, g1004, I1004, (dG_trans (dG_trans G1 G1001) G1004), c1004, ?_⟩
    rw [hg1004, pk_un (by omega), hg1001, pk_un (by omega)]
    exact g9
  have k438 : ∀ (σ1 : List Nat) (h1 : aH) (v : Int32) (i7 : Int32), dI σ1 h1 → dG cC163.2.2.1 σ0 h0 σ1 h1 → i7.toInt = 7 → Wp X D zM272 (fun v h' => v = none ∧ ∃ (σ' : List Nat) (g : Nat → Int32), dI σ' h' ∧ dG cC163.2.2.1 σ0 h0 σ' h' ∧ h'.1[124]? = some (.inl (0, 13, .inl g)) ∧ g 9 = x10) 438 [some (.ref 72), some (.int x1), some (.int x2), some (.int x3), some (.int x4), some (.int x5), some (.int x6), some (.int x7), some (.int x8), some (.int x9), some (.int x10), some (.int x11)] [.int v, .int i7, .ref 124] h1 := by
    intro σ1 h1 v i7 I1 G1 hi
    obtain ⟨g1001, c1001, R1001⟩ := hI_a I1 (r := 124) (a := 0) (n := 13) (lo := (-2147483648)) (hi := 2147483647) (by decide +kernel)
    refine w_iastI f272_438 c1001 (by omega) (by omega) I1 (W := cC163.2.2.1) (lo := (-2147483648)) (hi := 2147483647) (by decide +kernel) (by decide) (iR v).1 (iR v).2 (fun h1002 I1002 G1002 c1002 ne1002 => ?_)
    obtain ⟨g1002, hg1002⟩ : ∃ g', g' = upd g1001 i7.toInt.toNat v := ⟨_, rfl⟩
    rw [← hg1002] at c1002
    refine wp1 (fun n d => r_aloadn f272_439 rfl) ?_
    obtain ⟨fs1003, c1003⟩ := hI_o I1002 (r := 72) (ci := 12) (by decide +kernel)
    have F1004 := hI_r I1002 c1003 (f := 69) (q := 124) (by decide +kernel)
    refine w_get f272_440 c1003 F1004 ?_
    refine w_bipush f272_443 (fun v443 hv443 => ?_)
    refine wp1 (fun n d => r_aloadn f272_445 rfl) ?_
    refine wp1 (fun n d => r_iloadn f272_446 rfl) ?_
    refine wp1 (fun n d => r_iloadn f272_447 rfl) ?_
    refine wp_good GE (Y := zM271) (show zmt[271]? = some zM271 from rfl) I1002 (ρ := [0, x1.toInt, x2.toInt]) (dK_v (kV_of rfl ⟨⟨by decide, by decide⟩, ⟨by show (0 : Int) ≤ _; omega, by show _ ≤ (149 : Int); omega⟩, ⟨by show (0 : Int) ≤ _; omega, by show _ ≤ (9 : Int); omega⟩, trivial⟩)) (dL_of (l := [some (.ref 72), some (.int x1), some (.int x2), none, none]) ⟨lw_r (by decide), lw_i rfl, lw_i rfl, lw_0, lw_0, trivial⟩) (fun n d v h' e => r_virt (as := [.int x1, .int x2]) (r := [.int v443, .ref 124]) f272_448 c1003 (show zmt[271]? = some zM271 from rfl) rfl rfl rfl rfl rfl rfl e) (by first | decide | (show 2 + 1 ≤ _; omega)) (fun v h1005 σ1005 I1005 G1005 P1005 => ?_)
    obtain ⟨v448, rfl, p448, q448⟩ := rpost_i P1005 rfl
    have p448 : (-2147483648) ≤ v448.toInt := p448
    have q448 : v448.toInt ≤ 3649 := q448
    show Wp _ _ _ _ 451 [some (.ref 72), some (.int x1), some (.int x2), some (.int x3), some (.int x4), some (.int x5), some (.int x6), some (.int x7), some (.int x8), some (.int x9), some (.int x10), some (.int x11)] [.int v448, .int v443, .ref 124] _
    obtain ⟨fs1006, c1006, df1006⟩ := dG_o I1002.1 G1005 c1003 (by decide)
    have F1007 := (df1006 69 rfl).trans F1004
    have c1008 := dG_a I1002.1 G1005 c1002 (by decide) rfl
    refine w_iastI f272_451 c1008 (by omega) (by omega) I1005 (W := cC163.2.2.1) (lo := (-2147483648)) (hi := 2147483647) (by decide +kernel) (by decide) (iR v448).1 (iR v448).2 (fun h1009 I1009 G1009 c1009 ne1009 => ?_)
    obtain ⟨g1009, hg1009⟩ : ∃ g', g' = upd g1002 v443.toInt.toNat v448 := ⟨_, rfl⟩
    rw [← hg1009] at c1009
    have c1010 := (ne1009 72 (by decide)).trans c1006
    refine wp1 (fun n d => r_aloadn f272_452 rfl) ?_
    refine w_get f272_453 c1010 F1007 ?_
    refine w_bipush f272_456 (fun v456 hv456 => ?_)
    refine wp1 (fun n d => r_iload f272_458 rfl) ?_
    refine w_iastI f272_460 c1009 (by omega) (by omega) I1009 (W := cC163.2.2.1) (lo := (-2147483648)) (hi := 2147483647) (by decide +kernel) (by decide) (iR x10).1 (iR x10).2 (fun h1011 I1011 G1011 c1011 ne1011 => ?_)
    obtain ⟨g1011, hg1011⟩ : ∃ g', g' = upd g1009 v456.toInt.toNat x10 := ⟨_, rfl⟩
    rw [← hg1011] at c1011
    have c1012 := (ne1011 72 (by decide)).trans c1010
    have g9a : g1011 9 = x10 := by rw [hg1011, show v456.toInt.toNat = 9 by omega]; exact pk_us
    refine wp1 (fun n d => r_aloadn f272_461 rfl) ?_
    refine w_get f272_462 c1012 F1007 ?_
    refine w_bipush f272_465 (fun v465 hv465 => ?_)
    refine w_iconst f272_467 (fun v467 hv467 => ?_)
    refine w_iastI f272_468 c1011 (by omega) (by omega) I1011 (W := cC163.2.2.1) (lo := (-2147483648)) (hi := 2147483647) (by decide +kernel) (by decide) (iR v467).1 (iR v467).2 (fun h1013 I1013 G1013 c1013 ne1013 => ?_)
    obtain ⟨g1013, hg1013⟩ : ∃ g', g' = upd g1011 v465.toInt.toNat v467 := ⟨_, rfl⟩
    rw [← hg1013] at c1013
    have c1014 := (ne1013 72 (by decide)).trans c1012
    have g9b : g1013 9 = x10 := by rw [hg1013, pk_un (by omega)]; exact g9a
    refine wp1 (fun n d => r_aloadn f272_469 rfl) ?_
    refine w_get f272_470 c1014 F1007 ?_
    refine w_bipush f272_473 (fun v473 hv473 => ?_)
    refine wp1 (fun n d => r_aloadn f272_475 rfl) ?_
    refine wp1 (fun n d => r_iloadn f272_476 rfl) ?_
    refine wp1 (fun n d => r_iloadn f272_477 rfl) ?_
    refine wp1 (fun n d => r_iloadn f272_478 rfl) ?_
    refine wp_good GP (Y := zM273) (show zmt[273]? = some zM273 from rfl) I1013 (ρ := [0, x1.toInt, x2.toInt, x3.toInt]) (dK_v (kV_of rfl ⟨⟨by decide, by decide⟩, ⟨by show (0 : Int) ≤ _; omega, by show _ ≤ (149 : Int); omega⟩, ⟨by show (0 : Int) ≤ _; omega, by show _ ≤ (9 : Int); omega⟩, iR x3, trivial⟩)) (dL_of (l := [some (.ref 72), some (.int x1), some (.int x2), some (.int x3)]) ⟨lw_r (by decide), lw_i rfl, lw_i rfl, lw_i rfl, trivial⟩) (fun n d v h' e => r_virt (as := [.int x1, .int x2, .int x3]) (r := [.int v473, .ref 124]) f272_479 c1014 (show zmt[273]? = some zM273 from rfl) rfl rfl rfl rfl rfl rfl e) (by first | decide | (show 0 + 1 ≤ _; omega)) (fun v h1015 σ1015 I1015 G1015 P1015 => ?_)
    obtain ⟨v479, rfl, p479, q479⟩ := rpost_i P1015 rfl
    have p479 : 0 ≤ v479.toInt := p479
    have q479 : v479.toInt ≤ 1 := q479
    show Wp _ _ _ _ 482 [some (.ref 72), some (.int x1), some (.int x2), some (.int x3), some (.int x4), some (.int x5), some (.int x6), some (.int x7), some (.int x8), some (.int x9), some (.int x10), some (.int x11)] [.int v479, .int v473, .ref 124] _
    obtain ⟨fs1016, c1016, df1016⟩ := dG_o I1013.1 G1015 c1014 (by decide)
    have F1017 := (df1016 69 rfl).trans F1007
    have c1018 := dG_a I1013.1 G1015 c1013 (by decide) rfl
    refine w_if_eq f272_482 (fun _ => ?_) (fun _ => ?_)
    · refine w_iconst f272_489 (fun v489 hv489 => ?_)
      exact k490 _ _ v489 v473 _ I1015 (dG_trans (dG_trans (dG_trans (dG_trans (dG_trans (dG_trans G1 G1002) (dG_sub (by decide) G1005)) G1009) G1011) G1013) (dG_sub (by decide) G1015)) (by omega) c1018 g9b
    · refine w_iconst f272_485 (fun v485 hv485 => ?_)
      refine wp1 (fun n d => r_goto f272_486) ?_
      exact k490 _ _ v485 v473 _ I1015 (dG_trans (dG_trans (dG_trans (dG_trans (dG_trans (dG_trans G1 G1002) (dG_sub (by decide) G1005)) G1009) G1011) G1013) (dG_sub (by decide) G1015)) (by omega) c1018 g9b
  have k416 : ∀ (σ1 : List Nat) (h1 : aH) (v : Int32) (i6 : Int32), dI σ1 h1 → dG cC163.2.2.1 σ0 h0 σ1 h1 → i6.toInt = 6 → Wp X D zM272 (fun v h' => v = none ∧ ∃ (σ' : List Nat) (g : Nat → Int32), dI σ' h' ∧ dG cC163.2.2.1 σ0 h0 σ' h' ∧ h'.1[124]? = some (.inl (0, 13, .inl g)) ∧ g 9 = x10) 416 [some (.ref 72), some (.int x1), some (.int x2), some (.int x3), some (.int x4), some (.int x5), some (.int x6), some (.int x7), some (.int x8), some (.int x9), some (.int x10), some (.int x11)] [.int v, .int i6, .ref 124] h1 := by
    intro σ1 h1 v i6 I1 G1 hi
    obtain ⟨g1001, c1001, R1001⟩ := hI_a I1 (r := 124) (a := 0) (n := 13) (lo := (-2147483648)) (hi := 2147483647) (by decide +kernel)
    refine w_iastI f272_416 c1001 (by omega) (by omega) I1 (W := cC163.2.2.1) (lo := (-2147483648)) (hi := 2147483647) (by decide +kernel) (by decide) (iR v).1 (iR v).2 (fun h1002 I1002 G1002 c1002 ne1002 => ?_)
    obtain ⟨g1002, hg1002⟩ : ∃ g', g' = upd g1001 i6.toInt.toNat v := ⟨_, rfl⟩
    rw [← hg1002] at c1002
    refine wp1 (fun n d => r_aloadn f272_417 rfl) ?_
    obtain ⟨fs1003, c1003⟩ := hI_o I1002 (r := 72) (ci := 12) (by decide +kernel)
    have F1004 := hI_r I1002 c1003 (f := 69) (q := 124) (by decide +kernel)
    refine w_get f272_418 c1003 F1004 ?_
    refine w_bipush f272_421 (fun v421 hv421 => ?_)
    refine wp1 (fun n d => r_iload f272_423 rfl) ?_
    refine w_if_ge f272_425 (fun e425 => ?_) (fun e425 => ?_)
    · refine wp1 (fun n d => r_aloadn f272_432 rfl) ?_
      refine wp1 (fun n d => r_iload f272_433 rfl) ?_
      refine wp_good GL (Y := zM240) (show zmt[240]? = some zM240 from rfl) I1002 (ρ := [0, x6.toInt]) (dK_v (kV_of rfl ⟨⟨by decide, by decide⟩, ⟨by show (0 : Int) ≤ _; omega, by show _ ≤ (299 : Int); omega⟩, trivial⟩)) (dL_of (l := [some (.ref 72), some (.int x6), none]) ⟨lw_r (by decide), lw_i rfl, lw_0, trivial⟩) (fun n d v h' e => r_virt (as := [.int x6]) (r := [.int v421, .ref 124]) f272_435 c1003 (show zmt[240]? = some zM240 from rfl) rfl rfl rfl rfl rfl rfl e) (by first | decide | (show 0 + 1 ≤ _; omega)) (fun v h1005 σ1005 I1005 G1005 P1005 => ?_)
      obtain ⟨v435, rfl, p435, q435⟩ := rpost_i P1005 rfl
      have p435 : 0 ≤ v435.toInt := p435
      have q435 : v435.toInt ≤ 2147483647 := q435
      show Wp _ _ _ _ 438 [some (.ref 72), some (.int x1), some (.int x2), some (.int x3), some (.int x4), some (.int x5), some (.int x6), some (.int x7), some (.int x8), some (.int x9), some (.int x10), some (.int x11)] [.int v435, .int v421, .ref 124] _
      obtain ⟨fs1006, c1006, df1006⟩ := dG_o I1002.1 G1005 c1003 (by decide)
      have F1007 := (df1006 69 rfl).trans F1004
      have c1008 := dG_a I1002.1 G1005 c1002 (by decide) rfl
      exact k438 _ _ v435 v421 I1005 (dG_trans (dG_trans G1 G1002) (dG_sub (by decide) G1005)) (by omega)
    · refine w_iconst f272_428 (fun v428 hv428 => ?_)
      refine wp1 (fun n d => r_goto f272_429) ?_
      exact k438 _ _ v428 v421 I1002 (dG_trans G1 G1002) (by omega)
  have k384 : ∀ (σ1 : List Nat) (h1 : aH) (v : Int32) (i4 : Int32), dI σ1 h1 → dG cC163.2.2.1 σ0 h0 σ1 h1 → i4.toInt = 4 → Wp X D zM272 (fun v h' => v = none ∧ ∃ (σ' : List Nat) (g : Nat → Int32), dI σ' h' ∧ dG cC163.2.2.1 σ0 h0 σ' h' ∧ h'.1[124]? = some (.inl (0, 13, .inl g)) ∧ g 9 = x10) 384 [some (.ref 72), some (.int x1), some (.int x2), some (.int x3), some (.int x4), some (.int x5), some (.int x6), some (.int x7), some (.int x8), some (.int x9), some (.int x10), some (.int x11)] [.int v, .int i4, .ref 124] h1 := by
    intro σ1 h1 v i4 I1 G1 hi
    obtain ⟨g1001, c1001, R1001⟩ := hI_a I1 (r := 124) (a := 0) (n := 13) (lo := (-2147483648)) (hi := 2147483647) (by decide +kernel)
    refine w_iastI f272_384 c1001 (by omega) (by omega) I1 (W := cC163.2.2.1) (lo := (-2147483648)) (hi := 2147483647) (by decide +kernel) (by decide) (iR v).1 (iR v).2 (fun h1002 I1002 G1002 c1002 ne1002 => ?_)
    obtain ⟨g1002, hg1002⟩ : ∃ g', g' = upd g1001 i4.toInt.toNat v := ⟨_, rfl⟩
    rw [← hg1002] at c1002
    refine wp1 (fun n d => r_aloadn f272_385 rfl) ?_
    obtain ⟨fs1003, c1003⟩ := hI_o I1002 (r := 72) (ci := 12) (by decide +kernel)
    have F1004 := hI_r I1002 c1003 (f := 69) (q := 124) (by decide +kernel)
    refine w_get f272_386 c1003 F1004 ?_
    refine w_iconst f272_389 (fun v389 hv389 => ?_)
    refine wp1 (fun n d => r_iload f272_390 rfl) ?_
    refine w_iastI f272_392 c1002 (by omega) (by omega) I1002 (W := cC163.2.2.1) (lo := (-2147483648)) (hi := 2147483647) (by decide +kernel) (by decide) (iR x7).1 (iR x7).2 (fun h1005 I1005 G1005 c1005 ne1005 => ?_)
    obtain ⟨g1005, hg1005⟩ : ∃ g', g' = upd g1002 v389.toInt.toNat x7 := ⟨_, rfl⟩
    rw [← hg1005] at c1005
    have c1006 := (ne1005 72 (by decide)).trans c1003
    refine wp1 (fun n d => r_aloadn f272_393 rfl) ?_
    refine w_get f272_394 c1006 F1004 ?_
    refine w_bipush f272_397 (fun v397 hv397 => ?_)
    refine wp1 (fun n d => r_iload f272_399 rfl) ?_
    refine w_if_ne f272_401 (fun e401 => ?_) (fun e401 => ?_)
    · refine w_bipush f272_408 (fun v408 hv408 => ?_)
      refine wp1 (fun n d => r_iload f272_410 rfl) ?_
      refine w_imul' f272_412 (fun v412 => ?_)
      refine wp1 (fun n d => r_iload f272_413 rfl) ?_
      refine w_idiv' f272_415 (by omega) (fun v415 => ?_)
      exact k416 _ _ v415 v397 I1005 (dG_trans (dG_trans G1 G1002) G1005) (by omega)
    · refine w_iconst f272_404 (fun v404 hv404 => ?_)
      refine wp1 (fun n d => r_goto f272_405) ?_
      exact k416 _ _ v404 v397 I1005 (dG_trans (dG_trans G1 G1002) G1005) (by omega)
  refine wp1 (fun n d => r_aloadn f272_322 rfl) ?_
  obtain ⟨fs1001, c1001⟩ := hI_o I (r := 72) (ci := 12) (by decide +kernel)
  have F1002 := hI_r I c1001 (f := 69) (q := 124) (by decide +kernel)
  refine w_get f272_323 c1001 F1002 ?_
  refine w_iconst f272_326 (fun v326 hv326 => ?_)
  refine wp1 (fun n d => r_iloadn f272_327 rfl) ?_
  obtain ⟨g1003, c1003, R1003⟩ := hI_a I (r := 124) (a := 0) (n := 13) (lo := (-2147483648)) (hi := 2147483647) (by decide +kernel)
  refine w_iastI f272_328 c1003 (by omega) (by omega) I (W := cC163.2.2.1) (lo := (-2147483648)) (hi := 2147483647) (by decide +kernel) (by decide) (iR x2).1 (iR x2).2 (fun h1004 I1004 G1004 c1004 ne1004 => ?_)
  obtain ⟨g1004, hg1004⟩ : ∃ g', g' = upd g1003 v326.toInt.toNat x2 := ⟨_, rfl⟩
  rw [← hg1004] at c1004
  have c1005 := (ne1004 72 (by decide)).trans c1001
  refine wp1 (fun n d => r_aloadn f272_329 rfl) ?_
  refine w_get f272_330 c1005 F1002 ?_
  refine w_iconst f272_333 (fun v333 hv333 => ?_)
  refine wp1 (fun n d => r_aloadn f272_334 rfl) ?_
  have F1006 := hI_r I1004 c1005 (f := 3) (q := 73) (by decide +kernel)
  refine w_get f272_335 c1005 F1006 ?_
  refine wp1 (fun n d => r_iloadn f272_338 rfl) ?_
  obtain ⟨g1007, c1007, R1007⟩ := hI_a I1004 (r := 73) (a := 0) (n := 150) (lo := 0) (hi := 7) (by decide +kernel)
  refine w_iald f272_339 c1007 (by omega) (by omega) (fun v339 hv339 => ?_)
  have bv339 := R1007 x1.toInt.toNat (by omega)
  rw [← hv339] at bv339
  refine w_iastI f272_340 c1004 (by omega) (by omega) I1004 (W := cC163.2.2.1) (lo := (-2147483648)) (hi := 2147483647) (by decide +kernel) (by decide) (iR v339).1 (iR v339).2 (fun h1008 I1008 G1008 c1008 ne1008 => ?_)
  obtain ⟨g1008, hg1008⟩ : ∃ g', g' = upd g1004 v333.toInt.toNat v339 := ⟨_, rfl⟩
  rw [← hg1008] at c1008
  have c1009 := (ne1008 72 (by decide)).trans c1005
  have c1010 := (ne1008 73 (by decide)).trans c1007
  refine wp1 (fun n d => r_aloadn f272_341 rfl) ?_
  refine w_get f272_342 c1009 F1002 ?_
  refine w_iconst f272_345 (fun v345 hv345 => ?_)
  refine wp1 (fun n d => r_iload f272_346 rfl) ?_
  refine w_iastI f272_348 c1008 (by omega) (by omega) I1008 (W := cC163.2.2.1) (lo := (-2147483648)) (hi := 2147483647) (by decide +kernel) (by decide) (iR x4).1 (iR x4).2 (fun h1011 I1011 G1011 c1011 ne1011 => ?_)
  obtain ⟨g1011, hg1011⟩ : ∃ g', g' = upd g1008 v345.toInt.toNat x4 := ⟨_, rfl⟩
  rw [← hg1011] at c1011
  have c1012 := (ne1011 72 (by decide)).trans c1009
  have c1013 := (ne1011 73 (by decide)).trans c1010
  refine wp1 (fun n d => r_aloadn f272_349 rfl) ?_
  refine w_get f272_350 c1012 F1002 ?_
  refine w_iconst f272_353 (fun v353 hv353 => ?_)
  refine wp1 (fun n d => r_aloadn f272_354 rfl) ?_
  refine wp1 (fun n d => r_iloadn f272_355 rfl) ?_
  refine wp1 (fun n d => r_iloadn f272_356 rfl) ?_
  refine w_iconst f272_357 (fun v357 hv357 => ?_)
  refine wp_good GS (Y := zM270) (show zmt[270]? = some zM270 from rfl) I1011 (ρ := [0, x1.toInt, x2.toInt, v357.toInt]) (dK_v (kV_of rfl ⟨⟨by decide, by decide⟩, ⟨by show (0 : Int) ≤ _; omega, by show _ ≤ (149 : Int); omega⟩, ⟨by show (0 : Int) ≤ _; omega, by show _ ≤ (9 : Int); omega⟩, ⟨by show (0 : Int) ≤ _; omega, by show _ ≤ (1 : Int); omega⟩, trivial⟩)) (dL_of (l := [some (.ref 72), some (.int x1), some (.int x2), some (.int v357), none, none]) ⟨lw_r (by decide), lw_i rfl, lw_i rfl, lw_i rfl, lw_0, lw_0, trivial⟩) (fun n d v h' e => r_virt (as := [.int x1, .int x2, .int v357]) (r := [.int v353, .ref 124]) f272_358 c1012 (show zmt[270]? = some zM270 from rfl) rfl rfl rfl rfl rfl rfl e) (by first | decide | (show 1 + 1 ≤ _; omega)) (fun v h1014 σ1014 I1014 G1014 P1014 => ?_)
  obtain ⟨v358, rfl, p358, q358⟩ := rpost_i P1014 rfl
  have p358 : (-2147483648) ≤ v358.toInt := p358
  have q358 : v358.toInt ≤ 2147483647 := q358
  show Wp _ _ _ _ 361 [some (.ref 72), some (.int x1), some (.int x2), some (.int x3), some (.int x4), some (.int x5), some (.int x6), some (.int x7), some (.int x8), some (.int x9), some (.int x10), some (.int x11)] [.int v358, .int v353, .ref 124] _
  obtain ⟨fs1015, c1015, df1015⟩ := dG_o I1011.1 G1014 c1012 (by decide)
  have F1016 := (df1015 69 rfl).trans F1002
  have F1017 := (df1015 3 rfl).trans F1006
  have c1018 := dG_a I1011.1 G1014 c1011 (by decide) rfl
  have c1019 := dG_a I1011.1 G1014 c1013 (by decide) rfl
  refine w_iastI f272_361 c1018 (by omega) (by omega) I1014 (W := cC163.2.2.1) (lo := (-2147483648)) (hi := 2147483647) (by decide +kernel) (by decide) (iR v358).1 (iR v358).2 (fun h1020 I1020 G1020 c1020 ne1020 => ?_)
  obtain ⟨g1020, hg1020⟩ : ∃ g', g' = upd g1011 v353.toInt.toNat v358 := ⟨_, rfl⟩
  rw [← hg1020] at c1020
  have c1021 := (ne1020 72 (by decide)).trans c1015
  have c1022 := (ne1020 73 (by decide)).trans c1019
  refine wp1 (fun n d => r_aloadn f272_362 rfl) ?_
  refine w_get f272_363 c1021 F1016 ?_
  refine w_iconst f272_366 (fun v366 hv366 => ?_)
  refine wp1 (fun n d => r_iload f272_367 rfl) ?_
  refine w_if_ne f272_369 (fun e369 => ?_) (fun e369 => ?_)
  · refine w_bipush f272_376 (fun v376 hv376 => ?_)
    refine wp1 (fun n d => r_iload f272_378 rfl) ?_
    refine w_imul' f272_380 (fun v380 => ?_)
    refine wp1 (fun n d => r_iload f272_381 rfl) ?_
    refine w_idiv' f272_383 (by omega) (fun v383 => ?_)
    exact k384 _ _ v383 v366 I1020 (dG_trans (dG_trans (dG_trans (dG_trans (dG_trans G G1004) G1008) G1011) (dG_sub (by decide) G1014)) G1020) (by omega)
  · refine w_iconst f272_372 (fun v372 hv372 => ?_)
    refine wp1 (fun n d => r_goto f272_373) ?_
    exact k384 _ _ v372 v366 I1020 (dG_trans (dG_trans (dG_trans (dG_trans (dG_trans G G1004) G1008) G1011) (dG_sub (by decide) G1014)) G1020) (by omega)
def QFF (X : aX) (σ0 : List Nat) (h0 : aH) (x1 x2 x3 : Int32) (v : Option Value) (h' : aH) : Prop := v = none ∧ ∃ (σ' σa : List Nat) (ha : aH) (g gk fh : Nat → Int32) (nb z : Int32) (fs : List Value), dI σ' h' ∧ dG cC163.2.2.1 σ0 h0 σ' h' ∧ h'.1[124]? = some (.inl (0, 13, .inl g)) ∧ dI σa ha ∧ dG cC163.2.2.1 σa ha σ' h' ∧ z.toInt = 365 * x2.toInt + 364 ∧ hSp X ha z x3 fh ∧ ha.1[72]? = some (.inr (12, fs)) ∧ fs[2]? = some (.int nb) ∧ ha.1[73]? = some (.inl (0, 150, .inl gk)) ∧ (g 9).toInt = cntP (pH gk fh x1.toInt) nb.toInt.toNat
theorem findFacts_wp {X : aX} {D : Nat} {x1 x2 x3 : Int32} {u4 u5 u6 u7 u8 u9 u10 u11 : Option Value} (G71 : dGood X cC71) (GY : dGood X cC319) (GG : dGood X cC322) (GS : dGood X cC157) (GE : dGood X cC318) (GL : dGood X cC320) (GP : dGood X cC321) (GH : dGood X cC311) (hD : 4 ≤ D) (f0 : 0 ≤ x1.toInt) (f1 : x1.toInt ≤ 149) (y0 : 0 ≤ x2.toInt) (y1 : x2.toInt ≤ 9) (d0 : 0 ≤ x3.toInt) (d1 : x3.toInt ≤ 3649) {σ : List Nat} {h : aH} (I : dI σ h) : Wp X D zM272 (QFF X σ h x1 x2 x3) 0 [some (.ref 72), some (.int x1), some (.int x2), some (.int x3), u4, u5, u6, u7, u8, u9, u10, u11] [] h := by
  refine wp1 (fun n d => r_aloadn f272_0 rfl) ?_
  refine wp1 (fun n d => r_iloadn f272_1 rfl) ?_
  obtain ⟨fs1002, c1002⟩ := hI_o I (r := 72) (ci := 12) (by decide +kernel)
  refine wp_good G71 (Y := zM239) (show zmt[239]? = some zM239 from rfl) I (ρ := [0, x3.toInt]) (dK_v (kV_of rfl ⟨⟨by decide, by decide⟩, ⟨by show (0 : Int) ≤ _; omega, by show _ ≤ (3649 : Int); omega⟩, trivial⟩)) (dL_of (l := [some (.ref 72), some (.int x3), none, none, none]) ⟨lw_r (by decide), lw_i rfl, lw_0, lw_0, lw_0, trivial⟩) (fun n d v h' e => r_virt (as := [.int x3]) (r := []) f272_2 c1002 (show zmt[239]? = some zM239 from rfl) rfl rfl rfl rfl rfl rfl e) (by first | decide | (show 3 + 1 ≤ _; omega)) (fun v h1001 σ1001 I1001 G1001 P1001 => ?_)
  cases rpost_0 P1001 rfl
  show Wp _ _ _ _ 5 [some (.ref 72), some (.int x1), some (.int x2), some (.int x3), u4, u5, u6, u7, u8, u9, u10, u11] [] _
  obtain ⟨fs1003, c1003, df1003⟩ := dG_o I.1 G1001 c1002 (by decide)
  refine wp1 (fun n d => r_aloadn f272_5 rfl) ?_
  refine wp1 (fun n d => r_iloadn f272_6 rfl) ?_
  refine wp1 (fun n d => r_iloadn f272_7 rfl) ?_
  refine w_iconst f272_8 (fun v8 hv8 => ?_)
  refine wp_good GS (Y := zM270) (show zmt[270]? = some zM270 from rfl) I1001 (ρ := [0, x1.toInt, x2.toInt, v8.toInt]) (dK_v (kV_of rfl ⟨⟨by decide, by decide⟩, ⟨by show (0 : Int) ≤ _; omega, by show _ ≤ (149 : Int); omega⟩, ⟨by show (0 : Int) ≤ _; omega, by show _ ≤ (9 : Int); omega⟩, ⟨by show (0 : Int) ≤ _; omega, by show _ ≤ (1 : Int); omega⟩, trivial⟩)) (dL_of (l := [some (.ref 72), some (.int x1), some (.int x2), some (.int v8), none, none]) ⟨lw_r (by decide), lw_i rfl, lw_i rfl, lw_i rfl, lw_0, lw_0, trivial⟩) (fun n d v h' e => r_virt (as := [.int x1, .int x2, .int v8]) (r := []) f272_9 c1003 (show zmt[270]? = some zM270 from rfl) rfl rfl rfl rfl rfl rfl e) (by first | decide | (show 1 + 1 ≤ _; omega)) (fun v h1004 σ1004 I1004 G1004 P1004 => ?_)
  obtain ⟨v9, rfl, p9, q9⟩ := rpost_i P1004 rfl
  have p9 : (-2147483648) ≤ v9.toInt := p9
  have q9 : v9.toInt ≤ 2147483647 := q9
  show Wp _ _ _ _ 12 [some (.ref 72), some (.int x1), some (.int x2), some (.int x3), u4, u5, u6, u7, u8, u9, u10, u11] [.int v9] _
  obtain ⟨fs1005, c1005, df1005⟩ := dG_o I1001.1 G1004 c1003 (by decide)
  refine wp1 (fun n d => r_istore (L' := [some (.ref 72), some (.int x1), some (.int x2), some (.int x3), some (.int v9), u5, u6, u7, u8, u9, u10, u11]) f272_12 rfl rfl) ?_
  refine w_iconst f272_14 (fun v14 hv14 => ?_)
  refine wp1 (fun n d => r_istore (L' := [some (.ref 72), some (.int x1), some (.int x2), some (.int x3), some (.int v9), some (.int v14), u6, u7, u8, u9, u10, u11]) f272_15 rfl rfl) ?_
  refine w_iconst f272_17 (fun v17 hv17 => ?_)
  refine wp1 (fun n d => r_istore (L' := [some (.ref 72), some (.int x1), some (.int x2), some (.int x3), some (.int v9), some (.int v14), some (.int v17), u7, u8, u9, u10, u11]) f272_18 rfl rfl) ?_
  refine w_iconst f272_20 (fun v20 hv20 => ?_)
  refine wp1 (fun n d => r_istore (L' := [some (.ref 72), some (.int x1), some (.int x2), some (.int x3), some (.int v9), some (.int v14), some (.int v17), some (.int v20), u8, u9, u10, u11]) f272_21 rfl rfl) ?_
  refine ffA _ v20 σ1004 h1004 fs1005 rfl (by omega) I1004 c1005 (fun σ1 h1 y7 _ I1 G1 => ?_)
  refine w_iconst f272_44 (fun v44 hv44 => ?_)
  refine wp1 (fun n d => r_istore (L' := [some (.ref 72), some (.int x1), some (.int x2), some (.int x3), some (.int v9), some (.int v14), some (.int v17), some (.int v44), u8, u9, u10, u11]) f272_45 rfl rfl) ?_
  obtain ⟨fs2001, c2001⟩ := hI_o I1 (r := 72) (ci := 12) (by decide +kernel)
  obtain ⟨x19_2002, F2002, lo2002, hi2002⟩ := hI_i I1 c2001 (f := 19) (lo := 0) (hi := 300) (by decide +kernel)
  refine ffB GY (by omega) f0 f1 y0 y1 d0 d1 (nc := x19_2002) (by omega) (by omega) _ v14 v17 v44 σ1 h1 fs2001 rfl (by omega) I1 c2001 F2002 (fun σ2 h2 z5 z6 z7 iv2 I2 G2 => ?_)
  refine w_iconst f272_154 (fun v154 hv154 => ?_)
  refine wp1 (fun n d => r_istore (L' := [some (.ref 72), some (.int x1), some (.int x2), some (.int x3), some (.int v9), some (.int z5), some (.int z6), some (.int v154), u8, u9, u10, u11]) f272_155 rfl rfl) ?_
  refine w_iconst f272_157 (fun v157 hv157 => ?_)
  refine wp1 (fun n d => r_istore (L' := [some (.ref 72), some (.int x1), some (.int x2), some (.int x3), some (.int v9), some (.int z5), some (.int z6), some (.int v154), some (.int v157), u9, u10, u11]) f272_158 rfl rfl) ?_
  refine w_iconst f272_160 (fun v160 hv160 => ?_)
  refine wp1 (fun n d => r_istore (L' := [some (.ref 72), some (.int x1), some (.int x2), some (.int x3), some (.int v9), some (.int z5), some (.int z6), some (.int v154), some (.int v157), some (.int v160), u10, u11]) f272_161 rfl rfl) ?_
  obtain ⟨fs3001, c3001⟩ := hI_o I2 (r := 72) (ci := 12) (by decide +kernel)
  refine ffC GG (by omega) _ v154 v157 v160 σ2 h2 fs3001 rfl (by omega) I2 c3001 (fun σ3 h3 w7 w8 w9 _ I3 G3 => ?_)
  refine w_iconst f272_210 (fun v210 hv210 => ?_)
  refine wp1 (fun n d => r_istore (L' := [some (.ref 72), some (.int x1), some (.int x2), some (.int x3), some (.int v9), some (.int z5), some (.int z6), some (.int w7), some (.int w8), some (.int v210), u10, u11]) f272_211 rfl rfl) ?_
  refine w_iconst f272_213 (fun v213 hv213 => ?_)
  refine wp1 (fun n d => r_istore (L' := [some (.ref 72), some (.int x1), some (.int x2), some (.int x3), some (.int v9), some (.int z5), some (.int z6), some (.int w7), some (.int w8), some (.int v210), some (.int v213), u11]) f272_214 rfl rfl) ?_
  obtain ⟨fs4001, c4001⟩ := hI_o I3 (r := 72) (ci := 12) (by decide +kernel)
  refine ffD GS (by omega) f0 f1 y0 y1 d0 d1 _ v210 v213 σ3 h3 fs4001 rfl (by omega) I3 c4001 (fun σ4 h4 r9 r10 _ I4 G4 => ?_)
  refine w_iconst f272_257 (fun v257 hv257 => ?_)
  refine wp1 (fun n d => r_istore (L' := [some (.ref 72), some (.int x1), some (.int x2), some (.int x3), some (.int v9), some (.int z5), some (.int z6), some (.int w7), some (.int w8), some (.int r9), some (.int v257), u11]) f272_258 rfl rfl) ?_
  refine w_iconst f272_260 (fun v260 hv260 => ?_)
  refine wp1 (fun n d => r_istore (L' := [some (.ref 72), some (.int x1), some (.int x2), some (.int x3), some (.int v9), some (.int z5), some (.int z6), some (.int w7), some (.int w8), some (.int r9), some (.int v257), some (.int v260)]) f272_261 rfl rfl) ?_
  obtain ⟨fs5001, c5001⟩ := hI_o I4 (r := 72) (ci := 12) (by decide +kernel)
  obtain ⟨x2_5002, F5002, lo5002, hi5002⟩ := hI_i I4 c5001 (f := 2) (lo := 0) (hi := 150) (by decide +kernel)
  have F5003 := hI_r I4 c5001 (f := 3) (q := 73) (by decide +kernel)
  obtain ⟨g5004, c5004, R5004⟩ := hI_a I4 (r := 73) (a := 0) (n := 150) (lo := 0) (hi := 7) (by decide +kernel)
  have hzz : (Int32.ofInt (365 * x2.toInt + 364)).toInt = 365 * x2.toInt + 364 := Int32.toInt_ofInt_of_le (by omega) (by omega)
  obtain ⟨fh, S⟩ := hol_of GH I4 (z := Int32.ofInt (365 * x2.toInt + 364)) (k := x3) (by omega) (by omega)
  refine ffE (nb := x2_5002) (by omega) y0 y1 hzz (by omega) (by omega) S (hH0 I4) c5001 F5002 F5003 c5004 (fun y10 y11 hc => ?_) _ v257 v260 rfl (by omega) (by omega) (by rw [show v260.toInt.toNat = 0 by omega]; show _ = ((0 : Nat) : Int); omega)
  refine wp_mono ?_ (ffT GS GE GL GP hD f0 f1 y0 y1 d0 d1 (by omega) (by omega) I4 (dG_refl cC163.2.2.1 σ4 h4))
  rintro v h' ⟨rfl, σ', g, I', G', c', g9⟩
  exact ⟨rfl, σ', σ4, h4, g, g5004, fh, x2_5002, _, fs5001, I', dG_trans (dG_trans (dG_trans (dG_trans (dG_trans (dG_trans (dG_sub (by decide) G1001) (dG_sub (by decide) G1004)) G1) G2) G3) G4) G', c', I4, G', hzz, S, c5001, F5002, c5004, by rw [g9]; exact hc⟩

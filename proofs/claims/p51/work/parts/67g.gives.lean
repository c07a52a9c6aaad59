-- ===== 67g.gives: 2 texts =====
section
-- ===== by hand: gives =====
theorem f268_0 : aF 0 zM268.2.2.2.2.2.2.2 = some (0, (.iconst 0), 1, 0, 0) := by decide +kernel
theorem f268_1 : aF 1 zM268.2.2.2.2.2.2.2 = some (1, (.istore 4), 2, 0, 0) := by decide +kernel
theorem f268_3 : aF 3 zM268.2.2.2.2.2.2.2 = some (3, (.sipush 170), 3, 0, 0) := by decide +kernel
theorem f268_6 : aF 6 zM268.2.2.2.2.2.2.2 = some (6, (.iload_n 1), 1, 0, 0) := by decide +kernel
theorem f268_7 : aF 7 zM268.2.2.2.2.2.2.2 = some (7, .imul, 1, 0, 0) := by decide +kernel
theorem f268_8 : aF 8 zM268.2.2.2.2.2.2.2 = some (8, (.iload_n 2), 1, 0, 0) := by decide +kernel
theorem f268_9 : aF 9 zM268.2.2.2.2.2.2.2 = some (9, .iadd, 1, 0, 0) := by decide +kernel
theorem f268_10 : aF 10 zM268.2.2.2.2.2.2.2 = some (10, (.istore 5), 2, 0, 0) := by decide +kernel
theorem f268_12 : aF 12 zM268.2.2.2.2.2.2.2 = some (12, (.iload 5), 2, 0, 0) := by decide +kernel
theorem f268_14 : aF 14 zM268.2.2.2.2.2.2.2 = some (14, (.sipush 170), 3, 0, 0) := by decide +kernel
theorem f268_17 : aF 17 zM268.2.2.2.2.2.2.2 = some (17, (.iload_n 1), 1, 0, 0) := by decide +kernel
theorem f268_18 : aF 18 zM268.2.2.2.2.2.2.2 = some (18, .imul, 1, 0, 0) := by decide +kernel
theorem f268_19 : aF 19 zM268.2.2.2.2.2.2.2 = some (19, (.iload_n 3), 1, 0, 0) := by decide +kernel
theorem f268_20 : aF 20 zM268.2.2.2.2.2.2.2 = some (20, .iadd, 1, 0, 0) := by decide +kernel
theorem f268_21 : aF 21 zM268.2.2.2.2.2.2.2 = some (21, (.if_icmp .ge 167), 3, 188, 0) := by decide +kernel
theorem f268_24 : aF 24 zM268.2.2.2.2.2.2.2 = some (24, (.aload_n 0), 1, 0, 0) := by decide +kernel
theorem f268_25 : aF 25 zM268.2.2.2.2.2.2.2 = some (25, (.getfield 170), 3, 12, 62) := by decide +kernel
theorem f268_28 : aF 28 zM268.2.2.2.2.2.2.2 = some (28, (.iload 5), 2, 0, 0) := by decide +kernel
theorem f268_30 : aF 30 zM268.2.2.2.2.2.2.2 = some (30, .iaload, 1, 0, 0) := by decide +kernel
theorem f268_31 : aF 31 zM268.2.2.2.2.2.2.2 = some (31, (.istore 6), 2, 0, 0) := by decide +kernel
theorem f268_33 : aF 33 zM268.2.2.2.2.2.2.2 = some (33, (.iload 6), 2, 0, 0) := by decide +kernel
theorem f268_35 : aF 35 zM268.2.2.2.2.2.2.2 = some (35, (.iconst 1), 1, 0, 0) := by decide +kernel
theorem f268_36 : aF 36 zM268.2.2.2.2.2.2.2 = some (36, (.if_icmp .eq 9), 3, 45, 0) := by decide +kernel
theorem f268_39 : aF 39 zM268.2.2.2.2.2.2.2 = some (39, (.iload 6), 2, 0, 0) := by decide +kernel
theorem f268_41 : aF 41 zM268.2.2.2.2.2.2.2 = some (41, (.iconst 2), 1, 0, 0) := by decide +kernel
theorem f268_42 : aF 42 zM268.2.2.2.2.2.2.2 = some (42, (.if_icmp .ne 44), 3, 86, 0) := by decide +kernel
theorem f268_45 : aF 45 zM268.2.2.2.2.2.2.2 = some (45, (.aload_n 0), 1, 0, 0) := by decide +kernel
theorem f268_46 : aF 46 zM268.2.2.2.2.2.2.2 = some (46, (.getfield 179), 3, 12, 70) := by decide +kernel
theorem f268_49 : aF 49 zM268.2.2.2.2.2.2.2 = some (49, (.iload 4), 2, 0, 0) := by decide +kernel
theorem f268_51 : aF 51 zM268.2.2.2.2.2.2.2 = some (51, (.iload 6), 2, 0, 0) := by decide +kernel
theorem f268_53 : aF 53 zM268.2.2.2.2.2.2.2 = some (53, (.iconst 1), 1, 0, 0) := by decide +kernel
theorem f268_54 : aF 54 zM268.2.2.2.2.2.2.2 = some (54, (.if_icmp .ne 13), 3, 67, 0) := by decide +kernel
theorem f268_57 : aF 57 zM268.2.2.2.2.2.2.2 = some (57, (.aload_n 0), 1, 0, 0) := by decide +kernel
theorem f268_58 : aF 58 zM268.2.2.2.2.2.2.2 = some (58, (.getfield 173), 3, 12, 63) := by decide +kernel
theorem f268_61 : aF 61 zM268.2.2.2.2.2.2.2 = some (61, (.iload 5), 2, 0, 0) := by decide +kernel
theorem f268_63 : aF 63 zM268.2.2.2.2.2.2.2 = some (63, .iaload, 1, 0, 0) := by decide +kernel
theorem f268_64 : aF 64 zM268.2.2.2.2.2.2.2 = some (64, (.goto 15), 3, 79, 0) := by decide +kernel
theorem f268_67 : aF 67 zM268.2.2.2.2.2.2.2 = some (67, (.aload_n 0), 1, 0, 0) := by decide +kernel
theorem f268_68 : aF 68 zM268.2.2.2.2.2.2.2 = some (68, (.getfield 176), 3, 12, 69) := by decide +kernel
theorem f268_71 : aF 71 zM268.2.2.2.2.2.2.2 = some (71, (.aload_n 0), 1, 0, 0) := by decide +kernel
theorem f268_72 : aF 72 zM268.2.2.2.2.2.2.2 = some (72, (.getfield 173), 3, 12, 63) := by decide +kernel
theorem f268_75 : aF 75 zM268.2.2.2.2.2.2.2 = some (75, (.iload 5), 2, 0, 0) := by decide +kernel
theorem f268_77 : aF 77 zM268.2.2.2.2.2.2.2 = some (77, .iaload, 1, 0, 0) := by decide +kernel
theorem f268_78 : aF 78 zM268.2.2.2.2.2.2.2 = some (78, .iaload, 1, 0, 0) := by decide +kernel
theorem f268_79 : aF 79 zM268.2.2.2.2.2.2.2 = some (79, .iastore, 1, 0, 0) := by decide +kernel
theorem f268_80 : aF 80 zM268.2.2.2.2.2.2.2 = some (80, (.iinc 4 1), 3, 0, 0) := by decide +kernel
theorem f268_83 : aF 83 zM268.2.2.2.2.2.2.2 = some (83, (.goto 99), 3, 182, 0) := by decide +kernel
theorem f268_86 : aF 86 zM268.2.2.2.2.2.2.2 = some (86, (.iload 6), 2, 0, 0) := by decide +kernel
theorem f268_88 : aF 88 zM268.2.2.2.2.2.2.2 = some (88, (.iconst 3), 1, 0, 0) := by decide +kernel
theorem f268_89 : aF 89 zM268.2.2.2.2.2.2.2 = some (89, (.if_icmp .ne 32), 3, 121, 0) := by decide +kernel
theorem f268_92 : aF 92 zM268.2.2.2.2.2.2.2 = some (92, (.aload_n 0), 1, 0, 0) := by decide +kernel
theorem f268_93 : aF 93 zM268.2.2.2.2.2.2.2 = some (93, (.getfield 179), 3, 12, 70) := by decide +kernel
theorem f268_96 : aF 96 zM268.2.2.2.2.2.2.2 = some (96, (.iload 4), 2, 0, 0) := by decide +kernel
theorem f268_98 : aF 98 zM268.2.2.2.2.2.2.2 = some (98, (.iconst 1), 1, 0, 0) := by decide +kernel
theorem f268_99 : aF 99 zM268.2.2.2.2.2.2.2 = some (99, .isub, 1, 0, 0) := by decide +kernel
theorem f268_100 : aF 100 zM268.2.2.2.2.2.2.2 = some (100, (.aload_n 0), 1, 0, 0) := by decide +kernel
theorem f268_101 : aF 101 zM268.2.2.2.2.2.2.2 = some (101, (.getfield 179), 3, 12, 70) := by decide +kernel
theorem f268_104 : aF 104 zM268.2.2.2.2.2.2.2 = some (104, (.iload 4), 2, 0, 0) := by decide +kernel
theorem f268_106 : aF 106 zM268.2.2.2.2.2.2.2 = some (106, (.iconst 1), 1, 0, 0) := by decide +kernel
theorem f268_107 : aF 107 zM268.2.2.2.2.2.2.2 = some (107, .isub, 1, 0, 0) := by decide +kernel
theorem f268_108 : aF 108 zM268.2.2.2.2.2.2.2 = some (108, .iaload, 1, 0, 0) := by decide +kernel
theorem f268_109 : aF 109 zM268.2.2.2.2.2.2.2 = some (109, (.ifCond .ne 7), 3, 116, 0) := by decide +kernel
theorem f268_112 : aF 112 zM268.2.2.2.2.2.2.2 = some (112, (.iconst 1), 1, 0, 0) := by decide +kernel
theorem f268_113 : aF 113 zM268.2.2.2.2.2.2.2 = some (113, (.goto 4), 3, 117, 0) := by decide +kernel
theorem f268_116 : aF 116 zM268.2.2.2.2.2.2.2 = some (116, (.iconst 0), 1, 0, 0) := by decide +kernel
theorem f268_117 : aF 117 zM268.2.2.2.2.2.2.2 = some (117, .iastore, 1, 0, 0) := by decide +kernel
theorem f268_118 : aF 118 zM268.2.2.2.2.2.2.2 = some (118, (.goto 64), 3, 182, 0) := by decide +kernel
theorem f268_121 : aF 121 zM268.2.2.2.2.2.2.2 = some (121, (.iload 6), 2, 0, 0) := by decide +kernel
theorem f268_123 : aF 123 zM268.2.2.2.2.2.2.2 = some (123, (.iconst 4), 1, 0, 0) := by decide +kernel
theorem f268_124 : aF 124 zM268.2.2.2.2.2.2.2 = some (124, (.if_icmp .ne 25), 3, 149, 0) := by decide +kernel
theorem f268_127 : aF 127 zM268.2.2.2.2.2.2.2 = some (127, (.aload_n 0), 1, 0, 0) := by decide +kernel
theorem f268_128 : aF 128 zM268.2.2.2.2.2.2.2 = some (128, (.getfield 179), 3, 12, 70) := by decide +kernel
theorem f268_131 : aF 131 zM268.2.2.2.2.2.2.2 = some (131, (.iload 4), 2, 0, 0) := by decide +kernel
theorem f268_133 : aF 133 zM268.2.2.2.2.2.2.2 = some (133, (.iconst 1), 1, 0, 0) := by decide +kernel
theorem f268_134 : aF 134 zM268.2.2.2.2.2.2.2 = some (134, .isub, 1, 0, 0) := by decide +kernel
theorem f268_135 : aF 135 zM268.2.2.2.2.2.2.2 = some (135, (.aload_n 0), 1, 0, 0) := by decide +kernel
theorem f268_136 : aF 136 zM268.2.2.2.2.2.2.2 = some (136, (.getfield 179), 3, 12, 70) := by decide +kernel
theorem f268_139 : aF 139 zM268.2.2.2.2.2.2.2 = some (139, (.iload 4), 2, 0, 0) := by decide +kernel
theorem f268_141 : aF 141 zM268.2.2.2.2.2.2.2 = some (141, (.iconst 1), 1, 0, 0) := by decide +kernel
theorem f268_142 : aF 142 zM268.2.2.2.2.2.2.2 = some (142, .isub, 1, 0, 0) := by decide +kernel
theorem f268_143 : aF 143 zM268.2.2.2.2.2.2.2 = some (143, .iaload, 1, 0, 0) := by decide +kernel
theorem f268_144 : aF 144 zM268.2.2.2.2.2.2.2 = some (144, .ineg, 1, 0, 0) := by decide +kernel
theorem f268_145 : aF 145 zM268.2.2.2.2.2.2.2 = some (145, .iastore, 1, 0, 0) := by decide +kernel
theorem f268_146 : aF 146 zM268.2.2.2.2.2.2.2 = some (146, (.goto 36), 3, 182, 0) := by decide +kernel
theorem f268_149 : aF 149 zM268.2.2.2.2.2.2.2 = some (149, (.iinc 4 (-1)), 3, 0, 0) := by decide +kernel
theorem f268_152 : aF 152 zM268.2.2.2.2.2.2.2 = some (152, (.aload_n 0), 1, 0, 0) := by decide +kernel
theorem f268_153 : aF 153 zM268.2.2.2.2.2.2.2 = some (153, (.getfield 179), 3, 12, 70) := by decide +kernel
theorem f268_156 : aF 156 zM268.2.2.2.2.2.2.2 = some (156, (.iload 4), 2, 0, 0) := by decide +kernel
theorem f268_158 : aF 158 zM268.2.2.2.2.2.2.2 = some (158, (.iconst 1), 1, 0, 0) := by decide +kernel
theorem f268_159 : aF 159 zM268.2.2.2.2.2.2.2 = some (159, .isub, 1, 0, 0) := by decide +kernel
theorem f268_160 : aF 160 zM268.2.2.2.2.2.2.2 = some (160, (.iload 6), 2, 0, 0) := by decide +kernel
theorem f268_162 : aF 162 zM268.2.2.2.2.2.2.2 = some (162, (.aload_n 0), 1, 0, 0) := by decide +kernel
theorem f268_163 : aF 163 zM268.2.2.2.2.2.2.2 = some (163, (.getfield 179), 3, 12, 70) := by decide +kernel
theorem f268_166 : aF 166 zM268.2.2.2.2.2.2.2 = some (166, (.iload 4), 2, 0, 0) := by decide +kernel
theorem f268_168 : aF 168 zM268.2.2.2.2.2.2.2 = some (168, (.iconst 1), 1, 0, 0) := by decide +kernel
theorem f268_169 : aF 169 zM268.2.2.2.2.2.2.2 = some (169, .isub, 1, 0, 0) := by decide +kernel
theorem f268_170 : aF 170 zM268.2.2.2.2.2.2.2 = some (170, .iaload, 1, 0, 0) := by decide +kernel
theorem f268_171 : aF 171 zM268.2.2.2.2.2.2.2 = some (171, (.aload_n 0), 1, 0, 0) := by decide +kernel
theorem f268_172 : aF 172 zM268.2.2.2.2.2.2.2 = some (172, (.getfield 179), 3, 12, 70) := by decide +kernel
theorem f268_175 : aF 175 zM268.2.2.2.2.2.2.2 = some (175, (.iload 4), 2, 0, 0) := by decide +kernel
theorem f268_177 : aF 177 zM268.2.2.2.2.2.2.2 = some (177, .iaload, 1, 0, 0) := by decide +kernel
theorem f268_178 : aF 178 zM268.2.2.2.2.2.2.2 = some (178, (.invokestatic 454), 3, 267, 0) := by decide +kernel
theorem f268_181 : aF 181 zM268.2.2.2.2.2.2.2 = some (181, .iastore, 1, 0, 0) := by decide +kernel
theorem f268_182 : aF 182 zM268.2.2.2.2.2.2.2 = some (182, (.iinc 5 1), 3, 0, 0) := by decide +kernel
theorem f268_185 : aF 185 zM268.2.2.2.2.2.2.2 = some (185, (.goto (-173)), 3, 12, 0) := by decide +kernel
theorem f268_188 : aF 188 zM268.2.2.2.2.2.2.2 = some (188, (.aload_n 0), 1, 0, 0) := by decide +kernel
theorem f268_189 : aF 189 zM268.2.2.2.2.2.2.2 = some (189, (.getfield 179), 3, 12, 70) := by decide +kernel
theorem f268_192 : aF 192 zM268.2.2.2.2.2.2.2 = some (192, (.iconst 0), 1, 0, 0) := by decide +kernel
theorem f268_193 : aF 193 zM268.2.2.2.2.2.2.2 = some (193, .iaload, 1, 0, 0) := by decide +kernel
theorem f268_194 : aF 194 zM268.2.2.2.2.2.2.2 = some (194, .ireturn, 1, 0, 0) := by decide +kernel
theorem f269_0 : aF 0 zM269.2.2.2.2.2.2.2 = some (0, (.iconst 0), 1, 0, 0) := by decide +kernel
theorem f269_1 : aF 1 zM269.2.2.2.2.2.2.2 = some (1, (.istore_n 2), 1, 0, 0) := by decide +kernel
theorem f269_2 : aF 2 zM269.2.2.2.2.2.2.2 = some (2, (.iconst 0), 1, 0, 0) := by decide +kernel
theorem f269_3 : aF 3 zM269.2.2.2.2.2.2.2 = some (3, (.istore_n 3), 1, 0, 0) := by decide +kernel
theorem f269_4 : aF 4 zM269.2.2.2.2.2.2.2 = some (4, (.iload_n 3), 1, 0, 0) := by decide +kernel
theorem f269_5 : aF 5 zM269.2.2.2.2.2.2.2 = some (5, (.aload_n 0), 1, 0, 0) := by decide +kernel
theorem f269_6 : aF 6 zM269.2.2.2.2.2.2.2 = some (6, (.getfield 161), 3, 12, 59) := by decide +kernel
theorem f269_9 : aF 9 zM269.2.2.2.2.2.2.2 = some (9, (.iload_n 1), 1, 0, 0) := by decide +kernel
theorem f269_10 : aF 10 zM269.2.2.2.2.2.2.2 = some (10, .iaload, 1, 0, 0) := by decide +kernel
theorem f269_11 : aF 11 zM269.2.2.2.2.2.2.2 = some (11, (.if_icmp .ge 77), 3, 88, 0) := by decide +kernel
theorem f269_14 : aF 14 zM269.2.2.2.2.2.2.2 = some (14, (.bipush 90), 2, 0, 0) := by decide +kernel
theorem f269_16 : aF 16 zM269.2.2.2.2.2.2.2 = some (16, (.iload_n 1), 1, 0, 0) := by decide +kernel
theorem f269_17 : aF 17 zM269.2.2.2.2.2.2.2 = some (17, .imul, 1, 0, 0) := by decide +kernel
theorem f269_18 : aF 18 zM269.2.2.2.2.2.2.2 = some (18, (.iload_n 3), 1, 0, 0) := by decide +kernel
theorem f269_19 : aF 19 zM269.2.2.2.2.2.2.2 = some (19, .iadd, 1, 0, 0) := by decide +kernel
theorem f269_20 : aF 20 zM269.2.2.2.2.2.2.2 = some (20, (.istore 4), 2, 0, 0) := by decide +kernel
theorem f269_22 : aF 22 zM269.2.2.2.2.2.2.2 = some (22, (.aload_n 0), 1, 0, 0) := by decide +kernel
theorem f269_23 : aF 23 zM269.2.2.2.2.2.2.2 = some (23, (.getfield 164), 3, 12, 60) := by decide +kernel
theorem f269_26 : aF 26 zM269.2.2.2.2.2.2.2 = some (26, (.iload 4), 2, 0, 0) := by decide +kernel
theorem f269_28 : aF 28 zM269.2.2.2.2.2.2.2 = some (28, .iaload, 1, 0, 0) := by decide +kernel
theorem f269_29 : aF 29 zM269.2.2.2.2.2.2.2 = some (29, (.iload_n 2), 1, 0, 0) := by decide +kernel
theorem f269_30 : aF 30 zM269.2.2.2.2.2.2.2 = some (30, (.if_icmp .eq 19), 3, 49, 0) := by decide +kernel
theorem f269_33 : aF 33 zM269.2.2.2.2.2.2.2 = some (33, (.aload_n 0), 1, 0, 0) := by decide +kernel
theorem f269_34 : aF 34 zM269.2.2.2.2.2.2.2 = some (34, (.iload_n 1), 1, 0, 0) := by decide +kernel
theorem f269_35 : aF 35 zM269.2.2.2.2.2.2.2 = some (35, (.iload_n 2), 1, 0, 0) := by decide +kernel
theorem f269_36 : aF 36 zM269.2.2.2.2.2.2.2 = some (36, (.aload_n 0), 1, 0, 0) := by decide +kernel
theorem f269_37 : aF 37 zM269.2.2.2.2.2.2.2 = some (37, (.getfield 164), 3, 12, 60) := by decide +kernel
theorem f269_40 : aF 40 zM269.2.2.2.2.2.2.2 = some (40, (.iload 4), 2, 0, 0) := by decide +kernel
theorem f269_42 : aF 42 zM269.2.2.2.2.2.2.2 = some (42, .iaload, 1, 0, 0) := by decide +kernel
theorem f269_43 : aF 43 zM269.2.2.2.2.2.2.2 = some (43, (.invokevirtual 457), 3, 268, 0) := by decide +kernel
theorem f269_46 : aF 46 zM269.2.2.2.2.2.2.2 = some (46, (.ifCond .eq 28), 3, 74, 0) := by decide +kernel
theorem f269_49 : aF 49 zM269.2.2.2.2.2.2.2 = some (49, (.aload_n 0), 1, 0, 0) := by decide +kernel
theorem f269_50 : aF 50 zM269.2.2.2.2.2.2.2 = some (50, (.iload_n 3), 1, 0, 0) := by decide +kernel
theorem f269_51 : aF 51 zM269.2.2.2.2.2.2.2 = some (51, (.putfield 460), 3, 12, 71) := by decide +kernel
theorem f269_54 : aF 54 zM269.2.2.2.2.2.2.2 = some (54, (.aload_n 0), 1, 0, 0) := by decide +kernel
theorem f269_55 : aF 55 zM269.2.2.2.2.2.2.2 = some (55, (.iload_n 1), 1, 0, 0) := by decide +kernel
theorem f269_56 : aF 56 zM269.2.2.2.2.2.2.2 = some (56, (.aload_n 0), 1, 0, 0) := by decide +kernel
theorem f269_57 : aF 57 zM269.2.2.2.2.2.2.2 = some (57, (.getfield 164), 3, 12, 60) := by decide +kernel
theorem f269_60 : aF 60 zM269.2.2.2.2.2.2.2 = some (60, (.iload 4), 2, 0, 0) := by decide +kernel
theorem f269_62 : aF 62 zM269.2.2.2.2.2.2.2 = some (62, .iaload, 1, 0, 0) := by decide +kernel
theorem f269_63 : aF 63 zM269.2.2.2.2.2.2.2 = some (63, (.aload_n 0), 1, 0, 0) := by decide +kernel
theorem f269_64 : aF 64 zM269.2.2.2.2.2.2.2 = some (64, (.getfield 167), 3, 12, 61) := by decide +kernel
theorem f269_67 : aF 67 zM269.2.2.2.2.2.2.2 = some (67, (.iload 4), 2, 0, 0) := by decide +kernel
theorem f269_69 : aF 69 zM269.2.2.2.2.2.2.2 = some (69, .iaload, 1, 0, 0) := by decide +kernel
theorem f269_70 : aF 70 zM269.2.2.2.2.2.2.2 = some (70, (.invokevirtual 457), 3, 268, 0) := by decide +kernel
theorem f269_73 : aF 73 zM269.2.2.2.2.2.2.2 = some (73, .ireturn, 1, 0, 0) := by decide +kernel
theorem f269_74 : aF 74 zM269.2.2.2.2.2.2.2 = some (74, (.aload_n 0), 1, 0, 0) := by decide +kernel
theorem f269_75 : aF 75 zM269.2.2.2.2.2.2.2 = some (75, (.getfield 167), 3, 12, 61) := by decide +kernel
theorem f269_78 : aF 78 zM269.2.2.2.2.2.2.2 = some (78, (.iload 4), 2, 0, 0) := by decide +kernel
theorem f269_80 : aF 80 zM269.2.2.2.2.2.2.2 = some (80, .iaload, 1, 0, 0) := by decide +kernel
theorem f269_81 : aF 81 zM269.2.2.2.2.2.2.2 = some (81, (.istore_n 2), 1, 0, 0) := by decide +kernel
theorem f269_82 : aF 82 zM269.2.2.2.2.2.2.2 = some (82, (.iinc 3 1), 3, 0, 0) := by decide +kernel
theorem f269_85 : aF 85 zM269.2.2.2.2.2.2.2 = some (85, (.goto (-81)), 3, 4, 0) := by decide +kernel
theorem f269_88 : aF 88 zM269.2.2.2.2.2.2.2 = some (88, (.aload_n 0), 1, 0, 0) := by decide +kernel
theorem f269_89 : aF 89 zM269.2.2.2.2.2.2.2 = some (89, (.iconst (-1)), 1, 0, 0) := by decide +kernel
theorem f269_90 : aF 90 zM269.2.2.2.2.2.2.2 = some (90, (.putfield 460), 3, 12, 71) := by decide +kernel
theorem f269_93 : aF 93 zM269.2.2.2.2.2.2.2 = some (93, (.iconst 0), 1, 0, 0) := by decide +kernel
theorem f269_94 : aF 94 zM269.2.2.2.2.2.2.2 = some (94, .ireturn, 1, 0, 0) := by decide +kernel
def cC330 : cC := (265, 0, [], ([(3, 72, .ofNat 0), (1, 1, .ofNat 0), (1, 2, .ofNat 0), (1, 3, .ofNat 0), (0, 0, .ofNat 0)], [], ([(.ofNat 0, .ofNat 0), (.ofNat 0, .ofNat 149), (.ofNat 0, .ofNat 9), (.ofNat 0, .ofNat 3649)], [], [], [], [], [], [])), [([], [(1, 1, .ofNat 0)], ([(.ofNat 0, .ofNat 0), (.negSucc 1, .ofNat 15), (.ofNat 0, .ofNat 16)], [(1, 2, .negSucc 0)], [], [], [(72, 55, 1, 2, .ofNat 0)], [], []))], [(8, ([(3, 72, .ofNat 0), (1, 1, .ofNat 0), (1, 2, .ofNat 0), (1, 3, .ofNat 0), (1, 4, .negSucc 0)], [], ([(.ofNat 0, .ofNat 0), (.ofNat 0, .ofNat 149), (.ofNat 0, .ofNat 9), (.ofNat 0, .ofNat 3649), (.ofNat 0, .ofNat 16), (.ofNat 0, .ofNat 16)], [(4, 5, .ofNat 0)], [], [], [(72, 55, 1, 5, .ofNat 0)], [], [])), (.ofNat 0, [(.ofNat 1, 4)]))])
def cC331 : cC := (269, 8, [(72, 71), (125, 0)], ([(3, 72, .ofNat 0), (1, 1, .ofNat 0), (0, 0, .ofNat 0), (0, 0, .ofNat 0), (0, 0, .ofNat 0)], [], ([(.ofNat 0, .ofNat 0), (.ofNat 0, .ofNat 15), (.ofNat 0, .ofNat 16)], [(1, 2, .negSucc 0)], [], [], [(72, 55, 1, 2, .ofNat 0)], [], [])), [([], [(1, 1, .ofNat 0)], ([(.ofNat 0, .ofNat 0), (.negSucc 2147483647, .ofNat 2147483647)], [], [], [], [], [], []))], [])
theorem wfS_H {ga gw : Nat → Int32} {t A B : Nat} {H : Nat → Nat} (h0 : H A = 0) (hs : ∀ k, A ≤ k → k < B → ((ga (170 * t + k) = 1 ∧ H (k + 1) = H k + 1) ∨ (ga (170 * t + k) = 2 ∧ 0 ≤ (gw (170 * t + k)).toInt ∧ (gw (170 * t + k)).toInt ≤ 12 ∧ H (k + 1) = H k + 1) ∨ ((ga (170 * t + k) = 3 ∨ ga (170 * t + k) = 4) ∧ 1 ≤ H k ∧ H (k + 1) = H k) ∨ (¬ ga (170 * t + k) = 1 ∧ ¬ ga (170 * t + k) = 2 ∧ ¬ ga (170 * t + k) = 3 ∧ ¬ ga (170 * t + k) = 4 ∧ 2 ≤ H k ∧ H (k + 1) + 1 = H k))) : ∀ n, A + n ≤ B → H (A + n) ≤ n
  | 0, _ => by rw [Nat.add_zero, h0]; exact Nat.le_refl _
  | n + 1, hn => by
    have ih := wfS_H h0 hs n (by omega)
    have := hs (A + n) (by omega) (by omega)
    rw [show A + (n + 1) = A + n + 1 by omega]
    omega
theorem i_c {x : Int32} {c : Int32} {z : Int} (hc : c.toInt = z) : x = c ↔ x.toInt = z := by rw [b_i, hc]
theorem wkA {X : aX} {D : Nat} {Q : Option Value → aH → Prop} (GB : dGood X cC315) (hD : 1 ≤ D) {x1 x2 x3 : Int32} {t A B : Nat} {ga gw : Nat → Int32} {H : Nat → Nat} (ht : x1.toInt = t) (t1 : t ≤ 15) (hB : x3.toInt = B) (b1 : B ≤ 170) (h0 : H A = 0) (hs : ∀ k, A ≤ k → k < B → ((ga (170 * t + k) = 1 ∧ H (k + 1) = H k + 1) ∨ (ga (170 * t + k) = 2 ∧ 0 ≤ (gw (170 * t + k)).toInt ∧ (gw (170 * t + k)).toInt ≤ 12 ∧ H (k + 1) = H k + 1) ∨ ((ga (170 * t + k) = 3 ∨ ga (170 * t + k) = 4) ∧ 1 ≤ H k ∧ H (k + 1) = H k) ∨ (¬ ga (170 * t + k) = 1 ∧ ¬ ga (170 * t + k) = 2 ∧ ¬ ga (170 * t + k) = 3 ∧ ¬ ga (170 * t + k) = 4 ∧ 2 ≤ H k ∧ H (k + 1) + 1 = H k))) : ∀ (k j : Nat) (x4 x5 : Int32) (u6 : Option Value) (σ : List Nat) (h : aH) (fs : List Value), B - j = k → A ≤ j → j ≤ B → x5.toInt = ((170 * t + j : Nat) : Int) → x4.toInt = H j → dI σ h → h.1[72]? = some (.inr (12, fs)) → h.1[122]? = some (.inl (0, 2890, .inl ga)) → h.1[123]? = some (.inl (0, 2890, .inl gw)) →
    (∀ (σ' : List Nat) (h' : aH) (y4 y5 : Int32) (v6 : Option Value), dI σ' h' → dG cC331.2.2.1 σ h σ' h' → Wp X D zM268 Q 188 [some (.ref 72), some (.int x1), some (.int x2), some (.int x3), some (.int y4), some (.int y5), v6] [] h') → Wp X D zM268 Q 12 [some (.ref 72), some (.int x1), some (.int x2), some (.int x3), some (.int x4), some (.int x5), u6] [] h := by
  intro k
  induction k with
  | zero =>
    intro j x4 x5 u6 σ h fs hk a0 a1 e5 e4 I c72 c122 c123 kq
    refine wp1 (fun n d => r_iload f268_12 rfl) ?_
    refine w_sipush f268_14 (fun v14 hv14 => ?_)
    refine wp1 (fun n d => r_iloadn f268_17 rfl) ?_
    refine w_imul f268_18 (by rw [hv14]; omega) (by rw [hv14]; omega) (fun v18 hv18 => ?_)
    rw [hv14] at hv18
    refine wp1 (fun n d => r_iloadn f268_19 rfl) ?_
    refine w_iadd f268_20 (by omega) (by omega) (fun v20 hv20 => ?_)
    exact w_icmp_ge f268_21 (fun e => kq σ h x4 x5 u6 I (dG_refl _ _ _)) (fun e => absurd e (by omega))
  | succ k ih =>
    intro j x4 x5 u6 σ h fs hk a0 a1 e5 e4 I c72 c122 c123 kq
    have hj := wfS_H h0 hs (j - A) (by omega)
    rw [show A + (j - A) = j by omega] at hj
    have sj := hs j a0 (by omega)
    rw [← show x5.toInt.toNat = 170 * t + j by omega] at sj
    rw [i_c (z := 1) (by decide), i_c (z := 2) (by decide), i_c (z := 3) (by decide), i_c (z := 4) (by decide)] at sj
    refine wp1 (fun n d => r_iload f268_12 rfl) ?_
    refine w_sipush f268_14 (fun v14 hv14 => ?_)
    refine wp1 (fun n d => r_iloadn f268_17 rfl) ?_
    refine w_imul f268_18 (by rw [hv14]; omega) (by rw [hv14]; omega) (fun v18 hv18 => ?_)
    rw [hv14] at hv18
    refine wp1 (fun n d => r_iloadn f268_19 rfl) ?_
    refine w_iadd f268_20 (by omega) (by omega) (fun v20 hv20 => ?_)
    refine w_icmp_ge f268_21 (fun e21 => absurd e21 (by omega)) (fun e21 => ?_)
    have k182 : ∀ (σ1 : List Nat) (h1 : aH) (y4 y6 : Int32), dI σ1 h1 → dG cC331.2.2.1 σ h σ1 h1 → y4.toInt = H (j + 1) → Wp X D zM268 Q 182 [some (.ref 72), some (.int x1), some (.int x2), some (.int x3), some (.int y4), some (.int x5), some (.int y6)] [] h1 := by
      intro σ1 h1 y4 y6 I1 G1 e1
      obtain ⟨fs1, d72, dfs⟩ := dG_o I.1 G1 c72 (by decide)
      have d122 := dG_a I.1 G1 c122 (by decide) rfl
      have d123 := dG_a I.1 G1 c123 (by decide) rfl
      refine w_iinc f268_182 rfl (by omega) (by omega) (fun v182 hv182 => ?_)
      show Wp _ _ _ _ 185 [some (.ref 72), some (.int x1), some (.int x2), some (.int x3), some (.int y4), some (.int v182), some (.int y6)] [] _
      refine wp1 (fun n d => r_goto f268_185) ?_
      exact ih (j + 1) y4 v182 _ σ1 h1 fs1 (by omega) (by omega) (by omega) (by omega) e1 I1 d72 d122 d123 (fun σ' h' y4 y5 v6 I' G' => kq σ' h' y4 y5 v6 I' (dG_trans G1 G'))
    refine wp1 (fun n d => r_aloadn f268_24 rfl) ?_
    have F1001 := hI_r I c72 (f := 62) (q := 122) (by decide +kernel)
    refine w_get f268_25 c72 F1001 ?_
    refine wp1 (fun n d => r_iload f268_28 rfl) ?_
    refine w_iald f268_30 c122 (by omega) (by omega) (fun v30 hv30 => ?_)
    refine wp1 (fun n d => r_istore (L' := [some (.ref 72), some (.int x1), some (.int x2), some (.int x3), some (.int x4), some (.int x5), some (.int v30)]) f268_31 rfl rfl) ?_
    rw [← hv30] at sj
    refine wp1 (fun n d => r_iload f268_33 rfl) ?_
    refine w_iconst f268_35 (fun v35 hv35 => ?_)
    have k79 : ∀ v : Int32, (v30.toInt = 1 ∨ v30.toInt = 2) → Wp X D zM268 Q 79 [some (.ref 72), some (.int x1), some (.int x2), some (.int x3), some (.int x4), some (.int x5), some (.int v30)] [.int v, .int x4, .ref 125] h := by
      intro v hv
      obtain ⟨g1002, c1002, R1002⟩ := hI_a I (r := 125) (a := 0) (n := 170) (lo := (-2147483648)) (hi := 2147483647) (by decide +kernel)
      refine w_iastI f268_79 c1002 (by omega) (by omega) I (W := cC331.2.2.1) (lo := (-2147483648)) (hi := 2147483647) (by decide +kernel) (by decide) (iR v).1 (iR v).2 (fun h1003 I1003 G1003 c1003 ne1003 => ?_)
      obtain ⟨g1003, hg1003⟩ : ∃ g', g' = upd g1002 x4.toInt.toNat v := ⟨_, rfl⟩
      rw [← hg1003] at c1003
      have c1004 := (ne1003 72 (by decide)).trans c72
      have c1005 := (ne1003 122 (by decide)).trans c122
      have c1006 := (ne1003 123 (by decide)).trans c123
      refine w_iinc f268_80 rfl (by omega) (by omega) (fun v80 hv80 => ?_)
      show Wp _ _ _ _ 83 [some (.ref 72), some (.int x1), some (.int x2), some (.int x3), some (.int v80), some (.int x5), some (.int v30)] [] _
      refine wp1 (fun n d => r_goto f268_83) ?_
      exact k182 σ h1003 v80 _ I1003 G1003 (by omega)
    have k45 : (v30.toInt = 1 ∨ v30.toInt = 2) → Wp X D zM268 Q 45 [some (.ref 72), some (.int x1), some (.int x2), some (.int x3), some (.int x4), some (.int x5), some (.int v30)] [] h := by
      intro hv
      refine wp1 (fun n d => r_aloadn f268_45 rfl) ?_
      have F1002 := hI_r I c72 (f := 70) (q := 125) (by decide +kernel)
      refine w_get f268_46 c72 F1002 ?_
      refine wp1 (fun n d => r_iload f268_49 rfl) ?_
      refine wp1 (fun n d => r_iload f268_51 rfl) ?_
      refine w_iconst f268_53 (fun v53 hv53 => ?_)
      refine w_icmp_ne f268_54 (fun e54 => ?_) (fun e54 => ?_)
      · refine wp1 (fun n d => r_aloadn f268_67 rfl) ?_
        have F1003 := hI_r I c72 (f := 69) (q := 124) (by decide +kernel)
        refine w_get f268_68 c72 F1003 ?_
        refine wp1 (fun n d => r_aloadn f268_71 rfl) ?_
        have F1004 := hI_r I c72 (f := 63) (q := 123) (by decide +kernel)
        refine w_get f268_72 c72 F1004 ?_
        refine wp1 (fun n d => r_iload f268_75 rfl) ?_
        refine w_iald f268_77 c123 (by omega) (by omega) (fun v77 hv77 => ?_)
        have b77 : 0 ≤ v77.toInt ∧ v77.toInt ≤ 12 := by rw [hv77]; omega
        obtain ⟨g1005, c1005, R1005⟩ := hI_a I (r := 124) (a := 0) (n := 13) (lo := (-2147483648)) (hi := 2147483647) (by decide +kernel)
        refine w_iald f268_78 c1005 (by omega) (by omega) (fun v78 hv78 => ?_)
        have bv78 := R1005 v77.toInt.toNat (by omega)
        rw [← hv78] at bv78
        exact k79 v78 hv
      · refine wp1 (fun n d => r_aloadn f268_57 rfl) ?_
        have F1003 := hI_r I c72 (f := 63) (q := 123) (by decide +kernel)
        refine w_get f268_58 c72 F1003 ?_
        refine wp1 (fun n d => r_iload f268_61 rfl) ?_
        refine w_iald f268_63 c123 (by omega) (by omega) (fun v63 hv63 => ?_)
        refine wp1 (fun n d => r_goto f268_64) ?_
        exact k79 v63 hv
    refine w_icmp_eq f268_36 (fun e36 => k45 (Or.inl (by omega))) (fun e36 => ?_)
    refine wp1 (fun n d => r_iload f268_39 rfl) ?_
    refine w_iconst f268_41 (fun v41 hv41 => ?_)
    refine w_icmp_ne f268_42 (fun e42 => ?_) (fun e42 => k45 (Or.inr (by omega)))
    refine wp1 (fun n d => r_iload f268_86 rfl) ?_
    refine w_iconst f268_88 (fun v88 hv88 => ?_)
    refine w_icmp_ne f268_89 (fun e89 => ?_) (fun e89 => ?_)
    rotate_left
    · refine wp1 (fun n d => r_aloadn f268_92 rfl) ?_
      have F1002 := hI_r I c72 (f := 70) (q := 125) (by decide +kernel)
      refine w_get f268_93 c72 F1002 ?_
      refine wp1 (fun n d => r_iload f268_96 rfl) ?_
      refine w_iconst f268_98 (fun v98 hv98 => ?_)
      refine w_isub f268_99 (by omega) (by omega) (fun v99 hv99 => ?_)
      refine wp1 (fun n d => r_aloadn f268_100 rfl) ?_
      refine w_get f268_101 c72 F1002 ?_
      refine wp1 (fun n d => r_iload f268_104 rfl) ?_
      refine w_iconst f268_106 (fun v106 hv106 => ?_)
      refine w_isub f268_107 (by omega) (by omega) (fun v107 hv107 => ?_)
      obtain ⟨g1003, c1003, R1003⟩ := hI_a I (r := 125) (a := 0) (n := 170) (lo := (-2147483648)) (hi := 2147483647) (by decide +kernel)
      refine w_iald f268_108 c1003 (by omega) (by omega) (fun v108 hv108 => ?_)
      have bv108 := R1003 v107.toInt.toNat (by omega)
      rw [← hv108] at bv108
      have k117 : ∀ v : Int32, Wp X D zM268 Q 117 [some (.ref 72), some (.int x1), some (.int x2), some (.int x3), some (.int x4), some (.int x5), some (.int v30)] [.int v, .int v99, .ref 125] h := by
        intro v
        refine w_iastI f268_117 c1003 (by omega) (by omega) I (W := cC331.2.2.1) (lo := (-2147483648)) (hi := 2147483647) (by decide +kernel) (by decide) (iR v).1 (iR v).2 (fun h1004 I1004 G1004 c1004 ne1004 => ?_)
        obtain ⟨g1004, hg1004⟩ : ∃ g', g' = upd g1003 v99.toInt.toNat v := ⟨_, rfl⟩
        rw [← hg1004] at c1004
        have c1005 := (ne1004 72 (by decide)).trans c72
        have c1006 := (ne1004 122 (by decide)).trans c122
        have c1007 := (ne1004 123 (by decide)).trans c123
        refine wp1 (fun n d => r_goto f268_118) ?_
        exact k182 σ h1004 x4 _ I1004 G1004 (by omega)
      refine w_if_ne f268_109 (fun _ => ?_) (fun _ => ?_)
      · refine w_iconst f268_116 (fun v116 hv116 => ?_)
        exact k117 v116
      · refine w_iconst f268_112 (fun v112 hv112 => ?_)
        refine wp1 (fun n d => r_goto f268_113) ?_
        exact k117 v112
    refine wp1 (fun n d => r_iload f268_121 rfl) ?_
    refine w_iconst f268_123 (fun v123 hv123 => ?_)
    refine w_icmp_ne f268_124 (fun e124 => ?_) (fun e124 => ?_)
    rotate_left
    · refine wp1 (fun n d => r_aloadn f268_127 rfl) ?_
      have F1002 := hI_r I c72 (f := 70) (q := 125) (by decide +kernel)
      refine w_get f268_128 c72 F1002 ?_
      refine wp1 (fun n d => r_iload f268_131 rfl) ?_
      refine w_iconst f268_133 (fun v133 hv133 => ?_)
      refine w_isub f268_134 (by omega) (by omega) (fun v134 hv134 => ?_)
      refine wp1 (fun n d => r_aloadn f268_135 rfl) ?_
      refine w_get f268_136 c72 F1002 ?_
      refine wp1 (fun n d => r_iload f268_139 rfl) ?_
      refine w_iconst f268_141 (fun v141 hv141 => ?_)
      refine w_isub f268_142 (by omega) (by omega) (fun v142 hv142 => ?_)
      obtain ⟨g1003, c1003, R1003⟩ := hI_a I (r := 125) (a := 0) (n := 170) (lo := (-2147483648)) (hi := 2147483647) (by decide +kernel)
      refine w_iald f268_143 c1003 (by omega) (by omega) (fun v143 hv143 => ?_)
      have bv143 := R1003 v142.toInt.toNat (by omega)
      rw [← hv143] at bv143
      refine w_ineg' f268_144 (fun v144 => ?_)
      refine w_iastI f268_145 c1003 (by omega) (by omega) I (W := cC331.2.2.1) (lo := (-2147483648)) (hi := 2147483647) (by decide +kernel) (by decide) (iR v144).1 (iR v144).2 (fun h1004 I1004 G1004 c1004 ne1004 => ?_)
      obtain ⟨g1004, hg1004⟩ : ∃ g', g' = upd g1003 v134.toInt.toNat v144 := ⟨_, rfl⟩
      rw [← hg1004] at c1004
      have c1005 := (ne1004 72 (by decide)).trans c72
      have c1006 := (ne1004 122 (by decide)).trans c122
      have c1007 := (ne1004 123 (by decide)).trans c123
      refine wp1 (fun n d => r_goto f268_146) ?_
      exact k182 σ h1004 x4 _ I1004 G1004 (by omega)
    refine w_iinc f268_149 rfl (by omega) (by omega) (fun v149 hv149 => ?_)
    show Wp _ _ _ _ 152 [some (.ref 72), some (.int x1), some (.int x2), some (.int x3), some (.int v149), some (.int x5), some (.int v30)] [] _
    refine wp1 (fun n d => r_aloadn f268_152 rfl) ?_
    have F1002 := hI_r I c72 (f := 70) (q := 125) (by decide +kernel)
    refine w_get f268_153 c72 F1002 ?_
    refine wp1 (fun n d => r_iload f268_156 rfl) ?_
    refine w_iconst f268_158 (fun v158 hv158 => ?_)
    refine w_isub f268_159 (by omega) (by omega) (fun v159 hv159 => ?_)
    refine wp1 (fun n d => r_iload f268_160 rfl) ?_
    refine wp1 (fun n d => r_aloadn f268_162 rfl) ?_
    refine w_get f268_163 c72 F1002 ?_
    refine wp1 (fun n d => r_iload f268_166 rfl) ?_
    refine w_iconst f268_168 (fun v168 hv168 => ?_)
    refine w_isub f268_169 (by omega) (by omega) (fun v169 hv169 => ?_)
    obtain ⟨g1003, c1003, R1003⟩ := hI_a I (r := 125) (a := 0) (n := 170) (lo := (-2147483648)) (hi := 2147483647) (by decide +kernel)
    refine w_iald f268_170 c1003 (by omega) (by omega) (fun v170 hv170 => ?_)
    have bv170 := R1003 v169.toInt.toNat (by omega)
    rw [← hv170] at bv170
    refine wp1 (fun n d => r_aloadn f268_171 rfl) ?_
    refine w_get f268_172 c72 F1002 ?_
    refine wp1 (fun n d => r_iload f268_175 rfl) ?_
    refine w_iald f268_177 c1003 (by omega) (by omega) (fun v177 hv177 => ?_)
    have bv177 := R1003 v149.toInt.toNat (by omega)
    rw [← hv177] at bv177
    refine wp_good GB (Y := zM267) (show zmt[267]? = some zM267 from rfl) I (ρ := [0, v30.toInt, v170.toInt, v177.toInt]) (dK_v (kV_of rfl ⟨⟨by decide, by decide⟩, iR v30, iR v170, iR v177, trivial⟩)) (dL_of (l := [some (.int v30), some (.int v170), some (.int v177)]) ⟨lw_i rfl, lw_i rfl, lw_i rfl, trivial⟩) (fun n d v h' e => r_stat (as := [.int v30, .int v170, .int v177]) (r := [.int v159, .ref 125]) f268_178 rfl (show zmt[267]? = some zM267 from rfl) rfl rfl rfl rfl rfl rfl e) (by first | decide | (show 0 + 1 ≤ _; omega)) (fun v h1004 σ1004 I1004 G1004 P1004 => ?_)
    obtain ⟨v178, rfl, p178, q178⟩ := rpost_i P1004 rfl
    have p178 : (-2147483648) ≤ v178.toInt := p178
    have q178 : v178.toInt ≤ 2147483647 := q178
    show Wp _ _ _ _ 181 [some (.ref 72), some (.int x1), some (.int x2), some (.int x3), some (.int v149), some (.int x5), some (.int v30)] [.int v178, .int v159, .ref 125] _
    obtain ⟨fs1005, c1005, df1005⟩ := dG_o I.1 G1004 c72 (by decide)
    have F1006 := (df1005 62 rfl).trans F1001
    have F1007 := (df1005 70 rfl).trans F1002
    have c1008 := dG_a I.1 G1004 c122 (by decide) rfl
    have c1009 := dG_a I.1 G1004 c123 (by decide) rfl
    have c1010 := dG_a I.1 G1004 c1003 (by decide) rfl
    refine w_iastI f268_181 c1010 (by omega) (by omega) I1004 (W := cC331.2.2.1) (lo := (-2147483648)) (hi := 2147483647) (by decide +kernel) (by decide) (iR v178).1 (iR v178).2 (fun h1011 I1011 G1011 c1011 ne1011 => ?_)
    obtain ⟨g1011, hg1011⟩ : ∃ g', g' = upd g1003 v159.toInt.toNat v178 := ⟨_, rfl⟩
    rw [← hg1011] at c1011
    have c1012 := (ne1011 72 (by decide)).trans c1005
    have c1013 := (ne1011 122 (by decide)).trans c1008
    have c1014 := (ne1011 123 (by decide)).trans c1009
    exact k182 _ h1011 v149 _ I1011 (dG_trans (dG_sub (by decide) G1004) G1011) (by omega)
theorem worked_wp {X : aX} {D : Nat} (GB : dGood X cC315) (hD : 1 ≤ D) {x1 x2 x3 : Int32} {u4 u5 u6 : Option Value} {t A B : Nat} {ga gw : Nat → Int32} (ht : x1.toInt = t) (t1 : t ≤ 15) (hA : x2.toInt = A) (hB : x3.toInt = B) (wf : wfS ga gw t A B) {σ : List Nat} {h : aH} (I : dI σ h) (c122 : h.1[122]? = some (.inl (0, 2890, .inl ga))) (c123 : h.1[123]? = some (.inl (0, 2890, .inl gw))) : Wp X D zM268 (fun v h' => (∃ r : Int32, v = some (.int r)) ∧ ∃ σ', dI σ' h' ∧ dG cC331.2.2.1 σ h σ' h') 0 [some (.ref 72), some (.int x1), some (.int x2), some (.int x3), u4, u5, u6] [] h := by
  obtain ⟨w1, w2, H, w3, w4⟩ := wf
  refine w_iconst f268_0 (fun v0 hv0 => ?_)
  refine wp1 (fun n d => r_istore (L' := [some (.ref 72), some (.int x1), some (.int x2), some (.int x3), some (.int v0), u5, u6]) f268_1 rfl rfl) ?_
  refine w_sipush f268_3 (fun v3 hv3 => ?_)
  refine wp1 (fun n d => r_iloadn f268_6 rfl) ?_
  refine w_imul f268_7 (by rw [hv3]; omega) (by rw [hv3]; omega) (fun v7 hv7 => ?_)
  rw [hv3] at hv7
  refine wp1 (fun n d => r_iloadn f268_8 rfl) ?_
  refine w_iadd f268_9 (by omega) (by omega) (fun v9 hv9 => ?_)
  refine wp1 (fun n d => r_istore (L' := [some (.ref 72), some (.int x1), some (.int x2), some (.int x3), some (.int v0), some (.int v9), u6]) f268_10 rfl rfl) ?_
  obtain ⟨fs1001, c1001⟩ := hI_o I (r := 72) (ci := 12) (by decide +kernel)
  refine wkA GB hD ht t1 hB w2 w3 w4 _ A v0 v9 _ σ h fs1001 rfl (Nat.le_refl _) w1 (by omega) (by rw [w3]; omega) I c1001 c122 c123 (fun σ1 h1 y4 y5 v6 I1 G1 => ?_)
  revert v6; intro u6
  refine wp1 (fun n d => r_aloadn f268_188 rfl) ?_
  obtain ⟨fs1001, c1001⟩ := hI_o I1 (r := 72) (ci := 12) (by decide +kernel)
  have F1002 := hI_r I1 c1001 (f := 70) (q := 125) (by decide +kernel)
  refine w_get f268_189 c1001 F1002 ?_
  refine w_iconst f268_192 (fun v192 hv192 => ?_)
  obtain ⟨g1003, c1003, R1003⟩ := hI_a I1 (r := 125) (a := 0) (n := 170) (lo := (-2147483648)) (hi := 2147483647) (by decide +kernel)
  refine w_iald f268_193 c1003 (by omega) (by omega) (fun v193 hv193 => ?_)
  have bv193 := R1003 v192.toInt.toNat (by omega)
  rw [← hv193] at bv193
  exact wp_end (fun n d => r_ireturn f268_194 rfl) ⟨⟨_, rfl⟩, σ1, I1, G1⟩
theorem gvA {X : aX} (GB : dGood X cC315) {x1 : Int32} {t : Nat} {σ0 : List Nat} {h0 : aH} {ga gw gt gl gm : Nat → Int32} {x : Int32} (I0 : dI σ0 h0) (ht : x1.toInt = t) (t1 : t ≤ 15) (a1 : h0.1[122]? = some (.inl (0, 2890, .inl ga))) (a2 : h0.1[123]? = some (.inl (0, 2890, .inl gw))) (a3 : h0.1[120]? = some (.inl (0, 1530, .inl gt))) (a4 : h0.1[121]? = some (.inl (0, 1530, .inl gl))) (a5 : h0.1[119]? = some (.inl (0, 17, .inl gm))) (wf : wft ga gw gt gl gm x) (tx : (t : Int) < x.toInt) : ∀ (k i : Nat) (x2 x3 : Int32) (u4 : Option Value) (σ : List Nat) (h : aH), (gm t).toInt.toNat - i = k → x3.toInt = i → i ≤ (gm t).toInt.toNat → (i = 0 → x2.toInt = 0) → (∀ j, i = j + 1 → (gl (90 * t + j)).toInt = x2.toInt) → dI σ h → dG cC331.2.2.1 σ0 h0 σ h → Wp X 8 zM269 (hQ cC331 σ0 h0) 4 [some (.ref 72), some (.int x1), some (.int x2), some (.int x3), u4] [] h := by
  obtain ⟨m0, m1, wl⟩ := wf t tx
  intro k
  induction k with
  | zero =>
    intro i x2 x3 u4 σ h hk e3 hi z1 z2 I G
    have c119 := dG_a I0.1 G a5 (by decide) rfl
    refine wp1 (fun n d => r_iloadn f269_4 rfl) ?_
    refine wp1 (fun n d => r_aloadn f269_5 rfl) ?_
    obtain ⟨fs1001, c1001⟩ := hI_o I (r := 72) (ci := 12) (by decide +kernel)
    have F1002 := hI_r I c1001 (f := 59) (q := 119) (by decide +kernel)
    refine w_get f269_6 c1001 F1002 ?_
    refine wp1 (fun n d => r_iloadn f269_9 rfl) ?_
    refine w_iald f269_10 c119 (by omega) (by omega) (fun v10 hv10 => ?_)
    have hm : v10.toInt = (gm t).toInt := by rw [hv10, show x1.toInt.toNat = t by omega]
    refine w_icmp_ge f269_11 (fun e => ?_) (fun e => absurd e (by omega))
    refine wp1 (fun n d => r_aloadn f269_88 rfl) ?_
    refine w_iconst f269_89 (fun v89 hv89 => ?_)
    refine w_putI f269_90 c1001 I (W := cC331.2.2.1) (lo := (-2147483648)) (hi := 2147483647) (by decide +kernel) (by decide) (by decide) (iR v89).1 (iR v89).2 (by decide) (by first | rfl | (simp [aok, zY])) (fun h1003 fs1003 I1003 G1003 c1003 Fx1003 nf1003 ne1003 => ?_)
    have c1004 := (ne1003 119 (by decide)).trans c119
    have F1005 := (nf1003 59 (by decide)).trans F1002
    refine w_iconst f269_93 (fun v93 hv93 => ?_)
    exact wp_end (fun n d => r_ireturn f269_94 rfl) ⟨_, I1003, (dG_trans G G1003), _, List.mem_cons_self, post_i (I1003).1 (iR _).1 (iR _).2⟩
  | succ k ih =>
    intro i x2 x3 u4 σ h hk e3 hi z1 z2 I G
    have c119 := dG_a I0.1 G a5 (by decide) rfl
    have c120 := dG_a I0.1 G a3 (by decide) rfl
    have c121 := dG_a I0.1 G a4 (by decide) rfl
    have c122 := dG_a I0.1 G a1 (by decide) rfl
    have c123 := dG_a I0.1 G a2 (by decide) rfl
    obtain ⟨A, E, L, l1, l2, l3, l4, l5, l6⟩ := wl i (by omega)
    have hA : x2.toInt = A := by
      rcases i with _ | j
      · rw [z1 rfl, l1 rfl]; rfl
      · rw [← z2 j rfl, l2 j rfl]
    refine wp1 (fun n d => r_iloadn f269_4 rfl) ?_
    refine wp1 (fun n d => r_aloadn f269_5 rfl) ?_
    obtain ⟨fs1001, c1001⟩ := hI_o I (r := 72) (ci := 12) (by decide +kernel)
    have F1002 := hI_r I c1001 (f := 59) (q := 119) (by decide +kernel)
    refine w_get f269_6 c1001 F1002 ?_
    refine wp1 (fun n d => r_iloadn f269_9 rfl) ?_
    refine w_iald f269_10 c119 (by omega) (by omega) (fun v10 hv10 => ?_)
    have hm : v10.toInt = (gm t).toInt := by rw [hv10, show x1.toInt.toNat = t by omega]
    refine w_icmp_ge f269_11 (fun e11 => absurd e11 (by omega)) (fun e11 => ?_)
    refine w_bipush f269_14 (fun v14 hv14 => ?_)
    refine wp1 (fun n d => r_iloadn f269_16 rfl) ?_
    refine w_imul f269_17 (by rw [hv14]; omega) (by rw [hv14]; omega) (fun v17 hv17 => ?_)
    rw [hv14] at hv17
    refine wp1 (fun n d => r_iloadn f269_18 rfl) ?_
    refine w_iadd f269_19 (by omega) (by omega) (fun v19 hv19 => ?_)
    refine wp1 (fun n d => r_istore (L' := [some (.ref 72), some (.int x1), some (.int x2), some (.int x3), some (.int v19)]) f269_20 rfl rfl) ?_
    have i4 : v19.toInt.toNat = 90 * t + i := by omega
    have k49 : ∀ (σ1 : List Nat) (h1 : aH), dI σ1 h1 → dG cC331.2.2.1 σ0 h0 σ1 h1 → Wp X 8 zM269 (hQ cC331 σ0 h0) 49 [some (.ref 72), some (.int x1), some (.int x2), some (.int x3), some (.int v19)] [] h1 := by
      intro σ1 h1 I1 G1
      have d120 := dG_a I0.1 G1 a3 (by decide) rfl
      have d121 := dG_a I0.1 G1 a4 (by decide) rfl
      have d122 := dG_a I0.1 G1 a1 (by decide) rfl
      have d123 := dG_a I0.1 G1 a2 (by decide) rfl
      refine wp1 (fun n d => r_aloadn f269_49 rfl) ?_
      refine wp1 (fun n d => r_iloadn f269_50 rfl) ?_
      obtain ⟨fs1001, c1001⟩ := hI_o I1 (r := 72) (ci := 12) (by decide +kernel)
      refine w_putI f269_51 c1001 I1 (W := cC331.2.2.1) (lo := (-2147483648)) (hi := 2147483647) (by decide +kernel) (by decide) (by decide) (iR x3).1 (iR x3).2 (by decide) (by first | rfl | (simp [aok, zY])) (fun h1002 fs1002 I1002 G1002 c1002 Fx1002 nf1002 ne1002 => ?_)
      have c1003 := (ne1002 120 (by decide)).trans d120
      have c1004 := (ne1002 121 (by decide)).trans d121
      have c1005 := (ne1002 122 (by decide)).trans d122
      have c1006 := (ne1002 123 (by decide)).trans d123
      refine wp1 (fun n d => r_aloadn f269_54 rfl) ?_
      refine wp1 (fun n d => r_iloadn f269_55 rfl) ?_
      refine wp1 (fun n d => r_aloadn f269_56 rfl) ?_
      have F1007 := hI_r I1002 c1002 (f := 60) (q := 120) (by decide +kernel)
      refine w_get f269_57 c1002 F1007 ?_
      refine wp1 (fun n d => r_iload f269_60 rfl) ?_
      refine w_iald f269_62 c1003 (by omega) (by omega) (fun v62 hv62 => ?_)
      refine wp1 (fun n d => r_aloadn f269_63 rfl) ?_
      have F1008 := hI_r I1002 c1002 (f := 61) (q := 121) (by decide +kernel)
      refine w_get f269_64 c1002 F1008 ?_
      refine wp1 (fun n d => r_iload f269_67 rfl) ?_
      refine w_iald f269_69 c1004 (by omega) (by omega) (fun v69 hv69 => ?_)
      refine wp_in (lv := 7) (Y := zM268) (worked_wp GB (by decide) (t := t) (A := E) (B := L) ht t1 (by rw [hv62, i4]; exact l3) (by rw [hv69, i4]; exact l4) l6 I1002 c1005 c1006) (fun n d v h' e => r_virt (as := [.int x1, .int v62, .int v69]) (r := []) f269_70 c1002 (show zmt[268]? = some zM268 from rfl) rfl rfl rfl rfl rfl rfl e) (by decide) ?_
      rintro v h2 ⟨⟨r, rfl⟩, σ2, I2, G2⟩
      exact wp_end (fun n d => r_ireturn f269_73 rfl) ⟨_, I2, dG_trans (dG_trans G1 G1002) G2, _, List.mem_cons_self, post_i (I2).1 (iR _).1 (iR _).2⟩
    have k74 : ∀ (σ1 : List Nat) (h1 : aH), dI σ1 h1 → dG cC331.2.2.1 σ0 h0 σ1 h1 → Wp X 8 zM269 (hQ cC331 σ0 h0) 74 [some (.ref 72), some (.int x1), some (.int x2), some (.int x3), some (.int v19)] [] h1 := by
      intro σ1 h1 I1 G1
      have d121 := dG_a I0.1 G1 a4 (by decide) rfl
      refine wp1 (fun n d => r_aloadn f269_74 rfl) ?_
      obtain ⟨fs1001, c1001⟩ := hI_o I1 (r := 72) (ci := 12) (by decide +kernel)
      have F1002 := hI_r I1 c1001 (f := 61) (q := 121) (by decide +kernel)
      refine w_get f269_75 c1001 F1002 ?_
      refine wp1 (fun n d => r_iload f269_78 rfl) ?_
      refine w_iald f269_80 d121 (by omega) (by omega) (fun v80 hv80 => ?_)
      refine wp1 (fun n d => r_istoren (L' := [some (.ref 72), some (.int x1), some (.int v80), some (.int x3), some (.int v19)]) f269_81 rfl rfl) ?_
      refine w_iinc f269_82 rfl (by omega) (by omega) (fun v82 hv82 => ?_)
      show Wp _ _ _ _ 85 [some (.ref 72), some (.int x1), some (.int v80), some (.int v82), some (.int v19)] [] _
      refine wp1 (fun n d => r_goto f269_85) ?_
      exact ih (i + 1) v80 v82 _ σ1 h1 (by omega) (by omega) (by omega) (fun q => absurd q (by omega)) (fun j hj => by
        have : j = i := by omega
        subst this
        rw [hv80, i4]) I1 G1
    refine wp1 (fun n d => r_aloadn f269_22 rfl) ?_
    have F1003 := hI_r I c1001 (f := 60) (q := 120) (by decide +kernel)
    refine w_get f269_23 c1001 F1003 ?_
    refine wp1 (fun n d => r_iload f269_26 rfl) ?_
    refine w_iald f269_28 c120 (by omega) (by omega) (fun v28 hv28 => ?_)
    refine wp1 (fun n d => r_iloadn f269_29 rfl) ?_
    refine w_icmp_eq f269_30 (fun e30 => k49 σ h I G) (fun e30 => ?_)
    refine wp1 (fun n d => r_aloadn f269_33 rfl) ?_
    refine wp1 (fun n d => r_iloadn f269_34 rfl) ?_
    refine wp1 (fun n d => r_iloadn f269_35 rfl) ?_
    refine wp1 (fun n d => r_aloadn f269_36 rfl) ?_
    refine w_get f269_37 c1001 F1003 ?_
    refine wp1 (fun n d => r_iload f269_40 rfl) ?_
    refine w_iald f269_42 c120 (by omega) (by omega) (fun v42 hv42 => ?_)
    refine wp_in (lv := 7) (Y := zM268) (worked_wp GB (by decide) (t := t) (A := A) (B := E) ht t1 hA (by rw [hv42, i4]; exact l3) l5 I c122 c123) (fun n d v h' e => r_virt (as := [.int x1, .int x2, .int v42]) (r := []) f269_43 c1001 (show zmt[268]? = some zM268 from rfl) rfl rfl rfl rfl rfl rfl e) (by decide) ?_
    rintro v h2 ⟨⟨r, rfl⟩, σ2, I2, G2⟩
    exact w_if_eq f269_46 (fun _ => k74 σ2 h2 I2 (dG_trans G G2)) (fun _ => k49 σ2 h2 I2 (dG_trans G G2))
theorem gives_wp {X : aX} (GB : dGood X cC315) {x1 x : Int32} {u2 u3 u4 : Option Value} {fs : List Value} {σ : List Nat} {h : aH} (I : dI σ h) (c72 : h.1[72]? = some (.inr (12, fs))) (F55 : fs[55]? = some (.int x)) (t0 : 0 ≤ x1.toInt) (t1 : x1.toInt ≤ 15) (tx : x1.toInt < x.toInt) : Wp X 8 zM269 (hQ cC331 σ h) 0 [some (.ref 72), some (.int x1), u2, u3, u4] [] h := by
  obtain ⟨ga, gw, gt, gl, gm, fs', x', a1, a2, a3, a4, a5, a6, a7, wf⟩ := I.2.2
  cases c72.symm.trans a6
  cases F55.symm.trans a7
  obtain ⟨m0, m1, -⟩ := wf x1.toInt.toNat (by omega)
  refine w_iconst f269_0 (fun v0 hv0 => ?_)
  refine wp1 (fun n d => r_istoren (L' := [some (.ref 72), some (.int x1), some (.int v0), u3, u4]) f269_1 rfl rfl) ?_
  refine w_iconst f269_2 (fun v2 hv2 => ?_)
  refine wp1 (fun n d => r_istoren (L' := [some (.ref 72), some (.int x1), some (.int v0), some (.int v2), u4]) f269_3 rfl rfl) ?_
  exact gvA GB I (t := x1.toInt.toNat) (by omega) (by omega) a1 a2 a3 a4 a5 wf (by omega) _ 0 v0 v2 _ σ h rfl (by omega) (Nat.zero_le _) (fun _ => by omega) (fun j hj => absurd hj (by omega)) I (dG_refl _ _ _)
theorem hand_331 {X : aX} (GB : dGood X cC315) : dGood X cC331 := by
  intro M hM l h σ ρ rh I K L
  have hM0 : zmt[269]? = some zM269 := rfl
  cases (show zmt[269]? = some M from hM).symm.trans hM0
  have a0 := dL_r L (i := 0) (c := 72) (o := 0) rfl (by decide)
  obtain ⟨x1, y1, a1, r1, s1⟩ := dL_i L (i := 1) (p := 1) (o := 0) rfl
  have b1 := K.1.2.2 1 y1 (0, 15) r1 rfl
  dsimp only at b1
  obtain ⟨ya, yb, d1, d2, d3⟩ := K.2.1 (1, 2, -1) List.mem_cons_self
  dsimp only at d1 d2 d3
  obtain ⟨q, ci, fs, v, f1, f2, f3, f4⟩ := K.2.2.2.2.1 (72, 55, 1, 2, 0) List.mem_cons_self
  dsimp only at f1 f3 f4
  obtain ⟨xx, yx, rfl, f5, f6⟩ := f4
  dsimp only at f5 f6
  cases r1.symm.trans d1
  cases d2.symm.trans f5
  obtain ⟨fs2, c72⟩ := hI_o I (r := 72) (ci := 12) (by decide +kernel)
  have hq : q = 72 := by
    rcases f1 with ⟨-, e⟩ | ⟨e, -⟩
    · exact e
    · omega
  subst hq
  cases c72.symm.trans f2
  obtain ⟨u0, l1, rfl, e1⟩ := hcons (show l.length = 5 from L.1)
  obtain ⟨u1, l2, rfl, e2⟩ := hcons e1
  obtain ⟨u2, l3, rfl, e3⟩ := hcons e2
  obtain ⟨u3, l4, rfl, e4⟩ := hcons e3
  obtain ⟨u4, l5, rfl, e5⟩ := hcons e4
  cases hnil e5
  cases Option.some.inj a0
  cases Option.some.inj a1
  refine hEnd ?_
  exact gives_wp GB I c72 f3 (by omega) (by omega) (by omega)
def cCTp : List cC := [cC330, cC331, cC178, cC180, cC181, cC182, cC183]
def cCMp : List (List Nat) := ((((List.replicate 333 []).set 265 [0]).set 269 [1]).set 276 [2, 3]).set 211 [5, 6, 4]
theorem cCMp_t : cCMt cCTp cCMp = true := by decide +kernel
theorem cp_330 : cchk cCTp cCMp 3000 0 = true := by decide +kernel
theorem hT_p {X : aX} (hX : X 0 = some (8, zab)) (g : hG X 184) (GB : dGood X cC315) : hT X cCTp 7 := by
  have g0 : hT X cCTp 0 := fun j hj => absurd hj (by omega)
  have g1 := tstep hX cCMp_t g0 cp_330
  intro j hj C hC
  match j, hj, hC with
  | 0, _, hC => exact g1 0 (by omega) C hC
  | 1, _, hC => cases hC; exact hand_331 GB
  | 2, _, hC => cases hC; exact g 178 (by decide) _ rfl
  | 3, _, hC => cases hC; exact g 180 (by decide) _ rfl
  | 4, _, hC => cases hC; exact g 181 (by decide) _ rfl
  | 5, _, hC => cases hC; exact g 182 (by decide) _ rfl
  | 6, _, hC => cases hC; exact g 183 (by decide) _ rfl
end
section
-- ===== by hand: valuesOf, payBy =====
theorem f275_0 : aF 0 zM275.2.2.2.2.2.2.2 = some (0, (.iconst 0), 1, 0, 0) := by decide +kernel
theorem f275_1 : aF 1 zM275.2.2.2.2.2.2.2 = some (1, (.istore 5), 2, 0, 0) := by decide +kernel
theorem f275_3 : aF 3 zM275.2.2.2.2.2.2.2 = some (3, (.iload 5), 2, 0, 0) := by decide +kernel
theorem f275_5 : aF 5 zM275.2.2.2.2.2.2.2 = some (5, (.aload_n 0), 1, 0, 0) := by decide +kernel
theorem f275_6 : aF 6 zM275.2.2.2.2.2.2.2 = some (6, (.getfield 265), 3, 12, 2) := by decide +kernel
theorem f275_9 : aF 9 zM275.2.2.2.2.2.2.2 = some (9, (.if_icmp .ge 55), 3, 64, 0) := by decide +kernel
theorem f275_12 : aF 12 zM275.2.2.2.2.2.2.2 = some (12, (.aload_n 0), 1, 0, 0) := by decide +kernel
theorem f275_13 : aF 13 zM275.2.2.2.2.2.2.2 = some (13, (.getfield 185), 3, 12, 73) := by decide +kernel
theorem f275_16 : aF 16 zM275.2.2.2.2.2.2.2 = some (16, (.iload 5), 2, 0, 0) := by decide +kernel
theorem f275_18 : aF 18 zM275.2.2.2.2.2.2.2 = some (18, (.aload_n 0), 1, 0, 0) := by decide +kernel
theorem f275_19 : aF 19 zM275.2.2.2.2.2.2.2 = some (19, (.getfield 7), 3, 12, 3) := by decide +kernel
theorem f275_22 : aF 22 zM275.2.2.2.2.2.2.2 = some (22, (.iload 5), 2, 0, 0) := by decide +kernel
theorem f275_24 : aF 24 zM275.2.2.2.2.2.2.2 = some (24, .iaload, 1, 0, 0) := by decide +kernel
theorem f275_25 : aF 25 zM275.2.2.2.2.2.2.2 = some (25, (.bipush 6), 2, 0, 0) := by decide +kernel
theorem f275_27 : aF 27 zM275.2.2.2.2.2.2.2 = some (27, (.if_icmp .ne 25), 3, 52, 0) := by decide +kernel
theorem f275_30 : aF 30 zM275.2.2.2.2.2.2.2 = some (30, (.aload_n 0), 1, 0, 0) := by decide +kernel
theorem f275_31 : aF 31 zM275.2.2.2.2.2.2.2 = some (31, (.iload 5), 2, 0, 0) := by decide +kernel
theorem f275_33 : aF 33 zM275.2.2.2.2.2.2.2 = some (33, (.sipush 365), 3, 0, 0) := by decide +kernel
theorem f275_36 : aF 36 zM275.2.2.2.2.2.2.2 = some (36, (.iload_n 2), 1, 0, 0) := by decide +kernel
theorem f275_37 : aF 37 zM275.2.2.2.2.2.2.2 = some (37, .imul, 1, 0, 0) := by decide +kernel
theorem f275_38 : aF 38 zM275.2.2.2.2.2.2.2 = some (38, (.sipush 365), 3, 0, 0) := by decide +kernel
theorem f275_41 : aF 41 zM275.2.2.2.2.2.2.2 = some (41, .iadd, 1, 0, 0) := by decide +kernel
theorem f275_42 : aF 42 zM275.2.2.2.2.2.2.2 = some (42, (.iconst 1), 1, 0, 0) := by decide +kernel
theorem f275_43 : aF 43 zM275.2.2.2.2.2.2.2 = some (43, .isub, 1, 0, 0) := by decide +kernel
theorem f275_44 : aF 44 zM275.2.2.2.2.2.2.2 = some (44, (.iload_n 3), 1, 0, 0) := by decide +kernel
theorem f275_45 : aF 45 zM275.2.2.2.2.2.2.2 = some (45, (.invokevirtual 331), 3, 226, 0) := by decide +kernel
theorem f275_48 : aF 48 zM275.2.2.2.2.2.2.2 = some (48, (.iload_n 1), 1, 0, 0) := by decide +kernel
theorem f275_49 : aF 49 zM275.2.2.2.2.2.2.2 = some (49, (.if_icmp .eq 7), 3, 56, 0) := by decide +kernel
theorem f275_52 : aF 52 zM275.2.2.2.2.2.2.2 = some (52, (.iconst 1), 1, 0, 0) := by decide +kernel
theorem f275_53 : aF 53 zM275.2.2.2.2.2.2.2 = some (53, (.goto 4), 3, 57, 0) := by decide +kernel
theorem f275_56 : aF 56 zM275.2.2.2.2.2.2.2 = some (56, (.iconst 0), 1, 0, 0) := by decide +kernel
theorem f275_57 : aF 57 zM275.2.2.2.2.2.2.2 = some (57, .bastore, 1, 0, 0) := by decide +kernel
theorem f275_58 : aF 58 zM275.2.2.2.2.2.2.2 = some (58, (.iinc 5 1), 3, 0, 0) := by decide +kernel
theorem f275_61 : aF 61 zM275.2.2.2.2.2.2.2 = some (61, (.goto (-58)), 3, 3, 0) := by decide +kernel
theorem f275_64 : aF 64 zM275.2.2.2.2.2.2.2 = some (64, (.lconst 0), 1, 0, 0) := by decide +kernel
theorem f275_65 : aF 65 zM275.2.2.2.2.2.2.2 = some (65, (.lstore 5), 2, 0, 0) := by decide +kernel
theorem f275_67 : aF 67 zM275.2.2.2.2.2.2.2 = some (67, (.iload 4), 2, 0, 0) := by decide +kernel
theorem f275_69 : aF 69 zM275.2.2.2.2.2.2.2 = some (69, (.istore 7), 2, 0, 0) := by decide +kernel
theorem f275_71 : aF 71 zM275.2.2.2.2.2.2.2 = some (71, (.iload 7), 2, 0, 0) := by decide +kernel
theorem f275_73 : aF 73 zM275.2.2.2.2.2.2.2 = some (73, (.ifCond .le 96), 3, 169, 0) := by decide +kernel
theorem f275_76 : aF 76 zM275.2.2.2.2.2.2.2 = some (76, (.iconst (-1)), 1, 0, 0) := by decide +kernel
theorem f275_77 : aF 77 zM275.2.2.2.2.2.2.2 = some (77, (.istore 8), 2, 0, 0) := by decide +kernel
theorem f275_79 : aF 79 zM275.2.2.2.2.2.2.2 = some (79, (.iconst 0), 1, 0, 0) := by decide +kernel
theorem f275_80 : aF 80 zM275.2.2.2.2.2.2.2 = some (80, (.istore 9), 2, 0, 0) := by decide +kernel
theorem f275_82 : aF 82 zM275.2.2.2.2.2.2.2 = some (82, (.iload 9), 2, 0, 0) := by decide +kernel
theorem f275_84 : aF 84 zM275.2.2.2.2.2.2.2 = some (84, (.aload_n 0), 1, 0, 0) := by decide +kernel
theorem f275_85 : aF 85 zM275.2.2.2.2.2.2.2 = some (85, (.getfield 265), 3, 12, 2) := by decide +kernel
theorem f275_88 : aF 88 zM275.2.2.2.2.2.2.2 = some (88, (.if_icmp .ge 45), 3, 133, 0) := by decide +kernel
theorem f275_91 : aF 91 zM275.2.2.2.2.2.2.2 = some (91, (.aload_n 0), 1, 0, 0) := by decide +kernel
theorem f275_92 : aF 92 zM275.2.2.2.2.2.2.2 = some (92, (.getfield 185), 3, 12, 73) := by decide +kernel
theorem f275_95 : aF 95 zM275.2.2.2.2.2.2.2 = some (95, (.iload 9), 2, 0, 0) := by decide +kernel
theorem f275_97 : aF 97 zM275.2.2.2.2.2.2.2 = some (97, .baload, 1, 0, 0) := by decide +kernel
theorem f275_98 : aF 98 zM275.2.2.2.2.2.2.2 = some (98, (.ifCond .ne 29), 3, 127, 0) := by decide +kernel
theorem f275_101 : aF 101 zM275.2.2.2.2.2.2.2 = some (101, (.iload 8), 2, 0, 0) := by decide +kernel
theorem f275_103 : aF 103 zM275.2.2.2.2.2.2.2 = some (103, (.ifCond .lt 20), 3, 123, 0) := by decide +kernel
theorem f275_106 : aF 106 zM275.2.2.2.2.2.2.2 = some (106, (.aload_n 0), 1, 0, 0) := by decide +kernel
theorem f275_107 : aF 107 zM275.2.2.2.2.2.2.2 = some (107, (.getfield 28), 3, 12, 9) := by decide +kernel
theorem f275_110 : aF 110 zM275.2.2.2.2.2.2.2 = some (110, (.iload 9), 2, 0, 0) := by decide +kernel
theorem f275_112 : aF 112 zM275.2.2.2.2.2.2.2 = some (112, .iaload, 1, 0, 0) := by decide +kernel
theorem f275_113 : aF 113 zM275.2.2.2.2.2.2.2 = some (113, (.aload_n 0), 1, 0, 0) := by decide +kernel
theorem f275_114 : aF 114 zM275.2.2.2.2.2.2.2 = some (114, (.getfield 28), 3, 12, 9) := by decide +kernel
theorem f275_117 : aF 117 zM275.2.2.2.2.2.2.2 = some (117, (.iload 8), 2, 0, 0) := by decide +kernel
theorem f275_119 : aF 119 zM275.2.2.2.2.2.2.2 = some (119, .iaload, 1, 0, 0) := by decide +kernel
theorem f275_120 : aF 120 zM275.2.2.2.2.2.2.2 = some (120, (.if_icmp .le 7), 3, 127, 0) := by decide +kernel
theorem f275_123 : aF 123 zM275.2.2.2.2.2.2.2 = some (123, (.iload 9), 2, 0, 0) := by decide +kernel
theorem f275_125 : aF 125 zM275.2.2.2.2.2.2.2 = some (125, (.istore 8), 2, 0, 0) := by decide +kernel
theorem f275_127 : aF 127 zM275.2.2.2.2.2.2.2 = some (127, (.iinc 9 1), 3, 0, 0) := by decide +kernel
theorem f275_130 : aF 130 zM275.2.2.2.2.2.2.2 = some (130, (.goto (-48)), 3, 82, 0) := by decide +kernel
theorem f275_133 : aF 133 zM275.2.2.2.2.2.2.2 = some (133, (.aload_n 0), 1, 0, 0) := by decide +kernel
theorem f275_134 : aF 134 zM275.2.2.2.2.2.2.2 = some (134, (.getfield 185), 3, 12, 73) := by decide +kernel
theorem f275_137 : aF 137 zM275.2.2.2.2.2.2.2 = some (137, (.iload 8), 2, 0, 0) := by decide +kernel
theorem f275_139 : aF 139 zM275.2.2.2.2.2.2.2 = some (139, (.iconst 1), 1, 0, 0) := by decide +kernel
theorem f275_140 : aF 140 zM275.2.2.2.2.2.2.2 = some (140, .bastore, 1, 0, 0) := by decide +kernel
theorem f275_141 : aF 141 zM275.2.2.2.2.2.2.2 = some (141, (.lload 5), 2, 0, 0) := by decide +kernel
theorem f275_143 : aF 143 zM275.2.2.2.2.2.2.2 = some (143, (.aload_n 0), 1, 0, 0) := by decide +kernel
theorem f275_144 : aF 144 zM275.2.2.2.2.2.2.2 = some (144, (.getfield 28), 3, 12, 9) := by decide +kernel
theorem f275_147 : aF 147 zM275.2.2.2.2.2.2.2 = some (147, (.iload 8), 2, 0, 0) := by decide +kernel
theorem f275_149 : aF 149 zM275.2.2.2.2.2.2.2 = some (149, .iaload, 1, 0, 0) := by decide +kernel
theorem f275_150 : aF 150 zM275.2.2.2.2.2.2.2 = some (150, .i2l, 1, 0, 0) := by decide +kernel
theorem f275_151 : aF 151 zM275.2.2.2.2.2.2.2 = some (151, (.bipush 10), 2, 0, 0) := by decide +kernel
theorem f275_153 : aF 153 zM275.2.2.2.2.2.2.2 = some (153, (.iload 7), 2, 0, 0) := by decide +kernel
theorem f275_155 : aF 155 zM275.2.2.2.2.2.2.2 = some (155, (.invokestatic 289), 3, 211, 0) := by decide +kernel
theorem f275_158 : aF 158 zM275.2.2.2.2.2.2.2 = some (158, .i2l, 1, 0, 0) := by decide +kernel
theorem f275_159 : aF 159 zM275.2.2.2.2.2.2.2 = some (159, .lmul, 1, 0, 0) := by decide +kernel
theorem f275_160 : aF 160 zM275.2.2.2.2.2.2.2 = some (160, .ladd, 1, 0, 0) := by decide +kernel
theorem f275_161 : aF 161 zM275.2.2.2.2.2.2.2 = some (161, (.lstore 5), 2, 0, 0) := by decide +kernel
theorem f275_163 : aF 163 zM275.2.2.2.2.2.2.2 = some (163, (.iinc 7 (-10)), 3, 0, 0) := by decide +kernel
theorem f275_166 : aF 166 zM275.2.2.2.2.2.2.2 = some (166, (.goto (-95)), 3, 71, 0) := by decide +kernel
theorem f275_169 : aF 169 zM275.2.2.2.2.2.2.2 = some (169, (.lload 5), 2, 0, 0) := by decide +kernel
theorem f275_171 : aF 171 zM275.2.2.2.2.2.2.2 = some (171, .lreturn, 1, 0, 0) := by decide +kernel
theorem f277_0 : aF 0 zM277.2.2.2.2.2.2.2 = some (0, (.aload_n 0), 1, 0, 0) := by decide +kernel
theorem f277_1 : aF 1 zM277.2.2.2.2.2.2.2 = some (1, (.iload_n 1), 1, 0, 0) := by decide +kernel
theorem f277_2 : aF 2 zM277.2.2.2.2.2.2.2 = some (2, (.iload_n 2), 1, 0, 0) := by decide +kernel
theorem f277_3 : aF 3 zM277.2.2.2.2.2.2.2 = some (3, (.iload_n 3), 1, 0, 0) := by decide +kernel
theorem f277_4 : aF 4 zM277.2.2.2.2.2.2.2 = some (4, (.invokevirtual 473), 3, 272, 0) := by decide +kernel
theorem f277_7 : aF 7 zM277.2.2.2.2.2.2.2 = some (7, (.bipush 10), 2, 0, 0) := by decide +kernel
theorem f277_9 : aF 9 zM277.2.2.2.2.2.2.2 = some (9, (.aload_n 0), 1, 0, 0) := by decide +kernel
theorem f277_10 : aF 10 zM277.2.2.2.2.2.2.2 = some (10, (.getfield 13), 3, 12, 4) := by decide +kernel
theorem f277_13 : aF 13 zM277.2.2.2.2.2.2.2 = some (13, (.iload_n 1), 1, 0, 0) := by decide +kernel
theorem f277_14 : aF 14 zM277.2.2.2.2.2.2.2 = some (14, .iaload, 1, 0, 0) := by decide +kernel
theorem f277_15 : aF 15 zM277.2.2.2.2.2.2.2 = some (15, .imul, 1, 0, 0) := by decide +kernel
theorem f277_16 : aF 16 zM277.2.2.2.2.2.2.2 = some (16, (.istore 5), 2, 0, 0) := by decide +kernel
theorem f277_18 : aF 18 zM277.2.2.2.2.2.2.2 = some (18, (.aload_n 0), 1, 0, 0) := by decide +kernel
theorem f277_19 : aF 19 zM277.2.2.2.2.2.2.2 = some (19, (.getfield 176), 3, 12, 69) := by decide +kernel
theorem f277_22 : aF 22 zM277.2.2.2.2.2.2.2 = some (22, (.iconst 3), 1, 0, 0) := by decide +kernel
theorem f277_23 : aF 23 zM277.2.2.2.2.2.2.2 = some (23, .iaload, 1, 0, 0) := by decide +kernel
theorem f277_24 : aF 24 zM277.2.2.2.2.2.2.2 = some (24, (.bipush 10), 2, 0, 0) := by decide +kernel
theorem f277_26 : aF 26 zM277.2.2.2.2.2.2.2 = some (26, (.aload_n 0), 1, 0, 0) := by decide +kernel
theorem f277_27 : aF 27 zM277.2.2.2.2.2.2.2 = some (27, (.getfield 176), 3, 12, 69) := by decide +kernel
theorem f277_30 : aF 30 zM277.2.2.2.2.2.2.2 = some (30, (.bipush 9), 2, 0, 0) := by decide +kernel
theorem f277_32 : aF 32 zM277.2.2.2.2.2.2.2 = some (32, .iaload, 1, 0, 0) := by decide +kernel
theorem f277_33 : aF 33 zM277.2.2.2.2.2.2.2 = some (33, .imul, 1, 0, 0) := by decide +kernel
theorem f277_34 : aF 34 zM277.2.2.2.2.2.2.2 = some (34, (.invokestatic 289), 3, 211, 0) := by decide +kernel
theorem f277_37 : aF 37 zM277.2.2.2.2.2.2.2 = some (37, (.istore 6), 2, 0, 0) := by decide +kernel
theorem f277_39 : aF 39 zM277.2.2.2.2.2.2.2 = some (39, (.iload 4), 2, 0, 0) := by decide +kernel
theorem f277_41 : aF 41 zM277.2.2.2.2.2.2.2 = some (41, (.ifCond .lt 8), 3, 49, 0) := by decide +kernel
theorem f277_44 : aF 44 zM277.2.2.2.2.2.2.2 = some (44, (.iload 4), 2, 0, 0) := by decide +kernel
theorem f277_46 : aF 46 zM277.2.2.2.2.2.2.2 = some (46, (.goto 11), 3, 57, 0) := by decide +kernel
theorem f277_49 : aF 49 zM277.2.2.2.2.2.2.2 = some (49, (.aload_n 0), 1, 0, 0) := by decide +kernel
theorem f277_50 : aF 50 zM277.2.2.2.2.2.2.2 = some (50, (.iload 5), 2, 0, 0) := by decide +kernel
theorem f277_52 : aF 52 zM277.2.2.2.2.2.2.2 = some (52, (.iload_n 2), 1, 0, 0) := by decide +kernel
theorem f277_53 : aF 53 zM277.2.2.2.2.2.2.2 = some (53, (.iload_n 3), 1, 0, 0) := by decide +kernel
theorem f277_54 : aF 54 zM277.2.2.2.2.2.2.2 = some (54, (.invokevirtual 451), 3, 265, 0) := by decide +kernel
theorem f277_57 : aF 57 zM277.2.2.2.2.2.2.2 = some (57, (.istore 7), 2, 0, 0) := by decide +kernel
theorem f277_59 : aF 59 zM277.2.2.2.2.2.2.2 = some (59, (.iload 7), 2, 0, 0) := by decide +kernel
theorem f277_61 : aF 61 zM277.2.2.2.2.2.2.2 = some (61, (.ifCond .ge 7), 3, 68, 0) := by decide +kernel
theorem f277_64 : aF 64 zM277.2.2.2.2.2.2.2 = some (64, (.lconst 1), 1, 0, 0) := by decide +kernel
theorem f277_65 : aF 65 zM277.2.2.2.2.2.2.2 = some (65, (.goto 10), 3, 75, 0) := by decide +kernel
theorem f277_68 : aF 68 zM277.2.2.2.2.2.2.2 = some (68, (.aload_n 0), 1, 0, 0) := by decide +kernel
theorem f277_69 : aF 69 zM277.2.2.2.2.2.2.2 = some (69, (.iload 7), 2, 0, 0) := by decide +kernel
theorem f277_71 : aF 71 zM277.2.2.2.2.2.2.2 = some (71, (.invokevirtual 480), 3, 269, 0) := by decide +kernel
theorem f277_74 : aF 74 zM277.2.2.2.2.2.2.2 = some (74, .i2l, 1, 0, 0) := by decide +kernel
theorem f277_75 : aF 75 zM277.2.2.2.2.2.2.2 = some (75, (.lstore 8), 2, 0, 0) := by decide +kernel
theorem f277_77 : aF 77 zM277.2.2.2.2.2.2.2 = some (77, (.lload 8), 2, 0, 0) := by decide +kernel
theorem f277_79 : aF 79 zM277.2.2.2.2.2.2.2 = some (79, (.iload 6), 2, 0, 0) := by decide +kernel
theorem f277_81 : aF 81 zM277.2.2.2.2.2.2.2 = some (81, .i2l, 1, 0, 0) := by decide +kernel
theorem f277_82 : aF 82 zM277.2.2.2.2.2.2.2 = some (82, .lmul, 1, 0, 0) := by decide +kernel
theorem f277_83 : aF 83 zM277.2.2.2.2.2.2.2 = some (83, (.aload_n 0), 1, 0, 0) := by decide +kernel
theorem f277_84 : aF 84 zM277.2.2.2.2.2.2.2 = some (84, (.iload_n 1), 1, 0, 0) := by decide +kernel
theorem f277_85 : aF 85 zM277.2.2.2.2.2.2.2 = some (85, (.iload_n 2), 1, 0, 0) := by decide +kernel
theorem f277_86 : aF 86 zM277.2.2.2.2.2.2.2 = some (86, (.iload_n 3), 1, 0, 0) := by decide +kernel
theorem f277_87 : aF 87 zM277.2.2.2.2.2.2.2 = some (87, (.iload 6), 2, 0, 0) := by decide +kernel
theorem f277_89 : aF 89 zM277.2.2.2.2.2.2.2 = some (89, (.invokevirtual 483), 3, 275, 0) := by decide +kernel
theorem vaA {X : aX} {D : Nat} {Q : Option Value → aH → Prop} {x1 x2 x3 x4 nb z : Int32} {u6 u7 u8 u9 : Option Value} {σa : List Nat} {ha : aH} {gk fh : Nat → Int32} (hD : 1 ≤ D) (f0 : 0 ≤ x1.toInt) (f1 : x1.toInt ≤ 149) (y0 : 0 ≤ x2.toInt) (y1 : x2.toInt ≤ 9) (hz : z.toInt = 365 * x2.toInt + 364) (n0 : 0 ≤ nb.toInt) (n1 : nb.toInt ≤ 150) (Ia : dI σa ha) (S : hSp X ha z x3 fh) : ∀ (k : Nat) (x5 : Int32) (σ : List Nat) (h : aH) (fs : List Value) (gs : Nat → Int32), (nb.toInt - x5.toInt).toNat = k → 0 ≤ x5.toInt → x5.toInt ≤ nb.toInt → dI σ h → dG cC184.2.2.1 σa ha σ h → h.1[72]? = some (.inr (12, fs)) → fs[2]? = some (.int nb) → h.1[73]? = some (.inl (0, 150, .inl gk)) → h.1[127]? = some (.inl (2, 150, .inl gs)) → (∀ j, j < x5.toInt.toNat → (gs j).toInt = if (pH gk fh x1.toInt) j = true then 0 else 1) →
    (∀ (h' : aH) (gs' : Nat → Int32) (y5 : Int32), dI σ h' → dG cC184.2.2.1 σ h σ h' → h'.1[127]? = some (.inl (2, 150, .inl gs')) → (∀ j, j < nb.toInt.toNat → (gs' j).toInt = if (pH gk fh x1.toInt) j = true then 0 else 1) → Wp X D zM275 Q 64 [some (.ref 72), some (.int x1), some (.int x2), some (.int x3), some (.int x4), some (.int y5), u6, u7, u8, u9] [] h') → Wp X D zM275 Q 3 [some (.ref 72), some (.int x1), some (.int x2), some (.int x3), some (.int x4), some (.int x5), u6, u7, u8, u9] [] h := by
  intro k
  induction k with
  | zero =>
    intro x5 σ h fs gs hk a0 a1 I G c72 E2 c73 c127 hg kq
    refine wp1 (fun n d => r_iload f275_3 rfl) ?_
    refine wp1 (fun n d => r_aloadn f275_5 rfl) ?_
    refine w_get f275_6 c72 E2 ?_
    refine w_icmp_ge f275_9 (fun e => kq h gs x5 I (dG_refl _ _ _) c127 ?_) (fun e => absurd e (by omega))
    rw [show nb.toInt.toNat = x5.toInt.toNat by omega]
    exact hg
  | succ k ih =>
    intro x5 σ h fs gs hk a0 a1 I G c72 E2 c73 c127 hg kq
    refine wp1 (fun n d => r_iload f275_3 rfl) ?_
    refine wp1 (fun n d => r_aloadn f275_5 rfl) ?_
    refine w_get f275_6 c72 E2 ?_
    refine w_icmp_ge f275_9 (fun e9 => absurd e9 (by omega)) (fun e9 => ?_)
    have F1001 := hI_r I c72 (f := 73) (q := 127) (by decide +kernel)
    have k57 : ∀ v : Int32, (v.toInt = if (pH gk fh x1.toInt) x5.toInt.toNat = true then 0 else 1) → Wp X D zM275 Q 57 [some (.ref 72), some (.int x1), some (.int x2), some (.int x3), some (.int x4), some (.int x5), u6, u7, u8, u9] [.int v, .int x5, .ref 127] h := by
      intro v hv
      have v01 : v.toInt = 0 ∨ v.toInt = 1 := by rw [hv]; split <;> omega
      refine w_zastI f275_57 c127 (by omega) (by omega) I (W := cC184.2.2.1) (by decide +kernel) (by decide) (by omega) (fun h1002 w1002 hw1002 I1002 G1002 c1002 ne1002 => ?_)
      obtain ⟨g1002, hg1002⟩ : ∃ g', g' = upd gs x5.toInt.toNat w1002 := ⟨_, rfl⟩
      rw [← hg1002] at c1002
      have c1003 := (ne1002 72 (by decide)).trans c72
      have c1004 := (ne1002 73 (by decide)).trans c73
      refine w_iinc f275_58 rfl (by omega) (by omega) (fun v58 hv58 => ?_)
      show Wp _ _ _ _ 61 [some (.ref 72), some (.int x1), some (.int x2), some (.int x3), some (.int x4), some (.int v58), u6, u7, u8, u9] [] _
      refine wp1 (fun n d => r_goto f275_61) ?_
      refine ih v58 σ h1002 fs g1002 (by omega) (by omega) (by omega) I1002 (dG_trans G G1002) c1003 E2 c1004 c1002 ?_ (fun h' g' y5 I' G' => kq h' g' y5 I' (dG_trans G1002 G'))
      rw [show v58.toInt.toNat = x5.toInt.toNat + 1 by omega]
      intro j hj
      rw [hg1002]
      by_cases e : j = x5.toInt.toNat
      · subst e; rw [pk_us, hw1002]; exact hv
      · rw [pk_un e]; exact hg j (by omega)
    have k52 : (pH gk fh x1.toInt) x5.toInt.toNat = false → Wp X D zM275 Q 52 [some (.ref 72), some (.int x1), some (.int x2), some (.int x3), some (.int x4), some (.int x5), u6, u7, u8, u9] [.int x5, .ref 127] h := by
      intro e
      refine w_iconst f275_52 (fun v hv => ?_)
      refine wp1 (fun n d => r_goto f275_53) ?_
      exact k57 v (by rw [e]; exact hv)
    refine wp1 (fun n d => r_aloadn f275_12 rfl) ?_
    refine w_get f275_13 c72 F1001 ?_
    refine wp1 (fun n d => r_iload f275_16 rfl) ?_
    refine wp1 (fun n d => r_aloadn f275_18 rfl) ?_
    have F1002 := hI_r I c72 (f := 3) (q := 73) (by decide +kernel)
    refine w_get f275_19 c72 F1002 ?_
    refine wp1 (fun n d => r_iload f275_22 rfl) ?_
    refine w_iald f275_24 c73 (by omega) (by omega) (fun v24 hv24 => ?_)
    refine w_bipush f275_25 (fun v25 hv25 => ?_)
    refine w_icmp_ne f275_27 (fun e27 => k52 (pH_0 (Or.inl (by rw [← hv24]; omega)))) (fun e27 => ?_)
    refine wp1 (fun n d => r_aloadn f275_30 rfl) ?_
    refine wp1 (fun n d => r_iload f275_31 rfl) ?_
    refine w_sipush f275_33 (fun v33 hv33 => ?_)
    refine wp1 (fun n d => r_iloadn f275_36 rfl) ?_
    refine w_imul f275_37 (by rw [hv33]; omega) (by rw [hv33]; omega) (fun v37 hv37 => ?_)
    rw [hv33] at hv37
    refine w_sipush f275_38 (fun v38 hv38 => ?_)
    refine w_iadd f275_41 (by omega) (by omega) (fun v41 hv41 => ?_)
    refine w_iconst f275_42 (fun v42 hv42 => ?_)
    refine w_isub f275_43 (by omega) (by omega) (fun v43 hv43 => ?_)
    refine wp1 (fun n d => r_iloadn f275_44 rfl) ?_
    refine wp_pA (Y := zM226) (r := [.int x5, .ref 127]) (show zmt[226]? = some zM226 from rfl) (S x5 v43 (by omega) (by omega) (by omega) _ (hH1 Ia G)) (fun n d v h' e => r_virt (as := [.int x5, .int v43, .int x3]) (r := [.int x5, .ref 127]) f275_45 c72 (show zmt[226]? = some zM226 from rfl) rfl rfl rfl rfl rfl rfl e) (by omega) ?_
    show Wp _ _ _ _ 48 [some (.ref 72), some (.int x1), some (.int x2), some (.int x3), some (.int x4), some (.int x5), u6, u7, u8, u9] [.int (fh x5.toInt.toNat), .int x5, .ref 127] _
    refine wp1 (fun n d => r_iloadn f275_48 rfl) ?_
    refine w_icmp_eq f275_49 (fun e49 => ?_) (fun e49 => k52 (pH_0 (Or.inr e49)))
    refine w_iconst f275_56 (fun v hv => ?_)
    exact k57 v (by rw [if_pos (pH_1 (by rw [← hv24]; omega) e49)]; exact hv)
def p0 (gs : Nat → Int32) (b : Nat) : Bool := decide ((gs b).toInt = 0)
theorem p0_1 {gs : Nat → Int32} {b : Nat} (h : (gs b).toInt = 0) : p0 gs b = true := decide_eq_true h
theorem p0_0 {gs : Nat → Int32} {b : Nat} (h : (gs b).toInt ≠ 0) : p0 gs b = false := decide_eq_false h
theorem vaD {X : aX} {D : Nat} {Q : Option Value → aH → Prop} {x1 x2 x3 x4 x7 nb : Int32} {s5 : Int64} {gs : Nat → Int32} {σ : List Nat} {h : aH} {fs : List Value} (n0 : 0 ≤ nb.toInt) (n1 : nb.toInt ≤ 150) (I : dI σ h) (c127 : h.1[127]? = some (.inl (2, 150, .inl gs))) (c72 : h.1[72]? = some (.inr (12, fs))) (E2 : fs[2]? = some (.int nb))
    (kq : ∀ (y8 y9 : Int32), (y8.toInt = -1 ∧ cntP (p0 gs) nb.toInt.toNat = 0 ∨ 0 ≤ y8.toInt ∧ y8.toInt.toNat < nb.toInt.toNat ∧ p0 gs y8.toInt.toNat = true) → Wp X D zM275 Q 133 [some (.ref 72), some (.int x1), some (.int x2), some (.int x3), some (.int x4), some (.long s5), none, some (.int x7), some (.int y8), some (.int y9)] [] h) : ∀ (k : Nat) (x8 x9 : Int32), (nb.toInt - x9.toInt).toNat = k → 0 ≤ x9.toInt → x9.toInt ≤ nb.toInt → (x8.toInt = -1 ∧ cntP (p0 gs) x9.toInt.toNat = 0 ∨ 0 ≤ x8.toInt ∧ x8.toInt.toNat < nb.toInt.toNat ∧ p0 gs x8.toInt.toNat = true) → Wp X D zM275 Q 82 [some (.ref 72), some (.int x1), some (.int x2), some (.int x3), some (.int x4), some (.long s5), none, some (.int x7), some (.int x8), some (.int x9)] [] h := by
  intro k
  induction k with
  | zero =>
    intro x8 x9 hk a0 a1 hi
    refine wp1 (fun n d => r_iload f275_82 rfl) ?_
    refine wp1 (fun n d => r_aloadn f275_84 rfl) ?_
    refine w_get f275_85 c72 E2 ?_
    refine w_icmp_ge f275_88 (fun e => kq x8 x9 ?_) (fun e => absurd e (by omega))
    rw [show nb.toInt.toNat = x9.toInt.toNat by omega] at *
    exact hi
  | succ k ih =>
    intro x8 x9 hk a0 a1 hi
    refine wp1 (fun n d => r_iload f275_82 rfl) ?_
    refine wp1 (fun n d => r_aloadn f275_84 rfl) ?_
    refine w_get f275_85 c72 E2 ?_
    refine w_icmp_ge f275_88 (fun e88 => absurd e88 (by omega)) (fun e88 => ?_)
    have hc1 : cntP (p0 gs) (x9.toInt.toNat + 1) = cntP (p0 gs) x9.toInt.toNat + (if p0 gs x9.toInt.toNat = true then 1 else 0) := rfl
    have k127 : ∀ y8 : Int32, (y8.toInt = -1 ∧ cntP (p0 gs) (x9.toInt.toNat + 1) = 0 ∨ 0 ≤ y8.toInt ∧ y8.toInt.toNat < nb.toInt.toNat ∧ p0 gs y8.toInt.toNat = true) → Wp X D zM275 Q 127 [some (.ref 72), some (.int x1), some (.int x2), some (.int x3), some (.int x4), some (.long s5), none, some (.int x7), some (.int y8), some (.int x9)] [] h := by
      intro y8 hi'
      refine w_iinc f275_127 rfl (by omega) (by omega) (fun v127 hv127 => ?_)
      show Wp _ _ _ _ 130 [some (.ref 72), some (.int x1), some (.int x2), some (.int x3), some (.int x4), some (.long s5), none, some (.int x7), some (.int y8), some (.int v127)] [] _
      refine wp1 (fun n d => r_goto f275_130) ?_
      exact ih y8 v127 (by omega) (by omega) (by omega) (by rw [show v127.toInt.toNat = x9.toInt.toNat + 1 by omega]; exact hi')
    have k123 : p0 gs x9.toInt.toNat = true → Wp X D zM275 Q 123 [some (.ref 72), some (.int x1), some (.int x2), some (.int x3), some (.int x4), some (.long s5), none, some (.int x7), some (.int x8), some (.int x9)] [] h := by
      intro e
      refine wp1 (fun n d => r_iload f275_123 rfl) ?_
      refine wp1 (fun n d => r_istore (L' := [some (.ref 72), some (.int x1), some (.int x2), some (.int x3), some (.int x4), some (.long s5), none, some (.int x7), some (.int x9), some (.int x9)]) f275_125 rfl rfl) ?_
      exact k127 x9 (Or.inr ⟨a0, by omega, e⟩)
    refine wp1 (fun n d => r_aloadn f275_91 rfl) ?_
    have F1001 := hI_r I c72 (f := 73) (q := 127) (by decide +kernel)
    refine w_get f275_92 c72 F1001 ?_
    refine wp1 (fun n d => r_iload f275_95 rfl) ?_
    refine w_zald f275_97 c127 (by omega) (by omega) (fun v97 hv97 => ?_)
    refine w_if_ne f275_98 (fun e98 => k127 x8 ?_) (fun e98 => ?_)
    · rw [hc1, p0_0 (by rw [← hv97]; exact e98)]
      rcases hi with ⟨i1, i2⟩ | i
      · exact Or.inl ⟨i1, by rw [i2]; rfl⟩
      · exact Or.inr i
    have hp : p0 gs x9.toInt.toNat = true := p0_1 (by rw [← hv97]; exact e98)
    refine wp1 (fun n d => r_iload f275_101 rfl) ?_
    refine w_if_lt f275_103 (fun e103 => k123 hp) (fun e103 => ?_)
    obtain ⟨i1, i2, i3⟩ : 0 ≤ x8.toInt ∧ x8.toInt.toNat < nb.toInt.toNat ∧ p0 gs x8.toInt.toNat = true := by
      rcases hi with ⟨i1, i2⟩ | i
      · omega
      · exact i
    refine wp1 (fun n d => r_aloadn f275_106 rfl) ?_
    have F1002 := hI_r I c72 (f := 9) (q := 79) (by decide +kernel)
    refine w_get f275_107 c72 F1002 ?_
    refine wp1 (fun n d => r_iload f275_110 rfl) ?_
    obtain ⟨g1003, c1003, R1003⟩ := hI_a I (r := 79) (a := 0) (n := 150) (lo := (-2147483648)) (hi := 2147483647) (by decide +kernel)
    refine w_iald f275_112 c1003 (by omega) (by omega) (fun v112 hv112 => ?_)
    have bv112 := R1003 x9.toInt.toNat (by omega)
    rw [← hv112] at bv112
    refine wp1 (fun n d => r_aloadn f275_113 rfl) ?_
    refine w_get f275_114 c72 F1002 ?_
    refine wp1 (fun n d => r_iload f275_117 rfl) ?_
    refine w_iald f275_119 c1003 (by omega) (by omega) (fun v119 hv119 => ?_)
    have bv119 := R1003 x8.toInt.toNat (by omega)
    rw [← hv119] at bv119
    exact w_icmp_le f275_120 (fun _ => k127 x8 (Or.inr ⟨i1, i2, i3⟩)) (fun _ => k123 hp)
theorem vaC {X : aX} {D : Nat} (hD : 1 ≤ D) {Q : Option Value → aH → Prop} {x1 x2 x3 x4 nb : Int32} (n0 : 0 ≤ nb.toInt) (n1 : nb.toInt ≤ 150) : ∀ (k : Nat) (s5 : Int64) (x7 : Int32) (u8 u9 : Option Value) (σ : List Nat) (h : aH) (fs : List Value) (gs : Nat → Int32), x7.toInt ≤ k → x7.toInt ≤ 10 * cntP (p0 gs) nb.toInt.toNat → dI σ h → h.1[72]? = some (.inr (12, fs)) → fs[2]? = some (.int nb) → h.1[127]? = some (.inl (2, 150, .inl gs)) →
    (∀ (h' : aH) (s : Int64) (y7 : Int32) (v8 v9 : Option Value), dI σ h' → dG cC184.2.2.1 σ h σ h' → Wp X D zM275 Q 169 [some (.ref 72), some (.int x1), some (.int x2), some (.int x3), some (.int x4), some (.long s), none, some (.int y7), v8, v9] [] h') → Wp X D zM275 Q 71 [some (.ref 72), some (.int x1), some (.int x2), some (.int x3), some (.int x4), some (.long s5), none, some (.int x7), u8, u9] [] h := by
  intro k
  induction k with
  | zero =>
    intro s5 x7 u8 u9 σ h fs gs hk hc I c72 E2 c127 kq
    refine wp1 (fun n d => r_iload f275_71 rfl) ?_
    exact w_if_le f275_73 (fun e => kq h s5 x7 _ _ I (dG_refl _ _ _)) (fun e => absurd e (by omega))
  | succ k ih =>
    intro s5 x7 u8 u9 σ h fs gs hk hc I c72 E2 c127 kq
    have r7 := iR x7
    refine wp1 (fun n d => r_iload f275_71 rfl) ?_
    refine w_if_le f275_73 (fun e73 => kq h s5 x7 _ _ I (dG_refl _ _ _)) (fun e73 => ?_)
    refine w_iconst f275_76 (fun v76 hv76 => ?_)
    refine wp1 (fun n d => r_istore (L' := [some (.ref 72), some (.int x1), some (.int x2), some (.int x3), some (.int x4), some (.long s5), none, some (.int x7), some (.int v76), u9]) f275_77 rfl rfl) ?_
    refine w_iconst f275_79 (fun v79 hv79 => ?_)
    refine wp1 (fun n d => r_istore (L' := [some (.ref 72), some (.int x1), some (.int x2), some (.int x3), some (.int x4), some (.long s5), none, some (.int x7), some (.int v76), some (.int v79)]) f275_80 rfl rfl) ?_
    refine vaD n0 n1 I c127 c72 E2 (fun y8 y9 hi => ?_) _ v76 v79 rfl (by omega) (by omega) (Or.inl ⟨by omega, by rw [show v79.toInt.toNat = 0 by omega]; rfl⟩)
    obtain ⟨i1, i2, i3⟩ : 0 ≤ y8.toInt ∧ y8.toInt.toNat < nb.toInt.toNat ∧ p0 gs y8.toInt.toNat = true := by
      rcases hi with ⟨i1, i2⟩ | i
      · omega
      · exact i
    refine wp1 (fun n d => r_aloadn f275_133 rfl) ?_
    have F1001 := hI_r I c72 (f := 73) (q := 127) (by decide +kernel)
    refine w_get f275_134 c72 F1001 ?_
    refine wp1 (fun n d => r_iload f275_137 rfl) ?_
    refine w_iconst f275_139 (fun v139 hv139 => ?_)
    refine w_zastI f275_140 c127 (by omega) (by omega) I (W := cC184.2.2.1) (by decide +kernel) (by decide) (by omega) (fun h1002 w1002 hw1002 I1002 G1002 c1002 ne1002 => ?_)
    obtain ⟨g1002, hg1002⟩ : ∃ g', g' = upd gs y8.toInt.toNat w1002 := ⟨_, rfl⟩
    rw [← hg1002] at c1002
    have c1003 := (ne1002 72 (by decide)).trans c72
    refine wp1 (fun n d => r_lload f275_141 rfl) ?_
    refine wp1 (fun n d => r_aloadn f275_143 rfl) ?_
    have F1004 := hI_r I1002 c1003 (f := 9) (q := 79) (by decide +kernel)
    refine w_get f275_144 c1003 F1004 ?_
    refine wp1 (fun n d => r_iload f275_147 rfl) ?_
    obtain ⟨g1005, c1005, R1005⟩ := hI_a I1002 (r := 79) (a := 0) (n := 150) (lo := (-2147483648)) (hi := 2147483647) (by decide +kernel)
    refine w_iald f275_149 c1005 (by omega) (by omega) (fun v149 hv149 => ?_)
    have bv149 := R1005 y8.toInt.toNat (by omega)
    rw [← hv149] at bv149
    refine w_i2l f275_150 (fun v150 hv150 => ?_)
    refine w_bipush f275_151 (fun v151 hv151 => ?_)
    refine wp1 (fun n d => r_iload f275_153 rfl) ?_
    refine wp_in (lv := 0) (Y := zM211) (lesser_wp) (fun n d v h' e => r_stat (as := [.int v151, .int x7]) (r := [.long v150, .long s5]) f275_155 rfl (show zmt[211]? = some zM211 from rfl) rfl rfl rfl rfl rfl rfl e) (by first | decide | omega) ?_
    rintro v h' ⟨rfl, v155, rfl, rl⟩
    show Wp _ _ _ _ 158 [some (.ref 72), some (.int x1), some (.int x2), some (.int x3), some (.int x4), some (.long s5), none, some (.int x7), some (.int y8), some (.int y9)] [.int v155, .long v150, .long s5] _
    refine w_i2l f275_158 (fun v158 hv158 => ?_)
    refine w_lmul' f275_159 (fun v159 => ?_)
    refine w_ladd' f275_160 (fun v160 => ?_)
    refine wp1 (fun n d => r_lstore (L' := [some (.ref 72), some (.int x1), some (.int x2), some (.int x3), some (.int x4), some (.long v160), none, some (.int x7), some (.int y8), some (.int y9)]) f275_161 rfl rfl) ?_
    refine w_iinc f275_163 rfl (by omega) (by omega) (fun v163 hv163 => ?_)
    show Wp _ _ _ _ 166 [some (.ref 72), some (.int x1), some (.int x2), some (.int x3), some (.int x4), some (.long v160), none, some (.int v163), some (.int y8), some (.int y9)] [] _
    refine wp1 (fun n d => r_goto f275_166) ?_
    have hcu := cntP_upd (p := p0 gs) (q := p0 g1002) i3 (fun j hj e => by
      unfold p0 at e ⊢
      rw [hg1002, pk_un hj]
      exact e) nb.toInt.toNat i2
    exact ih v160 v163 _ _ σ h1002 fs g1002 (by omega) (by omega) I1002 c1003 E2 c1002 (fun h' s y7 v8 v9 I' G' => kq h' s y7 v8 v9 I' (dG_trans G1002 G'))
theorem valuesOf_wp {X : aX} {D : Nat} {x1 x2 x3 x4 nb z : Int32} {u5 u6 u7 u8 u9 : Option Value} {σa : List Nat} {ha : aH} {gk fh : Nat → Int32} {fsa : List Value} (hD : 1 ≤ D) (f0 : 0 ≤ x1.toInt) (f1 : x1.toInt ≤ 149) (y0 : 0 ≤ x2.toInt) (y1 : x2.toInt ≤ 9) (hz : z.toInt = 365 * x2.toInt + 364) (Ia : dI σa ha) (S : hSp X ha z x3 fh) (a72 : ha.1[72]? = some (.inr (12, fsa))) (a2 : fsa[2]? = some (.int nb)) (a73 : ha.1[73]? = some (.inl (0, 150, .inl gk))) (hx : x4.toInt ≤ 10 * cntP (pH gk fh x1.toInt) nb.toInt.toNat) {σ : List Nat} {h : aH} (I : dI σ h) (G : dG cC184.2.2.1 σa ha σ h) : Wp X D zM275 (fun v h' => (∃ s : Int64, v = some (.long s)) ∧ dI σ h' ∧ dG cC184.2.2.1 σ h σ h') 0 [some (.ref 72), some (.int x1), some (.int x2), some (.int x3), some (.int x4), u5, u6, u7, u8, u9] [] h := by
  obtain ⟨nb', b2, n0, n1⟩ := hI_i Ia a72 (f := 2) (lo := 0) (hi := 150) (by decide +kernel)
  cases a2.symm.trans b2
  obtain ⟨fs, c72, dfs⟩ := dG_o Ia.1 G a72 (by decide)
  have E2 := (dfs 2 rfl).trans a2
  have c73 := dG_a Ia.1 G a73 (by decide) rfl
  refine w_iconst f275_0 (fun v0 hv0 => ?_)
  refine wp1 (fun n d => r_istore (L' := [some (.ref 72), some (.int x1), some (.int x2), some (.int x3), some (.int x4), some (.int v0), u6, u7, u8, u9]) f275_1 rfl rfl) ?_
  obtain ⟨g1001, c1001, R1001⟩ := hI_a I (r := 127) (a := 2) (n := 150) (lo := 0) (hi := 1) (by decide +kernel)
  refine vaA hD f0 f1 y0 y1 hz n0 n1 Ia S _ v0 σ h fs _ rfl (by omega) (by omega) I G c72 E2 c73 c1001 (fun j hj => absurd hj (by omega)) (fun h1 gs y5 I1 G1 d127 hg => ?_)
  obtain ⟨fs1, d72, dfs1⟩ := dG_o I.1 G1 c72 (by decide)
  have K2 := (dfs1 2 rfl).trans E2
  have hle := cntP_imp (p := pH gk fh x1.toInt) (q := p0 gs) nb.toInt.toNat (fun j hj e => p0_1 (by rw [hg j hj, if_pos e]))
  refine w_lconst f275_64 (fun v64 hv64 => ?_)
  have hv64 : v64.toInt = 0 := hv64
  refine wp1 (fun n d => r_lstore (L' := [some (.ref 72), some (.int x1), some (.int x2), some (.int x3), some (.int x4), some (.long v64), none, u7, u8, u9]) f275_65 rfl rfl) ?_
  refine wp1 (fun n d => r_iload f275_67 rfl) ?_
  refine wp1 (fun n d => r_istore (L' := [some (.ref 72), some (.int x1), some (.int x2), some (.int x3), some (.int x4), some (.long v64), none, some (.int x4), u8, u9]) f275_69 rfl rfl) ?_
  refine vaC hD n0 n1 x4.toInt.toNat v64 x4 _ _ σ h1 fs1 gs (by omega) (by omega) I1 d72 K2 d127 (fun h2 s y7 v8 v9 I2 G2 => ?_)
  refine wp1 (fun n d => r_lload f275_169 rfl) ?_
  exact wp_end (fun n d => r_lreturn f275_171 rfl) ⟨⟨_, rfl⟩, I2, dG_trans G1 G2⟩
def cC184t : cC := (277, 9, [(72, 38), (72, 39), (72, 71), (72, 75), (103, 0), (104, 0), (105, 0), (106, 0), (107, 0), (108, 0), (109, 0), (110, 0), (124, 0), (125, 0), (126, 0), (127, 0), (128, 0)], ([(3, 72, .ofNat 0), (1, 1, .ofNat 0), (1, 2, .ofNat 0), (1, 3, .ofNat 0), (1, 0, .negSucc 0), (0, 0, .ofNat 0), (0, 0, .ofNat 0), (0, 0, .ofNat 0), (0, 0, .ofNat 0), (0, 0, .ofNat 0), (0, 0, .ofNat 0), (0, 0, .ofNat 0), (0, 0, .ofNat 0)], [], ([(.ofNat 0, .ofNat 0), (.ofNat 0, .ofNat 149), (.ofNat 0, .ofNat 9), (.ofNat 0, .ofNat 3649)], [], [], [], [], [], [])), [([], [(1, 1, .ofNat 0)], ([(.ofNat 0, .ofNat 0), (.negSucc 2147483647, .ofNat 2147483647)], [], [], [], [], [], []))], [(92, ([(3, 72, .ofNat 0), (1, 1, .ofNat 0), (1, 2, .ofNat 0), (1, 3, .ofNat 0), (0, 0, .ofNat 0), (1, 4, .ofNat 0), (0, 0, .ofNat 0), (0, 0, .ofNat 0), (0, 0, .ofNat 0), (0, 0, .ofNat 0), (0, 0, .ofNat 0), (0, 0, .ofNat 0), (0, 0, .ofNat 0)], [(2, 5, .ofNat 0), (2, 6, .ofNat 0)], ([(.ofNat 0, .ofNat 0), (.ofNat 0, .ofNat 149), (.ofNat 0, .ofNat 9), (.ofNat 0, .ofNat 3649), (.ofNat 0, .ofNat 30), (.negSucc 9223372036854775807, .ofNat 9223372036854775807), (.negSucc 9223372036854775807, .ofNat 9223372036854775807)], [], [], [], [], [], [])), (.ofNat 8, [])), (132, ([(3, 72, .ofNat 0), (1, 1, .ofNat 0), (1, 2, .ofNat 0), (1, 3, .ofNat 0), (0, 0, .ofNat 0), (1, 4, .ofNat 0), (0, 0, .ofNat 0), (1, 5, .ofNat 0), (0, 0, .ofNat 0), (0, 0, .ofNat 0), (1, 6, .ofNat 0), (0, 0, .ofNat 0), (0, 0, .ofNat 0)], [], ([(.ofNat 0, .ofNat 0), (.ofNat 0, .ofNat 149), (.ofNat 0, .ofNat 9), (.ofNat 0, .ofNat 3649), (.ofNat 0, .ofNat 30), (.negSucc 1, .ofNat 15), (.ofNat 0, .ofNat 2000000000), (.ofNat 0, .ofNat 16)], [], [], [], [(72, 55, 1, 7, .ofNat 0)], [], [])), (.ofNat 7, [])), (152, ([(3, 72, .ofNat 0), (1, 1, .ofNat 0), (1, 2, .ofNat 0), (1, 3, .ofNat 0), (0, 0, .ofNat 0), (1, 4, .ofNat 0), (0, 0, .ofNat 0), (1, 5, .ofNat 0), (0, 0, .ofNat 0), (0, 0, .ofNat 0), (1, 6, .ofNat 0), (0, 0, .ofNat 0), (0, 0, .ofNat 0)], [], ([(.ofNat 0, .ofNat 0), (.ofNat 0, .ofNat 149), (.ofNat 0, .ofNat 9), (.ofNat 0, .ofNat 3649), (.ofNat 0, .ofNat 30), (.negSucc 1, .ofNat 15), (.ofNat 0, .ofNat 2000000000), (.ofNat 0, .ofNat 16)], [], [], [], [(72, 55, 1, 7, .ofNat 0)], [], [])), (.ofNat 6, [])), (210, ([(3, 72, .ofNat 0), (1, 1, .ofNat 0), (1, 2, .ofNat 0), (1, 3, .ofNat 0), (0, 0, .ofNat 0), (1, 4, .ofNat 0), (0, 0, .ofNat 0), (1, 5, .ofNat 0), (0, 0, .ofNat 0), (0, 0, .ofNat 0), (1, 6, .ofNat 0), (1, 7, .ofNat 0), (0, 0, .ofNat 0)], [(1, 8, .ofNat 0)], ([(.ofNat 0, .ofNat 0), (.ofNat 0, .ofNat 149), (.ofNat 0, .ofNat 9), (.ofNat 0, .ofNat 3649), (.ofNat 0, .ofNat 30), (.ofNat 0, .ofNat 15), (.ofNat 0, .ofNat 2000000000), (.negSucc 2147483647, .ofNat 2147483647), (.ofNat 0, .ofNat 2147483647), (.ofNat 1, .ofNat 16), (.ofNat 0, .ofNat 16)], [], [], [], [(72, 55, 1, 9, .ofNat 0), (72, 55, 1, 10, .ofNat 0)], [], [])), (.ofNat 5, [])), (212, ([(3, 72, .ofNat 0), (1, 1, .ofNat 0), (1, 2, .ofNat 0), (1, 3, .ofNat 0), (0, 0, .ofNat 0), (1, 4, .ofNat 0), (0, 0, .ofNat 0), (1, 5, .ofNat 0), (0, 0, .ofNat 0), (0, 0, .ofNat 0), (1, 6, .ofNat 0), (0, 0, .ofNat 0), (0, 0, .ofNat 0)], [], ([(.ofNat 0, .ofNat 0), (.ofNat 0, .ofNat 149), (.ofNat 0, .ofNat 9), (.ofNat 0, .ofNat 3649), (.ofNat 0, .ofNat 30), (.negSucc 1, .ofNat 15), (.ofNat 0, .ofNat 2147483647), (.ofNat 0, .ofNat 16), (.ofNat 0, .ofNat 16)], [], [], [], [(72, 55, 1, 7, .ofNat 0), (72, 55, 1, 8, .ofNat 0)], [], [])), (.ofNat 4, [])), (285, ([(3, 72, .ofNat 0), (1, 1, .ofNat 0), (1, 2, .ofNat 0), (1, 3, .ofNat 0), (0, 0, .ofNat 0), (1, 4, .ofNat 0), (0, 0, .ofNat 0), (1, 5, .ofNat 0), (0, 0, .ofNat 0), (0, 0, .ofNat 0), (1, 6, .ofNat 0), (1, 0, .ofNat 0), (1, 7, .ofNat 0)], [(1, 8, .ofNat 0)], ([(.ofNat 0, .ofNat 0), (.ofNat 0, .ofNat 149), (.ofNat 0, .ofNat 9), (.ofNat 0, .ofNat 3649), (.ofNat 0, .ofNat 30), (.ofNat 0, .ofNat 15), (.ofNat 0, .ofNat 2147483647), (.negSucc 2147483647, .ofNat 2147483647), (.ofNat 0, .ofNat 149), (.negSucc 2147483647, .ofNat 2147483647), (.ofNat 1, .ofNat 16), (.ofNat 0, .ofNat 16), (.ofNat 0, .ofNat 16)], [], [], [], [(72, 75, 1, 9, .ofNat 0), (72, 71, 1, 9, .ofNat 0), (72, 55, 1, 10, .ofNat 0), (72, 55, 1, 11, .ofNat 0), (72, 55, 1, 12, .ofNat 0)], [], [])), (.ofNat 3, [])), (287, ([(3, 72, .ofNat 0), (1, 1, .ofNat 0), (1, 2, .ofNat 0), (1, 3, .ofNat 0), (0, 0, .ofNat 0), (1, 4, .ofNat 0), (0, 0, .ofNat 0), (1, 5, .ofNat 0), (0, 0, .ofNat 0), (0, 0, .ofNat 0), (1, 6, .ofNat 0), (1, 7, .ofNat 0), (0, 0, .ofNat 0)], [], ([(.ofNat 0, .ofNat 0), (.ofNat 0, .ofNat 149), (.ofNat 0, .ofNat 9), (.ofNat 0, .ofNat 3649), (.ofNat 0, .ofNat 30), (.negSucc 1, .ofNat 15), (.ofNat 0, .ofNat 2147483647), (.ofNat 0, .ofNat 149), (.negSucc 2147483647, .ofNat 2147483647), (.ofNat 0, .ofNat 16), (.ofNat 0, .ofNat 16), (.ofNat 0, .ofNat 16)], [], [], [], [(72, 75, 1, 8, .ofNat 0), (72, 55, 1, 9, .ofNat 0), (72, 55, 1, 10, .ofNat 0), (72, 55, 1, 11, .ofNat 0)], [], [])), (.ofNat 2, [])), (318, ([(3, 72, .ofNat 0), (1, 1, .ofNat 0), (1, 2, .ofNat 0), (1, 3, .ofNat 0), (0, 0, .ofNat 0), (1, 4, .ofNat 0), (0, 0, .ofNat 0), (1, 5, .ofNat 0), (0, 0, .ofNat 0), (0, 0, .ofNat 0), (1, 6, .ofNat 0), (1, 7, .ofNat 0), (0, 0, .ofNat 0)], [], ([(.ofNat 0, .ofNat 0), (.ofNat 0, .ofNat 149), (.ofNat 0, .ofNat 9), (.ofNat 0, .ofNat 3649), (.ofNat 0, .ofNat 30), (.negSucc 1, .ofNat 15), (.negSucc 2147483647, .ofNat 2147483647), (.ofNat 0, .ofNat 149), (.negSucc 2147483647, .ofNat 2147483647), (.ofNat 0, .ofNat 16), (.ofNat 0, .ofNat 16), (.ofNat 0, .ofNat 16)], [], [], [], [(72, 75, 1, 8, .ofNat 0), (72, 55, 1, 9, .ofNat 0), (72, 55, 1, 10, .ofNat 0), (72, 55, 1, 11, .ofNat 0)], [], [])), (.ofNat 1, []))])
theorem ct_184t : cC184t.2.2.2.2.2.all (fun c => crk0 c.2.1 c.2.2 && cseg (cCTp, cCMp, 7, cC184t.2.2.1, cC184t.2.2.2.2.2, some c.2.2) cC184t 3000 c.1 c.2.1) = true := by decide +kernel
theorem rpost_f {σ : List Nat} {h : aH} {v : Option Value} (hP : ∃ P, P ∈ cC330.2.2.2.2.1 ∧ dPost P σ h v) {fs : List Value} {x : Int32} (c72 : h.1[72]? = some (.inr (12, fs))) (F55 : fs[55]? = some (.int x)) : ∃ r : Int32, v = some (.int r) ∧ -2 ≤ r.toInt ∧ r.toInt ≤ 15 ∧ r.toInt < x.toInt := by
  obtain ⟨P, hm, ρ, rh, k, s⟩ := hP
  cases List.mem_singleton.mp hm
  cases v with
  | none => exact s.elim
  | some v =>
    obtain ⟨⟨r, y, rfl, e1, e2⟩, -⟩ := s
    have := k.1.2.2 1 y (-2, 15) e1 rfl
    have e2 : r.toInt = y + 0 := e2
    dsimp only at this
    obtain ⟨ya, yb, d1, d2, d3⟩ := k.2.1 (1, 2, -1) List.mem_cons_self
    dsimp only at d1 d2 d3
    obtain ⟨q, ci, fs2, v, f1, f2, f3, f4⟩ := k.2.2.2.2.1 (72, 55, 1, 2, 0) List.mem_cons_self
    dsimp only at f1 f3 f4
    obtain ⟨xt, yx, rfl, f5, f6⟩ := f4
    dsimp only at f5 f6
    cases e1.symm.trans d1
    cases d2.symm.trans f5
    have hq : q = 72 := by
      rcases f1 with ⟨-, e⟩ | ⟨e, -⟩
      · exact e
      · omega
    subst hq
    cases c72.symm.trans f2
    cases F55.symm.trans f3
    exact ⟨r, rfl, by omega, by omega, by omega⟩
theorem payBy_wp {X : aX} (hX : X 0 = some (8, zab)) (g : hG X 184) (G71 : dGood X cC71) (GY : dGood X cC319) (GG : dGood X cC322) (GS : dGood X cC157) (GE : dGood X cC318) (GL : dGood X cC320) (GP : dGood X cC321) (GH : dGood X cC311) (GB : dGood X cC315) {x1 x2 x3 x4 : Int32} {u5 u6 u7 u8 u9 u10 u11 u12 : Option Value} (f0 : 0 ≤ x1.toInt) (f1 : x1.toInt ≤ 149) (y0 : 0 ≤ x2.toInt) (y1 : x2.toInt ≤ 9) (d0 : 0 ≤ x3.toInt) (d1 : x3.toInt ≤ 3649) {σ : List Nat} {h : aH} (I : dI σ h) {fs0 : List Value} {xt : Int32} (c72 : h.1[72]? = some (.inr (12, fs0))) (F55 : fs0[55]? = some (.int xt)) (r0 : x4.toInt = -1 ∨ 0 ≤ x4.toInt ∧ x4.toInt ≤ 15 ∧ x4.toInt < xt.toInt) : Wp X 9 zM277 (hQ cC184 σ h) 0 [some (.ref 72), some (.int x1), some (.int x2), some (.int x3), some (.int x4), u5, u6, u7, u8, u9, u10, u11, u12] [] h := by
  have Tp := hT_p hX g GB
  have GF : dGood X cC330 := Tp 0 (by decide) _ rfl
  refine wp1 (fun n d => r_aloadn f277_0 rfl) ?_
  refine wp1 (fun n d => r_iloadn f277_1 rfl) ?_
  refine wp1 (fun n d => r_iloadn f277_2 rfl) ?_
  refine wp1 (fun n d => r_iloadn f277_3 rfl) ?_
  refine wp_in (lv := 4) (Y := zM272) (findFacts_wp (x1 := x1) (x2 := x2) (x3 := x3) G71 GY GG GS GE GL GP GH (by decide) f0 f1 y0 y1 d0 d1 I) (fun n d v h' e => r_virt (as := [.int x1, .int x2, .int x3]) (r := []) f277_4 c72 (show zmt[272]? = some zM272 from rfl) rfl rfl rfl rfl rfl rfl e) (by decide) ?_
  rintro v h1 ⟨rfl, σ1, σa, ha, gf, gk, fh, nb, z, fsa, I1, G1', d124, Ia, Ga', hz, S, a72, a2, a73, hcnt⟩
  have G1 : dG cC184.2.2.1 σ h σ1 h1 := dG_sub (by decide) G1'
  have Ga : dG cC184.2.2.1 σa ha σ1 h1 := dG_sub (by decide) Ga'
  have hcl := cntP_le (pH gk fh x1.toInt) nb.toInt.toNat
  obtain ⟨nb', b2, n0, n1⟩ := hI_i Ia a72 (f := 2) (lo := 0) (hi := 150) (by decide +kernel)
  cases a2.symm.trans b2
  show Wp _ _ _ _ 7 [some (.ref 72), some (.int x1), some (.int x2), some (.int x3), some (.int x4), u5, u6, u7, u8, u9, u10, u11, u12] [] _
  refine w_bipush f277_7 (fun v7 hv7 => ?_)
  refine wp1 (fun n d => r_aloadn f277_9 rfl) ?_
  obtain ⟨fs2001, c2001⟩ := hI_o I1 (r := 72) (ci := 12) (by decide +kernel)
  have F2002 := hI_r I1 c2001 (f := 4) (q := 74) (by decide +kernel)
  refine w_get f277_10 c2001 F2002 ?_
  refine wp1 (fun n d => r_iloadn f277_13 rfl) ?_
  obtain ⟨g2003, c2003, R2003⟩ := hI_a I1 (r := 74) (a := 0) (n := 150) (lo := 0) (hi := 3) (by decide +kernel)
  refine w_iald f277_14 c2003 (by omega) (by omega) (fun v14 hv14 => ?_)
  have bv14 := R2003 x1.toInt.toNat (by omega)
  rw [← hv14] at bv14
  refine w_imul f277_15 (by rw [hv7]; omega) (by rw [hv7]; omega) (fun v15 hv15 => ?_)
  rw [hv7] at hv15
  refine wp1 (fun n d => r_istore (L' := [some (.ref 72), some (.int x1), some (.int x2), some (.int x3), some (.int x4), some (.int v15), u6, u7, u8, u9, u10, u11, u12]) f277_16 rfl rfl) ?_
  refine wp1 (fun n d => r_aloadn f277_18 rfl) ?_
  have F2004 := hI_r I1 c2001 (f := 69) (q := 124) (by decide +kernel)
  refine w_get f277_19 c2001 F2004 ?_
  refine w_iconst f277_22 (fun v22 hv22 => ?_)
  refine w_iald f277_23 d124 (by omega) (by omega) (fun v23 hv23 => ?_)
  refine w_bipush f277_24 (fun v24 hv24 => ?_)
  refine wp1 (fun n d => r_aloadn f277_26 rfl) ?_
  refine w_get f277_27 c2001 F2004 ?_
  refine w_bipush f277_30 (fun v30 hv30 => ?_)
  refine w_iald f277_32 d124 (by omega) (by omega) (fun v32 hv32 => ?_)
  have h9 : v32.toInt = cntP (pH gk fh x1.toInt) nb.toInt.toNat := by rw [hv32, show v30.toInt.toNat = 9 by omega]; exact hcnt
  refine w_imul f277_33 (by rw [hv24]; omega) (by rw [hv24]; omega) (fun v33 hv33 => ?_)
  rw [hv24] at hv33
  refine wp_in (lv := 0) (Y := zM211) (lesser_wp) (fun n d v h' e => r_stat (as := [.int v23, .int v33]) (r := []) f277_34 rfl (show zmt[211]? = some zM211 from rfl) rfl rfl rfl rfl rfl rfl e) (by first | decide | omega) ?_
  rintro v h' ⟨rfl, v34, rfl, rl⟩
  show Wp _ _ _ _ 37 [some (.ref 72), some (.int x1), some (.int x2), some (.int x3), some (.int x4), some (.int v15), u6, u7, u8, u9, u10, u11, u12] [.int v34] _
  have B6 : v34.toInt ≤ 10 * cntP (pH gk fh x1.toInt) nb.toInt.toNat := by
    rcases rl with ⟨rfl, q⟩ | ⟨rfl, q⟩ <;> omega
  refine wp1 (fun n d => r_istore (L' := [some (.ref 72), some (.int x1), some (.int x2), some (.int x3), some (.int x4), some (.int v15), some (.int v34), u7, u8, u9, u10, u11, u12]) f277_37 rfl rfl) ?_
  have k75 : ∀ (σ2 : List Nat) (h2 : aH) (t : Int32) (v : Int64), dI σ2 h2 → dG cC184.2.2.1 σ h σ2 h2 → dG cC184.2.2.1 σa ha σ2 h2 → Wp X 9 zM277 (hQ cC184 σ h) 75 [some (.ref 72), some (.int x1), some (.int x2), some (.int x3), some (.int x4), some (.int v15), some (.int v34), some (.int t), u8, u9, u10, u11, u12] [.long v] h2 := by
    intro σ2 h2 t v I2 G2 Ga2
    refine wp1 (fun n d => r_lstore (L' := [some (.ref 72), some (.int x1), some (.int x2), some (.int x3), some (.int x4), some (.int v15), some (.int v34), some (.int t), some (.long v), none, u10, u11, u12]) f277_75 rfl rfl) ?_
    refine wp1 (fun n d => r_lload f277_77 rfl) ?_
    refine wp1 (fun n d => r_iload f277_79 rfl) ?_
    refine w_i2l f277_81 (fun v81 hv81 => ?_)
    refine w_lmul' f277_82 (fun v82 => ?_)
    refine wp1 (fun n d => r_aloadn f277_83 rfl) ?_
    refine wp1 (fun n d => r_iloadn f277_84 rfl) ?_
    refine wp1 (fun n d => r_iloadn f277_85 rfl) ?_
    refine wp1 (fun n d => r_iloadn f277_86 rfl) ?_
    refine wp1 (fun n d => r_iload f277_87 rfl) ?_
    obtain ⟨fs1001, c1001⟩ := hI_o I2 (r := 72) (ci := 12) (by decide +kernel)
    refine wp_in (lv := 8) (Y := zM275) (valuesOf_wp (x1 := x1) (x2 := x2) (x3 := x3) (x4 := v34) (by decide) f0 f1 y0 y1 hz Ia S a72 a2 a73 B6 I2 Ga2) (fun n d v h' e => r_virt (as := [.int x1, .int x2, .int x3, .int v34]) (r := [.long v82]) f277_89 c1001 (show zmt[275]? = some zM275 from rfl) rfl rfl rfl rfl rfl rfl e) (by decide) ?_
    rintro v' h3 ⟨⟨s, rfl⟩, I3, G3⟩
    have E := ctail_s (C := cC184t) hX (cCMt_ok cCMp_t) Tp ct_184t (M := zM277) rfl (c := cC184t.2.2.2.2.2.headD (0, ([], [], ([], [], [], [], [], [], [])), (0, []))) List.mem_cons_self I3 (ρ := [0, x1.toInt, x2.toInt, x3.toInt, v15.toInt, s.toInt, v82.toInt]) (rh := []) (l := [some (.ref 72), some (.int x1), some (.int x2), some (.int x3), some (.int x4), some (.int v15), some (.int v34), some (.int t), some (.long v), none, u10, u11, u12]) (sv := [.long s, .long v82]) (dK_v (kV_of rfl ⟨⟨by decide, by decide⟩, ⟨by show (0 : Int) ≤ _; omega, by show _ ≤ (149 : Int); omega⟩, ⟨by show (0 : Int) ≤ _; omega, by show _ ≤ (9 : Int); omega⟩, ⟨by show (0 : Int) ≤ _; omega, by show _ ≤ (3649 : Int); omega⟩, ⟨by show (0 : Int) ≤ _; omega, by show _ ≤ (30 : Int); omega⟩, jR _, jR _, trivial⟩)) (dL_of ⟨lw_r (by decide), lw_i rfl, lw_i rfl, lw_i rfl, lw_0, lw_i rfl, lw_0, lw_0, lw_0, lw_0, lw_0, lw_0, lw_0, trivial⟩) ⟨⟨_, _, rfl, rfl, by show _ = _ + 0; omega⟩, ⟨_, _, rfl, rfl, by show _ = _ + 0; omega⟩, trivial⟩
    exact wp_dEnd (C0 := cC184) E rfl rfl rfl (dG_trans G2 G3)
  have k57 : ∀ (σ2 : List Nat) (h2 : aH) (t : Int32), -2 ≤ t.toInt → t.toInt ≤ 15 → t.toInt < xt.toInt → dI σ2 h2 → dG cC184.2.2.1 σ h σ2 h2 → dG cC184.2.2.1 σa ha σ2 h2 → Wp X 9 zM277 (hQ cC184 σ h) 57 [some (.ref 72), some (.int x1), some (.int x2), some (.int x3), some (.int x4), some (.int v15), some (.int v34), u7, u8, u9, u10, u11, u12] [.int t] h2 := by
    intro σ2 h2 t t0 t1 tx I2 G2 Ga2
    obtain ⟨fs2, e72, dfs2⟩ := dG_o I.1 G2 c72 (by decide)
    have e55 := (dfs2 55 rfl).trans F55
    refine wp1 (fun n d => r_istore (L' := [some (.ref 72), some (.int x1), some (.int x2), some (.int x3), some (.int x4), some (.int v15), some (.int v34), some (.int t), u8, u9, u10, u11, u12]) f277_57 rfl rfl) ?_
    refine wp1 (fun n d => r_iload f277_59 rfl) ?_
    refine w_if_ge f277_61 (fun e61 => ?_) (fun e61 => ?_)
    · refine wp1 (fun n d => r_aloadn f277_68 rfl) ?_
      refine wp1 (fun n d => r_iload f277_69 rfl) ?_
      refine wp_in (lv := 8) (Y := zM269) (gives_wp (x1 := t) GB I2 e72 e55 e61 t1 tx) (fun n d v h' e => r_virt (as := [.int t]) (r := []) f277_71 e72 (show zmt[269]? = some zM269 from rfl) rfl rfl rfl rfl rfl rfl e) (by decide) ?_
      rintro v h3 ⟨σ3, I3, G3', P3⟩
      obtain ⟨vv, rfl, pv, qv⟩ := rpost_i P3 rfl
      show Wp _ _ _ _ 74 [some (.ref 72), some (.int x1), some (.int x2), some (.int x3), some (.int x4), some (.int v15), some (.int v34), some (.int t), u8, u9, u10, u11, u12] [.int vv] _
      refine w_i2l f277_74 (fun v74 hv74 => ?_)
      exact k75 _ _ t v74 I3 (dG_trans G2 (dG_sub (by decide) G3')) (dG_trans Ga2 (dG_sub (by decide) G3'))
    · refine w_lconst f277_64 (fun v64 hv64 => ?_)
      have hv64 : v64.toInt = 1 := hv64
      refine wp1 (fun n d => r_goto f277_65) ?_
      exact k75 _ _ t v64 I2 G2 Ga2
  refine wp1 (fun n d => r_iload f277_39 rfl) ?_
  refine w_if_lt f277_41 (fun e41 => ?_) (fun e41 => ?_)
  · obtain ⟨fsx, x72, dfx⟩ := dG_o I.1 G1 c72 (by decide)
    have x55 := (dfx 55 rfl).trans F55
    refine wp1 (fun n d => r_aloadn f277_49 rfl) ?_
    refine wp1 (fun n d => r_iload f277_50 rfl) ?_
    refine wp1 (fun n d => r_iloadn f277_52 rfl) ?_
    refine wp1 (fun n d => r_iloadn f277_53 rfl) ?_
    refine wp_good GF (Y := zM265) (show zmt[265]? = some zM265 from rfl) I1 (ρ := [0, v15.toInt, x2.toInt, x3.toInt]) (dK_v (kV_of rfl ⟨⟨by decide, by decide⟩, ⟨by show (0 : Int) ≤ _; omega, by show _ ≤ (149 : Int); omega⟩, ⟨by show (0 : Int) ≤ _; omega, by show _ ≤ (9 : Int); omega⟩, ⟨by show (0 : Int) ≤ _; omega, by show _ ≤ (3649 : Int); omega⟩, trivial⟩)) (dL_of (l := [some (.ref 72), some (.int v15), some (.int x2), some (.int x3), none]) ⟨lw_r (by decide), lw_i rfl, lw_i rfl, lw_i rfl, lw_0, trivial⟩) (fun n d v h' e => r_virt (as := [.int v15, .int x2, .int x3]) (r := []) f277_54 x72 (show zmt[265]? = some zM265 from rfl) rfl rfl rfl rfl rfl rfl e) (by first | decide | (show 0 + 1 ≤ _; omega)) (fun v h4001 σ4001 I4001 G4001 P4001 => ?_)
    obtain ⟨fs4002, c4002, df4002⟩ := dG_o I1.1 G4001 x72 (by decide)
    have F4003 := (df4002 55 rfl).trans x55
    have c4004 := dG_a I1.1 G4001 d124 (by decide) rfl
    have c4005 := dG_a I1.1 G4001 c2003 (by decide) rfl
    obtain ⟨v54, rfl, p54, q54, t54⟩ := rpost_f P4001 c4002 F4003
    show Wp _ _ _ _ 57 [some (.ref 72), some (.int x1), some (.int x2), some (.int x3), some (.int x4), some (.int v15), some (.int v34), u7, u8, u9, u10, u11, u12] [.int v54] _
    exact k57 _ _ v54 (by omega) (by omega) (by omega) I4001 (dG_trans G1 (dG_sub (by decide) G4001)) (dG_trans Ga (dG_sub (by decide) G4001))
  · refine wp1 (fun n d => r_iload f277_44 rfl) ?_
    refine wp1 (fun n d => r_goto f277_46) ?_
    exact k57 _ _ x4 (by omega) (by omega) (by omega) I1 G1 Ga
theorem hand_184 {X : aX} (hX : X 0 = some (8, zab)) (g : hG X 184) (T : hT X cCT0 14) : dGood X cC184 := by
  intro M hM l h σ ρ rh I K L
  have hM0 : zmt[277]? = some zM277 := rfl
  cases (show zmt[277]? = some M from hM).symm.trans hM0
  have a0 := dL_r L (i := 0) (c := 72) (o := 0) rfl (by decide)
  obtain ⟨fs0, c72⟩ := hI_o I (r := 72) (ci := 12) (by decide +kernel)
  obtain ⟨x1, a1, b1, b1'⟩ := hL_i L K.1 (i := 1) (p := 1) (o := 0) (lo := 0) (hi := 149) rfl rfl
  obtain ⟨x2, a2, b2, b2'⟩ := hL_i L K.1 (i := 2) (p := 2) (o := 0) (lo := 0) (hi := 9) rfl rfl
  obtain ⟨x3, a3, b3, b3'⟩ := hL_i L K.1 (i := 3) (p := 3) (o := 0) (lo := 0) (hi := 3649) rfl rfl
  obtain ⟨x4, y4, a4, r4, s4⟩ := dL_i L (i := 4) (p := 0) (o := -1) rfl
  cases K.1.2.1.symm.trans r4
  obtain ⟨xt, F55, -, -⟩ := hI_i I c72 (f := 55) (lo := 0) (hi := 16) (by decide +kernel)
  have hr : x4.toInt = -1 ∨ 0 ≤ x4.toInt ∧ x4.toInt ≤ 15 ∧ x4.toInt < xt.toInt := Or.inl (by omega)
  obtain ⟨u0, l1, rfl, e1⟩ := hcons (show l.length = 13 from L.1)
  obtain ⟨u1, l2, rfl, e2⟩ := hcons e1
  obtain ⟨u2, l3, rfl, e3⟩ := hcons e2
  obtain ⟨u3, l4, rfl, e4⟩ := hcons e3
  obtain ⟨u4, l5, rfl, e5⟩ := hcons e4
  obtain ⟨u5, l6, rfl, e6⟩ := hcons e5
  obtain ⟨u6, l7, rfl, e7⟩ := hcons e6
  obtain ⟨u7, l8, rfl, e8⟩ := hcons e7
  obtain ⟨u8, l9, rfl, e9⟩ := hcons e8
  obtain ⟨u9, l10, rfl, e10⟩ := hcons e9
  obtain ⟨u10, l11, rfl, e11⟩ := hcons e10
  obtain ⟨u11, l12, rfl, e12⟩ := hcons e11
  obtain ⟨u12, l13, rfl, e13⟩ := hcons e12
  cases hnil e13
  cases Option.some.inj a0
  cases Option.some.inj a1
  cases Option.some.inj a2
  cases Option.some.inj a3
  cases Option.some.inj a4
  have R := payBy_wp hX g (g 71 (by decide) _ rfl) (T 9 (by decide) _ rfl) (T 12 (by decide) _ rfl) (T 7 (by decide) _ rfl) (T 8 (by decide) _ rfl) (T 10 (by decide) _ rfl) (T 11 (by decide) _ rfl) (T 2 (by decide) _ rfl) (T 4 (by decide) _ rfl) (x1 := x1) (x2 := x2) (x3 := x3) (x4 := x4) (u5 := u5) (u6 := u6) (u7 := u7) (u8 := u8) (u9 := u9) (u10 := u10) (u11 := u11) (u12 := u12) (by omega) (by omega) (by omega) (by omega) (by omega) (by omega) I c72 F55 hr
  obtain ⟨N, v, h', ⟨σ', q1, q2, q3⟩, q4⟩ := R
  exact ⟨N, v, h', σ', q4, q1, q2, q3⟩
theorem hand_274 {X : aX} (hX : X 0 = some (8, zab)) (g : hG X 184) (T : hT X cCT0 14) : dGood X cC274 := by
  intro M hM l h σ ρ rh I K L
  have hM0 : zmt[277]? = some zM277 := rfl
  cases (show zmt[277]? = some M from hM).symm.trans hM0
  have a0 := dL_r L (i := 0) (c := 72) (o := 0) rfl (by decide)
  obtain ⟨fs0, c72⟩ := hI_o I (r := 72) (ci := 12) (by decide +kernel)
  obtain ⟨x1, a1, b1, b1'⟩ := hL_i L K.1 (i := 1) (p := 1) (o := 0) (lo := 0) (hi := 149) rfl rfl
  obtain ⟨x2, a2, b2, b2'⟩ := hL_i L K.1 (i := 2) (p := 2) (o := 0) (lo := 0) (hi := 9) rfl rfl
  obtain ⟨x3, a3, b3, b3'⟩ := hL_i L K.1 (i := 3) (p := 3) (o := 0) (lo := 0) (hi := 3649) rfl rfl
  obtain ⟨x4, y4, a4, r4, s4⟩ := dL_i L (i := 4) (p := 4) (o := 0) rfl
  have b4 := K.1.2.2 4 y4 (0, 15) r4 rfl
  dsimp only at b4
  obtain ⟨ya, yb, d1, d2, d3⟩ := K.2.1 (4, 5, -1) List.mem_cons_self
  dsimp only at d1 d2 d3
  obtain ⟨q, ci, fs, v, f1, f2, f3, f4⟩ := K.2.2.2.2.1 (72, 55, 1, 5, 0) List.mem_cons_self
  dsimp only at f1 f3 f4
  obtain ⟨xt, yx, rfl, f5, f6⟩ := f4
  dsimp only at f5 f6
  cases r4.symm.trans d1
  cases d2.symm.trans f5
  have hq : q = 72 := by
    rcases f1 with ⟨-, e⟩ | ⟨e, -⟩
    · exact e
    · omega
  subst hq
  cases c72.symm.trans f2
  have F55 := f3
  have hr : x4.toInt = -1 ∨ 0 ≤ x4.toInt ∧ x4.toInt ≤ 15 ∧ x4.toInt < xt.toInt := Or.inr (by omega)
  obtain ⟨u0, l1, rfl, e1⟩ := hcons (show l.length = 13 from L.1)
  obtain ⟨u1, l2, rfl, e2⟩ := hcons e1
  obtain ⟨u2, l3, rfl, e3⟩ := hcons e2
  obtain ⟨u3, l4, rfl, e4⟩ := hcons e3
  obtain ⟨u4, l5, rfl, e5⟩ := hcons e4
  obtain ⟨u5, l6, rfl, e6⟩ := hcons e5
  obtain ⟨u6, l7, rfl, e7⟩ := hcons e6
  obtain ⟨u7, l8, rfl, e8⟩ := hcons e7
  obtain ⟨u8, l9, rfl, e9⟩ := hcons e8
  obtain ⟨u9, l10, rfl, e10⟩ := hcons e9
  obtain ⟨u10, l11, rfl, e11⟩ := hcons e10
  obtain ⟨u11, l12, rfl, e12⟩ := hcons e11
  obtain ⟨u12, l13, rfl, e13⟩ := hcons e12
  cases hnil e13
  cases Option.some.inj a0
  cases Option.some.inj a1
  cases Option.some.inj a2
  cases Option.some.inj a3
  cases Option.some.inj a4
  have R := payBy_wp hX g (g 71 (by decide) _ rfl) (T 9 (by decide) _ rfl) (T 12 (by decide) _ rfl) (T 7 (by decide) _ rfl) (T 8 (by decide) _ rfl) (T 10 (by decide) _ rfl) (T 11 (by decide) _ rfl) (T 2 (by decide) _ rfl) (T 4 (by decide) _ rfl) (x1 := x1) (x2 := x2) (x3 := x3) (x4 := x4) (u5 := u5) (u6 := u6) (u7 := u7) (u8 := u8) (u9 := u9) (u10 := u10) (u11 := u11) (u12 := u12) (by omega) (by omega) (by omega) (by omega) (by omega) (by omega) I c72 F55 hr
  obtain ⟨N, v, h', ⟨σ', q1, q2, q3⟩, q4⟩ := R
  exact ⟨N, v, h', σ', q4, q1, q2, q3⟩
end

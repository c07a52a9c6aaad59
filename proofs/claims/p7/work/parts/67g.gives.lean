-- ===== by hand: gives =====
theorem f268_0 : aF 0 zM268.2.2.2.2.2.2.2 = some (0, (.iconst 0), 1, 0, 0) := by decide +kernel
theorem f268_1 : aF 1 zM268.2.2.2.2.2.2.2 = some (1, (.istore 4), 2, 0, 0) := by decide +kernel
theorem f268_3 : aF 3 zM268.2.2.2.2.2.2.2 = some (3, (.sipush 170), 3, 0, 0) := by decide +kernel
theorem f268_6 : aF 6 zM268.2.2.2.2.2.2.2 = some (6, (.iload_n 1), 1, 0, 0) := by decide +kernel
theorem f268_7 : aF 7 zM268.2.2.2.2.2.2.2 = some (7, .imul, 1, 0, 0) := by decide +kernel
theorem f268_8 : aF 8 zM268.2.2.2.2.2.2.2 = some (8, (.iload_n 2), 1, 0, 0) := by decide +kernel
theorem f268_9 : aF 9 zM268.2.2.2.2.2.2.2 = some (9, .iadd, 1, 0, 0) := by decide +kernel
theorem f268_10 : aF 10 zM268.2.2.2.2.2.2.2 = some (10, (.istore 5), 2, 0, 0) := by decide +kernel
theorem f268_12 : aF 12 zM268.2.2.2.2.2.2.2 = some (12, (.iload 5), 2, 0, 0) := by decide +kernel
theorem f268_14 : aF 14 zM268.2.2.2.2.2.2.2 = some (14, (.sipush 170), 3, 0, 0) := by decide +kernel
theorem f268_17 : aF 17 zM268.2.2.2.2.2.2.2 = some (17, (.iload_n 1), 1, 0, 0) := by decide +kernel
theorem f268_18 : aF 18 zM268.2.2.2.2.2.2.2 = some (18, .imul, 1, 0, 0) := by decide +kernel
theorem f268_19 : aF 19 zM268.2.2.2.2.2.2.2 = some (19, (.iload_n 3), 1, 0, 0) := by decide +kernel
theorem f268_20 : aF 20 zM268.2.2.2.2.2.2.2 = some (20, .iadd, 1, 0, 0) := by decide +kernel
theorem f268_21 : aF 21 zM268.2.2.2.2.2.2.2 = some (21, (.if_icmp .ge 167), 3, 188, 0) := by decide +kernel
theorem f268_24 : aF 24 zM268.2.2.2.2.2.2.2 = some (24, (.aload_n 0), 1, 0, 0) := by decide +kernel
theorem f268_25 : aF 25 zM268.2.2.2.2.2.2.2 = some (25, (.getfield 170), 3, 12, 62) := by decide +kernel
theorem f268_28 : aF 28 zM268.2.2.2.2.2.2.2 = some (28, (.iload 5), 2, 0, 0) := by decide +kernel
theorem f268_30 : aF 30 zM268.2.2.2.2.2.2.2 = some (30, .iaload, 1, 0, 0) := by decide +kernel
theorem f268_31 : aF 31 zM268.2.2.2.2.2.2.2 = some (31, (.istore 6), 2, 0, 0) := by decide +kernel
theorem f268_33 : aF 33 zM268.2.2.2.2.2.2.2 = some (33, (.iload 6), 2, 0, 0) := by decide +kernel
theorem f268_35 : aF 35 zM268.2.2.2.2.2.2.2 = some (35, (.iconst 1), 1, 0, 0) := by decide +kernel
theorem f268_36 : aF 36 zM268.2.2.2.2.2.2.2 = some (36, (.if_icmp .eq 9), 3, 45, 0) := by decide +kernel
theorem f268_39 : aF 39 zM268.2.2.2.2.2.2.2 = some (39, (.iload 6), 2, 0, 0) := by decide +kernel
theorem f268_41 : aF 41 zM268.2.2.2.2.2.2.2 = some (41, (.iconst 2), 1, 0, 0) := by decide +kernel
theorem f268_42 : aF 42 zM268.2.2.2.2.2.2.2 = some (42, (.if_icmp .ne 44), 3, 86, 0) := by decide +kernel
theorem f268_45 : aF 45 zM268.2.2.2.2.2.2.2 = some (45, (.aload_n 0), 1, 0, 0) := by decide +kernel
theorem f268_46 : aF 46 zM268.2.2.2.2.2.2.2 = some (46, (.getfield 179), 3, 12, 70) := by decide +kernel
theorem f268_49 : aF 49 zM268.2.2.2.2.2.2.2 = some (49, (.iload 4), 2, 0, 0) := by decide +kernel
theorem f268_51 : aF 51 zM268.2.2.2.2.2.2.2 = some (51, (.iload 6), 2, 0, 0) := by decide +kernel
theorem f268_53 : aF 53 zM268.2.2.2.2.2.2.2 = some (53, (.iconst 1), 1, 0, 0) := by decide +kernel
theorem f268_54 : aF 54 zM268.2.2.2.2.2.2.2 = some (54, (.if_icmp .ne 13), 3, 67, 0) := by decide +kernel
theorem f268_57 : aF 57 zM268.2.2.2.2.2.2.2 = some (57, (.aload_n 0), 1, 0, 0) := by decide +kernel
theorem f268_58 : aF 58 zM268.2.2.2.2.2.2.2 = some (58, (.getfield 173), 3, 12, 63) := by decide +kernel
theorem f268_61 : aF 61 zM268.2.2.2.2.2.2.2 = some (61, (.iload 5), 2, 0, 0) := by decide +kernel
theorem f268_63 : aF 63 zM268.2.2.2.2.2.2.2 = some (63, .iaload, 1, 0, 0) := by decide +kernel
theorem f268_64 : aF 64 zM268.2.2.2.2.2.2.2 = some (64, (.goto 15), 3, 79, 0) := by decide +kernel
theorem f268_67 : aF 67 zM268.2.2.2.2.2.2.2 = some (67, (.aload_n 0), 1, 0, 0) := by decide +kernel
theorem f268_68 : aF 68 zM268.2.2.2.2.2.2.2 = some (68, (.getfield 176), 3, 12, 69) := by decide +kernel
theorem f268_71 : aF 71 zM268.2.2.2.2.2.2.2 = some (71, (.aload_n 0), 1, 0, 0) := by decide +kernel
theorem f268_72 : aF 72 zM268.2.2.2.2.2.2.2 = some (72, (.getfield 173), 3, 12, 63) := by decide +kernel
theorem f268_75 : aF 75 zM268.2.2.2.2.2.2.2 = some (75, (.iload 5), 2, 0, 0) := by decide +kernel
theorem f268_77 : aF 77 zM268.2.2.2.2.2.2.2 = some (77, .iaload, 1, 0, 0) := by decide +kernel
theorem f268_78 : aF 78 zM268.2.2.2.2.2.2.2 = some (78, .iaload, 1, 0, 0) := by decide +kernel
theorem f268_79 : aF 79 zM268.2.2.2.2.2.2.2 = some (79, .iastore, 1, 0, 0) := by decide +kernel
theorem f268_80 : aF 80 zM268.2.2.2.2.2.2.2 = some (80, (.iinc 4 1), 3, 0, 0) := by decide +kernel
theorem f268_83 : aF 83 zM268.2.2.2.2.2.2.2 = some (83, (.goto 99), 3, 182, 0) := by decide +kernel
theorem f268_86 : aF 86 zM268.2.2.2.2.2.2.2 = some (86, (.iload 6), 2, 0, 0) := by decide +kernel
theorem f268_88 : aF 88 zM268.2.2.2.2.2.2.2 = some (88, (.iconst 3), 1, 0, 0) := by decide +kernel
theorem f268_89 : aF 89 zM268.2.2.2.2.2.2.2 = some (89, (.if_icmp .ne 32), 3, 121, 0) := by decide +kernel
theorem f268_92 : aF 92 zM268.2.2.2.2.2.2.2 = some (92, (.aload_n 0), 1, 0, 0) := by decide +kernel
theorem f268_93 : aF 93 zM268.2.2.2.2.2.2.2 = some (93, (.getfield 179), 3, 12, 70) := by decide +kernel
theorem f268_96 : aF 96 zM268.2.2.2.2.2.2.2 = some (96, (.iload 4), 2, 0, 0) := by decide +kernel
theorem f268_98 : aF 98 zM268.2.2.2.2.2.2.2 = some (98, (.iconst 1), 1, 0, 0) := by decide +kernel
theorem f268_99 : aF 99 zM268.2.2.2.2.2.2.2 = some (99, .isub, 1, 0, 0) := by decide +kernel
theorem f268_100 : aF 100 zM268.2.2.2.2.2.2.2 = some (100, (.aload_n 0), 1, 0, 0) := by decide +kernel
theorem f268_101 : aF 101 zM268.2.2.2.2.2.2.2 = some (101, (.getfield 179), 3, 12, 70) := by decide +kernel
theorem f268_104 : aF 104 zM268.2.2.2.2.2.2.2 = some (104, (.iload 4), 2, 0, 0) := by decide +kernel
theorem f268_106 : aF 106 zM268.2.2.2.2.2.2.2 = some (106, (.iconst 1), 1, 0, 0) := by decide +kernel
theorem f268_107 : aF 107 zM268.2.2.2.2.2.2.2 = some (107, .isub, 1, 0, 0) := by decide +kernel
theorem f268_108 : aF 108 zM268.2.2.2.2.2.2.2 = some (108, .iaload, 1, 0, 0) := by decide +kernel
theorem f268_109 : aF 109 zM268.2.2.2.2.2.2.2 = some (109, (.ifCond .ne 7), 3, 116, 0) := by decide +kernel
theorem f268_112 : aF 112 zM268.2.2.2.2.2.2.2 = some (112, (.iconst 1), 1, 0, 0) := by decide +kernel
theorem f268_113 : aF 113 zM268.2.2.2.2.2.2.2 = some (113, (.goto 4), 3, 117, 0) := by decide +kernel
theorem f268_116 : aF 116 zM268.2.2.2.2.2.2.2 = some (116, (.iconst 0), 1, 0, 0) := by decide +kernel
theorem f268_117 : aF 117 zM268.2.2.2.2.2.2.2 = some (117, .iastore, 1, 0, 0) := by decide +kernel
theorem f268_118 : aF 118 zM268.2.2.2.2.2.2.2 = some (118, (.goto 64), 3, 182, 0) := by decide +kernel
theorem f268_121 : aF 121 zM268.2.2.2.2.2.2.2 = some (121, (.iload 6), 2, 0, 0) := by decide +kernel
theorem f268_123 : aF 123 zM268.2.2.2.2.2.2.2 = some (123, (.iconst 4), 1, 0, 0) := by decide +kernel
theorem f268_124 : aF 124 zM268.2.2.2.2.2.2.2 = some (124, (.if_icmp .ne 25), 3, 149, 0) := by decide +kernel
theorem f268_127 : aF 127 zM268.2.2.2.2.2.2.2 = some (127, (.aload_n 0), 1, 0, 0) := by decide +kernel
theorem f268_128 : aF 128 zM268.2.2.2.2.2.2.2 = some (128, (.getfield 179), 3, 12, 70) := by decide +kernel
theorem f268_131 : aF 131 zM268.2.2.2.2.2.2.2 = some (131, (.iload 4), 2, 0, 0) := by decide +kernel
theorem f268_133 : aF 133 zM268.2.2.2.2.2.2.2 = some (133, (.iconst 1), 1, 0, 0) := by decide +kernel
theorem f268_134 : aF 134 zM268.2.2.2.2.2.2.2 = some (134, .isub, 1, 0, 0) := by decide +kernel
theorem f268_135 : aF 135 zM268.2.2.2.2.2.2.2 = some (135, (.aload_n 0), 1, 0, 0) := by decide +kernel
theorem f268_136 : aF 136 zM268.2.2.2.2.2.2.2 = some (136, (.getfield 179), 3, 12, 70) := by decide +kernel
theorem f268_139 : aF 139 zM268.2.2.2.2.2.2.2 = some (139, (.iload 4), 2, 0, 0) := by decide +kernel
theorem f268_141 : aF 141 zM268.2.2.2.2.2.2.2 = some (141, (.iconst 1), 1, 0, 0) := by decide +kernel
theorem f268_142 : aF 142 zM268.2.2.2.2.2.2.2 = some (142, .isub, 1, 0, 0) := by decide +kernel
theorem f268_143 : aF 143 zM268.2.2.2.2.2.2.2 = some (143, .iaload, 1, 0, 0) := by decide +kernel
theorem f268_144 : aF 144 zM268.2.2.2.2.2.2.2 = some (144, .ineg, 1, 0, 0) := by decide +kernel
theorem f268_145 : aF 145 zM268.2.2.2.2.2.2.2 = some (145, .iastore, 1, 0, 0) := by decide +kernel
theorem f268_146 : aF 146 zM268.2.2.2.2.2.2.2 = some (146, (.goto 36), 3, 182, 0) := by decide +kernel
theorem f268_149 : aF 149 zM268.2.2.2.2.2.2.2 = some (149, (.iinc 4 (-1)), 3, 0, 0) := by decide +kernel
theorem f268_152 : aF 152 zM268.2.2.2.2.2.2.2 = some (152, (.aload_n 0), 1, 0, 0) := by decide +kernel
theorem f268_153 : aF 153 zM268.2.2.2.2.2.2.2 = some (153, (.getfield 179), 3, 12, 70) := by decide +kernel
theorem f268_156 : aF 156 zM268.2.2.2.2.2.2.2 = some (156, (.iload 4), 2, 0, 0) := by decide +kernel
theorem f268_158 : aF 158 zM268.2.2.2.2.2.2.2 = some (158, (.iconst 1), 1, 0, 0) := by decide +kernel
theorem f268_159 : aF 159 zM268.2.2.2.2.2.2.2 = some (159, .isub, 1, 0, 0) := by decide +kernel
theorem f268_160 : aF 160 zM268.2.2.2.2.2.2.2 = some (160, (.iload 6), 2, 0, 0) := by decide +kernel
theorem f268_162 : aF 162 zM268.2.2.2.2.2.2.2 = some (162, (.aload_n 0), 1, 0, 0) := by decide +kernel
theorem f268_163 : aF 163 zM268.2.2.2.2.2.2.2 = some (163, (.getfield 179), 3, 12, 70) := by decide +kernel
theorem f268_166 : aF 166 zM268.2.2.2.2.2.2.2 = some (166, (.iload 4), 2, 0, 0) := by decide +kernel
theorem f268_168 : aF 168 zM268.2.2.2.2.2.2.2 = some (168, (.iconst 1), 1, 0, 0) := by decide +kernel
theorem f268_169 : aF 169 zM268.2.2.2.2.2.2.2 = some (169, .isub, 1, 0, 0) := by decide +kernel
theorem f268_170 : aF 170 zM268.2.2.2.2.2.2.2 = some (170, .iaload, 1, 0, 0) := by decide +kernel
theorem f268_171 : aF 171 zM268.2.2.2.2.2.2.2 = some (171, (.aload_n 0), 1, 0, 0) := by decide +kernel
theorem f268_172 : aF 172 zM268.2.2.2.2.2.2.2 = some (172, (.getfield 179), 3, 12, 70) := by decide +kernel
theorem f268_175 : aF 175 zM268.2.2.2.2.2.2.2 = some (175, (.iload 4), 2, 0, 0) := by decide +kernel
theorem f268_177 : aF 177 zM268.2.2.2.2.2.2.2 = some (177, .iaload, 1, 0, 0) := by decide +kernel
theorem f268_178 : aF 178 zM268.2.2.2.2.2.2.2 = some (178, (.invokestatic 454), 3, 267, 0) := by decide +kernel
theorem f268_181 : aF 181 zM268.2.2.2.2.2.2.2 = some (181, .iastore, 1, 0, 0) := by decide +kernel
theorem f268_182 : aF 182 zM268.2.2.2.2.2.2.2 = some (182, (.iinc 5 1), 3, 0, 0) := by decide +kernel
theorem f268_185 : aF 185 zM268.2.2.2.2.2.2.2 = some (185, (.goto (-173)), 3, 12, 0) := by decide +kernel
theorem f268_188 : aF 188 zM268.2.2.2.2.2.2.2 = some (188, (.aload_n 0), 1, 0, 0) := by decide +kernel
theorem f268_189 : aF 189 zM268.2.2.2.2.2.2.2 = some (189, (.getfield 179), 3, 12, 70) := by decide +kernel
theorem f268_192 : aF 192 zM268.2.2.2.2.2.2.2 = some (192, (.iconst 0), 1, 0, 0) := by decide +kernel
theorem f268_193 : aF 193 zM268.2.2.2.2.2.2.2 = some (193, .iaload, 1, 0, 0) := by decide +kernel
theorem f268_194 : aF 194 zM268.2.2.2.2.2.2.2 = some (194, .ireturn, 1, 0, 0) := by decide +kernel
theorem f269_0 : aF 0 zM269.2.2.2.2.2.2.2 = some (0, (.iconst 0), 1, 0, 0) := by decide +kernel
theorem f269_1 : aF 1 zM269.2.2.2.2.2.2.2 = some (1, (.istore_n 2), 1, 0, 0) := by decide +kernel
theorem f269_2 : aF 2 zM269.2.2.2.2.2.2.2 = some (2, (.iconst 0), 1, 0, 0) := by decide +kernel
theorem f269_3 : aF 3 zM269.2.2.2.2.2.2.2 = some (3, (.istore_n 3), 1, 0, 0) := by decide +kernel
theorem f269_4 : aF 4 zM269.2.2.2.2.2.2.2 = some (4, (.iload_n 3), 1, 0, 0) := by decide +kernel
theorem f269_5 : aF 5 zM269.2.2.2.2.2.2.2 = some (5, (.aload_n 0), 1, 0, 0) := by decide +kernel
theorem f269_6 : aF 6 zM269.2.2.2.2.2.2.2 = some (6, (.getfield 161), 3, 12, 59) := by decide +kernel
theorem f269_9 : aF 9 zM269.2.2.2.2.2.2.2 = some (9, (.iload_n 1), 1, 0, 0) := by decide +kernel
theorem f269_10 : aF 10 zM269.2.2.2.2.2.2.2 = some (10, .iaload, 1, 0, 0) := by decide +kernel
theorem f269_11 : aF 11 zM269.2.2.2.2.2.2.2 = some (11, (.if_icmp .ge 77), 3, 88, 0) := by decide +kernel
theorem f269_14 : aF 14 zM269.2.2.2.2.2.2.2 = some (14, (.bipush 90), 2, 0, 0) := by decide +kernel
theorem f269_16 : aF 16 zM269.2.2.2.2.2.2.2 = some (16, (.iload_n 1), 1, 0, 0) := by decide +kernel
theorem f269_17 : aF 17 zM269.2.2.2.2.2.2.2 = some (17, .imul, 1, 0, 0) := by decide +kernel
theorem f269_18 : aF 18 zM269.2.2.2.2.2.2.2 = some (18, (.iload_n 3), 1, 0, 0) := by decide +kernel
theorem f269_19 : aF 19 zM269.2.2.2.2.2.2.2 = some (19, .iadd, 1, 0, 0) := by decide +kernel
theorem f269_20 : aF 20 zM269.2.2.2.2.2.2.2 = some (20, (.istore 4), 2, 0, 0) := by decide +kernel
theorem f269_22 : aF 22 zM269.2.2.2.2.2.2.2 = some (22, (.aload_n 0), 1, 0, 0) := by decide +kernel
theorem f269_23 : aF 23 zM269.2.2.2.2.2.2.2 = some (23, (.getfield 164), 3, 12, 60) := by decide +kernel
theorem f269_26 : aF 26 zM269.2.2.2.2.2.2.2 = some (26, (.iload 4), 2, 0, 0) := by decide +kernel
theorem f269_28 : aF 28 zM269.2.2.2.2.2.2.2 = some (28, .iaload, 1, 0, 0) := by decide +kernel
theorem f269_29 : aF 29 zM269.2.2.2.2.2.2.2 = some (29, (.iload_n 2), 1, 0, 0) := by decide +kernel
theorem f269_30 : aF 30 zM269.2.2.2.2.2.2.2 = some (30, (.if_icmp .eq 19), 3, 49, 0) := by decide +kernel
theorem f269_33 : aF 33 zM269.2.2.2.2.2.2.2 = some (33, (.aload_n 0), 1, 0, 0) := by decide +kernel
theorem f269_34 : aF 34 zM269.2.2.2.2.2.2.2 = some (34, (.iload_n 1), 1, 0, 0) := by decide +kernel
theorem f269_35 : aF 35 zM269.2.2.2.2.2.2.2 = some (35, (.iload_n 2), 1, 0, 0) := by decide +kernel
theorem f269_36 : aF 36 zM269.2.2.2.2.2.2.2 = some (36, (.aload_n 0), 1, 0, 0) := by decide +kernel
theorem f269_37 : aF 37 zM269.2.2.2.2.2.2.2 = some (37, (.getfield 164), 3, 12, 60) := by decide +kernel
theorem f269_40 : aF 40 zM269.2.2.2.2.2.2.2 = some (40, (.iload 4), 2, 0, 0) := by decide +kernel
theorem f269_42 : aF 42 zM269.2.2.2.2.2.2.2 = some (42, .iaload, 1, 0, 0) := by decide +kernel
theorem f269_43 : aF 43 zM269.2.2.2.2.2.2.2 = some (43, (.invokevirtual 457), 3, 268, 0) := by decide +kernel
theorem f269_46 : aF 46 zM269.2.2.2.2.2.2.2 = some (46, (.ifCond .eq 28), 3, 74, 0) := by decide +kernel
theorem f269_49 : aF 49 zM269.2.2.2.2.2.2.2 = some (49, (.aload_n 0), 1, 0, 0) := by decide +kernel
theorem f269_50 : aF 50 zM269.2.2.2.2.2.2.2 = some (50, (.iload_n 3), 1, 0, 0) := by decide +kernel
theorem f269_51 : aF 51 zM269.2.2.2.2.2.2.2 = some (51, (.putfield 460), 3, 12, 71) := by decide +kernel
theorem f269_54 : aF 54 zM269.2.2.2.2.2.2.2 = some (54, (.aload_n 0), 1, 0, 0) := by decide +kernel
theorem f269_55 : aF 55 zM269.2.2.2.2.2.2.2 = some (55, (.iload_n 1), 1, 0, 0) := by decide +kernel
theorem f269_56 : aF 56 zM269.2.2.2.2.2.2.2 = some (56, (.aload_n 0), 1, 0, 0) := by decide +kernel
theorem f269_57 : aF 57 zM269.2.2.2.2.2.2.2 = some (57, (.getfield 164), 3, 12, 60) := by decide +kernel
theorem f269_60 : aF 60 zM269.2.2.2.2.2.2.2 = some (60, (.iload 4), 2, 0, 0) := by decide +kernel
theorem f269_62 : aF 62 zM269.2.2.2.2.2.2.2 = some (62, .iaload, 1, 0, 0) := by decide +kernel
theorem f269_63 : aF 63 zM269.2.2.2.2.2.2.2 = some (63, (.aload_n 0), 1, 0, 0) := by decide +kernel
theorem f269_64 : aF 64 zM269.2.2.2.2.2.2.2 = some (64, (.getfield 167), 3, 12, 61) := by decide +kernel
theorem f269_67 : aF 67 zM269.2.2.2.2.2.2.2 = some (67, (.iload 4), 2, 0, 0) := by decide +kernel
theorem f269_69 : aF 69 zM269.2.2.2.2.2.2.2 = some (69, .iaload, 1, 0, 0) := by decide +kernel
theorem f269_70 : aF 70 zM269.2.2.2.2.2.2.2 = some (70, (.invokevirtual 457), 3, 268, 0) := by decide +kernel
theorem f269_73 : aF 73 zM269.2.2.2.2.2.2.2 = some (73, .ireturn, 1, 0, 0) := by decide +kernel
theorem f269_74 : aF 74 zM269.2.2.2.2.2.2.2 = some (74, (.aload_n 0), 1, 0, 0) := by decide +kernel
theorem f269_75 : aF 75 zM269.2.2.2.2.2.2.2 = some (75, (.getfield 167), 3, 12, 61) := by decide +kernel
theorem f269_78 : aF 78 zM269.2.2.2.2.2.2.2 = some (78, (.iload 4), 2, 0, 0) := by decide +kernel
theorem f269_80 : aF 80 zM269.2.2.2.2.2.2.2 = some (80, .iaload, 1, 0, 0) := by decide +kernel
theorem f269_81 : aF 81 zM269.2.2.2.2.2.2.2 = some (81, (.istore_n 2), 1, 0, 0) := by decide +kernel
theorem f269_82 : aF 82 zM269.2.2.2.2.2.2.2 = some (82, (.iinc 3 1), 3, 0, 0) := by decide +kernel
theorem f269_85 : aF 85 zM269.2.2.2.2.2.2.2 = some (85, (.goto (-81)), 3, 4, 0) := by decide +kernel
theorem f269_88 : aF 88 zM269.2.2.2.2.2.2.2 = some (88, (.aload_n 0), 1, 0, 0) := by decide +kernel
theorem f269_89 : aF 89 zM269.2.2.2.2.2.2.2 = some (89, (.iconst (-1)), 1, 0, 0) := by decide +kernel
theorem f269_90 : aF 90 zM269.2.2.2.2.2.2.2 = some (90, (.putfield 460), 3, 12, 71) := by decide +kernel
theorem f269_93 : aF 93 zM269.2.2.2.2.2.2.2 = some (93, (.iconst 0), 1, 0, 0) := by decide +kernel
theorem f269_94 : aF 94 zM269.2.2.2.2.2.2.2 = some (94, .ireturn, 1, 0, 0) := by decide +kernel
/-- forceOf: a text that stands -/
def cC330 : cC := (265, 0, [], ([(3, 72, .ofNat 0), (1, 1, .ofNat 0), (1, 2, .ofNat 0), (1, 3, .ofNat 0), (0, 0, .ofNat 0)], [], ([(.ofNat 0, .ofNat 0), (.ofNat 0, .ofNat 149), (.ofNat 0, .ofNat 9), (.ofNat 0, .ofNat 3649)], [], [], [], [], [], [])), [([], [(1, 1, .ofNat 0)], ([(.ofNat 0, .ofNat 0), (.negSucc 1, .ofNat 15), (.ofNat 0, .ofNat 16)], [(1, 2, .negSucc 0)], [], [], [(72, 55, 1, 2, .ofNat 0)], [], []))], [(8, ([(3, 72, .ofNat 0), (1, 1, .ofNat 0), (1, 2, .ofNat 0), (1, 3, .ofNat 0), (1, 4, .negSucc 0)], [], ([(.ofNat 0, .ofNat 0), (.ofNat 0, .ofNat 149), (.ofNat 0, .ofNat 9), (.ofNat 0, .ofNat 3649), (.ofNat 0, .ofNat 16), (.ofNat 0, .ofNat 16)], [(4, 5, .ofNat 0)], [], [], [(72, 55, 1, 5, .ofNat 0)], [], [])), (.ofNat 0, [(.ofNat 1, 4)]))])
/-- gives, of a text that stands -/
def cC331 : cC := (269, 8, [(72, 71), (125, 0)], ([(3, 72, .ofNat 0), (1, 1, .ofNat 0), (0, 0, .ofNat 0), (0, 0, .ofNat 0), (0, 0, .ofNat 0)], [], ([(.ofNat 0, .ofNat 0), (.ofNat 0, .ofNat 15), (.ofNat 0, .ofNat 16)], [(1, 2, .negSucc 0)], [], [], [(72, 55, 1, 2, .ofNat 0)], [], [])), [([], [(1, 1, .ofNat 0)], ([(.ofNat 0, .ofNat 0), (.negSucc 2147483647, .ofNat 2147483647)], [], [], [], [], [], []))], [])
theorem wfS_H {ga gw : Nat → Int32} {t A B : Nat} {H : Nat → Nat} (h0 : H A = 0) (hs : ∀ k, A ≤ k → k < B → ((ga (170 * t + k) = 1 ∧ H (k + 1) = H k + 1) ∨ (ga (170 * t + k) = 2 ∧ 0 ≤ (gw (170 * t + k)).toInt ∧ (gw (170 * t + k)).toInt ≤ 12 ∧ H (k + 1) = H k + 1) ∨ ((ga (170 * t + k) = 3 ∨ ga (170 * t + k) = 4) ∧ 1 ≤ H k ∧ H (k + 1) = H k) ∨ (¬ ga (170 * t + k) = 1 ∧ ¬ ga (170 * t + k) = 2 ∧ ¬ ga (170 * t + k) = 3 ∧ ¬ ga (170 * t + k) = 4 ∧ 2 ≤ H k ∧ H (k + 1) + 1 = H k))) : ∀ n, A + n ≤ B → H (A + n) ≤ n
  | 0, _ => by rw [Nat.add_zero, h0]; exact Nat.le_refl _
  | n + 1, hn => by
    have ih := wfS_H h0 hs n (by omega)
    have := hs (A + n) (by omega) (by omega)
    rw [show A + (n + 1) = A + n + 1 by omega]
    omega
theorem i_c {x : Int32} {c : Int32} {z : Int} (hc : c.toInt = z) : x = c ↔ x.toInt = z := by rw [b_i, hc]
theorem wkA {X : aX} {D : Nat} {Q : Option Value → aH → Prop} (GB : dGood X cC315) (hD : 1 ≤ D) {x1 x2 x3 : Int32} {t A B : Nat} {ga gw : Nat → Int32} {H : Nat → Nat} (ht : x1.toInt = t) (t1 : t ≤ 15) (hB : x3.toInt = B) (b1 : B ≤ 170) (h0 : H A = 0) (hs : ∀ k, A ≤ k → k < B → ((ga (170 * t + k) = 1 ∧ H (k + 1) = H k + 1) ∨ (ga (170 * t + k) = 2 ∧ 0 ≤ (gw (170 * t + k)).toInt ∧ (gw (170 * t + k)).toInt ≤ 12 ∧ H (k + 1) = H k + 1) ∨ ((ga (170 * t + k) = 3 ∨ ga (170 * t + k) = 4) ∧ 1 ≤ H k ∧ H (k + 1) = H k) ∨ (¬ ga (170 * t + k) = 1 ∧ ¬ ga (170 * t + k) = 2 ∧ ¬ ga (170 * t + k) = 3 ∧ ¬ ga (170 * t + k) = 4 ∧ 2 ≤ H k ∧ H (k + 1) + 1 = H k))) : ∀ (k j : Nat) (x4 x5 : Int32) (u6 : Option Value) (σ : List Nat) (h : aH) (fs : List Value), B - j = k → A ≤ j → j ≤ B → x5.toInt = ((170 * t + j : Nat) : Int) → x4.toInt = H j → dI σ h → h.1[72]? = some (.inr (12, fs)) → h.1[122]? = some (.inl (0, 2890, .inl ga)) → h.1[123]? = some (.inl (0, 2890, .inl gw)) →
    (∀ (σ' : List Nat) (h' : aH) (y4 y5 : Int32) (v6 : Option Value), dI σ' h' → dG cC331.2.2.1 σ h σ' h' → Wp X D zM268 Q 188 [some (.ref 72), some (.int x1), some (.int x2), some (.int x3), some (.int y4), some (.int y5), v6] [] h') → Wp X D zM268 Q 12 [some (.ref 72), some (.int x1), some (.int x2), some (.int x3), some (.int x4), some (.int x5), u6] [] h := by
  intro k
  induction k with
  | zero =>
    intro j x4 x5 u6 σ h fs hk a0 a1 e5 e4 I c72 c122 c123 kq
    refine wp1 (fun n d => r_iload f268_12 rfl) ?_
    refine w_sipush f268_14 (fun v14 hv14 => ?_)
    refine wp1 (fun n d => r_iloadn f268_17 rfl) ?_
    refine w_imul f268_18 (by rw [hv14]; omega) (by rw [hv14]; omega) (fun v18 hv18 => ?_)
    rw [hv14] at hv18
    refine wp1 (fun n d => r_iloadn f268_19 rfl) ?_
    refine w_iadd f268_20 (by omega) (by omega) (fun v20 hv20 => ?_)
    exact w_icmp_ge f268_21 (fun e => kq σ h x4 x5 u6 I (dG_refl _ _ _)) (fun e => absurd e (by omega))
  | succ k ih =>
    intro j x4 x5 u6 σ h fs hk a0 a1 e5 e4 I c72 c122 c123 kq
    have hj := wfS_H h0 hs (j - A) (by omega)
    rw [show A + (j - A) = j by omega] at hj
    have sj := hs j a0 (by omega)
    rw [← show x5.toInt.toNat = 170 * t + j by omega] at sj
    rw [i_c (z := 1) (by decide), i_c (z := 2) (by decide), i_c (z := 3) (by decide), i_c (z := 4) (by decide)] at sj
    refine wp1 (fun n d => r_iload f268_12 rfl) ?_
    refine w_sipush f268_14 (fun v14 hv14 => ?_)
    refine wp1 (fun n d => r_iloadn f268_17 rfl) ?_
    refine w_imul f268_18 (by rw [hv14]; omega) (by rw [hv14]; omega) (fun v18 hv18 => ?_)
    rw [hv14] at hv18
    refine wp1 (fun n d => r_iloadn f268_19 rfl) ?_
    refine w_iadd f268_20 (by omega) (by omega) (fun v20 hv20 => ?_)
    refine w_icmp_ge f268_21 (fun e21 => absurd e21 (by omega)) (fun e21 => ?_)
    have k182 : ∀ (σ1 : List Nat) (h1 : aH) (y4 y6 : Int32), dI σ1 h1 → dG cC331.2.2.1 σ h σ1 h1 → y4.toInt = H (j + 1) → Wp X D zM268 Q 182 [some (.ref 72), some (.int x1), some (.int x2), some (.int x3), some (.int y4), some (.int x5), some (.int y6)] [] h1 := by
      intro σ1 h1 y4 y6 I1 G1 e1
      obtain ⟨fs1, d72, dfs⟩ := dG_o I.1 G1 c72 (by decide)
      have d122 := dG_a I.1 G1 c122 (by decide) rfl
      have d123 := dG_a I.1 G1 c123 (by decide) rfl
      refine w_iinc f268_182 rfl (by omega) (by omega) (fun v182 hv182 => ?_)
      show Wp _ _ _ _ 185 [some (.ref 72), some (.int x1), some (.int x2), some (.int x3), some (.int y4), some (.int v182), some (.int y6)] [] _
      refine wp1 (fun n d => r_goto f268_185) ?_
      exact ih (j + 1) y4 v182 _ σ1 h1 fs1 (by omega) (by omega) (by omega) (by omega) e1 I1 d72 d122 d123 (fun σ' h' y4 y5 v6 I' G' => kq σ' h' y4 y5 v6 I' (dG_trans G1 G'))
    refine wp1 (fun n d => r_aloadn f268_24 rfl) ?_
    have F1001 := hI_r I c72 (f := 62) (q := 122) (by decide +kernel)
    refine w_get f268_25 c72 F1001 ?_
    refine wp1 (fun n d => r_iload f268_28 rfl) ?_
    refine w_iald f268_30 c122 (by omega) (by omega) (fun v30 hv30 => ?_)
    refine wp1 (fun n d => r_istore (L' := [some (.ref 72), some (.int x1), some (.int x2), some (.int x3), some (.int x4), some (.int x5), some (.int v30)]) f268_31 rfl rfl) ?_
    rw [← hv30] at sj
    refine wp1 (fun n d => r_iload f268_33 rfl) ?_
    refine w_iconst f268_35 (fun v35 hv35 => ?_)
    have k79 : ∀ v : Int32, (v30.toInt = 1 ∨ v30.toInt = 2) → Wp X D zM268 Q 79 [some (.ref 72), some (.int x1), some (.int x2), some (.int x3), some (.int x4), some (.int x5), some (.int v30)] [.int v, .int x4, .ref 125] h := by
      intro v hv
      obtain ⟨g1002, c1002, R1002⟩ := hI_a I (r := 125) (a := 0) (n := 170) (lo := (-2147483648)) (hi := 2147483647) (by decide +kernel)
      refine w_iastI f268_79 c1002 (by omega) (by omega) I (W := cC331.2.2.1) (lo := (-2147483648)) (hi := 2147483647) (by decide +kernel) (by decide) (iR v).1 (iR v).2 (fun h1003 I1003 G1003 c1003 ne1003 => ?_)
      obtain ⟨g1003, hg1003⟩ : ∃ g', g' = upd g1002 x4.toInt.toNat v := ⟨_, rfl⟩
      rw [← hg1003] at c1003
      have c1004 := (ne1003 72 (by decide)).trans c72
      have c1005 := (ne1003 122 (by decide)).trans c122
      have c1006 := (ne1003 123 (by decide)).trans c123
      refine w_iinc f268_80 rfl (by omega) (by omega) (fun v80 hv80 => ?_)
      show Wp _ _ _ _ 83 [some (.ref 72), some (.int x1), some (.int x2), some (.int x3), some (.int v80), some (.int x5), some (.int v30)] [] _
      refine wp1 (fun n d => r_goto f268_83) ?_
      exact k182 σ h1003 v80 _ I1003 G1003 (by omega)
    have k45 : (v30.toInt = 1 ∨ v30.toInt = 2) → Wp X D zM268 Q 45 [some (.ref 72), some (.int x1), some (.int x2), some (.int x3), some (.int x4), some (.int x5), some (.int v30)] [] h := by
      intro hv
      refine wp1 (fun n d => r_aloadn f268_45 rfl) ?_
      have F1002 := hI_r I c72 (f := 70) (q := 125) (by decide +kernel)
      refine w_get f268_46 c72 F1002 ?_
      refine wp1 (fun n d => r_iload f268_49 rfl) ?_
      refine wp1 (fun n d => r_iload f268_51 rfl) ?_
      refine w_iconst f268_53 (fun v53 hv53 => ?_)
      refine w_icmp_ne f268_54 (fun e54 => ?_) (fun e54 => ?_)
      · refine wp1 (fun n d => r_aloadn f268_67 rfl) ?_
        have F1003 := hI_r I c72 (f := 69) (q := 124) (by decide +kernel)
        refine w_get f268_68 c72 F1003 ?_
        refine wp1 (fun n d => r_aloadn f268_71 rfl) ?_
        have F1004 := hI_r I c72 (f := 63) (q := 123) (by decide +kernel)
        refine w_get f268_72 c72 F1004 ?_
        refine wp1 (fun n d => r_iload f268_75 rfl) ?_
        refine w_iald f268_77 c123 (by omega) (by omega) (fun v77 hv77 => ?_)
        have b77 : 0 ≤ v77.toInt ∧ v77.toInt ≤ 12 := by rw [hv77]; omega
        obtain ⟨g1005, c1005, R1005⟩ := hI_a I (r := 124) (a := 0) (n := 13) (lo := (-2147483648)) (hi := 2147483647) (by decide +kernel)
        refine w_iald f268_78 c1005 (by omega) (by omega) (fun v78 hv78 => ?_)
        have bv78 := R1005 v77.toInt.toNat (by omega)
        rw [← hv78] at bv78
        exact k79 v78 hv
      · refine wp1 (fun n d => r_aloadn f268_57 rfl) ?_
        have F1003 := hI_r I c72 (f := 63) (q := 123) (by decide +kernel)
        refine w_get f268_58 c72 F1003 ?_
        refine wp1 (fun n d => r_iload f268_61 rfl) ?_
        refine w_iald f268_63 c123 (by omega) (by omega) (fun v63 hv63 => ?_)
        refine wp1 (fun n d => r_goto f268_64) ?_
        exact k79 v63 hv
    refine w_icmp_eq f268_36 (fun e36 => k45 (Or.inl (by omega))) (fun e36 => ?_)
    refine wp1 (fun n d => r_iload f268_39 rfl) ?_
    refine w_iconst f268_41 (fun v41 hv41 => ?_)
    refine w_icmp_ne f268_42 (fun e42 => ?_) (fun e42 => k45 (Or.inr (by omega)))
    refine wp1 (fun n d => r_iload f268_86 rfl) ?_
    refine w_iconst f268_88 (fun v88 hv88 => ?_)
    refine w_icmp_ne f268_89 (fun e89 => ?_) (fun e89 => ?_)
    rotate_left
    · refine wp1 (fun n d => r_aloadn f268_92 rfl) ?_
      have F1002 := hI_r I c72 (f := 70) (q := 125) (by decide +kernel)
      refine w_get f268_93 c72 F1002 ?_
      refine wp1 (fun n d => r_iload f268_96 rfl) ?_
      refine w_iconst f268_98 (fun v98 hv98 => ?_)
      refine w_isub f268_99 (by omega) (by omega) (fun v99 hv99 => ?_)
      refine wp1 (fun n d => r_aloadn f268_100 rfl) ?_
      refine w_get f268_101 c72 F1002 ?_
      refine wp1 (fun n d => r_iload f268_104 rfl) ?_
      refine w_iconst f268_106 (fun v106 hv106 => ?_)
      refine w_isub f268_107 (by omega) (by omega) (fun v107 hv107 => ?_)
      obtain ⟨g1003, c1003, R1003⟩ := hI_a I (r := 125) (a := 0) (n := 170) (lo := (-2147483648)) (hi := 2147483647) (by decide +kernel)
      refine w_iald f268_108 c1003 (by omega) (by omega) (fun v108 hv108 => ?_)
      have bv108 := R1003 v107.toInt.toNat (by omega)
      rw [← hv108] at bv108
      have k117 : ∀ v : Int32, Wp X D zM268 Q 117 [some (.ref 72), some (.int x1), some (.int x2), some (.int x3), some (.int x4), some (.int x5), some (.int v30)] [.int v, .int v99, .ref 125] h := by
        intro v
        refine w_iastI f268_117 c1003 (by omega) (by omega) I (W := cC331.2.2.1) (lo := (-2147483648)) (hi := 2147483647) (by decide +kernel) (by decide) (iR v).1 (iR v).2 (fun h1004 I1004 G1004 c1004 ne1004 => ?_)
        obtain ⟨g1004, hg1004⟩ : ∃ g', g' = upd g1003 v99.toInt.toNat v := ⟨_, rfl⟩
        rw [← hg1004] at c1004
        have c1005 := (ne1004 72 (by decide)).trans c72
        have c1006 := (ne1004 122 (by decide)).trans c122
        have c1007 := (ne1004 123 (by decide)).trans c123
        refine wp1 (fun n d => r_goto f268_118) ?_
        exact k182 σ h1004 x4 _ I1004 G1004 (by omega)
      refine w_if_ne f268_109 (fun _ => ?_) (fun _ => ?_)
      · refine w_iconst f268_116 (fun v116 hv116 => ?_)
        exact k117 v116
      · refine w_iconst f268_112 (fun v112 hv112 => ?_)
        refine wp1 (fun n d => r_goto f268_113) ?_
        exact k117 v112
    refine wp1 (fun n d => r_iload f268_121 rfl) ?_
    refine w_iconst f268_123 (fun v123 hv123 => ?_)
    refine w_icmp_ne f268_124 (fun e124 => ?_) (fun e124 => ?_)
    rotate_left
    · refine wp1 (fun n d => r_aloadn f268_127 rfl) ?_
      have F1002 := hI_r I c72 (f := 70) (q := 125) (by decide +kernel)
      refine w_get f268_128 c72 F1002 ?_
      refine wp1 (fun n d => r_iload f268_131 rfl) ?_
      refine w_iconst f268_133 (fun v133 hv133 => ?_)
      refine w_isub f268_134 (by omega) (by omega) (fun v134 hv134 => ?_)
      refine wp1 (fun n d => r_aloadn f268_135 rfl) ?_
      refine w_get f268_136 c72 F1002 ?_
      refine wp1 (fun n d => r_iload f268_139 rfl) ?_
      refine w_iconst f268_141 (fun v141 hv141 => ?_)
      refine w_isub f268_142 (by omega) (by omega) (fun v142 hv142 => ?_)
      obtain ⟨g1003, c1003, R1003⟩ := hI_a I (r := 125) (a := 0) (n := 170) (lo := (-2147483648)) (hi := 2147483647) (by decide +kernel)
      refine w_iald f268_143 c1003 (by omega) (by omega) (fun v143 hv143 => ?_)
      have bv143 := R1003 v142.toInt.toNat (by omega)
      rw [← hv143] at bv143
      refine w_ineg' f268_144 (fun v144 => ?_)
      refine w_iastI f268_145 c1003 (by omega) (by omega) I (W := cC331.2.2.1) (lo := (-2147483648)) (hi := 2147483647) (by decide +kernel) (by decide) (iR v144).1 (iR v144).2 (fun h1004 I1004 G1004 c1004 ne1004 => ?_)
      obtain ⟨g1004, hg1004⟩ : ∃ g', g' = upd g1003 v134.toInt.toNat v144 := ⟨_, rfl⟩
      rw [← hg1004] at c1004
      have c1005 := (ne1004 72 (by decide)).trans c72
      have c1006 := (ne1004 122 (by decide)).trans c122
      have c1007 := (ne1004 123 (by decide)).trans c123
      refine wp1 (fun n d => r_goto f268_146) ?_
      exact k182 σ h1004 x4 _ I1004 G1004 (by omega)
    refine w_iinc f268_149 rfl (by omega) (by omega) (fun v149 hv149 => ?_)
    show Wp _ _ _ _ 152 [some (.ref 72), some (.int x1), some (.int x2), some (.int x3), some (.int v149), some (.int x5), some (.int v30)] [] _
    refine wp1 (fun n d => r_aloadn f268_152 rfl) ?_
    have F1002 := hI_r I c72 (f := 70) (q := 125) (by decide +kernel)
    refine w_get f268_153 c72 F1002 ?_
    refine wp1 (fun n d => r_iload f268_156 rfl) ?_
    refine w_iconst f268_158 (fun v158 hv158 => ?_)
    refine w_isub f268_159 (by omega) (by omega) (fun v159 hv159 => ?_)
    refine wp1 (fun n d => r_iload f268_160 rfl) ?_
    refine wp1 (fun n d => r_aloadn f268_162 rfl) ?_
    refine w_get f268_163 c72 F1002 ?_
    refine wp1 (fun n d => r_iload f268_166 rfl) ?_
    refine w_iconst f268_168 (fun v168 hv168 => ?_)
    refine w_isub f268_169 (by omega) (by omega) (fun v169 hv169 => ?_)
    obtain ⟨g1003, c1003, R1003⟩ := hI_a I (r := 125) (a := 0) (n := 170) (lo := (-2147483648)) (hi := 2147483647) (by decide +kernel)
    refine w_iald f268_170 c1003 (by omega) (by omega) (fun v170 hv170 => ?_)
    have bv170 := R1003 v169.toInt.toNat (by omega)
    rw [← hv170] at bv170
    refine wp1 (fun n d => r_aloadn f268_171 rfl) ?_
    refine w_get f268_172 c72 F1002 ?_
    refine wp1 (fun n d => r_iload f268_175 rfl) ?_
    refine w_iald f268_177 c1003 (by omega) (by omega) (fun v177 hv177 => ?_)
    have bv177 := R1003 v149.toInt.toNat (by omega)
    rw [← hv177] at bv177
    refine wp_good GB (Y := zM267) (show zmt[267]? = some zM267 from rfl) I (ρ := [0, v30.toInt, v170.toInt, v177.toInt]) (dK_v (kV_of rfl ⟨⟨by decide, by decide⟩, iR v30, iR v170, iR v177, trivial⟩)) (dL_of (l := [some (.int v30), some (.int v170), some (.int v177)]) ⟨lw_i rfl, lw_i rfl, lw_i rfl, trivial⟩) (fun n d v h' e => r_stat (as := [.int v30, .int v170, .int v177]) (r := [.int v159, .ref 125]) f268_178 rfl (show zmt[267]? = some zM267 from rfl) rfl rfl rfl rfl rfl rfl e) (by first | decide | (show 0 + 1 ≤ _; omega)) (fun v h1004 σ1004 I1004 G1004 P1004 => ?_)
    obtain ⟨v178, rfl, p178, q178⟩ := rpost_i P1004 rfl
    have p178 : (-2147483648) ≤ v178.toInt := p178
    have q178 : v178.toInt ≤ 2147483647 := q178
    show Wp _ _ _ _ 181 [some (.ref 72), some (.int x1), some (.int x2), some (.int x3), some (.int v149), some (.int x5), some (.int v30)] [.int v178, .int v159, .ref 125] _
    obtain ⟨fs1005, c1005, df1005⟩ := dG_o I.1 G1004 c72 (by decide)
    have F1006 := (df1005 62 rfl).trans F1001
    have F1007 := (df1005 70 rfl).trans F1002
    have c1008 := dG_a I.1 G1004 c122 (by decide) rfl
    have c1009 := dG_a I.1 G1004 c123 (by decide) rfl
    have c1010 := dG_a I.1 G1004 c1003 (by decide) rfl
    refine w_iastI f268_181 c1010 (by omega) (by omega) I1004 (W := cC331.2.2.1) (lo := (-2147483648)) (hi := 2147483647) (by decide +kernel) (by decide) (iR v178).1 (iR v178).2 (fun h1011 I1011 G1011 c1011 ne1011 => ?_)
    obtain ⟨g1011, hg1011⟩ : ∃ g', g' = upd g1003 v159.toInt.toNat v178 := ⟨_, rfl⟩
    rw [← hg1011] at c1011
    have c1012 := (ne1011 72 (by decide)).trans c1005
    have c1013 := (ne1011 122 (by decide)).trans c1008
    have c1014 := (ne1011 123 (by decide)).trans c1009
    exact k182 _ h1011 v149 _ I1011 (dG_trans (dG_sub (by decide) G1004) G1011) (by omega)
theorem worked_wp {X : aX} {D : Nat} (GB : dGood X cC315) (hD : 1 ≤ D) {x1 x2 x3 : Int32} {u4 u5 u6 : Option Value} {t A B : Nat} {ga gw : Nat → Int32} (ht : x1.toInt = t) (t1 : t ≤ 15) (hA : x2.toInt = A) (hB : x3.toInt = B) (wf : wfS ga gw t A B) {σ : List Nat} {h : aH} (I : dI σ h) (c122 : h.1[122]? = some (.inl (0, 2890, .inl ga))) (c123 : h.1[123]? = some (.inl (0, 2890, .inl gw))) : Wp X D zM268 (fun v h' => (∃ r : Int32, v = some (.int r)) ∧ ∃ σ', dI σ' h' ∧ dG cC331.2.2.1 σ h σ' h') 0 [some (.ref 72), some (.int x1), some (.int x2), some (.int x3), u4, u5, u6] [] h := by
  obtain ⟨w1, w2, H, w3, w4⟩ := wf
  refine w_iconst f268_0 (fun v0 hv0 => ?_)
  refine wp1 (fun n d => r_istore (L' := [some (.ref 72), some (.int x1), some (.int x2), some (.int x3), some (.int v0), u5, u6]) f268_1 rfl rfl) ?_
  refine w_sipush f268_3 (fun v3 hv3 => ?_)
  refine wp1 (fun n d => r_iloadn f268_6 rfl) ?_
  refine w_imul f268_7 (by rw [hv3]; omega) (by rw [hv3]; omega) (fun v7 hv7 => ?_)
  rw [hv3] at hv7
  refine wp1 (fun n d => r_iloadn f268_8 rfl) ?_
  refine w_iadd f268_9 (by omega) (by omega) (fun v9 hv9 => ?_)
  refine wp1 (fun n d => r_istore (L' := [some (.ref 72), some (.int x1), some (.int x2), some (.int x3), some (.int v0), some (.int v9), u6]) f268_10 rfl rfl) ?_
  obtain ⟨fs1001, c1001⟩ := hI_o I (r := 72) (ci := 12) (by decide +kernel)
  refine wkA GB hD ht t1 hB w2 w3 w4 _ A v0 v9 _ σ h fs1001 rfl (Nat.le_refl _) w1 (by omega) (by rw [w3]; omega) I c1001 c122 c123 (fun σ1 h1 y4 y5 v6 I1 G1 => ?_)
  revert v6; intro u6
  refine wp1 (fun n d => r_aloadn f268_188 rfl) ?_
  obtain ⟨fs1001, c1001⟩ := hI_o I1 (r := 72) (ci := 12) (by decide +kernel)
  have F1002 := hI_r I1 c1001 (f := 70) (q := 125) (by decide +kernel)
  refine w_get f268_189 c1001 F1002 ?_
  refine w_iconst f268_192 (fun v192 hv192 => ?_)
  obtain ⟨g1003, c1003, R1003⟩ := hI_a I1 (r := 125) (a := 0) (n := 170) (lo := (-2147483648)) (hi := 2147483647) (by decide +kernel)
  refine w_iald f268_193 c1003 (by omega) (by omega) (fun v193 hv193 => ?_)
  have bv193 := R1003 v192.toInt.toNat (by omega)
  rw [← hv193] at bv193
  exact wp_end (fun n d => r_ireturn f268_194 rfl) ⟨⟨_, rfl⟩, σ1, I1, G1⟩
theorem gvA {X : aX} (GB : dGood X cC315) {x1 : Int32} {t : Nat} {σ0 : List Nat} {h0 : aH} {ga gw gt gl gm : Nat → Int32} {x : Int32} (I0 : dI σ0 h0) (ht : x1.toInt = t) (t1 : t ≤ 15) (a1 : h0.1[122]? = some (.inl (0, 2890, .inl ga))) (a2 : h0.1[123]? = some (.inl (0, 2890, .inl gw))) (a3 : h0.1[120]? = some (.inl (0, 1530, .inl gt))) (a4 : h0.1[121]? = some (.inl (0, 1530, .inl gl))) (a5 : h0.1[119]? = some (.inl (0, 17, .inl gm))) (wf : wft ga gw gt gl gm x) (tx : (t : Int) < x.toInt) : ∀ (k i : Nat) (x2 x3 : Int32) (u4 : Option Value) (σ : List Nat) (h : aH), (gm t).toInt.toNat - i = k → x3.toInt = i → i ≤ (gm t).toInt.toNat → (i = 0 → x2.toInt = 0) → (∀ j, i = j + 1 → (gl (90 * t + j)).toInt = x2.toInt) → dI σ h → dG cC331.2.2.1 σ0 h0 σ h → Wp X 8 zM269 (hQ cC331 σ0 h0) 4 [some (.ref 72), some (.int x1), some (.int x2), some (.int x3), u4] [] h := by
  obtain ⟨m0, m1, wl⟩ := wf t tx
  intro k
  induction k with
  | zero =>
    intro i x2 x3 u4 σ h hk e3 hi z1 z2 I G
    have c119 := dG_a I0.1 G a5 (by decide) rfl
    refine wp1 (fun n d => r_iloadn f269_4 rfl) ?_
    refine wp1 (fun n d => r_aloadn f269_5 rfl) ?_
    obtain ⟨fs1001, c1001⟩ := hI_o I (r := 72) (ci := 12) (by decide +kernel)
    have F1002 := hI_r I c1001 (f := 59) (q := 119) (by decide +kernel)
    refine w_get f269_6 c1001 F1002 ?_
    refine wp1 (fun n d => r_iloadn f269_9 rfl) ?_
    refine w_iald f269_10 c119 (by omega) (by omega) (fun v10 hv10 => ?_)
    have hm : v10.toInt = (gm t).toInt := by rw [hv10, show x1.toInt.toNat = t by omega]
    refine w_icmp_ge f269_11 (fun e => ?_) (fun e => absurd e (by omega))
    refine wp1 (fun n d => r_aloadn f269_88 rfl) ?_
    refine w_iconst f269_89 (fun v89 hv89 => ?_)
    refine w_putI f269_90 c1001 I (W := cC331.2.2.1) (lo := (-2147483648)) (hi := 2147483647) (by decide +kernel) (by decide) (by decide) (iR v89).1 (iR v89).2 (by decide) (by first | rfl | (simp [aok, zY])) (fun h1003 fs1003 I1003 G1003 c1003 Fx1003 nf1003 ne1003 => ?_)
    have c1004 := (ne1003 119 (by decide)).trans c119
    have F1005 := (nf1003 59 (by decide)).trans F1002
    refine w_iconst f269_93 (fun v93 hv93 => ?_)
    exact wp_end (fun n d => r_ireturn f269_94 rfl) ⟨_, I1003, (dG_trans G G1003), _, List.mem_cons_self, post_i (I1003).1 (iR _).1 (iR _).2⟩
  | succ k ih =>
    intro i x2 x3 u4 σ h hk e3 hi z1 z2 I G
    have c119 := dG_a I0.1 G a5 (by decide) rfl
    have c120 := dG_a I0.1 G a3 (by decide) rfl
    have c121 := dG_a I0.1 G a4 (by decide) rfl
    have c122 := dG_a I0.1 G a1 (by decide) rfl
    have c123 := dG_a I0.1 G a2 (by decide) rfl
    obtain ⟨A, E, L, l1, l2, l3, l4, l5, l6⟩ := wl i (by omega)
    have hA : x2.toInt = A := by
      rcases i with _ | j
      · rw [z1 rfl, l1 rfl]; rfl
      · rw [← z2 j rfl, l2 j rfl]
    refine wp1 (fun n d => r_iloadn f269_4 rfl) ?_
    refine wp1 (fun n d => r_aloadn f269_5 rfl) ?_
    obtain ⟨fs1001, c1001⟩ := hI_o I (r := 72) (ci := 12) (by decide +kernel)
    have F1002 := hI_r I c1001 (f := 59) (q := 119) (by decide +kernel)
    refine w_get f269_6 c1001 F1002 ?_
    refine wp1 (fun n d => r_iloadn f269_9 rfl) ?_
    refine w_iald f269_10 c119 (by omega) (by omega) (fun v10 hv10 => ?_)
    have hm : v10.toInt = (gm t).toInt := by rw [hv10, show x1.toInt.toNat = t by omega]
    refine w_icmp_ge f269_11 (fun e11 => absurd e11 (by omega)) (fun e11 => ?_)
    refine w_bipush f269_14 (fun v14 hv14 => ?_)
    refine wp1 (fun n d => r_iloadn f269_16 rfl) ?_
    refine w_imul f269_17 (by rw [hv14]; omega) (by rw [hv14]; omega) (fun v17 hv17 => ?_)
    rw [hv14] at hv17
    refine wp1 (fun n d => r_iloadn f269_18 rfl) ?_
    refine w_iadd f269_19 (by omega) (by omega) (fun v19 hv19 => ?_)
    refine wp1 (fun n d => r_istore (L' := [some (.ref 72), some (.int x1), some (.int x2), some (.int x3), some (.int v19)]) f269_20 rfl rfl) ?_
    have i4 : v19.toInt.toNat = 90 * t + i := by omega
    have k49 : ∀ (σ1 : List Nat) (h1 : aH), dI σ1 h1 → dG cC331.2.2.1 σ0 h0 σ1 h1 → Wp X 8 zM269 (hQ cC331 σ0 h0) 49 [some (.ref 72), some (.int x1), some (.int x2), some (.int x3), some (.int v19)] [] h1 := by
      intro σ1 h1 I1 G1
      have d120 := dG_a I0.1 G1 a3 (by decide) rfl
      have d121 := dG_a I0.1 G1 a4 (by decide) rfl
      have d122 := dG_a I0.1 G1 a1 (by decide) rfl
      have d123 := dG_a I0.1 G1 a2 (by decide) rfl
      refine wp1 (fun n d => r_aloadn f269_49 rfl) ?_
      refine wp1 (fun n d => r_iloadn f269_50 rfl) ?_
      obtain ⟨fs1001, c1001⟩ := hI_o I1 (r := 72) (ci := 12) (by decide +kernel)
      refine w_putI f269_51 c1001 I1 (W := cC331.2.2.1) (lo := (-2147483648)) (hi := 2147483647) (by decide +kernel) (by decide) (by decide) (iR x3).1 (iR x3).2 (by decide) (by first | rfl | (simp [aok, zY])) (fun h1002 fs1002 I1002 G1002 c1002 Fx1002 nf1002 ne1002 => ?_)
      have c1003 := (ne1002 120 (by decide)).trans d120
      have c1004 := (ne1002 121 (by decide)).trans d121
      have c1005 := (ne1002 122 (by decide)).trans d122
      have c1006 := (ne1002 123 (by decide)).trans d123
      refine wp1 (fun n d => r_aloadn f269_54 rfl) ?_
      refine wp1 (fun n d => r_iloadn f269_55 rfl) ?_
      refine wp1 (fun n d => r_aloadn f269_56 rfl) ?_
      have F1007 := hI_r I1002 c1002 (f := 60) (q := 120) (by decide +kernel)
      refine w_get f269_57 c1002 F1007 ?_
      refine wp1 (fun n d => r_iload f269_60 rfl) ?_
      refine w_iald f269_62 c1003 (by omega) (by omega) (fun v62 hv62 => ?_)
      refine wp1 (fun n d => r_aloadn f269_63 rfl) ?_
      have F1008 := hI_r I1002 c1002 (f := 61) (q := 121) (by decide +kernel)
      refine w_get f269_64 c1002 F1008 ?_
      refine wp1 (fun n d => r_iload f269_67 rfl) ?_
      refine w_iald f269_69 c1004 (by omega) (by omega) (fun v69 hv69 => ?_)
      refine wp_in (lv := 7) (Y := zM268) (worked_wp GB (by decide) (t := t) (A := E) (B := L) ht t1 (by rw [hv62, i4]; exact l3) (by rw [hv69, i4]; exact l4) l6 I1002 c1005 c1006) (fun n d v h' e => r_virt (as := [.int x1, .int v62, .int v69]) (r := []) f269_70 c1002 (show zmt[268]? = some zM268 from rfl) rfl rfl rfl rfl rfl rfl e) (by decide) ?_
      rintro v h2 ⟨⟨r, rfl⟩, σ2, I2, G2⟩
      exact wp_end (fun n d => r_ireturn f269_73 rfl) ⟨_, I2, dG_trans (dG_trans G1 G1002) G2, _, List.mem_cons_self, post_i (I2).1 (iR _).1 (iR _).2⟩
    have k74 : ∀ (σ1 : List Nat) (h1 : aH), dI σ1 h1 → dG cC331.2.2.1 σ0 h0 σ1 h1 → Wp X 8 zM269 (hQ cC331 σ0 h0) 74 [some (.ref 72), some (.int x1), some (.int x2), some (.int x3), some (.int v19)] [] h1 := by
      intro σ1 h1 I1 G1
      have d121 := dG_a I0.1 G1 a4 (by decide) rfl
      refine wp1 (fun n d => r_aloadn f269_74 rfl) ?_
      obtain ⟨fs1001, c1001⟩ := hI_o I1 (r := 72) (ci := 12) (by decide +kernel)
      have F1002 := hI_r I1 c1001 (f := 61) (q := 121) (by decide +kernel)
      refine w_get f269_75 c1001 F1002 ?_
      refine wp1 (fun n d => r_iload f269_78 rfl) ?_
      refine w_iald f269_80 d121 (by omega) (by omega) (fun v80 hv80 => ?_)
      refine wp1 (fun n d => r_istoren (L' := [some (.ref 72), some (.int x1), some (.int v80), some (.int x3), some (.int v19)]) f269_81 rfl rfl) ?_
      refine w_iinc f269_82 rfl (by omega) (by omega) (fun v82 hv82 => ?_)
      show Wp _ _ _ _ 85 [some (.ref 72), some (.int x1), some (.int v80), some (.int v82), some (.int v19)] [] _
      refine wp1 (fun n d => r_goto f269_85) ?_
      exact ih (i + 1) v80 v82 _ σ1 h1 (by omega) (by omega) (by omega) (fun q => absurd q (by omega)) (fun j hj => by
        have : j = i := by omega
        subst this
        rw [hv80, i4]) I1 G1
    refine wp1 (fun n d => r_aloadn f269_22 rfl) ?_
    have F1003 := hI_r I c1001 (f := 60) (q := 120) (by decide +kernel)
    refine w_get f269_23 c1001 F1003 ?_
    refine wp1 (fun n d => r_iload f269_26 rfl) ?_
    refine w_iald f269_28 c120 (by omega) (by omega) (fun v28 hv28 => ?_)
    refine wp1 (fun n d => r_iloadn f269_29 rfl) ?_
    refine w_icmp_eq f269_30 (fun e30 => k49 σ h I G) (fun e30 => ?_)
    refine wp1 (fun n d => r_aloadn f269_33 rfl) ?_
    refine wp1 (fun n d => r_iloadn f269_34 rfl) ?_
    refine wp1 (fun n d => r_iloadn f269_35 rfl) ?_
    refine wp1 (fun n d => r_aloadn f269_36 rfl) ?_
    refine w_get f269_37 c1001 F1003 ?_
    refine wp1 (fun n d => r_iload f269_40 rfl) ?_
    refine w_iald f269_42 c120 (by omega) (by omega) (fun v42 hv42 => ?_)
    refine wp_in (lv := 7) (Y := zM268) (worked_wp GB (by decide) (t := t) (A := A) (B := E) ht t1 hA (by rw [hv42, i4]; exact l3) l5 I c122 c123) (fun n d v h' e => r_virt (as := [.int x1, .int x2, .int v42]) (r := []) f269_43 c1001 (show zmt[268]? = some zM268 from rfl) rfl rfl rfl rfl rfl rfl e) (by decide) ?_
    rintro v h2 ⟨⟨r, rfl⟩, σ2, I2, G2⟩
    exact w_if_eq f269_46 (fun _ => k74 σ2 h2 I2 (dG_trans G G2)) (fun _ => k49 σ2 h2 I2 (dG_trans G G2))
theorem gives_wp {X : aX} (GB : dGood X cC315) {x1 x : Int32} {u2 u3 u4 : Option Value} {fs : List Value} {σ : List Nat} {h : aH} (I : dI σ h) (c72 : h.1[72]? = some (.inr (12, fs))) (F55 : fs[55]? = some (.int x)) (t0 : 0 ≤ x1.toInt) (t1 : x1.toInt ≤ 15) (tx : x1.toInt < x.toInt) : Wp X 8 zM269 (hQ cC331 σ h) 0 [some (.ref 72), some (.int x1), u2, u3, u4] [] h := by
  obtain ⟨ga, gw, gt, gl, gm, fs', x', a1, a2, a3, a4, a5, a6, a7, wf⟩ := I.2.2
  cases c72.symm.trans a6
  cases F55.symm.trans a7
  obtain ⟨m0, m1, -⟩ := wf x1.toInt.toNat (by omega)
  refine w_iconst f269_0 (fun v0 hv0 => ?_)
  refine wp1 (fun n d => r_istoren (L' := [some (.ref 72), some (.int x1), some (.int v0), u3, u4]) f269_1 rfl rfl) ?_
  refine w_iconst f269_2 (fun v2 hv2 => ?_)
  refine wp1 (fun n d => r_istoren (L' := [some (.ref 72), some (.int x1), some (.int v0), some (.int v2), u4]) f269_3 rfl rfl) ?_
  exact gvA GB I (t := x1.toInt.toNat) (by omega) (by omega) a1 a2 a3 a4 a5 wf (by omega) _ 0 v0 v2 _ σ h rfl (by omega) (Nat.zero_le _) (fun _ => by omega) (fun j hj => absurd hj (by omega)) I (dG_refl _ _ _)
theorem hand_331 {X : aX} (GB : dGood X cC315) : dGood X cC331 := by
  intro M hM l h σ ρ rh I K L
  have hM0 : zmt[269]? = some zM269 := rfl
  cases (show zmt[269]? = some M from hM).symm.trans hM0
  have a0 := dL_r L (i := 0) (c := 72) (o := 0) rfl (by decide)
  obtain ⟨x1, y1, a1, r1, s1⟩ := dL_i L (i := 1) (p := 1) (o := 0) rfl
  have b1 := K.1.2.2 1 y1 (0, 15) r1 rfl
  dsimp only at b1
  obtain ⟨ya, yb, d1, d2, d3⟩ := K.2.1 (1, 2, -1) List.mem_cons_self
  dsimp only at d1 d2 d3
  obtain ⟨q, ci, fs, v, f1, f2, f3, f4⟩ := K.2.2.2.2.1 (72, 55, 1, 2, 0) List.mem_cons_self
  dsimp only at f1 f3 f4
  obtain ⟨xx, yx, rfl, f5, f6⟩ := f4
  dsimp only at f5 f6
  cases r1.symm.trans d1
  cases d2.symm.trans f5
  obtain ⟨fs2, c72⟩ := hI_o I (r := 72) (ci := 12) (by decide +kernel)
  have hq : q = 72 := by
    rcases f1 with ⟨-, e⟩ | ⟨e, -⟩
    · exact e
    · omega
  subst hq
  cases c72.symm.trans f2
  obtain ⟨u0, l1, rfl, e1⟩ := hcons (show l.length = 5 from L.1)
  obtain ⟨u1, l2, rfl, e2⟩ := hcons e1
  obtain ⟨u2, l3, rfl, e3⟩ := hcons e2
  obtain ⟨u3, l4, rfl, e4⟩ := hcons e3
  obtain ⟨u4, l5, rfl, e5⟩ := hcons e4
  cases hnil e5
  cases Option.some.inj a0
  cases Option.some.inj a1
  refine hEnd ?_
  exact gives_wp GB I c72 f3 (by omega) (by omega) (by omega)
def cCTp : List cC := [cC330, cC331, cC178, cC180, cC181, cC182, cC183]
def cCMp : List (List Nat) := ((((List.replicate 333 []).set 265 [0]).set 269 [1]).set 276 [2, 3]).set 211 [5, 6, 4]
theorem cCMp_t : cCMt cCTp cCMp = true := by decide +kernel
theorem cp_330 : cchk cCTp cCMp 3000 0 = true := by decide +kernel
theorem hT_p {X : aX} (hX : X 0 = some (8, zab)) (g : hG X 184) (GB : dGood X cC315) : hT X cCTp 7 := by
  have g0 : hT X cCTp 0 := fun j hj => absurd hj (by omega)
  have g1 := tstep hX cCMp_t g0 cp_330
  intro j hj C hC
  match j, hj, hC with
  | 0, _, hC => exact g1 0 (by omega) C hC
  | 1, _, hC => cases hC; exact hand_331 GB
  | 2, _, hC => cases hC; exact g 178 (by decide) _ rfl
  | 3, _, hC => cases hC; exact g 180 (by decide) _ rfl
  | 4, _, hC => cases hC; exact g 181 (by decide) _ rfl
  | 5, _, hC => cases hC; exact g 182 (by decide) _ rfl
  | 6, _, hC => cases hC; exact g 183 (by decide) _ rfl

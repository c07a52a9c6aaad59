-- ===== by hand: the parser, operands =====
theorem f255_0 : aF 0 zM255.2.2.2.2.2.2.2 = some (0, (.iload_n 0), 1, 0, 0) := by decide +kernel
theorem f255_1 : aF 1 zM255.2.2.2.2.2.2.2 = some (1, (.tableswitch 144 98 121 #[141, 121, 144, 129, 117, 119, 144, 144, 138, 113, 126, 135, 144, 144, 132, 144, 144, 115, 123, 144, 144, 144, 144, 111]), 111, 0, 0) := by decide +kernel
theorem f255_112 : aF 112 zM255.2.2.2.2.2.2.2 = some (112, (.iconst 0), 1, 0, 0) := by decide +kernel
theorem f255_113 : aF 113 zM255.2.2.2.2.2.2.2 = some (113, .ireturn, 1, 0, 0) := by decide +kernel
theorem f255_114 : aF 114 zM255.2.2.2.2.2.2.2 = some (114, (.iconst 1), 1, 0, 0) := by decide +kernel
theorem f255_115 : aF 115 zM255.2.2.2.2.2.2.2 = some (115, .ireturn, 1, 0, 0) := by decide +kernel
theorem f255_116 : aF 116 zM255.2.2.2.2.2.2.2 = some (116, (.iconst 2), 1, 0, 0) := by decide +kernel
theorem f255_117 : aF 117 zM255.2.2.2.2.2.2.2 = some (117, .ireturn, 1, 0, 0) := by decide +kernel
theorem f255_118 : aF 118 zM255.2.2.2.2.2.2.2 = some (118, (.iconst 3), 1, 0, 0) := by decide +kernel
theorem f255_119 : aF 119 zM255.2.2.2.2.2.2.2 = some (119, .ireturn, 1, 0, 0) := by decide +kernel
theorem f255_120 : aF 120 zM255.2.2.2.2.2.2.2 = some (120, (.iconst 4), 1, 0, 0) := by decide +kernel
theorem f255_121 : aF 121 zM255.2.2.2.2.2.2.2 = some (121, .ireturn, 1, 0, 0) := by decide +kernel
theorem f255_122 : aF 122 zM255.2.2.2.2.2.2.2 = some (122, (.iconst 5), 1, 0, 0) := by decide +kernel
theorem f255_123 : aF 123 zM255.2.2.2.2.2.2.2 = some (123, .ireturn, 1, 0, 0) := by decide +kernel
theorem f255_124 : aF 124 zM255.2.2.2.2.2.2.2 = some (124, (.bipush 6), 2, 0, 0) := by decide +kernel
theorem f255_126 : aF 126 zM255.2.2.2.2.2.2.2 = some (126, .ireturn, 1, 0, 0) := by decide +kernel
theorem f255_127 : aF 127 zM255.2.2.2.2.2.2.2 = some (127, (.bipush 7), 2, 0, 0) := by decide +kernel
theorem f255_129 : aF 129 zM255.2.2.2.2.2.2.2 = some (129, .ireturn, 1, 0, 0) := by decide +kernel
theorem f255_130 : aF 130 zM255.2.2.2.2.2.2.2 = some (130, (.bipush 8), 2, 0, 0) := by decide +kernel
theorem f255_132 : aF 132 zM255.2.2.2.2.2.2.2 = some (132, .ireturn, 1, 0, 0) := by decide +kernel
theorem f255_133 : aF 133 zM255.2.2.2.2.2.2.2 = some (133, (.bipush 9), 2, 0, 0) := by decide +kernel
theorem f255_135 : aF 135 zM255.2.2.2.2.2.2.2 = some (135, .ireturn, 1, 0, 0) := by decide +kernel
theorem f255_136 : aF 136 zM255.2.2.2.2.2.2.2 = some (136, (.bipush 10), 2, 0, 0) := by decide +kernel
theorem f255_138 : aF 138 zM255.2.2.2.2.2.2.2 = some (138, .ireturn, 1, 0, 0) := by decide +kernel
theorem f255_139 : aF 139 zM255.2.2.2.2.2.2.2 = some (139, (.bipush 11), 2, 0, 0) := by decide +kernel
theorem f255_141 : aF 141 zM255.2.2.2.2.2.2.2 = some (141, .ireturn, 1, 0, 0) := by decide +kernel
theorem f255_142 : aF 142 zM255.2.2.2.2.2.2.2 = some (142, (.bipush 12), 2, 0, 0) := by decide +kernel
theorem f255_144 : aF 144 zM255.2.2.2.2.2.2.2 = some (144, .ireturn, 1, 0, 0) := by decide +kernel
theorem f255_145 : aF 145 zM255.2.2.2.2.2.2.2 = some (145, (.iconst (-1)), 1, 0, 0) := by decide +kernel
theorem f255_146 : aF 146 zM255.2.2.2.2.2.2.2 = some (146, .ireturn, 1, 0, 0) := by decide +kernel
theorem f256_0 : aF 0 zM256.2.2.2.2.2.2.2 = some (0, (.aload_n 0), 1, 0, 0) := by decide +kernel
theorem f256_1 : aF 1 zM256.2.2.2.2.2.2.2 = some (1, (.invokevirtual 412), 3, 251, 0) := by decide +kernel
theorem f256_4 : aF 4 zM256.2.2.2.2.2.2.2 = some (4, (.istore_n 1), 1, 0, 0) := by decide +kernel
theorem f256_5 : aF 5 zM256.2.2.2.2.2.2.2 = some (5, (.iload_n 1), 1, 0, 0) := by decide +kernel
theorem f256_6 : aF 6 zM256.2.2.2.2.2.2.2 = some (6, (.invokestatic 415), 3, 255, 0) := by decide +kernel
theorem f256_9 : aF 9 zM256.2.2.2.2.2.2.2 = some (9, (.ifCond .lt 23), 3, 32, 0) := by decide +kernel
theorem f256_12 : aF 12 zM256.2.2.2.2.2.2.2 = some (12, (.aload_n 0), 1, 0, 0) := by decide +kernel
theorem f256_13 : aF 13 zM256.2.2.2.2.2.2.2 = some (13, (.iconst 2), 1, 0, 0) := by decide +kernel
theorem f256_14 : aF 14 zM256.2.2.2.2.2.2.2 = some (14, (.iload_n 1), 1, 0, 0) := by decide +kernel
theorem f256_15 : aF 15 zM256.2.2.2.2.2.2.2 = some (15, (.invokestatic 415), 3, 255, 0) := by decide +kernel
theorem f256_18 : aF 18 zM256.2.2.2.2.2.2.2 = some (18, (.invokevirtual 418), 3, 253, 0) := by decide +kernel
theorem f256_21 : aF 21 zM256.2.2.2.2.2.2.2 = some (21, (.aload_n 0), 1, 0, 0) := by decide +kernel
theorem f256_22 : aF 22 zM256.2.2.2.2.2.2.2 = some (22, .dup, 1, 0, 0) := by decide +kernel
theorem f256_23 : aF 23 zM256.2.2.2.2.2.2.2 = some (23, (.getfield 394), 3, 12, 64) := by decide +kernel
theorem f256_26 : aF 26 zM256.2.2.2.2.2.2.2 = some (26, (.iconst 1), 1, 0, 0) := by decide +kernel
theorem f256_27 : aF 27 zM256.2.2.2.2.2.2.2 = some (27, .iadd, 1, 0, 0) := by decide +kernel
theorem f256_28 : aF 28 zM256.2.2.2.2.2.2.2 = some (28, (.putfield 394), 3, 12, 64) := by decide +kernel
theorem f256_31 : aF 31 zM256.2.2.2.2.2.2.2 = some (31, .return_, 1, 0, 0) := by decide +kernel
theorem f256_32 : aF 32 zM256.2.2.2.2.2.2.2 = some (32, (.iload_n 1), 1, 0, 0) := by decide +kernel
theorem f256_33 : aF 33 zM256.2.2.2.2.2.2.2 = some (33, (.bipush 33), 2, 0, 0) := by decide +kernel
theorem f256_35 : aF 35 zM256.2.2.2.2.2.2.2 = some (35, (.if_icmp .eq 9), 3, 44, 0) := by decide +kernel
theorem f256_38 : aF 38 zM256.2.2.2.2.2.2.2 = some (38, (.iload_n 1), 1, 0, 0) := by decide +kernel
theorem f256_39 : aF 39 zM256.2.2.2.2.2.2.2 = some (39, (.bipush 45), 2, 0, 0) := by decide +kernel
theorem f256_41 : aF 41 zM256.2.2.2.2.2.2.2 = some (41, (.if_icmp .ne 42), 3, 83, 0) := by decide +kernel
theorem f256_44 : aF 44 zM256.2.2.2.2.2.2.2 = some (44, (.aload_n 0), 1, 0, 0) := by decide +kernel
theorem f256_45 : aF 45 zM256.2.2.2.2.2.2.2 = some (45, (.invokevirtual 421), 3, 254, 0) := by decide +kernel
theorem f256_48 : aF 48 zM256.2.2.2.2.2.2.2 = some (48, (.ifCond .ne 4), 3, 52, 0) := by decide +kernel
theorem f256_51 : aF 51 zM256.2.2.2.2.2.2.2 = some (51, .return_, 1, 0, 0) := by decide +kernel
theorem f256_52 : aF 52 zM256.2.2.2.2.2.2.2 = some (52, (.aload_n 0), 1, 0, 0) := by decide +kernel
theorem f256_53 : aF 53 zM256.2.2.2.2.2.2.2 = some (53, (.invokevirtual 424), 3, 256, 0) := by decide +kernel
theorem f256_56 : aF 56 zM256.2.2.2.2.2.2.2 = some (56, (.aload_n 0), 1, 0, 0) := by decide +kernel
theorem f256_57 : aF 57 zM256.2.2.2.2.2.2.2 = some (57, .dup, 1, 0, 0) := by decide +kernel
theorem f256_58 : aF 58 zM256.2.2.2.2.2.2.2 = some (58, (.getfield 406), 3, 12, 66) := by decide +kernel
theorem f256_61 : aF 61 zM256.2.2.2.2.2.2.2 = some (61, (.iconst 1), 1, 0, 0) := by decide +kernel
theorem f256_62 : aF 62 zM256.2.2.2.2.2.2.2 = some (62, .isub, 1, 0, 0) := by decide +kernel
theorem f256_63 : aF 63 zM256.2.2.2.2.2.2.2 = some (63, (.putfield 406), 3, 12, 66) := by decide +kernel
theorem f256_66 : aF 66 zM256.2.2.2.2.2.2.2 = some (66, (.aload_n 0), 1, 0, 0) := by decide +kernel
theorem f256_67 : aF 67 zM256.2.2.2.2.2.2.2 = some (67, (.iload_n 1), 1, 0, 0) := by decide +kernel
theorem f256_68 : aF 68 zM256.2.2.2.2.2.2.2 = some (68, (.bipush 33), 2, 0, 0) := by decide +kernel
theorem f256_70 : aF 70 zM256.2.2.2.2.2.2.2 = some (70, (.if_icmp .ne 7), 3, 77, 0) := by decide +kernel
theorem f256_73 : aF 73 zM256.2.2.2.2.2.2.2 = some (73, (.iconst 3), 1, 0, 0) := by decide +kernel
theorem f256_74 : aF 74 zM256.2.2.2.2.2.2.2 = some (74, (.goto 4), 3, 78, 0) := by decide +kernel
theorem f256_77 : aF 77 zM256.2.2.2.2.2.2.2 = some (77, (.iconst 4), 1, 0, 0) := by decide +kernel
theorem f256_78 : aF 78 zM256.2.2.2.2.2.2.2 = some (78, (.iconst 0), 1, 0, 0) := by decide +kernel
theorem f256_79 : aF 79 zM256.2.2.2.2.2.2.2 = some (79, (.invokevirtual 418), 3, 253, 0) := by decide +kernel
theorem f256_82 : aF 82 zM256.2.2.2.2.2.2.2 = some (82, .return_, 1, 0, 0) := by decide +kernel
theorem f256_83 : aF 83 zM256.2.2.2.2.2.2.2 = some (83, (.iload_n 1), 1, 0, 0) := by decide +kernel
theorem f256_84 : aF 84 zM256.2.2.2.2.2.2.2 = some (84, (.bipush 40), 2, 0, 0) := by decide +kernel
theorem f256_86 : aF 86 zM256.2.2.2.2.2.2.2 = some (86, (.if_icmp .ne 58), 3, 144, 0) := by decide +kernel
theorem f256_89 : aF 89 zM256.2.2.2.2.2.2.2 = some (89, (.aload_n 0), 1, 0, 0) := by decide +kernel
theorem f256_90 : aF 90 zM256.2.2.2.2.2.2.2 = some (90, (.invokevirtual 421), 3, 254, 0) := by decide +kernel
theorem f256_93 : aF 93 zM256.2.2.2.2.2.2.2 = some (93, (.ifCond .ne 4), 3, 97, 0) := by decide +kernel
theorem f256_96 : aF 96 zM256.2.2.2.2.2.2.2 = some (96, .return_, 1, 0, 0) := by decide +kernel
theorem f256_97 : aF 97 zM256.2.2.2.2.2.2.2 = some (97, (.aload_n 0), 1, 0, 0) := by decide +kernel
theorem f256_98 : aF 98 zM256.2.2.2.2.2.2.2 = some (98, (.invokevirtual 427), 3, 261, 0) := by decide +kernel
theorem f256_101 : aF 101 zM256.2.2.2.2.2.2.2 = some (101, (.aload_n 0), 1, 0, 0) := by decide +kernel
theorem f256_102 : aF 102 zM256.2.2.2.2.2.2.2 = some (102, (.getfield 397), 3, 12, 65) := by decide +kernel
theorem f256_105 : aF 105 zM256.2.2.2.2.2.2.2 = some (105, (.ifCond .lt 4), 3, 109, 0) := by decide +kernel
theorem f256_108 : aF 108 zM256.2.2.2.2.2.2.2 = some (108, .return_, 1, 0, 0) := by decide +kernel
theorem f256_109 : aF 109 zM256.2.2.2.2.2.2.2 = some (109, (.aload_n 0), 1, 0, 0) := by decide +kernel
theorem f256_110 : aF 110 zM256.2.2.2.2.2.2.2 = some (110, (.invokevirtual 412), 3, 251, 0) := by decide +kernel
theorem f256_113 : aF 113 zM256.2.2.2.2.2.2.2 = some (113, (.bipush 41), 2, 0, 0) := by decide +kernel
theorem f256_115 : aF 115 zM256.2.2.2.2.2.2.2 = some (115, (.if_icmp .eq 8), 3, 123, 0) := by decide +kernel
theorem f256_118 : aF 118 zM256.2.2.2.2.2.2.2 = some (118, (.aload_n 0), 1, 0, 0) := by decide +kernel
theorem f256_119 : aF 119 zM256.2.2.2.2.2.2.2 = some (119, (.invokevirtual 409), 3, 252, 0) := by decide +kernel
theorem f256_122 : aF 122 zM256.2.2.2.2.2.2.2 = some (122, .return_, 1, 0, 0) := by decide +kernel
theorem f256_123 : aF 123 zM256.2.2.2.2.2.2.2 = some (123, (.aload_n 0), 1, 0, 0) := by decide +kernel
theorem f256_124 : aF 124 zM256.2.2.2.2.2.2.2 = some (124, .dup, 1, 0, 0) := by decide +kernel
theorem f256_125 : aF 125 zM256.2.2.2.2.2.2.2 = some (125, (.getfield 406), 3, 12, 66) := by decide +kernel
theorem f256_128 : aF 128 zM256.2.2.2.2.2.2.2 = some (128, (.iconst 1), 1, 0, 0) := by decide +kernel
theorem f256_129 : aF 129 zM256.2.2.2.2.2.2.2 = some (129, .isub, 1, 0, 0) := by decide +kernel
theorem f256_130 : aF 130 zM256.2.2.2.2.2.2.2 = some (130, (.putfield 406), 3, 12, 66) := by decide +kernel
theorem f256_133 : aF 133 zM256.2.2.2.2.2.2.2 = some (133, (.aload_n 0), 1, 0, 0) := by decide +kernel
theorem f256_134 : aF 134 zM256.2.2.2.2.2.2.2 = some (134, .dup, 1, 0, 0) := by decide +kernel
theorem f256_135 : aF 135 zM256.2.2.2.2.2.2.2 = some (135, (.getfield 394), 3, 12, 64) := by decide +kernel
theorem f256_138 : aF 138 zM256.2.2.2.2.2.2.2 = some (138, (.iconst 1), 1, 0, 0) := by decide +kernel
theorem f256_139 : aF 139 zM256.2.2.2.2.2.2.2 = some (139, .iadd, 1, 0, 0) := by decide +kernel
theorem f256_140 : aF 140 zM256.2.2.2.2.2.2.2 = some (140, (.putfield 394), 3, 12, 64) := by decide +kernel
theorem f256_143 : aF 143 zM256.2.2.2.2.2.2.2 = some (143, .return_, 1, 0, 0) := by decide +kernel
theorem f256_144 : aF 144 zM256.2.2.2.2.2.2.2 = some (144, (.iconst 0), 1, 0, 0) := by decide +kernel
theorem f256_145 : aF 145 zM256.2.2.2.2.2.2.2 = some (145, (.istore_n 2), 1, 0, 0) := by decide +kernel
theorem f256_146 : aF 146 zM256.2.2.2.2.2.2.2 = some (146, (.iconst 0), 1, 0, 0) := by decide +kernel
theorem f256_147 : aF 147 zM256.2.2.2.2.2.2.2 = some (147, (.istore_n 3), 1, 0, 0) := by decide +kernel
theorem f256_148 : aF 148 zM256.2.2.2.2.2.2.2 = some (148, (.iload_n 2), 1, 0, 0) := by decide +kernel
theorem f256_149 : aF 149 zM256.2.2.2.2.2.2.2 = some (149, (.bipush 6), 2, 0, 0) := by decide +kernel
theorem f256_151 : aF 151 zM256.2.2.2.2.2.2.2 = some (151, (.if_icmp .ge 46), 3, 197, 0) := by decide +kernel
theorem f256_154 : aF 154 zM256.2.2.2.2.2.2.2 = some (154, (.aload_n 0), 1, 0, 0) := by decide +kernel
theorem f256_155 : aF 155 zM256.2.2.2.2.2.2.2 = some (155, (.invokevirtual 412), 3, 251, 0) := by decide +kernel
theorem f256_158 : aF 158 zM256.2.2.2.2.2.2.2 = some (158, (.bipush 48), 2, 0, 0) := by decide +kernel
theorem f256_160 : aF 160 zM256.2.2.2.2.2.2.2 = some (160, (.bipush 57), 2, 0, 0) := by decide +kernel
theorem f256_162 : aF 162 zM256.2.2.2.2.2.2.2 = some (162, (.invokestatic 258), 3, 196, 0) := by decide +kernel
theorem f256_165 : aF 165 zM256.2.2.2.2.2.2.2 = some (165, (.ifCond .eq 32), 3, 197, 0) := by decide +kernel
theorem f256_168 : aF 168 zM256.2.2.2.2.2.2.2 = some (168, (.bipush 10), 2, 0, 0) := by decide +kernel
theorem f256_170 : aF 170 zM256.2.2.2.2.2.2.2 = some (170, (.iload_n 3), 1, 0, 0) := by decide +kernel
theorem f256_171 : aF 171 zM256.2.2.2.2.2.2.2 = some (171, .imul, 1, 0, 0) := by decide +kernel
theorem f256_172 : aF 172 zM256.2.2.2.2.2.2.2 = some (172, (.aload_n 0), 1, 0, 0) := by decide +kernel
theorem f256_173 : aF 173 zM256.2.2.2.2.2.2.2 = some (173, (.invokevirtual 412), 3, 251, 0) := by decide +kernel
theorem f256_176 : aF 176 zM256.2.2.2.2.2.2.2 = some (176, .iadd, 1, 0, 0) := by decide +kernel
theorem f256_177 : aF 177 zM256.2.2.2.2.2.2.2 = some (177, (.bipush 48), 2, 0, 0) := by decide +kernel
theorem f256_179 : aF 179 zM256.2.2.2.2.2.2.2 = some (179, .isub, 1, 0, 0) := by decide +kernel
theorem f256_180 : aF 180 zM256.2.2.2.2.2.2.2 = some (180, (.istore_n 3), 1, 0, 0) := by decide +kernel
theorem f256_181 : aF 181 zM256.2.2.2.2.2.2.2 = some (181, (.iinc 2 1), 3, 0, 0) := by decide +kernel
theorem f256_184 : aF 184 zM256.2.2.2.2.2.2.2 = some (184, (.aload_n 0), 1, 0, 0) := by decide +kernel
theorem f256_185 : aF 185 zM256.2.2.2.2.2.2.2 = some (185, .dup, 1, 0, 0) := by decide +kernel
theorem f256_186 : aF 186 zM256.2.2.2.2.2.2.2 = some (186, (.getfield 394), 3, 12, 64) := by decide +kernel
theorem f256_189 : aF 189 zM256.2.2.2.2.2.2.2 = some (189, (.iconst 1), 1, 0, 0) := by decide +kernel
theorem f256_190 : aF 190 zM256.2.2.2.2.2.2.2 = some (190, .iadd, 1, 0, 0) := by decide +kernel
theorem f256_191 : aF 191 zM256.2.2.2.2.2.2.2 = some (191, (.putfield 394), 3, 12, 64) := by decide +kernel
theorem f256_194 : aF 194 zM256.2.2.2.2.2.2.2 = some (194, (.goto (-46)), 3, 148, 0) := by decide +kernel
theorem f256_197 : aF 197 zM256.2.2.2.2.2.2.2 = some (197, (.iload_n 2), 1, 0, 0) := by decide +kernel
theorem f256_198 : aF 198 zM256.2.2.2.2.2.2.2 = some (198, (.ifCond .eq 17), 3, 215, 0) := by decide +kernel
theorem f256_201 : aF 201 zM256.2.2.2.2.2.2.2 = some (201, (.aload_n 0), 1, 0, 0) := by decide +kernel
theorem f256_202 : aF 202 zM256.2.2.2.2.2.2.2 = some (202, (.invokevirtual 412), 3, 251, 0) := by decide +kernel
theorem f256_205 : aF 205 zM256.2.2.2.2.2.2.2 = some (205, (.bipush 48), 2, 0, 0) := by decide +kernel
theorem f256_207 : aF 207 zM256.2.2.2.2.2.2.2 = some (207, (.bipush 57), 2, 0, 0) := by decide +kernel
theorem f256_209 : aF 209 zM256.2.2.2.2.2.2.2 = some (209, (.invokestatic 258), 3, 196, 0) := by decide +kernel
theorem f256_212 : aF 212 zM256.2.2.2.2.2.2.2 = some (212, (.ifCond .eq 10), 3, 222, 0) := by decide +kernel
theorem f256_215 : aF 215 zM256.2.2.2.2.2.2.2 = some (215, (.aload_n 0), 1, 0, 0) := by decide +kernel
theorem f256_216 : aF 216 zM256.2.2.2.2.2.2.2 = some (216, (.invokevirtual 409), 3, 252, 0) := by decide +kernel
theorem f256_219 : aF 219 zM256.2.2.2.2.2.2.2 = some (219, (.goto 9), 3, 228, 0) := by decide +kernel
theorem f256_222 : aF 222 zM256.2.2.2.2.2.2.2 = some (222, (.aload_n 0), 1, 0, 0) := by decide +kernel
theorem f256_223 : aF 223 zM256.2.2.2.2.2.2.2 = some (223, (.iconst 1), 1, 0, 0) := by decide +kernel
theorem f256_224 : aF 224 zM256.2.2.2.2.2.2.2 = some (224, (.iload_n 3), 1, 0, 0) := by decide +kernel
theorem f256_225 : aF 225 zM256.2.2.2.2.2.2.2 = some (225, (.invokevirtual 418), 3, 253, 0) := by decide +kernel
theorem f256_228 : aF 228 zM256.2.2.2.2.2.2.2 = some (228, .return_, 1, 0, 0) := by decide +kernel
theorem asw_pick {x : Int32} {d : Int} : ∀ (l : List Int) (lo : Int), ∃ o, o ∈ d :: l ∧ ∀ k : Int → Option aR, asw x k d lo l = k o
  | [], lo => ⟨d, List.mem_cons_self, fun k => rfl⟩
  | o :: r, lo => by
    by_cases e : x = Int32.ofInt lo
    · exact ⟨o, List.mem_cons_of_mem _ List.mem_cons_self, fun k => by unfold asw; rw [if_pos e]⟩
    · obtain ⟨o', h1, h2⟩ := asw_pick (x := x) (d := d) r (lo + 1)
      refine ⟨o', ?_, fun k => by unfold asw; rw [if_neg e]; exact h2 k⟩
      rcases List.mem_cons.mp h1 with q | q
      · rw [q]; exact List.mem_cons_self
      · exact List.mem_cons_of_mem _ (List.mem_cons_of_mem _ q)
def nmW (x v : Int32) (pc : Nat) : Prop := ∀ (X : aX) (D : Nat) (h : aH), Wp X D zM255 (fun v' h' => h = h' ∧ v' = some (.int v)) pc [some (.int x)] [] h
theorem nm_112 {x : Int32} : ∃ v : Int32, -1 ≤ v.toInt ∧ v.toInt ≤ 12 ∧ nmW x v 112 := ⟨Int32.ofInt 0, by decide, by decide, fun X D h => wp1 (fun n d => r_iconst f255_112 rfl) (wp_end (fun n d => r_ireturn f255_113 rfl) ⟨rfl, rfl⟩)⟩
theorem nm_114 {x : Int32} : ∃ v : Int32, -1 ≤ v.toInt ∧ v.toInt ≤ 12 ∧ nmW x v 114 := ⟨Int32.ofInt 1, by decide, by decide, fun X D h => wp1 (fun n d => r_iconst f255_114 rfl) (wp_end (fun n d => r_ireturn f255_115 rfl) ⟨rfl, rfl⟩)⟩
theorem nm_116 {x : Int32} : ∃ v : Int32, -1 ≤ v.toInt ∧ v.toInt ≤ 12 ∧ nmW x v 116 := ⟨Int32.ofInt 2, by decide, by decide, fun X D h => wp1 (fun n d => r_iconst f255_116 rfl) (wp_end (fun n d => r_ireturn f255_117 rfl) ⟨rfl, rfl⟩)⟩
theorem nm_118 {x : Int32} : ∃ v : Int32, -1 ≤ v.toInt ∧ v.toInt ≤ 12 ∧ nmW x v 118 := ⟨Int32.ofInt 3, by decide, by decide, fun X D h => wp1 (fun n d => r_iconst f255_118 rfl) (wp_end (fun n d => r_ireturn f255_119 rfl) ⟨rfl, rfl⟩)⟩
theorem nm_120 {x : Int32} : ∃ v : Int32, -1 ≤ v.toInt ∧ v.toInt ≤ 12 ∧ nmW x v 120 := ⟨Int32.ofInt 4, by decide, by decide, fun X D h => wp1 (fun n d => r_iconst f255_120 rfl) (wp_end (fun n d => r_ireturn f255_121 rfl) ⟨rfl, rfl⟩)⟩
theorem nm_122 {x : Int32} : ∃ v : Int32, -1 ≤ v.toInt ∧ v.toInt ≤ 12 ∧ nmW x v 122 := ⟨Int32.ofInt 5, by decide, by decide, fun X D h => wp1 (fun n d => r_iconst f255_122 rfl) (wp_end (fun n d => r_ireturn f255_123 rfl) ⟨rfl, rfl⟩)⟩
theorem nm_124 {x : Int32} : ∃ v : Int32, -1 ≤ v.toInt ∧ v.toInt ≤ 12 ∧ nmW x v 124 := ⟨(Int8.ofInt 6).toInt32, by decide, by decide, fun X D h => wp1 (fun n d => r_bipush f255_124 rfl) (wp_end (fun n d => r_ireturn f255_126 rfl) ⟨rfl, rfl⟩)⟩
theorem nm_127 {x : Int32} : ∃ v : Int32, -1 ≤ v.toInt ∧ v.toInt ≤ 12 ∧ nmW x v 127 := ⟨(Int8.ofInt 7).toInt32, by decide, by decide, fun X D h => wp1 (fun n d => r_bipush f255_127 rfl) (wp_end (fun n d => r_ireturn f255_129 rfl) ⟨rfl, rfl⟩)⟩
theorem nm_130 {x : Int32} : ∃ v : Int32, -1 ≤ v.toInt ∧ v.toInt ≤ 12 ∧ nmW x v 130 := ⟨(Int8.ofInt 8).toInt32, by decide, by decide, fun X D h => wp1 (fun n d => r_bipush f255_130 rfl) (wp_end (fun n d => r_ireturn f255_132 rfl) ⟨rfl, rfl⟩)⟩
theorem nm_133 {x : Int32} : ∃ v : Int32, -1 ≤ v.toInt ∧ v.toInt ≤ 12 ∧ nmW x v 133 := ⟨(Int8.ofInt 9).toInt32, by decide, by decide, fun X D h => wp1 (fun n d => r_bipush f255_133 rfl) (wp_end (fun n d => r_ireturn f255_135 rfl) ⟨rfl, rfl⟩)⟩
theorem nm_136 {x : Int32} : ∃ v : Int32, -1 ≤ v.toInt ∧ v.toInt ≤ 12 ∧ nmW x v 136 := ⟨(Int8.ofInt 10).toInt32, by decide, by decide, fun X D h => wp1 (fun n d => r_bipush f255_136 rfl) (wp_end (fun n d => r_ireturn f255_138 rfl) ⟨rfl, rfl⟩)⟩
theorem nm_139 {x : Int32} : ∃ v : Int32, -1 ≤ v.toInt ∧ v.toInt ≤ 12 ∧ nmW x v 139 := ⟨(Int8.ofInt 11).toInt32, by decide, by decide, fun X D h => wp1 (fun n d => r_bipush f255_139 rfl) (wp_end (fun n d => r_ireturn f255_141 rfl) ⟨rfl, rfl⟩)⟩
theorem nm_142 {x : Int32} : ∃ v : Int32, -1 ≤ v.toInt ∧ v.toInt ≤ 12 ∧ nmW x v 142 := ⟨(Int8.ofInt 12).toInt32, by decide, by decide, fun X D h => wp1 (fun n d => r_bipush f255_142 rfl) (wp_end (fun n d => r_ireturn f255_144 rfl) ⟨rfl, rfl⟩)⟩
theorem nm_145 {x : Int32} : ∃ v : Int32, -1 ≤ v.toInt ∧ v.toInt ≤ 12 ∧ nmW x v 145 := ⟨Int32.ofInt (-1), by decide, by decide, fun X D h => wp1 (fun n d => r_iconst f255_145 rfl) (wp_end (fun n d => r_ireturn f255_146 rfl) ⟨rfl, rfl⟩)⟩
theorem nm_d {x : Int32} : nmW x (Int32.ofInt (-1)) 145 := fun X D h => wp1 (fun n d => r_iconst f255_145 rfl) (wp_end (fun n d => r_ireturn f255_146 rfl) ⟨rfl, rfl⟩)
theorem nameOf_v (x : Int32) : ∃ v : Int32, -1 ≤ v.toInt ∧ v.toInt ≤ 12 ∧ (0 ≤ v.toInt → x.toInt ≠ -1) ∧ nmW x v 0 := by
  by_cases hx : x = -1
  · subst hx
    refine ⟨Int32.ofInt (-1), by decide, by decide, fun q => absurd q (by decide), fun X D h => ?_⟩
    refine wp1 (fun n d => r_iloadn f255_0 rfl) ?_
    refine wp1 (fun n d => (r_tsw f255_1).trans ?_) (nm_d (x := -1) X D h)
    rfl
  · have hx' : x.toInt ≠ -1 := fun q => hx (b_i.mpr (by rw [q]; decide))
    obtain ⟨o, ho, hk⟩ := asw_pick (x := x) (d := 144) [141, 121, 144, 129, 117, 119, 144, 144, 138, 113, 126, 135, 144, 144, 132, 144, 144, 115, 123, 144, 144, 144, 144, 111] 98
    obtain ⟨v, v0, v1, v2⟩ : ∃ v : Int32, -1 ≤ v.toInt ∧ v.toInt ≤ 12 ∧ nmW x v (((1 : Nat) : Int) + o).toNat := by
      simp only [List.mem_cons, List.not_mem_nil, or_false] at ho
      rcases ho with rfl | rfl | rfl | rfl | rfl | rfl | rfl | rfl | rfl | rfl | rfl | rfl | rfl | rfl | rfl | rfl | rfl | rfl | rfl | rfl | rfl | rfl | rfl | rfl | rfl
      · exact nm_145
      · exact nm_142
      · exact nm_122
      · exact nm_145
      · exact nm_130
      · exact nm_118
      · exact nm_120
      · exact nm_145
      · exact nm_145
      · exact nm_139
      · exact nm_114
      · exact nm_127
      · exact nm_136
      · exact nm_145
      · exact nm_145
      · exact nm_133
      · exact nm_145
      · exact nm_145
      · exact nm_116
      · exact nm_124
      · exact nm_145
      · exact nm_145
      · exact nm_145
      · exact nm_145
      · exact nm_112
    refine ⟨v, v0, v1, fun _ => hx', fun X D h => ?_⟩
    refine wp1 (fun n d => r_iloadn f255_0 rfl) ?_
    exact wp1 (fun n d => (r_tsw f255_1).trans (hk _)) (v2 X D h)
theorem PR_bad {σ : List Nat} {h h1 : aH} {hr op rw ld tp hr1 ft1 op1 : Int32} {ga gw gT : Nat → Int32} (G : dG lWP σ h σ h1) (P : PS σ h1 hr1 ft1 op1 rw ld tp ga gw gT) (hf : 0 ≤ ft1.toInt) (q1 : hr.toInt ≤ hr1.toInt) (q2 : op.toInt ≤ op1.toInt) : PR σ h hr op rw ld tp ga gw gT h1 hr1 ft1 op1 ld ga gw := ⟨G, P, q1, Int.le_refl _, by omega, q2, fun k _ => ⟨rfl, rfl⟩, fun q => absurd q (by omega)⟩
theorem PR_one {σ : List Nat} {h h1 : aH} {hr op rw ld tp hr1 ft1 ld1 s z : Int32} {ga gw gT : Nat → Int32} (G : dG lWP σ h σ h1) (P : PS σ h1 hr1 ft1 op rw ld1 tp (upd ga (170 * rw.toInt.toNat + ld.toInt.toNat) s) (upd gw (170 * rw.toInt.toNat + ld.toInt.toNat) z) gT) (q1 : hr.toInt < hr1.toInt) (l0 : 0 ≤ ld.toInt) (e : ld1.toInt = ld.toInt + 1) (hs : ∀ n, stp s z n (n + 1)) : PR σ h hr op rw ld tp ga gw gT h1 hr1 ft1 op ld1 (upd ga (170 * rw.toInt.toNat + ld.toInt.toNat) s) (upd gw (170 * rw.toInt.toNat + ld.toInt.toNat) z) :=
  ⟨G, P, by omega, by omega, by omega, Int.le_refl _, fun k hk => ⟨pk_un (by omega), pk_un (by omega)⟩, fun _ => ⟨rfl, q1, fun n => by
    rw [show ld1.toInt.toNat = ld.toInt.toNat + 1 by omega]
    refine seg_one ?_
    rw [pk_us, pk_us]
    exact hs n⟩⟩
theorem PR_un {σ : List Nat} {h h1 h2 h3 h4 : aH} {hr op rw ld tp hr1 op1 hr2 ft2 op2 ld2 op3 ld4 s z : Int32} {ga gw gT ga2 gw2 : Nat → Int32} (G1 : dG lWP σ h σ h1) (e1 : hr1.toInt = hr.toInt + 1) (e2 : op1.toInt = op.toInt + 1) (B : PR σ h1 hr1 op1 rw ld tp ga gw gT h2 hr2 ft2 op2 ld2 ga2 gw2) (G3 : dG lWP σ h2 σ h3) (e3 : op3.toInt = op2.toInt - 1) (G4 : dG lWP σ h3 σ h4) (e4 : ld4.toInt = ld2.toInt + 1) (P4 : PS σ h4 hr2 ft2 op3 rw ld4 tp (upd ga2 (170 * rw.toInt.toNat + ld2.toInt.toNat) s) (upd gw2 (170 * rw.toInt.toNat + ld2.toInt.toNat) z) gT) (hs : s.toInt = 3 ∨ s.toInt = 4) (l0 : 0 ≤ ld.toInt) : PR σ h hr op rw ld tp ga gw gT h4 hr2 ft2 op3 ld4 (upd ga2 (170 * rw.toInt.toNat + ld2.toInt.toNat) s) (upd gw2 (170 * rw.toInt.toNat + ld2.toInt.toNat) z) := by
  obtain ⟨b1, b2, b3, b4, b5, b6, b7, b8⟩ := B
  refine ⟨dG_trans (dG_trans G1 b1) (dG_trans G3 G4), P4, by omega, by omega, by omega, by omega, fun k hk => ?_, fun hf2 => ?_⟩
  · rw [pk_un (by omega), pk_un (by omega)]
    exact b7 k hk
  · obtain ⟨y1, y2, y3⟩ := b8 hf2
    refine ⟨by omega, by omega, fun n => ?_⟩
    have s2 : seg (upd ga2 (170 * rw.toInt.toNat + ld2.toInt.toNat) s) (upd gw2 (170 * rw.toInt.toNat + ld2.toInt.toNat) z) (170 * rw.toInt.toNat) ld.toInt.toNat ld2.toInt.toNat n (n + 1) := seg_congr (fun k k1 k2 => by
      rw [pk_un (by omega), pk_un (by omega)]
      exact ⟨rfl, rfl⟩) (y3 n)
    have s3 : seg (upd ga2 (170 * rw.toInt.toNat + ld2.toInt.toNat) s) (upd gw2 (170 * rw.toInt.toNat + ld2.toInt.toNat) z) (170 * rw.toInt.toNat) ld2.toInt.toNat (ld2.toInt.toNat + 1) (n + 1) (n + 1) := by
      refine seg_one ?_
      rw [pk_us, pk_us]
      refine Or.inr (Or.inr (Or.inl ⟨?_, by omega, rfl⟩))
      rw [i_c (z := 3) (by decide), i_c (z := 4) (by decide)]
      exact hs
    rw [show ld4.toInt.toNat = ld2.toInt.toNat + 1 by omega]
    exact seg_app (by omega) (by omega) s2 s3
theorem op_body {X : aX} {lv m : Nat} (hlv : 2 ≤ lv) (O1 : ∀ m', m = m' + 1 → ∃ l1, l1 + 1 ≤ lv ∧ PSp X l1 zM256 [some (.ref 72), none, none, none] m') (O2 : ∀ m', m = m' + 1 → ∃ l2, l2 + 1 ≤ lv ∧ PSp X l2 zM261 [some (.ref 72)] m') : PSp X lv zM256 [some (.ref 72), none, none, none] m := by
  intro σ h hr ft op rw ld tp ga gw gT P hf hl ho
  have B0 := PS_b P
  obtain ⟨fs, c, F65, -⟩ := PS_c P
  refine wp1 (fun n d => r_aloadn f256_0 rfl) ?_
  refine wp_in (lv := 0) (Y := zM251) (look_wp P) (fun nn dd vv hh ee => r_virt (as := []) (r := []) f256_1 c (show zmt[251]? = some zM251 from rfl) rfl rfl rfl rfl rfl rfl ee) (by omega) ?_
  rintro v' h' ⟨rfl, rfl⟩
  show Wp _ _ _ _ 4 [some (.ref 72), none, none, none] [.int (lkv hr tp gT)] _
  refine wp1 (fun n d => r_istoren (L' := [some (.ref 72), some (.int (lkv hr tp gT)), none, none]) f256_4 rfl rfl) ?_
  have k215 : ∀ (h1 : aH) (hr1 n v : Int32), hr.toInt ≤ hr1.toInt → dG lWP σ h σ h1 → PS σ h1 hr1 ft op rw ld tp ga gw gT → Wp X lv zM256 (fun v h' => v = none ∧ ∃ (hr' ft' op' ld' : Int32) (ga' gw' : Nat → Int32), PR σ h hr op rw ld tp ga gw gT h' hr' ft' op' ld' ga' gw') 215 [some (.ref 72), some (.int (lkv hr tp gT)), some (.int n), some (.int v)] [] h1 := by
    intro h1 hr1 n v q1 G1 P1
    obtain ⟨fs1, c1, -⟩ := PS_c P1
    refine wp1 (fun n d => r_aloadn f256_215 rfl) ?_
    refine wp_in (lv := 0) (Y := zM252) (wrong_wp P1) (fun nn dd vv hh ee => r_virt (as := []) (r := []) f256_216 c1 (show zmt[252]? = some zM252 from rfl) rfl rfl rfl rfl rfl rfl ee) (by omega) ?_
    rintro v' h2 ⟨rfl, G2, ft2, f2, P2⟩
    refine wp1 (fun n d => r_goto f256_219) ?_
    exact wp_end (fun n d => r_vreturn f256_228 rfl) ⟨rfl, hr1, ft2, op, ld, ga, gw, PR_bad (dG_trans G1 G2) P2 f2 q1 (Int.le_refl _)⟩
  have k197 : ∀ (h1 : aH) (hr1 n v : Int32), 0 ≤ n.toInt → hr1.toInt = hr.toInt + n.toInt → dG lWP σ h σ h1 → PS σ h1 hr1 ft op rw ld tp ga gw gT → Wp X lv zM256 (fun v h' => v = none ∧ ∃ (hr' ft' op' ld' : Int32) (ga' gw' : Nat → Int32), PR σ h hr op rw ld tp ga gw gT h' hr' ft' op' ld' ga' gw') 197 [some (.ref 72), some (.int (lkv hr tp gT)), some (.int n), some (.int v)] [] h1 := by
    intro h1 hr1 n v n0 e1 G1 P1
    obtain ⟨fs1, c1, -⟩ := PS_c P1
    refine wp1 (fun n d => r_iloadn f256_197 rfl) ?_
    refine w_if_eq f256_198 (fun _ => k215 h1 hr1 n v (by omega) G1 P1) (fun e198 => ?_)
    refine wp1 (fun n d => r_aloadn f256_201 rfl) ?_
    refine wp_in (lv := 0) (Y := zM251) (look_wp P1) (fun nn dd vv hh ee => r_virt (as := []) (r := []) f256_202 c1 (show zmt[251]? = some zM251 from rfl) rfl rfl rfl rfl rfl rfl ee) (by omega) ?_
    rintro v' h' ⟨rfl, rfl⟩
    show Wp _ _ _ _ 205 [some (.ref 72), some (.int (lkv hr tp gT)), some (.int n), some (.int v)] [.int (lkv hr1 tp gT)] _
    refine w_bipush f256_205 (fun a ha => ?_)
    refine w_bipush f256_207 (fun b hb => ?_)
    refine wp_in (lv := 0) (Y := zM196) (in_wp (x := (lkv hr1 tp gT)) (a := a) (b := b)) (fun nn dd vv hh ee => r_stat (as := [.int (lkv hr1 tp gT), .int a, .int b]) (r := []) f256_209 rfl (show zmt[196]? = some zM196 from rfl) rfl rfl rfl rfl rfl rfl ee) (by omega) ?_
    rintro v' h' ⟨rfl, r, rfl, r01, hr_⟩
    refine w_if_eq f256_212 (fun _ => ?_) (fun _ => k215 h1 hr1 n v (by omega) G1 P1)
    refine wp1 (fun n d => r_aloadn f256_222 rfl) ?_
    refine w_iconst f256_223 (fun o ho => ?_)
    refine wp1 (fun nn dd => r_iloadn f256_224 rfl) ?_
    have B1 := PS_b P1
    refine wp_in (lv := 0) (Y := zM253) (lay_wp P1 (x1 := o) (x2 := v) (by omega)) (fun nn dd vv hh ee => r_virt (as := [.int o, .int v]) (r := []) f256_225 c1 (show zmt[253]? = some zM253 from rfl) rfl rfl rfl rfl rfl rfl ee) (by omega) ?_
    rintro v' h2 ⟨rfl, G2, ld2, e2, P2⟩
    exact wp_end (fun n d => r_vreturn f256_228 rfl) ⟨rfl, hr1, ft, op, ld2, _, _, PR_one (dG_trans G1 G2) P2 (by omega) (by omega) e2 (fun n => Or.inl ⟨by rw [i_c (z := 1) (by decide)]; exact ho, rfl⟩)⟩
  have k148 : ∀ (k : Nat) (h1 : aH) (hr1 n v : Int32), (6 - n.toInt).toNat < k → 0 ≤ n.toInt → hr1.toInt = hr.toInt + n.toInt → dG lWP σ h σ h1 → PS σ h1 hr1 ft op rw ld tp ga gw gT → Wp X lv zM256 (fun v h' => v = none ∧ ∃ (hr' ft' op' ld' : Int32) (ga' gw' : Nat → Int32), PR σ h hr op rw ld tp ga gw gT h' hr' ft' op' ld' ga' gw') 148 [some (.ref 72), some (.int (lkv hr tp gT)), some (.int n), some (.int v)] [] h1 := by
    intro k
    induction k with
    | zero => intro h1 hr1 n v hk; omega
    | succ k ih =>
      intro h1 hr1 n v hk n0 e1 G1 P1
      have B1 := PS_b P1
      obtain ⟨fs1, c1, -⟩ := PS_c P1
      refine wp1 (fun n d => r_iloadn f256_148 rfl) ?_
      refine w_bipush f256_149 (fun six h6 => ?_)
      refine w_icmp_ge f256_151 (fun _ => k197 h1 hr1 n v n0 e1 G1 P1) (fun e151 => ?_)
      refine wp1 (fun n d => r_aloadn f256_154 rfl) ?_
      refine wp_in (lv := 0) (Y := zM251) (look_wp P1) (fun nn dd vv hh ee => r_virt (as := []) (r := []) f256_155 c1 (show zmt[251]? = some zM251 from rfl) rfl rfl rfl rfl rfl rfl ee) (by omega) ?_
      rintro v' h' ⟨rfl, rfl⟩
      show Wp _ _ _ _ 158 [some (.ref 72), some (.int (lkv hr tp gT)), some (.int n), some (.int v)] [.int (lkv hr1 tp gT)] _
      refine w_bipush f256_158 (fun a ha => ?_)
      refine w_bipush f256_160 (fun b hb => ?_)
      refine wp_in (lv := 0) (Y := zM196) (in_wp (x := (lkv hr1 tp gT)) (a := a) (b := b)) (fun nn dd vv hh ee => r_stat (as := [.int (lkv hr1 tp gT), .int a, .int b]) (r := []) f256_162 rfl (show zmt[196]? = some zM196 from rfl) rfl rfl rfl rfl rfl rfl ee) (by omega) ?_
      rintro v' h' ⟨rfl, r, rfl, r01, hr_⟩
      refine w_if_eq f256_165 (fun _ => k197 h1 hr1 n v n0 e1 G1 P1) (fun e165 => ?_)
      have hlk := hr_ (by omega)
      have hlt := lkv_lt (hr := hr1) (tp := tp) (gT := gT) (by omega)
      refine w_bipush f256_168 (fun ten h10 => ?_)
      refine wp1 (fun n d => r_iloadn f256_170 rfl) ?_
      refine w_imul' f256_171 (fun v171 => ?_)
      refine wp1 (fun n d => r_aloadn f256_172 rfl) ?_
      refine wp_in (lv := 0) (Y := zM251) (look_wp P1) (fun nn dd vv hh ee => r_virt (as := []) (r := [.int v171]) f256_173 c1 (show zmt[251]? = some zM251 from rfl) rfl rfl rfl rfl rfl rfl ee) (by omega) ?_
      rintro v' h' ⟨rfl, rfl⟩
      show Wp _ _ _ _ 176 [some (.ref 72), some (.int (lkv hr tp gT)), some (.int n), some (.int v)] [.int (lkv hr1 tp gT), .int v171] _
      refine w_iadd' f256_176 (fun v176 => ?_)
      refine w_bipush f256_177 (fun v177 _ => ?_)
      refine w_isub' f256_179 (fun v179 => ?_)
      refine wp1 (fun nn dd => r_istoren (L' := [some (.ref 72), some (.int (lkv hr tp gT)), some (.int n), some (.int v179)]) f256_180 rfl rfl) ?_
      refine w_iinc f256_181 rfl (by omega) (by omega) (fun v181 hv181 => ?_)
      show Wp _ _ _ _ 184 [some (.ref 72), some (.int (lkv hr tp gT)), some (.int v181), some (.int v179)] [] _
      refine w_here P1 (by omega) rfl f256_184 f256_185 f256_186 f256_189 f256_190 f256_191 (fun h2 hr2 e2 G2 P2 => ?_)
      refine wp1 (fun n d => r_goto f256_194) ?_
      exact ih h2 hr2 v181 v179 (by omega) (by omega) (by omega) (dG_trans G1 G2) P2
  have k144 : Wp X lv zM256 (fun v h' => v = none ∧ ∃ (hr' ft' op' ld' : Int32) (ga' gw' : Nat → Int32), PR σ h hr op rw ld tp ga gw gT h' hr' ft' op' ld' ga' gw') 144 [some (.ref 72), some (.int (lkv hr tp gT)), none, none] [] h := by
    refine w_iconst f256_144 (fun n hn => ?_)
    refine wp1 (fun n' d => r_istoren (L' := [some (.ref 72), some (.int (lkv hr tp gT)), some (.int n), none]) f256_145 rfl rfl) ?_
    refine w_iconst f256_146 (fun v hv => ?_)
    refine wp1 (fun n' d => r_istoren (L' := [some (.ref 72), some (.int (lkv hr tp gT)), some (.int n), some (.int v)]) f256_147 rfl rfl) ?_
    exact k148 _ h hr n v (Nat.lt_succ_self _) (by omega) (by omega) (dG_refl _ _ _) P
  have k83 : Wp X lv zM256 (fun v h' => v = none ∧ ∃ (hr' ft' op' ld' : Int32) (ga' gw' : Nat → Int32), PR σ h hr op rw ld tp ga gw gT h' hr' ft' op' ld' ga' gw') 83 [some (.ref 72), some (.int (lkv hr tp gT)), none, none] [] h := by
    refine wp1 (fun n d => r_iloadn f256_83 rfl) ?_
    refine w_bipush f256_84 (fun v84 hv84 => ?_)
    refine w_icmp_ne f256_86 (fun _ => k144) (fun e86 => ?_)
    have hlt := lkv_lt (hr := hr) (tp := tp) (gT := gT) (by omega)
    refine wp1 (fun n d => r_aloadn f256_89 rfl) ?_
    refine wp_in (lv := 1) (Y := zM254) (opens_wp P (by decide) hlt) (fun nn dd vv hh ee => r_virt (as := []) (r := []) f256_90 c (show zmt[254]? = some zM254 from rfl) rfl rfl rfl rfl rfl rfl ee) (by omega) ?_
    rintro v' h1 ⟨G1, ⟨r, ft1, rfl, r0, f1, P1⟩ | ⟨r, hr1, op1, rfl, r1, e1, e2, o8, P1⟩⟩
    · refine w_if_ne f256_93 (fun q => absurd r0 q) (fun _ => ?_)
      exact wp_end (fun n d => r_vreturn f256_96 rfl) ⟨rfl, hr, ft1, op, ld, ga, gw, PR_bad G1 P1 f1 (Int.le_refl _) (Int.le_refl _)⟩
    obtain ⟨m', rfl⟩ : ∃ m', m = m' + 1 := ⟨m - 1, by omega⟩
    refine w_if_ne f256_93 (fun _ => ?_) (fun q => absurd q (by omega))
    obtain ⟨fs1, c1, -⟩ := PS_c P1
    obtain ⟨l2, hl2, E⟩ := O2 m' rfl
    refine wp1 (fun n d => r_aloadn f256_97 rfl) ?_
    refine wp_in (lv := l2) (Y := zM261) (E σ h1 hr1 ft op1 rw ld tp ga gw gT P1 hf (by omega) (by omega)) (fun nn dd vv hh ee => r_virt (as := []) (r := []) f256_98 c1 (show zmt[261]? = some zM261 from rfl) rfl rfl rfl rfl rfl rfl ee) hl2 ?_
    rintro v' h2 ⟨rfl, hr2, ft2, op2, ld2, ga2, gw2, B⟩
    have P2 := B.2.1
    have B2 := PS_b P2
    have C3 := B.2.2.1
    have C4 := B.2.2.2.1
    have C5 := B.2.2.2.2.1
    have C6 := B.2.2.2.2.2.1
    have C7 := B.2.2.2.2.2.2.1
    obtain ⟨fs2, c2, F65b, -⟩ := PS_c P2
    show Wp _ _ _ _ 101 [some (.ref 72), some (.int (lkv hr tp gT)), none, none] [] _
    refine wp1 (fun n d => r_aloadn f256_101 rfl) ?_
    refine w_get f256_102 c2 F65b ?_
    refine w_if_lt f256_105 (fun f2 => ?_) (fun f2 => wp_end (fun n d => r_vreturn f256_108 rfl) ⟨rfl, hr2, ft2, op2, ld2, ga2, gw2, ⟨dG_trans G1 B.1, P2, by omega, C4, by omega, by omega, C7, fun q => absurd q (by omega)⟩⟩)
    obtain ⟨D1, D2, D3⟩ := B.2.2.2.2.2.2.2 f2
    refine wp1 (fun n d => r_aloadn f256_109 rfl) ?_
    refine wp_in (lv := 0) (Y := zM251) (look_wp P2) (fun nn dd vv hh ee => r_virt (as := []) (r := []) f256_110 c2 (show zmt[251]? = some zM251 from rfl) rfl rfl rfl rfl rfl rfl ee) (by omega) ?_
    rintro v' h' ⟨rfl, rfl⟩
    show Wp _ _ _ _ 113 [some (.ref 72), some (.int (lkv hr tp gT)), none, none] [.int (lkv hr2 tp gT)] _
    refine w_bipush f256_113 (fun v113 hv113 => ?_)
    refine w_icmp_eq f256_115 (fun e115 => ?_) (fun _ => ?_)
    rotate_left
    · refine wp1 (fun n d => r_aloadn f256_118 rfl) ?_
      refine wp_in (lv := 0) (Y := zM252) (wrong_wp P2) (fun nn dd vv hh ee => r_virt (as := []) (r := []) f256_119 c2 (show zmt[252]? = some zM252 from rfl) rfl rfl rfl rfl rfl rfl ee) (by omega) ?_
      rintro v' h3 ⟨rfl, G3, ft3, f3, P3⟩
      exact wp_end (fun n d => r_vreturn f256_122 rfl) ⟨rfl, hr2, ft3, op2, ld2, ga2, gw2, ⟨dG_trans (dG_trans G1 B.1) G3, P3, by omega, C4, by omega, by omega, C7, fun q => absurd q (by omega)⟩⟩
    have hlt2 := lkv_lt (hr := hr2) (tp := tp) (gT := gT) (by omega)
    refine w_opdec P2 (by omega) rfl f256_123 f256_124 f256_125 f256_128 f256_129 f256_130 (fun h3 op3 e3 G3 P3 => ?_)
    refine w_here P3 (by omega) rfl f256_133 f256_134 f256_135 f256_138 f256_139 f256_140 (fun h4 hr4 e4 G4 P4 => ?_)
    exact wp_end (fun n d => r_vreturn f256_143 rfl) ⟨rfl, hr4, ft2, op3, ld2, ga2, gw2, ⟨dG_trans (dG_trans G1 B.1) (dG_trans G3 G4), P4, by omega, C4, by omega, by omega, C7, fun _ => ⟨by omega, by omega, D3⟩⟩⟩
  have k44 : (lkv hr tp gT).toInt ≠ -1 → Wp X lv zM256 (fun v h' => v = none ∧ ∃ (hr' ft' op' ld' : Int32) (ga' gw' : Nat → Int32), PR σ h hr op rw ld tp ga gw gT h' hr' ft' op' ld' ga' gw') 44 [some (.ref 72), some (.int (lkv hr tp gT)), none, none] [] h := by
    intro hlt
    have hlt := lkv_lt hlt
    refine wp1 (fun n d => r_aloadn f256_44 rfl) ?_
    refine wp_in (lv := 1) (Y := zM254) (opens_wp P (by decide) hlt) (fun nn dd vv hh ee => r_virt (as := []) (r := []) f256_45 c (show zmt[254]? = some zM254 from rfl) rfl rfl rfl rfl rfl rfl ee) (by omega) ?_
    rintro v' h1 ⟨G1, ⟨r, ft1, rfl, r0, f1, P1⟩ | ⟨r, hr1, op1, rfl, r1, e1, e2, o8, P1⟩⟩
    · refine w_if_ne f256_48 (fun q => absurd r0 q) (fun _ => ?_)
      exact wp_end (fun n d => r_vreturn f256_51 rfl) ⟨rfl, hr, ft1, op, ld, ga, gw, PR_bad G1 P1 f1 (Int.le_refl _) (Int.le_refl _)⟩
    obtain ⟨m', rfl⟩ : ∃ m', m = m' + 1 := ⟨m - 1, by omega⟩
    refine w_if_ne f256_48 (fun _ => ?_) (fun q => absurd q (by omega))
    obtain ⟨fs1, c1, -⟩ := PS_c P1
    obtain ⟨l1, hl1, E⟩ := O1 m' rfl
    refine wp1 (fun n d => r_aloadn f256_52 rfl) ?_
    refine wp_in (lv := l1) (Y := zM256) (E σ h1 hr1 ft op1 rw ld tp ga gw gT P1 hf (by omega) (by omega)) (fun nn dd vv hh ee => r_virt (as := []) (r := []) f256_53 c1 (show zmt[256]? = some zM256 from rfl) rfl rfl rfl rfl rfl rfl ee) hl1 ?_
    rintro v' h2 ⟨rfl, hr2, ft2, op2, ld2, ga2, gw2, B⟩
    have P2 := B.2.1
    have B2 := PS_b P2
    have C5 := B.2.2.2.2.1
    have C6 := B.2.2.2.2.2.1
    show Wp _ _ _ _ 56 [some (.ref 72), some (.int (lkv hr tp gT)), none, none] [] _
    refine w_opdec P2 (by omega) rfl f256_56 f256_57 f256_58 f256_61 f256_62 f256_63 (fun h3 op3 e3 G3 P3 => ?_)
    obtain ⟨fs3, c3, -⟩ := PS_c P3
    refine wp1 (fun n d => r_aloadn f256_66 rfl) ?_
    have k78 : ∀ s : Int32, (s.toInt = 3 ∨ s.toInt = 4) → Wp X lv zM256 (fun v h' => v = none ∧ ∃ (hr' ft' op' ld' : Int32) (ga' gw' : Nat → Int32), PR σ h hr op rw ld tp ga gw gT h' hr' ft' op' ld' ga' gw') 78 [some (.ref 72), some (.int (lkv hr tp gT)), none, none] [.int s, .ref 72] h3 := by
      intro s hs
      refine w_iconst f256_78 (fun z hz => ?_)
      refine wp_in (lv := 0) (Y := zM253) (lay_wp P3 (x1 := s) (x2 := z) (by omega)) (fun nn dd vv hh ee => r_virt (as := [.int s, .int z]) (r := []) f256_79 c3 (show zmt[253]? = some zM253 from rfl) rfl rfl rfl rfl rfl rfl ee) (by omega) ?_
      rintro v' h4 ⟨rfl, G4, ld4, e4, P4⟩
      exact wp_end (fun n d => r_vreturn f256_82 rfl) ⟨rfl, hr2, ft2, op3, ld4, _, _, PR_un G1 e1 e2 B G3 e3 G4 e4 P4 hs (by omega)⟩
    refine wp1 (fun n d => r_iloadn f256_67 rfl) ?_
    refine w_bipush f256_68 (fun v68 hv68 => ?_)
    refine w_icmp_ne f256_70 (fun _ => ?_) (fun _ => ?_)
    · exact w_iconst f256_77 (fun s hs => k78 s (Or.inr hs))
    · refine w_iconst f256_73 (fun s hs => ?_)
      refine wp1 (fun n d => r_goto f256_74) ?_
      exact k78 s (Or.inl hs)
  obtain ⟨nv, n0, n1, n2, hn⟩ := nameOf_v (lkv hr tp gT)
  refine wp1 (fun n d => r_iloadn f256_5 rfl) ?_
  refine wp_in (lv := 0) (Y := zM255) (hn X 0 h) (fun nn dd vv hh ee => r_stat (as := [.int (lkv hr tp gT)]) (r := []) f256_6 rfl (show zmt[255]? = some zM255 from rfl) rfl rfl rfl rfl rfl rfl ee) (by omega) ?_
  rintro v' h' ⟨rfl, rfl⟩
  refine w_if_lt f256_9 (fun _ => ?_) (fun e9 => ?_)
  rotate_left
  · have hlt := lkv_lt (n2 e9)
    refine wp1 (fun n d => r_aloadn f256_12 rfl) ?_
    refine w_iconst f256_13 (fun two htwo => ?_)
    refine wp1 (fun n d => r_iloadn f256_14 rfl) ?_
    refine wp_in (lv := 0) (Y := zM255) (hn X 0 h) (fun nn dd vv hh ee => r_stat (as := [.int (lkv hr tp gT)]) (r := [.int two, .ref 72]) f256_15 rfl (show zmt[255]? = some zM255 from rfl) rfl rfl rfl rfl rfl rfl ee) (by omega) ?_
    rintro v' h' ⟨rfl, rfl⟩
    show Wp _ _ _ _ 18 [some (.ref 72), some (.int (lkv hr tp gT)), none, none] [.int nv, .int two, .ref 72] _
    refine wp_in (lv := 0) (Y := zM253) (lay_wp P (x1 := two) (x2 := nv) (by omega)) (fun nn dd vv hh ee => r_virt (as := [.int two, .int nv]) (r := []) f256_18 c (show zmt[253]? = some zM253 from rfl) rfl rfl rfl rfl rfl rfl ee) (by omega) ?_
    rintro v' h1 ⟨rfl, G1, ld1, e1, P1⟩
    show Wp _ _ _ _ 21 [some (.ref 72), some (.int (lkv hr tp gT)), none, none] [] _
    refine w_here P1 (by omega) rfl f256_21 f256_22 f256_23 f256_26 f256_27 f256_28 (fun h2 hr2 e2 G2 P2 => ?_)
    exact wp_end (fun n d => r_vreturn f256_31 rfl) ⟨rfl, hr2, ft, op, ld1, _, _, PR_one (dG_trans G1 G2) P2 (by omega) (by omega) e1 (fun n => Or.inr (Or.inl ⟨by rw [i_c (z := 2) (by decide)]; exact htwo, by omega, n1, rfl⟩))⟩
  refine wp1 (fun n d => r_iloadn f256_32 rfl) ?_
  refine w_bipush f256_33 (fun v33 hv33 => ?_)
  refine w_icmp_eq f256_35 (fun e => k44 (by omega)) (fun _ => ?_)
  refine wp1 (fun n d => r_iloadn f256_38 rfl) ?_
  refine w_bipush f256_39 (fun v39 hv39 => ?_)
  exact w_icmp_ne f256_41 (fun _ => k83) (fun e => k44 (by omega))
theorem ei_of {X : aX} {l m : Nat} (hl : 2 ≤ l) (O : PSp X l zM256 [some (.ref 72), none, none, none] m) : PSp X (l + 5) zM261 [some (.ref 72)] m := either_sp (by omega) (all_sp (by omega) (comp_sp (by omega) (sum_sp (by omega) (prod_sp (by omega) O))))
theorem op_sp {X : aX} : ∀ m : Nat, PSp X (2 + 6 * m) zM256 [some (.ref 72), none, none, none] m
  | 0 => op_body (by omega) (fun m' e => absurd e (by omega)) (fun m' e => absurd e (by omega))
  | m + 1 => op_body (by omega) (fun m' e => ⟨2 + 6 * m, by omega, by cases e; exact op_sp m⟩) (fun m' e => ⟨2 + 6 * m + 5, by omega, by cases e; exact ei_of (by omega) (op_sp m)⟩)
theorem ei_sp {X : aX} : PSp X 55 zM261 [some (.ref 72)] 8 := ei_of (l := 50) (by decide) (op_sp 8)

-- ===== what is seen of fields =====
theorem tl_65 : tkL 65 5 150 = true := by decide +kernel
theorem tl_114 : tkL 114 2 9000 = true := by decide +kernel
theorem tl_113 : tkL 113 0 9000 = true := by decide +kernel
theorem tr_63_2 : tkR 63 2 65 = true := by decide +kernel
theorem tr_0_7 : tkR 0 7 63 = true := by decide +kernel
theorem tr_72_51 : tkR 72 51 114 = true := by decide +kernel
theorem tr_72_50 : tkR 72 50 113 = true := by decide +kernel
theorem gx41_0 : aF 0 zM41.2.2.2.2.2.2.2 = some (0, (.aload_n 0), 1, 0, 0) := by decide +kernel
theorem gx41_1 : aF 1 zM41.2.2.2.2.2.2.2 = some (1, (.getfield 20), 3, 3, 2) := by decide +kernel
theorem gx41_4 : aF 4 zM41.2.2.2.2.2.2.2 = some (4, (.iload_n 1), 1, 0, 0) := by decide +kernel
theorem gx41_5 : aF 5 zM41.2.2.2.2.2.2.2 = some (5, .aaload, 1, 0, 0) := by decide +kernel
theorem gx41_6 : aF 6 zM41.2.2.2.2.2.2.2 = some (6, (.astore 6), 2, 0, 0) := by decide +kernel
theorem gx41_8 : aF 8 zM41.2.2.2.2.2.2.2 = some (8, (.aload 6), 2, 0, 0) := by decide +kernel
theorem gx41_10 : aF 10 zM41.2.2.2.2.2.2.2 = some (10, (.ifnonnull 25), 3, 35, 0) := by decide +kernel
theorem gx41_13 : aF 13 zM41.2.2.2.2.2.2.2 = some (13, (.bipush 60), 2, 0, 0) := by decide +kernel
theorem gx41_15 : aF 15 zM41.2.2.2.2.2.2.2 = some (15, (.newarray .int), 2, 0, 0) := by decide +kernel
theorem gx41_17 : aF 17 zM41.2.2.2.2.2.2.2 = some (17, (.astore 6), 2, 0, 0) := by decide +kernel
theorem gx41_19 : aF 19 zM41.2.2.2.2.2.2.2 = some (19, (.aload 6), 2, 0, 0) := by decide +kernel
theorem gx41_21 : aF 21 zM41.2.2.2.2.2.2.2 = some (21, (.sipush 1000), 3, 0, 0) := by decide +kernel
theorem gx41_24 : aF 24 zM41.2.2.2.2.2.2.2 = some (24, (.invokestatic 24), 3, 332, 0) := by decide +kernel
theorem gx41_27 : aF 27 zM41.2.2.2.2.2.2.2 = some (27, (.aload_n 0), 1, 0, 0) := by decide +kernel
theorem gx41_28 : aF 28 zM41.2.2.2.2.2.2.2 = some (28, (.getfield 20), 3, 3, 2) := by decide +kernel
theorem gx41_31 : aF 31 zM41.2.2.2.2.2.2.2 = some (31, (.iload_n 1), 1, 0, 0) := by decide +kernel
theorem gx41_32 : aF 32 zM41.2.2.2.2.2.2.2 = some (32, (.aload 6), 2, 0, 0) := by decide +kernel
theorem gx41_34 : aF 34 zM41.2.2.2.2.2.2.2 = some (34, .aastore, 1, 0, 0) := by decide +kernel
theorem gx41_35 : aF 35 zM41.2.2.2.2.2.2.2 = some (35, (.iconst 0), 1, 0, 0) := by decide +kernel
theorem gx41_36 : aF 36 zM41.2.2.2.2.2.2.2 = some (36, (.istore 7), 2, 0, 0) := by decide +kernel
theorem gx41_38 : aF 38 zM41.2.2.2.2.2.2.2 = some (38, (.iconst 0), 1, 0, 0) := by decide +kernel
theorem gx41_39 : aF 39 zM41.2.2.2.2.2.2.2 = some (39, (.istore 8), 2, 0, 0) := by decide +kernel
theorem gx41_41 : aF 41 zM41.2.2.2.2.2.2.2 = some (41, (.iconst 0), 1, 0, 0) := by decide +kernel
theorem gx41_42 : aF 42 zM41.2.2.2.2.2.2.2 = some (42, (.istore 9), 2, 0, 0) := by decide +kernel
theorem gx41_44 : aF 44 zM41.2.2.2.2.2.2.2 = some (44, (.iload 9), 2, 0, 0) := by decide +kernel
theorem gx41_46 : aF 46 zM41.2.2.2.2.2.2.2 = some (46, (.bipush 6), 2, 0, 0) := by decide +kernel
theorem gx41_48 : aF 48 zM41.2.2.2.2.2.2.2 = some (48, (.if_icmp .ge 122), 3, 170, 0) := by decide +kernel
theorem gx41_170 : aF 170 zM41.2.2.2.2.2.2.2 = some (170, (.iload 7), 2, 0, 0) := by decide +kernel
theorem gx41_172 : aF 172 zM41.2.2.2.2.2.2.2 = some (172, .ireturn, 1, 0, 0) := by decide +kernel
theorem gx41_51 : aF 51 zM41.2.2.2.2.2.2.2 = some (51, (.iload 8), 2, 0, 0) := by decide +kernel
theorem gx41_53 : aF 53 zM41.2.2.2.2.2.2.2 = some (53, (.ifCond .ne 19), 3, 72, 0) := by decide +kernel
theorem gx41_72 : aF 72 zM41.2.2.2.2.2.2.2 = some (72, (.iconst 1), 1, 0, 0) := by decide +kernel
theorem gx41_73 : aF 73 zM41.2.2.2.2.2.2.2 = some (73, (.goto 4), 3, 77, 0) := by decide +kernel
theorem gx41_77 : aF 77 zM41.2.2.2.2.2.2.2 = some (77, (.istore 8), 2, 0, 0) := by decide +kernel
theorem gx41_79 : aF 79 zM41.2.2.2.2.2.2.2 = some (79, (.iload 8), 2, 0, 0) := by decide +kernel
theorem gx41_81 : aF 81 zM41.2.2.2.2.2.2.2 = some (81, (.ifCond .eq 10), 3, 91, 0) := by decide +kernel
theorem gx41_84 : aF 84 zM41.2.2.2.2.2.2.2 = some (84, (.aload_n 0), 1, 0, 0) := by decide +kernel
theorem gx41_85 : aF 85 zM41.2.2.2.2.2.2.2 = some (85, (.getfield 15), 3, 3, 1) := by decide +kernel
theorem gx41_88 : aF 88 zM41.2.2.2.2.2.2.2 = some (88, (.goto 15), 3, 103, 0) := by decide +kernel
theorem gx41_103 : aF 103 zM41.2.2.2.2.2.2.2 = some (103, (.istore 10), 2, 0, 0) := by decide +kernel
theorem gx41_105 : aF 105 zM41.2.2.2.2.2.2.2 = some (105, (.iload 8), 2, 0, 0) := by decide +kernel
theorem gx41_107 : aF 107 zM41.2.2.2.2.2.2.2 = some (107, (.ifCond .ne 16), 3, 123, 0) := by decide +kernel
theorem gx41_123 : aF 123 zM41.2.2.2.2.2.2.2 = some (123, (.iconst 0), 1, 0, 0) := by decide +kernel
theorem gx41_124 : aF 124 zM41.2.2.2.2.2.2.2 = some (124, (.istore 11), 2, 0, 0) := by decide +kernel
theorem gx41_126 : aF 126 zM41.2.2.2.2.2.2.2 = some (126, (.aload 6), 2, 0, 0) := by decide +kernel
theorem gx41_128 : aF 128 zM41.2.2.2.2.2.2.2 = some (128, (.iload_n 2), 1, 0, 0) := by decide +kernel
theorem gx41_129 : aF 129 zM41.2.2.2.2.2.2.2 = some (129, (.bipush 6), 2, 0, 0) := by decide +kernel
theorem gx41_131 : aF 131 zM41.2.2.2.2.2.2.2 = some (131, .imul, 1, 0, 0) := by decide +kernel
theorem gx41_132 : aF 132 zM41.2.2.2.2.2.2.2 = some (132, (.iload 9), 2, 0, 0) := by decide +kernel
theorem gx41_134 : aF 134 zM41.2.2.2.2.2.2.2 = some (134, .iadd, 1, 0, 0) := by decide +kernel
theorem gx41_135 : aF 135 zM41.2.2.2.2.2.2.2 = some (135, (.iload 11), 2, 0, 0) := by decide +kernel
theorem gx41_137 : aF 137 zM41.2.2.2.2.2.2.2 = some (137, (.ifCond .eq 8), 3, 145, 0) := by decide +kernel
theorem gx41_145 : aF 145 zM41.2.2.2.2.2.2.2 = some (145, (.sipush 1000), 3, 0, 0) := by decide +kernel
theorem gx41_148 : aF 148 zM41.2.2.2.2.2.2.2 = some (148, .iastore, 1, 0, 0) := by decide +kernel
theorem gx41_149 : aF 149 zM41.2.2.2.2.2.2.2 = some (149, (.iload 7), 2, 0, 0) := by decide +kernel
theorem gx41_151 : aF 151 zM41.2.2.2.2.2.2.2 = some (151, (.iload 11), 2, 0, 0) := by decide +kernel
theorem gx41_153 : aF 153 zM41.2.2.2.2.2.2.2 = some (153, (.ifCond .eq 7), 3, 160, 0) := by decide +kernel
theorem gx41_160 : aF 160 zM41.2.2.2.2.2.2.2 = some (160, (.iconst 0), 1, 0, 0) := by decide +kernel
theorem gx41_161 : aF 161 zM41.2.2.2.2.2.2.2 = some (161, .iadd, 1, 0, 0) := by decide +kernel
theorem gx41_162 : aF 162 zM41.2.2.2.2.2.2.2 = some (162, (.istore 7), 2, 0, 0) := by decide +kernel
theorem gx41_164 : aF 164 zM41.2.2.2.2.2.2.2 = some (164, (.iinc 9 1), 3, 0, 0) := by decide +kernel
theorem gx41_167 : aF 167 zM41.2.2.2.2.2.2.2 = some (167, (.goto (-123)), 3, 44, 0) := by decide +kernel
theorem gx41_56 : aF 56 zM41.2.2.2.2.2.2.2 = some (56, (.aload_n 3), 1, 0, 0) := by decide +kernel
theorem gx41_57 : aF 57 zM41.2.2.2.2.2.2.2 = some (57, (.iload 4), 2, 0, 0) := by decide +kernel
theorem gx41_59 : aF 59 zM41.2.2.2.2.2.2.2 = some (59, (.iload 5), 2, 0, 0) := by decide +kernel
theorem gx41_61 : aF 61 zM41.2.2.2.2.2.2.2 = some (61, .i2l, 1, 0, 0) := by decide +kernel
theorem gx41_62 : aF 62 zM41.2.2.2.2.2.2.2 = some (62, (.iload 9), 2, 0, 0) := by decide +kernel
theorem gx41_64 : aF 64 zM41.2.2.2.2.2.2.2 = some (64, .i2l, 1, 0, 0) := by decide +kernel
theorem gx41_65 : aF 65 zM41.2.2.2.2.2.2.2 = some (65, .ladd, 1, 0, 0) := by decide +kernel
theorem gx41_66 : aF 66 zM41.2.2.2.2.2.2.2 = some (66, (.invokevirtual 30), 3, 111, 0) := by decide +kernel
theorem gx41_69 : aF 69 zM41.2.2.2.2.2.2.2 = some (69, (.ifCond .ne 7), 3, 76, 0) := by decide +kernel
theorem gx41_76 : aF 76 zM41.2.2.2.2.2.2.2 = some (76, (.iconst 0), 1, 0, 0) := by decide +kernel
theorem gx41_91 : aF 91 zM41.2.2.2.2.2.2.2 = some (91, (.aload_n 3), 1, 0, 0) := by decide +kernel
theorem gx41_92 : aF 92 zM41.2.2.2.2.2.2.2 = some (92, (.iload 4), 2, 0, 0) := by decide +kernel
theorem gx41_94 : aF 94 zM41.2.2.2.2.2.2.2 = some (94, (.iload 5), 2, 0, 0) := by decide +kernel
theorem gx41_96 : aF 96 zM41.2.2.2.2.2.2.2 = some (96, (.iload 9), 2, 0, 0) := by decide +kernel
theorem gx41_98 : aF 98 zM41.2.2.2.2.2.2.2 = some (98, .iadd, 1, 0, 0) := by decide +kernel
theorem gx41_99 : aF 99 zM41.2.2.2.2.2.2.2 = some (99, (.invokevirtual 36), 3, 114, 0) := by decide +kernel
theorem gx41_102 : aF 102 zM41.2.2.2.2.2.2.2 = some (102, .l2i, 1, 0, 0) := by decide +kernel
theorem gx41_110 : aF 110 zM41.2.2.2.2.2.2.2 = some (110, (.iload 10), 2, 0, 0) := by decide +kernel
theorem gx41_112 : aF 112 zM41.2.2.2.2.2.2.2 = some (112, (.aload_n 0), 1, 0, 0) := by decide +kernel
theorem gx41_113 : aF 113 zM41.2.2.2.2.2.2.2 = some (113, (.getfield 15), 3, 3, 1) := by decide +kernel
theorem gx41_116 : aF 116 zM41.2.2.2.2.2.2.2 = some (116, (.if_icmp .eq 7), 3, 123, 0) := by decide +kernel
theorem gx41_119 : aF 119 zM41.2.2.2.2.2.2.2 = some (119, (.iconst 1), 1, 0, 0) := by decide +kernel
theorem gx41_120 : aF 120 zM41.2.2.2.2.2.2.2 = some (120, (.goto 4), 3, 124, 0) := by decide +kernel
theorem gx41_140 : aF 140 zM41.2.2.2.2.2.2.2 = some (140, (.iload 10), 2, 0, 0) := by decide +kernel
theorem gx41_142 : aF 142 zM41.2.2.2.2.2.2.2 = some (142, (.goto 6), 3, 148, 0) := by decide +kernel
theorem gx41_156 : aF 156 zM41.2.2.2.2.2.2.2 = some (156, (.iconst 1), 1, 0, 0) := by decide +kernel
theorem gx41_157 : aF 157 zM41.2.2.2.2.2.2.2 = some (157, (.goto 4), 3, 161, 0) := by decide +kernel
theorem gx164_0 : aF 0 zM164.2.2.2.2.2.2.2 = some (0, (.aload_n 0), 1, 0, 0) := by decide +kernel
theorem gx164_1 : aF 1 zM164.2.2.2.2.2.2.2 = some (1, (.getfield 12), 3, 11, 0) := by decide +kernel
theorem gx164_4 : aF 4 zM164.2.2.2.2.2.2.2 = some (4, (.iload_n 1), 1, 0, 0) := by decide +kernel
theorem gx164_5 : aF 5 zM164.2.2.2.2.2.2.2 = some (5, (.invokevirtual 136), 3, 77, 0) := by decide +kernel
theorem gx164_8 : aF 8 zM164.2.2.2.2.2.2.2 = some (8, (.ifCond .eq 17), 3, 25, 0) := by decide +kernel
theorem gx164_25 : aF 25 zM164.2.2.2.2.2.2.2 = some (25, (.iconst (-1)), 1, 0, 0) := by decide +kernel
theorem gx164_26 : aF 26 zM164.2.2.2.2.2.2.2 = some (26, .ireturn, 1, 0, 0) := by decide +kernel
theorem gx164_11 : aF 11 zM164.2.2.2.2.2.2.2 = some (11, (.iload_n 2), 1, 0, 0) := by decide +kernel
theorem gx164_12 : aF 12 zM164.2.2.2.2.2.2.2 = some (12, (.invokestatic 187), 3, 139, 0) := by decide +kernel
theorem gx164_15 : aF 15 zM164.2.2.2.2.2.2.2 = some (15, (.ifCond .eq 10), 3, 25, 0) := by decide +kernel
theorem gx164_18 : aF 18 zM164.2.2.2.2.2.2.2 = some (18, (.iload_n 3), 1, 0, 0) := by decide +kernel
theorem gx164_19 : aF 19 zM164.2.2.2.2.2.2.2 = some (19, (.invokestatic 235), 3, 142, 0) := by decide +kernel
theorem gx164_22 : aF 22 zM164.2.2.2.2.2.2.2 = some (22, (.ifCond .ne 5), 3, 27, 0) := by decide +kernel
theorem gx164_27 : aF 27 zM164.2.2.2.2.2.2.2 = some (27, (.aload_n 0), 1, 0, 0) := by decide +kernel
theorem gx164_28 : aF 28 zM164.2.2.2.2.2.2.2 = some (28, (.getfield 81), 3, 11, 9) := by decide +kernel
theorem gx164_31 : aF 31 zM164.2.2.2.2.2.2.2 = some (31, (.getfield 238), 3, 9, 0) := by decide +kernel
theorem gx164_34 : aF 34 zM164.2.2.2.2.2.2.2 = some (34, (.iload_n 3), 1, 0, 0) := by decide +kernel
theorem gx164_35 : aF 35 zM164.2.2.2.2.2.2.2 = some (35, .iaload, 1, 0, 0) := by decide +kernel
theorem gx164_36 : aF 36 zM164.2.2.2.2.2.2.2 = some (36, (.istore 5), 2, 0, 0) := by decide +kernel
theorem gx164_38 : aF 38 zM164.2.2.2.2.2.2.2 = some (38, (.iload 5), 2, 0, 0) := by decide +kernel
theorem gx164_40 : aF 40 zM164.2.2.2.2.2.2.2 = some (40, (.iconst (-1)), 1, 0, 0) := by decide +kernel
theorem gx164_41 : aF 41 zM164.2.2.2.2.2.2.2 = some (41, (.if_icmp .eq 11), 3, 52, 0) := by decide +kernel
theorem gx164_52 : aF 52 zM164.2.2.2.2.2.2.2 = some (52, (.aload_n 0), 1, 0, 0) := by decide +kernel
theorem gx164_53 : aF 53 zM164.2.2.2.2.2.2.2 = some (53, (.getfield 67), 3, 11, 7) := by decide +kernel
theorem gx164_56 : aF 56 zM164.2.2.2.2.2.2.2 = some (56, (.iload_n 1), 1, 0, 0) := by decide +kernel
theorem gx164_57 : aF 57 zM164.2.2.2.2.2.2.2 = some (57, (.iload_n 2), 1, 0, 0) := by decide +kernel
theorem gx164_58 : aF 58 zM164.2.2.2.2.2.2.2 = some (58, (.aload_n 0), 1, 0, 0) := by decide +kernel
theorem gx164_59 : aF 59 zM164.2.2.2.2.2.2.2 = some (59, (.getfield 81), 3, 11, 9) := by decide +kernel
theorem gx164_62 : aF 62 zM164.2.2.2.2.2.2.2 = some (62, (.iload_n 3), 1, 0, 0) := by decide +kernel
theorem gx164_63 : aF 63 zM164.2.2.2.2.2.2.2 = some (63, (.iload 4), 2, 0, 0) := by decide +kernel
theorem gx164_65 : aF 65 zM164.2.2.2.2.2.2.2 = some (65, (.invokevirtual 241), 3, 41, 0) := by decide +kernel
theorem gx164_68 : aF 68 zM164.2.2.2.2.2.2.2 = some (68, .ireturn, 1, 0, 0) := by decide +kernel
theorem gx164_44 : aF 44 zM164.2.2.2.2.2.2.2 = some (44, (.iload 5), 2, 0, 0) := by decide +kernel
theorem gx164_46 : aF 46 zM164.2.2.2.2.2.2.2 = some (46, (.ifCond .eq 6), 3, 52, 0) := by decide +kernel
theorem gx164_49 : aF 49 zM164.2.2.2.2.2.2.2 = some (49, (.bipush (-12)), 2, 0, 0) := by decide +kernel
theorem gx164_51 : aF 51 zM164.2.2.2.2.2.2.2 = some (51, .ireturn, 1, 0, 0) := by decide +kernel
theorem gx247_0 : aF 0 zM247.2.2.2.2.2.2.2 = some (0, (.aload_n 0), 1, 0, 0) := by decide +kernel
theorem gx247_1 : aF 1 zM247.2.2.2.2.2.2.2 = some (1, (.iload_n 1), 1, 0, 0) := by decide +kernel
theorem gx247_2 : aF 2 zM247.2.2.2.2.2.2.2 = some (2, (.invokevirtual 322), 3, 203, 0) := by decide +kernel
theorem gx247_5 : aF 5 zM247.2.2.2.2.2.2.2 = some (5, (.ifCond .eq 17), 3, 22, 0) := by decide +kernel
theorem gx247_22 : aF 22 zM247.2.2.2.2.2.2.2 = some (22, (.iconst (-1)), 1, 0, 0) := by decide +kernel
theorem gx247_23 : aF 23 zM247.2.2.2.2.2.2.2 = some (23, .ireturn, 1, 0, 0) := by decide +kernel
theorem gx247_8 : aF 8 zM247.2.2.2.2.2.2.2 = some (8, (.iload_n 2), 1, 0, 0) := by decide +kernel
theorem gx247_9 : aF 9 zM247.2.2.2.2.2.2.2 = some (9, (.invokestatic 372), 3, 198, 0) := by decide +kernel
theorem gx247_12 : aF 12 zM247.2.2.2.2.2.2.2 = some (12, (.ifCond .eq 10), 3, 22, 0) := by decide +kernel
theorem gx247_15 : aF 15 zM247.2.2.2.2.2.2.2 = some (15, (.iload_n 3), 1, 0, 0) := by decide +kernel
theorem gx247_16 : aF 16 zM247.2.2.2.2.2.2.2 = some (16, (.invokestatic 382), 3, 318, 0) := by decide +kernel
theorem gx247_19 : aF 19 zM247.2.2.2.2.2.2.2 = some (19, (.ifCond .ne 5), 3, 24, 0) := by decide +kernel
theorem gx247_24 : aF 24 zM247.2.2.2.2.2.2.2 = some (24, (.aload_n 0), 1, 0, 0) := by decide +kernel
theorem gx247_25 : aF 25 zM247.2.2.2.2.2.2.2 = some (25, (.getfield 243), 3, 12, 97) := by decide +kernel
theorem gx247_28 : aF 28 zM247.2.2.2.2.2.2.2 = some (28, (.iload_n 3), 1, 0, 0) := by decide +kernel
theorem gx247_29 : aF 29 zM247.2.2.2.2.2.2.2 = some (29, .iaload, 1, 0, 0) := by decide +kernel
theorem gx247_30 : aF 30 zM247.2.2.2.2.2.2.2 = some (30, (.iconst (-1)), 1, 0, 0) := by decide +kernel
theorem gx247_31 : aF 31 zM247.2.2.2.2.2.2.2 = some (31, (.if_icmp .eq 17), 3, 48, 0) := by decide +kernel
theorem gx247_48 : aF 48 zM247.2.2.2.2.2.2.2 = some (48, (.iconst 0), 1, 0, 0) := by decide +kernel
theorem gx247_49 : aF 49 zM247.2.2.2.2.2.2.2 = some (49, (.istore 5), 2, 0, 0) := by decide +kernel
theorem gx247_51 : aF 51 zM247.2.2.2.2.2.2.2 = some (51, (.aload_n 0), 1, 0, 0) := by decide +kernel
theorem gx247_52 : aF 52 zM247.2.2.2.2.2.2.2 = some (52, (.getfield 243), 3, 12, 97) := by decide +kernel
theorem gx247_55 : aF 55 zM247.2.2.2.2.2.2.2 = some (55, (.iload_n 3), 1, 0, 0) := by decide +kernel
theorem gx247_56 : aF 56 zM247.2.2.2.2.2.2.2 = some (56, .iaload, 1, 0, 0) := by decide +kernel
theorem gx247_57 : aF 57 zM247.2.2.2.2.2.2.2 = some (57, (.iconst (-1)), 1, 0, 0) := by decide +kernel
theorem gx247_58 : aF 58 zM247.2.2.2.2.2.2.2 = some (58, (.if_icmp .ne 7), 3, 65, 0) := by decide +kernel
theorem gx247_65 : aF 65 zM247.2.2.2.2.2.2.2 = some (65, (.iconst 0), 1, 0, 0) := by decide +kernel
theorem gx247_66 : aF 66 zM247.2.2.2.2.2.2.2 = some (66, (.istore 6), 2, 0, 0) := by decide +kernel
theorem gx247_68 : aF 68 zM247.2.2.2.2.2.2.2 = some (68, (.iconst 0), 1, 0, 0) := by decide +kernel
theorem gx247_69 : aF 69 zM247.2.2.2.2.2.2.2 = some (69, (.istore 7), 2, 0, 0) := by decide +kernel
theorem gx247_61 : aF 61 zM247.2.2.2.2.2.2.2 = some (61, (.iconst 1), 1, 0, 0) := by decide +kernel
theorem gx247_62 : aF 62 zM247.2.2.2.2.2.2.2 = some (62, (.goto 4), 3, 66, 0) := by decide +kernel
theorem gx247_34 : aF 34 zM247.2.2.2.2.2.2.2 = some (34, (.aload_n 0), 1, 0, 0) := by decide +kernel
theorem gx247_35 : aF 35 zM247.2.2.2.2.2.2.2 = some (35, (.getfield 243), 3, 12, 97) := by decide +kernel
theorem gx247_38 : aF 38 zM247.2.2.2.2.2.2.2 = some (38, (.iload_n 3), 1, 0, 0) := by decide +kernel
theorem gx247_39 : aF 39 zM247.2.2.2.2.2.2.2 = some (39, .iaload, 1, 0, 0) := by decide +kernel
theorem gx247_40 : aF 40 zM247.2.2.2.2.2.2.2 = some (40, (.bipush (-2)), 2, 0, 0) := by decide +kernel
theorem gx247_42 : aF 42 zM247.2.2.2.2.2.2.2 = some (42, (.if_icmp .eq 6), 3, 48, 0) := by decide +kernel
theorem gx247_45 : aF 45 zM247.2.2.2.2.2.2.2 = some (45, (.bipush (-12)), 2, 0, 0) := by decide +kernel
theorem gx247_47 : aF 47 zM247.2.2.2.2.2.2.2 = some (47, .ireturn, 1, 0, 0) := by decide +kernel
theorem gx247_71 : aF 71 zM247.2.2.2.2.2.2.2 = some (71, (.iload 7), 2, 0, 0) := by decide +kernel
theorem gx247_73 : aF 73 zM247.2.2.2.2.2.2.2 = some (73, (.bipush 6), 2, 0, 0) := by decide +kernel
theorem gx247_75 : aF 75 zM247.2.2.2.2.2.2.2 = some (75, (.if_icmp .ge 140), 3, 215, 0) := by decide +kernel
theorem gx247_215 : aF 215 zM247.2.2.2.2.2.2.2 = some (215, (.iload 5), 2, 0, 0) := by decide +kernel
theorem gx247_217 : aF 217 zM247.2.2.2.2.2.2.2 = some (217, .ireturn, 1, 0, 0) := by decide +kernel
theorem gx247_78 : aF 78 zM247.2.2.2.2.2.2.2 = some (78, (.bipush 60), 2, 0, 0) := by decide +kernel
theorem gx247_80 : aF 80 zM247.2.2.2.2.2.2.2 = some (80, (.iload_n 1), 1, 0, 0) := by decide +kernel
theorem gx247_81 : aF 81 zM247.2.2.2.2.2.2.2 = some (81, .imul, 1, 0, 0) := by decide +kernel
theorem gx247_82 : aF 82 zM247.2.2.2.2.2.2.2 = some (82, (.bipush 6), 2, 0, 0) := by decide +kernel
theorem gx247_84 : aF 84 zM247.2.2.2.2.2.2.2 = some (84, (.iload_n 2), 1, 0, 0) := by decide +kernel
theorem gx247_85 : aF 85 zM247.2.2.2.2.2.2.2 = some (85, .imul, 1, 0, 0) := by decide +kernel
theorem gx247_86 : aF 86 zM247.2.2.2.2.2.2.2 = some (86, .iadd, 1, 0, 0) := by decide +kernel
theorem gx247_87 : aF 87 zM247.2.2.2.2.2.2.2 = some (87, (.iload 7), 2, 0, 0) := by decide +kernel
theorem gx247_89 : aF 89 zM247.2.2.2.2.2.2.2 = some (89, .iadd, 1, 0, 0) := by decide +kernel
theorem gx247_90 : aF 90 zM247.2.2.2.2.2.2.2 = some (90, (.istore 8), 2, 0, 0) := by decide +kernel
theorem gx247_92 : aF 92 zM247.2.2.2.2.2.2.2 = some (92, (.iload 4), 2, 0, 0) := by decide +kernel
theorem gx247_94 : aF 94 zM247.2.2.2.2.2.2.2 = some (94, .i2l, 1, 0, 0) := by decide +kernel
theorem gx247_95 : aF 95 zM247.2.2.2.2.2.2.2 = some (95, (.iload 7), 2, 0, 0) := by decide +kernel
theorem gx247_97 : aF 97 zM247.2.2.2.2.2.2.2 = some (97, .i2l, 1, 0, 0) := by decide +kernel
theorem gx247_98 : aF 98 zM247.2.2.2.2.2.2.2 = some (98, .ladd, 1, 0, 0) := by decide +kernel
theorem gx247_99 : aF 99 zM247.2.2.2.2.2.2.2 = some (99, (.lstore 9), 2, 0, 0) := by decide +kernel
theorem gx247_101 : aF 101 zM247.2.2.2.2.2.2.2 = some (101, (.iload 6), 2, 0, 0) := by decide +kernel
theorem gx247_103 : aF 103 zM247.2.2.2.2.2.2.2 = some (103, (.ifCond .ne 23), 3, 126, 0) := by decide +kernel
theorem gx247_126 : aF 126 zM247.2.2.2.2.2.2.2 = some (126, (.iconst 1), 1, 0, 0) := by decide +kernel
theorem gx247_127 : aF 127 zM247.2.2.2.2.2.2.2 = some (127, (.goto 4), 3, 131, 0) := by decide +kernel
theorem gx247_131 : aF 131 zM247.2.2.2.2.2.2.2 = some (131, (.istore 6), 2, 0, 0) := by decide +kernel
theorem gx247_133 : aF 133 zM247.2.2.2.2.2.2.2 = some (133, (.aload_n 0), 1, 0, 0) := by decide +kernel
theorem gx247_134 : aF 134 zM247.2.2.2.2.2.2.2 = some (134, (.getfield 142), 3, 12, 51) := by decide +kernel
theorem gx247_137 : aF 137 zM247.2.2.2.2.2.2.2 = some (137, (.iload 8), 2, 0, 0) := by decide +kernel
theorem gx247_139 : aF 139 zM247.2.2.2.2.2.2.2 = some (139, (.iload 6), 2, 0, 0) := by decide +kernel
theorem gx247_141 : aF 141 zM247.2.2.2.2.2.2.2 = some (141, (.ifCond .ne 29), 3, 170, 0) := by decide +kernel
theorem gx247_170 : aF 170 zM247.2.2.2.2.2.2.2 = some (170, (.iconst 0), 1, 0, 0) := by decide +kernel
theorem gx247_171 : aF 171 zM247.2.2.2.2.2.2.2 = some (171, .bastore, 1, 0, 0) := by decide +kernel
theorem gx247_172 : aF 172 zM247.2.2.2.2.2.2.2 = some (172, (.aload_n 0), 1, 0, 0) := by decide +kernel
theorem gx247_173 : aF 173 zM247.2.2.2.2.2.2.2 = some (173, (.getfield 142), 3, 12, 51) := by decide +kernel
theorem gx247_176 : aF 176 zM247.2.2.2.2.2.2.2 = some (176, (.iload 8), 2, 0, 0) := by decide +kernel
theorem gx247_178 : aF 178 zM247.2.2.2.2.2.2.2 = some (178, .baload, 1, 0, 0) := by decide +kernel
theorem gx247_179 : aF 179 zM247.2.2.2.2.2.2.2 = some (179, (.ifCond .ne 6), 3, 185, 0) := by decide +kernel
theorem gx247_185 : aF 185 zM247.2.2.2.2.2.2.2 = some (185, (.aload_n 0), 1, 0, 0) := by decide +kernel
theorem gx247_186 : aF 186 zM247.2.2.2.2.2.2.2 = some (186, (.getfield 139), 3, 12, 50) := by decide +kernel
theorem gx247_189 : aF 189 zM247.2.2.2.2.2.2.2 = some (189, (.iload 8), 2, 0, 0) := by decide +kernel
theorem gx247_191 : aF 191 zM247.2.2.2.2.2.2.2 = some (191, (.aload_n 0), 1, 0, 0) := by decide +kernel
theorem gx247_192 : aF 192 zM247.2.2.2.2.2.2.2 = some (192, (.getfield 249), 3, 12, 99) := by decide +kernel
theorem gx247_195 : aF 195 zM247.2.2.2.2.2.2.2 = some (195, (.bipush 60), 2, 0, 0) := by decide +kernel
theorem gx247_197 : aF 197 zM247.2.2.2.2.2.2.2 = some (197, (.iload_n 3), 1, 0, 0) := by decide +kernel
theorem gx247_198 : aF 198 zM247.2.2.2.2.2.2.2 = some (198, .imul, 1, 0, 0) := by decide +kernel
theorem gx247_199 : aF 199 zM247.2.2.2.2.2.2.2 = some (199, (.lload 9), 2, 0, 0) := by decide +kernel
theorem gx247_201 : aF 201 zM247.2.2.2.2.2.2.2 = some (201, .l2i, 1, 0, 0) := by decide +kernel
theorem gx247_202 : aF 202 zM247.2.2.2.2.2.2.2 = some (202, .iadd, 1, 0, 0) := by decide +kernel
theorem gx247_203 : aF 203 zM247.2.2.2.2.2.2.2 = some (203, .laload, 1, 0, 0) := by decide +kernel
theorem gx247_204 : aF 204 zM247.2.2.2.2.2.2.2 = some (204, .l2i, 1, 0, 0) := by decide +kernel
theorem gx247_205 : aF 205 zM247.2.2.2.2.2.2.2 = some (205, .iastore, 1, 0, 0) := by decide +kernel
theorem gx247_206 : aF 206 zM247.2.2.2.2.2.2.2 = some (206, (.iinc 5 1), 3, 0, 0) := by decide +kernel
theorem gx247_209 : aF 209 zM247.2.2.2.2.2.2.2 = some (209, (.iinc 7 1), 3, 0, 0) := by decide +kernel
theorem gx247_212 : aF 212 zM247.2.2.2.2.2.2.2 = some (212, (.goto (-141)), 3, 71, 0) := by decide +kernel
theorem gx247_182 : aF 182 zM247.2.2.2.2.2.2.2 = some (182, (.goto 27), 3, 209, 0) := by decide +kernel
theorem gx247_106 : aF 106 zM247.2.2.2.2.2.2.2 = some (106, (.lload 9), 2, 0, 0) := by decide +kernel
theorem gx247_108 : aF 108 zM247.2.2.2.2.2.2.2 = some (108, (.lconst 0), 1, 0, 0) := by decide +kernel
theorem gx247_109 : aF 109 zM247.2.2.2.2.2.2.2 = some (109, .lcmp, 1, 0, 0) := by decide +kernel
theorem gx247_110 : aF 110 zM247.2.2.2.2.2.2.2 = some (110, (.ifCond .lt 16), 3, 126, 0) := by decide +kernel
theorem gx247_113 : aF 113 zM247.2.2.2.2.2.2.2 = some (113, (.lload 9), 2, 0, 0) := by decide +kernel
theorem gx247_115 : aF 115 zM247.2.2.2.2.2.2.2 = some (115, (.aload_n 0), 1, 0, 0) := by decide +kernel
theorem gx247_116 : aF 116 zM247.2.2.2.2.2.2.2 = some (116, (.getfield 246), 3, 12, 98) := by decide +kernel
theorem gx247_119 : aF 119 zM247.2.2.2.2.2.2.2 = some (119, (.iload_n 3), 1, 0, 0) := by decide +kernel
theorem gx247_120 : aF 120 zM247.2.2.2.2.2.2.2 = some (120, .iaload, 1, 0, 0) := by decide +kernel
theorem gx247_121 : aF 121 zM247.2.2.2.2.2.2.2 = some (121, .i2l, 1, 0, 0) := by decide +kernel
theorem gx247_122 : aF 122 zM247.2.2.2.2.2.2.2 = some (122, .lcmp, 1, 0, 0) := by decide +kernel
theorem gx247_123 : aF 123 zM247.2.2.2.2.2.2.2 = some (123, (.ifCond .lt 7), 3, 130, 0) := by decide +kernel
theorem gx247_130 : aF 130 zM247.2.2.2.2.2.2.2 = some (130, (.iconst 0), 1, 0, 0) := by decide +kernel
theorem gx247_144 : aF 144 zM247.2.2.2.2.2.2.2 = some (144, (.aload_n 0), 1, 0, 0) := by decide +kernel
theorem gx247_145 : aF 145 zM247.2.2.2.2.2.2.2 = some (145, (.getfield 249), 3, 12, 99) := by decide +kernel
theorem gx247_148 : aF 148 zM247.2.2.2.2.2.2.2 = some (148, (.bipush 60), 2, 0, 0) := by decide +kernel
theorem gx247_150 : aF 150 zM247.2.2.2.2.2.2.2 = some (150, (.iload_n 3), 1, 0, 0) := by decide +kernel
theorem gx247_151 : aF 151 zM247.2.2.2.2.2.2.2 = some (151, .imul, 1, 0, 0) := by decide +kernel
theorem gx247_152 : aF 152 zM247.2.2.2.2.2.2.2 = some (152, (.lload 9), 2, 0, 0) := by decide +kernel
theorem gx247_154 : aF 154 zM247.2.2.2.2.2.2.2 = some (154, .l2i, 1, 0, 0) := by decide +kernel
theorem gx247_155 : aF 155 zM247.2.2.2.2.2.2.2 = some (155, .iadd, 1, 0, 0) := by decide +kernel
theorem gx247_156 : aF 156 zM247.2.2.2.2.2.2.2 = some (156, .laload, 1, 0, 0) := by decide +kernel
theorem gx247_157 : aF 157 zM247.2.2.2.2.2.2.2 = some (157, (.aload_n 0), 1, 0, 0) := by decide +kernel
theorem gx247_158 : aF 158 zM247.2.2.2.2.2.2.2 = some (158, (.getfield 145), 3, 12, 52) := by decide +kernel
theorem gx247_161 : aF 161 zM247.2.2.2.2.2.2.2 = some (161, .i2l, 1, 0, 0) := by decide +kernel
theorem gx247_162 : aF 162 zM247.2.2.2.2.2.2.2 = some (162, .lcmp, 1, 0, 0) := by decide +kernel
theorem gx247_163 : aF 163 zM247.2.2.2.2.2.2.2 = some (163, (.ifCond .eq 7), 3, 170, 0) := by decide +kernel
theorem gx247_166 : aF 166 zM247.2.2.2.2.2.2.2 = some (166, (.iconst 1), 1, 0, 0) := by decide +kernel
theorem gx247_167 : aF 167 zM247.2.2.2.2.2.2.2 = some (167, (.goto 4), 3, 171, 0) := by decide +kernel
section PT3
variable {n : Nat} {X : aX} {M : aM} {Q : Option Value → aH → Prop} {pc pc' len a b : Nat} {l : aL} {st r : List Value} {h : aH} {A B : Int}
theorem pt_alenD {o t N : Nat} {y : (Nat → Int32) ⊕ (Nat → Int64) ⊕ (Nat → UInt32) ⊕ (Nat → UInt64) ⊕ (Nat → Option Nat)} (hf : aF pc M.2.2.2.2.2.2.2 = some (pc, .arraylength, len, a, b)) (hc : h.1[o]? = some (.inl (t, N, y))) (hb : N < 2147483648) (k : ∀ x : Int32, x.toInt = (N : Int) → Pt n X M (pc + 1) l (.int x :: r) h Q) : Pt (n + 1) X M pc l (.ref o :: r) h Q := pt_s fun m hm d v h2 e => by
  have en : (Int32.ofNat N).toInt = (N : Int) := Int32.toInt_ofNat_of_lt (by omega)
  rw [arun_p hf rfl] at e
  simp only [aX1] at e
  split at e
  · rename_i N0 y0 hc0
    have q := hc.symm.trans hc0
    cases q
    exact k _ en m hm d v h2 e
  · rename_i N0 y0 hc0
    have q := hc.symm.trans hc0
    cases q
    exact k _ en m hm d v h2 e
  · cases e
end PT3


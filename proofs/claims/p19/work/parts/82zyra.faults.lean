-- ===== 82zyra.faults: 3 texts =====
section
-- ===== seasons: the model's faults =====
theorem tl_107 : tkL 107 0 576 = true := by decide +kernel
theorem tl_108 : tkL 108 2 576 = true := by decide +kernel
theorem tl_109 : tkL 109 2 576 = true := by decide +kernel
theorem tl_103 : tkL 103 2 300 = true := by decide +kernel
theorem tl_110 : tkL 110 2 576 = true := by decide +kernel
theorem tl_104 : tkL 104 0 300 = true := by decide +kernel
theorem tl_106 : tkL 106 0 300 = true := by decide +kernel
theorem tl_105 : tkL 105 0 300 = true := by decide +kernel
theorem tr_72_44 : tkR 72 44 107 = true := by decide +kernel
theorem tr_72_45 : tkR 72 45 108 = true := by decide +kernel
theorem tr_72_46 : tkR 72 46 109 = true := by decide +kernel
theorem tr_72_40 : tkR 72 40 103 = true := by decide +kernel
theorem tr_72_47 : tkR 72 47 110 = true := by decide +kernel
theorem tr_72_41 : tkR 72 41 104 = true := by decide +kernel
theorem tr_72_43 : tkR 72 43 106 = true := by decide +kernel
theorem tr_72_42 : tkR 72 42 105 = true := by decide +kernel
theorem gx236_0 : aF 0 zM236.2.2.2.2.2.2.2 = some (0, (.iconst 0), 1, 0, 0) := by decide +kernel
theorem gx236_1 : aF 1 zM236.2.2.2.2.2.2.2 = some (1, (.istore_n 3), 1, 0, 0) := by decide +kernel
theorem gx236_2 : aF 2 zM236.2.2.2.2.2.2.2 = some (2, (.iload_n 3), 1, 0, 0) := by decide +kernel
theorem gx236_3 : aF 3 zM236.2.2.2.2.2.2.2 = some (3, (.sipush 576), 3, 0, 0) := by decide +kernel
theorem gx236_6 : aF 6 zM236.2.2.2.2.2.2.2 = some (6, (.if_icmp .ge 43), 3, 49, 0) := by decide +kernel
theorem gx236_49 : aF 49 zM236.2.2.2.2.2.2.2 = some (49, (.iconst 0), 1, 0, 0) := by decide +kernel
theorem gx236_50 : aF 50 zM236.2.2.2.2.2.2.2 = some (50, (.istore_n 3), 1, 0, 0) := by decide +kernel
theorem gx236_9 : aF 9 zM236.2.2.2.2.2.2.2 = some (9, (.aload_n 0), 1, 0, 0) := by decide +kernel
theorem gx236_10 : aF 10 zM236.2.2.2.2.2.2.2 = some (10, (.getfield 121), 3, 12, 44) := by decide +kernel
theorem gx236_13 : aF 13 zM236.2.2.2.2.2.2.2 = some (13, (.iload_n 3), 1, 0, 0) := by decide +kernel
theorem gx236_14 : aF 14 zM236.2.2.2.2.2.2.2 = some (14, (.iconst (-1)), 1, 0, 0) := by decide +kernel
theorem gx236_15 : aF 15 zM236.2.2.2.2.2.2.2 = some (15, .iastore, 1, 0, 0) := by decide +kernel
theorem gx236_16 : aF 16 zM236.2.2.2.2.2.2.2 = some (16, (.aload_n 0), 1, 0, 0) := by decide +kernel
theorem gx236_17 : aF 17 zM236.2.2.2.2.2.2.2 = some (17, (.getfield 124), 3, 12, 45) := by decide +kernel
theorem gx236_20 : aF 20 zM236.2.2.2.2.2.2.2 = some (20, (.iload_n 3), 1, 0, 0) := by decide +kernel
theorem gx236_21 : aF 21 zM236.2.2.2.2.2.2.2 = some (21, (.iconst 0), 1, 0, 0) := by decide +kernel
theorem gx236_22 : aF 22 zM236.2.2.2.2.2.2.2 = some (22, .bastore, 1, 0, 0) := by decide +kernel
theorem gx236_23 : aF 23 zM236.2.2.2.2.2.2.2 = some (23, (.aload_n 0), 1, 0, 0) := by decide +kernel
theorem gx236_24 : aF 24 zM236.2.2.2.2.2.2.2 = some (24, (.getfield 127), 3, 12, 46) := by decide +kernel
theorem gx236_27 : aF 27 zM236.2.2.2.2.2.2.2 = some (27, (.iload_n 3), 1, 0, 0) := by decide +kernel
theorem gx236_28 : aF 28 zM236.2.2.2.2.2.2.2 = some (28, (.aload_n 0), 1, 0, 0) := by decide +kernel
theorem gx236_29 : aF 29 zM236.2.2.2.2.2.2.2 = some (29, (.iload_n 3), 1, 0, 0) := by decide +kernel
theorem gx236_30 : aF 30 zM236.2.2.2.2.2.2.2 = some (30, (.bipush 24), 2, 0, 0) := by decide +kernel
theorem gx236_32 : aF 32 zM236.2.2.2.2.2.2.2 = some (32, .irem, 1, 0, 0) := by decide +kernel
theorem gx236_33 : aF 33 zM236.2.2.2.2.2.2.2 = some (33, (.iload_n 3), 1, 0, 0) := by decide +kernel
theorem gx236_34 : aF 34 zM236.2.2.2.2.2.2.2 = some (34, (.bipush 24), 2, 0, 0) := by decide +kernel
theorem gx236_36 : aF 36 zM236.2.2.2.2.2.2.2 = some (36, .idiv, 1, 0, 0) := by decide +kernel
theorem gx236_37 : aF 37 zM236.2.2.2.2.2.2.2 = some (37, (.iload_n 1), 1, 0, 0) := by decide +kernel
theorem gx236_38 : aF 38 zM236.2.2.2.2.2.2.2 = some (38, (.iload_n 2), 1, 0, 0) := by decide +kernel
theorem gx236_39 : aF 39 zM236.2.2.2.2.2.2.2 = some (39, (.invokevirtual 345), 3, 233, 0) := by decide +kernel
theorem gx236_42 : aF 42 zM236.2.2.2.2.2.2.2 = some (42, .bastore, 1, 0, 0) := by decide +kernel
theorem gx236_43 : aF 43 zM236.2.2.2.2.2.2.2 = some (43, (.iinc 3 1), 3, 0, 0) := by decide +kernel
theorem gx236_46 : aF 46 zM236.2.2.2.2.2.2.2 = some (46, (.goto (-44)), 3, 2, 0) := by decide +kernel
theorem gx236_51 : aF 51 zM236.2.2.2.2.2.2.2 = some (51, (.iload_n 3), 1, 0, 0) := by decide +kernel
theorem gx236_52 : aF 52 zM236.2.2.2.2.2.2.2 = some (52, (.aload_n 0), 1, 0, 0) := by decide +kernel
theorem gx236_53 : aF 53 zM236.2.2.2.2.2.2.2 = some (53, (.getfield 336), 3, 12, 19) := by decide +kernel
theorem gx236_56 : aF 56 zM236.2.2.2.2.2.2.2 = some (56, (.if_icmp .ge 115), 3, 171, 0) := by decide +kernel
theorem gx236_171 : aF 171 zM236.2.2.2.2.2.2.2 = some (171, .return_, 1, 0, 0) := by decide +kernel
theorem gx236_59 : aF 59 zM236.2.2.2.2.2.2.2 = some (59, (.aload_n 0), 1, 0, 0) := by decide +kernel
theorem gx236_60 : aF 60 zM236.2.2.2.2.2.2.2 = some (60, (.getfield 108), 3, 12, 40) := by decide +kernel
theorem gx236_63 : aF 63 zM236.2.2.2.2.2.2.2 = some (63, (.iload_n 3), 1, 0, 0) := by decide +kernel
theorem gx236_64 : aF 64 zM236.2.2.2.2.2.2.2 = some (64, .baload, 1, 0, 0) := by decide +kernel
theorem gx236_65 : aF 65 zM236.2.2.2.2.2.2.2 = some (65, (.ifCond .eq 100), 3, 165, 0) := by decide +kernel
theorem gx236_165 : aF 165 zM236.2.2.2.2.2.2.2 = some (165, (.iinc 3 1), 3, 0, 0) := by decide +kernel
theorem gx236_168 : aF 168 zM236.2.2.2.2.2.2.2 = some (168, (.goto (-117)), 3, 51, 0) := by decide +kernel
theorem gx236_68 : aF 68 zM236.2.2.2.2.2.2.2 = some (68, (.aload_n 0), 1, 0, 0) := by decide +kernel
theorem gx236_69 : aF 69 zM236.2.2.2.2.2.2.2 = some (69, (.iload_n 3), 1, 0, 0) := by decide +kernel
theorem gx236_70 : aF 70 zM236.2.2.2.2.2.2.2 = some (70, (.invokevirtual 342), 3, 229, 0) := by decide +kernel
theorem gx236_73 : aF 73 zM236.2.2.2.2.2.2.2 = some (73, (.iload_n 1), 1, 0, 0) := by decide +kernel
theorem gx236_74 : aF 74 zM236.2.2.2.2.2.2.2 = some (74, (.if_icmp .eq 6), 3, 80, 0) := by decide +kernel
theorem gx236_80 : aF 80 zM236.2.2.2.2.2.2.2 = some (80, (.iconst 0), 1, 0, 0) := by decide +kernel
theorem gx236_81 : aF 81 zM236.2.2.2.2.2.2.2 = some (81, (.istore 4), 2, 0, 0) := by decide +kernel
theorem gx236_77 : aF 77 zM236.2.2.2.2.2.2.2 = some (77, (.goto 88), 3, 165, 0) := by decide +kernel
theorem gx236_83 : aF 83 zM236.2.2.2.2.2.2.2 = some (83, (.iload 4), 2, 0, 0) := by decide +kernel
theorem gx236_85 : aF 85 zM236.2.2.2.2.2.2.2 = some (85, (.sipush 576), 3, 0, 0) := by decide +kernel
theorem gx236_88 : aF 88 zM236.2.2.2.2.2.2.2 = some (88, (.if_icmp .ge 77), 3, 165, 0) := by decide +kernel
theorem gx236_91 : aF 91 zM236.2.2.2.2.2.2.2 = some (91, (.aload_n 0), 1, 0, 0) := by decide +kernel
theorem gx236_92 : aF 92 zM236.2.2.2.2.2.2.2 = some (92, (.aload_n 0), 1, 0, 0) := by decide +kernel
theorem gx236_93 : aF 93 zM236.2.2.2.2.2.2.2 = some (93, (.getfield 55), 3, 12, 21) := by decide +kernel
theorem gx236_96 : aF 96 zM236.2.2.2.2.2.2.2 = some (96, (.iload_n 3), 1, 0, 0) := by decide +kernel
theorem gx236_97 : aF 97 zM236.2.2.2.2.2.2.2 = some (97, .iaload, 1, 0, 0) := by decide +kernel
theorem gx236_98 : aF 98 zM236.2.2.2.2.2.2.2 = some (98, (.iload 4), 2, 0, 0) := by decide +kernel
theorem gx236_100 : aF 100 zM236.2.2.2.2.2.2.2 = some (100, (.invokevirtual 349), 3, 235, 0) := by decide +kernel
theorem gx236_103 : aF 103 zM236.2.2.2.2.2.2.2 = some (103, (.ifCond .ne 6), 3, 109, 0) := by decide +kernel
theorem gx236_109 : aF 109 zM236.2.2.2.2.2.2.2 = some (109, (.aload_n 0), 1, 0, 0) := by decide +kernel
theorem gx236_110 : aF 110 zM236.2.2.2.2.2.2.2 = some (110, (.getfield 121), 3, 12, 44) := by decide +kernel
theorem gx236_113 : aF 113 zM236.2.2.2.2.2.2.2 = some (113, (.iload 4), 2, 0, 0) := by decide +kernel
theorem gx236_115 : aF 115 zM236.2.2.2.2.2.2.2 = some (115, .iaload, 1, 0, 0) := by decide +kernel
theorem gx236_116 : aF 116 zM236.2.2.2.2.2.2.2 = some (116, (.ifCond .ge 19), 3, 135, 0) := by decide +kernel
theorem gx236_135 : aF 135 zM236.2.2.2.2.2.2.2 = some (135, (.aload_n 0), 1, 0, 0) := by decide +kernel
theorem gx236_136 : aF 136 zM236.2.2.2.2.2.2.2 = some (136, (.getfield 121), 3, 12, 44) := by decide +kernel
theorem gx236_139 : aF 139 zM236.2.2.2.2.2.2.2 = some (139, (.iload 4), 2, 0, 0) := by decide +kernel
theorem gx236_141 : aF 141 zM236.2.2.2.2.2.2.2 = some (141, .iaload, 1, 0, 0) := by decide +kernel
theorem gx236_142 : aF 142 zM236.2.2.2.2.2.2.2 = some (142, (.aload_n 0), 1, 0, 0) := by decide +kernel
theorem gx236_143 : aF 143 zM236.2.2.2.2.2.2.2 = some (143, (.getfield 52), 3, 12, 20) := by decide +kernel
theorem gx236_146 : aF 146 zM236.2.2.2.2.2.2.2 = some (146, (.iload_n 3), 1, 0, 0) := by decide +kernel
theorem gx236_147 : aF 147 zM236.2.2.2.2.2.2.2 = some (147, .iaload, 1, 0, 0) := by decide +kernel
theorem gx236_148 : aF 148 zM236.2.2.2.2.2.2.2 = some (148, (.if_icmp .eq 11), 3, 159, 0) := by decide +kernel
theorem gx236_159 : aF 159 zM236.2.2.2.2.2.2.2 = some (159, (.iinc 4 1), 3, 0, 0) := by decide +kernel
theorem gx236_162 : aF 162 zM236.2.2.2.2.2.2.2 = some (162, (.goto (-79)), 3, 83, 0) := by decide +kernel
theorem gx236_151 : aF 151 zM236.2.2.2.2.2.2.2 = some (151, (.aload_n 0), 1, 0, 0) := by decide +kernel
theorem gx236_152 : aF 152 zM236.2.2.2.2.2.2.2 = some (152, (.getfield 124), 3, 12, 45) := by decide +kernel
theorem gx236_155 : aF 155 zM236.2.2.2.2.2.2.2 = some (155, (.iload 4), 2, 0, 0) := by decide +kernel
theorem gx236_157 : aF 157 zM236.2.2.2.2.2.2.2 = some (157, (.iconst 1), 1, 0, 0) := by decide +kernel
theorem gx236_158 : aF 158 zM236.2.2.2.2.2.2.2 = some (158, .bastore, 1, 0, 0) := by decide +kernel
theorem gx236_119 : aF 119 zM236.2.2.2.2.2.2.2 = some (119, (.aload_n 0), 1, 0, 0) := by decide +kernel
theorem gx236_120 : aF 120 zM236.2.2.2.2.2.2.2 = some (120, (.getfield 121), 3, 12, 44) := by decide +kernel
theorem gx236_123 : aF 123 zM236.2.2.2.2.2.2.2 = some (123, (.iload 4), 2, 0, 0) := by decide +kernel
theorem gx236_125 : aF 125 zM236.2.2.2.2.2.2.2 = some (125, (.aload_n 0), 1, 0, 0) := by decide +kernel
theorem gx236_126 : aF 126 zM236.2.2.2.2.2.2.2 = some (126, (.getfield 52), 3, 12, 20) := by decide +kernel
theorem gx236_129 : aF 129 zM236.2.2.2.2.2.2.2 = some (129, (.iload_n 3), 1, 0, 0) := by decide +kernel
theorem gx236_130 : aF 130 zM236.2.2.2.2.2.2.2 = some (130, .iaload, 1, 0, 0) := by decide +kernel
theorem gx236_131 : aF 131 zM236.2.2.2.2.2.2.2 = some (131, .iastore, 1, 0, 0) := by decide +kernel
theorem gx236_132 : aF 132 zM236.2.2.2.2.2.2.2 = some (132, (.goto 27), 3, 159, 0) := by decide +kernel
theorem gx236_106 : aF 106 zM236.2.2.2.2.2.2.2 = some (106, (.goto 53), 3, 159, 0) := by decide +kernel
theorem gx238_0 : aF 0 zM238.2.2.2.2.2.2.2 = some (0, (.iconst 0), 1, 0, 0) := by decide +kernel
theorem gx238_1 : aF 1 zM238.2.2.2.2.2.2.2 = some (1, (.istore_n 3), 1, 0, 0) := by decide +kernel
theorem gx238_2 : aF 2 zM238.2.2.2.2.2.2.2 = some (2, (.iload_n 3), 1, 0, 0) := by decide +kernel
theorem gx238_3 : aF 3 zM238.2.2.2.2.2.2.2 = some (3, (.sipush 576), 3, 0, 0) := by decide +kernel
theorem gx238_6 : aF 6 zM238.2.2.2.2.2.2.2 = some (6, (.if_icmp .ge 16), 3, 22, 0) := by decide +kernel
theorem gx238_22 : aF 22 zM238.2.2.2.2.2.2.2 = some (22, (.iconst 0), 1, 0, 0) := by decide +kernel
theorem gx238_23 : aF 23 zM238.2.2.2.2.2.2.2 = some (23, (.istore_n 3), 1, 0, 0) := by decide +kernel
theorem gx238_9 : aF 9 zM238.2.2.2.2.2.2.2 = some (9, (.aload_n 0), 1, 0, 0) := by decide +kernel
theorem gx238_10 : aF 10 zM238.2.2.2.2.2.2.2 = some (10, (.getfield 130), 3, 12, 47) := by decide +kernel
theorem gx238_13 : aF 13 zM238.2.2.2.2.2.2.2 = some (13, (.iload_n 3), 1, 0, 0) := by decide +kernel
theorem gx238_14 : aF 14 zM238.2.2.2.2.2.2.2 = some (14, (.iconst 0), 1, 0, 0) := by decide +kernel
theorem gx238_15 : aF 15 zM238.2.2.2.2.2.2.2 = some (15, .bastore, 1, 0, 0) := by decide +kernel
theorem gx238_16 : aF 16 zM238.2.2.2.2.2.2.2 = some (16, (.iinc 3 1), 3, 0, 0) := by decide +kernel
theorem gx238_19 : aF 19 zM238.2.2.2.2.2.2.2 = some (19, (.goto (-17)), 3, 2, 0) := by decide +kernel
theorem gx238_24 : aF 24 zM238.2.2.2.2.2.2.2 = some (24, (.iload_n 3), 1, 0, 0) := by decide +kernel
theorem gx238_25 : aF 25 zM238.2.2.2.2.2.2.2 = some (25, (.aload_n 0), 1, 0, 0) := by decide +kernel
theorem gx238_26 : aF 26 zM238.2.2.2.2.2.2.2 = some (26, (.getfield 336), 3, 12, 19) := by decide +kernel
theorem gx238_29 : aF 29 zM238.2.2.2.2.2.2.2 = some (29, (.if_icmp .ge 114), 3, 143, 0) := by decide +kernel
theorem gx238_143 : aF 143 zM238.2.2.2.2.2.2.2 = some (143, (.iconst 0), 1, 0, 0) := by decide +kernel
theorem gx238_144 : aF 144 zM238.2.2.2.2.2.2.2 = some (144, (.istore_n 3), 1, 0, 0) := by decide +kernel
theorem gx238_145 : aF 145 zM238.2.2.2.2.2.2.2 = some (145, (.iconst 0), 1, 0, 0) := by decide +kernel
theorem gx238_146 : aF 146 zM238.2.2.2.2.2.2.2 = some (146, (.istore 4), 2, 0, 0) := by decide +kernel
theorem gx238_148 : aF 148 zM238.2.2.2.2.2.2.2 = some (148, (.iconst 0), 1, 0, 0) := by decide +kernel
theorem gx238_149 : aF 149 zM238.2.2.2.2.2.2.2 = some (149, (.istore 5), 2, 0, 0) := by decide +kernel
theorem gx238_32 : aF 32 zM238.2.2.2.2.2.2.2 = some (32, (.aload_n 0), 1, 0, 0) := by decide +kernel
theorem gx238_33 : aF 33 zM238.2.2.2.2.2.2.2 = some (33, (.getfield 108), 3, 12, 40) := by decide +kernel
theorem gx238_36 : aF 36 zM238.2.2.2.2.2.2.2 = some (36, (.iload_n 3), 1, 0, 0) := by decide +kernel
theorem gx238_37 : aF 37 zM238.2.2.2.2.2.2.2 = some (37, .baload, 1, 0, 0) := by decide +kernel
theorem gx238_38 : aF 38 zM238.2.2.2.2.2.2.2 = some (38, (.ifCond .eq 99), 3, 137, 0) := by decide +kernel
theorem gx238_137 : aF 137 zM238.2.2.2.2.2.2.2 = some (137, (.iinc 3 1), 3, 0, 0) := by decide +kernel
theorem gx238_140 : aF 140 zM238.2.2.2.2.2.2.2 = some (140, (.goto (-116)), 3, 24, 0) := by decide +kernel
theorem gx238_41 : aF 41 zM238.2.2.2.2.2.2.2 = some (41, (.aload_n 0), 1, 0, 0) := by decide +kernel
theorem gx238_42 : aF 42 zM238.2.2.2.2.2.2.2 = some (42, (.iload_n 3), 1, 0, 0) := by decide +kernel
theorem gx238_43 : aF 43 zM238.2.2.2.2.2.2.2 = some (43, (.invokevirtual 342), 3, 229, 0) := by decide +kernel
theorem gx238_46 : aF 46 zM238.2.2.2.2.2.2.2 = some (46, (.iload_n 2), 1, 0, 0) := by decide +kernel
theorem gx238_47 : aF 47 zM238.2.2.2.2.2.2.2 = some (47, (.if_icmp .ne 90), 3, 137, 0) := by decide +kernel
theorem gx238_50 : aF 50 zM238.2.2.2.2.2.2.2 = some (50, (.aload_n 0), 1, 0, 0) := by decide +kernel
theorem gx238_51 : aF 51 zM238.2.2.2.2.2.2.2 = some (51, (.getfield 52), 3, 12, 20) := by decide +kernel
theorem gx238_54 : aF 54 zM238.2.2.2.2.2.2.2 = some (54, (.iload_n 3), 1, 0, 0) := by decide +kernel
theorem gx238_55 : aF 55 zM238.2.2.2.2.2.2.2 = some (55, .iaload, 1, 0, 0) := by decide +kernel
theorem gx238_56 : aF 56 zM238.2.2.2.2.2.2.2 = some (56, (.aload_n 0), 1, 0, 0) := by decide +kernel
theorem gx238_57 : aF 57 zM238.2.2.2.2.2.2.2 = some (57, (.getfield 52), 3, 12, 20) := by decide +kernel
theorem gx238_60 : aF 60 zM238.2.2.2.2.2.2.2 = some (60, (.iload_n 1), 1, 0, 0) := by decide +kernel
theorem gx238_61 : aF 61 zM238.2.2.2.2.2.2.2 = some (61, .iaload, 1, 0, 0) := by decide +kernel
theorem gx238_62 : aF 62 zM238.2.2.2.2.2.2.2 = some (62, (.if_icmp .ne 75), 3, 137, 0) := by decide +kernel
theorem gx238_65 : aF 65 zM238.2.2.2.2.2.2.2 = some (65, (.aload_n 0), 1, 0, 0) := by decide +kernel
theorem gx238_66 : aF 66 zM238.2.2.2.2.2.2.2 = some (66, (.getfield 55), 3, 12, 21) := by decide +kernel
theorem gx238_69 : aF 69 zM238.2.2.2.2.2.2.2 = some (69, (.iload_n 3), 1, 0, 0) := by decide +kernel
theorem gx238_70 : aF 70 zM238.2.2.2.2.2.2.2 = some (70, .iaload, 1, 0, 0) := by decide +kernel
theorem gx238_71 : aF 71 zM238.2.2.2.2.2.2.2 = some (71, (.aload_n 0), 1, 0, 0) := by decide +kernel
theorem gx238_72 : aF 72 zM238.2.2.2.2.2.2.2 = some (72, (.getfield 55), 3, 12, 21) := by decide +kernel
theorem gx238_75 : aF 75 zM238.2.2.2.2.2.2.2 = some (75, (.iload_n 1), 1, 0, 0) := by decide +kernel
theorem gx238_76 : aF 76 zM238.2.2.2.2.2.2.2 = some (76, .iaload, 1, 0, 0) := by decide +kernel
theorem gx238_77 : aF 77 zM238.2.2.2.2.2.2.2 = some (77, (.if_icmp .lt 6), 3, 83, 0) := by decide +kernel
theorem gx238_83 : aF 83 zM238.2.2.2.2.2.2.2 = some (83, (.iconst 0), 1, 0, 0) := by decide +kernel
theorem gx238_84 : aF 84 zM238.2.2.2.2.2.2.2 = some (84, (.istore 4), 2, 0, 0) := by decide +kernel
theorem gx238_80 : aF 80 zM238.2.2.2.2.2.2.2 = some (80, (.goto 57), 3, 137, 0) := by decide +kernel
theorem gx238_86 : aF 86 zM238.2.2.2.2.2.2.2 = some (86, (.iload 4), 2, 0, 0) := by decide +kernel
theorem gx238_88 : aF 88 zM238.2.2.2.2.2.2.2 = some (88, (.sipush 576), 3, 0, 0) := by decide +kernel
theorem gx238_91 : aF 91 zM238.2.2.2.2.2.2.2 = some (91, (.if_icmp .ge 46), 3, 137, 0) := by decide +kernel
theorem gx238_94 : aF 94 zM238.2.2.2.2.2.2.2 = some (94, (.aload_n 0), 1, 0, 0) := by decide +kernel
theorem gx238_95 : aF 95 zM238.2.2.2.2.2.2.2 = some (95, (.getfield 130), 3, 12, 47) := by decide +kernel
theorem gx238_98 : aF 98 zM238.2.2.2.2.2.2.2 = some (98, (.iload 4), 2, 0, 0) := by decide +kernel
theorem gx238_100 : aF 100 zM238.2.2.2.2.2.2.2 = some (100, (.aload_n 0), 1, 0, 0) := by decide +kernel
theorem gx238_101 : aF 101 zM238.2.2.2.2.2.2.2 = some (101, (.getfield 130), 3, 12, 47) := by decide +kernel
theorem gx238_104 : aF 104 zM238.2.2.2.2.2.2.2 = some (104, (.iload 4), 2, 0, 0) := by decide +kernel
theorem gx238_106 : aF 106 zM238.2.2.2.2.2.2.2 = some (106, .baload, 1, 0, 0) := by decide +kernel
theorem gx238_107 : aF 107 zM238.2.2.2.2.2.2.2 = some (107, (.ifCond .ne 18), 3, 125, 0) := by decide +kernel
theorem gx238_125 : aF 125 zM238.2.2.2.2.2.2.2 = some (125, (.iconst 1), 1, 0, 0) := by decide +kernel
theorem gx238_126 : aF 126 zM238.2.2.2.2.2.2.2 = some (126, (.goto 4), 3, 130, 0) := by decide +kernel
theorem gx238_130 : aF 130 zM238.2.2.2.2.2.2.2 = some (130, .bastore, 1, 0, 0) := by decide +kernel
theorem gx238_131 : aF 131 zM238.2.2.2.2.2.2.2 = some (131, (.iinc 4 1), 3, 0, 0) := by decide +kernel
theorem gx238_134 : aF 134 zM238.2.2.2.2.2.2.2 = some (134, (.goto (-48)), 3, 86, 0) := by decide +kernel
theorem gx238_110 : aF 110 zM238.2.2.2.2.2.2.2 = some (110, (.aload_n 0), 1, 0, 0) := by decide +kernel
theorem gx238_111 : aF 111 zM238.2.2.2.2.2.2.2 = some (111, (.aload_n 0), 1, 0, 0) := by decide +kernel
theorem gx238_112 : aF 112 zM238.2.2.2.2.2.2.2 = some (112, (.getfield 55), 3, 12, 21) := by decide +kernel
theorem gx238_115 : aF 115 zM238.2.2.2.2.2.2.2 = some (115, (.iload_n 3), 1, 0, 0) := by decide +kernel
theorem gx238_116 : aF 116 zM238.2.2.2.2.2.2.2 = some (116, .iaload, 1, 0, 0) := by decide +kernel
theorem gx238_117 : aF 117 zM238.2.2.2.2.2.2.2 = some (117, (.iload 4), 2, 0, 0) := by decide +kernel
theorem gx238_119 : aF 119 zM238.2.2.2.2.2.2.2 = some (119, (.invokevirtual 349), 3, 235, 0) := by decide +kernel
theorem gx238_122 : aF 122 zM238.2.2.2.2.2.2.2 = some (122, (.ifCond .eq 7), 3, 129, 0) := by decide +kernel
theorem gx238_129 : aF 129 zM238.2.2.2.2.2.2.2 = some (129, (.iconst 0), 1, 0, 0) := by decide +kernel
theorem gx238_151 : aF 151 zM238.2.2.2.2.2.2.2 = some (151, (.iload 5), 2, 0, 0) := by decide +kernel
theorem gx238_153 : aF 153 zM238.2.2.2.2.2.2.2 = some (153, (.sipush 576), 3, 0, 0) := by decide +kernel
theorem gx238_156 : aF 156 zM238.2.2.2.2.2.2.2 = some (156, (.if_icmp .ge 85), 3, 241, 0) := by decide +kernel
theorem gx238_241 : aF 241 zM238.2.2.2.2.2.2.2 = some (241, (.aload_n 0), 1, 0, 0) := by decide +kernel
theorem gx238_242 : aF 242 zM238.2.2.2.2.2.2.2 = some (242, (.getfield 112), 3, 12, 41) := by decide +kernel
theorem gx238_245 : aF 245 zM238.2.2.2.2.2.2.2 = some (245, (.iload_n 1), 1, 0, 0) := by decide +kernel
theorem gx238_246 : aF 246 zM238.2.2.2.2.2.2.2 = some (246, (.iload_n 3), 1, 0, 0) := by decide +kernel
theorem gx238_247 : aF 247 zM238.2.2.2.2.2.2.2 = some (247, .iastore, 1, 0, 0) := by decide +kernel
theorem gx238_248 : aF 248 zM238.2.2.2.2.2.2.2 = some (248, (.aload_n 0), 1, 0, 0) := by decide +kernel
theorem gx238_249 : aF 249 zM238.2.2.2.2.2.2.2 = some (249, (.getfield 118), 3, 12, 43) := by decide +kernel
theorem gx238_252 : aF 252 zM238.2.2.2.2.2.2.2 = some (252, (.iload_n 1), 1, 0, 0) := by decide +kernel
theorem gx238_253 : aF 253 zM238.2.2.2.2.2.2.2 = some (253, (.iload 4), 2, 0, 0) := by decide +kernel
theorem gx238_255 : aF 255 zM238.2.2.2.2.2.2.2 = some (255, .iastore, 1, 0, 0) := by decide +kernel
theorem gx238_256 : aF 256 zM238.2.2.2.2.2.2.2 = some (256, .return_, 1, 0, 0) := by decide +kernel
theorem gx238_159 : aF 159 zM238.2.2.2.2.2.2.2 = some (159, (.aload_n 0), 1, 0, 0) := by decide +kernel
theorem gx238_160 : aF 160 zM238.2.2.2.2.2.2.2 = some (160, (.aload_n 0), 1, 0, 0) := by decide +kernel
theorem gx238_161 : aF 161 zM238.2.2.2.2.2.2.2 = some (161, (.getfield 55), 3, 12, 21) := by decide +kernel
theorem gx238_164 : aF 164 zM238.2.2.2.2.2.2.2 = some (164, (.iload_n 1), 1, 0, 0) := by decide +kernel
theorem gx238_165 : aF 165 zM238.2.2.2.2.2.2.2 = some (165, .iaload, 1, 0, 0) := by decide +kernel
theorem gx238_166 : aF 166 zM238.2.2.2.2.2.2.2 = some (166, (.iload 5), 2, 0, 0) := by decide +kernel
theorem gx238_168 : aF 168 zM238.2.2.2.2.2.2.2 = some (168, (.invokevirtual 349), 3, 235, 0) := by decide +kernel
theorem gx238_171 : aF 171 zM238.2.2.2.2.2.2.2 = some (171, (.ifCond .ne 6), 3, 177, 0) := by decide +kernel
theorem gx238_177 : aF 177 zM238.2.2.2.2.2.2.2 = some (177, (.iload 4), 2, 0, 0) := by decide +kernel
theorem gx238_179 : aF 179 zM238.2.2.2.2.2.2.2 = some (179, (.aload_n 0), 1, 0, 0) := by decide +kernel
theorem gx238_180 : aF 180 zM238.2.2.2.2.2.2.2 = some (180, (.getfield 124), 3, 12, 45) := by decide +kernel
theorem gx238_183 : aF 183 zM238.2.2.2.2.2.2.2 = some (183, (.iload 5), 2, 0, 0) := by decide +kernel
theorem gx238_185 : aF 185 zM238.2.2.2.2.2.2.2 = some (185, .baload, 1, 0, 0) := by decide +kernel
theorem gx238_186 : aF 186 zM238.2.2.2.2.2.2.2 = some (186, (.ifCond .eq 7), 3, 193, 0) := by decide +kernel
theorem gx238_193 : aF 193 zM238.2.2.2.2.2.2.2 = some (193, (.iconst 0), 1, 0, 0) := by decide +kernel
theorem gx238_194 : aF 194 zM238.2.2.2.2.2.2.2 = some (194, .iadd, 1, 0, 0) := by decide +kernel
theorem gx238_195 : aF 195 zM238.2.2.2.2.2.2.2 = some (195, (.istore 4), 2, 0, 0) := by decide +kernel
theorem gx238_197 : aF 197 zM238.2.2.2.2.2.2.2 = some (197, (.iload_n 3), 1, 0, 0) := by decide +kernel
theorem gx238_198 : aF 198 zM238.2.2.2.2.2.2.2 = some (198, (.aload_n 0), 1, 0, 0) := by decide +kernel
theorem gx238_199 : aF 199 zM238.2.2.2.2.2.2.2 = some (199, (.getfield 124), 3, 12, 45) := by decide +kernel
theorem gx238_202 : aF 202 zM238.2.2.2.2.2.2.2 = some (202, (.iload 5), 2, 0, 0) := by decide +kernel
theorem gx238_204 : aF 204 zM238.2.2.2.2.2.2.2 = some (204, .baload, 1, 0, 0) := by decide +kernel
theorem gx238_205 : aF 205 zM238.2.2.2.2.2.2.2 = some (205, (.ifCond .ne 23), 3, 228, 0) := by decide +kernel
theorem gx238_228 : aF 228 zM238.2.2.2.2.2.2.2 = some (228, (.iconst 0), 1, 0, 0) := by decide +kernel
theorem gx238_229 : aF 229 zM238.2.2.2.2.2.2.2 = some (229, (.goto 4), 3, 233, 0) := by decide +kernel
theorem gx238_233 : aF 233 zM238.2.2.2.2.2.2.2 = some (233, .iadd, 1, 0, 0) := by decide +kernel
theorem gx238_234 : aF 234 zM238.2.2.2.2.2.2.2 = some (234, (.istore_n 3), 1, 0, 0) := by decide +kernel
theorem gx238_235 : aF 235 zM238.2.2.2.2.2.2.2 = some (235, (.iinc 5 1), 3, 0, 0) := by decide +kernel
theorem gx238_238 : aF 238 zM238.2.2.2.2.2.2.2 = some (238, (.goto (-87)), 3, 151, 0) := by decide +kernel
theorem gx238_208 : aF 208 zM238.2.2.2.2.2.2.2 = some (208, (.aload_n 0), 1, 0, 0) := by decide +kernel
theorem gx238_209 : aF 209 zM238.2.2.2.2.2.2.2 = some (209, (.getfield 127), 3, 12, 46) := by decide +kernel
theorem gx238_212 : aF 212 zM238.2.2.2.2.2.2.2 = some (212, (.iload 5), 2, 0, 0) := by decide +kernel
theorem gx238_214 : aF 214 zM238.2.2.2.2.2.2.2 = some (214, .baload, 1, 0, 0) := by decide +kernel
theorem gx238_215 : aF 215 zM238.2.2.2.2.2.2.2 = some (215, (.ifCond .ne 13), 3, 228, 0) := by decide +kernel
theorem gx238_218 : aF 218 zM238.2.2.2.2.2.2.2 = some (218, (.aload_n 0), 1, 0, 0) := by decide +kernel
theorem gx238_219 : aF 219 zM238.2.2.2.2.2.2.2 = some (219, (.getfield 130), 3, 12, 47) := by decide +kernel
theorem gx238_222 : aF 222 zM238.2.2.2.2.2.2.2 = some (222, (.iload 5), 2, 0, 0) := by decide +kernel
theorem gx238_224 : aF 224 zM238.2.2.2.2.2.2.2 = some (224, .baload, 1, 0, 0) := by decide +kernel
theorem gx238_225 : aF 225 zM238.2.2.2.2.2.2.2 = some (225, (.ifCond .eq 7), 3, 232, 0) := by decide +kernel
theorem gx238_232 : aF 232 zM238.2.2.2.2.2.2.2 = some (232, (.iconst 1), 1, 0, 0) := by decide +kernel
theorem gx238_189 : aF 189 zM238.2.2.2.2.2.2.2 = some (189, (.iconst 1), 1, 0, 0) := by decide +kernel
theorem gx238_190 : aF 190 zM238.2.2.2.2.2.2.2 = some (190, (.goto 4), 3, 194, 0) := by decide +kernel
theorem gx238_174 : aF 174 zM238.2.2.2.2.2.2.2 = some (174, (.goto 61), 3, 235, 0) := by decide +kernel
theorem gx239_0 : aF 0 zM239.2.2.2.2.2.2.2 = some (0, (.aload_n 0), 1, 0, 0) := by decide +kernel
theorem gx239_1 : aF 1 zM239.2.2.2.2.2.2.2 = some (1, (.getfield 100), 3, 12, 38) := by decide +kernel
theorem gx239_4 : aF 4 zM239.2.2.2.2.2.2.2 = some (4, (.ifCond .ne 12), 3, 16, 0) := by decide +kernel
theorem gx239_16 : aF 16 zM239.2.2.2.2.2.2.2 = some (16, (.aload_n 0), 1, 0, 0) := by decide +kernel
theorem gx239_17 : aF 17 zM239.2.2.2.2.2.2.2 = some (17, (.iconst 0), 1, 0, 0) := by decide +kernel
theorem gx239_18 : aF 18 zM239.2.2.2.2.2.2.2 = some (18, (.putfield 100), 3, 12, 38) := by decide +kernel
theorem gx239_21 : aF 21 zM239.2.2.2.2.2.2.2 = some (21, (.aload_n 0), 1, 0, 0) := by decide +kernel
theorem gx239_22 : aF 22 zM239.2.2.2.2.2.2.2 = some (22, (.iload_n 1), 1, 0, 0) := by decide +kernel
theorem gx239_23 : aF 23 zM239.2.2.2.2.2.2.2 = some (23, (.putfield 104), 3, 12, 39) := by decide +kernel
theorem gx239_26 : aF 26 zM239.2.2.2.2.2.2.2 = some (26, (.iconst 0), 1, 0, 0) := by decide +kernel
theorem gx239_27 : aF 27 zM239.2.2.2.2.2.2.2 = some (27, (.istore_n 2), 1, 0, 0) := by decide +kernel
theorem gx239_7 : aF 7 zM239.2.2.2.2.2.2.2 = some (7, (.aload_n 0), 1, 0, 0) := by decide +kernel
theorem gx239_8 : aF 8 zM239.2.2.2.2.2.2.2 = some (8, (.getfield 104), 3, 12, 39) := by decide +kernel
theorem gx239_11 : aF 11 zM239.2.2.2.2.2.2.2 = some (11, (.iload_n 1), 1, 0, 0) := by decide +kernel
theorem gx239_12 : aF 12 zM239.2.2.2.2.2.2.2 = some (12, (.if_icmp .ne 4), 3, 16, 0) := by decide +kernel
theorem gx239_15 : aF 15 zM239.2.2.2.2.2.2.2 = some (15, .return_, 1, 0, 0) := by decide +kernel
theorem gx239_28 : aF 28 zM239.2.2.2.2.2.2.2 = some (28, (.iload_n 2), 1, 0, 0) := by decide +kernel
theorem gx239_29 : aF 29 zM239.2.2.2.2.2.2.2 = some (29, (.aload_n 0), 1, 0, 0) := by decide +kernel
theorem gx239_30 : aF 30 zM239.2.2.2.2.2.2.2 = some (30, (.getfield 336), 3, 12, 19) := by decide +kernel
theorem gx239_33 : aF 33 zM239.2.2.2.2.2.2.2 = some (33, (.if_icmp .ge 21), 3, 54, 0) := by decide +kernel
theorem gx239_54 : aF 54 zM239.2.2.2.2.2.2.2 = some (54, (.iconst 0), 1, 0, 0) := by decide +kernel
theorem gx239_55 : aF 55 zM239.2.2.2.2.2.2.2 = some (55, (.istore_n 2), 1, 0, 0) := by decide +kernel
theorem gx239_36 : aF 36 zM239.2.2.2.2.2.2.2 = some (36, (.aload_n 0), 1, 0, 0) := by decide +kernel
theorem gx239_37 : aF 37 zM239.2.2.2.2.2.2.2 = some (37, (.getfield 108), 3, 12, 40) := by decide +kernel
theorem gx239_40 : aF 40 zM239.2.2.2.2.2.2.2 = some (40, (.iload_n 2), 1, 0, 0) := by decide +kernel
theorem gx239_41 : aF 41 zM239.2.2.2.2.2.2.2 = some (41, (.aload_n 0), 1, 0, 0) := by decide +kernel
theorem gx239_42 : aF 42 zM239.2.2.2.2.2.2.2 = some (42, (.iload_n 2), 1, 0, 0) := by decide +kernel
theorem gx239_43 : aF 43 zM239.2.2.2.2.2.2.2 = some (43, (.iload_n 1), 1, 0, 0) := by decide +kernel
theorem gx239_44 : aF 44 zM239.2.2.2.2.2.2.2 = some (44, (.invokevirtual 355), 3, 234, 0) := by decide +kernel
theorem gx239_47 : aF 47 zM239.2.2.2.2.2.2.2 = some (47, .bastore, 1, 0, 0) := by decide +kernel
theorem gx239_48 : aF 48 zM239.2.2.2.2.2.2.2 = some (48, (.iinc 2 1), 3, 0, 0) := by decide +kernel
theorem gx239_51 : aF 51 zM239.2.2.2.2.2.2.2 = some (51, (.goto (-23)), 3, 28, 0) := by decide +kernel
theorem gx239_56 : aF 56 zM239.2.2.2.2.2.2.2 = some (56, (.iload_n 2), 1, 0, 0) := by decide +kernel
theorem gx239_57 : aF 57 zM239.2.2.2.2.2.2.2 = some (57, (.bipush 10), 2, 0, 0) := by decide +kernel
theorem gx239_59 : aF 59 zM239.2.2.2.2.2.2.2 = some (59, (.if_icmp .ge 90), 3, 149, 0) := by decide +kernel
theorem gx239_149 : aF 149 zM239.2.2.2.2.2.2.2 = some (149, .return_, 1, 0, 0) := by decide +kernel
theorem gx239_62 : aF 62 zM239.2.2.2.2.2.2.2 = some (62, (.aload_n 0), 1, 0, 0) := by decide +kernel
theorem gx239_63 : aF 63 zM239.2.2.2.2.2.2.2 = some (63, (.iload_n 2), 1, 0, 0) := by decide +kernel
theorem gx239_64 : aF 64 zM239.2.2.2.2.2.2.2 = some (64, (.iload_n 1), 1, 0, 0) := by decide +kernel
theorem gx239_65 : aF 65 zM239.2.2.2.2.2.2.2 = some (65, (.invokevirtual 358), 3, 236, 0) := by decide +kernel
theorem gx239_68 : aF 68 zM239.2.2.2.2.2.2.2 = some (68, (.iconst 0), 1, 0, 0) := by decide +kernel
theorem gx239_69 : aF 69 zM239.2.2.2.2.2.2.2 = some (69, (.istore_n 3), 1, 0, 0) := by decide +kernel
theorem gx239_70 : aF 70 zM239.2.2.2.2.2.2.2 = some (70, (.iload_n 3), 1, 0, 0) := by decide +kernel
theorem gx239_71 : aF 71 zM239.2.2.2.2.2.2.2 = some (71, (.aload_n 0), 1, 0, 0) := by decide +kernel
theorem gx239_72 : aF 72 zM239.2.2.2.2.2.2.2 = some (72, (.getfield 336), 3, 12, 19) := by decide +kernel
theorem gx239_75 : aF 75 zM239.2.2.2.2.2.2.2 = some (75, (.if_icmp .ge 68), 3, 143, 0) := by decide +kernel
theorem gx239_143 : aF 143 zM239.2.2.2.2.2.2.2 = some (143, (.iinc 2 1), 3, 0, 0) := by decide +kernel
theorem gx239_146 : aF 146 zM239.2.2.2.2.2.2.2 = some (146, (.goto (-90)), 3, 56, 0) := by decide +kernel
theorem gx239_78 : aF 78 zM239.2.2.2.2.2.2.2 = some (78, (.aload_n 0), 1, 0, 0) := by decide +kernel
theorem gx239_79 : aF 79 zM239.2.2.2.2.2.2.2 = some (79, (.getfield 108), 3, 12, 40) := by decide +kernel
theorem gx239_82 : aF 82 zM239.2.2.2.2.2.2.2 = some (82, (.iload_n 3), 1, 0, 0) := by decide +kernel
theorem gx239_83 : aF 83 zM239.2.2.2.2.2.2.2 = some (83, .baload, 1, 0, 0) := by decide +kernel
theorem gx239_84 : aF 84 zM239.2.2.2.2.2.2.2 = some (84, (.ifCond .eq 53), 3, 137, 0) := by decide +kernel
theorem gx239_137 : aF 137 zM239.2.2.2.2.2.2.2 = some (137, (.iinc 3 1), 3, 0, 0) := by decide +kernel
theorem gx239_140 : aF 140 zM239.2.2.2.2.2.2.2 = some (140, (.goto (-70)), 3, 70, 0) := by decide +kernel
theorem gx239_87 : aF 87 zM239.2.2.2.2.2.2.2 = some (87, (.aload_n 0), 1, 0, 0) := by decide +kernel
theorem gx239_88 : aF 88 zM239.2.2.2.2.2.2.2 = some (88, (.iload_n 3), 1, 0, 0) := by decide +kernel
theorem gx239_89 : aF 89 zM239.2.2.2.2.2.2.2 = some (89, (.invokevirtual 342), 3, 229, 0) := by decide +kernel
theorem gx239_92 : aF 92 zM239.2.2.2.2.2.2.2 = some (92, (.iload_n 2), 1, 0, 0) := by decide +kernel
theorem gx239_93 : aF 93 zM239.2.2.2.2.2.2.2 = some (93, (.if_icmp .eq 6), 3, 99, 0) := by decide +kernel
theorem gx239_99 : aF 99 zM239.2.2.2.2.2.2.2 = some (99, (.aload_n 0), 1, 0, 0) := by decide +kernel
theorem gx239_100 : aF 100 zM239.2.2.2.2.2.2.2 = some (100, (.iload_n 3), 1, 0, 0) := by decide +kernel
theorem gx239_101 : aF 101 zM239.2.2.2.2.2.2.2 = some (101, (.iload_n 2), 1, 0, 0) := by decide +kernel
theorem gx239_102 : aF 102 zM239.2.2.2.2.2.2.2 = some (102, (.invokevirtual 362), 3, 238, 0) := by decide +kernel
theorem gx239_105 : aF 105 zM239.2.2.2.2.2.2.2 = some (105, (.aload_n 0), 1, 0, 0) := by decide +kernel
theorem gx239_106 : aF 106 zM239.2.2.2.2.2.2.2 = some (106, (.getfield 112), 3, 12, 41) := by decide +kernel
theorem gx239_109 : aF 109 zM239.2.2.2.2.2.2.2 = some (109, (.iload_n 3), 1, 0, 0) := by decide +kernel
theorem gx239_110 : aF 110 zM239.2.2.2.2.2.2.2 = some (110, .iaload, 1, 0, 0) := by decide +kernel
theorem gx239_111 : aF 111 zM239.2.2.2.2.2.2.2 = some (111, (.aload_n 0), 1, 0, 0) := by decide +kernel
theorem gx239_112 : aF 112 zM239.2.2.2.2.2.2.2 = some (112, (.iload_n 3), 1, 0, 0) := by decide +kernel
theorem gx239_113 : aF 113 zM239.2.2.2.2.2.2.2 = some (113, (.iload_n 1), 1, 0, 0) := by decide +kernel
theorem gx239_114 : aF 114 zM239.2.2.2.2.2.2.2 = some (114, (.invokevirtual 365), 3, 237, 0) := by decide +kernel
theorem gx239_117 : aF 117 zM239.2.2.2.2.2.2.2 = some (117, .isub, 1, 0, 0) := by decide +kernel
theorem gx239_118 : aF 118 zM239.2.2.2.2.2.2.2 = some (118, (.istore 4), 2, 0, 0) := by decide +kernel
theorem gx239_120 : aF 120 zM239.2.2.2.2.2.2.2 = some (120, (.aload_n 0), 1, 0, 0) := by decide +kernel
theorem gx239_121 : aF 121 zM239.2.2.2.2.2.2.2 = some (121, (.getfield 115), 3, 12, 42) := by decide +kernel
theorem gx239_124 : aF 124 zM239.2.2.2.2.2.2.2 = some (124, (.iload_n 3), 1, 0, 0) := by decide +kernel
theorem gx239_125 : aF 125 zM239.2.2.2.2.2.2.2 = some (125, (.iload 4), 2, 0, 0) := by decide +kernel
theorem gx239_127 : aF 127 zM239.2.2.2.2.2.2.2 = some (127, (.ifCond .ge 7), 3, 134, 0) := by decide +kernel
theorem gx239_134 : aF 134 zM239.2.2.2.2.2.2.2 = some (134, (.iload 4), 2, 0, 0) := by decide +kernel
theorem gx239_136 : aF 136 zM239.2.2.2.2.2.2.2 = some (136, .iastore, 1, 0, 0) := by decide +kernel
theorem gx239_130 : aF 130 zM239.2.2.2.2.2.2.2 = some (130, (.iconst 0), 1, 0, 0) := by decide +kernel
theorem gx239_131 : aF 131 zM239.2.2.2.2.2.2.2 = some (131, (.goto 5), 3, 136, 0) := by decide +kernel
theorem gx239_96 : aF 96 zM239.2.2.2.2.2.2.2 = some (96, (.goto 41), 3, 137, 0) := by decide +kernel
theorem d236_0 {n : Nat} {X : aX} {h : aH} {P : aH → Prop} {x1 x2 : Int32} {a1 a2 : Int} (S : wS h) (z1 : x1.toInt = a1) (z2 : x2.toInt = a2) (H : (∀ (w3 : Int32), w3.toInt = 0 → Pt n X zM236 2 [some (.ref 72), some (.int x1), some (.int x2), some (.int w3), none] [] h (qN P))) : Pt (n + 1) X zM236 0 [some (.ref 72), some (.int x1), some (.int x2), none, none] [] h (qN P) := by
  refine pt_iconst gx236_0 (fun v1 h1 => ?_)
  refine pt_d (pt_1 (fun n d => r_istoren (L' := [some (.ref 72), some (.int x1), some (.int x2), some (.int v1), none]) gx236_1 rfl rfl) ?_)
  exact H v1 h1
theorem d236_2 {n : Nat} {X : aX} {h : aH} {P : aH → Prop} {x1 x2 x3 : Int32} {a1 a2 a3 : Int} (S : wS h) (z1 : x1.toInt = a1) (z2 : x2.toInt = a2) (z3 : x3.toInt = a3) (H : ((576 ≤ a3 → (∀ (w3 : Int32) (u4_ : Option Value), w3.toInt = 0 → Pt n X zM236 51 [some (.ref 72), some (.int x1), some (.int x2), some (.int w3), u4_] [] h (qN P))) ∧ (a3 < 576 → (0 ≤ a3 → a3 < 576 → ∀ h_9 : aH, wS h_9 → vw h_9 = up (up (vw h) 107 a3 (-1)) 108 a3 (bAnd 0 1) → ((0 ≤ vw h_9 72 25 ∧ vw h_9 72 25 ≤ 40) ∧ ∀ h_16 : aH, wS h_16 → vw h_16 = up (vw h_9) 109 a3 (bAnd (bI (isO (vw h_9) (iRem a3 24) (iDiv a3 24) a1 a2)) 1) → (∀ (w3 : Int32), w3.toInt = w32 (a3 + 1) → Pt n X zM236 2 [some (.ref 72), some (.int x1), some (.int x2), some (.int w3), none] [] h_16 (qN P))))))) : Pt (n + 1) X zM236 2 [some (.ref 72), some (.int x1), some (.int x2), some (.int x3), none] [] h (qN P) := by
  refine pt_1 (fun n d => r_iloadn gx236_2 rfl) ?_
  refine pt_d (pt_sipush gx236_3 (fun v1 h1 => ?_))
  refine pt_d (pt_icmp_ge gx236_6 z3 h1 (fun e2 => ?_) (fun e2 => ?_))
  · have H := H.1 e2
    refine pt_d (pt_iconst gx236_49 (fun v3 h3 => ?_))
    refine pt_d (pt_1 (fun n d => r_istoren (L' := [some (.ref 72), some (.int x1), some (.int x2), some (.int v3), none]) gx236_50 rfl rfl) ?_)
    exact H v3 _ h3
  · have H := H.2 e2
    refine pt_d (pt_1 (fun n d => r_aloadn gx236_9 rfl) ?_)
    refine pt_d (pt_getR gx236_10 S tr_72_44 ?_)
    refine pt_d (pt_1 (fun n d => r_iloadn gx236_13 rfl) ?_)
    refine pt_d (pt_iconst gx236_14 (fun v5 h5 => ?_))
    refine pt_d (pt_iast (N' := 576) gx236_15 S tl_107 z3 h5 (fun h_6 S6 p6 q6 e6 => ?_))
    have H := H p6 q6
    refine pt_d (pt_1 (fun n d => r_aloadn gx236_16 rfl) ?_)
    refine pt_d (pt_getR gx236_17 S6 tr_72_45 ?_)
    refine pt_d (pt_1 (fun n d => r_iloadn gx236_20 rfl) ?_)
    refine pt_d (pt_iconst gx236_21 (fun v8 h8 => ?_))
    refine pt_d (pt_zast (N' := 576) gx236_22 S6 tl_108 z3 h8 (fun h_9 S9 p9 q9 e9 => ?_))
    refine pt_d (pt_1 (fun n d => r_aloadn gx236_23 rfl) ?_)
    refine pt_d (pt_getR gx236_24 S9 tr_72_46 ?_)
    refine pt_d (pt_1 (fun n d => r_iloadn gx236_27 rfl) ?_)
    refine pt_d (pt_1 (fun n d => r_aloadn gx236_28 rfl) ?_)
    refine pt_d (pt_1 (fun n d => r_iloadn gx236_29 rfl) ?_)
    refine pt_d (pt_bipush gx236_30 (fun v11 h11 => ?_))
    refine pt_d (pt_irem gx236_32 z3 h11 (fun v12 h12 => ?_))
    refine pt_d (pt_1 (fun n d => r_iloadn gx236_33 rfl) ?_)
    refine pt_d (pt_bipush gx236_34 (fun v13 h13 => ?_))
    refine pt_d (pt_idiv gx236_36 z3 h13 (fun v14 h14 => ?_))
    refine pt_d (pt_1 (fun n d => r_iloadn gx236_37 rfl) ?_)
    refine pt_d (pt_1 (fun n d => r_iloadn gx236_38 rfl) ?_)
    have H := H h_9 S9 (by rw [e9, e6])
    obtain ⟨pr15, H⟩ := H
    refine pt_d (pt_virt (as := [.int v12, .int v14, .int x1, .int x2]) (r := [.int x3, .ref 109]) gx236_39 rfl (show zmt[233]? = some zM233 from rfl) rfl rfl rfl rfl (c_233 S9 h12 h14 z1 z2 pr15) (kqP (fun v15 h15 => ?_)))
    show Pt _ _ _ 42 _ [.int v15, .int x3, .ref 109] _ _
    refine pt_d (pt_zast (N' := 576) gx236_42 S9 tl_109 z3 h15 (fun h_16 S16 p16 q16 e16 => ?_))
    refine pt_d (pt_iinc (c := 1) gx236_43 rfl z3 (fun v17 h17 => ?_))
    show Pt _ _ _ _ [some (.ref 72), some (.int x1), some (.int x2), some (.int v17), none] [] _ _
    refine pt_d (pt_1 (fun n d => r_goto gx236_46) ?_)
    have H := H h_16 S16 (by rw [e16])
    exact H v17 h17
theorem d236_51 {n : Nat} {X : aX} {h : aH} {P : aH → Prop} {x1 x2 x3 : Int32} {a1 a2 a3 : Int} {u4 : Option Value} (S : wS h) (z1 : x1.toInt = a1) (z2 : x2.toInt = a2) (z3 : x3.toInt = a3) (H : ((vw h 72 19 ≤ a3 → P h) ∧ (a3 < vw h 72 19 → (0 ≤ a3 → a3 < 300 → ((vw h 103 a3 = 0 → (∀ (w3 : Int32) (u4_ : Option Value), w3.toInt = w32 (a3 + 1) → Pt n X zM236 51 [some (.ref 72), some (.int x1), some (.int x2), some (.int w3), u4_] [] h (qN P))) ∧ (vw h 103 a3 ≠ 0 → ((iDiv ((vw h) 90 a3) 365 = a1 → (∀ (w4 : Int32), w4.toInt = 0 → Pt n X zM236 83 [some (.ref 72), some (.int x1), some (.int x2), some (.int x3), some (.int w4)] [] h (qN P))) ∧ (iDiv ((vw h) 90 a3) 365 ≠ a1 → (∀ (w3 : Int32) (u4_ : Option Value), w3.toInt = w32 (a3 + 1) → Pt n X zM236 51 [some (.ref 72), some (.int x1), some (.int x2), some (.int w3), u4_] [] h (qN P)))))))))) : Pt (n + 1) X zM236 51 [some (.ref 72), some (.int x1), some (.int x2), some (.int x3), u4] [] h (qN P) := by
  refine pt_1 (fun n d => r_iloadn gx236_51 rfl) ?_
  refine pt_d (pt_1 (fun n d => r_aloadn gx236_52 rfl) ?_)
  refine pt_d (pt_getI (B := 19) gx236_53 S (fun v1 h1 => ?_))
  refine pt_d (pt_icmp_ge gx236_56 z3 h1 (fun e2 => ?_) (fun e2 => ?_))
  · have H := H.1 e2
    exact pt_d (pt_vret gx236_171 ⟨rfl, H⟩)
  · have H := H.2 e2
    refine pt_d (pt_1 (fun n d => r_aloadn gx236_59 rfl) ?_)
    refine pt_d (pt_getR gx236_60 S tr_72_40 ?_)
    refine pt_d (pt_1 (fun n d => r_iloadn gx236_63 rfl) ?_)
    refine pt_d (pt_zald (N' := 300) gx236_64 S tl_103 z3 (fun v4 p4 q4 h4 => ?_))
    have H := H p4 q4
    refine pt_d (pt_if_eq gx236_65 h4 (fun e5 => ?_) (fun e5 => ?_))
    · have H := H.1 e5
      refine pt_d (pt_iinc (c := 1) gx236_165 rfl z3 (fun v6 h6 => ?_))
      show Pt _ _ _ _ [some (.ref 72), some (.int x1), some (.int x2), some (.int v6), u4] [] _ _
      refine pt_d (pt_1 (fun n d => r_goto gx236_168) ?_)
      exact H v6 _ h6
    · have H := H.2 e5
      refine pt_d (pt_1 (fun n d => r_aloadn gx236_68 rfl) ?_)
      refine pt_d (pt_1 (fun n d => r_iloadn gx236_69 rfl) ?_)
      refine pt_d (pt_virt (as := [.int x3]) (r := []) gx236_70 rfl (show zmt[229]? = some zM229 from rfl) rfl rfl rfl rfl (c_229 S z3) (kqP (fun v7 h7 => ?_)))
      show Pt _ _ _ 73 _ [.int v7] _ _
      refine pt_d (pt_1 (fun n d => r_iloadn gx236_73 rfl) ?_)
      refine pt_d (pt_icmp_eq gx236_74 h7 z1 (fun e8 => ?_) (fun e8 => ?_))
      · have H := H.1 e8
        refine pt_d (pt_iconst gx236_80 (fun v9 h9 => ?_))
        refine pt_d (pt_1 (fun n d => r_istore (L' := [some (.ref 72), some (.int x1), some (.int x2), some (.int x3), some (.int v9)]) gx236_81 rfl rfl) ?_)
        exact H v9 h9
      · have H := H.2 e8
        refine pt_d (pt_1 (fun n d => r_goto gx236_77) ?_)
        refine pt_d (pt_iinc (c := 1) gx236_165 rfl z3 (fun v10 h10 => ?_))
        show Pt _ _ _ _ [some (.ref 72), some (.int x1), some (.int x2), some (.int v10), u4] [] _ _
        refine pt_d (pt_1 (fun n d => r_goto gx236_168) ?_)
        exact H v10 _ h10
theorem d236_83 {n : Nat} {X : aX} {h : aH} {P : aH → Prop} {x1 x2 x3 x4 : Int32} {a1 a2 a3 a4 : Int} (S : wS h) (z1 : x1.toInt = a1) (z2 : x2.toInt = a2) (z3 : x3.toInt = a3) (z4 : x4.toInt = a4) (H : ((576 ≤ a4 → (∀ (w3 : Int32) (u4_ : Option Value), w3.toInt = w32 (a3 + 1) → Pt n X zM236 51 [some (.ref 72), some (.int x1), some (.int x2), some (.int w3), u4_] [] h (qN P))) ∧ (a4 < 576 → (0 ≤ a3 → a3 < 300 → (((isI (vw h) (vw h 88 a3) a4) → (0 ≤ a4 → a4 < 576 → ((0 ≤ vw h 107 a4 → ((vw h 107 a4 = vw h 87 a3 → (∀ (w4 : Int32), w4.toInt = w32 (a4 + 1) → Pt n X zM236 83 [some (.ref 72), some (.int x1), some (.int x2), some (.int x3), some (.int w4)] [] h (qN P))) ∧ (vw h 107 a4 ≠ vw h 87 a3 → ∀ h_19 : aH, wS h_19 → vw h_19 = up (vw h) 108 a4 (bAnd 1 1) → (∀ (w4 : Int32), w4.toInt = w32 (a4 + 1) → Pt n X zM236 83 [some (.ref 72), some (.int x1), some (.int x2), some (.int x3), some (.int w4)] [] h_19 (qN P))))) ∧ (vw h 107 a4 < 0 → ∀ h_24 : aH, wS h_24 → vw h_24 = up (vw h) 107 a4 (vw h 87 a3) → (∀ (w4 : Int32), w4.toInt = w32 (a4 + 1) → Pt n X zM236 83 [some (.ref 72), some (.int x1), some (.int x2), some (.int x3), some (.int w4)] [] h_24 (qN P)))))) ∧ (¬ (isI (vw h) (vw h 88 a3) a4) → (∀ (w4 : Int32), w4.toInt = w32 (a4 + 1) → Pt n X zM236 83 [some (.ref 72), some (.int x1), some (.int x2), some (.int x3), some (.int w4)] [] h (qN P)))))))) : Pt (n + 1) X zM236 83 [some (.ref 72), some (.int x1), some (.int x2), some (.int x3), some (.int x4)] [] h (qN P) := by
  refine pt_1 (fun n d => r_iload gx236_83 rfl) ?_
  refine pt_d (pt_sipush gx236_85 (fun v1 h1 => ?_))
  refine pt_d (pt_icmp_ge gx236_88 z4 h1 (fun e2 => ?_) (fun e2 => ?_))
  · have H := H.1 e2
    refine pt_d (pt_iinc (c := 1) gx236_165 rfl z3 (fun v3 h3 => ?_))
    show Pt _ _ _ _ [some (.ref 72), some (.int x1), some (.int x2), some (.int v3), some (.int x4)] [] _ _
    refine pt_d (pt_1 (fun n d => r_goto gx236_168) ?_)
    exact H v3 _ h3
  · have H := H.2 e2
    refine pt_d (pt_1 (fun n d => r_aloadn gx236_91 rfl) ?_)
    refine pt_d (pt_1 (fun n d => r_aloadn gx236_92 rfl) ?_)
    refine pt_d (pt_getR gx236_93 S tr_72_21 ?_)
    refine pt_d (pt_1 (fun n d => r_iloadn gx236_96 rfl) ?_)
    refine pt_d (pt_iald (N' := 300) gx236_97 S tl_88 z3 (fun v5 p5 q5 h5 => ?_))
    have H := H p5 q5
    refine pt_d (pt_1 (fun n d => r_iload gx236_98 rfl) ?_)
    refine pt_d (pt_virt (as := [.int v5, .int x4]) (r := []) gx236_100 rfl (show zmt[235]? = some zM235 from rfl) rfl rfl rfl rfl (c_235 S h5 z4) (kqP (fun v6 h6 => ?_)))
    show Pt _ _ _ 103 _ [.int v6] _ _
    refine pt_d (pt_ifB_ne gx236_103 h6 (fun e7 => ?_) (fun e7 => ?_))
    · have H := H.1 e7
      refine pt_d (pt_1 (fun n d => r_aloadn gx236_109 rfl) ?_)
      refine pt_d (pt_getR gx236_110 S tr_72_44 ?_)
      refine pt_d (pt_1 (fun n d => r_iload gx236_113 rfl) ?_)
      refine pt_d (pt_iald (N' := 576) gx236_115 S tl_107 z4 (fun v9 p9 q9 h9 => ?_))
      have H := H p9 q9
      refine pt_d (pt_if_ge gx236_116 h9 (fun e10 => ?_) (fun e10 => ?_))
      · have H := H.1 e10
        refine pt_d (pt_1 (fun n d => r_aloadn gx236_135 rfl) ?_)
        refine pt_d (pt_getR gx236_136 S tr_72_44 ?_)
        refine pt_d (pt_1 (fun n d => r_iload gx236_139 rfl) ?_)
        refine pt_d (pt_iald (N' := 576) gx236_141 S tl_107 z4 (fun v12 p12 q12 h12 => ?_))
        refine pt_d (pt_1 (fun n d => r_aloadn gx236_142 rfl) ?_)
        refine pt_d (pt_getR gx236_143 S tr_72_20 ?_)
        refine pt_d (pt_1 (fun n d => r_iloadn gx236_146 rfl) ?_)
        refine pt_d (pt_iald (N' := 300) gx236_147 S tl_87 z3 (fun v14 p14 q14 h14 => ?_))
        refine pt_d (pt_icmp_eq gx236_148 h12 h14 (fun e15 => ?_) (fun e15 => ?_))
        · have H := H.1 e15
          refine pt_d (pt_iinc (c := 1) gx236_159 rfl z4 (fun v16 h16 => ?_))
          show Pt _ _ _ _ [some (.ref 72), some (.int x1), some (.int x2), some (.int x3), some (.int v16)] [] _ _
          refine pt_d (pt_1 (fun n d => r_goto gx236_162) ?_)
          exact H v16 h16
        · have H := H.2 e15
          refine pt_d (pt_1 (fun n d => r_aloadn gx236_151 rfl) ?_)
          refine pt_d (pt_getR gx236_152 S tr_72_45 ?_)
          refine pt_d (pt_1 (fun n d => r_iload gx236_155 rfl) ?_)
          refine pt_d (pt_iconst gx236_157 (fun v18 h18 => ?_))
          refine pt_d (pt_zast (N' := 576) gx236_158 S tl_108 z4 h18 (fun h_19 S19 p19 q19 e19 => ?_))
          refine pt_d (pt_iinc (c := 1) gx236_159 rfl z4 (fun v20 h20 => ?_))
          show Pt _ _ _ _ [some (.ref 72), some (.int x1), some (.int x2), some (.int x3), some (.int v20)] [] _ _
          refine pt_d (pt_1 (fun n d => r_goto gx236_162) ?_)
          have H := H h_19 S19 (by rw [e19])
          exact H v20 h20
      · have H := H.2 e10
        refine pt_d (pt_1 (fun n d => r_aloadn gx236_119 rfl) ?_)
        refine pt_d (pt_getR gx236_120 S tr_72_44 ?_)
        refine pt_d (pt_1 (fun n d => r_iload gx236_123 rfl) ?_)
        refine pt_d (pt_1 (fun n d => r_aloadn gx236_125 rfl) ?_)
        refine pt_d (pt_getR gx236_126 S tr_72_20 ?_)
        refine pt_d (pt_1 (fun n d => r_iloadn gx236_129 rfl) ?_)
        refine pt_d (pt_iald (N' := 300) gx236_130 S tl_87 z3 (fun v23 p23 q23 h23 => ?_))
        refine pt_d (pt_iast (N' := 576) gx236_131 S tl_107 z4 h23 (fun h_24 S24 p24 q24 e24 => ?_))
        refine pt_d (pt_1 (fun n d => r_goto gx236_132) ?_)
        refine pt_d (pt_iinc (c := 1) gx236_159 rfl z4 (fun v25 h25 => ?_))
        show Pt _ _ _ _ [some (.ref 72), some (.int x1), some (.int x2), some (.int x3), some (.int v25)] [] _ _
        refine pt_d (pt_1 (fun n d => r_goto gx236_162) ?_)
        have H := H h_24 S24 (by rw [e24])
        exact H v25 h25
    · have H := H.2 e7
      refine pt_d (pt_1 (fun n d => r_goto gx236_106) ?_)
      refine pt_d (pt_iinc (c := 1) gx236_159 rfl z4 (fun v26 h26 => ?_))
      show Pt _ _ _ _ [some (.ref 72), some (.int x1), some (.int x2), some (.int x3), some (.int v26)] [] _ _
      refine pt_d (pt_1 (fun n d => r_goto gx236_162) ?_)
      exact H v26 h26
theorem b01b (p : Prop) : bAnd (bI p) 1 = bI p := by
  rcases bI_r p with e | e
  · rw [e, b01]
  · rw [e, b11]
def LvM (V : vS) (yr c : Int) : Prop := V 103 c ≠ 0 ∧ iDiv (V 90 c) 365 = yr
def InM (V : vS) (c q : Int) : Prop := isI V (V 88 c) q
def fP (V W : vS) (yr c q : Int) : Prop := (W 107 q = -1 ∧ (∀ c', 0 ≤ c' → c' < c → LvM V yr c' → ¬ InM V c' q) ∧ W 108 q = 0) ∨ (0 ≤ W 107 q ∧ (∃ c', (0 ≤ c' ∧ c' < c) ∧ LvM V yr c' ∧ InM V c' q ∧ V 87 c' = W 107 q) ∧ ((W 108 q = 0 ∧ ∀ c', 0 ≤ c' → c' < c → LvM V yr c' → InM V c' q → V 87 c' = W 107 q) ∨ (W 108 q = 1 ∧ ∃ c', (0 ≤ c' ∧ c' < c) ∧ LvM V yr c' ∧ InM V c' q ∧ V 87 c' ≠ W 107 q)))
theorem fP_skip {V W : vS} {yr c q : Int} (F : fP V W yr c q) (h : ¬ (LvM V yr c ∧ InM V c q)) : fP V W yr (c + 1) q := by
  have k : ∀ c', c' < c + 1 → LvM V yr c' → InM V c' q → c' < c := fun c' a b d => by
    by_cases z : c' = c
    · rw [z] at b d
      exact absurd ⟨b, d⟩ h
    · omega
  rcases F with ⟨a, b, d⟩ | ⟨a, ⟨c', b, d⟩, e⟩
  · exact Or.inl ⟨a, fun c' h0 h1 l i => b c' h0 (k c' h1 l i) l i, d⟩
  · refine Or.inr ⟨a, ⟨c', ⟨b.1, by omega⟩, d⟩, ?_⟩
    rcases e with ⟨e1, e2⟩ | ⟨e1, c2, e2, e3⟩
    · exact Or.inl ⟨e1, fun c' h0 h1 l i => e2 c' h0 (k c' h1 l i) l i⟩
    · exact Or.inr ⟨e1, c2, ⟨e2.1, by omega⟩, e3⟩
theorem fP_c {V W W' : vS} {yr c q : Int} (F : fP V W yr c q) (h1 : W' 107 q = W 107 q) (h2 : W' 108 q = W 108 q) : fP V W' yr c q := by
  unfold fP
  rw [h1, h2]
  exact F
theorem fP_same {V W : vS} {yr c q : Int} (F : fP V W yr c q) (c0 : 0 ≤ c) (l : LvM V yr c) (i : InM V c q) (g : 0 ≤ W 107 q) (e : W 107 q = V 87 c) : fP V W yr (c + 1) q := by
  rcases F with ⟨a, -⟩ | ⟨a, ⟨c', b, d⟩, f⟩
  · omega
  · refine Or.inr ⟨a, ⟨c', ⟨b.1, by omega⟩, d⟩, ?_⟩
    rcases f with ⟨e1, e2⟩ | ⟨e1, c2, e2, e3⟩
    · refine Or.inl ⟨e1, fun c' h0 h1 l i => ?_⟩
      by_cases z : c' = c
      · rw [z, e]
      · exact e2 c' h0 (by omega) l i
    · exact Or.inr ⟨e1, c2, ⟨e2.1, by omega⟩, e3⟩
theorem fP_diff {V W W' : vS} {yr c q : Int} (F : fP V W yr c q) (c0 : 0 ≤ c) (l : LvM V yr c) (i : InM V c q) (g : 0 ≤ W 107 q) (e : W 107 q ≠ V 87 c) (h1 : W' 107 q = W 107 q) (h2 : W' 108 q = 1) : fP V W' yr (c + 1) q := by
  rcases F with ⟨a, -⟩ | ⟨a, ⟨c', b, d⟩, -⟩
  · omega
  · refine Or.inr ⟨by rw [h1]; exact a, ⟨c', ⟨b.1, by omega⟩, by rw [h1]; exact d⟩, Or.inr ⟨h2, c, ⟨c0, by omega⟩, l, i, by rw [h1]; exact fun z => e z.symm⟩⟩
theorem fP_first {V W W' : vS} {yr c q : Int} (F : fP V W yr c q) (c0 : 0 ≤ c) (l : LvM V yr c) (i : InM V c q) (g : W 107 q < 0) (hf : 0 ≤ V 87 c) (h1 : W' 107 q = V 87 c) (h2 : W' 108 q = W 108 q) : fP V W' yr (c + 1) q := by
  rcases F with ⟨-, b, d⟩ | ⟨a, -⟩
  · refine Or.inr ⟨by rw [h1]; exact hf, ⟨c, ⟨c0, by omega⟩, l, i, h1.symm⟩, Or.inl ⟨by rw [h2]; exact d, fun c' a0 a1 l' i' => ?_⟩⟩
    by_cases z : c' = c
    · rw [z, h1]
    · exact absurd i' (b c' a0 (by omega) l')
  · omega
def agF (V W : vS) : Prop := ∀ (c : Nat) j, c ≠ 107 → c ≠ 108 → c ≠ 109 → W c j = V c j
theorem isI_c {V W : vS} (h : ∀ j, W 80 j = V 80 j) (b q : Int) : isI W b q ↔ isI V b q := by unfold isI; rw [h]
theorem isO_c {V W : vS} (h : ∀ (c : Nat) j, c ≠ 107 → c ≠ 108 → c ≠ 109 → W c j = V c j) (x y yr k : Int) : isO W x y yr k ↔ isO V x y yr k := by
  have e : ∀ i, oHm W x y yr k i ↔ oHm V x y yr k i := fun i => by
    unfold oHm
    rw [h 97 i (by decide) (by decide) (by decide), h 96 i (by decide) (by decide) (by decide), h 92 i (by decide) (by decide) (by decide), h 93 i (by decide) (by decide) (by decide), h 94 i (by decide) (by decide) (by decide), h 95 i (by decide) (by decide) (by decide)]
  unfold isO
  simp only [e, h 72 25 (by decide) (by decide) (by decide)]
def R236 (V : vS) (yr k : Int) (V' : vS) : Prop := agF V V' ∧ ∀ q, 0 ≤ q → q < 576 → V' 109 q = bI (isO V (q % 24) (q / 24) yr k) ∧ fP V V' yr (V 72 19) q
def out9 (V W : vS) (yr k N : Int) : Prop := ∀ q, 0 ≤ q → q < N → W 109 q = bI (isO V (q % 24) (q / 24) yr k)
theorem l_236 {X : aX} {V : vS} {yr k : Int} (hN : 0 ≤ V 72 19 ∧ V 72 19 ≤ 300) (hf : ∀ c, 0 ≤ c → c < 300 → 0 ≤ V 87 c) : ∀ n : Nat, (∀ (h : aH) (x1 x2 x3 : Int32) (u4 : Option Value) (c : Int), wS h → x1.toInt = yr → x2.toInt = k → x3.toInt = c → 0 ≤ c → c ≤ V 72 19 → agF V (vw h) → out9 V (vw h) yr k 576 → (∀ q, 0 ≤ q → q < 576 → fP V (vw h) yr c q) → Pt n X zM236 51 [some (.ref 72), some (.int x1), some (.int x2), some (.int x3), u4] [] h (qN (fun h' => wS h' ∧ R236 V yr k (vw h')))) ∧
    (∀ (h : aH) (x1 x2 x3 x4 : Int32) (c q : Int), wS h → x1.toInt = yr → x2.toInt = k → x3.toInt = c → x4.toInt = q → 0 ≤ c → c < V 72 19 → LvM V yr c → 0 ≤ q → q ≤ 576 → agF V (vw h) → out9 V (vw h) yr k 576 → (∀ q', 0 ≤ q' → q' < q → fP V (vw h) yr (c + 1) q') → (∀ q', q ≤ q' → q' < 576 → fP V (vw h) yr c q') → Pt n X zM236 83 [some (.ref 72), some (.int x1), some (.int x2), some (.int x3), some (.int x4)] [] h (qN (fun h' => wS h' ∧ R236 V yr k (vw h')))) := by
  intro n
  induction n with
  | zero => exact ⟨fun _ _ _ _ _ _ _ _ _ _ _ _ _ _ _ => pt_z, fun _ _ _ _ _ _ _ _ _ _ _ _ _ _ _ _ _ _ _ _ _ => pt_z⟩
  | succ n ih =>
    obtain ⟨ihA, ihB⟩ := ih
    refine ⟨fun h x1 x2 x3 u4 c S h1 h2 h3 c0 cN A O F => ?_, fun h x1 x2 x3 x4 c q S h1 h2 h3 h4 c0 cN lv q0 q6 A O F1 F2 => ?_⟩
    · have e19 : vw h 72 19 = V 72 19 := A 72 19 (by decide) (by decide) (by decide)
      have e103 : vw h 103 c = V 103 c := A 103 c (by decide) (by decide) (by decide)
      have e90 : vw h 90 c = V 90 c := A 90 c (by decide) (by decide) (by decide)
      have skip : ∀ (w3 : Int32) (u4 : Option Value), c < V 72 19 → ¬ LvM V yr c → w3.toInt = w32 (c + 1) → Pt n X zM236 51 [some (.ref 72), some (.int x1), some (.int x2), some (.int w3), u4] [] h (qN (fun h' => wS h' ∧ R236 V yr k (vw h'))) := by
        intro w3 u4 lt nl g3
        replace g3 := w_1 g3 (by omega) (by omega)
        exact ihA h x1 x2 w3 u4 (c + 1) S h1 h2 g3 (by omega) (by omega) A O (fun q a b => fP_skip (F q a b) (fun z => nl z.1))
      refine d236_51 S h1 h2 h3 ⟨fun e => ⟨S, A, fun q a b => ⟨O q a b, ?_⟩⟩, fun e _ _ => ⟨fun e2 w3 u4 g3 => skip w3 u4 (by omega) (fun z => z.1 (by rw [← e103]; exact e2)) g3, fun e2 => ⟨fun e3 w4 g4 => ?_, fun e3 w3 u4 g3 => skip w3 u4 (by omega) (fun z => e3 (by rw [e90]; exact z.2)) g3⟩⟩⟩
      · have ec : c = V 72 19 := by omega
        rw [← ec]
        exact F q a b
      · exact ihB h x1 x2 x3 w4 c 0 S h1 h2 h3 g4 c0 (by omega) ⟨by rw [← e103]; exact e2, by rw [← e90]; exact e3⟩ (Int.le_refl _) (by decide) A O (fun q' a b => by omega) F
    · have e87 : vw h 87 c = V 87 c := A 87 c (by decide) (by decide) (by decide)
      have e88 : vw h 88 c = V 88 c := A 88 c (by decide) (by decide) (by decide)
      have ei : isI (vw h) (vw h 88 c) q ↔ InM V c q := by
        rw [e88]
        exact isI_c (fun j => A 80 j (by decide) (by decide) (by decide)) _ _
      -- to the next square, the heap changed at this one alone
      have next : ∀ (g : aH) (w4 : Int32), q < 576 → wS g → (∀ (c : Nat) j, (c ≠ 107 ∧ c ≠ 108 ∨ j ≠ q) → vw g c j = vw h c j) → fP V (vw g) yr (c + 1) q → w4.toInt = w32 (q + 1) → Pt n X zM236 83 [some (.ref 72), some (.int x1), some (.int x2), some (.int x3), some (.int w4)] [] g (qN (fun h' => wS h' ∧ R236 V yr k (vw h'))) := by
        intro g w4 lt S2 same f g4
        replace g4 := w_1 g4 (by omega) (by omega)
        refine ihB g x1 x2 x3 w4 c (q + 1) S2 h1 h2 h3 g4 c0 cN lv (by omega) (by omega) (fun c' j n1 n2 n3 => (same c' j (Or.inl ⟨n1, n2⟩)).trans (A c' j n1 n2 n3)) (fun q' a b => (same 109 q' (Or.inl (by decide))).trans (O q' a b)) (fun q' a b => ?_) (fun q' a b => fP_c (F2 q' (by omega) b) (same 107 q' (Or.inr (by omega))) (same 108 q' (Or.inr (by omega))))
        by_cases z : q' = q
        · rw [z]; exact f
        · exact fP_c (F1 q' a (by omega)) (same 107 q' (Or.inr z)) (same 108 q' (Or.inr z))
      refine d236_83 S h1 h2 h3 h4 ⟨fun e w3 u4 g3 => ?_, fun e _ _ => ⟨fun e2 _ _ => ⟨fun e3 => ⟨fun e4 w4 g4 => next h w4 e S (fun _ _ _ => rfl) (fP_same (F2 q (Int.le_refl _) e) c0 lv (ei.mp e2) e3 (by rw [e4, e87])) g4, fun e4 g S2 eg w4 g4 => next g w4 e S2 (fun c' j z => ?_) (fP_diff (F2 q (Int.le_refl _) e) c0 lv (ei.mp e2) e3 (by rw [← e87]; exact e4) ?_ ?_) g4⟩, fun e3 g S2 eg w4 g4 => next g w4 e S2 (fun c' j z => ?_) (fP_first (F2 q (Int.le_refl _) e) c0 lv (ei.mp e2) e3 (hf c c0 (by omega)) ?_ ?_) g4⟩, fun e2 w4 g4 => next h w4 e S (fun _ _ _ => rfl) (fP_skip (F2 q (Int.le_refl _) e) (fun z => e2 (ei.mpr z.2))) g4⟩⟩
      · replace g3 := w_1 g3 (by omega) (by omega)
        exact ihA h x1 x2 w3 u4 (c + 1) S h1 h2 g3 (by omega) (by omega) A O (fun q' a b => F1 q' a (by omega))
      · rw [eg]
        rcases z with z | z
        · exact up_c z.2
        · exact up_j z
      · rw [eg, up_c (by decide)]
      · rw [eg, up_s, b11]
      · rw [eg]
        rcases z with z | z
        · exact up_c z.1
        · exact up_j z
      · rw [eg, up_s, e87]
      · rw [eg, up_c (by decide)]
theorem l_236i {X : aX} {V : vS} {yr k : Int} (hN : 0 ≤ V 72 19 ∧ V 72 19 ≤ 300) (ho : 0 ≤ V 72 25 ∧ V 72 25 ≤ 40) (hf : ∀ c, 0 ≤ c → c < 300 → 0 ≤ V 87 c) : ∀ (n : Nat) (h : aH) (x1 x2 x3 : Int32) (q : Int), wS h → x1.toInt = yr → x2.toInt = k → x3.toInt = q → 0 ≤ q → q ≤ 576 → agF V (vw h) → out9 V (vw h) yr k q → (∀ q', 0 ≤ q' → q' < q → vw h 107 q' = -1 ∧ vw h 108 q' = 0) → Pt n X zM236 2 [some (.ref 72), some (.int x1), some (.int x2), some (.int x3), none] [] h (qN (fun h' => wS h' ∧ R236 V yr k (vw h'))) := by
  intro n
  induction n with
  | zero => exact fun _ _ _ _ _ _ _ _ _ _ _ _ _ _ => pt_z
  | succ n ih =>
    intro h x1 x2 x3 q S h1 h2 h3 q0 q6 A O F
    refine d236_2 S h1 h2 h3 ⟨fun e w3 u4 g3 => ?_, fun e _ _ h9 S9 e9 => ⟨?_, fun g S2 eg w3 g3 => ?_⟩⟩
    · have eq : q = 576 := by omega
      rw [eq] at O F
      exact (l_236 hN hf n).1 h x1 x2 w3 u4 0 S h1 h2 g3 (Int.le_refl _) hN.1 A O (fun q' a b => Or.inl ⟨(F q' a b).1, fun c' z1 z2 => by omega, (F q' a b).2⟩)
    · rw [e9, up_c (by decide), up_c (by decide), A 72 25 (by decide) (by decide) (by decide)]
      exact ho
    · replace g3 := w_1 g3 (by omega) (by omega)
      have A9 : agF V (vw h9) := fun c j n1 n2 n3 => by rw [e9, up_c n2, up_c n1]; exact A c j n1 n2 n3
      rw [b01b, iRem_pos q0 (by omega) (by decide) (by decide), iDiv_pos q0 (by omega) (by decide) (by decide)] at eg
      have eo : bI (isO (vw h9) (q % 24) (q / 24) yr k) = bI (isO V (q % 24) (q / 24) yr k) := bI_c (isO_c A9 _ _ _ _)
      refine ih g x1 x2 w3 (q + 1) S2 h1 h2 g3 (by omega) (by omega) (fun c j n1 n2 n3 => by rw [eg, up_c n3]; exact A9 c j n1 n2 n3) (fun q' a b => ?_) (fun q' a b => ?_)
      · by_cases z : q' = q
        · rw [z, eg, up_s, eo]
        · rw [eg, up_j z, e9, up_c (by decide), up_c (by decide)]
          exact O q' a (by omega)
      · by_cases z : q' = q
        · rw [z, eg, up_c (by decide), up_c (by decide), e9, up_c (by decide), up_s, up_s]
          exact ⟨rfl, b01⟩
        · rw [eg, up_c (by decide), up_c (by decide), e9, up_c (by decide), up_j z, up_j z, up_c (by decide)]
          exact F q' a (by omega)
theorem c_236 {n : Nat} {X : aX} {h : aH} {x1 x2 : Int32} {a1 a2 : Int} (S : wS h) (z1 : x1.toInt = a1) (z2 : x2.toInt = a2) (hp : (0 ≤ vw h 72 19 ∧ vw h 72 19 ≤ 300) ∧ (0 ≤ vw h 72 25 ∧ vw h 72 25 ≤ 40) ∧ ∀ c, 0 ≤ c → c < 300 → 0 ≤ vw h 87 c) : Pt n X zM236 0 [some (.ref 72), some (.int x1), some (.int x2), none, none] [] h (qN (fun h' => wS h' ∧ R236 (vw h) a1 a2 (vw h'))) :=
  pt_d (d236_0 S z1 z2 (fun w3 g3 => l_236i hp.1 hp.2.1 hp.2.2 n h x1 x2 w3 0 S z1 z2 g3 (Int.le_refl _) (by decide) (fun _ _ _ _ _ => rfl) (fun q' a b => by omega) (fun q' a b => by omega)))
end
section
-- ===== seasons: the model's faults =====
theorem d238_0 {n : Nat} {X : aX} {h : aH} {P : aH → Prop} {x1 x2 : Int32} {a1 a2 : Int} (S : wS h) (z1 : x1.toInt = a1) (z2 : x2.toInt = a2) (H : (∀ (w3 : Int32), w3.toInt = 0 → Pt n X zM238 2 [some (.ref 72), some (.int x1), some (.int x2), some (.int w3), none, none] [] h (qN P))) : Pt (n + 1) X zM238 0 [some (.ref 72), some (.int x1), some (.int x2), none, none, none] [] h (qN P) := by
  refine pt_iconst gx238_0 (fun v1 h1 => ?_)
  refine pt_d (pt_1 (fun n d => r_istoren (L' := [some (.ref 72), some (.int x1), some (.int x2), some (.int v1), none, none]) gx238_1 rfl rfl) ?_)
  exact H v1 h1
theorem d238_2 {n : Nat} {X : aX} {h : aH} {P : aH → Prop} {x1 x2 x3 : Int32} {a1 a2 a3 : Int} (S : wS h) (z1 : x1.toInt = a1) (z2 : x2.toInt = a2) (z3 : x3.toInt = a3) (H : ((576 ≤ a3 → (∀ (w3 : Int32) (u4_ : Option Value), w3.toInt = 0 → Pt n X zM238 24 [some (.ref 72), some (.int x1), some (.int x2), some (.int w3), u4_, none] [] h (qN P))) ∧ (a3 < 576 → (0 ≤ a3 → a3 < 576 → ∀ h_6 : aH, wS h_6 → vw h_6 = up (vw h) 110 a3 (bAnd 0 1) → (∀ (w3 : Int32), w3.toInt = w32 (a3 + 1) → Pt n X zM238 2 [some (.ref 72), some (.int x1), some (.int x2), some (.int w3), none, none] [] h_6 (qN P)))))) : Pt (n + 1) X zM238 2 [some (.ref 72), some (.int x1), some (.int x2), some (.int x3), none, none] [] h (qN P) := by
  refine pt_1 (fun n d => r_iloadn gx238_2 rfl) ?_
  refine pt_d (pt_sipush gx238_3 (fun v1 h1 => ?_))
  refine pt_d (pt_icmp_ge gx238_6 z3 h1 (fun e2 => ?_) (fun e2 => ?_))
  · have H := H.1 e2
    refine pt_d (pt_iconst gx238_22 (fun v3 h3 => ?_))
    refine pt_d (pt_1 (fun n d => r_istoren (L' := [some (.ref 72), some (.int x1), some (.int x2), some (.int v3), none, none]) gx238_23 rfl rfl) ?_)
    exact H v3 _ h3
  · have H := H.2 e2
    refine pt_d (pt_1 (fun n d => r_aloadn gx238_9 rfl) ?_)
    refine pt_d (pt_getR gx238_10 S tr_72_47 ?_)
    refine pt_d (pt_1 (fun n d => r_iloadn gx238_13 rfl) ?_)
    refine pt_d (pt_iconst gx238_14 (fun v5 h5 => ?_))
    refine pt_d (pt_zast (N' := 576) gx238_15 S tl_110 z3 h5 (fun h_6 S6 p6 q6 e6 => ?_))
    have H := H p6 q6
    refine pt_d (pt_iinc (c := 1) gx238_16 rfl z3 (fun v7 h7 => ?_))
    show Pt _ _ _ _ [some (.ref 72), some (.int x1), some (.int x2), some (.int v7), none, none] [] _ _
    refine pt_d (pt_1 (fun n d => r_goto gx238_19) ?_)
    have H := H h_6 S6 (by rw [e6])
    exact H v7 h7
theorem d238_24 {n : Nat} {X : aX} {h : aH} {P : aH → Prop} {x1 x2 x3 : Int32} {a1 a2 a3 : Int} {u4 : Option Value} (S : wS h) (z1 : x1.toInt = a1) (z2 : x2.toInt = a2) (z3 : x3.toInt = a3) (H : ((vw h 72 19 ≤ a3 → (∀ (w3 : Int32) (w4 : Int32) (w5 : Int32), w3.toInt = 0 → w4.toInt = 0 → w5.toInt = 0 → Pt n X zM238 151 [some (.ref 72), some (.int x1), some (.int x2), some (.int w3), some (.int w4), some (.int w5)] [] h (qN P))) ∧ (a3 < vw h 72 19 → (0 ≤ a3 → a3 < 300 → ((vw h 103 a3 = 0 → (∀ (w3 : Int32) (u4_ : Option Value), w3.toInt = w32 (a3 + 1) → Pt n X zM238 24 [some (.ref 72), some (.int x1), some (.int x2), some (.int w3), u4_, none] [] h (qN P))) ∧ (vw h 103 a3 ≠ 0 → ((iDiv ((vw h) 90 a3) 365 ≠ a2 → (∀ (w3 : Int32) (u4_ : Option Value), w3.toInt = w32 (a3 + 1) → Pt n X zM238 24 [some (.ref 72), some (.int x1), some (.int x2), some (.int w3), u4_, none] [] h (qN P))) ∧ (iDiv ((vw h) 90 a3) 365 = a2 → (0 ≤ a1 → a1 < 300 → ((vw h 87 a3 ≠ vw h 87 a1 → (∀ (w3 : Int32) (u4_ : Option Value), w3.toInt = w32 (a3 + 1) → Pt n X zM238 24 [some (.ref 72), some (.int x1), some (.int x2), some (.int w3), u4_, none] [] h (qN P))) ∧ (vw h 87 a3 = vw h 87 a1 → ((vw h 88 a3 < vw h 88 a1 → (∀ (w4 : Int32), w4.toInt = 0 → Pt n X zM238 86 [some (.ref 72), some (.int x1), some (.int x2), some (.int x3), some (.int w4), none] [] h (qN P))) ∧ (vw h 88 a1 ≤ vw h 88 a3 → (∀ (w3 : Int32) (u4_ : Option Value), w3.toInt = w32 (a3 + 1) → Pt n X zM238 24 [some (.ref 72), some (.int x1), some (.int x2), some (.int w3), u4_, none] [] h (qN P))))))))))))))) : Pt (n + 1) X zM238 24 [some (.ref 72), some (.int x1), some (.int x2), some (.int x3), u4, none] [] h (qN P) := by
  refine pt_1 (fun n d => r_iloadn gx238_24 rfl) ?_
  refine pt_d (pt_1 (fun n d => r_aloadn gx238_25 rfl) ?_)
  refine pt_d (pt_getI (B := 19) gx238_26 S (fun v1 h1 => ?_))
  refine pt_d (pt_icmp_ge gx238_29 z3 h1 (fun e2 => ?_) (fun e2 => ?_))
  · have H := H.1 e2
    refine pt_d (pt_iconst gx238_143 (fun v3 h3 => ?_))
    refine pt_d (pt_1 (fun n d => r_istoren (L' := [some (.ref 72), some (.int x1), some (.int x2), some (.int v3), u4, none]) gx238_144 rfl rfl) ?_)
    refine pt_d (pt_iconst gx238_145 (fun v4 h4 => ?_))
    refine pt_d (pt_1 (fun n d => r_istore (L' := [some (.ref 72), some (.int x1), some (.int x2), some (.int v3), some (.int v4), none]) gx238_146 rfl rfl) ?_)
    refine pt_d (pt_iconst gx238_148 (fun v5 h5 => ?_))
    refine pt_d (pt_1 (fun n d => r_istore (L' := [some (.ref 72), some (.int x1), some (.int x2), some (.int v3), some (.int v4), some (.int v5)]) gx238_149 rfl rfl) ?_)
    exact H v3 v4 v5 h3 h4 h5
  · have H := H.2 e2
    refine pt_d (pt_1 (fun n d => r_aloadn gx238_32 rfl) ?_)
    refine pt_d (pt_getR gx238_33 S tr_72_40 ?_)
    refine pt_d (pt_1 (fun n d => r_iloadn gx238_36 rfl) ?_)
    refine pt_d (pt_zald (N' := 300) gx238_37 S tl_103 z3 (fun v7 p7 q7 h7 => ?_))
    have H := H p7 q7
    refine pt_d (pt_if_eq gx238_38 h7 (fun e8 => ?_) (fun e8 => ?_))
    · have H := H.1 e8
      refine pt_d (pt_iinc (c := 1) gx238_137 rfl z3 (fun v9 h9 => ?_))
      show Pt _ _ _ _ [some (.ref 72), some (.int x1), some (.int x2), some (.int v9), u4, none] [] _ _
      refine pt_d (pt_1 (fun n d => r_goto gx238_140) ?_)
      exact H v9 _ h9
    · have H := H.2 e8
      refine pt_d (pt_1 (fun n d => r_aloadn gx238_41 rfl) ?_)
      refine pt_d (pt_1 (fun n d => r_iloadn gx238_42 rfl) ?_)
      refine pt_d (pt_virt (as := [.int x3]) (r := []) gx238_43 rfl (show zmt[229]? = some zM229 from rfl) rfl rfl rfl rfl (c_229 S z3) (kqP (fun v10 h10 => ?_)))
      show Pt _ _ _ 46 _ [.int v10] _ _
      refine pt_d (pt_1 (fun n d => r_iloadn gx238_46 rfl) ?_)
      refine pt_d (pt_icmp_ne gx238_47 h10 z2 (fun e11 => ?_) (fun e11 => ?_))
      · have H := H.1 e11
        refine pt_d (pt_iinc (c := 1) gx238_137 rfl z3 (fun v12 h12 => ?_))
        show Pt _ _ _ _ [some (.ref 72), some (.int x1), some (.int x2), some (.int v12), u4, none] [] _ _
        refine pt_d (pt_1 (fun n d => r_goto gx238_140) ?_)
        exact H v12 _ h12
      · have H := H.2 e11
        refine pt_d (pt_1 (fun n d => r_aloadn gx238_50 rfl) ?_)
        refine pt_d (pt_getR gx238_51 S tr_72_20 ?_)
        refine pt_d (pt_1 (fun n d => r_iloadn gx238_54 rfl) ?_)
        refine pt_d (pt_iald (N' := 300) gx238_55 S tl_87 z3 (fun v14 p14 q14 h14 => ?_))
        refine pt_d (pt_1 (fun n d => r_aloadn gx238_56 rfl) ?_)
        refine pt_d (pt_getR gx238_57 S tr_72_20 ?_)
        refine pt_d (pt_1 (fun n d => r_iloadn gx238_60 rfl) ?_)
        refine pt_d (pt_iald (N' := 300) gx238_61 S tl_87 z1 (fun v16 p16 q16 h16 => ?_))
        have H := H p16 q16
        refine pt_d (pt_icmp_ne gx238_62 h14 h16 (fun e17 => ?_) (fun e17 => ?_))
        · have H := H.1 e17
          refine pt_d (pt_iinc (c := 1) gx238_137 rfl z3 (fun v18 h18 => ?_))
          show Pt _ _ _ _ [some (.ref 72), some (.int x1), some (.int x2), some (.int v18), u4, none] [] _ _
          refine pt_d (pt_1 (fun n d => r_goto gx238_140) ?_)
          exact H v18 _ h18
        · have H := H.2 e17
          refine pt_d (pt_1 (fun n d => r_aloadn gx238_65 rfl) ?_)
          refine pt_d (pt_getR gx238_66 S tr_72_21 ?_)
          refine pt_d (pt_1 (fun n d => r_iloadn gx238_69 rfl) ?_)
          refine pt_d (pt_iald (N' := 300) gx238_70 S tl_88 z3 (fun v20 p20 q20 h20 => ?_))
          refine pt_d (pt_1 (fun n d => r_aloadn gx238_71 rfl) ?_)
          refine pt_d (pt_getR gx238_72 S tr_72_21 ?_)
          refine pt_d (pt_1 (fun n d => r_iloadn gx238_75 rfl) ?_)
          refine pt_d (pt_iald (N' := 300) gx238_76 S tl_88 z1 (fun v22 p22 q22 h22 => ?_))
          refine pt_d (pt_icmp_lt gx238_77 h20 h22 (fun e23 => ?_) (fun e23 => ?_))
          · have H := H.1 e23
            refine pt_d (pt_iconst gx238_83 (fun v24 h24 => ?_))
            refine pt_d (pt_1 (fun n d => r_istore (L' := [some (.ref 72), some (.int x1), some (.int x2), some (.int x3), some (.int v24), none]) gx238_84 rfl rfl) ?_)
            exact H v24 h24
          · have H := H.2 e23
            refine pt_d (pt_1 (fun n d => r_goto gx238_80) ?_)
            refine pt_d (pt_iinc (c := 1) gx238_137 rfl z3 (fun v25 h25 => ?_))
            show Pt _ _ _ _ [some (.ref 72), some (.int x1), some (.int x2), some (.int v25), u4, none] [] _ _
            refine pt_d (pt_1 (fun n d => r_goto gx238_140) ?_)
            exact H v25 _ h25
theorem d238_86 {n : Nat} {X : aX} {h : aH} {P : aH → Prop} {x1 x2 x3 x4 : Int32} {a1 a2 a3 a4 : Int} (S : wS h) (z1 : x1.toInt = a1) (z2 : x2.toInt = a2) (z3 : x3.toInt = a3) (z4 : x4.toInt = a4) (H : ((576 ≤ a4 → (∀ (w3 : Int32) (u4_ : Option Value), w3.toInt = w32 (a3 + 1) → Pt n X zM238 24 [some (.ref 72), some (.int x1), some (.int x2), some (.int w3), u4_, none] [] h (qN P))) ∧ (a4 < 576 → (0 ≤ a4 → a4 < 576 → ((vw h 110 a4 ≠ 0 → ∀ h_9 : aH, wS h_9 → vw h_9 = up (vw h) 110 a4 (bAnd 1 1) → (∀ (w4 : Int32), w4.toInt = w32 (a4 + 1) → Pt n X zM238 86 [some (.ref 72), some (.int x1), some (.int x2), some (.int x3), some (.int w4), none] [] h_9 (qN P))) ∧ (vw h 110 a4 = 0 → (0 ≤ a3 → a3 < 300 → ((¬ (isI (vw h) (vw h 88 a3) a4) → ∀ h_16 : aH, wS h_16 → vw h_16 = up (vw h) 110 a4 (bAnd 0 1) → (∀ (w4 : Int32), w4.toInt = w32 (a4 + 1) → Pt n X zM238 86 [some (.ref 72), some (.int x1), some (.int x2), some (.int x3), some (.int w4), none] [] h_16 (qN P))) ∧ ((isI (vw h) (vw h 88 a3) a4) → ∀ h_19 : aH, wS h_19 → vw h_19 = up (vw h) 110 a4 (bAnd 1 1) → (∀ (w4 : Int32), w4.toInt = w32 (a4 + 1) → Pt n X zM238 86 [some (.ref 72), some (.int x1), some (.int x2), some (.int x3), some (.int w4), none] [] h_19 (qN P))))))))))) : Pt (n + 1) X zM238 86 [some (.ref 72), some (.int x1), some (.int x2), some (.int x3), some (.int x4), none] [] h (qN P) := by
  refine pt_1 (fun n d => r_iload gx238_86 rfl) ?_
  refine pt_d (pt_sipush gx238_88 (fun v1 h1 => ?_))
  refine pt_d (pt_icmp_ge gx238_91 z4 h1 (fun e2 => ?_) (fun e2 => ?_))
  · have H := H.1 e2
    refine pt_d (pt_iinc (c := 1) gx238_137 rfl z3 (fun v3 h3 => ?_))
    show Pt _ _ _ _ [some (.ref 72), some (.int x1), some (.int x2), some (.int v3), some (.int x4), none] [] _ _
    refine pt_d (pt_1 (fun n d => r_goto gx238_140) ?_)
    exact H v3 _ h3
  · have H := H.2 e2
    refine pt_d (pt_1 (fun n d => r_aloadn gx238_94 rfl) ?_)
    refine pt_d (pt_getR gx238_95 S tr_72_47 ?_)
    refine pt_d (pt_1 (fun n d => r_iload gx238_98 rfl) ?_)
    refine pt_d (pt_1 (fun n d => r_aloadn gx238_100 rfl) ?_)
    refine pt_d (pt_getR gx238_101 S tr_72_47 ?_)
    refine pt_d (pt_1 (fun n d => r_iload gx238_104 rfl) ?_)
    refine pt_d (pt_zald (N' := 576) gx238_106 S tl_110 z4 (fun v6 p6 q6 h6 => ?_))
    have H := H p6 q6
    refine pt_d (pt_if_ne gx238_107 h6 (fun e7 => ?_) (fun e7 => ?_))
    · have H := H.1 e7
      refine pt_d (pt_iconst gx238_125 (fun v8 h8 => ?_))
      refine pt_d (pt_1 (fun n d => r_goto gx238_126) ?_)
      refine pt_d (pt_zast (N' := 576) gx238_130 S tl_110 z4 h8 (fun h_9 S9 p9 q9 e9 => ?_))
      refine pt_d (pt_iinc (c := 1) gx238_131 rfl z4 (fun v10 h10 => ?_))
      show Pt _ _ _ _ [some (.ref 72), some (.int x1), some (.int x2), some (.int x3), some (.int v10), none] [] _ _
      refine pt_d (pt_1 (fun n d => r_goto gx238_134) ?_)
      have H := H h_9 S9 (by rw [e9])
      exact H v10 h10
    · have H := H.2 e7
      refine pt_d (pt_1 (fun n d => r_aloadn gx238_110 rfl) ?_)
      refine pt_d (pt_1 (fun n d => r_aloadn gx238_111 rfl) ?_)
      refine pt_d (pt_getR gx238_112 S tr_72_21 ?_)
      refine pt_d (pt_1 (fun n d => r_iloadn gx238_115 rfl) ?_)
      refine pt_d (pt_iald (N' := 300) gx238_116 S tl_88 z3 (fun v12 p12 q12 h12 => ?_))
      have H := H p12 q12
      refine pt_d (pt_1 (fun n d => r_iload gx238_117 rfl) ?_)
      refine pt_d (pt_virt (as := [.int v12, .int x4]) (r := [.int x4, .ref 110]) gx238_119 rfl (show zmt[235]? = some zM235 from rfl) rfl rfl rfl rfl (c_235 S h12 z4) (kqP (fun v13 h13 => ?_)))
      show Pt _ _ _ 122 _ [.int v13, .int x4, .ref 110] _ _
      refine pt_d (pt_ifB_eq gx238_122 h13 (fun e14 => ?_) (fun e14 => ?_))
      · have H := H.1 e14
        refine pt_d (pt_iconst gx238_129 (fun v15 h15 => ?_))
        refine pt_d (pt_zast (N' := 576) gx238_130 S tl_110 z4 h15 (fun h_16 S16 p16 q16 e16 => ?_))
        refine pt_d (pt_iinc (c := 1) gx238_131 rfl z4 (fun v17 h17 => ?_))
        show Pt _ _ _ _ [some (.ref 72), some (.int x1), some (.int x2), some (.int x3), some (.int v17), none] [] _ _
        refine pt_d (pt_1 (fun n d => r_goto gx238_134) ?_)
        have H := H h_16 S16 (by rw [e16])
        exact H v17 h17
      · have H := H.2 e14
        refine pt_d (pt_iconst gx238_125 (fun v18 h18 => ?_))
        refine pt_d (pt_1 (fun n d => r_goto gx238_126) ?_)
        refine pt_d (pt_zast (N' := 576) gx238_130 S tl_110 z4 h18 (fun h_19 S19 p19 q19 e19 => ?_))
        refine pt_d (pt_iinc (c := 1) gx238_131 rfl z4 (fun v20 h20 => ?_))
        show Pt _ _ _ _ [some (.ref 72), some (.int x1), some (.int x2), some (.int x3), some (.int v20), none] [] _ _
        refine pt_d (pt_1 (fun n d => r_goto gx238_134) ?_)
        have H := H h_19 S19 (by rw [e19])
        exact H v20 h20
theorem d238_151 {n : Nat} {X : aX} {h : aH} {P : aH → Prop} {x1 x2 x3 x4 x5 : Int32} {a1 a2 a3 a4 a5 : Int} (S : wS h) (z1 : x1.toInt = a1) (z2 : x2.toInt = a2) (z3 : x3.toInt = a3) (z4 : x4.toInt = a4) (z5 : x5.toInt = a5) (H : ((576 ≤ a5 → (0 ≤ a1 → a1 < 300 → ∀ h_6 : aH, wS h_6 → vw h_6 = up (up (vw h) 104 a1 a3) 106 a1 a4 → P h_6)) ∧ (a5 < 576 → (0 ≤ a1 → a1 < 300 → (((isI (vw h) (vw h 88 a1) a5) → (0 ≤ a5 → a5 < 576 → ((vw h 108 a5 = 0 → ((vw h 108 a5 ≠ 0 → (∀ (w3 : Int32) (w4 : Int32) (w5 : Int32), w3.toInt = w32 (a3 + 0) → w4.toInt = w32 (a4 + 0) → w5.toInt = w32 (a5 + 1) → Pt n X zM238 151 [some (.ref 72), some (.int x1), some (.int x2), some (.int w3), some (.int w4), some (.int w5)] [] h (qN P))) ∧ (vw h 108 a5 = 0 → ((vw h 109 a5 ≠ 0 → (∀ (w3 : Int32) (w4 : Int32) (w5 : Int32), w3.toInt = w32 (a3 + 0) → w4.toInt = w32 (a4 + 0) → w5.toInt = w32 (a5 + 1) → Pt n X zM238 151 [some (.ref 72), some (.int x1), some (.int x2), some (.int w3), some (.int w4), some (.int w5)] [] h (qN P))) ∧ (vw h 109 a5 = 0 → ((vw h 110 a5 = 0 → (∀ (w3 : Int32) (w4 : Int32) (w5 : Int32), w3.toInt = w32 (a3 + 1) → w4.toInt = w32 (a4 + 0) → w5.toInt = w32 (a5 + 1) → Pt n X zM238 151 [some (.ref 72), some (.int x1), some (.int x2), some (.int w3), some (.int w4), some (.int w5)] [] h (qN P))) ∧ (vw h 110 a5 ≠ 0 → (∀ (w3 : Int32) (w4 : Int32) (w5 : Int32), w3.toInt = w32 (a3 + 0) → w4.toInt = w32 (a4 + 0) → w5.toInt = w32 (a5 + 1) → Pt n X zM238 151 [some (.ref 72), some (.int x1), some (.int x2), some (.int w3), some (.int w4), some (.int w5)] [] h (qN P))))))))) ∧ (vw h 108 a5 ≠ 0 → ((vw h 108 a5 ≠ 0 → (∀ (w3 : Int32) (w4 : Int32) (w5 : Int32), w3.toInt = w32 (a3 + 0) → w4.toInt = w32 (a4 + 1) → w5.toInt = w32 (a5 + 1) → Pt n X zM238 151 [some (.ref 72), some (.int x1), some (.int x2), some (.int w3), some (.int w4), some (.int w5)] [] h (qN P))) ∧ (vw h 108 a5 = 0 → ((vw h 109 a5 ≠ 0 → (∀ (w3 : Int32) (w4 : Int32) (w5 : Int32), w3.toInt = w32 (a3 + 0) → w4.toInt = w32 (a4 + 1) → w5.toInt = w32 (a5 + 1) → Pt n X zM238 151 [some (.ref 72), some (.int x1), some (.int x2), some (.int w3), some (.int w4), some (.int w5)] [] h (qN P))) ∧ (vw h 109 a5 = 0 → ((vw h 110 a5 = 0 → (∀ (w3 : Int32) (w4 : Int32) (w5 : Int32), w3.toInt = w32 (a3 + 1) → w4.toInt = w32 (a4 + 1) → w5.toInt = w32 (a5 + 1) → Pt n X zM238 151 [some (.ref 72), some (.int x1), some (.int x2), some (.int w3), some (.int w4), some (.int w5)] [] h (qN P))) ∧ (vw h 110 a5 ≠ 0 → (∀ (w3 : Int32) (w4 : Int32) (w5 : Int32), w3.toInt = w32 (a3 + 0) → w4.toInt = w32 (a4 + 1) → w5.toInt = w32 (a5 + 1) → Pt n X zM238 151 [some (.ref 72), some (.int x1), some (.int x2), some (.int w3), some (.int w4), some (.int w5)] [] h (qN P)))))))))))) ∧ (¬ (isI (vw h) (vw h 88 a1) a5) → (∀ (w5 : Int32), w5.toInt = w32 (a5 + 1) → Pt n X zM238 151 [some (.ref 72), some (.int x1), some (.int x2), some (.int x3), some (.int x4), some (.int w5)] [] h (qN P)))))))) : Pt (n + 1) X zM238 151 [some (.ref 72), some (.int x1), some (.int x2), some (.int x3), some (.int x4), some (.int x5)] [] h (qN P) := by
  refine pt_1 (fun n d => r_iload gx238_151 rfl) ?_
  refine pt_d (pt_sipush gx238_153 (fun v1 h1 => ?_))
  refine pt_d (pt_icmp_ge gx238_156 z5 h1 (fun e2 => ?_) (fun e2 => ?_))
  · have H := H.1 e2
    refine pt_d (pt_1 (fun n d => r_aloadn gx238_241 rfl) ?_)
    refine pt_d (pt_getR gx238_242 S tr_72_41 ?_)
    refine pt_d (pt_1 (fun n d => r_iloadn gx238_245 rfl) ?_)
    refine pt_d (pt_1 (fun n d => r_iloadn gx238_246 rfl) ?_)
    refine pt_d (pt_iast (N' := 300) gx238_247 S tl_104 z1 z3 (fun h_4 S4 p4 q4 e4 => ?_))
    have H := H p4 q4
    refine pt_d (pt_1 (fun n d => r_aloadn gx238_248 rfl) ?_)
    refine pt_d (pt_getR gx238_249 S4 tr_72_43 ?_)
    refine pt_d (pt_1 (fun n d => r_iloadn gx238_252 rfl) ?_)
    refine pt_d (pt_1 (fun n d => r_iload gx238_253 rfl) ?_)
    refine pt_d (pt_iast (N' := 300) gx238_255 S4 tl_106 z1 z4 (fun h_6 S6 p6 q6 e6 => ?_))
    have H := H h_6 S6 (by rw [e6, e4])
    exact pt_d (pt_vret gx238_256 ⟨rfl, H⟩)
  · have H := H.2 e2
    refine pt_d (pt_1 (fun n d => r_aloadn gx238_159 rfl) ?_)
    refine pt_d (pt_1 (fun n d => r_aloadn gx238_160 rfl) ?_)
    refine pt_d (pt_getR gx238_161 S tr_72_21 ?_)
    refine pt_d (pt_1 (fun n d => r_iloadn gx238_164 rfl) ?_)
    refine pt_d (pt_iald (N' := 300) gx238_165 S tl_88 z1 (fun v8 p8 q8 h8 => ?_))
    have H := H p8 q8
    refine pt_d (pt_1 (fun n d => r_iload gx238_166 rfl) ?_)
    refine pt_d (pt_virt (as := [.int v8, .int x5]) (r := []) gx238_168 rfl (show zmt[235]? = some zM235 from rfl) rfl rfl rfl rfl (c_235 S h8 z5) (kqP (fun v9 h9 => ?_)))
    show Pt _ _ _ 171 _ [.int v9] _ _
    refine pt_d (pt_ifB_ne gx238_171 h9 (fun e10 => ?_) (fun e10 => ?_))
    · have H := H.1 e10
      refine pt_d (pt_1 (fun n d => r_iload gx238_177 rfl) ?_)
      refine pt_d (pt_1 (fun n d => r_aloadn gx238_179 rfl) ?_)
      refine pt_d (pt_getR gx238_180 S tr_72_45 ?_)
      refine pt_d (pt_1 (fun n d => r_iload gx238_183 rfl) ?_)
      refine pt_d (pt_zald (N' := 576) gx238_185 S tl_108 z5 (fun v12 p12 q12 h12 => ?_))
      have H := H p12 q12
      refine pt_d (pt_if_eq gx238_186 h12 (fun e13 => ?_) (fun e13 => ?_))
      · have H := H.1 e13
        refine pt_d (pt_iconst gx238_193 (fun v14 h14 => ?_))
        refine pt_d (pt_iadd gx238_194 z4 h14 (fun v15 h15 => ?_))
        refine pt_d (pt_1 (fun n d => r_istore (L' := [some (.ref 72), some (.int x1), some (.int x2), some (.int x3), some (.int v15), some (.int x5)]) gx238_195 rfl rfl) ?_)
        refine pt_d (pt_1 (fun n d => r_iloadn gx238_197 rfl) ?_)
        refine pt_d (pt_1 (fun n d => r_aloadn gx238_198 rfl) ?_)
        refine pt_d (pt_getR gx238_199 S tr_72_45 ?_)
        refine pt_d (pt_1 (fun n d => r_iload gx238_202 rfl) ?_)
        refine pt_d (pt_zald (N' := 576) gx238_204 S tl_108 z5 (fun v17 p17 q17 h17 => ?_))
        refine pt_d (pt_if_ne gx238_205 h17 (fun e18 => ?_) (fun e18 => ?_))
        · have H := H.1 e18
          refine pt_d (pt_iconst gx238_228 (fun v19 h19 => ?_))
          refine pt_d (pt_1 (fun n d => r_goto gx238_229) ?_)
          refine pt_d (pt_iadd gx238_233 z3 h19 (fun v20 h20 => ?_))
          refine pt_d (pt_1 (fun n d => r_istoren (L' := [some (.ref 72), some (.int x1), some (.int x2), some (.int v20), some (.int v15), some (.int x5)]) gx238_234 rfl rfl) ?_)
          refine pt_d (pt_iinc (c := 1) gx238_235 rfl z5 (fun v21 h21 => ?_))
          show Pt _ _ _ _ [some (.ref 72), some (.int x1), some (.int x2), some (.int v20), some (.int v15), some (.int v21)] [] _ _
          refine pt_d (pt_1 (fun n d => r_goto gx238_238) ?_)
          exact H v20 v15 v21 h20 h15 h21
        · have H := H.2 e18
          refine pt_d (pt_1 (fun n d => r_aloadn gx238_208 rfl) ?_)
          refine pt_d (pt_getR gx238_209 S tr_72_46 ?_)
          refine pt_d (pt_1 (fun n d => r_iload gx238_212 rfl) ?_)
          refine pt_d (pt_zald (N' := 576) gx238_214 S tl_109 z5 (fun v23 p23 q23 h23 => ?_))
          refine pt_d (pt_if_ne gx238_215 h23 (fun e24 => ?_) (fun e24 => ?_))
          · have H := H.1 e24
            refine pt_d (pt_iconst gx238_228 (fun v25 h25 => ?_))
            refine pt_d (pt_1 (fun n d => r_goto gx238_229) ?_)
            refine pt_d (pt_iadd gx238_233 z3 h25 (fun v26 h26 => ?_))
            refine pt_d (pt_1 (fun n d => r_istoren (L' := [some (.ref 72), some (.int x1), some (.int x2), some (.int v26), some (.int v15), some (.int x5)]) gx238_234 rfl rfl) ?_)
            refine pt_d (pt_iinc (c := 1) gx238_235 rfl z5 (fun v27 h27 => ?_))
            show Pt _ _ _ _ [some (.ref 72), some (.int x1), some (.int x2), some (.int v26), some (.int v15), some (.int v27)] [] _ _
            refine pt_d (pt_1 (fun n d => r_goto gx238_238) ?_)
            exact H v26 v15 v27 h26 h15 h27
          · have H := H.2 e24
            refine pt_d (pt_1 (fun n d => r_aloadn gx238_218 rfl) ?_)
            refine pt_d (pt_getR gx238_219 S tr_72_47 ?_)
            refine pt_d (pt_1 (fun n d => r_iload gx238_222 rfl) ?_)
            refine pt_d (pt_zald (N' := 576) gx238_224 S tl_110 z5 (fun v29 p29 q29 h29 => ?_))
            refine pt_d (pt_if_eq gx238_225 h29 (fun e30 => ?_) (fun e30 => ?_))
            · have H := H.1 e30
              refine pt_d (pt_iconst gx238_232 (fun v31 h31 => ?_))
              refine pt_d (pt_iadd gx238_233 z3 h31 (fun v32 h32 => ?_))
              refine pt_d (pt_1 (fun n d => r_istoren (L' := [some (.ref 72), some (.int x1), some (.int x2), some (.int v32), some (.int v15), some (.int x5)]) gx238_234 rfl rfl) ?_)
              refine pt_d (pt_iinc (c := 1) gx238_235 rfl z5 (fun v33 h33 => ?_))
              show Pt _ _ _ _ [some (.ref 72), some (.int x1), some (.int x2), some (.int v32), some (.int v15), some (.int v33)] [] _ _
              refine pt_d (pt_1 (fun n d => r_goto gx238_238) ?_)
              exact H v32 v15 v33 h32 h15 h33
            · have H := H.2 e30
              refine pt_d (pt_iconst gx238_228 (fun v34 h34 => ?_))
              refine pt_d (pt_1 (fun n d => r_goto gx238_229) ?_)
              refine pt_d (pt_iadd gx238_233 z3 h34 (fun v35 h35 => ?_))
              refine pt_d (pt_1 (fun n d => r_istoren (L' := [some (.ref 72), some (.int x1), some (.int x2), some (.int v35), some (.int v15), some (.int x5)]) gx238_234 rfl rfl) ?_)
              refine pt_d (pt_iinc (c := 1) gx238_235 rfl z5 (fun v36 h36 => ?_))
              show Pt _ _ _ _ [some (.ref 72), some (.int x1), some (.int x2), some (.int v35), some (.int v15), some (.int v36)] [] _ _
              refine pt_d (pt_1 (fun n d => r_goto gx238_238) ?_)
              exact H v35 v15 v36 h35 h15 h36
      · have H := H.2 e13
        refine pt_d (pt_iconst gx238_189 (fun v37 h37 => ?_))
        refine pt_d (pt_1 (fun n d => r_goto gx238_190) ?_)
        refine pt_d (pt_iadd gx238_194 z4 h37 (fun v38 h38 => ?_))
        refine pt_d (pt_1 (fun n d => r_istore (L' := [some (.ref 72), some (.int x1), some (.int x2), some (.int x3), some (.int v38), some (.int x5)]) gx238_195 rfl rfl) ?_)
        refine pt_d (pt_1 (fun n d => r_iloadn gx238_197 rfl) ?_)
        refine pt_d (pt_1 (fun n d => r_aloadn gx238_198 rfl) ?_)
        refine pt_d (pt_getR gx238_199 S tr_72_45 ?_)
        refine pt_d (pt_1 (fun n d => r_iload gx238_202 rfl) ?_)
        refine pt_d (pt_zald (N' := 576) gx238_204 S tl_108 z5 (fun v40 p40 q40 h40 => ?_))
        refine pt_d (pt_if_ne gx238_205 h40 (fun e41 => ?_) (fun e41 => ?_))
        · have H := H.1 e41
          refine pt_d (pt_iconst gx238_228 (fun v42 h42 => ?_))
          refine pt_d (pt_1 (fun n d => r_goto gx238_229) ?_)
          refine pt_d (pt_iadd gx238_233 z3 h42 (fun v43 h43 => ?_))
          refine pt_d (pt_1 (fun n d => r_istoren (L' := [some (.ref 72), some (.int x1), some (.int x2), some (.int v43), some (.int v38), some (.int x5)]) gx238_234 rfl rfl) ?_)
          refine pt_d (pt_iinc (c := 1) gx238_235 rfl z5 (fun v44 h44 => ?_))
          show Pt _ _ _ _ [some (.ref 72), some (.int x1), some (.int x2), some (.int v43), some (.int v38), some (.int v44)] [] _ _
          refine pt_d (pt_1 (fun n d => r_goto gx238_238) ?_)
          exact H v43 v38 v44 h43 h38 h44
        · have H := H.2 e41
          refine pt_d (pt_1 (fun n d => r_aloadn gx238_208 rfl) ?_)
          refine pt_d (pt_getR gx238_209 S tr_72_46 ?_)
          refine pt_d (pt_1 (fun n d => r_iload gx238_212 rfl) ?_)
          refine pt_d (pt_zald (N' := 576) gx238_214 S tl_109 z5 (fun v46 p46 q46 h46 => ?_))
          refine pt_d (pt_if_ne gx238_215 h46 (fun e47 => ?_) (fun e47 => ?_))
          · have H := H.1 e47
            refine pt_d (pt_iconst gx238_228 (fun v48 h48 => ?_))
            refine pt_d (pt_1 (fun n d => r_goto gx238_229) ?_)
            refine pt_d (pt_iadd gx238_233 z3 h48 (fun v49 h49 => ?_))
            refine pt_d (pt_1 (fun n d => r_istoren (L' := [some (.ref 72), some (.int x1), some (.int x2), some (.int v49), some (.int v38), some (.int x5)]) gx238_234 rfl rfl) ?_)
            refine pt_d (pt_iinc (c := 1) gx238_235 rfl z5 (fun v50 h50 => ?_))
            show Pt _ _ _ _ [some (.ref 72), some (.int x1), some (.int x2), some (.int v49), some (.int v38), some (.int v50)] [] _ _
            refine pt_d (pt_1 (fun n d => r_goto gx238_238) ?_)
            exact H v49 v38 v50 h49 h38 h50
          · have H := H.2 e47
            refine pt_d (pt_1 (fun n d => r_aloadn gx238_218 rfl) ?_)
            refine pt_d (pt_getR gx238_219 S tr_72_47 ?_)
            refine pt_d (pt_1 (fun n d => r_iload gx238_222 rfl) ?_)
            refine pt_d (pt_zald (N' := 576) gx238_224 S tl_110 z5 (fun v52 p52 q52 h52 => ?_))
            refine pt_d (pt_if_eq gx238_225 h52 (fun e53 => ?_) (fun e53 => ?_))
            · have H := H.1 e53
              refine pt_d (pt_iconst gx238_232 (fun v54 h54 => ?_))
              refine pt_d (pt_iadd gx238_233 z3 h54 (fun v55 h55 => ?_))
              refine pt_d (pt_1 (fun n d => r_istoren (L' := [some (.ref 72), some (.int x1), some (.int x2), some (.int v55), some (.int v38), some (.int x5)]) gx238_234 rfl rfl) ?_)
              refine pt_d (pt_iinc (c := 1) gx238_235 rfl z5 (fun v56 h56 => ?_))
              show Pt _ _ _ _ [some (.ref 72), some (.int x1), some (.int x2), some (.int v55), some (.int v38), some (.int v56)] [] _ _
              refine pt_d (pt_1 (fun n d => r_goto gx238_238) ?_)
              exact H v55 v38 v56 h55 h38 h56
            · have H := H.2 e53
              refine pt_d (pt_iconst gx238_228 (fun v57 h57 => ?_))
              refine pt_d (pt_1 (fun n d => r_goto gx238_229) ?_)
              refine pt_d (pt_iadd gx238_233 z3 h57 (fun v58 h58 => ?_))
              refine pt_d (pt_1 (fun n d => r_istoren (L' := [some (.ref 72), some (.int x1), some (.int x2), some (.int v58), some (.int v38), some (.int x5)]) gx238_234 rfl rfl) ?_)
              refine pt_d (pt_iinc (c := 1) gx238_235 rfl z5 (fun v59 h59 => ?_))
              show Pt _ _ _ _ [some (.ref 72), some (.int x1), some (.int x2), some (.int v58), some (.int v38), some (.int v59)] [] _ _
              refine pt_d (pt_1 (fun n d => r_goto gx238_238) ?_)
              exact H v58 v38 v59 h58 h38 h59
    · have H := H.2 e10
      refine pt_d (pt_1 (fun n d => r_goto gx238_174) ?_)
      refine pt_d (pt_iinc (c := 1) gx238_235 rfl z5 (fun v60 h60 => ?_))
      show Pt _ _ _ _ [some (.ref 72), some (.int x1), some (.int x2), some (.int x3), some (.int x4), some (.int v60)] [] _ _
      refine pt_d (pt_1 (fun n d => r_goto gx238_238) ?_)
      exact H v60 h60
def tkM (V : vS) (yr c o : Int) : Prop := LvM V yr o ∧ V 87 o = V 87 c ∧ V 88 o < V 88 c
def agT (V W : vS) : Prop := ∀ (c : Nat) j, c ≠ 110 → W c j = V c j
def tP (V W : vS) (yr c o q : Int) : Prop := (W 110 q = 0 ∨ W 110 q = 1) ∧ (W 110 q ≠ 0 ↔ ∃ o', (0 ≤ o' ∧ o' < o) ∧ tkM V yr c o' ∧ InM V o' q)
theorem tP_skip {V W : vS} {yr c o q : Int} (T : tP V W yr c o q) (h : ¬ (tkM V yr c o ∧ InM V o q)) : tP V W yr c (o + 1) q := by
  refine ⟨T.1, T.2.trans ⟨fun ⟨o', a, b⟩ => ⟨o', ⟨a.1, by omega⟩, b⟩, fun ⟨o', a, b⟩ => ?_⟩⟩
  by_cases z : o' = o
  · rw [z] at b
    exact absurd b h
  · exact ⟨o', ⟨a.1, by omega⟩, b⟩
theorem tP_set {V W' : vS} {yr c o q : Int} (o0 : 0 ≤ o) (h : tkM V yr c o ∧ InM V o q) (e : W' 110 q = 1) : tP V W' yr c (o + 1) q := ⟨Or.inr e, ⟨fun _ => ⟨o, ⟨o0, by omega⟩, h⟩, fun _ => by rw [e]; decide⟩⟩
theorem tP_keep {V W W' : vS} {yr c o q : Int} (T : tP V W yr c o q) (n : W 110 q ≠ 0) (e : W' 110 q = 1) : tP V W' yr c (o + 1) q := by
  refine ⟨Or.inr e, ⟨fun _ => ?_, fun _ => by rw [e]; decide⟩⟩
  obtain ⟨o', a, b⟩ := T.2.mp n
  exact ⟨o', ⟨a.1, by omega⟩, b⟩
theorem tP_c {V W W' : vS} {yr c o q : Int} (T : tP V W yr c o q) (e : W' 110 q = W 110 q) : tP V W' yr c o q := by
  unfold tP
  rw [e]
  exact T
noncomputable def nQ (P : Int → Prop) : Nat → Int
  | 0 => 0
  | q + 1 => nQ P q + (if prB (P (q : Nat)) then 1 else 0)
theorem nQ_t {P : Int → Prop} {q : Nat} (h : P (q : Nat)) : nQ P (q + 1) = nQ P q + 1 := by
  have e : nQ P (q + 1) = nQ P q + (if prB (P (q : Nat)) then 1 else 0) := rfl
  rw [e, if_pos (prB_t.mpr h)]
theorem nQ_f {P : Int → Prop} {q : Nat} (h : ¬ P (q : Nat)) : nQ P (q + 1) = nQ P q + 0 := by
  have e : nQ P (q + 1) = nQ P q + (if prB (P (q : Nat)) then 1 else 0) := rfl
  rw [e, if_neg (fun z => h (prB_t.mp z))]
theorem nQ_b (P : Int → Prop) : ∀ q : Nat, 0 ≤ nQ P q ∧ nQ P q ≤ (q : Int)
  | 0 => ⟨Int.le_refl _, Int.le_refl _⟩
  | q + 1 => by
    have := nQ_b P q
    by_cases z : P (q : Nat)
    · rw [nQ_t z]; omega
    · rw [nQ_f z]; omega
theorem nQ_c {P P' : Int → Prop} : ∀ q : Nat, (∀ j : Int, 0 ≤ j → j < (q : Int) → (P j ↔ P' j)) → nQ P q = nQ P' q
  | 0, _ => rfl
  | q + 1, h => by
    have ih := nQ_c q (fun j a b => h j a (by omega))
    have e := h (q : Nat) (by omega) (by omega)
    by_cases z : P (q : Nat)
    · rw [nQ_t z, nQ_t (e.mp z), ih]
    · rw [nQ_f z, nQ_f (fun w => z (e.mpr w)), ih]
def gdM (V : vS) (yr c q : Int) : Prop := InM V c q ∧ V 108 q = 0 ∧ V 109 q = 0 ∧ ¬ ∃ o, (0 ≤ o ∧ o < V 72 19) ∧ tkM V yr c o ∧ InM V o q
def bdM (V : vS) (c q : Int) : Prop := InM V c q ∧ V 108 q ≠ 0
def R238 (V : vS) (c yr : Int) (V' : vS) : Prop := ∀ (c' : Nat) j, c' ≠ 110 → V' c' j = up (up V 104 c (nQ (gdM V yr c) 576)) 106 c (nQ (bdM V c) 576) c' j
theorem l_238c {X : aX} {V : vS} {yr c : Int} {h : aH} (S : wS h) (hc : 0 ≤ c ∧ c < 300) (A : agT V (vw h)) (T : ∀ q, 0 ≤ q → q < 576 → tP V (vw h) yr c (V 72 19) q) : ∀ (n : Nat) (x1 x2 x3 x4 x5 : Int32) (q : Nat), x1.toInt = c → x2.toInt = yr → x3.toInt = nQ (gdM V yr c) q → x4.toInt = nQ (bdM V c) q → x5.toInt = (q : Int) → q ≤ 576 → Pt n X zM238 151 [some (.ref 72), some (.int x1), some (.int x2), some (.int x3), some (.int x4), some (.int x5)] [] h (qN (fun h' => wS h' ∧ R238 V c yr (vw h'))) := by
  intro n
  induction n with
  | zero => exact fun _ _ _ _ _ _ _ _ _ _ _ _ => pt_z
  | succ n ih =>
    intro x1 x2 x3 x4 x5 q h1 h2 h3 h4 h5 hq
    have b1 := nQ_b (gdM V yr c) q
    have b2 := nQ_b (bdM V c) q
    have e88 : vw h 88 c = V 88 c := A 88 c (by decide)
    have ei : isI (vw h) (vw h 88 c) (q : Int) ↔ InM V c (q : Int) := by
      rw [e88]
      exact isI_c (fun j => A 80 j (by decide)) _ _
    have e8 : vw h 108 (q : Int) = V 108 (q : Int) := A 108 _ (by decide)
    have e9 : vw h 109 (q : Int) = V 109 (q : Int) := A 109 _ (by decide)
    have go : ∀ (w3 w4 w5 : Int32) (d e : Int), q < 576 → w3.toInt = w32 (nQ (gdM V yr c) q + d) → w4.toInt = w32 (nQ (bdM V c) q + e) → w5.toInt = w32 ((q : Int) + 1) → (d = 1 ∧ gdM V yr c (q : Nat) ∨ d = 0 ∧ ¬ gdM V yr c (q : Nat)) → (e = 1 ∧ bdM V c (q : Nat) ∨ e = 0 ∧ ¬ bdM V c (q : Nat)) → Pt n X zM238 151 [some (.ref 72), some (.int x1), some (.int x2), some (.int w3), some (.int w4), some (.int w5)] [] h (qN (fun h' => wS h' ∧ R238 V c yr (vw h'))) := by
      intro w3 w4 w5 d e lt g3 g4 g5 pd pe
      have f3 : w3.toInt = nQ (gdM V yr c) (q + 1) := by
        rw [g3]
        rcases pd with ⟨rfl, z⟩ | ⟨rfl, z⟩
        · rw [nQ_t z, w32_id (by omega) (by omega)]
        · rw [nQ_f z, w32_id (by omega) (by omega)]
      have f4 : w4.toInt = nQ (bdM V c) (q + 1) := by
        rw [g4]
        rcases pe with ⟨rfl, z⟩ | ⟨rfl, z⟩
        · rw [nQ_t z, w32_id (by omega) (by omega)]
        · rw [nQ_f z, w32_id (by omega) (by omega)]
      clear g3 g4
      replace g5 := w_1 g5 (by omega) (by omega)
      exact ih x1 x2 w3 w4 w5 (q + 1) h1 h2 f3 f4 (by omega) (by omega)
    have nb : V 108 (q : Int) = 0 → ¬ bdM V c (q : Nat) := fun z w => w.2 z
    refine d238_151 S h1 h2 h3 h4 h5 ⟨fun e _ _ g S2 eg => ⟨S2, fun c' j n110 => ?_⟩, fun e _ _ => ⟨fun ii _ _ => ⟨fun f8 => ⟨fun w => absurd f8 w, fun _ => ⟨fun f9 w3 w4 w5 g3 g4 g5 => go w3 w4 w5 0 0 (by omega) g3 g4 g5 (Or.inr ⟨rfl, fun z => f9 (e9.trans z.2.2.1)⟩) (Or.inr ⟨rfl, nb (e8.symm.trans f8)⟩), fun f9 => ⟨fun f10 w3 w4 w5 g3 g4 g5 => go w3 w4 w5 1 0 (by omega) g3 g4 g5 (Or.inl ⟨rfl, ei.mp ii, e8.symm.trans f8, e9.symm.trans f9, fun z => (T (q : Int) (by omega) (by omega)).2.mpr z f10⟩) (Or.inr ⟨rfl, nb (e8.symm.trans f8)⟩), fun f10 w3 w4 w5 g3 g4 g5 => go w3 w4 w5 0 0 (by omega) g3 g4 g5 (Or.inr ⟨rfl, fun z => z.2.2.2 ((T (q : Int) (by omega) (by omega)).2.mp f10)⟩) (Or.inr ⟨rfl, nb (e8.symm.trans f8)⟩)⟩⟩⟩, fun f8 => ⟨fun _ w3 w4 w5 g3 g4 g5 => go w3 w4 w5 0 1 (by omega) g3 g4 g5 (Or.inr ⟨rfl, fun z => f8 (e8.trans z.2.1)⟩) (Or.inl ⟨rfl, ei.mp ii, by rw [← e8]; exact f8⟩), fun z => absurd z f8⟩⟩, fun ni w5 g5 => ?_⟩⟩
    · have eq : q = 576 := by omega
      subst eq
      rw [eg]
      unfold up
      rw [A c' j n110]
    · refine go x3 x4 w5 0 0 (by omega) (by rw [h3, w32_id (by omega) (by omega)]; omega) (by rw [h4, w32_id (by omega) (by omega)]; omega) g5 (Or.inr ⟨rfl, fun z => ni (ei.mpr z.1)⟩) (Or.inr ⟨rfl, fun z => ni (ei.mpr z.1)⟩)
theorem l_238 {X : aX} {V : vS} {yr c : Int} (hN : 0 ≤ V 72 19 ∧ V 72 19 ≤ 300) (hc : 0 ≤ c ∧ c < 300) : ∀ n : Nat, (∀ (h : aH) (x1 x2 x3 : Int32) (u4 : Option Value) (o : Int), wS h → x1.toInt = c → x2.toInt = yr → x3.toInt = o → 0 ≤ o → o ≤ V 72 19 → agT V (vw h) → (∀ q, 0 ≤ q → q < 576 → tP V (vw h) yr c o q) → Pt n X zM238 24 [some (.ref 72), some (.int x1), some (.int x2), some (.int x3), u4, none] [] h (qN (fun h' => wS h' ∧ R238 V c yr (vw h')))) ∧
    (∀ (h : aH) (x1 x2 x3 x4 : Int32) (o q : Int), wS h → x1.toInt = c → x2.toInt = yr → x3.toInt = o → x4.toInt = q → 0 ≤ o → o < V 72 19 → tkM V yr c o → 0 ≤ q → q ≤ 576 → agT V (vw h) → (∀ q', 0 ≤ q' → q' < q → tP V (vw h) yr c (o + 1) q') → (∀ q', q ≤ q' → q' < 576 → tP V (vw h) yr c o q') → Pt n X zM238 86 [some (.ref 72), some (.int x1), some (.int x2), some (.int x3), some (.int x4), none] [] h (qN (fun h' => wS h' ∧ R238 V c yr (vw h')))) := by
  intro n
  induction n with
  | zero => exact ⟨fun _ _ _ _ _ _ _ _ _ _ _ _ _ _ => pt_z, fun _ _ _ _ _ _ _ _ _ _ _ _ _ _ _ _ _ _ _ _ => pt_z⟩
  | succ n ih =>
    obtain ⟨ihA, ihB⟩ := ih
    refine ⟨fun h x1 x2 x3 u4 o S h1 h2 h3 o0 oN A T => ?_, fun h x1 x2 x3 x4 o q S h1 h2 h3 h4 o0 oN tk q0 q6 A T1 T2 => ?_⟩
    · have e19 : vw h 72 19 = V 72 19 := A 72 19 (by decide)
      have e103 : vw h 103 o = V 103 o := A 103 o (by decide)
      have e90 : vw h 90 o = V 90 o := A 90 o (by decide)
      have e87 : ∀ j, vw h 87 j = V 87 j := fun j => A 87 j (by decide)
      have e88 : ∀ j, vw h 88 j = V 88 j := fun j => A 88 j (by decide)
      have skip : ∀ (w3 : Int32) (u4 : Option Value), o < V 72 19 → ¬ tkM V yr c o → w3.toInt = w32 (o + 1) → Pt n X zM238 24 [some (.ref 72), some (.int x1), some (.int x2), some (.int w3), u4, none] [] h (qN (fun h' => wS h' ∧ R238 V c yr (vw h'))) := by
        intro w3 u4 lt nl g3
        replace g3 := w_1 g3 (by omega) (by omega)
        exact ihA h x1 x2 w3 u4 (o + 1) S h1 h2 g3 (by omega) (by omega) A (fun q a b => tP_skip (T q a b) (fun z => nl z.1))
      refine d238_24 S h1 h2 h3 ⟨fun e w3 w4 w5 g3 g4 g5 => ?_, fun e _ _ => ⟨fun e2 w3 u4 g3 => skip w3 u4 (by omega) (fun z => z.1.1 (e103.symm.trans e2)) g3, fun e2 => ⟨fun e3 w3 u4 g3 => skip w3 u4 (by omega) (fun z => e3 (by rw [e90]; exact z.1.2)) g3, fun e3 _ _ => ⟨fun e4 w3 u4 g3 => skip w3 u4 (by omega) (fun z => e4 (by rw [e87, e87]; exact z.2.1)) g3, fun e4 => ⟨fun e5 w4 g4 => ?_, fun e5 w3 u4 g3 => skip w3 u4 (by omega) (fun z => by have := z.2.2; rw [e88, e88] at e5; omega) g3⟩⟩⟩⟩⟩
      · have eo : o = V 72 19 := by omega
        rw [eo] at T
        exact l_238c S hc A T n x1 x2 w3 w4 w5 0 h1 h2 g3 g4 g5 (by decide)
      · rw [e87, e87] at e4
        rw [e88, e88] at e5
        exact ihB h x1 x2 x3 w4 o 0 S h1 h2 h3 g4 o0 (by omega) ⟨⟨by rw [← e103]; exact e2, by rw [← e90]; exact e3⟩, e4, e5⟩ (Int.le_refl _) (by decide) A (fun q' a b => by omega) T
    · have e88 : vw h 88 o = V 88 o := A 88 o (by decide)
      have ei : isI (vw h) (vw h 88 o) q ↔ InM V o q := by
        rw [e88]
        exact isI_c (fun j => A 80 j (by decide)) _ _
      have next : ∀ (g : aH) (w4 : Int32) (v : Int), q < 576 → wS g → vw g = up (vw h) 110 q v → tP V (vw g) yr c (o + 1) q → w4.toInt = w32 (q + 1) → Pt n X zM238 86 [some (.ref 72), some (.int x1), some (.int x2), some (.int x3), some (.int w4), none] [] g (qN (fun h' => wS h' ∧ R238 V c yr (vw h'))) := by
        intro g w4 v lt S2 eg f g4
        replace g4 := w_1 g4 (by omega) (by omega)
        refine ihB g x1 x2 x3 w4 o (q + 1) S2 h1 h2 h3 g4 o0 oN tk (by omega) (by omega) (fun c' j n1 => by rw [eg, up_c n1]; exact A c' j n1) (fun q' a b => ?_) (fun q' a b => tP_c (T2 q' (by omega) b) (by rw [eg, up_j (by omega)]))
        by_cases z : q' = q
        · rw [z]; exact f
        · exact tP_c (T1 q' a (by omega)) (by rw [eg, up_j z])
      refine d238_86 S h1 h2 h3 h4 ⟨fun e w3 u4 g3 => ?_, fun e _ _ => ⟨fun e2 g S2 eg w4 g4 => next g w4 _ e S2 eg (tP_keep (T2 q (Int.le_refl _) e) e2 (by rw [eg, up_s, b11])) g4, fun e2 _ _ => ⟨fun e3 g S2 eg w4 g4 => next g w4 _ e S2 eg (tP_skip (tP_c (T2 q (Int.le_refl _) e) (by rw [eg, up_s, b01, e2])) (fun z => e3 (ei.mpr z.2))) g4, fun e3 g S2 eg w4 g4 => next g w4 _ e S2 eg (tP_set o0 ⟨tk, ei.mp e3⟩ (by rw [eg, up_s, b11])) g4⟩⟩⟩
      replace g3 := w_1 g3 (by omega) (by omega)
      exact ihA h x1 x2 w3 u4 (o + 1) S h1 h2 g3 (by omega) (by omega) A (fun q' a b => T1 q' a (by omega))
theorem l_238i {X : aX} {V : vS} {yr c : Int} (hN : 0 ≤ V 72 19 ∧ V 72 19 ≤ 300) (hc : 0 ≤ c ∧ c < 300) : ∀ (n : Nat) (h : aH) (x1 x2 x3 : Int32) (q : Int), wS h → x1.toInt = c → x2.toInt = yr → x3.toInt = q → 0 ≤ q → q ≤ 576 → agT V (vw h) → (∀ q', 0 ≤ q' → q' < q → vw h 110 q' = 0) → Pt n X zM238 2 [some (.ref 72), some (.int x1), some (.int x2), some (.int x3), none, none] [] h (qN (fun h' => wS h' ∧ R238 V c yr (vw h'))) := by
  intro n
  induction n with
  | zero => exact fun _ _ _ _ _ _ _ _ _ _ _ _ _ => pt_z
  | succ n ih =>
    intro h x1 x2 x3 q S h1 h2 h3 q0 q6 A F
    refine d238_2 S h1 h2 h3 ⟨fun e w3 u4 g3 => ?_, fun e _ _ g S2 eg w3 g3 => ?_⟩
    · exact (l_238 hN hc n).1 h x1 x2 w3 u4 0 S h1 h2 g3 (Int.le_refl _) hN.1 A (fun q' a b => ⟨Or.inl (F q' a (by omega)), ⟨fun z => absurd (F q' a (by omega)) z, fun ⟨o', z, _⟩ => by omega⟩⟩)
    · replace g3 := w_1 g3 (by omega) (by omega)
      refine ih g x1 x2 w3 (q + 1) S2 h1 h2 g3 (by omega) (by omega) (fun c' j n1 => by rw [eg, up_c n1]; exact A c' j n1) (fun q' a b => ?_)
      by_cases z : q' = q
      · rw [z, eg, up_s, b01]
      · rw [eg, up_j z]
        exact F q' a (by omega)
theorem c_238 {n : Nat} {X : aX} {h : aH} {x1 x2 : Int32} {a1 a2 : Int} (S : wS h) (z1 : x1.toInt = a1) (z2 : x2.toInt = a2) (hp : (0 ≤ vw h 72 19 ∧ vw h 72 19 ≤ 300) ∧ 0 ≤ a1 ∧ a1 < 300) : Pt n X zM238 0 [some (.ref 72), some (.int x1), some (.int x2), none, none, none] [] h (qN (fun h' => wS h' ∧ R238 (vw h) a1 a2 (vw h'))) :=
  pt_d (d238_0 S z1 z2 (fun w3 g3 => l_238i hp.1 hp.2 n h x1 x2 w3 0 S z1 z2 g3 (Int.le_refl _) (by decide) (fun _ _ _ => rfl) (fun q' a b => by omega)))
end
section
-- ===== seasons: the model's faults =====
theorem d239_0 {n : Nat} {X : aX} {h : aH} {P : aH → Prop} {x1 : Int32} {a1 : Int} (S : wS h) (z1 : x1.toInt = a1) (H : ((vw h 72 38 ≠ 0 → ∀ h_5 : aH, wS h_5 → vw h_5 = up (up (vw h) 72 38 0) 72 39 a1 → (∀ (w2 : Int32), w2.toInt = 0 → Pt n X zM239 28 [some (.ref 72), some (.int x1), some (.int w2), none, none] [] h_5 (qN P))) ∧ (vw h 72 38 = 0 → ((vw h 72 39 ≠ a1 → ∀ h_11 : aH, wS h_11 → vw h_11 = up (up (vw h) 72 38 0) 72 39 a1 → (∀ (w2 : Int32), w2.toInt = 0 → Pt n X zM239 28 [some (.ref 72), some (.int x1), some (.int w2), none, none] [] h_11 (qN P))) ∧ (vw h 72 39 = a1 → P h))))) : Pt (n + 1) X zM239 0 [some (.ref 72), some (.int x1), none, none, none] [] h (qN P) := by
  refine pt_1 (fun n d => r_aloadn gx239_0 rfl) ?_
  refine pt_d (pt_getI (B := 38) gx239_1 S (fun v1 h1 => ?_))
  refine pt_d (pt_if_ne gx239_4 h1 (fun e2 => ?_) (fun e2 => ?_))
  · have H := H.1 e2
    refine pt_d (pt_1 (fun n d => r_aloadn gx239_16 rfl) ?_)
    refine pt_d (pt_iconst gx239_17 (fun v3 h3 => ?_))
    refine pt_d (pt_putI (B := 38) gx239_18 S h3 (fun h_4 S4 e4 => ?_))
    refine pt_d (pt_1 (fun n d => r_aloadn gx239_21 rfl) ?_)
    refine pt_d (pt_1 (fun n d => r_iloadn gx239_22 rfl) ?_)
    refine pt_d (pt_putI (B := 39) gx239_23 S4 z1 (fun h_5 S5 e5 => ?_))
    refine pt_d (pt_iconst gx239_26 (fun v6 h6 => ?_))
    refine pt_d (pt_1 (fun n d => r_istoren (L' := [some (.ref 72), some (.int x1), some (.int v6), none, none]) gx239_27 rfl rfl) ?_)
    have H := H h_5 S5 (by rw [e5, e4])
    exact H v6 h6
  · have H := H.2 e2
    refine pt_d (pt_1 (fun n d => r_aloadn gx239_7 rfl) ?_)
    refine pt_d (pt_getI (B := 39) gx239_8 S (fun v7 h7 => ?_))
    refine pt_d (pt_1 (fun n d => r_iloadn gx239_11 rfl) ?_)
    refine pt_d (pt_icmp_ne gx239_12 h7 z1 (fun e8 => ?_) (fun e8 => ?_))
    · have H := H.1 e8
      refine pt_d (pt_1 (fun n d => r_aloadn gx239_16 rfl) ?_)
      refine pt_d (pt_iconst gx239_17 (fun v9 h9 => ?_))
      refine pt_d (pt_putI (B := 38) gx239_18 S h9 (fun h_10 S10 e10 => ?_))
      refine pt_d (pt_1 (fun n d => r_aloadn gx239_21 rfl) ?_)
      refine pt_d (pt_1 (fun n d => r_iloadn gx239_22 rfl) ?_)
      refine pt_d (pt_putI (B := 39) gx239_23 S10 z1 (fun h_11 S11 e11 => ?_))
      refine pt_d (pt_iconst gx239_26 (fun v12 h12 => ?_))
      refine pt_d (pt_1 (fun n d => r_istoren (L' := [some (.ref 72), some (.int x1), some (.int v12), none, none]) gx239_27 rfl rfl) ?_)
      have H := H h_11 S11 (by rw [e11, e10])
      exact H v12 h12
    · have H := H.2 e8
      exact pt_d (pt_vret gx239_15 ⟨rfl, H⟩)
theorem d239_28 {n : Nat} {X : aX} {h : aH} {P : aH → Prop} {x1 x2 : Int32} {a1 a2 : Int} (S : wS h) (z1 : x1.toInt = a1) (z2 : x2.toInt = a2) (H : ((vw h 72 19 ≤ a2 → (∀ (w2 : Int32) (u3_ : Option Value) (u4_ : Option Value), w2.toInt = 0 → Pt n X zM239 56 [some (.ref 72), some (.int x1), some (.int w2), u3_, u4_] [] h (qN P))) ∧ (a2 < vw h 72 19 → ((0 ≤ vw h 72 19 ∧ vw h 72 19 ≤ 300) ∧ (0 ≤ a2 → a2 < 300 → ∀ h_6 : aH, wS h_6 → vw h_6 = up (vw h) 103 a2 (bAnd (bI (mcn (vw h) a2 a1)) 1) → (∀ (w2 : Int32), w2.toInt = w32 (a2 + 1) → Pt n X zM239 28 [some (.ref 72), some (.int x1), some (.int w2), none, none] [] h_6 (qN P))))))) : Pt (n + 1) X zM239 28 [some (.ref 72), some (.int x1), some (.int x2), none, none] [] h (qN P) := by
  refine pt_1 (fun n d => r_iloadn gx239_28 rfl) ?_
  refine pt_d (pt_1 (fun n d => r_aloadn gx239_29 rfl) ?_)
  refine pt_d (pt_getI (B := 19) gx239_30 S (fun v1 h1 => ?_))
  refine pt_d (pt_icmp_ge gx239_33 z2 h1 (fun e2 => ?_) (fun e2 => ?_))
  · have H := H.1 e2
    refine pt_d (pt_iconst gx239_54 (fun v3 h3 => ?_))
    refine pt_d (pt_1 (fun n d => r_istoren (L' := [some (.ref 72), some (.int x1), some (.int v3), none, none]) gx239_55 rfl rfl) ?_)
    exact H v3 _ _ h3
  · have H := H.2 e2
    refine pt_d (pt_1 (fun n d => r_aloadn gx239_36 rfl) ?_)
    refine pt_d (pt_getR gx239_37 S tr_72_40 ?_)
    refine pt_d (pt_1 (fun n d => r_iloadn gx239_40 rfl) ?_)
    refine pt_d (pt_1 (fun n d => r_aloadn gx239_41 rfl) ?_)
    refine pt_d (pt_1 (fun n d => r_iloadn gx239_42 rfl) ?_)
    refine pt_d (pt_1 (fun n d => r_iloadn gx239_43 rfl) ?_)
    obtain ⟨pr5, H⟩ := H
    refine pt_d (pt_virt (as := [.int x2, .int x1]) (r := [.int x2, .ref 103]) gx239_44 rfl (show zmt[234]? = some zM234 from rfl) rfl rfl rfl rfl (c_234 S z2 z1 pr5) (kqP (fun v5 h5 => ?_)))
    show Pt _ _ _ 47 _ [.int v5, .int x2, .ref 103] _ _
    refine pt_d (pt_zast (N' := 300) gx239_47 S tl_103 z2 h5 (fun h_6 S6 p6 q6 e6 => ?_))
    have H := H p6 q6
    refine pt_d (pt_iinc (c := 1) gx239_48 rfl z2 (fun v7 h7 => ?_))
    show Pt _ _ _ _ [some (.ref 72), some (.int x1), some (.int v7), none, none] [] _ _
    refine pt_d (pt_1 (fun n d => r_goto gx239_51) ?_)
    have H := H h_6 S6 (by rw [e6])
    exact H v7 h7
theorem d239_56 {n : Nat} {X : aX} {h : aH} {P : aH → Prop} {x1 x2 : Int32} {a1 a2 : Int} {u3 u4 : Option Value} (S : wS h) (z1 : x1.toInt = a1) (z2 : x2.toInt = a2) (H : ((10 ≤ a2 → P h) ∧ (a2 < 10 → (((0 ≤ vw h 72 19 ∧ vw h 72 19 ≤ 300) ∧ (0 ≤ vw h 72 25 ∧ vw h 72 25 ≤ 40) ∧ ∀ c, 0 ≤ c → c < 300 → 0 ≤ vw h 87 c) ∧ ∀ (h_3 : aH), (wS h_3 ∧ R236 (vw h) a2 a1 (vw h_3)) → (∀ (w3 : Int32) (u4_ : Option Value), w3.toInt = 0 → Pt n X zM239 70 [some (.ref 72), some (.int x1), some (.int x2), some (.int w3), u4_] [] h_3 (qN P)))))) : Pt (n + 1) X zM239 56 [some (.ref 72), some (.int x1), some (.int x2), u3, u4] [] h (qN P) := by
  refine pt_1 (fun n d => r_iloadn gx239_56 rfl) ?_
  refine pt_d (pt_bipush gx239_57 (fun v1 h1 => ?_))
  refine pt_d (pt_icmp_ge gx239_59 z2 h1 (fun e2 => ?_) (fun e2 => ?_))
  · have H := H.1 e2
    exact pt_d (pt_vret gx239_149 ⟨rfl, H⟩)
  · have H := H.2 e2
    refine pt_d (pt_1 (fun n d => r_aloadn gx239_62 rfl) ?_)
    refine pt_d (pt_1 (fun n d => r_iloadn gx239_63 rfl) ?_)
    refine pt_d (pt_1 (fun n d => r_iloadn gx239_64 rfl) ?_)
    obtain ⟨pr3, H⟩ := H
    refine pt_d (pt_virt (as := [.int x2, .int x1]) (r := []) gx239_65 rfl (show zmt[236]? = some zM236 from rfl) rfl rfl rfl rfl (c_236 S z2 z1 pr3) (kqN (fun h_3 P3 => ?_)))
    have S3 := P3.1
    have H := H h_3 P3
    show Pt _ _ _ 68 _ [] _ _
    refine pt_d (pt_iconst gx239_68 (fun v4 h4 => ?_))
    refine pt_d (pt_1 (fun n d => r_istoren (L' := [some (.ref 72), some (.int x1), some (.int x2), some (.int v4), u4]) gx239_69 rfl rfl) ?_)
    exact H v4 _ h4
theorem d239_70 {n : Nat} {X : aX} {h : aH} {P : aH → Prop} {x1 x2 x3 : Int32} {a1 a2 a3 : Int} {u4 : Option Value} (S : wS h) (z1 : x1.toInt = a1) (z2 : x2.toInt = a2) (z3 : x3.toInt = a3) (H : ((vw h 72 19 ≤ a3 → (∀ (w2 : Int32) (u3_ : Option Value) (u4_ : Option Value), w2.toInt = w32 (a2 + 1) → Pt n X zM239 56 [some (.ref 72), some (.int x1), some (.int w2), u3_, u4_] [] h (qN P))) ∧ (a3 < vw h 72 19 → (0 ≤ a3 → a3 < 300 → ((vw h 103 a3 = 0 → (∀ (w3 : Int32) (u4_ : Option Value), w3.toInt = w32 (a3 + 1) → Pt n X zM239 70 [some (.ref 72), some (.int x1), some (.int x2), some (.int w3), u4_] [] h (qN P))) ∧ (vw h 103 a3 ≠ 0 → ((iDiv ((vw h) 90 a3) 365 = a2 → (((0 ≤ vw h 72 19 ∧ vw h 72 19 ≤ 300) ∧ 0 ≤ a3 ∧ a3 < 300) ∧ ∀ (h_10 : aH), (wS h_10 ∧ R238 (vw h) a3 a2 (vw h_10)) → ((0 ≤ vw h_10 72 32 ∧ vw h_10 72 32 ≤ 200) ∧ ((0 ≤ w32 ((vw h_10 104 a3) - (mmg (vw h_10) a3 a1 ((vw h_10) 72 32).toNat)) → ∀ h_17 : aH, wS h_17 → vw h_17 = up (vw h_10) 105 a3 (w32 ((vw h_10 104 a3) - (mmg (vw h_10) a3 a1 ((vw h_10) 72 32).toNat))) → (∀ (w3 : Int32) (u4_ : Option Value), w3.toInt = w32 (a3 + 1) → Pt n X zM239 70 [some (.ref 72), some (.int x1), some (.int x2), some (.int w3), u4_] [] h_17 (qN P))) ∧ (w32 ((vw h_10 104 a3) - (mmg (vw h_10) a3 a1 ((vw h_10) 72 32).toNat)) < 0 → ∀ h_20 : aH, wS h_20 → vw h_20 = up (vw h_10) 105 a3 0 → (∀ (w3 : Int32) (u4_ : Option Value), w3.toInt = w32 (a3 + 1) → Pt n X zM239 70 [some (.ref 72), some (.int x1), some (.int x2), some (.int w3), u4_] [] h_20 (qN P))))))) ∧ (iDiv ((vw h) 90 a3) 365 ≠ a2 → (∀ (w3 : Int32) (u4_ : Option Value), w3.toInt = w32 (a3 + 1) → Pt n X zM239 70 [some (.ref 72), some (.int x1), some (.int x2), some (.int w3), u4_] [] h (qN P)))))))))) : Pt (n + 1) X zM239 70 [some (.ref 72), some (.int x1), some (.int x2), some (.int x3), u4] [] h (qN P) := by
  refine pt_1 (fun n d => r_iloadn gx239_70 rfl) ?_
  refine pt_d (pt_1 (fun n d => r_aloadn gx239_71 rfl) ?_)
  refine pt_d (pt_getI (B := 19) gx239_72 S (fun v1 h1 => ?_))
  refine pt_d (pt_icmp_ge gx239_75 z3 h1 (fun e2 => ?_) (fun e2 => ?_))
  · have H := H.1 e2
    refine pt_d (pt_iinc (c := 1) gx239_143 rfl z2 (fun v3 h3 => ?_))
    show Pt _ _ _ _ [some (.ref 72), some (.int x1), some (.int v3), some (.int x3), u4] [] _ _
    refine pt_d (pt_1 (fun n d => r_goto gx239_146) ?_)
    exact H v3 _ _ h3
  · have H := H.2 e2
    refine pt_d (pt_1 (fun n d => r_aloadn gx239_78 rfl) ?_)
    refine pt_d (pt_getR gx239_79 S tr_72_40 ?_)
    refine pt_d (pt_1 (fun n d => r_iloadn gx239_82 rfl) ?_)
    refine pt_d (pt_zald (N' := 300) gx239_83 S tl_103 z3 (fun v5 p5 q5 h5 => ?_))
    have H := H p5 q5
    refine pt_d (pt_if_eq gx239_84 h5 (fun e6 => ?_) (fun e6 => ?_))
    · have H := H.1 e6
      refine pt_d (pt_iinc (c := 1) gx239_137 rfl z3 (fun v7 h7 => ?_))
      show Pt _ _ _ _ [some (.ref 72), some (.int x1), some (.int x2), some (.int v7), u4] [] _ _
      refine pt_d (pt_1 (fun n d => r_goto gx239_140) ?_)
      exact H v7 _ h7
    · have H := H.2 e6
      refine pt_d (pt_1 (fun n d => r_aloadn gx239_87 rfl) ?_)
      refine pt_d (pt_1 (fun n d => r_iloadn gx239_88 rfl) ?_)
      refine pt_d (pt_virt (as := [.int x3]) (r := []) gx239_89 rfl (show zmt[229]? = some zM229 from rfl) rfl rfl rfl rfl (c_229 S z3) (kqP (fun v8 h8 => ?_)))
      show Pt _ _ _ 92 _ [.int v8] _ _
      refine pt_d (pt_1 (fun n d => r_iloadn gx239_92 rfl) ?_)
      refine pt_d (pt_icmp_eq gx239_93 h8 z2 (fun e9 => ?_) (fun e9 => ?_))
      · have H := H.1 e9
        refine pt_d (pt_1 (fun n d => r_aloadn gx239_99 rfl) ?_)
        refine pt_d (pt_1 (fun n d => r_iloadn gx239_100 rfl) ?_)
        refine pt_d (pt_1 (fun n d => r_iloadn gx239_101 rfl) ?_)
        obtain ⟨pr10, H⟩ := H
        refine pt_d (pt_virt (as := [.int x3, .int x2]) (r := []) gx239_102 rfl (show zmt[238]? = some zM238 from rfl) rfl rfl rfl rfl (c_238 S z3 z2 pr10) (kqN (fun h_10 P10 => ?_)))
        have S10 := P10.1
        have H := H h_10 P10
        show Pt _ _ _ 105 _ [] _ _
        refine pt_d (pt_1 (fun n d => r_aloadn gx239_105 rfl) ?_)
        refine pt_d (pt_getR gx239_106 S10 tr_72_41 ?_)
        refine pt_d (pt_1 (fun n d => r_iloadn gx239_109 rfl) ?_)
        refine pt_d (pt_iald (N' := 300) gx239_110 S10 tl_104 z3 (fun v12 p12 q12 h12 => ?_))
        refine pt_d (pt_1 (fun n d => r_aloadn gx239_111 rfl) ?_)
        refine pt_d (pt_1 (fun n d => r_iloadn gx239_112 rfl) ?_)
        refine pt_d (pt_1 (fun n d => r_iloadn gx239_113 rfl) ?_)
        obtain ⟨pr13, H⟩ := H
        refine pt_d (pt_virt (as := [.int x3, .int x1]) (r := [.int v12]) gx239_114 rfl (show zmt[237]? = some zM237 from rfl) rfl rfl rfl rfl (c_237 S10 z3 z1 pr13) (kqP (fun v13 h13 => ?_)))
        show Pt _ _ _ 117 _ [.int v13, .int v12] _ _
        refine pt_d (pt_isub gx239_117 h12 h13 (fun v14 h14 => ?_))
        refine pt_d (pt_1 (fun n d => r_istore (L' := [some (.ref 72), some (.int x1), some (.int x2), some (.int x3), some (.int v14)]) gx239_118 rfl rfl) ?_)
        refine pt_d (pt_1 (fun n d => r_aloadn gx239_120 rfl) ?_)
        refine pt_d (pt_getR gx239_121 S10 tr_72_42 ?_)
        refine pt_d (pt_1 (fun n d => r_iloadn gx239_124 rfl) ?_)
        refine pt_d (pt_1 (fun n d => r_iload gx239_125 rfl) ?_)
        refine pt_d (pt_if_ge gx239_127 h14 (fun e16 => ?_) (fun e16 => ?_))
        · have H := H.1 e16
          refine pt_d (pt_1 (fun n d => r_iload gx239_134 rfl) ?_)
          refine pt_d (pt_iast (N' := 300) gx239_136 S10 tl_105 z3 h14 (fun h_17 S17 p17 q17 e17 => ?_))
          refine pt_d (pt_iinc (c := 1) gx239_137 rfl z3 (fun v18 h18 => ?_))
          show Pt _ _ _ _ [some (.ref 72), some (.int x1), some (.int x2), some (.int v18), some (.int v14)] [] _ _
          refine pt_d (pt_1 (fun n d => r_goto gx239_140) ?_)
          have H := H h_17 S17 (by rw [e17])
          exact H v18 _ h18
        · have H := H.2 e16
          refine pt_d (pt_iconst gx239_130 (fun v19 h19 => ?_))
          refine pt_d (pt_1 (fun n d => r_goto gx239_131) ?_)
          refine pt_d (pt_iast (N' := 300) gx239_136 S10 tl_105 z3 h19 (fun h_20 S20 p20 q20 e20 => ?_))
          refine pt_d (pt_iinc (c := 1) gx239_137 rfl z3 (fun v21 h21 => ?_))
          show Pt _ _ _ _ [some (.ref 72), some (.int x1), some (.int x2), some (.int v21), some (.int v14)] [] _ _
          refine pt_d (pt_1 (fun n d => r_goto gx239_140) ?_)
          have H := H h_20 S20 (by rw [e20])
          exact H v21 _ h21
      · have H := H.2 e9
        refine pt_d (pt_1 (fun n d => r_goto gx239_96) ?_)
        refine pt_d (pt_iinc (c := 1) gx239_137 rfl z3 (fun v22 h22 => ?_))
        show Pt _ _ _ _ [some (.ref 72), some (.int x1), some (.int x2), some (.int v22), u4] [] _ _
        refine pt_d (pt_1 (fun n d => r_goto gx239_140) ?_)
        exact H v22 _ h22
end

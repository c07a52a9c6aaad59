-- ===== by hand: valuesOf, payBy =====
theorem f275_0 : aF 0 zM275.2.2.2.2.2.2.2 = some (0, (.iconst 0), 1, 0, 0) := by decide +kernel
theorem f275_1 : aF 1 zM275.2.2.2.2.2.2.2 = some (1, (.istore 5), 2, 0, 0) := by decide +kernel
theorem f275_3 : aF 3 zM275.2.2.2.2.2.2.2 = some (3, (.iload 5), 2, 0, 0) := by decide +kernel
theorem f275_5 : aF 5 zM275.2.2.2.2.2.2.2 = some (5, (.aload_n 0), 1, 0, 0) := by decide +kernel
theorem f275_6 : aF 6 zM275.2.2.2.2.2.2.2 = some (6, (.getfield 265), 3, 12, 2) := by decide +kernel
theorem f275_9 : aF 9 zM275.2.2.2.2.2.2.2 = some (9, (.if_icmp .ge 55), 3, 64, 0) := by decide +kernel
theorem f275_12 : aF 12 zM275.2.2.2.2.2.2.2 = some (12, (.aload_n 0), 1, 0, 0) := by decide +kernel
theorem f275_13 : aF 13 zM275.2.2.2.2.2.2.2 = some (13, (.getfield 185), 3, 12, 73) := by decide +kernel
theorem f275_16 : aF 16 zM275.2.2.2.2.2.2.2 = some (16, (.iload 5), 2, 0, 0) := by decide +kernel
theorem f275_18 : aF 18 zM275.2.2.2.2.2.2.2 = some (18, (.aload_n 0), 1, 0, 0) := by decide +kernel
theorem f275_19 : aF 19 zM275.2.2.2.2.2.2.2 = some (19, (.getfield 7), 3, 12, 3) := by decide +kernel
theorem f275_22 : aF 22 zM275.2.2.2.2.2.2.2 = some (22, (.iload 5), 2, 0, 0) := by decide +kernel
theorem f275_24 : aF 24 zM275.2.2.2.2.2.2.2 = some (24, .iaload, 1, 0, 0) := by decide +kernel
theorem f275_25 : aF 25 zM275.2.2.2.2.2.2.2 = some (25, (.bipush 6), 2, 0, 0) := by decide +kernel
theorem f275_27 : aF 27 zM275.2.2.2.2.2.2.2 = some (27, (.if_icmp .ne 25), 3, 52, 0) := by decide +kernel
theorem f275_30 : aF 30 zM275.2.2.2.2.2.2.2 = some (30, (.aload_n 0), 1, 0, 0) := by decide +kernel
theorem f275_31 : aF 31 zM275.2.2.2.2.2.2.2 = some (31, (.iload 5), 2, 0, 0) := by decide +kernel
theorem f275_33 : aF 33 zM275.2.2.2.2.2.2.2 = some (33, (.sipush 365), 3, 0, 0) := by decide +kernel
theorem f275_36 : aF 36 zM275.2.2.2.2.2.2.2 = some (36, (.iload_n 2), 1, 0, 0) := by decide +kernel
theorem f275_37 : aF 37 zM275.2.2.2.2.2.2.2 = some (37, .imul, 1, 0, 0) := by decide +kernel
theorem f275_38 : aF 38 zM275.2.2.2.2.2.2.2 = some (38, (.sipush 365), 3, 0, 0) := by decide +kernel
theorem f275_41 : aF 41 zM275.2.2.2.2.2.2.2 = some (41, .iadd, 1, 0, 0) := by decide +kernel
theorem f275_42 : aF 42 zM275.2.2.2.2.2.2.2 = some (42, (.iconst 1), 1, 0, 0) := by decide +kernel
theorem f275_43 : aF 43 zM275.2.2.2.2.2.2.2 = some (43, .isub, 1, 0, 0) := by decide +kernel
theorem f275_44 : aF 44 zM275.2.2.2.2.2.2.2 = some (44, (.iload_n 3), 1, 0, 0) := by decide +kernel
theorem f275_45 : aF 45 zM275.2.2.2.2.2.2.2 = some (45, (.invokevirtual 331), 3, 226, 0) := by decide +kernel
theorem f275_48 : aF 48 zM275.2.2.2.2.2.2.2 = some (48, (.iload_n 1), 1, 0, 0) := by decide +kernel
theorem f275_49 : aF 49 zM275.2.2.2.2.2.2.2 = some (49, (.if_icmp .eq 7), 3, 56, 0) := by decide +kernel
theorem f275_52 : aF 52 zM275.2.2.2.2.2.2.2 = some (52, (.iconst 1), 1, 0, 0) := by decide +kernel
theorem f275_53 : aF 53 zM275.2.2.2.2.2.2.2 = some (53, (.goto 4), 3, 57, 0) := by decide +kernel
theorem f275_56 : aF 56 zM275.2.2.2.2.2.2.2 = some (56, (.iconst 0), 1, 0, 0) := by decide +kernel
theorem f275_57 : aF 57 zM275.2.2.2.2.2.2.2 = some (57, .bastore, 1, 0, 0) := by decide +kernel
theorem f275_58 : aF 58 zM275.2.2.2.2.2.2.2 = some (58, (.iinc 5 1), 3, 0, 0) := by decide +kernel
theorem f275_61 : aF 61 zM275.2.2.2.2.2.2.2 = some (61, (.goto (-58)), 3, 3, 0) := by decide +kernel
theorem f275_64 : aF 64 zM275.2.2.2.2.2.2.2 = some (64, (.lconst 0), 1, 0, 0) := by decide +kernel
theorem f275_65 : aF 65 zM275.2.2.2.2.2.2.2 = some (65, (.lstore 5), 2, 0, 0) := by decide +kernel
theorem f275_67 : aF 67 zM275.2.2.2.2.2.2.2 = some (67, (.iload 4), 2, 0, 0) := by decide +kernel
theorem f275_69 : aF 69 zM275.2.2.2.2.2.2.2 = some (69, (.istore 7), 2, 0, 0) := by decide +kernel
theorem f275_71 : aF 71 zM275.2.2.2.2.2.2.2 = some (71, (.iload 7), 2, 0, 0) := by decide +kernel
theorem f275_73 : aF 73 zM275.2.2.2.2.2.2.2 = some (73, (.ifCond .le 96), 3, 169, 0) := by decide +kernel
theorem f275_76 : aF 76 zM275.2.2.2.2.2.2.2 = some (76, (.iconst (-1)), 1, 0, 0) := by decide +kernel
theorem f275_77 : aF 77 zM275.2.2.2.2.2.2.2 = some (77, (.istore 8), 2, 0, 0) := by decide +kernel
theorem f275_79 : aF 79 zM275.2.2.2.2.2.2.2 = some (79, (.iconst 0), 1, 0, 0) := by decide +kernel
theorem f275_80 : aF 80 zM275.2.2.2.2.2.2.2 = some (80, (.istore 9), 2, 0, 0) := by decide +kernel
theorem f275_82 : aF 82 zM275.2.2.2.2.2.2.2 = some (82, (.iload 9), 2, 0, 0) := by decide +kernel
theorem f275_84 : aF 84 zM275.2.2.2.2.2.2.2 = some (84, (.aload_n 0), 1, 0, 0) := by decide +kernel
theorem f275_85 : aF 85 zM275.2.2.2.2.2.2.2 = some (85, (.getfield 265), 3, 12, 2) := by decide +kernel
theorem f275_88 : aF 88 zM275.2.2.2.2.2.2.2 = some (88, (.if_icmp .ge 45), 3, 133, 0) := by decide +kernel
theorem f275_91 : aF 91 zM275.2.2.2.2.2.2.2 = some (91, (.aload_n 0), 1, 0, 0) := by decide +kernel
theorem f275_92 : aF 92 zM275.2.2.2.2.2.2.2 = some (92, (.getfield 185), 3, 12, 73) := by decide +kernel
theorem f275_95 : aF 95 zM275.2.2.2.2.2.2.2 = some (95, (.iload 9), 2, 0, 0) := by decide +kernel
theorem f275_97 : aF 97 zM275.2.2.2.2.2.2.2 = some (97, .baload, 1, 0, 0) := by decide +kernel
theorem f275_98 : aF 98 zM275.2.2.2.2.2.2.2 = some (98, (.ifCond .ne 29), 3, 127, 0) := by decide +kernel
theorem f275_101 : aF 101 zM275.2.2.2.2.2.2.2 = some (101, (.iload 8), 2, 0, 0) := by decide +kernel
theorem f275_103 : aF 103 zM275.2.2.2.2.2.2.2 = some (103, (.ifCond .lt 20), 3, 123, 0) := by decide +kernel
theorem f275_106 : aF 106 zM275.2.2.2.2.2.2.2 = some (106, (.aload_n 0), 1, 0, 0) := by decide +kernel
theorem f275_107 : aF 107 zM275.2.2.2.2.2.2.2 = some (107, (.getfield 28), 3, 12, 9) := by decide +kernel
theorem f275_110 : aF 110 zM275.2.2.2.2.2.2.2 = some (110, (.iload 9), 2, 0, 0) := by decide +kernel
theorem f275_112 : aF 112 zM275.2.2.2.2.2.2.2 = some (112, .iaload, 1, 0, 0) := by decide +kernel
theorem f275_113 : aF 113 zM275.2.2.2.2.2.2.2 = some (113, (.aload_n 0), 1, 0, 0) := by decide +kernel
theorem f275_114 : aF 114 zM275.2.2.2.2.2.2.2 = some (114, (.getfield 28), 3, 12, 9) := by decide +kernel
theorem f275_117 : aF 117 zM275.2.2.2.2.2.2.2 = some (117, (.iload 8), 2, 0, 0) := by decide +kernel
theorem f275_119 : aF 119 zM275.2.2.2.2.2.2.2 = some (119, .iaload, 1, 0, 0) := by decide +kernel
theorem f275_120 : aF 120 zM275.2.2.2.2.2.2.2 = some (120, (.if_icmp .le 7), 3, 127, 0) := by decide +kernel
theorem f275_123 : aF 123 zM275.2.2.2.2.2.2.2 = some (123, (.iload 9), 2, 0, 0) := by decide +kernel
theorem f275_125 : aF 125 zM275.2.2.2.2.2.2.2 = some (125, (.istore 8), 2, 0, 0) := by decide +kernel
theorem f275_127 : aF 127 zM275.2.2.2.2.2.2.2 = some (127, (.iinc 9 1), 3, 0, 0) := by decide +kernel
theorem f275_130 : aF 130 zM275.2.2.2.2.2.2.2 = some (130, (.goto (-48)), 3, 82, 0) := by decide +kernel
theorem f275_133 : aF 133 zM275.2.2.2.2.2.2.2 = some (133, (.aload_n 0), 1, 0, 0) := by decide +kernel
theorem f275_134 : aF 134 zM275.2.2.2.2.2.2.2 = some (134, (.getfield 185), 3, 12, 73) := by decide +kernel
theorem f275_137 : aF 137 zM275.2.2.2.2.2.2.2 = some (137, (.iload 8), 2, 0, 0) := by decide +kernel
theorem f275_139 : aF 139 zM275.2.2.2.2.2.2.2 = some (139, (.iconst 1), 1, 0, 0) := by decide +kernel
theorem f275_140 : aF 140 zM275.2.2.2.2.2.2.2 = some (140, .bastore, 1, 0, 0) := by decide +kernel
theorem f275_141 : aF 141 zM275.2.2.2.2.2.2.2 = some (141, (.lload 5), 2, 0, 0) := by decide +kernel
theorem f275_143 : aF 143 zM275.2.2.2.2.2.2.2 = some (143, (.aload_n 0), 1, 0, 0) := by decide +kernel
theorem f275_144 : aF 144 zM275.2.2.2.2.2.2.2 = some (144, (.getfield 28), 3, 12, 9) := by decide +kernel
theorem f275_147 : aF 147 zM275.2.2.2.2.2.2.2 = some (147, (.iload 8), 2, 0, 0) := by decide +kernel
theorem f275_149 : aF 149 zM275.2.2.2.2.2.2.2 = some (149, .iaload, 1, 0, 0) := by decide +kernel
theorem f275_150 : aF 150 zM275.2.2.2.2.2.2.2 = some (150, .i2l, 1, 0, 0) := by decide +kernel
theorem f275_151 : aF 151 zM275.2.2.2.2.2.2.2 = some (151, (.bipush 10), 2, 0, 0) := by decide +kernel
theorem f275_153 : aF 153 zM275.2.2.2.2.2.2.2 = some (153, (.iload 7), 2, 0, 0) := by decide +kernel
theorem f275_155 : aF 155 zM275.2.2.2.2.2.2.2 = some (155, (.invokestatic 289), 3, 211, 0) := by decide +kernel
theorem f275_158 : aF 158 zM275.2.2.2.2.2.2.2 = some (158, .i2l, 1, 0, 0) := by decide +kernel
theorem f275_159 : aF 159 zM275.2.2.2.2.2.2.2 = some (159, .lmul, 1, 0, 0) := by decide +kernel
theorem f275_160 : aF 160 zM275.2.2.2.2.2.2.2 = some (160, .ladd, 1, 0, 0) := by decide +kernel
theorem f275_161 : aF 161 zM275.2.2.2.2.2.2.2 = some (161, (.lstore 5), 2, 0, 0) := by decide +kernel
theorem f275_163 : aF 163 zM275.2.2.2.2.2.2.2 = some (163, (.iinc 7 (-10)), 3, 0, 0) := by decide +kernel
theorem f275_166 : aF 166 zM275.2.2.2.2.2.2.2 = some (166, (.goto (-95)), 3, 71, 0) := by decide +kernel
theorem f275_169 : aF 169 zM275.2.2.2.2.2.2.2 = some (169, (.lload 5), 2, 0, 0) := by decide +kernel
theorem f275_171 : aF 171 zM275.2.2.2.2.2.2.2 = some (171, .lreturn, 1, 0, 0) := by decide +kernel
theorem f277_0 : aF 0 zM277.2.2.2.2.2.2.2 = some (0, (.aload_n 0), 1, 0, 0) := by decide +kernel
theorem f277_1 : aF 1 zM277.2.2.2.2.2.2.2 = some (1, (.iload_n 1), 1, 0, 0) := by decide +kernel
theorem f277_2 : aF 2 zM277.2.2.2.2.2.2.2 = some (2, (.iload_n 2), 1, 0, 0) := by decide +kernel
theorem f277_3 : aF 3 zM277.2.2.2.2.2.2.2 = some (3, (.iload_n 3), 1, 0, 0) := by decide +kernel
theorem f277_4 : aF 4 zM277.2.2.2.2.2.2.2 = some (4, (.invokevirtual 473), 3, 272, 0) := by decide +kernel
theorem f277_7 : aF 7 zM277.2.2.2.2.2.2.2 = some (7, (.bipush 10), 2, 0, 0) := by decide +kernel
theorem f277_9 : aF 9 zM277.2.2.2.2.2.2.2 = some (9, (.aload_n 0), 1, 0, 0) := by decide +kernel
theorem f277_10 : aF 10 zM277.2.2.2.2.2.2.2 = some (10, (.getfield 13), 3, 12, 4) := by decide +kernel
theorem f277_13 : aF 13 zM277.2.2.2.2.2.2.2 = some (13, (.iload_n 1), 1, 0, 0) := by decide +kernel
theorem f277_14 : aF 14 zM277.2.2.2.2.2.2.2 = some (14, .iaload, 1, 0, 0) := by decide +kernel
theorem f277_15 : aF 15 zM277.2.2.2.2.2.2.2 = some (15, .imul, 1, 0, 0) := by decide +kernel
theorem f277_16 : aF 16 zM277.2.2.2.2.2.2.2 = some (16, (.istore 5), 2, 0, 0) := by decide +kernel
theorem f277_18 : aF 18 zM277.2.2.2.2.2.2.2 = some (18, (.aload_n 0), 1, 0, 0) := by decide +kernel
theorem f277_19 : aF 19 zM277.2.2.2.2.2.2.2 = some (19, (.getfield 176), 3, 12, 69) := by decide +kernel
theorem f277_22 : aF 22 zM277.2.2.2.2.2.2.2 = some (22, (.iconst 3), 1, 0, 0) := by decide +kernel
theorem f277_23 : aF 23 zM277.2.2.2.2.2.2.2 = some (23, .iaload, 1, 0, 0) := by decide +kernel
theorem f277_24 : aF 24 zM277.2.2.2.2.2.2.2 = some (24, (.bipush 10), 2, 0, 0) := by decide +kernel
theorem f277_26 : aF 26 zM277.2.2.2.2.2.2.2 = some (26, (.aload_n 0), 1, 0, 0) := by decide +kernel
theorem f277_27 : aF 27 zM277.2.2.2.2.2.2.2 = some (27, (.getfield 176), 3, 12, 69) := by decide +kernel
theorem f277_30 : aF 30 zM277.2.2.2.2.2.2.2 = some (30, (.bipush 9), 2, 0, 0) := by decide +kernel
theorem f277_32 : aF 32 zM277.2.2.2.2.2.2.2 = some (32, .iaload, 1, 0, 0) := by decide +kernel
theorem f277_33 : aF 33 zM277.2.2.2.2.2.2.2 = some (33, .imul, 1, 0, 0) := by decide +kernel
theorem f277_34 : aF 34 zM277.2.2.2.2.2.2.2 = some (34, (.invokestatic 289), 3, 211, 0) := by decide +kernel
theorem f277_37 : aF 37 zM277.2.2.2.2.2.2.2 = some (37, (.istore 6), 2, 0, 0) := by decide +kernel
theorem f277_39 : aF 39 zM277.2.2.2.2.2.2.2 = some (39, (.iload 4), 2, 0, 0) := by decide +kernel
theorem f277_41 : aF 41 zM277.2.2.2.2.2.2.2 = some (41, (.ifCond .lt 8), 3, 49, 0) := by decide +kernel
theorem f277_44 : aF 44 zM277.2.2.2.2.2.2.2 = some (44, (.iload 4), 2, 0, 0) := by decide +kernel
theorem f277_46 : aF 46 zM277.2.2.2.2.2.2.2 = some (46, (.goto 11), 3, 57, 0) := by decide +kernel
theorem f277_49 : aF 49 zM277.2.2.2.2.2.2.2 = some (49, (.aload_n 0), 1, 0, 0) := by decide +kernel
theorem f277_50 : aF 50 zM277.2.2.2.2.2.2.2 = some (50, (.iload 5), 2, 0, 0) := by decide +kernel
theorem f277_52 : aF 52 zM277.2.2.2.2.2.2.2 = some (52, (.iload_n 2), 1, 0, 0) := by decide +kernel
theorem f277_53 : aF 53 zM277.2.2.2.2.2.2.2 = some (53, (.iload_n 3), 1, 0, 0) := by decide +kernel
theorem f277_54 : aF 54 zM277.2.2.2.2.2.2.2 = some (54, (.invokevirtual 451), 3, 265, 0) := by decide +kernel
theorem f277_57 : aF 57 zM277.2.2.2.2.2.2.2 = some (57, (.istore 7), 2, 0, 0) := by decide +kernel
theorem f277_59 : aF 59 zM277.2.2.2.2.2.2.2 = some (59, (.iload 7), 2, 0, 0) := by decide +kernel
theorem f277_61 : aF 61 zM277.2.2.2.2.2.2.2 = some (61, (.ifCond .ge 7), 3, 68, 0) := by decide +kernel
theorem f277_64 : aF 64 zM277.2.2.2.2.2.2.2 = some (64, (.lconst 1), 1, 0, 0) := by decide +kernel
theorem f277_65 : aF 65 zM277.2.2.2.2.2.2.2 = some (65, (.goto 10), 3, 75, 0) := by decide +kernel
theorem f277_68 : aF 68 zM277.2.2.2.2.2.2.2 = some (68, (.aload_n 0), 1, 0, 0) := by decide +kernel
theorem f277_69 : aF 69 zM277.2.2.2.2.2.2.2 = some (69, (.iload 7), 2, 0, 0) := by decide +kernel
theorem f277_71 : aF 71 zM277.2.2.2.2.2.2.2 = some (71, (.invokevirtual 480), 3, 269, 0) := by decide +kernel
theorem f277_74 : aF 74 zM277.2.2.2.2.2.2.2 = some (74, .i2l, 1, 0, 0) := by decide +kernel
theorem f277_75 : aF 75 zM277.2.2.2.2.2.2.2 = some (75, (.lstore 8), 2, 0, 0) := by decide +kernel
theorem f277_77 : aF 77 zM277.2.2.2.2.2.2.2 = some (77, (.lload 8), 2, 0, 0) := by decide +kernel
theorem f277_79 : aF 79 zM277.2.2.2.2.2.2.2 = some (79, (.iload 6), 2, 0, 0) := by decide +kernel
theorem f277_81 : aF 81 zM277.2.2.2.2.2.2.2 = some (81, .i2l, 1, 0, 0) := by decide +kernel
theorem f277_82 : aF 82 zM277.2.2.2.2.2.2.2 = some (82, .lmul, 1, 0, 0) := by decide +kernel
theorem f277_83 : aF 83 zM277.2.2.2.2.2.2.2 = some (83, (.aload_n 0), 1, 0, 0) := by decide +kernel
theorem f277_84 : aF 84 zM277.2.2.2.2.2.2.2 = some (84, (.iload_n 1), 1, 0, 0) := by decide +kernel
theorem f277_85 : aF 85 zM277.2.2.2.2.2.2.2 = some (85, (.iload_n 2), 1, 0, 0) := by decide +kernel
theorem f277_86 : aF 86 zM277.2.2.2.2.2.2.2 = some (86, (.iload_n 3), 1, 0, 0) := by decide +kernel
theorem f277_87 : aF 87 zM277.2.2.2.2.2.2.2 = some (87, (.iload 6), 2, 0, 0) := by decide +kernel
theorem f277_89 : aF 89 zM277.2.2.2.2.2.2.2 = some (89, (.invokevirtual 483), 3, 275, 0) := by decide +kernel
theorem vaA {X : aX} {D : Nat} {Q : Option Value → aH → Prop} {x1 x2 x3 x4 nb z : Int32} {u6 u7 u8 u9 : Option Value} {σa : List Nat} {ha : aH} {gk fh : Nat → Int32} (hD : 1 ≤ D) (f0 : 0 ≤ x1.toInt) (f1 : x1.toInt ≤ 149) (y0 : 0 ≤ x2.toInt) (y1 : x2.toInt ≤ 9) (hz : z.toInt = 365 * x2.toInt + 364) (n0 : 0 ≤ nb.toInt) (n1 : nb.toInt ≤ 150) (Ia : dI σa ha) (S : hSp X ha z x3 fh) : ∀ (k : Nat) (x5 : Int32) (σ : List Nat) (h : aH) (fs : List Value) (gs : Nat → Int32), (nb.toInt - x5.toInt).toNat = k → 0 ≤ x5.toInt → x5.toInt ≤ nb.toInt → dI σ h → dG cC184.2.2.1 σa ha σ h → h.1[72]? = some (.inr (12, fs)) → fs[2]? = some (.int nb) → h.1[73]? = some (.inl (0, 150, .inl gk)) → h.1[127]? = some (.inl (2, 150, .inl gs)) → (∀ j, j < x5.toInt.toNat → (gs j).toInt = if (pH gk fh x1.toInt) j = true then 0 else 1) →
    (∀ (h' : aH) (gs' : Nat → Int32) (y5 : Int32), dI σ h' → dG cC184.2.2.1 σ h σ h' → h'.1[127]? = some (.inl (2, 150, .inl gs')) → (∀ j, j < nb.toInt.toNat → (gs' j).toInt = if (pH gk fh x1.toInt) j = true then 0 else 1) → Wp X D zM275 Q 64 [some (.ref 72), some (.int x1), some (.int x2), some (.int x3), some (.int x4), some (.int y5), u6, u7, u8, u9] [] h') → Wp X D zM275 Q 3 [some (.ref 72), some (.int x1), some (.int x2), some (.int x3), some (.int x4), some (.int x5), u6, u7, u8, u9] [] h := by
  intro k
  induction k with
  | zero =>
    intro x5 σ h fs gs hk a0 a1 I G c72 E2 c73 c127 hg kq
    refine wp1 (fun n d => r_iload f275_3 rfl) ?_
    refine wp1 (fun n d => r_aloadn f275_5 rfl) ?_
    refine w_get f275_6 c72 E2 ?_
    refine w_icmp_ge f275_9 (fun e => kq h gs x5 I (dG_refl _ _ _) c127 ?_) (fun e => absurd e (by omega))
    rw [show nb.toInt.toNat = x5.toInt.toNat by omega]
    exact hg
  | succ k ih =>
    intro x5 σ h fs gs hk a0 a1 I G c72 E2 c73 c127 hg kq
    refine wp1 (fun n d => r_iload f275_3 rfl) ?_
    refine wp1 (fun n d => r_aloadn f275_5 rfl) ?_
    refine w_get f275_6 c72 E2 ?_
    refine w_icmp_ge f275_9 (fun e9 => absurd e9 (by omega)) (fun e9 => ?_)
    have F1001 := hI_r I c72 (f := 73) (q := 127) (by decide +kernel)
    have k57 : ∀ v : Int32, (v.toInt = if (pH gk fh x1.toInt) x5.toInt.toNat = true then 0 else 1) → Wp X D zM275 Q 57 [some (.ref 72), some (.int x1), some (.int x2), some (.int x3), some (.int x4), some (.int x5), u6, u7, u8, u9] [.int v, .int x5, .ref 127] h := by
      intro v hv
      have v01 : v.toInt = 0 ∨ v.toInt = 1 := by rw [hv]; split <;> omega
      refine w_zastI f275_57 c127 (by omega) (by omega) I (W := cC184.2.2.1) (by decide +kernel) (by decide) (by omega) (fun h1002 w1002 hw1002 I1002 G1002 c1002 ne1002 => ?_)
      obtain ⟨g1002, hg1002⟩ : ∃ g', g' = upd gs x5.toInt.toNat w1002 := ⟨_, rfl⟩
      rw [← hg1002] at c1002
      have c1003 := (ne1002 72 (by decide)).trans c72
      have c1004 := (ne1002 73 (by decide)).trans c73
      refine w_iinc f275_58 rfl (by omega) (by omega) (fun v58 hv58 => ?_)
      show Wp _ _ _ _ 61 [some (.ref 72), some (.int x1), some (.int x2), some (.int x3), some (.int x4), some (.int v58), u6, u7, u8, u9] [] _
      refine wp1 (fun n d => r_goto f275_61) ?_
      refine ih v58 σ h1002 fs g1002 (by omega) (by omega) (by omega) I1002 (dG_trans G G1002) c1003 E2 c1004 c1002 ?_ (fun h' g' y5 I' G' => kq h' g' y5 I' (dG_trans G1002 G'))
      rw [show v58.toInt.toNat = x5.toInt.toNat + 1 by omega]
      intro j hj
      rw [hg1002]
      by_cases e : j = x5.toInt.toNat
      · subst e; rw [pk_us, hw1002]; exact hv
      · rw [pk_un e]; exact hg j (by omega)
    have k52 : (pH gk fh x1.toInt) x5.toInt.toNat = false → Wp X D zM275 Q 52 [some (.ref 72), some (.int x1), some (.int x2), some (.int x3), some (.int x4), some (.int x5), u6, u7, u8, u9] [.int x5, .ref 127] h := by
      intro e
      refine w_iconst f275_52 (fun v hv => ?_)
      refine wp1 (fun n d => r_goto f275_53) ?_
      exact k57 v (by rw [e]; exact hv)
    refine wp1 (fun n d => r_aloadn f275_12 rfl) ?_
    refine w_get f275_13 c72 F1001 ?_
    refine wp1 (fun n d => r_iload f275_16 rfl) ?_
    refine wp1 (fun n d => r_aloadn f275_18 rfl) ?_
    have F1002 := hI_r I c72 (f := 3) (q := 73) (by decide +kernel)
    refine w_get f275_19 c72 F1002 ?_
    refine wp1 (fun n d => r_iload f275_22 rfl) ?_
    refine w_iald f275_24 c73 (by omega) (by omega) (fun v24 hv24 => ?_)
    refine w_bipush f275_25 (fun v25 hv25 => ?_)
    refine w_icmp_ne f275_27 (fun e27 => k52 (pH_0 (Or.inl (by rw [← hv24]; omega)))) (fun e27 => ?_)
    refine wp1 (fun n d => r_aloadn f275_30 rfl) ?_
    refine wp1 (fun n d => r_iload f275_31 rfl) ?_
    refine w_sipush f275_33 (fun v33 hv33 => ?_)
    refine wp1 (fun n d => r_iloadn f275_36 rfl) ?_
    refine w_imul f275_37 (by rw [hv33]; omega) (by rw [hv33]; omega) (fun v37 hv37 => ?_)
    rw [hv33] at hv37
    refine w_sipush f275_38 (fun v38 hv38 => ?_)
    refine w_iadd f275_41 (by omega) (by omega) (fun v41 hv41 => ?_)
    refine w_iconst f275_42 (fun v42 hv42 => ?_)
    refine w_isub f275_43 (by omega) (by omega) (fun v43 hv43 => ?_)
    refine wp1 (fun n d => r_iloadn f275_44 rfl) ?_
    refine wp_pA (Y := zM226) (r := [.int x5, .ref 127]) (show zmt[226]? = some zM226 from rfl) (S x5 v43 (by omega) (by omega) (by omega) _ (hH1 Ia G)) (fun n d v h' e => r_virt (as := [.int x5, .int v43, .int x3]) (r := [.int x5, .ref 127]) f275_45 c72 (show zmt[226]? = some zM226 from rfl) rfl rfl rfl rfl rfl rfl e) (by omega) ?_
    show Wp _ _ _ _ 48 [some (.ref 72), some (.int x1), some (.int x2), some (.int x3), some (.int x4), some (.int x5), u6, u7, u8, u9] [.int (fh x5.toInt.toNat), .int x5, .ref 127] _
    refine wp1 (fun n d => r_iloadn f275_48 rfl) ?_
    refine w_icmp_eq f275_49 (fun e49 => ?_) (fun e49 => k52 (pH_0 (Or.inr e49)))
    refine w_iconst f275_56 (fun v hv => ?_)
    exact k57 v (by rw [if_pos (pH_1 (by rw [← hv24]; omega) e49)]; exact hv)
def p0 (gs : Nat → Int32) (b : Nat) : Bool := decide ((gs b).toInt = 0)
theorem p0_1 {gs : Nat → Int32} {b : Nat} (h : (gs b).toInt = 0) : p0 gs b = true := decide_eq_true h
theorem p0_0 {gs : Nat → Int32} {b : Nat} (h : (gs b).toInt ≠ 0) : p0 gs b = false := decide_eq_false h
theorem vaD {X : aX} {D : Nat} {Q : Option Value → aH → Prop} {x1 x2 x3 x4 x7 nb : Int32} {s5 : Int64} {gs : Nat → Int32} {σ : List Nat} {h : aH} {fs : List Value} (n0 : 0 ≤ nb.toInt) (n1 : nb.toInt ≤ 150) (I : dI σ h) (c127 : h.1[127]? = some (.inl (2, 150, .inl gs))) (c72 : h.1[72]? = some (.inr (12, fs))) (E2 : fs[2]? = some (.int nb))
    (kq : ∀ (y8 y9 : Int32), (y8.toInt = -1 ∧ cntP (p0 gs) nb.toInt.toNat = 0 ∨ 0 ≤ y8.toInt ∧ y8.toInt.toNat < nb.toInt.toNat ∧ p0 gs y8.toInt.toNat = true) → Wp X D zM275 Q 133 [some (.ref 72), some (.int x1), some (.int x2), some (.int x3), some (.int x4), some (.long s5), none, some (.int x7), some (.int y8), some (.int y9)] [] h) : ∀ (k : Nat) (x8 x9 : Int32), (nb.toInt - x9.toInt).toNat = k → 0 ≤ x9.toInt → x9.toInt ≤ nb.toInt → (x8.toInt = -1 ∧ cntP (p0 gs) x9.toInt.toNat = 0 ∨ 0 ≤ x8.toInt ∧ x8.toInt.toNat < nb.toInt.toNat ∧ p0 gs x8.toInt.toNat = true) → Wp X D zM275 Q 82 [some (.ref 72), some (.int x1), some (.int x2), some (.int x3), some (.int x4), some (.long s5), none, some (.int x7), some (.int x8), some (.int x9)] [] h := by
  intro k
  induction k with
  | zero =>
    intro x8 x9 hk a0 a1 hi
    refine wp1 (fun n d => r_iload f275_82 rfl) ?_
    refine wp1 (fun n d => r_aloadn f275_84 rfl) ?_
    refine w_get f275_85 c72 E2 ?_
    refine w_icmp_ge f275_88 (fun e => kq x8 x9 ?_) (fun e => absurd e (by omega))
    rw [show nb.toInt.toNat = x9.toInt.toNat by omega] at *
    exact hi
  | succ k ih =>
    intro x8 x9 hk a0 a1 hi
    refine wp1 (fun n d => r_iload f275_82 rfl) ?_
    refine wp1 (fun n d => r_aloadn f275_84 rfl) ?_
    refine w_get f275_85 c72 E2 ?_
    refine w_icmp_ge f275_88 (fun e88 => absurd e88 (by omega)) (fun e88 => ?_)
    have hc1 : cntP (p0 gs) (x9.toInt.toNat + 1) = cntP (p0 gs) x9.toInt.toNat + (if p0 gs x9.toInt.toNat = true then 1 else 0) := rfl
    have k127 : ∀ y8 : Int32, (y8.toInt = -1 ∧ cntP (p0 gs) (x9.toInt.toNat + 1) = 0 ∨ 0 ≤ y8.toInt ∧ y8.toInt.toNat < nb.toInt.toNat ∧ p0 gs y8.toInt.toNat = true) → Wp X D zM275 Q 127 [some (.ref 72), some (.int x1), some (.int x2), some (.int x3), some (.int x4), some (.long s5), none, some (.int x7), some (.int y8), some (.int x9)] [] h := by
      intro y8 hi'
      refine w_iinc f275_127 rfl (by omega) (by omega) (fun v127 hv127 => ?_)
      show Wp _ _ _ _ 130 [some (.ref 72), some (.int x1), some (.int x2), some (.int x3), some (.int x4), some (.long s5), none, some (.int x7), some (.int y8), some (.int v127)] [] _
      refine wp1 (fun n d => r_goto f275_130) ?_
      exact ih y8 v127 (by omega) (by omega) (by omega) (by rw [show v127.toInt.toNat = x9.toInt.toNat + 1 by omega]; exact hi')
    have k123 : p0 gs x9.toInt.toNat = true → Wp X D zM275 Q 123 [some (.ref 72), some (.int x1), some (.int x2), some (.int x3), some (.int x4), some (.long s5), none, some (.int x7), some (.int x8), some (.int x9)] [] h := by
      intro e
      refine wp1 (fun n d => r_iload f275_123 rfl) ?_
      refine wp1 (fun n d => r_istore (L' := [some (.ref 72), some (.int x1), some (.int x2), some (.int x3), some (.int x4), some (.long s5), none, some (.int x7), some (.int x9), some (.int x9)]) f275_125 rfl rfl) ?_
      exact k127 x9 (Or.inr ⟨a0, by omega, e⟩)
    refine wp1 (fun n d => r_aloadn f275_91 rfl) ?_
    have F1001 := hI_r I c72 (f := 73) (q := 127) (by decide +kernel)
    refine w_get f275_92 c72 F1001 ?_
    refine wp1 (fun n d => r_iload f275_95 rfl) ?_
    refine w_zald f275_97 c127 (by omega) (by omega) (fun v97 hv97 => ?_)
    refine w_if_ne f275_98 (fun e98 => k127 x8 ?_) (fun e98 => ?_)
    · rw [hc1, p0_0 (by rw [← hv97]; exact e98)]
      rcases hi with ⟨i1, i2⟩ | i
      · exact Or.inl ⟨i1, by rw [i2]; rfl⟩
      · exact Or.inr i
    have hp : p0 gs x9.toInt.toNat = true := p0_1 (by rw [← hv97]; exact e98)
    refine wp1 (fun n d => r_iload f275_101 rfl) ?_
    refine w_if_lt f275_103 (fun e103 => k123 hp) (fun e103 => ?_)
    obtain ⟨i1, i2, i3⟩ : 0 ≤ x8.toInt ∧ x8.toInt.toNat < nb.toInt.toNat ∧ p0 gs x8.toInt.toNat = true := by
      rcases hi with ⟨i1, i2⟩ | i
      · omega
      · exact i
    refine wp1 (fun n d => r_aloadn f275_106 rfl) ?_
    have F1002 := hI_r I c72 (f := 9) (q := 79) (by decide +kernel)
    refine w_get f275_107 c72 F1002 ?_
    refine wp1 (fun n d => r_iload f275_110 rfl) ?_
    obtain ⟨g1003, c1003, R1003⟩ := hI_a I (r := 79) (a := 0) (n := 150) (lo := (-2147483648)) (hi := 2147483647) (by decide +kernel)
    refine w_iald f275_112 c1003 (by omega) (by omega) (fun v112 hv112 => ?_)
    have bv112 := R1003 x9.toInt.toNat (by omega)
    rw [← hv112] at bv112
    refine wp1 (fun n d => r_aloadn f275_113 rfl) ?_
    refine w_get f275_114 c72 F1002 ?_
    refine wp1 (fun n d => r_iload f275_117 rfl) ?_
    refine w_iald f275_119 c1003 (by omega) (by omega) (fun v119 hv119 => ?_)
    have bv119 := R1003 x8.toInt.toNat (by omega)
    rw [← hv119] at bv119
    exact w_icmp_le f275_120 (fun _ => k127 x8 (Or.inr ⟨i1, i2, i3⟩)) (fun _ => k123 hp)
theorem vaC {X : aX} {D : Nat} (hD : 1 ≤ D) {Q : Option Value → aH → Prop} {x1 x2 x3 x4 nb : Int32} (n0 : 0 ≤ nb.toInt) (n1 : nb.toInt ≤ 150) : ∀ (k : Nat) (s5 : Int64) (x7 : Int32) (u8 u9 : Option Value) (σ : List Nat) (h : aH) (fs : List Value) (gs : Nat → Int32), x7.toInt ≤ k → x7.toInt ≤ 10 * cntP (p0 gs) nb.toInt.toNat → dI σ h → h.1[72]? = some (.inr (12, fs)) → fs[2]? = some (.int nb) → h.1[127]? = some (.inl (2, 150, .inl gs)) →
    (∀ (h' : aH) (s : Int64) (y7 : Int32) (v8 v9 : Option Value), dI σ h' → dG cC184.2.2.1 σ h σ h' → Wp X D zM275 Q 169 [some (.ref 72), some (.int x1), some (.int x2), some (.int x3), some (.int x4), some (.long s), none, some (.int y7), v8, v9] [] h') → Wp X D zM275 Q 71 [some (.ref 72), some (.int x1), some (.int x2), some (.int x3), some (.int x4), some (.long s5), none, some (.int x7), u8, u9] [] h := by
  intro k
  induction k with
  | zero =>
    intro s5 x7 u8 u9 σ h fs gs hk hc I c72 E2 c127 kq
    refine wp1 (fun n d => r_iload f275_71 rfl) ?_
    exact w_if_le f275_73 (fun e => kq h s5 x7 _ _ I (dG_refl _ _ _)) (fun e => absurd e (by omega))
  | succ k ih =>
    intro s5 x7 u8 u9 σ h fs gs hk hc I c72 E2 c127 kq
    have r7 := iR x7
    refine wp1 (fun n d => r_iload f275_71 rfl) ?_
    refine w_if_le f275_73 (fun e73 => kq h s5 x7 _ _ I (dG_refl _ _ _)) (fun e73 => ?_)
    refine w_iconst f275_76 (fun v76 hv76 => ?_)
    refine wp1 (fun n d => r_istore (L' := [some (.ref 72), some (.int x1), some (.int x2), some (.int x3), some (.int x4), some (.long s5), none, some (.int x7), some (.int v76), u9]) f275_77 rfl rfl) ?_
    refine w_iconst f275_79 (fun v79 hv79 => ?_)
    refine wp1 (fun n d => r_istore (L' := [some (.ref 72), some (.int x1), some (.int x2), some (.int x3), some (.int x4), some (.long s5), none, some (.int x7), some (.int v76), some (.int v79)]) f275_80 rfl rfl) ?_
    refine vaD n0 n1 I c127 c72 E2 (fun y8 y9 hi => ?_) _ v76 v79 rfl (by omega) (by omega) (Or.inl ⟨by omega, by rw [show v79.toInt.toNat = 0 by omega]; rfl⟩)
    obtain ⟨i1, i2, i3⟩ : 0 ≤ y8.toInt ∧ y8.toInt.toNat < nb.toInt.toNat ∧ p0 gs y8.toInt.toNat = true := by
      rcases hi with ⟨i1, i2⟩ | i
      · omega
      · exact i
    refine wp1 (fun n d => r_aloadn f275_133 rfl) ?_
    have F1001 := hI_r I c72 (f := 73) (q := 127) (by decide +kernel)
    refine w_get f275_134 c72 F1001 ?_
    refine wp1 (fun n d => r_iload f275_137 rfl) ?_
    refine w_iconst f275_139 (fun v139 hv139 => ?_)
    refine w_zastI f275_140 c127 (by omega) (by omega) I (W := cC184.2.2.1) (by decide +kernel) (by decide) (by omega) (fun h1002 w1002 hw1002 I1002 G1002 c1002 ne1002 => ?_)
    obtain ⟨g1002, hg1002⟩ : ∃ g', g' = upd gs y8.toInt.toNat w1002 := ⟨_, rfl⟩
    rw [← hg1002] at c1002
    have c1003 := (ne1002 72 (by decide)).trans c72
    refine wp1 (fun n d => r_lload f275_141 rfl) ?_
    refine wp1 (fun n d => r_aloadn f275_143 rfl) ?_
    have F1004 := hI_r I1002 c1003 (f := 9) (q := 79) (by decide +kernel)
    refine w_get f275_144 c1003 F1004 ?_
    refine wp1 (fun n d => r_iload f275_147 rfl) ?_
    obtain ⟨g1005, c1005, R1005⟩ := hI_a I1002 (r := 79) (a := 0) (n := 150) (lo := (-2147483648)) (hi := 2147483647) (by decide +kernel)
    refine w_iald f275_149 c1005 (by omega) (by omega) (fun v149 hv149 => ?_)
    have bv149 := R1005 y8.toInt.toNat (by omega)
    rw [← hv149] at bv149
    refine w_i2l f275_150 (fun v150 hv150 => ?_)
    refine w_bipush f275_151 (fun v151 hv151 => ?_)
    refine wp1 (fun n d => r_iload f275_153 rfl) ?_
    refine wp_in (lv := 0) (Y := zM211) (lesser_wp) (fun n d v h' e => r_stat (as := [.int v151, .int x7]) (r := [.long v150, .long s5]) f275_155 rfl (show zmt[211]? = some zM211 from rfl) rfl rfl rfl rfl rfl rfl e) (by first | decide | omega) ?_
    rintro v h' ⟨rfl, v155, rfl, rl⟩
    show Wp _ _ _ _ 158 [some (.ref 72), some (.int x1), some (.int x2), some (.int x3), some (.int x4), some (.long s5), none, some (.int x7), some (.int y8), some (.int y9)] [.int v155, .long v150, .long s5] _
    refine w_i2l f275_158 (fun v158 hv158 => ?_)
    refine w_lmul' f275_159 (fun v159 => ?_)
    refine w_ladd' f275_160 (fun v160 => ?_)
    refine wp1 (fun n d => r_lstore (L' := [some (.ref 72), some (.int x1), some (.int x2), some (.int x3), some (.int x4), some (.long v160), none, some (.int x7), some (.int y8), some (.int y9)]) f275_161 rfl rfl) ?_
    refine w_iinc f275_163 rfl (by omega) (by omega) (fun v163 hv163 => ?_)
    show Wp _ _ _ _ 166 [some (.ref 72), some (.int x1), some (.int x2), some (.int x3), some (.int x4), some (.long v160), none, some (.int v163), some (.int y8), some (.int y9)] [] _
    refine wp1 (fun n d => r_goto f275_166) ?_
    have hcu := cntP_upd (p := p0 gs) (q := p0 g1002) i3 (fun j hj e => by
      unfold p0 at e ⊢
      rw [hg1002, pk_un hj]
      exact e) nb.toInt.toNat i2
    exact ih v160 v163 _ _ σ h1002 fs g1002 (by omega) (by omega) I1002 c1003 E2 c1002 (fun h' s y7 v8 v9 I' G' => kq h' s y7 v8 v9 I' (dG_trans G1002 G'))
theorem valuesOf_wp {X : aX} {D : Nat} {x1 x2 x3 x4 nb z : Int32} {u5 u6 u7 u8 u9 : Option Value} {σa : List Nat} {ha : aH} {gk fh : Nat → Int32} {fsa : List Value} (hD : 1 ≤ D) (f0 : 0 ≤ x1.toInt) (f1 : x1.toInt ≤ 149) (y0 : 0 ≤ x2.toInt) (y1 : x2.toInt ≤ 9) (hz : z.toInt = 365 * x2.toInt + 364) (Ia : dI σa ha) (S : hSp X ha z x3 fh) (a72 : ha.1[72]? = some (.inr (12, fsa))) (a2 : fsa[2]? = some (.int nb)) (a73 : ha.1[73]? = some (.inl (0, 150, .inl gk))) (hx : x4.toInt ≤ 10 * cntP (pH gk fh x1.toInt) nb.toInt.toNat) {σ : List Nat} {h : aH} (I : dI σ h) (G : dG cC184.2.2.1 σa ha σ h) : Wp X D zM275 (fun v h' => (∃ s : Int64, v = some (.long s)) ∧ dI σ h' ∧ dG cC184.2.2.1 σ h σ h') 0 [some (.ref 72), some (.int x1), some (.int x2), some (.int x3), some (.int x4), u5, u6, u7, u8, u9] [] h := by
  obtain ⟨nb', b2, n0, n1⟩ := hI_i Ia a72 (f := 2) (lo := 0) (hi := 150) (by decide +kernel)
  cases a2.symm.trans b2
  obtain ⟨fs, c72, dfs⟩ := dG_o Ia.1 G a72 (by decide)
  have E2 := (dfs 2 rfl).trans a2
  have c73 := dG_a Ia.1 G a73 (by decide) rfl
  refine w_iconst f275_0 (fun v0 hv0 => ?_)
  refine wp1 (fun n d => r_istore (L' := [some (.ref 72), some (.int x1), some (.int x2), some (.int x3), some (.int x4), some (.int v0), u6, u7, u8, u9]) f275_1 rfl rfl) ?_
  obtain ⟨g1001, c1001, R1001⟩ := hI_a I (r := 127) (a := 2) (n := 150) (lo := 0) (hi := 1) (by decide +kernel)
  refine vaA hD f0 f1 y0 y1 hz n0 n1 Ia S _ v0 σ h fs _ rfl (by omega) (by omega) I G c72 E2 c73 c1001 (fun j hj => absurd hj (by omega)) (fun h1 gs y5 I1 G1 d127 hg => ?_)
  obtain ⟨fs1, d72, dfs1⟩ := dG_o I.1 G1 c72 (by decide)
  have K2 := (dfs1 2 rfl).trans E2
  have hle := cntP_imp (p := pH gk fh x1.toInt) (q := p0 gs) nb.toInt.toNat (fun j hj e => p0_1 (by rw [hg j hj, if_pos e]))
  refine w_lconst f275_64 (fun v64 hv64 => ?_)
  have hv64 : v64.toInt = 0 := hv64
  refine wp1 (fun n d => r_lstore (L' := [some (.ref 72), some (.int x1), some (.int x2), some (.int x3), some (.int x4), some (.long v64), none, u7, u8, u9]) f275_65 rfl rfl) ?_
  refine wp1 (fun n d => r_iload f275_67 rfl) ?_
  refine wp1 (fun n d => r_istore (L' := [some (.ref 72), some (.int x1), some (.int x2), some (.int x3), some (.int x4), some (.long v64), none, some (.int x4), u8, u9]) f275_69 rfl rfl) ?_
  refine vaC hD n0 n1 x4.toInt.toNat v64 x4 _ _ σ h1 fs1 gs (by omega) (by omega) I1 d72 K2 d127 (fun h2 s y7 v8 v9 I2 G2 => ?_)
  refine wp1 (fun n d => r_lload f275_169 rfl) ?_
  exact wp_end (fun n d => r_lreturn f275_171 rfl) ⟨⟨_, rfl⟩, I2, dG_trans G1 G2⟩
/-- payBy behind its values -/
def cC184t : cC := (277, 9, [(72, 38), (72, 39), (72, 71), (72, 75), (103, 0), (104, 0), (105, 0), (106, 0), (107, 0), (108, 0), (109, 0), (110, 0), (124, 0), (125, 0), (126, 0), (127, 0), (128, 0)], ([(3, 72, .ofNat 0), (1, 1, .ofNat 0), (1, 2, .ofNat 0), (1, 3, .ofNat 0), (1, 0, .negSucc 0), (0, 0, .ofNat 0), (0, 0, .ofNat 0), (0, 0, .ofNat 0), (0, 0, .ofNat 0), (0, 0, .ofNat 0), (0, 0, .ofNat 0), (0, 0, .ofNat 0), (0, 0, .ofNat 0)], [], ([(.ofNat 0, .ofNat 0), (.ofNat 0, .ofNat 149), (.ofNat 0, .ofNat 9), (.ofNat 0, .ofNat 3649)], [], [], [], [], [], [])), [([], [(1, 1, .ofNat 0)], ([(.ofNat 0, .ofNat 0), (.negSucc 2147483647, .ofNat 2147483647)], [], [], [], [], [], []))], [(92, ([(3, 72, .ofNat 0), (1, 1, .ofNat 0), (1, 2, .ofNat 0), (1, 3, .ofNat 0), (0, 0, .ofNat 0), (1, 4, .ofNat 0), (0, 0, .ofNat 0), (0, 0, .ofNat 0), (0, 0, .ofNat 0), (0, 0, .ofNat 0), (0, 0, .ofNat 0), (0, 0, .ofNat 0), (0, 0, .ofNat 0)], [(2, 5, .ofNat 0), (2, 6, .ofNat 0)], ([(.ofNat 0, .ofNat 0), (.ofNat 0, .ofNat 149), (.ofNat 0, .ofNat 9), (.ofNat 0, .ofNat 3649), (.ofNat 0, .ofNat 30), (.negSucc 9223372036854775807, .ofNat 9223372036854775807), (.negSucc 9223372036854775807, .ofNat 9223372036854775807)], [], [], [], [], [], [])), (.ofNat 8, [])), (132, ([(3, 72, .ofNat 0), (1, 1, .ofNat 0), (1, 2, .ofNat 0), (1, 3, .ofNat 0), (0, 0, .ofNat 0), (1, 4, .ofNat 0), (0, 0, .ofNat 0), (1, 5, .ofNat 0), (0, 0, .ofNat 0), (0, 0, .ofNat 0), (1, 6, .ofNat 0), (0, 0, .ofNat 0), (0, 0, .ofNat 0)], [], ([(.ofNat 0, .ofNat 0), (.ofNat 0, .ofNat 149), (.ofNat 0, .ofNat 9), (.ofNat 0, .ofNat 3649), (.ofNat 0, .ofNat 30), (.negSucc 1, .ofNat 15), (.ofNat 0, .ofNat 2000000000), (.ofNat 0, .ofNat 16)], [], [], [], [(72, 55, 1, 7, .ofNat 0)], [], [])), (.ofNat 7, [])), (152, ([(3, 72, .ofNat 0), (1, 1, .ofNat 0), (1, 2, .ofNat 0), (1, 3, .ofNat 0), (0, 0, .ofNat 0), (1, 4, .ofNat 0), (0, 0, .ofNat 0), (1, 5, .ofNat 0), (0, 0, .ofNat 0), (0, 0, .ofNat 0), (1, 6, .ofNat 0), (0, 0, .ofNat 0), (0, 0, .ofNat 0)], [], ([(.ofNat 0, .ofNat 0), (.ofNat 0, .ofNat 149), (.ofNat 0, .ofNat 9), (.ofNat 0, .ofNat 3649), (.ofNat 0, .ofNat 30), (.negSucc 1, .ofNat 15), (.ofNat 0, .ofNat 2000000000), (.ofNat 0, .ofNat 16)], [], [], [], [(72, 55, 1, 7, .ofNat 0)], [], [])), (.ofNat 6, [])), (210, ([(3, 72, .ofNat 0), (1, 1, .ofNat 0), (1, 2, .ofNat 0), (1, 3, .ofNat 0), (0, 0, .ofNat 0), (1, 4, .ofNat 0), (0, 0, .ofNat 0), (1, 5, .ofNat 0), (0, 0, .ofNat 0), (0, 0, .ofNat 0), (1, 6, .ofNat 0), (1, 7, .ofNat 0), (0, 0, .ofNat 0)], [(1, 8, .ofNat 0)], ([(.ofNat 0, .ofNat 0), (.ofNat 0, .ofNat 149), (.ofNat 0, .ofNat 9), (.ofNat 0, .ofNat 3649), (.ofNat 0, .ofNat 30), (.ofNat 0, .ofNat 15), (.ofNat 0, .ofNat 2000000000), (.negSucc 2147483647, .ofNat 2147483647), (.ofNat 0, .ofNat 2147483647), (.ofNat 1, .ofNat 16), (.ofNat 0, .ofNat 16)], [], [], [], [(72, 55, 1, 9, .ofNat 0), (72, 55, 1, 10, .ofNat 0)], [], [])), (.ofNat 5, [])), (212, ([(3, 72, .ofNat 0), (1, 1, .ofNat 0), (1, 2, .ofNat 0), (1, 3, .ofNat 0), (0, 0, .ofNat 0), (1, 4, .ofNat 0), (0, 0, .ofNat 0), (1, 5, .ofNat 0), (0, 0, .ofNat 0), (0, 0, .ofNat 0), (1, 6, .ofNat 0), (0, 0, .ofNat 0), (0, 0, .ofNat 0)], [], ([(.ofNat 0, .ofNat 0), (.ofNat 0, .ofNat 149), (.ofNat 0, .ofNat 9), (.ofNat 0, .ofNat 3649), (.ofNat 0, .ofNat 30), (.negSucc 1, .ofNat 15), (.ofNat 0, .ofNat 2147483647), (.ofNat 0, .ofNat 16), (.ofNat 0, .ofNat 16)], [], [], [], [(72, 55, 1, 7, .ofNat 0), (72, 55, 1, 8, .ofNat 0)], [], [])), (.ofNat 4, [])), (285, ([(3, 72, .ofNat 0), (1, 1, .ofNat 0), (1, 2, .ofNat 0), (1, 3, .ofNat 0), (0, 0, .ofNat 0), (1, 4, .ofNat 0), (0, 0, .ofNat 0), (1, 5, .ofNat 0), (0, 0, .ofNat 0), (0, 0, .ofNat 0), (1, 6, .ofNat 0), (1, 0, .ofNat 0), (1, 7, .ofNat 0)], [(1, 8, .ofNat 0)], ([(.ofNat 0, .ofNat 0), (.ofNat 0, .ofNat 149), (.ofNat 0, .ofNat 9), (.ofNat 0, .ofNat 3649), (.ofNat 0, .ofNat 30), (.ofNat 0, .ofNat 15), (.ofNat 0, .ofNat 2147483647), (.negSucc 2147483647, .ofNat 2147483647), (.ofNat 0, .ofNat 149), (.negSucc 2147483647, .ofNat 2147483647), (.ofNat 1, .ofNat 16), (.ofNat 0, .ofNat 16), (.ofNat 0, .ofNat 16)], [], [], [], [(72, 75, 1, 9, .ofNat 0), (72, 71, 1, 9, .ofNat 0), (72, 55, 1, 10, .ofNat 0), (72, 55, 1, 11, .ofNat 0), (72, 55, 1, 12, .ofNat 0)], [], [])), (.ofNat 3, [])), (287, ([(3, 72, .ofNat 0), (1, 1, .ofNat 0), (1, 2, .ofNat 0), (1, 3, .ofNat 0), (0, 0, .ofNat 0), (1, 4, .ofNat 0), (0, 0, .ofNat 0), (1, 5, .ofNat 0), (0, 0, .ofNat 0), (0, 0, .ofNat 0), (1, 6, .ofNat 0), (1, 7, .ofNat 0), (0, 0, .ofNat 0)], [], ([(.ofNat 0, .ofNat 0), (.ofNat 0, .ofNat 149), (.ofNat 0, .ofNat 9), (.ofNat 0, .ofNat 3649), (.ofNat 0, .ofNat 30), (.negSucc 1, .ofNat 15), (.ofNat 0, .ofNat 2147483647), (.ofNat 0, .ofNat 149), (.negSucc 2147483647, .ofNat 2147483647), (.ofNat 0, .ofNat 16), (.ofNat 0, .ofNat 16), (.ofNat 0, .ofNat 16)], [], [], [], [(72, 75, 1, 8, .ofNat 0), (72, 55, 1, 9, .ofNat 0), (72, 55, 1, 10, .ofNat 0), (72, 55, 1, 11, .ofNat 0)], [], [])), (.ofNat 2, [])), (318, ([(3, 72, .ofNat 0), (1, 1, .ofNat 0), (1, 2, .ofNat 0), (1, 3, .ofNat 0), (0, 0, .ofNat 0), (1, 4, .ofNat 0), (0, 0, .ofNat 0), (1, 5, .ofNat 0), (0, 0, .ofNat 0), (0, 0, .ofNat 0), (1, 6, .ofNat 0), (1, 7, .ofNat 0), (0, 0, .ofNat 0)], [], ([(.ofNat 0, .ofNat 0), (.ofNat 0, .ofNat 149), (.ofNat 0, .ofNat 9), (.ofNat 0, .ofNat 3649), (.ofNat 0, .ofNat 30), (.negSucc 1, .ofNat 15), (.negSucc 2147483647, .ofNat 2147483647), (.ofNat 0, .ofNat 149), (.negSucc 2147483647, .ofNat 2147483647), (.ofNat 0, .ofNat 16), (.ofNat 0, .ofNat 16), (.ofNat 0, .ofNat 16)], [], [], [], [(72, 75, 1, 8, .ofNat 0), (72, 55, 1, 9, .ofNat 0), (72, 55, 1, 10, .ofNat 0), (72, 55, 1, 11, .ofNat 0)], [], [])), (.ofNat 1, []))])
theorem ct_184t : cC184t.2.2.2.2.2.all (fun c => crk0 c.2.1 c.2.2 && cseg (cCTp, cCMp, 7, cC184t.2.2.1, cC184t.2.2.2.2.2, some c.2.2) cC184t 3000 c.1 c.2.1) = true := by decide +kernel
theorem rpost_f {σ : List Nat} {h : aH} {v : Option Value} (hP : ∃ P, P ∈ cC330.2.2.2.2.1 ∧ dPost P σ h v) {fs : List Value} {x : Int32} (c72 : h.1[72]? = some (.inr (12, fs))) (F55 : fs[55]? = some (.int x)) : ∃ r : Int32, v = some (.int r) ∧ -2 ≤ r.toInt ∧ r.toInt ≤ 15 ∧ r.toInt < x.toInt := by
  obtain ⟨P, hm, ρ, rh, k, s⟩ := hP
  cases List.mem_singleton.mp hm
  cases v with
  | none => exact s.elim
  | some v =>
    obtain ⟨⟨r, y, rfl, e1, e2⟩, -⟩ := s
    have := k.1.2.2 1 y (-2, 15) e1 rfl
    have e2 : r.toInt = y + 0 := e2
    dsimp only at this
    obtain ⟨ya, yb, d1, d2, d3⟩ := k.2.1 (1, 2, -1) List.mem_cons_self
    dsimp only at d1 d2 d3
    obtain ⟨q, ci, fs2, v, f1, f2, f3, f4⟩ := k.2.2.2.2.1 (72, 55, 1, 2, 0) List.mem_cons_self
    dsimp only at f1 f3 f4
    obtain ⟨xt, yx, rfl, f5, f6⟩ := f4
    dsimp only at f5 f6
    cases e1.symm.trans d1
    cases d2.symm.trans f5
    have hq : q = 72 := by
      rcases f1 with ⟨-, e⟩ | ⟨e, -⟩
      · exact e
      · omega
    subst hq
    cases c72.symm.trans f2
    cases F55.symm.trans f3
    exact ⟨r, rfl, by omega, by omega, by omega⟩
theorem payBy_wp {X : aX} (hX : X 0 = some (8, zab)) (g : hG X 184) (G71 : dGood X cC71) (GY : dGood X cC319) (GG : dGood X cC322) (GS : dGood X cC157) (GE : dGood X cC318) (GL : dGood X cC320) (GP : dGood X cC321) (GH : dGood X cC311) (GB : dGood X cC315) {x1 x2 x3 x4 : Int32} {u5 u6 u7 u8 u9 u10 u11 u12 : Option Value} (f0 : 0 ≤ x1.toInt) (f1 : x1.toInt ≤ 149) (y0 : 0 ≤ x2.toInt) (y1 : x2.toInt ≤ 9) (d0 : 0 ≤ x3.toInt) (d1 : x3.toInt ≤ 3649) {σ : List Nat} {h : aH} (I : dI σ h) {fs0 : List Value} {xt : Int32} (c72 : h.1[72]? = some (.inr (12, fs0))) (F55 : fs0[55]? = some (.int xt)) (r0 : x4.toInt = -1 ∨ 0 ≤ x4.toInt ∧ x4.toInt ≤ 15 ∧ x4.toInt < xt.toInt) : Wp X 9 zM277 (hQ cC184 σ h) 0 [some (.ref 72), some (.int x1), some (.int x2), some (.int x3), some (.int x4), u5, u6, u7, u8, u9, u10, u11, u12] [] h := by
  have Tp := hT_p hX g GB
  have GF : dGood X cC330 := Tp 0 (by decide) _ rfl
  refine wp1 (fun n d => r_aloadn f277_0 rfl) ?_
  refine wp1 (fun n d => r_iloadn f277_1 rfl) ?_
  refine wp1 (fun n d => r_iloadn f277_2 rfl) ?_
  refine wp1 (fun n d => r_iloadn f277_3 rfl) ?_
  refine wp_in (lv := 4) (Y := zM272) (findFacts_wp (x1 := x1) (x2 := x2) (x3 := x3) G71 GY GG GS GE GL GP GH (by decide) f0 f1 y0 y1 d0 d1 I) (fun n d v h' e => r_virt (as := [.int x1, .int x2, .int x3]) (r := []) f277_4 c72 (show zmt[272]? = some zM272 from rfl) rfl rfl rfl rfl rfl rfl e) (by decide) ?_
  rintro v h1 ⟨rfl, σ1, σa, ha, gf, gk, fh, nb, z, fsa, I1, G1', d124, Ia, Ga', hz, S, a72, a2, a73, hcnt⟩
  have G1 : dG cC184.2.2.1 σ h σ1 h1 := dG_sub (by decide) G1'
  have Ga : dG cC184.2.2.1 σa ha σ1 h1 := dG_sub (by decide) Ga'
  have hcl := cntP_le (pH gk fh x1.toInt) nb.toInt.toNat
  obtain ⟨nb', b2, n0, n1⟩ := hI_i Ia a72 (f := 2) (lo := 0) (hi := 150) (by decide +kernel)
  cases a2.symm.trans b2
  show Wp _ _ _ _ 7 [some (.ref 72), some (.int x1), some (.int x2), some (.int x3), some (.int x4), u5, u6, u7, u8, u9, u10, u11, u12] [] _
  refine w_bipush f277_7 (fun v7 hv7 => ?_)
  refine wp1 (fun n d => r_aloadn f277_9 rfl) ?_
  obtain ⟨fs2001, c2001⟩ := hI_o I1 (r := 72) (ci := 12) (by decide +kernel)
  have F2002 := hI_r I1 c2001 (f := 4) (q := 74) (by decide +kernel)
  refine w_get f277_10 c2001 F2002 ?_
  refine wp1 (fun n d => r_iloadn f277_13 rfl) ?_
  obtain ⟨g2003, c2003, R2003⟩ := hI_a I1 (r := 74) (a := 0) (n := 150) (lo := 0) (hi := 3) (by decide +kernel)
  refine w_iald f277_14 c2003 (by omega) (by omega) (fun v14 hv14 => ?_)
  have bv14 := R2003 x1.toInt.toNat (by omega)
  rw [← hv14] at bv14
  refine w_imul f277_15 (by rw [hv7]; omega) (by rw [hv7]; omega) (fun v15 hv15 => ?_)
  rw [hv7] at hv15
  refine wp1 (fun n d => r_istore (L' := [some (.ref 72), some (.int x1), some (.int x2), some (.int x3), some (.int x4), some (.int v15), u6, u7, u8, u9, u10, u11, u12]) f277_16 rfl rfl) ?_
  refine wp1 (fun n d => r_aloadn f277_18 rfl) ?_
  have F2004 := hI_r I1 c2001 (f := 69) (q := 124) (by decide +kernel)
  refine w_get f277_19 c2001 F2004 ?_
  refine w_iconst f277_22 (fun v22 hv22 => ?_)
  refine w_iald f277_23 d124 (by omega) (by omega) (fun v23 hv23 => ?_)
  refine w_bipush f277_24 (fun v24 hv24 => ?_)
  refine wp1 (fun n d => r_aloadn f277_26 rfl) ?_
  refine w_get f277_27 c2001 F2004 ?_
  refine w_bipush f277_30 (fun v30 hv30 => ?_)
  refine w_iald f277_32 d124 (by omega) (by omega) (fun v32 hv32 => ?_)
  have h9 : v32.toInt = cntP (pH gk fh x1.toInt) nb.toInt.toNat := by rw [hv32, show v30.toInt.toNat = 9 by omega]; exact hcnt
  refine w_imul f277_33 (by rw [hv24]; omega) (by rw [hv24]; omega) (fun v33 hv33 => ?_)
  rw [hv24] at hv33
  refine wp_in (lv := 0) (Y := zM211) (lesser_wp) (fun n d v h' e => r_stat (as := [.int v23, .int v33]) (r := []) f277_34 rfl (show zmt[211]? = some zM211 from rfl) rfl rfl rfl rfl rfl rfl e) (by first | decide | omega) ?_
  rintro v h' ⟨rfl, v34, rfl, rl⟩
  show Wp _ _ _ _ 37 [some (.ref 72), some (.int x1), some (.int x2), some (.int x3), some (.int x4), some (.int v15), u6, u7, u8, u9, u10, u11, u12] [.int v34] _
  have B6 : v34.toInt ≤ 10 * cntP (pH gk fh x1.toInt) nb.toInt.toNat := by
    rcases rl with ⟨rfl, q⟩ | ⟨rfl, q⟩ <;> omega
  refine wp1 (fun n d => r_istore (L' := [some (.ref 72), some (.int x1), some (.int x2), some (.int x3), some (.int x4), some (.int v15), some (.int v34), u7, u8, u9, u10, u11, u12]) f277_37 rfl rfl) ?_
  have k75 : ∀ (σ2 : List Nat) (h2 : aH) (t : Int32) (v : Int64), dI σ2 h2 → dG cC184.2.2.1 σ h σ2 h2 → dG cC184.2.2.1 σa ha σ2 h2 → Wp X 9 zM277 (hQ cC184 σ h) 75 [some (.ref 72), some (.int x1), some (.int x2), some (.int x3), some (.int x4), some (.int v15), some (.int v34), some (.int t), u8, u9, u10, u11, u12] [.long v] h2 := by
    intro σ2 h2 t v I2 G2 Ga2
    refine wp1 (fun n d => r_lstore (L' := [some (.ref 72), some (.int x1), some (.int x2), some (.int x3), some (.int x4), some (.int v15), some (.int v34), some (.int t), some (.long v), none, u10, u11, u12]) f277_75 rfl rfl) ?_
    refine wp1 (fun n d => r_lload f277_77 rfl) ?_
    refine wp1 (fun n d => r_iload f277_79 rfl) ?_
    refine w_i2l f277_81 (fun v81 hv81 => ?_)
    refine w_lmul' f277_82 (fun v82 => ?_)
    refine wp1 (fun n d => r_aloadn f277_83 rfl) ?_
    refine wp1 (fun n d => r_iloadn f277_84 rfl) ?_
    refine wp1 (fun n d => r_iloadn f277_85 rfl) ?_
    refine wp1 (fun n d => r_iloadn f277_86 rfl) ?_
    refine wp1 (fun n d => r_iload f277_87 rfl) ?_
    obtain ⟨fs1001, c1001⟩ := hI_o I2 (r := 72) (ci := 12) (by decide +kernel)
    refine wp_in (lv := 8) (Y := zM275) (valuesOf_wp (x1 := x1) (x2 := x2) (x3 := x3) (x4 := v34) (by decide) f0 f1 y0 y1 hz Ia S a72 a2 a73 B6 I2 Ga2) (fun n d v h' e => r_virt (as := [.int x1, .int x2, .int x3, .int v34]) (r := [.long v82]) f277_89 c1001 (show zmt[275]? = some zM275 from rfl) rfl rfl rfl rfl rfl rfl e) (by decide) ?_
    rintro v' h3 ⟨⟨s, rfl⟩, I3, G3⟩
    have E := ctail_s (C := cC184t) hX (cCMt_ok cCMp_t) Tp ct_184t (M := zM277) rfl (c := cC184t.2.2.2.2.2.headD (0, ([], [], ([], [], [], [], [], [], [])), (0, []))) List.mem_cons_self I3 (ρ := [0, x1.toInt, x2.toInt, x3.toInt, v15.toInt, s.toInt, v82.toInt]) (rh := []) (l := [some (.ref 72), some (.int x1), some (.int x2), some (.int x3), some (.int x4), some (.int v15), some (.int v34), some (.int t), some (.long v), none, u10, u11, u12]) (sv := [.long s, .long v82]) (dK_v (kV_of rfl ⟨⟨by decide, by decide⟩, ⟨by show (0 : Int) ≤ _; omega, by show _ ≤ (149 : Int); omega⟩, ⟨by show (0 : Int) ≤ _; omega, by show _ ≤ (9 : Int); omega⟩, ⟨by show (0 : Int) ≤ _; omega, by show _ ≤ (3649 : Int); omega⟩, ⟨by show (0 : Int) ≤ _; omega, by show _ ≤ (30 : Int); omega⟩, jR _, jR _, trivial⟩)) (dL_of ⟨lw_r (by decide), lw_i rfl, lw_i rfl, lw_i rfl, lw_0, lw_i rfl, lw_0, lw_0, lw_0, lw_0, lw_0, lw_0, lw_0, trivial⟩) ⟨⟨_, _, rfl, rfl, by show _ = _ + 0; omega⟩, ⟨_, _, rfl, rfl, by show _ = _ + 0; omega⟩, trivial⟩
    exact wp_dEnd (C0 := cC184) E rfl rfl rfl (dG_trans G2 G3)
  have k57 : ∀ (σ2 : List Nat) (h2 : aH) (t : Int32), -2 ≤ t.toInt → t.toInt ≤ 15 → t.toInt < xt.toInt → dI σ2 h2 → dG cC184.2.2.1 σ h σ2 h2 → dG cC184.2.2.1 σa ha σ2 h2 → Wp X 9 zM277 (hQ cC184 σ h) 57 [some (.ref 72), some (.int x1), some (.int x2), some (.int x3), some (.int x4), some (.int v15), some (.int v34), u7, u8, u9, u10, u11, u12] [.int t] h2 := by
    intro σ2 h2 t t0 t1 tx I2 G2 Ga2
    obtain ⟨fs2, e72, dfs2⟩ := dG_o I.1 G2 c72 (by decide)
    have e55 := (dfs2 55 rfl).trans F55
    refine wp1 (fun n d => r_istore (L' := [some (.ref 72), some (.int x1), some (.int x2), some (.int x3), some (.int x4), some (.int v15), some (.int v34), some (.int t), u8, u9, u10, u11, u12]) f277_57 rfl rfl) ?_
    refine wp1 (fun n d => r_iload f277_59 rfl) ?_
    refine w_if_ge f277_61 (fun e61 => ?_) (fun e61 => ?_)
    · refine wp1 (fun n d => r_aloadn f277_68 rfl) ?_
      refine wp1 (fun n d => r_iload f277_69 rfl) ?_
      refine wp_in (lv := 8) (Y := zM269) (gives_wp (x1 := t) GB I2 e72 e55 e61 t1 tx) (fun n d v h' e => r_virt (as := [.int t]) (r := []) f277_71 e72 (show zmt[269]? = some zM269 from rfl) rfl rfl rfl rfl rfl rfl e) (by decide) ?_
      rintro v h3 ⟨σ3, I3, G3', P3⟩
      obtain ⟨vv, rfl, pv, qv⟩ := rpost_i P3 rfl
      show Wp _ _ _ _ 74 [some (.ref 72), some (.int x1), some (.int x2), some (.int x3), some (.int x4), some (.int v15), some (.int v34), some (.int t), u8, u9, u10, u11, u12] [.int vv] _
      refine w_i2l f277_74 (fun v74 hv74 => ?_)
      exact k75 _ _ t v74 I3 (dG_trans G2 (dG_sub (by decide) G3')) (dG_trans Ga2 (dG_sub (by decide) G3'))
    · refine w_lconst f277_64 (fun v64 hv64 => ?_)
      have hv64 : v64.toInt = 1 := hv64
      refine wp1 (fun n d => r_goto f277_65) ?_
      exact k75 _ _ t v64 I2 G2 Ga2
  refine wp1 (fun n d => r_iload f277_39 rfl) ?_
  refine w_if_lt f277_41 (fun e41 => ?_) (fun e41 => ?_)
  · obtain ⟨fsx, x72, dfx⟩ := dG_o I.1 G1 c72 (by decide)
    have x55 := (dfx 55 rfl).trans F55
    refine wp1 (fun n d => r_aloadn f277_49 rfl) ?_
    refine wp1 (fun n d => r_iload f277_50 rfl) ?_
    refine wp1 (fun n d => r_iloadn f277_52 rfl) ?_
    refine wp1 (fun n d => r_iloadn f277_53 rfl) ?_
    refine wp_good GF (Y := zM265) (show zmt[265]? = some zM265 from rfl) I1 (ρ := [0, v15.toInt, x2.toInt, x3.toInt]) (dK_v (kV_of rfl ⟨⟨by decide, by decide⟩, ⟨by show (0 : Int) ≤ _; omega, by show _ ≤ (149 : Int); omega⟩, ⟨by show (0 : Int) ≤ _; omega, by show _ ≤ (9 : Int); omega⟩, ⟨by show (0 : Int) ≤ _; omega, by show _ ≤ (3649 : Int); omega⟩, trivial⟩)) (dL_of (l := [some (.ref 72), some (.int v15), some (.int x2), some (.int x3), none]) ⟨lw_r (by decide), lw_i rfl, lw_i rfl, lw_i rfl, lw_0, trivial⟩) (fun n d v h' e => r_virt (as := [.int v15, .int x2, .int x3]) (r := []) f277_54 x72 (show zmt[265]? = some zM265 from rfl) rfl rfl rfl rfl rfl rfl e) (by first | decide | (show 0 + 1 ≤ _; omega)) (fun v h4001 σ4001 I4001 G4001 P4001 => ?_)
    obtain ⟨fs4002, c4002, df4002⟩ := dG_o I1.1 G4001 x72 (by decide)
    have F4003 := (df4002 55 rfl).trans x55
    have c4004 := dG_a I1.1 G4001 d124 (by decide) rfl
    have c4005 := dG_a I1.1 G4001 c2003 (by decide) rfl
    obtain ⟨v54, rfl, p54, q54, t54⟩ := rpost_f P4001 c4002 F4003
    show Wp _ _ _ _ 57 [some (.ref 72), some (.int x1), some (.int x2), some (.int x3), some (.int x4), some (.int v15), some (.int v34), u7, u8, u9, u10, u11, u12] [.int v54] _
    exact k57 _ _ v54 (by omega) (by omega) (by omega) I4001 (dG_trans G1 (dG_sub (by decide) G4001)) (dG_trans Ga (dG_sub (by decide) G4001))
  · refine wp1 (fun n d => r_iload f277_44 rfl) ?_
    refine wp1 (fun n d => r_goto f277_46) ?_
    exact k57 _ _ x4 (by omega) (by omega) (by omega) I1 G1 Ga
theorem hand_184 {X : aX} (hX : X 0 = some (8, zab)) (g : hG X 184) (T : hT X cCT0 14) : dGood X cC184 := by
  intro M hM l h σ ρ rh I K L
  have hM0 : zmt[277]? = some zM277 := rfl
  cases (show zmt[277]? = some M from hM).symm.trans hM0
  have a0 := dL_r L (i := 0) (c := 72) (o := 0) rfl (by decide)
  obtain ⟨fs0, c72⟩ := hI_o I (r := 72) (ci := 12) (by decide +kernel)
  obtain ⟨x1, a1, b1, b1'⟩ := hL_i L K.1 (i := 1) (p := 1) (o := 0) (lo := 0) (hi := 149) rfl rfl
  obtain ⟨x2, a2, b2, b2'⟩ := hL_i L K.1 (i := 2) (p := 2) (o := 0) (lo := 0) (hi := 9) rfl rfl
  obtain ⟨x3, a3, b3, b3'⟩ := hL_i L K.1 (i := 3) (p := 3) (o := 0) (lo := 0) (hi := 3649) rfl rfl
  obtain ⟨x4, y4, a4, r4, s4⟩ := dL_i L (i := 4) (p := 0) (o := -1) rfl
  cases K.1.2.1.symm.trans r4
  obtain ⟨xt, F55, -, -⟩ := hI_i I c72 (f := 55) (lo := 0) (hi := 16) (by decide +kernel)
  have hr : x4.toInt = -1 ∨ 0 ≤ x4.toInt ∧ x4.toInt ≤ 15 ∧ x4.toInt < xt.toInt := Or.inl (by omega)
  obtain ⟨u0, l1, rfl, e1⟩ := hcons (show l.length = 13 from L.1)
  obtain ⟨u1, l2, rfl, e2⟩ := hcons e1
  obtain ⟨u2, l3, rfl, e3⟩ := hcons e2
  obtain ⟨u3, l4, rfl, e4⟩ := hcons e3
  obtain ⟨u4, l5, rfl, e5⟩ := hcons e4
  obtain ⟨u5, l6, rfl, e6⟩ := hcons e5
  obtain ⟨u6, l7, rfl, e7⟩ := hcons e6
  obtain ⟨u7, l8, rfl, e8⟩ := hcons e7
  obtain ⟨u8, l9, rfl, e9⟩ := hcons e8
  obtain ⟨u9, l10, rfl, e10⟩ := hcons e9
  obtain ⟨u10, l11, rfl, e11⟩ := hcons e10
  obtain ⟨u11, l12, rfl, e12⟩ := hcons e11
  obtain ⟨u12, l13, rfl, e13⟩ := hcons e12
  cases hnil e13
  cases Option.some.inj a0
  cases Option.some.inj a1
  cases Option.some.inj a2
  cases Option.some.inj a3
  cases Option.some.inj a4
  have R := payBy_wp hX g (g 71 (by decide) _ rfl) (T 9 (by decide) _ rfl) (T 12 (by decide) _ rfl) (T 7 (by decide) _ rfl) (T 8 (by decide) _ rfl) (T 10 (by decide) _ rfl) (T 11 (by decide) _ rfl) (T 2 (by decide) _ rfl) (T 4 (by decide) _ rfl) (x1 := x1) (x2 := x2) (x3 := x3) (x4 := x4) (u5 := u5) (u6 := u6) (u7 := u7) (u8 := u8) (u9 := u9) (u10 := u10) (u11 := u11) (u12 := u12) (by omega) (by omega) (by omega) (by omega) (by omega) (by omega) I c72 F55 hr
  obtain ⟨N, v, h', ⟨σ', q1, q2, q3⟩, q4⟩ := R
  exact ⟨N, v, h', σ', q4, q1, q2, q3⟩
theorem hand_274 {X : aX} (hX : X 0 = some (8, zab)) (g : hG X 184) (T : hT X cCT0 14) : dGood X cC274 := by
  intro M hM l h σ ρ rh I K L
  have hM0 : zmt[277]? = some zM277 := rfl
  cases (show zmt[277]? = some M from hM).symm.trans hM0
  have a0 := dL_r L (i := 0) (c := 72) (o := 0) rfl (by decide)
  obtain ⟨fs0, c72⟩ := hI_o I (r := 72) (ci := 12) (by decide +kernel)
  obtain ⟨x1, a1, b1, b1'⟩ := hL_i L K.1 (i := 1) (p := 1) (o := 0) (lo := 0) (hi := 149) rfl rfl
  obtain ⟨x2, a2, b2, b2'⟩ := hL_i L K.1 (i := 2) (p := 2) (o := 0) (lo := 0) (hi := 9) rfl rfl
  obtain ⟨x3, a3, b3, b3'⟩ := hL_i L K.1 (i := 3) (p := 3) (o := 0) (lo := 0) (hi := 3649) rfl rfl
  obtain ⟨x4, y4, a4, r4, s4⟩ := dL_i L (i := 4) (p := 4) (o := 0) rfl
  have b4 := K.1.2.2 4 y4 (0, 15) r4 rfl
  dsimp only at b4
  obtain ⟨ya, yb, d1, d2, d3⟩ := K.2.1 (4, 5, -1) List.mem_cons_self
  dsimp only at d1 d2 d3
  obtain ⟨q, ci, fs, v, f1, f2, f3, f4⟩ := K.2.2.2.2.1 (72, 55, 1, 5, 0) List.mem_cons_self
  dsimp only at f1 f3 f4
  obtain ⟨xt, yx, rfl, f5, f6⟩ := f4
  dsimp only at f5 f6
  cases r4.symm.trans d1
  cases d2.symm.trans f5
  have hq : q = 72 := by
    rcases f1 with ⟨-, e⟩ | ⟨e, -⟩
    · exact e
    · omega
  subst hq
  cases c72.symm.trans f2
  have F55 := f3
  have hr : x4.toInt = -1 ∨ 0 ≤ x4.toInt ∧ x4.toInt ≤ 15 ∧ x4.toInt < xt.toInt := Or.inr (by omega)
  obtain ⟨u0, l1, rfl, e1⟩ := hcons (show l.length = 13 from L.1)
  obtain ⟨u1, l2, rfl, e2⟩ := hcons e1
  obtain ⟨u2, l3, rfl, e3⟩ := hcons e2
  obtain ⟨u3, l4, rfl, e4⟩ := hcons e3
  obtain ⟨u4, l5, rfl, e5⟩ := hcons e4
  obtain ⟨u5, l6, rfl, e6⟩ := hcons e5
  obtain ⟨u6, l7, rfl, e7⟩ := hcons e6
  obtain ⟨u7, l8, rfl, e8⟩ := hcons e7
  obtain ⟨u8, l9, rfl, e9⟩ := hcons e8
  obtain ⟨u9, l10, rfl, e10⟩ := hcons e9
  obtain ⟨u10, l11, rfl, e11⟩ := hcons e10
  obtain ⟨u11, l12, rfl, e12⟩ := hcons e11
  obtain ⟨u12, l13, rfl, e13⟩ := hcons e12
  cases hnil e13
  cases Option.some.inj a0
  cases Option.some.inj a1
  cases Option.some.inj a2
  cases Option.some.inj a3
  cases Option.some.inj a4
  have R := payBy_wp hX g (g 71 (by decide) _ rfl) (T 9 (by decide) _ rfl) (T 12 (by decide) _ rfl) (T 7 (by decide) _ rfl) (T 8 (by decide) _ rfl) (T 10 (by decide) _ rfl) (T 11 (by decide) _ rfl) (T 2 (by decide) _ rfl) (T 4 (by decide) _ rfl) (x1 := x1) (x2 := x2) (x3 := x3) (x4 := x4) (u5 := u5) (u6 := u6) (u7 := u7) (u8 := u8) (u9 := u9) (u10 := u10) (u11 := u11) (u12 := u12) (by omega) (by omega) (by omega) (by omega) (by omega) (by omega) I c72 F55 hr
  obtain ⟨N, v, h', ⟨σ', q1, q2, q3⟩, q4⟩ := R
  exact ⟨N, v, h', σ', q4, q1, q2, q3⟩

-- ===== seasons: the class's leaves =====
theorem tl_27 : tkL 27 0 200 = true := by decide +kernel
theorem tl_28 : tkL 28 0 200 = true := by decide +kernel
theorem tl_29 : tkL 29 0 200 = true := by decide +kernel
theorem tl_31 : tkL 31 0 200 = true := by decide +kernel
theorem tl_30 : tkL 30 0 200 = true := by decide +kernel
theorem tr_16_14 : tkR 16 14 27 = true := by decide +kernel
theorem tr_16_15 : tkR 16 15 28 = true := by decide +kernel
theorem tr_16_16 : tkR 16 16 29 = true := by decide +kernel
theorem tr_16_18 : tkR 16 18 31 = true := by decide +kernel
theorem tr_16_17 : tkR 16 17 30 = true := by decide +kernel
theorem gx30_0 : aF 0 zM30.2.2.2.2.2.2.2 = some (0, (.aload_n 0), 1, 0, 0) := by decide +kernel
theorem gx30_1 : aF 1 zM30.2.2.2.2.2.2.2 = some (1, (.getfield 21), 3, 2, 7) := by decide +kernel
theorem gx30_4 : aF 4 zM30.2.2.2.2.2.2.2 = some (4, (.iload_n 1), 1, 0, 0) := by decide +kernel
theorem gx30_5 : aF 5 zM30.2.2.2.2.2.2.2 = some (5, .iaload, 1, 0, 0) := by decide +kernel
theorem gx30_6 : aF 6 zM30.2.2.2.2.2.2.2 = some (6, (.sipush 365), 3, 0, 0) := by decide +kernel
theorem gx30_9 : aF 9 zM30.2.2.2.2.2.2.2 = some (9, .idiv, 1, 0, 0) := by decide +kernel
theorem gx30_10 : aF 10 zM30.2.2.2.2.2.2.2 = some (10, (.iload_n 2), 1, 0, 0) := by decide +kernel
theorem gx30_11 : aF 11 zM30.2.2.2.2.2.2.2 = some (11, (.if_icmp .ne 17), 3, 28, 0) := by decide +kernel
theorem gx30_28 : aF 28 zM30.2.2.2.2.2.2.2 = some (28, (.iconst 0), 1, 0, 0) := by decide +kernel
theorem gx30_29 : aF 29 zM30.2.2.2.2.2.2.2 = some (29, .ireturn, 1, 0, 0) := by decide +kernel
theorem gx30_14 : aF 14 zM30.2.2.2.2.2.2.2 = some (14, (.aload_n 0), 1, 0, 0) := by decide +kernel
theorem gx30_15 : aF 15 zM30.2.2.2.2.2.2.2 = some (15, (.getfield 21), 3, 2, 7) := by decide +kernel
theorem gx30_18 : aF 18 zM30.2.2.2.2.2.2.2 = some (18, (.iload_n 1), 1, 0, 0) := by decide +kernel
theorem gx30_19 : aF 19 zM30.2.2.2.2.2.2.2 = some (19, .iaload, 1, 0, 0) := by decide +kernel
theorem gx30_20 : aF 20 zM30.2.2.2.2.2.2.2 = some (20, (.iload_n 3), 1, 0, 0) := by decide +kernel
theorem gx30_21 : aF 21 zM30.2.2.2.2.2.2.2 = some (21, (.if_icmp .gt 7), 3, 28, 0) := by decide +kernel
theorem gx30_24 : aF 24 zM30.2.2.2.2.2.2.2 = some (24, (.iconst 1), 1, 0, 0) := by decide +kernel
theorem gx30_25 : aF 25 zM30.2.2.2.2.2.2.2 = some (25, (.goto 4), 3, 29, 0) := by decide +kernel
theorem gx29_0 : aF 0 zM29.2.2.2.2.2.2.2 = some (0, (.aload_n 0), 1, 0, 0) := by decide +kernel
theorem gx29_1 : aF 1 zM29.2.2.2.2.2.2.2 = some (1, (.getfield 24), 3, 2, 8) := by decide +kernel
theorem gx29_4 : aF 4 zM29.2.2.2.2.2.2.2 = some (4, (.iload_n 1), 1, 0, 0) := by decide +kernel
theorem gx29_5 : aF 5 zM29.2.2.2.2.2.2.2 = some (5, .iaload, 1, 0, 0) := by decide +kernel
theorem gx29_6 : aF 6 zM29.2.2.2.2.2.2.2 = some (6, (.istore 4), 2, 0, 0) := by decide +kernel
theorem gx29_8 : aF 8 zM29.2.2.2.2.2.2.2 = some (8, (.aload_n 0), 1, 0, 0) := by decide +kernel
theorem gx29_9 : aF 9 zM29.2.2.2.2.2.2.2 = some (9, (.getfield 60), 3, 2, 0) := by decide +kernel
theorem gx29_12 : aF 12 zM29.2.2.2.2.2.2.2 = some (12, (.getfield 77), 3, 6, 10) := by decide +kernel
theorem gx29_15 : aF 15 zM29.2.2.2.2.2.2.2 = some (15, (.aload_n 0), 1, 0, 0) := by decide +kernel
theorem gx29_16 : aF 16 zM29.2.2.2.2.2.2.2 = some (16, (.getfield 15), 3, 2, 5) := by decide +kernel
theorem gx29_19 : aF 19 zM29.2.2.2.2.2.2.2 = some (19, (.iload 4), 2, 0, 0) := by decide +kernel
theorem gx29_21 : aF 21 zM29.2.2.2.2.2.2.2 = some (21, .iaload, 1, 0, 0) := by decide +kernel
theorem gx29_22 : aF 22 zM29.2.2.2.2.2.2.2 = some (22, .iaload, 1, 0, 0) := by decide +kernel
theorem gx29_23 : aF 23 zM29.2.2.2.2.2.2.2 = some (23, (.istore 5), 2, 0, 0) := by decide +kernel
theorem gx29_25 : aF 25 zM29.2.2.2.2.2.2.2 = some (25, (.aload_n 0), 1, 0, 0) := by decide +kernel
theorem gx29_26 : aF 26 zM29.2.2.2.2.2.2.2 = some (26, (.iload 4), 2, 0, 0) := by decide +kernel
theorem gx29_28 : aF 28 zM29.2.2.2.2.2.2.2 = some (28, (.iload_n 2), 1, 0, 0) := by decide +kernel
theorem gx29_29 : aF 29 zM29.2.2.2.2.2.2.2 = some (29, (.iload_n 3), 1, 0, 0) := by decide +kernel
theorem gx29_30 : aF 30 zM29.2.2.2.2.2.2.2 = some (30, (.invokevirtual 80), 3, 30, 0) := by decide +kernel
theorem gx29_33 : aF 33 zM29.2.2.2.2.2.2.2 = some (33, (.ifCond .eq 15), 3, 48, 0) := by decide +kernel
theorem gx29_48 : aF 48 zM29.2.2.2.2.2.2.2 = some (48, (.iconst 0), 1, 0, 0) := by decide +kernel
theorem gx29_49 : aF 49 zM29.2.2.2.2.2.2.2 = some (49, .ireturn, 1, 0, 0) := by decide +kernel
theorem gx29_36 : aF 36 zM29.2.2.2.2.2.2.2 = some (36, (.iload 5), 2, 0, 0) := by decide +kernel
theorem gx29_38 : aF 38 zM29.2.2.2.2.2.2.2 = some (38, (.iconst (-1)), 1, 0, 0) := by decide +kernel
theorem gx29_39 : aF 39 zM29.2.2.2.2.2.2.2 = some (39, (.if_icmp .eq 11), 3, 50, 0) := by decide +kernel
theorem gx29_50 : aF 50 zM29.2.2.2.2.2.2.2 = some (50, (.iload_n 1), 1, 0, 0) := by decide +kernel
theorem gx29_51 : aF 51 zM29.2.2.2.2.2.2.2 = some (51, (.iconst 1), 1, 0, 0) := by decide +kernel
theorem gx29_52 : aF 52 zM29.2.2.2.2.2.2.2 = some (52, .iadd, 1, 0, 0) := by decide +kernel
theorem gx29_53 : aF 53 zM29.2.2.2.2.2.2.2 = some (53, (.aload_n 0), 1, 0, 0) := by decide +kernel
theorem gx29_54 : aF 54 zM29.2.2.2.2.2.2.2 = some (54, (.getfield 64), 3, 2, 1) := by decide +kernel
theorem gx29_57 : aF 57 zM29.2.2.2.2.2.2.2 = some (57, (.if_icmp .lt 5), 3, 62, 0) := by decide +kernel
theorem gx29_62 : aF 62 zM29.2.2.2.2.2.2.2 = some (62, (.aload_n 0), 1, 0, 0) := by decide +kernel
theorem gx29_63 : aF 63 zM29.2.2.2.2.2.2.2 = some (63, (.getfield 24), 3, 2, 8) := by decide +kernel
theorem gx29_66 : aF 66 zM29.2.2.2.2.2.2.2 = some (66, (.iload_n 1), 1, 0, 0) := by decide +kernel
theorem gx29_67 : aF 67 zM29.2.2.2.2.2.2.2 = some (67, (.iconst 1), 1, 0, 0) := by decide +kernel
theorem gx29_68 : aF 68 zM29.2.2.2.2.2.2.2 = some (68, .iadd, 1, 0, 0) := by decide +kernel
theorem gx29_69 : aF 69 zM29.2.2.2.2.2.2.2 = some (69, .iaload, 1, 0, 0) := by decide +kernel
theorem gx29_70 : aF 70 zM29.2.2.2.2.2.2.2 = some (70, (.istore 6), 2, 0, 0) := by decide +kernel
theorem gx29_72 : aF 72 zM29.2.2.2.2.2.2.2 = some (72, (.aload_n 0), 1, 0, 0) := by decide +kernel
theorem gx29_73 : aF 73 zM29.2.2.2.2.2.2.2 = some (73, (.iload 6), 2, 0, 0) := by decide +kernel
theorem gx29_75 : aF 75 zM29.2.2.2.2.2.2.2 = some (75, (.aload_n 0), 1, 0, 0) := by decide +kernel
theorem gx29_76 : aF 76 zM29.2.2.2.2.2.2.2 = some (76, (.getfield 9), 3, 2, 4) := by decide +kernel
theorem gx29_79 : aF 79 zM29.2.2.2.2.2.2.2 = some (79, (.iload 4), 2, 0, 0) := by decide +kernel
theorem gx29_81 : aF 81 zM29.2.2.2.2.2.2.2 = some (81, .iaload, 1, 0, 0) := by decide +kernel
theorem gx29_82 : aF 82 zM29.2.2.2.2.2.2.2 = some (82, (.aload_n 0), 1, 0, 0) := by decide +kernel
theorem gx29_83 : aF 83 zM29.2.2.2.2.2.2.2 = some (83, (.getfield 15), 3, 2, 5) := by decide +kernel
theorem gx29_86 : aF 86 zM29.2.2.2.2.2.2.2 = some (86, (.iload 4), 2, 0, 0) := by decide +kernel
theorem gx29_88 : aF 88 zM29.2.2.2.2.2.2.2 = some (88, .iaload, 1, 0, 0) := by decide +kernel
theorem gx29_89 : aF 89 zM29.2.2.2.2.2.2.2 = some (89, (.invokevirtual 73), 3, 28, 0) := by decide +kernel
theorem gx29_92 : aF 92 zM29.2.2.2.2.2.2.2 = some (92, (.ifCond .ne 14), 3, 106, 0) := by decide +kernel
theorem gx29_106 : aF 106 zM29.2.2.2.2.2.2.2 = some (106, (.iconst 1), 1, 0, 0) := by decide +kernel
theorem gx29_107 : aF 107 zM29.2.2.2.2.2.2.2 = some (107, (.goto 4), 3, 111, 0) := by decide +kernel
theorem gx29_111 : aF 111 zM29.2.2.2.2.2.2.2 = some (111, .ireturn, 1, 0, 0) := by decide +kernel
theorem gx29_95 : aF 95 zM29.2.2.2.2.2.2.2 = some (95, (.aload_n 0), 1, 0, 0) := by decide +kernel
theorem gx29_96 : aF 96 zM29.2.2.2.2.2.2.2 = some (96, (.iload 6), 2, 0, 0) := by decide +kernel
theorem gx29_98 : aF 98 zM29.2.2.2.2.2.2.2 = some (98, (.iload_n 2), 1, 0, 0) := by decide +kernel
theorem gx29_99 : aF 99 zM29.2.2.2.2.2.2.2 = some (99, (.iload_n 3), 1, 0, 0) := by decide +kernel
theorem gx29_100 : aF 100 zM29.2.2.2.2.2.2.2 = some (100, (.invokevirtual 80), 3, 30, 0) := by decide +kernel
theorem gx29_103 : aF 103 zM29.2.2.2.2.2.2.2 = some (103, (.ifCond .ne 7), 3, 110, 0) := by decide +kernel
theorem gx29_110 : aF 110 zM29.2.2.2.2.2.2.2 = some (110, (.iconst 0), 1, 0, 0) := by decide +kernel
theorem gx29_60 : aF 60 zM29.2.2.2.2.2.2.2 = some (60, (.iconst 1), 1, 0, 0) := by decide +kernel
theorem gx29_61 : aF 61 zM29.2.2.2.2.2.2.2 = some (61, .ireturn, 1, 0, 0) := by decide +kernel
theorem gx29_42 : aF 42 zM29.2.2.2.2.2.2.2 = some (42, (.iload 5), 2, 0, 0) := by decide +kernel
theorem gx29_44 : aF 44 zM29.2.2.2.2.2.2.2 = some (44, (.iload_n 3), 1, 0, 0) := by decide +kernel
theorem gx29_45 : aF 45 zM29.2.2.2.2.2.2.2 = some (45, (.if_icmp .gt 5), 3, 50, 0) := by decide +kernel
theorem gx33_0 : aF 0 zM33.2.2.2.2.2.2.2 = some (0, (.iconst 0), 1, 0, 0) := by decide +kernel
theorem gx33_1 : aF 1 zM33.2.2.2.2.2.2.2 = some (1, (.istore 4), 2, 0, 0) := by decide +kernel
theorem gx33_3 : aF 3 zM33.2.2.2.2.2.2.2 = some (3, (.iconst 0), 1, 0, 0) := by decide +kernel
theorem gx33_4 : aF 4 zM33.2.2.2.2.2.2.2 = some (4, (.istore 5), 2, 0, 0) := by decide +kernel
theorem gx33_6 : aF 6 zM33.2.2.2.2.2.2.2 = some (6, (.iload 5), 2, 0, 0) := by decide +kernel
theorem gx33_8 : aF 8 zM33.2.2.2.2.2.2.2 = some (8, (.aload_n 0), 1, 0, 0) := by decide +kernel
theorem gx33_9 : aF 9 zM33.2.2.2.2.2.2.2 = some (9, (.getfield 96), 3, 2, 2) := by decide +kernel
theorem gx33_12 : aF 12 zM33.2.2.2.2.2.2.2 = some (12, (.if_icmp .ge 105), 3, 117, 0) := by decide +kernel
theorem gx33_117 : aF 117 zM33.2.2.2.2.2.2.2 = some (117, (.iload 4), 2, 0, 0) := by decide +kernel
theorem gx33_119 : aF 119 zM33.2.2.2.2.2.2.2 = some (119, .ireturn, 1, 0, 0) := by decide +kernel
theorem gx33_15 : aF 15 zM33.2.2.2.2.2.2.2 = some (15, (.aload_n 0), 1, 0, 0) := by decide +kernel
theorem gx33_16 : aF 16 zM33.2.2.2.2.2.2.2 = some (16, (.getfield 39), 3, 2, 13) := by decide +kernel
theorem gx33_19 : aF 19 zM33.2.2.2.2.2.2.2 = some (19, (.iload 5), 2, 0, 0) := by decide +kernel
theorem gx33_21 : aF 21 zM33.2.2.2.2.2.2.2 = some (21, .iaload, 1, 0, 0) := by decide +kernel
theorem gx33_22 : aF 22 zM33.2.2.2.2.2.2.2 = some (22, (.iload_n 3), 1, 0, 0) := by decide +kernel
theorem gx33_23 : aF 23 zM33.2.2.2.2.2.2.2 = some (23, (.if_icmp .gt 22), 3, 45, 0) := by decide +kernel
theorem gx33_45 : aF 45 zM33.2.2.2.2.2.2.2 = some (45, (.iconst 0), 1, 0, 0) := by decide +kernel
theorem gx33_46 : aF 46 zM33.2.2.2.2.2.2.2 = some (46, (.istore 6), 2, 0, 0) := by decide +kernel
theorem gx33_48 : aF 48 zM33.2.2.2.2.2.2.2 = some (48, (.iload 6), 2, 0, 0) := by decide +kernel
theorem gx33_50 : aF 50 zM33.2.2.2.2.2.2.2 = some (50, (.ifCond .eq 61), 3, 111, 0) := by decide +kernel
theorem gx33_111 : aF 111 zM33.2.2.2.2.2.2.2 = some (111, (.iinc 5 1), 3, 0, 0) := by decide +kernel
theorem gx33_114 : aF 114 zM33.2.2.2.2.2.2.2 = some (114, (.goto (-108)), 3, 6, 0) := by decide +kernel
theorem gx33_26 : aF 26 zM33.2.2.2.2.2.2.2 = some (26, (.aload_n 0), 1, 0, 0) := by decide +kernel
theorem gx33_27 : aF 27 zM33.2.2.2.2.2.2.2 = some (27, (.getfield 36), 3, 2, 12) := by decide +kernel
theorem gx33_30 : aF 30 zM33.2.2.2.2.2.2.2 = some (30, (.iload 5), 2, 0, 0) := by decide +kernel
theorem gx33_32 : aF 32 zM33.2.2.2.2.2.2.2 = some (32, .iaload, 1, 0, 0) := by decide +kernel
theorem gx33_33 : aF 33 zM33.2.2.2.2.2.2.2 = some (33, (.iload_n 2), 1, 0, 0) := by decide +kernel
theorem gx33_34 : aF 34 zM33.2.2.2.2.2.2.2 = some (34, (.sipush 365), 3, 0, 0) := by decide +kernel
theorem gx33_37 : aF 37 zM33.2.2.2.2.2.2.2 = some (37, .imul, 1, 0, 0) := by decide +kernel
theorem gx33_38 : aF 38 zM33.2.2.2.2.2.2.2 = some (38, (.if_icmp .gt 7), 3, 45, 0) := by decide +kernel
theorem gx33_41 : aF 41 zM33.2.2.2.2.2.2.2 = some (41, (.iconst 1), 1, 0, 0) := by decide +kernel
theorem gx33_42 : aF 42 zM33.2.2.2.2.2.2.2 = some (42, (.goto 4), 3, 46, 0) := by decide +kernel
theorem gx33_53 : aF 53 zM33.2.2.2.2.2.2.2 = some (53, (.aload_n 0), 1, 0, 0) := by decide +kernel
theorem gx33_54 : aF 54 zM33.2.2.2.2.2.2.2 = some (54, (.getfield 30), 3, 2, 10) := by decide +kernel
theorem gx33_57 : aF 57 zM33.2.2.2.2.2.2.2 = some (57, (.iload 5), 2, 0, 0) := by decide +kernel
theorem gx33_59 : aF 59 zM33.2.2.2.2.2.2.2 = some (59, .iaload, 1, 0, 0) := by decide +kernel
theorem gx33_60 : aF 60 zM33.2.2.2.2.2.2.2 = some (60, (.bipush 100), 2, 0, 0) := by decide +kernel
theorem gx33_62 : aF 62 zM33.2.2.2.2.2.2.2 = some (62, .irem, 1, 0, 0) := by decide +kernel
theorem gx33_63 : aF 63 zM33.2.2.2.2.2.2.2 = some (63, (.iload_n 1), 1, 0, 0) := by decide +kernel
theorem gx33_64 : aF 64 zM33.2.2.2.2.2.2.2 = some (64, (.if_icmp .gt 47), 3, 111, 0) := by decide +kernel
theorem gx33_67 : aF 67 zM33.2.2.2.2.2.2.2 = some (67, (.iload_n 1), 1, 0, 0) := by decide +kernel
theorem gx33_68 : aF 68 zM33.2.2.2.2.2.2.2 = some (68, (.aload_n 0), 1, 0, 0) := by decide +kernel
theorem gx33_69 : aF 69 zM33.2.2.2.2.2.2.2 = some (69, (.getfield 33), 3, 2, 11) := by decide +kernel
theorem gx33_72 : aF 72 zM33.2.2.2.2.2.2.2 = some (72, (.iload 5), 2, 0, 0) := by decide +kernel
theorem gx33_74 : aF 74 zM33.2.2.2.2.2.2.2 = some (74, .iaload, 1, 0, 0) := by decide +kernel
theorem gx33_75 : aF 75 zM33.2.2.2.2.2.2.2 = some (75, (.bipush 100), 2, 0, 0) := by decide +kernel
theorem gx33_77 : aF 77 zM33.2.2.2.2.2.2.2 = some (77, .irem, 1, 0, 0) := by decide +kernel
theorem gx33_78 : aF 78 zM33.2.2.2.2.2.2.2 = some (78, (.if_icmp .gt 33), 3, 111, 0) := by decide +kernel
theorem gx33_81 : aF 81 zM33.2.2.2.2.2.2.2 = some (81, (.iload 4), 2, 0, 0) := by decide +kernel
theorem gx33_83 : aF 83 zM33.2.2.2.2.2.2.2 = some (83, (.iconst 2), 1, 0, 0) := by decide +kernel
theorem gx33_84 : aF 84 zM33.2.2.2.2.2.2.2 = some (84, (.aload_n 0), 1, 0, 0) := by decide +kernel
theorem gx33_85 : aF 85 zM33.2.2.2.2.2.2.2 = some (85, (.getfield 33), 3, 2, 11) := by decide +kernel
theorem gx33_88 : aF 88 zM33.2.2.2.2.2.2.2 = some (88, (.iload 5), 2, 0, 0) := by decide +kernel
theorem gx33_90 : aF 90 zM33.2.2.2.2.2.2.2 = some (90, .iaload, 1, 0, 0) := by decide +kernel
theorem gx33_91 : aF 91 zM33.2.2.2.2.2.2.2 = some (91, (.bipush 100), 2, 0, 0) := by decide +kernel
theorem gx33_93 : aF 93 zM33.2.2.2.2.2.2.2 = some (93, .idiv, 1, 0, 0) := by decide +kernel
theorem gx33_94 : aF 94 zM33.2.2.2.2.2.2.2 = some (94, .ishl, 1, 0, 0) := by decide +kernel
theorem gx33_95 : aF 95 zM33.2.2.2.2.2.2.2 = some (95, (.iconst 1), 1, 0, 0) := by decide +kernel
theorem gx33_96 : aF 96 zM33.2.2.2.2.2.2.2 = some (96, (.aload_n 0), 1, 0, 0) := by decide +kernel
theorem gx33_97 : aF 97 zM33.2.2.2.2.2.2.2 = some (97, (.getfield 30), 3, 2, 10) := by decide +kernel
theorem gx33_100 : aF 100 zM33.2.2.2.2.2.2.2 = some (100, (.iload 5), 2, 0, 0) := by decide +kernel
theorem gx33_102 : aF 102 zM33.2.2.2.2.2.2.2 = some (102, .iaload, 1, 0, 0) := by decide +kernel
theorem gx33_103 : aF 103 zM33.2.2.2.2.2.2.2 = some (103, (.bipush 100), 2, 0, 0) := by decide +kernel
theorem gx33_105 : aF 105 zM33.2.2.2.2.2.2.2 = some (105, .idiv, 1, 0, 0) := by decide +kernel
theorem gx33_106 : aF 106 zM33.2.2.2.2.2.2.2 = some (106, .ishl, 1, 0, 0) := by decide +kernel
theorem gx33_107 : aF 107 zM33.2.2.2.2.2.2.2 = some (107, .isub, 1, 0, 0) := by decide +kernel
theorem gx33_108 : aF 108 zM33.2.2.2.2.2.2.2 = some (108, .ior, 1, 0, 0) := by decide +kernel
theorem gx33_109 : aF 109 zM33.2.2.2.2.2.2.2 = some (109, (.istore 4), 2, 0, 0) := by decide +kernel
theorem gx35_0 : aF 0 zM35.2.2.2.2.2.2.2 = some (0, (.aload_n 0), 1, 0, 0) := by decide +kernel
theorem gx35_1 : aF 1 zM35.2.2.2.2.2.2.2 = some (1, (.getfield 99), 3, 2, 3) := by decide +kernel
theorem gx35_4 : aF 4 zM35.2.2.2.2.2.2.2 = some (4, (.iconst 1), 1, 0, 0) := by decide +kernel
theorem gx35_5 : aF 5 zM35.2.2.2.2.2.2.2 = some (5, .isub, 1, 0, 0) := by decide +kernel
theorem gx35_6 : aF 6 zM35.2.2.2.2.2.2.2 = some (6, (.istore 4), 2, 0, 0) := by decide +kernel
theorem gx35_8 : aF 8 zM35.2.2.2.2.2.2.2 = some (8, (.iload 4), 2, 0, 0) := by decide +kernel
theorem gx35_10 : aF 10 zM35.2.2.2.2.2.2.2 = some (10, (.ifCond .lt 83), 3, 93, 0) := by decide +kernel
theorem gx35_93 : aF 93 zM35.2.2.2.2.2.2.2 = some (93, (.iconst 0), 1, 0, 0) := by decide +kernel
theorem gx35_94 : aF 94 zM35.2.2.2.2.2.2.2 = some (94, .ireturn, 1, 0, 0) := by decide +kernel
theorem gx35_13 : aF 13 zM35.2.2.2.2.2.2.2 = some (13, (.aload_n 0), 1, 0, 0) := by decide +kernel
theorem gx35_14 : aF 14 zM35.2.2.2.2.2.2.2 = some (14, (.getfield 42), 3, 2, 14) := by decide +kernel
theorem gx35_17 : aF 17 zM35.2.2.2.2.2.2.2 = some (17, (.iload 4), 2, 0, 0) := by decide +kernel
theorem gx35_19 : aF 19 zM35.2.2.2.2.2.2.2 = some (19, .iaload, 1, 0, 0) := by decide +kernel
theorem gx35_20 : aF 20 zM35.2.2.2.2.2.2.2 = some (20, (.aload_n 0), 1, 0, 0) := by decide +kernel
theorem gx35_21 : aF 21 zM35.2.2.2.2.2.2.2 = some (21, (.getfield 9), 3, 2, 4) := by decide +kernel
theorem gx35_24 : aF 24 zM35.2.2.2.2.2.2.2 = some (24, (.iload_n 1), 1, 0, 0) := by decide +kernel
theorem gx35_25 : aF 25 zM35.2.2.2.2.2.2.2 = some (25, .iaload, 1, 0, 0) := by decide +kernel
theorem gx35_26 : aF 26 zM35.2.2.2.2.2.2.2 = some (26, (.if_icmp .ne 23), 3, 49, 0) := by decide +kernel
theorem gx35_49 : aF 49 zM35.2.2.2.2.2.2.2 = some (49, (.iconst 0), 1, 0, 0) := by decide +kernel
theorem gx35_50 : aF 50 zM35.2.2.2.2.2.2.2 = some (50, (.istore 5), 2, 0, 0) := by decide +kernel
theorem gx35_52 : aF 52 zM35.2.2.2.2.2.2.2 = some (52, (.iload 5), 2, 0, 0) := by decide +kernel
theorem gx35_54 : aF 54 zM35.2.2.2.2.2.2.2 = some (54, (.ifCond .eq 33), 3, 87, 0) := by decide +kernel
theorem gx35_87 : aF 87 zM35.2.2.2.2.2.2.2 = some (87, (.iinc 4 (-1)), 3, 0, 0) := by decide +kernel
theorem gx35_90 : aF 90 zM35.2.2.2.2.2.2.2 = some (90, (.goto (-82)), 3, 8, 0) := by decide +kernel
theorem gx35_29 : aF 29 zM35.2.2.2.2.2.2.2 = some (29, (.aload_n 0), 1, 0, 0) := by decide +kernel
theorem gx35_30 : aF 30 zM35.2.2.2.2.2.2.2 = some (30, (.getfield 45), 3, 2, 15) := by decide +kernel
theorem gx35_33 : aF 33 zM35.2.2.2.2.2.2.2 = some (33, (.iload 4), 2, 0, 0) := by decide +kernel
theorem gx35_35 : aF 35 zM35.2.2.2.2.2.2.2 = some (35, .iaload, 1, 0, 0) := by decide +kernel
theorem gx35_36 : aF 36 zM35.2.2.2.2.2.2.2 = some (36, (.aload_n 0), 1, 0, 0) := by decide +kernel
theorem gx35_37 : aF 37 zM35.2.2.2.2.2.2.2 = some (37, (.getfield 15), 3, 2, 5) := by decide +kernel
theorem gx35_40 : aF 40 zM35.2.2.2.2.2.2.2 = some (40, (.iload_n 1), 1, 0, 0) := by decide +kernel
theorem gx35_41 : aF 41 zM35.2.2.2.2.2.2.2 = some (41, .iaload, 1, 0, 0) := by decide +kernel
theorem gx35_42 : aF 42 zM35.2.2.2.2.2.2.2 = some (42, (.if_icmp .ne 7), 3, 49, 0) := by decide +kernel
theorem gx35_45 : aF 45 zM35.2.2.2.2.2.2.2 = some (45, (.iconst 1), 1, 0, 0) := by decide +kernel
theorem gx35_46 : aF 46 zM35.2.2.2.2.2.2.2 = some (46, (.goto 4), 3, 50, 0) := by decide +kernel
theorem gx35_57 : aF 57 zM35.2.2.2.2.2.2.2 = some (57, (.aload_n 0), 1, 0, 0) := by decide +kernel
theorem gx35_58 : aF 58 zM35.2.2.2.2.2.2.2 = some (58, (.getfield 48), 3, 2, 16) := by decide +kernel
theorem gx35_61 : aF 61 zM35.2.2.2.2.2.2.2 = some (61, (.iload 4), 2, 0, 0) := by decide +kernel
theorem gx35_63 : aF 63 zM35.2.2.2.2.2.2.2 = some (63, .iaload, 1, 0, 0) := by decide +kernel
theorem gx35_64 : aF 64 zM35.2.2.2.2.2.2.2 = some (64, (.iload_n 2), 1, 0, 0) := by decide +kernel
theorem gx35_65 : aF 65 zM35.2.2.2.2.2.2.2 = some (65, (.if_icmp .ne 22), 3, 87, 0) := by decide +kernel
theorem gx35_68 : aF 68 zM35.2.2.2.2.2.2.2 = some (68, (.aload_n 0), 1, 0, 0) := by decide +kernel
theorem gx35_69 : aF 69 zM35.2.2.2.2.2.2.2 = some (69, (.getfield 54), 3, 2, 18) := by decide +kernel
theorem gx35_72 : aF 72 zM35.2.2.2.2.2.2.2 = some (72, (.iload 4), 2, 0, 0) := by decide +kernel
theorem gx35_74 : aF 74 zM35.2.2.2.2.2.2.2 = some (74, .iaload, 1, 0, 0) := by decide +kernel
theorem gx35_75 : aF 75 zM35.2.2.2.2.2.2.2 = some (75, (.iload_n 3), 1, 0, 0) := by decide +kernel
theorem gx35_76 : aF 76 zM35.2.2.2.2.2.2.2 = some (76, (.if_icmp .gt 11), 3, 87, 0) := by decide +kernel
theorem gx35_79 : aF 79 zM35.2.2.2.2.2.2.2 = some (79, (.aload_n 0), 1, 0, 0) := by decide +kernel
theorem gx35_80 : aF 80 zM35.2.2.2.2.2.2.2 = some (80, (.getfield 51), 3, 2, 17) := by decide +kernel
theorem gx35_83 : aF 83 zM35.2.2.2.2.2.2.2 = some (83, (.iload 4), 2, 0, 0) := by decide +kernel
theorem gx35_85 : aF 85 zM35.2.2.2.2.2.2.2 = some (85, .iaload, 1, 0, 0) := by decide +kernel
theorem gx35_86 : aF 86 zM35.2.2.2.2.2.2.2 = some (86, .ireturn, 1, 0, 0) := by decide +kernel
theorem gx34_0 : aF 0 zM34.2.2.2.2.2.2.2 = some (0, (.aload_n 0), 1, 0, 0) := by decide +kernel
theorem gx34_1 : aF 1 zM34.2.2.2.2.2.2.2 = some (1, (.getfield 99), 3, 2, 3) := by decide +kernel
theorem gx34_4 : aF 4 zM34.2.2.2.2.2.2.2 = some (4, (.sipush 200), 3, 0, 0) := by decide +kernel
theorem gx34_7 : aF 7 zM34.2.2.2.2.2.2.2 = some (7, (.if_icmp .ge 70), 3, 77, 0) := by decide +kernel
theorem gx34_77 : aF 77 zM34.2.2.2.2.2.2.2 = some (77, (.aload_n 0), 1, 0, 0) := by decide +kernel
theorem gx34_78 : aF 78 zM34.2.2.2.2.2.2.2 = some (78, (.getfield 99), 3, 2, 3) := by decide +kernel
theorem gx34_81 : aF 81 zM34.2.2.2.2.2.2.2 = some (81, .ireturn, 1, 0, 0) := by decide +kernel
theorem gx34_10 : aF 10 zM34.2.2.2.2.2.2.2 = some (10, (.aload_n 0), 1, 0, 0) := by decide +kernel
theorem gx34_11 : aF 11 zM34.2.2.2.2.2.2.2 = some (11, (.getfield 42), 3, 2, 14) := by decide +kernel
theorem gx34_14 : aF 14 zM34.2.2.2.2.2.2.2 = some (14, (.aload_n 0), 1, 0, 0) := by decide +kernel
theorem gx34_15 : aF 15 zM34.2.2.2.2.2.2.2 = some (15, (.getfield 99), 3, 2, 3) := by decide +kernel
theorem gx34_18 : aF 18 zM34.2.2.2.2.2.2.2 = some (18, (.iload_n 1), 1, 0, 0) := by decide +kernel
theorem gx34_19 : aF 19 zM34.2.2.2.2.2.2.2 = some (19, .iastore, 1, 0, 0) := by decide +kernel
theorem gx34_20 : aF 20 zM34.2.2.2.2.2.2.2 = some (20, (.aload_n 0), 1, 0, 0) := by decide +kernel
theorem gx34_21 : aF 21 zM34.2.2.2.2.2.2.2 = some (21, (.getfield 45), 3, 2, 15) := by decide +kernel
theorem gx34_24 : aF 24 zM34.2.2.2.2.2.2.2 = some (24, (.aload_n 0), 1, 0, 0) := by decide +kernel
theorem gx34_25 : aF 25 zM34.2.2.2.2.2.2.2 = some (25, (.getfield 99), 3, 2, 3) := by decide +kernel
theorem gx34_28 : aF 28 zM34.2.2.2.2.2.2.2 = some (28, (.iload_n 2), 1, 0, 0) := by decide +kernel
theorem gx34_29 : aF 29 zM34.2.2.2.2.2.2.2 = some (29, .iastore, 1, 0, 0) := by decide +kernel
theorem gx34_30 : aF 30 zM34.2.2.2.2.2.2.2 = some (30, (.aload_n 0), 1, 0, 0) := by decide +kernel
theorem gx34_31 : aF 31 zM34.2.2.2.2.2.2.2 = some (31, (.getfield 48), 3, 2, 16) := by decide +kernel
theorem gx34_34 : aF 34 zM34.2.2.2.2.2.2.2 = some (34, (.aload_n 0), 1, 0, 0) := by decide +kernel
theorem gx34_35 : aF 35 zM34.2.2.2.2.2.2.2 = some (35, (.getfield 99), 3, 2, 3) := by decide +kernel
theorem gx34_38 : aF 38 zM34.2.2.2.2.2.2.2 = some (38, (.iload_n 3), 1, 0, 0) := by decide +kernel
theorem gx34_39 : aF 39 zM34.2.2.2.2.2.2.2 = some (39, .iastore, 1, 0, 0) := by decide +kernel
theorem gx34_40 : aF 40 zM34.2.2.2.2.2.2.2 = some (40, (.aload_n 0), 1, 0, 0) := by decide +kernel
theorem gx34_41 : aF 41 zM34.2.2.2.2.2.2.2 = some (41, (.getfield 51), 3, 2, 17) := by decide +kernel
theorem gx34_44 : aF 44 zM34.2.2.2.2.2.2.2 = some (44, (.aload_n 0), 1, 0, 0) := by decide +kernel
theorem gx34_45 : aF 45 zM34.2.2.2.2.2.2.2 = some (45, (.getfield 99), 3, 2, 3) := by decide +kernel
theorem gx34_48 : aF 48 zM34.2.2.2.2.2.2.2 = some (48, (.iload 4), 2, 0, 0) := by decide +kernel
theorem gx34_50 : aF 50 zM34.2.2.2.2.2.2.2 = some (50, .iastore, 1, 0, 0) := by decide +kernel
theorem gx34_51 : aF 51 zM34.2.2.2.2.2.2.2 = some (51, (.aload_n 0), 1, 0, 0) := by decide +kernel
theorem gx34_52 : aF 52 zM34.2.2.2.2.2.2.2 = some (52, (.getfield 54), 3, 2, 18) := by decide +kernel
theorem gx34_55 : aF 55 zM34.2.2.2.2.2.2.2 = some (55, (.aload_n 0), 1, 0, 0) := by decide +kernel
theorem gx34_56 : aF 56 zM34.2.2.2.2.2.2.2 = some (56, (.getfield 99), 3, 2, 3) := by decide +kernel
theorem gx34_59 : aF 59 zM34.2.2.2.2.2.2.2 = some (59, (.aload_n 0), 1, 0, 0) := by decide +kernel
theorem gx34_60 : aF 60 zM34.2.2.2.2.2.2.2 = some (60, (.getfield 60), 3, 2, 0) := by decide +kernel
theorem gx34_63 : aF 63 zM34.2.2.2.2.2.2.2 = some (63, (.getfield 68), 3, 6, 0) := by decide +kernel
theorem gx34_66 : aF 66 zM34.2.2.2.2.2.2.2 = some (66, .iastore, 1, 0, 0) := by decide +kernel
theorem gx34_67 : aF 67 zM34.2.2.2.2.2.2.2 = some (67, (.aload_n 0), 1, 0, 0) := by decide +kernel
theorem gx34_68 : aF 68 zM34.2.2.2.2.2.2.2 = some (68, .dup, 1, 0, 0) := by decide +kernel
theorem gx34_69 : aF 69 zM34.2.2.2.2.2.2.2 = some (69, (.getfield 99), 3, 2, 3) := by decide +kernel
theorem gx34_72 : aF 72 zM34.2.2.2.2.2.2.2 = some (72, (.iconst 1), 1, 0, 0) := by decide +kernel
theorem gx34_73 : aF 73 zM34.2.2.2.2.2.2.2 = some (73, .iadd, 1, 0, 0) := by decide +kernel
theorem gx34_74 : aF 74 zM34.2.2.2.2.2.2.2 = some (74, (.putfield 99), 3, 2, 3) := by decide +kernel
section PT5
variable {n : Nat} {X : aX} {M : aM} {Q : Option Value → aH → Prop} {pc len a b : Nat} {l : aL} {st r : List Value} {h : aH} {B : Int}
theorem pt_getK {ix o q : Nat} (hf : aF pc M.2.2.2.2.2.2.2 = some (pc, (.getfield ix), len, a, b)) (S : wS h) (e : vw h o B = ((q : Nat) : Int)) (k : Pt n X M (pc + 3) l (.ref q :: r) h Q) (hB : ((b : Nat) : Int) = B := by rfl) (hy : rY a b = true := by decide +kernel) : Pt (n + 1) X M pc l (.ref o :: r) h Q := by
  refine pt_getD hf S (fun z => absurd (z.symm.trans e) (by omega)) (fun q' e' => ?_) hB hy
  have : q' = q := by omega
  subst this
  exact k
theorem pt_getN {ix : Nat} (hf : aF pc M.2.2.2.2.2.2.2 = some (pc, (.getfield ix), len, a, b)) : Pt (n + 1) X M pc l (.null :: r) h Q := pt_s fun m hm d v h2 e => by
  rw [arun_p hf rfl] at e
  exact absurd e (by simp [aX1])
end PT5
def wsM (V : vS) (c y k : Int) : Prop := iDiv (V 20 c) 365 = y ∧ V 20 c ≤ k
def bhd (V : vS) (c f b : Int) : Prop := f < V 17 c ∨ (V 17 c = f ∧ b < V 18 c)

theorem d30_0 {n : Nat} {X : aX} {h : aH} {P : Int → aH → Prop} {x1 x2 x3 : Int32} {a1 a2 a3 : Int} (S : wS h) (z1 : x1.toInt = a1) (z2 : x2.toInt = a2) (z3 : x3.toInt = a3) (H : (0 ≤ a1 → a1 < 300 → ((iDiv (vw h 20 a1) 365 ≠ a2 → P 0 h) ∧ (iDiv (vw h 20 a1) 365 = a2 → ((a3 < vw h 20 a1 → P 0 h) ∧ (vw h 20 a1 ≤ a3 → P 1 h)))))) : Pt (n + 1) X zM30 0 [some (.ref 16), some (.int x1), some (.int x2), some (.int x3)] [] h (qI P) := by
  refine pt_1 (fun n d => r_aloadn gx30_0 rfl) ?_
  refine pt_d (pt_getR gx30_1 S tr_16_7 ?_)
  refine pt_d (pt_1 (fun n d => r_iloadn gx30_4 rfl) ?_)
  refine pt_d (pt_iald (N' := 300) gx30_5 S tl_20 z1 (fun v2 p2 q2 h2 => ?_))
  have H := H p2 q2
  refine pt_d (pt_sipush gx30_6 (fun v3 h3 => ?_))
  refine pt_d (pt_idiv gx30_9 h2 h3 (fun v4 h4 => ?_))
  refine pt_d (pt_1 (fun n d => r_iloadn gx30_10 rfl) ?_)
  refine pt_d (pt_icmp_ne gx30_11 h4 z2 (fun e5 => ?_) (fun e5 => ?_))
  · have H := H.1 e5
    refine pt_d (pt_iconst gx30_28 (fun v6 h6 => ?_))
    exact pt_d (pt_iret gx30_29 ⟨_, rfl, by rw [h6]; exact H⟩)
  · have H := H.2 e5
    refine pt_d (pt_1 (fun n d => r_aloadn gx30_14 rfl) ?_)
    refine pt_d (pt_getR gx30_15 S tr_16_7 ?_)
    refine pt_d (pt_1 (fun n d => r_iloadn gx30_18 rfl) ?_)
    refine pt_d (pt_iald (N' := 300) gx30_19 S tl_20 z1 (fun v8 p8 q8 h8 => ?_))
    refine pt_d (pt_1 (fun n d => r_iloadn gx30_20 rfl) ?_)
    refine pt_d (pt_icmp_gt gx30_21 h8 z3 (fun e9 => ?_) (fun e9 => ?_))
    · have H := H.1 e9
      refine pt_d (pt_iconst gx30_28 (fun v10 h10 => ?_))
      exact pt_d (pt_iret gx30_29 ⟨_, rfl, by rw [h10]; exact H⟩)
    · have H := H.2 e9
      refine pt_d (pt_iconst gx30_24 (fun v11 h11 => ?_))
      refine pt_d (pt_1 (fun n d => r_goto gx30_25) ?_)
      exact pt_d (pt_iret gx30_29 ⟨_, rfl, by rw [h11]; exact H⟩)
theorem c_30 {n : Nat} {X : aX} {h : aH} {x1 x2 x3 : Int32} {a1 a2 a3 : Int} (S : wS h) (z1 : x1.toInt = a1) (z2 : x2.toInt = a2) (z3 : x3.toInt = a3) : Pt n X zM30 0 [some (.ref 16), some (.int x1), some (.int x2), some (.int x3)] [] h (qI (fun y h' => h' = h ∧ y = bI (wsM (vw h) a1 a2 a3))) := by
  refine pt_d (d30_0 S z1 z2 z3 ?_)
  exact fun _ _ => ⟨fun e => ⟨rfl, (bI_f (fun z => e z.1)).symm⟩, fun e => ⟨fun e2 => ⟨rfl, (bI_f (fun z => absurd z.2 (by omega))).symm⟩, fun e2 => ⟨rfl, (bI_t ⟨e, e2⟩).symm⟩⟩⟩
theorem d29_0 {n : Nat} {X : aX} {h : aH} {P : Int → aH → Prop} {x1 x2 x3 : Int32} {a1 a2 a3 : Int} (S : wS h) (z1 : x1.toInt = a1) (z2 : x2.toInt = a2) (z3 : x3.toInt = a3) (H : (0 ≤ a1 → a1 < 300 → (0 ≤ vw h 21 a1 → vw h 21 a1 < 300 → (0 ≤ vw h 18 (vw h 21 a1) → vw h 18 (vw h 21 a1) < 150 → ((¬ (wsM (vw h) (vw h 21 a1) a2 a3) → P 0 h) ∧ ((wsM (vw h) (vw h 21 a1) a2 a3) → ((vw h 5 (vw h 18 (vw h 21 a1)) = (-1) → ((w32 (a1 + 1) < vw h 16 1 → (0 ≤ w32 (a1 + 1) → w32 (a1 + 1) < 300 → ((((vw h 17 (vw h 21 a1)) < (vw h) 17 (vw h 21 (w32 (a1 + 1))) ∨ ((vw h) 17 (vw h 21 (w32 (a1 + 1))) = (vw h 17 (vw h 21 a1)) ∧ (vw h 18 (vw h 21 a1)) < (vw h) 18 (vw h 21 (w32 (a1 + 1))))) → P 1 h) ∧ (¬ ((vw h 17 (vw h 21 a1)) < (vw h) 17 (vw h 21 (w32 (a1 + 1))) ∨ ((vw h) 17 (vw h 21 (w32 (a1 + 1))) = (vw h 17 (vw h 21 a1)) ∧ (vw h 18 (vw h 21 a1)) < (vw h) 18 (vw h 21 (w32 (a1 + 1))))) → (((wsM (vw h) (vw h 21 (w32 (a1 + 1))) a2 a3) → P 0 h) ∧ (¬ (wsM (vw h) (vw h 21 (w32 (a1 + 1))) a2 a3) → P 1 h)))))) ∧ (vw h 16 1 ≤ w32 (a1 + 1) → P 1 h))) ∧ (vw h 5 (vw h 18 (vw h 21 a1)) ≠ (-1) → ((a3 < vw h 5 (vw h 18 (vw h 21 a1)) → ((w32 (a1 + 1) < vw h 16 1 → (0 ≤ w32 (a1 + 1) → w32 (a1 + 1) < 300 → ((((vw h 17 (vw h 21 a1)) < (vw h) 17 (vw h 21 (w32 (a1 + 1))) ∨ ((vw h) 17 (vw h 21 (w32 (a1 + 1))) = (vw h 17 (vw h 21 a1)) ∧ (vw h 18 (vw h 21 a1)) < (vw h) 18 (vw h 21 (w32 (a1 + 1))))) → P 1 h) ∧ (¬ ((vw h 17 (vw h 21 a1)) < (vw h) 17 (vw h 21 (w32 (a1 + 1))) ∨ ((vw h) 17 (vw h 21 (w32 (a1 + 1))) = (vw h 17 (vw h 21 a1)) ∧ (vw h 18 (vw h 21 a1)) < (vw h) 18 (vw h 21 (w32 (a1 + 1))))) → (((wsM (vw h) (vw h 21 (w32 (a1 + 1))) a2 a3) → P 0 h) ∧ (¬ (wsM (vw h) (vw h 21 (w32 (a1 + 1))) a2 a3) → P 1 h)))))) ∧ (vw h 16 1 ≤ w32 (a1 + 1) → P 1 h))) ∧ (vw h 5 (vw h 18 (vw h 21 a1)) ≤ a3 → P 0 h)))))))))) : Pt (n + 1) X zM29 0 [some (.ref 16), some (.int x1), some (.int x2), some (.int x3), none, none, none] [] h (qI P) := by
  refine pt_1 (fun n d => r_aloadn gx29_0 rfl) ?_
  refine pt_d (pt_getR gx29_1 S tr_16_8 ?_)
  refine pt_d (pt_1 (fun n d => r_iloadn gx29_4 rfl) ?_)
  refine pt_d (pt_iald (N' := 300) gx29_5 S tl_21 z1 (fun v2 p2 q2 h2 => ?_))
  have H := H p2 q2
  refine pt_d (pt_1 (fun n d => r_istore (L' := [some (.ref 16), some (.int x1), some (.int x2), some (.int x3), some (.int v2), none, none]) gx29_6 rfl rfl) ?_)
  refine pt_d (pt_1 (fun n d => r_aloadn gx29_8 rfl) ?_)
  refine pt_d (pt_getR gx29_9 S tr_16_0 ?_)
  refine pt_d (pt_getR gx29_12 S tr_1_10 ?_)
  refine pt_d (pt_1 (fun n d => r_aloadn gx29_15 rfl) ?_)
  refine pt_d (pt_getR gx29_16 S tr_16_5 ?_)
  refine pt_d (pt_1 (fun n d => r_iload gx29_19 rfl) ?_)
  refine pt_d (pt_iald (N' := 300) gx29_21 S tl_18 h2 (fun v6 p6 q6 h6 => ?_))
  have H := H p6 q6
  refine pt_d (pt_iald (N' := 150) gx29_22 S tl_5 h6 (fun v7 p7 q7 h7 => ?_))
  have H := H p7 q7
  refine pt_d (pt_1 (fun n d => r_istore (L' := [some (.ref 16), some (.int x1), some (.int x2), some (.int x3), some (.int v2), some (.int v7), none]) gx29_23 rfl rfl) ?_)
  refine pt_d (pt_1 (fun n d => r_aloadn gx29_25 rfl) ?_)
  refine pt_d (pt_1 (fun n d => r_iload gx29_26 rfl) ?_)
  refine pt_d (pt_1 (fun n d => r_iloadn gx29_28 rfl) ?_)
  refine pt_d (pt_1 (fun n d => r_iloadn gx29_29 rfl) ?_)
  refine pt_d (pt_virt (as := [.int v2, .int x2, .int x3]) (r := []) gx29_30 rfl (show zmt[30]? = some zM30 from rfl) rfl rfl rfl rfl (c_30 S h2 z2 z3) (kqP (fun v8 h8 => ?_)))
  show Pt _ _ _ 33 _ [.int v8] _ _
  refine pt_d (pt_ifB_eq gx29_33 h8 (fun e9 => ?_) (fun e9 => ?_))
  · have H := H.1 e9
    refine pt_d (pt_iconst gx29_48 (fun v10 h10 => ?_))
    exact pt_d (pt_iret gx29_49 ⟨_, rfl, by rw [h10]; exact H⟩)
  · have H := H.2 e9
    refine pt_d (pt_1 (fun n d => r_iload gx29_36 rfl) ?_)
    refine pt_d (pt_iconst gx29_38 (fun v11 h11 => ?_))
    refine pt_d (pt_icmp_eq gx29_39 h7 h11 (fun e12 => ?_) (fun e12 => ?_))
    · have H := H.1 e12
      refine pt_d (pt_1 (fun n d => r_iloadn gx29_50 rfl) ?_)
      refine pt_d (pt_iconst gx29_51 (fun v13 h13 => ?_))
      refine pt_d (pt_iadd gx29_52 z1 h13 (fun v14 h14 => ?_))
      refine pt_d (pt_1 (fun n d => r_aloadn gx29_53 rfl) ?_)
      refine pt_d (pt_getI (B := 1) gx29_54 S (fun v15 h15 => ?_))
      refine pt_d (pt_icmp_lt gx29_57 h14 h15 (fun e16 => ?_) (fun e16 => ?_))
      · have H := H.1 e16
        refine pt_d (pt_1 (fun n d => r_aloadn gx29_62 rfl) ?_)
        refine pt_d (pt_getR gx29_63 S tr_16_8 ?_)
        refine pt_d (pt_1 (fun n d => r_iloadn gx29_66 rfl) ?_)
        refine pt_d (pt_iconst gx29_67 (fun v18 h18 => ?_))
        refine pt_d (pt_iadd gx29_68 z1 h18 (fun v19 h19 => ?_))
        refine pt_d (pt_iald (N' := 300) gx29_69 S tl_21 h19 (fun v20 p20 q20 h20 => ?_))
        have H := H p20 q20
        refine pt_d (pt_1 (fun n d => r_istore (L' := [some (.ref 16), some (.int x1), some (.int x2), some (.int x3), some (.int v2), some (.int v7), some (.int v20)]) gx29_70 rfl rfl) ?_)
        refine pt_d (pt_1 (fun n d => r_aloadn gx29_72 rfl) ?_)
        refine pt_d (pt_1 (fun n d => r_iload gx29_73 rfl) ?_)
        refine pt_d (pt_1 (fun n d => r_aloadn gx29_75 rfl) ?_)
        refine pt_d (pt_getR gx29_76 S tr_16_4 ?_)
        refine pt_d (pt_1 (fun n d => r_iload gx29_79 rfl) ?_)
        refine pt_d (pt_iald (N' := 300) gx29_81 S tl_17 h2 (fun v22 p22 q22 h22 => ?_))
        refine pt_d (pt_1 (fun n d => r_aloadn gx29_82 rfl) ?_)
        refine pt_d (pt_getR gx29_83 S tr_16_5 ?_)
        refine pt_d (pt_1 (fun n d => r_iload gx29_86 rfl) ?_)
        refine pt_d (pt_iald (N' := 300) gx29_88 S tl_18 h2 (fun v24 p24 q24 h24 => ?_))
        refine pt_d (pt_virt (as := [.int v20, .int v22, .int v24]) (r := []) gx29_89 rfl (show zmt[28]? = some zM28 from rfl) rfl rfl rfl rfl (c_28 S h20 h22 h24) (kqP (fun v25 h25 => ?_)))
        show Pt _ _ _ 92 _ [.int v25] _ _
        refine pt_d (pt_ifB_ne gx29_92 h25 (fun e26 => ?_) (fun e26 => ?_))
        · have H := H.1 e26
          refine pt_d (pt_iconst gx29_106 (fun v27 h27 => ?_))
          refine pt_d (pt_1 (fun n d => r_goto gx29_107) ?_)
          exact pt_d (pt_iret gx29_111 ⟨_, rfl, by rw [h27]; exact H⟩)
        · have H := H.2 e26
          refine pt_d (pt_1 (fun n d => r_aloadn gx29_95 rfl) ?_)
          refine pt_d (pt_1 (fun n d => r_iload gx29_96 rfl) ?_)
          refine pt_d (pt_1 (fun n d => r_iloadn gx29_98 rfl) ?_)
          refine pt_d (pt_1 (fun n d => r_iloadn gx29_99 rfl) ?_)
          refine pt_d (pt_virt (as := [.int v20, .int x2, .int x3]) (r := []) gx29_100 rfl (show zmt[30]? = some zM30 from rfl) rfl rfl rfl rfl (c_30 S h20 z2 z3) (kqP (fun v28 h28 => ?_)))
          show Pt _ _ _ 103 _ [.int v28] _ _
          refine pt_d (pt_ifB_ne gx29_103 h28 (fun e29 => ?_) (fun e29 => ?_))
          · have H := H.1 e29
            refine pt_d (pt_iconst gx29_110 (fun v30 h30 => ?_))
            exact pt_d (pt_iret gx29_111 ⟨_, rfl, by rw [h30]; exact H⟩)
          · have H := H.2 e29
            refine pt_d (pt_iconst gx29_106 (fun v31 h31 => ?_))
            refine pt_d (pt_1 (fun n d => r_goto gx29_107) ?_)
            exact pt_d (pt_iret gx29_111 ⟨_, rfl, by rw [h31]; exact H⟩)
      · have H := H.2 e16
        refine pt_d (pt_iconst gx29_60 (fun v32 h32 => ?_))
        exact pt_d (pt_iret gx29_61 ⟨_, rfl, by rw [h32]; exact H⟩)
    · have H := H.2 e12
      refine pt_d (pt_1 (fun n d => r_iload gx29_42 rfl) ?_)
      refine pt_d (pt_1 (fun n d => r_iloadn gx29_44 rfl) ?_)
      refine pt_d (pt_icmp_gt gx29_45 h7 z3 (fun e33 => ?_) (fun e33 => ?_))
      · have H := H.1 e33
        refine pt_d (pt_1 (fun n d => r_iloadn gx29_50 rfl) ?_)
        refine pt_d (pt_iconst gx29_51 (fun v34 h34 => ?_))
        refine pt_d (pt_iadd gx29_52 z1 h34 (fun v35 h35 => ?_))
        refine pt_d (pt_1 (fun n d => r_aloadn gx29_53 rfl) ?_)
        refine pt_d (pt_getI (B := 1) gx29_54 S (fun v36 h36 => ?_))
        refine pt_d (pt_icmp_lt gx29_57 h35 h36 (fun e37 => ?_) (fun e37 => ?_))
        · have H := H.1 e37
          refine pt_d (pt_1 (fun n d => r_aloadn gx29_62 rfl) ?_)
          refine pt_d (pt_getR gx29_63 S tr_16_8 ?_)
          refine pt_d (pt_1 (fun n d => r_iloadn gx29_66 rfl) ?_)
          refine pt_d (pt_iconst gx29_67 (fun v39 h39 => ?_))
          refine pt_d (pt_iadd gx29_68 z1 h39 (fun v40 h40 => ?_))
          refine pt_d (pt_iald (N' := 300) gx29_69 S tl_21 h40 (fun v41 p41 q41 h41 => ?_))
          have H := H p41 q41
          refine pt_d (pt_1 (fun n d => r_istore (L' := [some (.ref 16), some (.int x1), some (.int x2), some (.int x3), some (.int v2), some (.int v7), some (.int v41)]) gx29_70 rfl rfl) ?_)
          refine pt_d (pt_1 (fun n d => r_aloadn gx29_72 rfl) ?_)
          refine pt_d (pt_1 (fun n d => r_iload gx29_73 rfl) ?_)
          refine pt_d (pt_1 (fun n d => r_aloadn gx29_75 rfl) ?_)
          refine pt_d (pt_getR gx29_76 S tr_16_4 ?_)
          refine pt_d (pt_1 (fun n d => r_iload gx29_79 rfl) ?_)
          refine pt_d (pt_iald (N' := 300) gx29_81 S tl_17 h2 (fun v43 p43 q43 h43 => ?_))
          refine pt_d (pt_1 (fun n d => r_aloadn gx29_82 rfl) ?_)
          refine pt_d (pt_getR gx29_83 S tr_16_5 ?_)
          refine pt_d (pt_1 (fun n d => r_iload gx29_86 rfl) ?_)
          refine pt_d (pt_iald (N' := 300) gx29_88 S tl_18 h2 (fun v45 p45 q45 h45 => ?_))
          refine pt_d (pt_virt (as := [.int v41, .int v43, .int v45]) (r := []) gx29_89 rfl (show zmt[28]? = some zM28 from rfl) rfl rfl rfl rfl (c_28 S h41 h43 h45) (kqP (fun v46 h46 => ?_)))
          show Pt _ _ _ 92 _ [.int v46] _ _
          refine pt_d (pt_ifB_ne gx29_92 h46 (fun e47 => ?_) (fun e47 => ?_))
          · have H := H.1 e47
            refine pt_d (pt_iconst gx29_106 (fun v48 h48 => ?_))
            refine pt_d (pt_1 (fun n d => r_goto gx29_107) ?_)
            exact pt_d (pt_iret gx29_111 ⟨_, rfl, by rw [h48]; exact H⟩)
          · have H := H.2 e47
            refine pt_d (pt_1 (fun n d => r_aloadn gx29_95 rfl) ?_)
            refine pt_d (pt_1 (fun n d => r_iload gx29_96 rfl) ?_)
            refine pt_d (pt_1 (fun n d => r_iloadn gx29_98 rfl) ?_)
            refine pt_d (pt_1 (fun n d => r_iloadn gx29_99 rfl) ?_)
            refine pt_d (pt_virt (as := [.int v41, .int x2, .int x3]) (r := []) gx29_100 rfl (show zmt[30]? = some zM30 from rfl) rfl rfl rfl rfl (c_30 S h41 z2 z3) (kqP (fun v49 h49 => ?_)))
            show Pt _ _ _ 103 _ [.int v49] _ _
            refine pt_d (pt_ifB_ne gx29_103 h49 (fun e50 => ?_) (fun e50 => ?_))
            · have H := H.1 e50
              refine pt_d (pt_iconst gx29_110 (fun v51 h51 => ?_))
              exact pt_d (pt_iret gx29_111 ⟨_, rfl, by rw [h51]; exact H⟩)
            · have H := H.2 e50
              refine pt_d (pt_iconst gx29_106 (fun v52 h52 => ?_))
              refine pt_d (pt_1 (fun n d => r_goto gx29_107) ?_)
              exact pt_d (pt_iret gx29_111 ⟨_, rfl, by rw [h52]; exact H⟩)
        · have H := H.2 e37
          refine pt_d (pt_iconst gx29_60 (fun v53 h53 => ?_))
          exact pt_d (pt_iret gx29_61 ⟨_, rfl, by rw [h53]; exact H⟩)
      · have H := H.2 e33
        refine pt_d (pt_iconst gx29_48 (fun v54 h54 => ?_))
        exact pt_d (pt_iret gx29_49 ⟨_, rfl, by rw [h54]; exact H⟩)
theorem d33_0 {n : Nat} {X : aX} {h : aH} {P : Int → aH → Prop} {x1 x2 x3 : Int32} {a1 a2 a3 : Int} (S : wS h) (z1 : x1.toInt = a1) (z2 : x2.toInt = a2) (z3 : x3.toInt = a3) (H : (∀ (w4 : Int32) (w5 : Int32) (u6_ : Option Value), w4.toInt = 0 → w5.toInt = 0 → Pt n X zM33 6 [some (.ref 16), some (.int x1), some (.int x2), some (.int x3), some (.int w4), some (.int w5), u6_] [] h (qI P))) : Pt (n + 1) X zM33 0 [some (.ref 16), some (.int x1), some (.int x2), some (.int x3), none, none, none] [] h (qI P) := by
  refine pt_iconst gx33_0 (fun v1 h1 => ?_)
  refine pt_d (pt_1 (fun n d => r_istore (L' := [some (.ref 16), some (.int x1), some (.int x2), some (.int x3), some (.int v1), none, none]) gx33_1 rfl rfl) ?_)
  refine pt_d (pt_iconst gx33_3 (fun v2 h2 => ?_))
  refine pt_d (pt_1 (fun n d => r_istore (L' := [some (.ref 16), some (.int x1), some (.int x2), some (.int x3), some (.int v1), some (.int v2), none]) gx33_4 rfl rfl) ?_)
  exact H v1 v2 _ h1 h2
theorem d33_6 {n : Nat} {X : aX} {h : aH} {P : Int → aH → Prop} {x1 x2 x3 x4 x5 : Int32} {a1 a2 a3 a4 a5 : Int} {u6 : Option Value} (S : wS h) (z1 : x1.toInt = a1) (z2 : x2.toInt = a2) (z3 : x3.toInt = a3) (z4 : x4.toInt = a4) (z5 : x5.toInt = a5) (H : ((vw h 16 2 ≤ a5 → P a4 h) ∧ (a5 < vw h 16 2 → (0 ≤ a5 → a5 < 40 → ((a3 < vw h 26 a5 → (∀ (w5 : Int32) (u6_ : Option Value), w5.toInt = w32 (a5 + 1) → Pt n X zM33 6 [some (.ref 16), some (.int x1), some (.int x2), some (.int x3), some (.int x4), some (.int w5), u6_] [] h (qI P))) ∧ (vw h 26 a5 ≤ a3 → ((w32 (a2 * 365) < vw h 25 a5 → (∀ (w5 : Int32) (u6_ : Option Value), w5.toInt = w32 (a5 + 1) → Pt n X zM33 6 [some (.ref 16), some (.int x1), some (.int x2), some (.int x3), some (.int x4), some (.int w5), u6_] [] h (qI P))) ∧ (vw h 25 a5 ≤ w32 (a2 * 365) → ((a1 < iRem (vw h 23 a5) 100 → (∀ (w5 : Int32) (u6_ : Option Value), w5.toInt = w32 (a5 + 1) → Pt n X zM33 6 [some (.ref 16), some (.int x1), some (.int x2), some (.int x3), some (.int x4), some (.int w5), u6_] [] h (qI P))) ∧ (iRem (vw h 23 a5) 100 ≤ a1 → ((iRem (vw h 24 a5) 100 < a1 → (∀ (w5 : Int32) (u6_ : Option Value), w5.toInt = w32 (a5 + 1) → Pt n X zM33 6 [some (.ref 16), some (.int x1), some (.int x2), some (.int x3), some (.int x4), some (.int w5), u6_] [] h (qI P))) ∧ (a1 ≤ iRem (vw h 24 a5) 100 → (∀ (w4 : Int32) (w5 : Int32) (u6_ : Option Value), w4.toInt = bOr a4 (w32 ((bShl 2 (iDiv (vw h 24 a5) 100)) - (bShl 1 (iDiv (vw h 23 a5) 100)))) → w5.toInt = w32 (a5 + 1) → Pt n X zM33 6 [some (.ref 16), some (.int x1), some (.int x2), some (.int x3), some (.int w4), some (.int w5), u6_] [] h (qI P)))))))))))))) : Pt (n + 1) X zM33 6 [some (.ref 16), some (.int x1), some (.int x2), some (.int x3), some (.int x4), some (.int x5), u6] [] h (qI P) := by
  refine pt_1 (fun n d => r_iload gx33_6 rfl) ?_
  refine pt_d (pt_1 (fun n d => r_aloadn gx33_8 rfl) ?_)
  refine pt_d (pt_getI (B := 2) gx33_9 S (fun v1 h1 => ?_))
  refine pt_d (pt_icmp_ge gx33_12 z5 h1 (fun e2 => ?_) (fun e2 => ?_))
  · have H := H.1 e2
    refine pt_d (pt_1 (fun n d => r_iload gx33_117 rfl) ?_)
    exact pt_d (pt_iret gx33_119 ⟨_, rfl, by rw [z4]; exact H⟩)
  · have H := H.2 e2
    refine pt_d (pt_1 (fun n d => r_aloadn gx33_15 rfl) ?_)
    refine pt_d (pt_getR gx33_16 S tr_16_13 ?_)
    refine pt_d (pt_1 (fun n d => r_iload gx33_19 rfl) ?_)
    refine pt_d (pt_iald (N' := 40) gx33_21 S tl_26 z5 (fun v4 p4 q4 h4 => ?_))
    have H := H p4 q4
    refine pt_d (pt_1 (fun n d => r_iloadn gx33_22 rfl) ?_)
    refine pt_d (pt_icmp_gt gx33_23 h4 z3 (fun e5 => ?_) (fun e5 => ?_))
    · have H := H.1 e5
      refine pt_d (pt_iconst gx33_45 (fun v6 h6 => ?_))
      refine pt_d (pt_1 (fun n d => r_istore (L' := [some (.ref 16), some (.int x1), some (.int x2), some (.int x3), some (.int x4), some (.int x5), some (.int v6)]) gx33_46 rfl rfl) ?_)
      refine pt_d (pt_1 (fun n d => r_iload gx33_48 rfl) ?_)
      refine pt_d (pt_if_eq gx33_50 h6 (fun e7 => ?_) (fun e7 => absurd e7 (by decide)))
      refine pt_d (pt_iinc (c := 1) gx33_111 rfl z5 (fun v8 h8 => ?_))
      show Pt _ _ _ _ [some (.ref 16), some (.int x1), some (.int x2), some (.int x3), some (.int x4), some (.int v8), some (.int v6)] [] _ _
      refine pt_d (pt_1 (fun n d => r_goto gx33_114) ?_)
      exact H v8 _ h8
    · have H := H.2 e5
      refine pt_d (pt_1 (fun n d => r_aloadn gx33_26 rfl) ?_)
      refine pt_d (pt_getR gx33_27 S tr_16_12 ?_)
      refine pt_d (pt_1 (fun n d => r_iload gx33_30 rfl) ?_)
      refine pt_d (pt_iald (N' := 40) gx33_32 S tl_25 z5 (fun v10 p10 q10 h10 => ?_))
      refine pt_d (pt_1 (fun n d => r_iloadn gx33_33 rfl) ?_)
      refine pt_d (pt_sipush gx33_34 (fun v11 h11 => ?_))
      refine pt_d (pt_imul gx33_37 z2 h11 (fun v12 h12 => ?_))
      refine pt_d (pt_icmp_gt gx33_38 h10 h12 (fun e13 => ?_) (fun e13 => ?_))
      · have H := H.1 e13
        refine pt_d (pt_iconst gx33_45 (fun v14 h14 => ?_))
        refine pt_d (pt_1 (fun n d => r_istore (L' := [some (.ref 16), some (.int x1), some (.int x2), some (.int x3), some (.int x4), some (.int x5), some (.int v14)]) gx33_46 rfl rfl) ?_)
        refine pt_d (pt_1 (fun n d => r_iload gx33_48 rfl) ?_)
        refine pt_d (pt_if_eq gx33_50 h14 (fun e15 => ?_) (fun e15 => absurd e15 (by decide)))
        refine pt_d (pt_iinc (c := 1) gx33_111 rfl z5 (fun v16 h16 => ?_))
        show Pt _ _ _ _ [some (.ref 16), some (.int x1), some (.int x2), some (.int x3), some (.int x4), some (.int v16), some (.int v14)] [] _ _
        refine pt_d (pt_1 (fun n d => r_goto gx33_114) ?_)
        exact H v16 _ h16
      · have H := H.2 e13
        refine pt_d (pt_iconst gx33_41 (fun v17 h17 => ?_))
        refine pt_d (pt_1 (fun n d => r_goto gx33_42) ?_)
        refine pt_d (pt_1 (fun n d => r_istore (L' := [some (.ref 16), some (.int x1), some (.int x2), some (.int x3), some (.int x4), some (.int x5), some (.int v17)]) gx33_46 rfl rfl) ?_)
        refine pt_d (pt_1 (fun n d => r_iload gx33_48 rfl) ?_)
        refine pt_d (pt_if_eq gx33_50 h17 (fun e18 => absurd e18 (by decide)) (fun e18 => ?_))
        refine pt_d (pt_1 (fun n d => r_aloadn gx33_53 rfl) ?_)
        refine pt_d (pt_getR gx33_54 S tr_16_10 ?_)
        refine pt_d (pt_1 (fun n d => r_iload gx33_57 rfl) ?_)
        refine pt_d (pt_iald (N' := 40) gx33_59 S tl_23 z5 (fun v20 p20 q20 h20 => ?_))
        refine pt_d (pt_bipush gx33_60 (fun v21 h21 => ?_))
        refine pt_d (pt_irem gx33_62 h20 h21 (fun v22 h22 => ?_))
        refine pt_d (pt_1 (fun n d => r_iloadn gx33_63 rfl) ?_)
        refine pt_d (pt_icmp_gt gx33_64 h22 z1 (fun e23 => ?_) (fun e23 => ?_))
        · have H := H.1 e23
          refine pt_d (pt_iinc (c := 1) gx33_111 rfl z5 (fun v24 h24 => ?_))
          show Pt _ _ _ _ [some (.ref 16), some (.int x1), some (.int x2), some (.int x3), some (.int x4), some (.int v24), some (.int v17)] [] _ _
          refine pt_d (pt_1 (fun n d => r_goto gx33_114) ?_)
          exact H v24 _ h24
        · have H := H.2 e23
          refine pt_d (pt_1 (fun n d => r_iloadn gx33_67 rfl) ?_)
          refine pt_d (pt_1 (fun n d => r_aloadn gx33_68 rfl) ?_)
          refine pt_d (pt_getR gx33_69 S tr_16_11 ?_)
          refine pt_d (pt_1 (fun n d => r_iload gx33_72 rfl) ?_)
          refine pt_d (pt_iald (N' := 40) gx33_74 S tl_24 z5 (fun v26 p26 q26 h26 => ?_))
          refine pt_d (pt_bipush gx33_75 (fun v27 h27 => ?_))
          refine pt_d (pt_irem gx33_77 h26 h27 (fun v28 h28 => ?_))
          refine pt_d (pt_icmp_gt gx33_78 z1 h28 (fun e29 => ?_) (fun e29 => ?_))
          · have H := H.1 e29
            refine pt_d (pt_iinc (c := 1) gx33_111 rfl z5 (fun v30 h30 => ?_))
            show Pt _ _ _ _ [some (.ref 16), some (.int x1), some (.int x2), some (.int x3), some (.int x4), some (.int v30), some (.int v17)] [] _ _
            refine pt_d (pt_1 (fun n d => r_goto gx33_114) ?_)
            exact H v30 _ h30
          · have H := H.2 e29
            refine pt_d (pt_1 (fun n d => r_iload gx33_81 rfl) ?_)
            refine pt_d (pt_iconst gx33_83 (fun v31 h31 => ?_))
            refine pt_d (pt_1 (fun n d => r_aloadn gx33_84 rfl) ?_)
            refine pt_d (pt_getR gx33_85 S tr_16_11 ?_)
            refine pt_d (pt_1 (fun n d => r_iload gx33_88 rfl) ?_)
            refine pt_d (pt_iald (N' := 40) gx33_90 S tl_24 z5 (fun v33 p33 q33 h33 => ?_))
            refine pt_d (pt_bipush gx33_91 (fun v34 h34 => ?_))
            refine pt_d (pt_idiv gx33_93 h33 h34 (fun v35 h35 => ?_))
            refine pt_d (pt_ishl gx33_94 h31 h35 (fun v36 h36 => ?_))
            refine pt_d (pt_iconst gx33_95 (fun v37 h37 => ?_))
            refine pt_d (pt_1 (fun n d => r_aloadn gx33_96 rfl) ?_)
            refine pt_d (pt_getR gx33_97 S tr_16_10 ?_)
            refine pt_d (pt_1 (fun n d => r_iload gx33_100 rfl) ?_)
            refine pt_d (pt_iald (N' := 40) gx33_102 S tl_23 z5 (fun v39 p39 q39 h39 => ?_))
            refine pt_d (pt_bipush gx33_103 (fun v40 h40 => ?_))
            refine pt_d (pt_idiv gx33_105 h39 h40 (fun v41 h41 => ?_))
            refine pt_d (pt_ishl gx33_106 h37 h41 (fun v42 h42 => ?_))
            refine pt_d (pt_isub gx33_107 h36 h42 (fun v43 h43 => ?_))
            refine pt_d (pt_ior gx33_108 z4 h43 (fun v44 h44 => ?_))
            refine pt_d (pt_1 (fun n d => r_istore (L' := [some (.ref 16), some (.int x1), some (.int x2), some (.int x3), some (.int v44), some (.int x5), some (.int v17)]) gx33_109 rfl rfl) ?_)
            refine pt_d (pt_iinc (c := 1) gx33_111 rfl z5 (fun v45 h45 => ?_))
            show Pt _ _ _ _ [some (.ref 16), some (.int x1), some (.int x2), some (.int x3), some (.int v44), some (.int v45), some (.int v17)] [] _ _
            refine pt_d (pt_1 (fun n d => r_goto gx33_114) ?_)
            exact H v44 v45 _ h44 h45
theorem d35_0 {n : Nat} {X : aX} {h : aH} {P : Int → aH → Prop} {x1 x2 x3 : Int32} {a1 a2 a3 : Int} (S : wS h) (z1 : x1.toInt = a1) (z2 : x2.toInt = a2) (z3 : x3.toInt = a3) (H : (∀ (w4 : Int32) (u5_ : Option Value), w4.toInt = w32 ((vw h 16 3) - 1) → Pt n X zM35 8 [some (.ref 16), some (.int x1), some (.int x2), some (.int x3), some (.int w4), u5_] [] h (qI P))) : Pt (n + 1) X zM35 0 [some (.ref 16), some (.int x1), some (.int x2), some (.int x3), none, none] [] h (qI P) := by
  refine pt_1 (fun n d => r_aloadn gx35_0 rfl) ?_
  refine pt_d (pt_getI (B := 3) gx35_1 S (fun v1 h1 => ?_))
  refine pt_d (pt_iconst gx35_4 (fun v2 h2 => ?_))
  refine pt_d (pt_isub gx35_5 h1 h2 (fun v3 h3 => ?_))
  refine pt_d (pt_1 (fun n d => r_istore (L' := [some (.ref 16), some (.int x1), some (.int x2), some (.int x3), some (.int v3), none]) gx35_6 rfl rfl) ?_)
  exact H v3 _ h3
theorem d35_8 {n : Nat} {X : aX} {h : aH} {P : Int → aH → Prop} {x1 x2 x3 x4 : Int32} {a1 a2 a3 a4 : Int} {u5 : Option Value} (S : wS h) (z1 : x1.toInt = a1) (z2 : x2.toInt = a2) (z3 : x3.toInt = a3) (z4 : x4.toInt = a4) (H : ((a4 < 0 → P 0 h) ∧ (0 ≤ a4 → (0 ≤ a4 → a4 < 200 → (0 ≤ a1 → a1 < 300 → ((vw h 27 a4 ≠ vw h 17 a1 → (∀ (w4 : Int32) (u5_ : Option Value), w4.toInt = w32 (a4 + (-1)) → Pt n X zM35 8 [some (.ref 16), some (.int x1), some (.int x2), some (.int x3), some (.int w4), u5_] [] h (qI P))) ∧ (vw h 27 a4 = vw h 17 a1 → ((vw h 28 a4 ≠ vw h 18 a1 → (∀ (w4 : Int32) (u5_ : Option Value), w4.toInt = w32 (a4 + (-1)) → Pt n X zM35 8 [some (.ref 16), some (.int x1), some (.int x2), some (.int x3), some (.int w4), u5_] [] h (qI P))) ∧ (vw h 28 a4 = vw h 18 a1 → ((vw h 29 a4 ≠ a2 → (∀ (w4 : Int32) (u5_ : Option Value), w4.toInt = w32 (a4 + (-1)) → Pt n X zM35 8 [some (.ref 16), some (.int x1), some (.int x2), some (.int x3), some (.int w4), u5_] [] h (qI P))) ∧ (vw h 29 a4 = a2 → ((a3 < vw h 31 a4 → (∀ (w4 : Int32) (u5_ : Option Value), w4.toInt = w32 (a4 + (-1)) → Pt n X zM35 8 [some (.ref 16), some (.int x1), some (.int x2), some (.int x3), some (.int w4), u5_] [] h (qI P))) ∧ (vw h 31 a4 ≤ a3 → P (vw h 30 a4) h))))))))))))) : Pt (n + 1) X zM35 8 [some (.ref 16), some (.int x1), some (.int x2), some (.int x3), some (.int x4), u5] [] h (qI P) := by
  refine pt_1 (fun n d => r_iload gx35_8 rfl) ?_
  refine pt_d (pt_if_lt gx35_10 z4 (fun e1 => ?_) (fun e1 => ?_))
  · have H := H.1 e1
    refine pt_d (pt_iconst gx35_93 (fun v2 h2 => ?_))
    exact pt_d (pt_iret gx35_94 ⟨_, rfl, by rw [h2]; exact H⟩)
  · have H := H.2 e1
    refine pt_d (pt_1 (fun n d => r_aloadn gx35_13 rfl) ?_)
    refine pt_d (pt_getR gx35_14 S tr_16_14 ?_)
    refine pt_d (pt_1 (fun n d => r_iload gx35_17 rfl) ?_)
    refine pt_d (pt_iald (N' := 200) gx35_19 S tl_27 z4 (fun v4 p4 q4 h4 => ?_))
    have H := H p4 q4
    refine pt_d (pt_1 (fun n d => r_aloadn gx35_20 rfl) ?_)
    refine pt_d (pt_getR gx35_21 S tr_16_4 ?_)
    refine pt_d (pt_1 (fun n d => r_iloadn gx35_24 rfl) ?_)
    refine pt_d (pt_iald (N' := 300) gx35_25 S tl_17 z1 (fun v6 p6 q6 h6 => ?_))
    have H := H p6 q6
    refine pt_d (pt_icmp_ne gx35_26 h4 h6 (fun e7 => ?_) (fun e7 => ?_))
    · have H := H.1 e7
      refine pt_d (pt_iconst gx35_49 (fun v8 h8 => ?_))
      refine pt_d (pt_1 (fun n d => r_istore (L' := [some (.ref 16), some (.int x1), some (.int x2), some (.int x3), some (.int x4), some (.int v8)]) gx35_50 rfl rfl) ?_)
      refine pt_d (pt_1 (fun n d => r_iload gx35_52 rfl) ?_)
      refine pt_d (pt_if_eq gx35_54 h8 (fun e9 => ?_) (fun e9 => absurd e9 (by decide)))
      refine pt_d (pt_iinc (c := (-1)) gx35_87 rfl z4 (fun v10 h10 => ?_))
      show Pt _ _ _ _ [some (.ref 16), some (.int x1), some (.int x2), some (.int x3), some (.int v10), some (.int v8)] [] _ _
      refine pt_d (pt_1 (fun n d => r_goto gx35_90) ?_)
      exact H v10 _ h10
    · have H := H.2 e7
      refine pt_d (pt_1 (fun n d => r_aloadn gx35_29 rfl) ?_)
      refine pt_d (pt_getR gx35_30 S tr_16_15 ?_)
      refine pt_d (pt_1 (fun n d => r_iload gx35_33 rfl) ?_)
      refine pt_d (pt_iald (N' := 200) gx35_35 S tl_28 z4 (fun v12 p12 q12 h12 => ?_))
      refine pt_d (pt_1 (fun n d => r_aloadn gx35_36 rfl) ?_)
      refine pt_d (pt_getR gx35_37 S tr_16_5 ?_)
      refine pt_d (pt_1 (fun n d => r_iloadn gx35_40 rfl) ?_)
      refine pt_d (pt_iald (N' := 300) gx35_41 S tl_18 z1 (fun v14 p14 q14 h14 => ?_))
      refine pt_d (pt_icmp_ne gx35_42 h12 h14 (fun e15 => ?_) (fun e15 => ?_))
      · have H := H.1 e15
        refine pt_d (pt_iconst gx35_49 (fun v16 h16 => ?_))
        refine pt_d (pt_1 (fun n d => r_istore (L' := [some (.ref 16), some (.int x1), some (.int x2), some (.int x3), some (.int x4), some (.int v16)]) gx35_50 rfl rfl) ?_)
        refine pt_d (pt_1 (fun n d => r_iload gx35_52 rfl) ?_)
        refine pt_d (pt_if_eq gx35_54 h16 (fun e17 => ?_) (fun e17 => absurd e17 (by decide)))
        refine pt_d (pt_iinc (c := (-1)) gx35_87 rfl z4 (fun v18 h18 => ?_))
        show Pt _ _ _ _ [some (.ref 16), some (.int x1), some (.int x2), some (.int x3), some (.int v18), some (.int v16)] [] _ _
        refine pt_d (pt_1 (fun n d => r_goto gx35_90) ?_)
        exact H v18 _ h18
      · have H := H.2 e15
        refine pt_d (pt_iconst gx35_45 (fun v19 h19 => ?_))
        refine pt_d (pt_1 (fun n d => r_goto gx35_46) ?_)
        refine pt_d (pt_1 (fun n d => r_istore (L' := [some (.ref 16), some (.int x1), some (.int x2), some (.int x3), some (.int x4), some (.int v19)]) gx35_50 rfl rfl) ?_)
        refine pt_d (pt_1 (fun n d => r_iload gx35_52 rfl) ?_)
        refine pt_d (pt_if_eq gx35_54 h19 (fun e20 => absurd e20 (by decide)) (fun e20 => ?_))
        refine pt_d (pt_1 (fun n d => r_aloadn gx35_57 rfl) ?_)
        refine pt_d (pt_getR gx35_58 S tr_16_16 ?_)
        refine pt_d (pt_1 (fun n d => r_iload gx35_61 rfl) ?_)
        refine pt_d (pt_iald (N' := 200) gx35_63 S tl_29 z4 (fun v22 p22 q22 h22 => ?_))
        refine pt_d (pt_1 (fun n d => r_iloadn gx35_64 rfl) ?_)
        refine pt_d (pt_icmp_ne gx35_65 h22 z2 (fun e23 => ?_) (fun e23 => ?_))
        · have H := H.1 e23
          refine pt_d (pt_iinc (c := (-1)) gx35_87 rfl z4 (fun v24 h24 => ?_))
          show Pt _ _ _ _ [some (.ref 16), some (.int x1), some (.int x2), some (.int x3), some (.int v24), some (.int v19)] [] _ _
          refine pt_d (pt_1 (fun n d => r_goto gx35_90) ?_)
          exact H v24 _ h24
        · have H := H.2 e23
          refine pt_d (pt_1 (fun n d => r_aloadn gx35_68 rfl) ?_)
          refine pt_d (pt_getR gx35_69 S tr_16_18 ?_)
          refine pt_d (pt_1 (fun n d => r_iload gx35_72 rfl) ?_)
          refine pt_d (pt_iald (N' := 200) gx35_74 S tl_31 z4 (fun v26 p26 q26 h26 => ?_))
          refine pt_d (pt_1 (fun n d => r_iloadn gx35_75 rfl) ?_)
          refine pt_d (pt_icmp_gt gx35_76 h26 z3 (fun e27 => ?_) (fun e27 => ?_))
          · have H := H.1 e27
            refine pt_d (pt_iinc (c := (-1)) gx35_87 rfl z4 (fun v28 h28 => ?_))
            show Pt _ _ _ _ [some (.ref 16), some (.int x1), some (.int x2), some (.int x3), some (.int v28), some (.int v19)] [] _ _
            refine pt_d (pt_1 (fun n d => r_goto gx35_90) ?_)
            exact H v28 _ h28
          · have H := H.2 e27
            refine pt_d (pt_1 (fun n d => r_aloadn gx35_79 rfl) ?_)
            refine pt_d (pt_getR gx35_80 S tr_16_17 ?_)
            refine pt_d (pt_1 (fun n d => r_iload gx35_83 rfl) ?_)
            refine pt_d (pt_iald (N' := 200) gx35_85 S tl_30 z4 (fun v30 p30 q30 h30 => ?_))
            exact pt_d (pt_iret gx35_86 ⟨_, rfl, by rw [h30]; exact H⟩)
theorem d34_0 {n : Nat} {X : aX} {h : aH} {P : Int → aH → Prop} {x1 x2 x3 x4 : Int32} {a1 a2 a3 a4 : Int} (S : wS h) (z1 : x1.toInt = a1) (z2 : x2.toInt = a2) (z3 : x3.toInt = a3) (z4 : x4.toInt = a4) (H : ((200 ≤ vw h 16 3 → P (vw h 16 3) h) ∧ (vw h 16 3 < 200 → (0 ≤ vw h 16 3 → vw h 16 3 < 200 → ∀ h_25 : aH, wS h_25 → vw h_25 = up (up (up (up (up (up (vw h) 27 (vw h 16 3) a1) 28 (vw h 16 3) a2) 29 (vw h 16 3) a3) 30 (vw h 16 3) a4) 31 (vw h 16 3) (vw h 1 0)) 16 3 (w32 ((vw h 16 3) + 1)) → P (w32 ((vw h 16 3) + 1)) h_25)))) : Pt (n + 1) X zM34 0 [some (.ref 16), some (.int x1), some (.int x2), some (.int x3), some (.int x4)] [] h (qI P) := by
  refine pt_1 (fun n d => r_aloadn gx34_0 rfl) ?_
  refine pt_d (pt_getI (B := 3) gx34_1 S (fun v1 h1 => ?_))
  refine pt_d (pt_sipush gx34_4 (fun v2 h2 => ?_))
  refine pt_d (pt_icmp_ge gx34_7 h1 h2 (fun e3 => ?_) (fun e3 => ?_))
  · have H := H.1 e3
    refine pt_d (pt_1 (fun n d => r_aloadn gx34_77 rfl) ?_)
    refine pt_d (pt_getI (B := 3) gx34_78 S (fun v4 h4 => ?_))
    exact pt_d (pt_iret gx34_81 ⟨_, rfl, by rw [h4]; exact H⟩)
  · have H := H.2 e3
    refine pt_d (pt_1 (fun n d => r_aloadn gx34_10 rfl) ?_)
    refine pt_d (pt_getR gx34_11 S tr_16_14 ?_)
    refine pt_d (pt_1 (fun n d => r_aloadn gx34_14 rfl) ?_)
    refine pt_d (pt_getI (B := 3) gx34_15 S (fun v6 h6 => ?_))
    refine pt_d (pt_1 (fun n d => r_iloadn gx34_18 rfl) ?_)
    refine pt_d (pt_iast (N' := 200) gx34_19 S tl_27 h6 z1 (fun h_7 S7 p7 q7 e7 => ?_))
    have H := H p7 q7
    refine pt_d (pt_1 (fun n d => r_aloadn gx34_20 rfl) ?_)
    refine pt_d (pt_getR gx34_21 S7 tr_16_15 ?_)
    refine pt_d (pt_1 (fun n d => r_aloadn gx34_24 rfl) ?_)
    refine pt_d (pt_getI (B := 3) gx34_25 S7 (fun v9 h9 => ?_))
    have h9 : v9.toInt = vw h 16 3 := by rw [h9, e7, up_c (by decide)]
    refine pt_d (pt_1 (fun n d => r_iloadn gx34_28 rfl) ?_)
    refine pt_d (pt_iast (N' := 200) gx34_29 S7 tl_28 h9 z2 (fun h_10 S10 p10 q10 e10 => ?_))
    refine pt_d (pt_1 (fun n d => r_aloadn gx34_30 rfl) ?_)
    refine pt_d (pt_getR gx34_31 S10 tr_16_16 ?_)
    refine pt_d (pt_1 (fun n d => r_aloadn gx34_34 rfl) ?_)
    refine pt_d (pt_getI (B := 3) gx34_35 S10 (fun v12 h12 => ?_))
    have h12 : v12.toInt = vw h 16 3 := by rw [h12, e10, up_c (by decide), e7, up_c (by decide)]
    refine pt_d (pt_1 (fun n d => r_iloadn gx34_38 rfl) ?_)
    refine pt_d (pt_iast (N' := 200) gx34_39 S10 tl_29 h12 z3 (fun h_13 S13 p13 q13 e13 => ?_))
    refine pt_d (pt_1 (fun n d => r_aloadn gx34_40 rfl) ?_)
    refine pt_d (pt_getR gx34_41 S13 tr_16_17 ?_)
    refine pt_d (pt_1 (fun n d => r_aloadn gx34_44 rfl) ?_)
    refine pt_d (pt_getI (B := 3) gx34_45 S13 (fun v15 h15 => ?_))
    have h15 : v15.toInt = vw h 16 3 := by rw [h15, e13, up_c (by decide), e10, up_c (by decide), e7, up_c (by decide)]
    refine pt_d (pt_1 (fun n d => r_iload gx34_48 rfl) ?_)
    refine pt_d (pt_iast (N' := 200) gx34_50 S13 tl_30 h15 z4 (fun h_16 S16 p16 q16 e16 => ?_))
    refine pt_d (pt_1 (fun n d => r_aloadn gx34_51 rfl) ?_)
    refine pt_d (pt_getR gx34_52 S16 tr_16_18 ?_)
    refine pt_d (pt_1 (fun n d => r_aloadn gx34_55 rfl) ?_)
    refine pt_d (pt_getI (B := 3) gx34_56 S16 (fun v18 h18 => ?_))
    have h18 : v18.toInt = vw h 16 3 := by rw [h18, e16, up_c (by decide), e13, up_c (by decide), e10, up_c (by decide), e7, up_c (by decide)]
    refine pt_d (pt_1 (fun n d => r_aloadn gx34_59 rfl) ?_)
    refine pt_d (pt_getR gx34_60 S16 tr_16_0 ?_)
    refine pt_d (pt_getI (B := 0) gx34_63 S16 (fun v20 h20 => ?_))
    have h20 : v20.toInt = vw h 1 0 := by rw [h20, e16, up_c (by decide), e13, up_c (by decide), e10, up_c (by decide), e7, up_c (by decide)]
    refine pt_d (pt_iast (N' := 200) gx34_66 S16 tl_31 h18 h20 (fun h_21 S21 p21 q21 e21 => ?_))
    refine pt_d (pt_1 (fun n d => r_aloadn gx34_67 rfl) ?_)
    refine pt_d (pt_1 (fun n d => r_dup gx34_68 rfl) ?_)
    refine pt_d (pt_getI (B := 3) gx34_69 S21 (fun v22 h22 => ?_))
    have h22 : v22.toInt = vw h 16 3 := by rw [h22, e21, up_c (by decide), e16, up_c (by decide), e13, up_c (by decide), e10, up_c (by decide), e7, up_c (by decide)]
    refine pt_d (pt_iconst gx34_72 (fun v23 h23 => ?_))
    refine pt_d (pt_iadd gx34_73 h22 h23 (fun v24 h24 => ?_))
    refine pt_d (pt_putI (B := 3) gx34_74 S21 h24 (fun h_25 S25 e25 => ?_))
    refine pt_d (pt_1 (fun n d => r_aloadn gx34_77 rfl) ?_)
    refine pt_d (pt_getI (B := 3) gx34_78 S25 (fun v26 h26 => ?_))
    have h26 : v26.toInt = w32 ((vw h 16 3) + 1) := by rw [h26, e25, up_s]
    have H := H h_25 S25 (by rw [e25, e21, e16, e13, e10, e7])
    exact pt_d (pt_iret gx34_81 ⟨_, rfl, by rw [h26]; exact H⟩)
def cnt (V : vS) (j y k : Int) : Prop := wsM V (V 21 j) y k ∧ (V 5 (V 18 (V 21 j)) = -1 ∨ k < V 5 (V 18 (V 21 j))) ∧ (V 16 1 ≤ j + 1 ∨ bhd V (V 21 (j + 1)) (V 17 (V 21 j)) (V 18 (V 21 j)) ∨ ¬ wsM V (V 21 (j + 1)) y k)
theorem c_29 {n : Nat} {X : aX} {h : aH} {x1 x2 x3 : Int32} {a1 a2 a3 : Int} (S : wS h) (z1 : x1.toInt = a1) (z2 : x2.toInt = a2) (z3 : x3.toInt = a3) : Pt n X zM29 0 [some (.ref 16), some (.int x1), some (.int x2), some (.int x3), none, none, none] [] h (qI (fun y h' => h' = h ∧ y = bI (cnt (vw h) a1 a2 a3))) := by
  refine pt_d (d29_0 S z1 z2 z3 (fun p1 p2 _ _ _ _ => ?_))
  rw [w32_id (z := a1 + 1) (by omega) (by omega)]
  have tail : ∀ (w : wsM (vw h) (vw h 21 a1) a2 a3) (g : vw h 5 (vw h 18 (vw h 21 a1)) = -1 ∨ a3 < vw h 5 (vw h 18 (vw h 21 a1))), (a1 + 1 < vw h 16 1 → (0 ≤ a1 + 1 → a1 + 1 < 300 → (((bhd (vw h) (vw h 21 (a1 + 1)) (vw h 17 (vw h 21 a1)) (vw h 18 (vw h 21 a1))) → h = h ∧ 1 = bI (cnt (vw h) a1 a2 a3)) ∧ (¬ (bhd (vw h) (vw h 21 (a1 + 1)) (vw h 17 (vw h 21 a1)) (vw h 18 (vw h 21 a1))) → (((wsM (vw h) (vw h 21 (a1 + 1)) a2 a3) → h = h ∧ 0 = bI (cnt (vw h) a1 a2 a3)) ∧ (¬ (wsM (vw h) (vw h 21 (a1 + 1)) a2 a3) → h = h ∧ 1 = bI (cnt (vw h) a1 a2 a3))))))) ∧ (vw h 16 1 ≤ a1 + 1 → h = h ∧ 1 = bI (cnt (vw h) a1 a2 a3)) := by
    intro w g
    refine ⟨fun lt _ _ => ⟨fun e => ⟨rfl, (bI_t ⟨w, g, Or.inr (Or.inl e)⟩).symm⟩, fun e => ⟨fun e2 => ⟨rfl, (bI_f (fun z => ?_)).symm⟩, fun e2 => ⟨rfl, (bI_t ⟨w, g, Or.inr (Or.inr e2)⟩).symm⟩⟩⟩, fun ge => ⟨rfl, (bI_t ⟨w, g, Or.inl ge⟩).symm⟩⟩
    rcases z.2.2 with z | z | z
    · omega
    · exact e z
    · exact z e2
  refine ⟨fun e => ⟨rfl, (bI_f (fun z => e z.1)).symm⟩, fun e => ⟨fun e2 => tail e (Or.inl e2), fun e2 => ⟨fun e3 => tail e (Or.inr e3), fun e3 => ⟨rfl, (bI_f (fun z => ?_)).symm⟩⟩⟩⟩
  rcases z.2.1 with z | z
  · exact e2 z
  · omega
-- the squares of a row that are out
def oHit (V : vS) (y yr k : Int) (i : Int) : Prop := V 26 i ≤ k ∧ V 25 i ≤ w32 (yr * 365) ∧ iRem (V 23 i) 100 ≤ y ∧ y ≤ iRem (V 24 i) 100
noncomputable def oRw (V : vS) (y yr k : Int) : Nat → Int
  | 0 => 0
  | i + 1 => @ite Int (oHit V y yr k (i : Nat)) (Classical.propDecidable _) (bOr (oRw V y yr k i) (w32 (bShl 2 (iDiv (V 24 (i : Nat)) 100) - bShl 1 (iDiv (V 23 (i : Nat)) 100)))) (oRw V y yr k i)
theorem oRw_t {V : vS} {y yr k : Int} {i : Nat} (h : oHit V y yr k (i : Nat)) : oRw V y yr k (i + 1) = bOr (oRw V y yr k i) (w32 (bShl 2 (iDiv (V 24 (i : Nat)) 100) - bShl 1 (iDiv (V 23 (i : Nat)) 100))) := @if_pos _ (Classical.propDecidable _) h _ _ _
theorem oRw_f {V : vS} {y yr k : Int} {i : Nat} (h : ¬ oHit V y yr k (i : Nat)) : oRw V y yr k (i + 1) = oRw V y yr k i := @if_neg _ (Classical.propDecidable _) h _ _ _
theorem l_33 {X : aX} {h : aH} {y yr k : Int} (S : wS h) (hb : 0 ≤ vw h 16 2 ∧ vw h 16 2 ≤ 40) : ∀ (n : Nat) (x1 x2 x3 x4 x5 : Int32) (u6 : Option Value) (i : Nat), x1.toInt = y → x2.toInt = yr → x3.toInt = k → x4.toInt = oRw (vw h) y yr k i → x5.toInt = (i : Int) → (i : Int) ≤ vw h 16 2 → Pt n X zM33 6 [some (.ref 16), some (.int x1), some (.int x2), some (.int x3), some (.int x4), some (.int x5), u6] [] h (qI (fun r h' => h' = h ∧ r = oRw (vw h) y yr k (vw h 16 2).toNat)) := by
  intro n
  induction n with
  | zero => exact fun _ _ _ _ _ _ _ _ _ _ _ _ _ => pt_z
  | succ n ih =>
    intro x1 x2 x3 x4 x5 u6 i h1 h2 h3 h4 h5 hi
    have next : ∀ (w5 : Int32) (u6 : Option Value), (i : Int) < vw h 16 2 → ¬ oHit (vw h) y yr k (i : Nat) → w5.toInt = w32 ((i : Int) + 1) → Pt n X zM33 6 [some (.ref 16), some (.int x1), some (.int x2), some (.int x3), some (.int x4), some (.int w5), u6] [] h (qI (fun r h' => h' = h ∧ r = oRw (vw h) y yr k (vw h 16 2).toNat)) := by
      intro w5 u6 lt no g5
      replace g5 := w_1 g5 (by omega) (by omega)
      exact ih x1 x2 x3 x4 w5 u6 (i + 1) h1 h2 h3 (by rw [oRw_f no]; exact h4) (by omega) (by omega)
    refine d33_6 S h1 h2 h3 h4 h5 ⟨fun e => ⟨rfl, ?_⟩, fun e _ _ => ⟨fun e2 w5 u6 g5 => next w5 u6 e (fun z => absurd z.1 (by omega)) g5, fun e2 => ⟨fun e3 w5 u6 g5 => next w5 u6 e (fun z => absurd z.2.1 (by omega)) g5, fun e3 => ⟨fun e4 w5 u6 g5 => next w5 u6 e (fun z => absurd z.2.2.1 (by omega)) g5, fun e4 => ⟨fun e5 w5 u6 g5 => next w5 u6 e (fun z => absurd z.2.2.2 (by omega)) g5, fun e5 w4 w5 u6 g4 g5 => ?_⟩⟩⟩⟩⟩
    · congr 1
      omega
    · replace g5 := w_1 g5 (by omega) (by omega)
      exact ih x1 x2 x3 w4 w5 u6 (i + 1) h1 h2 h3 (by rw [oRw_t ⟨e2, e3, e4, e5⟩]; exact g4) (by omega) (by omega)
theorem c_33 {n : Nat} {X : aX} {h : aH} {x1 x2 x3 : Int32} {a1 a2 a3 : Int} (S : wS h) (z1 : x1.toInt = a1) (z2 : x2.toInt = a2) (z3 : x3.toInt = a3) (hb : 0 ≤ vw h 16 2 ∧ vw h 16 2 ≤ 40) : Pt n X zM33 0 [some (.ref 16), some (.int x1), some (.int x2), some (.int x3), none, none, none] [] h (qI (fun y h' => h' = h ∧ y = oRw (vw h) a1 a2 a3 (vw h 16 2).toNat)) :=
  pt_d (d33_0 S z1 z2 z3 (fun w4 w5 u6 g4 g5 => l_33 S hb n x1 x2 x3 w4 w5 u6 0 z1 z2 z3 g4 g5 (by omega)))
-- what a control told as missing
def msg (V : vS) (c yr k : Int) : Nat → Int
  | 0 => 0
  | i + 1 => if V 27 (i : Nat) = V 17 c ∧ V 28 (i : Nat) = V 18 c ∧ V 29 (i : Nat) = yr ∧ V 31 (i : Nat) ≤ k then V 30 (i : Nat) else msg V c yr k i
theorem l_35 {X : aX} {h : aH} {c yr k : Int} (S : wS h) : ∀ (n : Nat) (x1 x2 x3 x4 : Int32) (u5 : Option Value) (i : Nat), x1.toInt = c → x2.toInt = yr → x3.toInt = k → x4.toInt = (i : Int) - 1 → i ≤ 200 → Pt n X zM35 8 [some (.ref 16), some (.int x1), some (.int x2), some (.int x3), some (.int x4), u5] [] h (qI (fun r h' => h' = h ∧ r = msg (vw h) c yr k i)) := by
  intro n
  induction n with
  | zero => exact fun _ _ _ _ _ _ _ _ _ _ _ => pt_z
  | succ n ih =>
    intro x1 x2 x3 x4 u5 i h1 h2 h3 h4 hi
    obtain rfl | ⟨j, rfl⟩ : i = 0 ∨ ∃ j, i = j + 1 := by
      cases i with
      | zero => exact Or.inl rfl
      | succ j => exact Or.inr ⟨j, rfl⟩
    · exact d35_8 S h1 h2 h3 h4 ⟨fun _ => ⟨rfl, rfl⟩, fun e => by omega⟩
    · have h4 : x4.toInt = (j : Int) := by omega
      have next : ∀ (w4 : Int32) (u5 : Option Value), ¬ (vw h 27 (j : Nat) = vw h 17 c ∧ vw h 28 (j : Nat) = vw h 18 c ∧ vw h 29 (j : Nat) = yr ∧ vw h 31 (j : Nat) ≤ k) → w4.toInt = w32 ((j : Int) + (-1)) → Pt n X zM35 8 [some (.ref 16), some (.int x1), some (.int x2), some (.int x3), some (.int w4), u5] [] h (qI (fun r h' => h' = h ∧ r = msg (vw h) c yr k (j + 1))) := by
        intro w4 u5 no g4
        replace g4 := w_1 g4 (by omega) (by omega)
        refine pt_q (ih x1 x2 x3 w4 u5 j h1 h2 h3 (by omega) (by omega)) ?_
        rintro v h' ⟨x, ex, p1, p2⟩
        exact ⟨x, ex, p1, p2.trans (if_neg no).symm⟩
      refine d35_8 S h1 h2 h3 h4 ⟨fun e => by omega, fun _ _ _ _ _ => ⟨fun e w4 u5 g4 => next w4 u5 (fun z => e z.1) g4, fun e => ⟨fun e2 w4 u5 g4 => next w4 u5 (fun z => e2 z.2.1) g4, fun e2 => ⟨fun e3 w4 u5 g4 => next w4 u5 (fun z => e3 z.2.2.1) g4, fun e3 => ⟨fun e4 w4 u5 g4 => next w4 u5 (fun z => absurd z.2.2.2 (by omega)) g4, fun e4 => ⟨rfl, (if_pos ⟨e, e2, e3, e4⟩).symm⟩⟩⟩⟩⟩⟩
theorem c_35 {n : Nat} {X : aX} {h : aH} {x1 x2 x3 : Int32} {a1 a2 a3 : Int} (S : wS h) (z1 : x1.toInt = a1) (z2 : x2.toInt = a2) (z3 : x3.toInt = a3) (hb : 0 ≤ vw h 16 3 ∧ vw h 16 3 ≤ 200) : Pt n X zM35 0 [some (.ref 16), some (.int x1), some (.int x2), some (.int x3), none, none] [] h (qI (fun y h' => h' = h ∧ y = msg (vw h) a1 a2 a3 (vw h 16 3).toNat)) :=
  pt_d (d35_0 S z1 z2 z3 (fun w4 u5 g4 => l_35 S n x1 x2 x3 w4 u5 _ z1 z2 z3 (by rw [g4, w32_id (by omega) (by omega)]; omega) (by omega)))


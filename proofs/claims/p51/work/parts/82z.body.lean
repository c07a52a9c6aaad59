-- ===== bodies =====
theorem tl_7 : tkL 7 0 150 = true := by decide +kernel
theorem tl_4 : tkL 4 0 150 = true := by decide +kernel
theorem tl_5 : tkL 5 0 150 = true := by decide +kernel
theorem tl_75 : tkL 75 0 150 = true := by decide +kernel
theorem tl_76 : tkL 76 0 150 = true := by decide +kernel
theorem tl_77 : tkL 77 0 150 = true := by decide +kernel
theorem tl_74 : tkL 74 0 150 = true := by decide +kernel
theorem tl_6 : tkL 6 0 150 = true := by decide +kernel
theorem tl_79 : tkL 79 0 150 = true := by decide +kernel
theorem tl_78 : tkL 78 0 150 = true := by decide +kernel
theorem tl_80 : tkL 80 0 3600 = true := by decide +kernel
theorem tr_1_12 : tkR 1 12 7 = true := by decide +kernel
theorem tr_1_9 : tkR 1 9 4 = true := by decide +kernel
theorem tr_1_10 : tkR 1 10 5 = true := by decide +kernel
theorem tr_72_5 : tkR 72 5 75 = true := by decide +kernel
theorem tr_72_6 : tkR 72 6 76 = true := by decide +kernel
theorem tr_72_7 : tkR 72 7 77 = true := by decide +kernel
theorem tr_0_1 : tkR 0 1 13 = true := by decide +kernel
theorem tr_0_0 : tkR 0 0 1 = true := by decide +kernel
theorem tr_72_4 : tkR 72 4 74 = true := by decide +kernel
theorem tr_1_11 : tkR 1 11 6 = true := by decide +kernel
theorem tr_72_9 : tkR 72 9 79 = true := by decide +kernel
theorem tr_72_8 : tkR 72 8 78 = true := by decide +kernel
theorem tr_72_10 : tkR 72 10 80 = true := by decide +kernel
theorem gx79_0 : aF 0 zM79.2.2.2.2.2.2.2 = some (0, (.aload_n 0), 1, 0, 0) := by decide +kernel
theorem gx79_1 : aF 1 zM79.2.2.2.2.2.2.2 = some (1, (.getfield 52), 3, 6, 1) := by decide +kernel
theorem gx79_4 : aF 4 zM79.2.2.2.2.2.2.2 = some (4, (.istore 4), 2, 0, 0) := by decide +kernel
theorem gx79_6 : aF 6 zM79.2.2.2.2.2.2.2 = some (6, (.aload_n 0), 1, 0, 0) := by decide +kernel
theorem gx79_7 : aF 7 zM79.2.2.2.2.2.2.2 = some (7, (.invokevirtual 66), 3, 73, 0) := by decide +kernel
theorem gx79_10 : aF 10 zM79.2.2.2.2.2.2.2 = some (10, (.ifCond .eq 6), 3, 16, 0) := by decide +kernel
theorem gx79_16 : aF 16 zM79.2.2.2.2.2.2.2 = some (16, (.aload_n 0), 1, 0, 0) := by decide +kernel
theorem gx79_17 : aF 17 zM79.2.2.2.2.2.2.2 = some (17, (.getfield 9), 3, 6, 7) := by decide +kernel
theorem gx79_20 : aF 20 zM79.2.2.2.2.2.2.2 = some (20, (.iload 4), 2, 0, 0) := by decide +kernel
theorem gx79_22 : aF 22 zM79.2.2.2.2.2.2.2 = some (22, (.iload_n 1), 1, 0, 0) := by decide +kernel
theorem gx79_23 : aF 23 zM79.2.2.2.2.2.2.2 = some (23, .iastore, 1, 0, 0) := by decide +kernel
theorem gx79_24 : aF 24 zM79.2.2.2.2.2.2.2 = some (24, (.aload_n 0), 1, 0, 0) := by decide +kernel
theorem gx79_25 : aF 25 zM79.2.2.2.2.2.2.2 = some (25, (.getfield 15), 3, 6, 8) := by decide +kernel
theorem gx79_28 : aF 28 zM79.2.2.2.2.2.2.2 = some (28, (.iload 4), 2, 0, 0) := by decide +kernel
theorem gx79_30 : aF 30 zM79.2.2.2.2.2.2.2 = some (30, (.iload_n 2), 1, 0, 0) := by decide +kernel
theorem gx79_31 : aF 31 zM79.2.2.2.2.2.2.2 = some (31, .iastore, 1, 0, 0) := by decide +kernel
theorem gx79_32 : aF 32 zM79.2.2.2.2.2.2.2 = some (32, (.aload_n 0), 1, 0, 0) := by decide +kernel
theorem gx79_33 : aF 33 zM79.2.2.2.2.2.2.2 = some (33, (.getfield 27), 3, 6, 12) := by decide +kernel
theorem gx79_36 : aF 36 zM79.2.2.2.2.2.2.2 = some (36, (.iload 4), 2, 0, 0) := by decide +kernel
theorem gx79_38 : aF 38 zM79.2.2.2.2.2.2.2 = some (38, (.iload_n 3), 1, 0, 0) := by decide +kernel
theorem gx79_39 : aF 39 zM79.2.2.2.2.2.2.2 = some (39, .iastore, 1, 0, 0) := by decide +kernel
theorem gx79_40 : aF 40 zM79.2.2.2.2.2.2.2 = some (40, (.aload_n 0), 1, 0, 0) := by decide +kernel
theorem gx79_41 : aF 41 zM79.2.2.2.2.2.2.2 = some (41, (.getfield 18), 3, 6, 9) := by decide +kernel
theorem gx79_44 : aF 44 zM79.2.2.2.2.2.2.2 = some (44, (.iload 4), 2, 0, 0) := by decide +kernel
theorem gx79_46 : aF 46 zM79.2.2.2.2.2.2.2 = some (46, (.aload_n 0), 1, 0, 0) := by decide +kernel
theorem gx79_47 : aF 47 zM79.2.2.2.2.2.2.2 = some (47, (.getfield 70), 3, 6, 0) := by decide +kernel
theorem gx79_50 : aF 50 zM79.2.2.2.2.2.2.2 = some (50, .iastore, 1, 0, 0) := by decide +kernel
theorem gx79_51 : aF 51 zM79.2.2.2.2.2.2.2 = some (51, (.aload_n 0), 1, 0, 0) := by decide +kernel
theorem gx79_52 : aF 52 zM79.2.2.2.2.2.2.2 = some (52, (.getfield 21), 3, 6, 10) := by decide +kernel
theorem gx79_55 : aF 55 zM79.2.2.2.2.2.2.2 = some (55, (.iload 4), 2, 0, 0) := by decide +kernel
theorem gx79_57 : aF 57 zM79.2.2.2.2.2.2.2 = some (57, (.iconst (-1)), 1, 0, 0) := by decide +kernel
theorem gx79_58 : aF 58 zM79.2.2.2.2.2.2.2 = some (58, .iastore, 1, 0, 0) := by decide +kernel
theorem gx79_59 : aF 59 zM79.2.2.2.2.2.2.2 = some (59, (.aload_n 0), 1, 0, 0) := by decide +kernel
theorem gx79_60 : aF 60 zM79.2.2.2.2.2.2.2 = some (60, .dup, 1, 0, 0) := by decide +kernel
theorem gx79_61 : aF 61 zM79.2.2.2.2.2.2.2 = some (61, (.getfield 73), 3, 6, 2) := by decide +kernel
theorem gx79_64 : aF 64 zM79.2.2.2.2.2.2.2 = some (64, (.iload_n 1), 1, 0, 0) := by decide +kernel
theorem gx79_65 : aF 65 zM79.2.2.2.2.2.2.2 = some (65, (.invokestatic 60), 3, 71, 0) := by decide +kernel
theorem gx79_68 : aF 68 zM79.2.2.2.2.2.2.2 = some (68, (.ifCond .eq 7), 3, 75, 0) := by decide +kernel
theorem gx79_75 : aF 75 zM79.2.2.2.2.2.2.2 = some (75, (.iconst 0), 1, 0, 0) := by decide +kernel
theorem gx79_76 : aF 76 zM79.2.2.2.2.2.2.2 = some (76, .iadd, 1, 0, 0) := by decide +kernel
theorem gx79_77 : aF 77 zM79.2.2.2.2.2.2.2 = some (77, (.putfield 73), 3, 6, 2) := by decide +kernel
theorem gx79_80 : aF 80 zM79.2.2.2.2.2.2.2 = some (80, (.aload_n 0), 1, 0, 0) := by decide +kernel
theorem gx79_81 : aF 81 zM79.2.2.2.2.2.2.2 = some (81, .dup, 1, 0, 0) := by decide +kernel
theorem gx79_82 : aF 82 zM79.2.2.2.2.2.2.2 = some (82, (.getfield 76), 3, 6, 3) := by decide +kernel
theorem gx79_85 : aF 85 zM79.2.2.2.2.2.2.2 = some (85, (.iload_n 1), 1, 0, 0) := by decide +kernel
theorem gx79_86 : aF 86 zM79.2.2.2.2.2.2.2 = some (86, (.iconst 4), 1, 0, 0) := by decide +kernel
theorem gx79_87 : aF 87 zM79.2.2.2.2.2.2.2 = some (87, (.iconst 5), 1, 0, 0) := by decide +kernel
theorem gx79_88 : aF 88 zM79.2.2.2.2.2.2.2 = some (88, (.invokestatic 45), 3, 137, 0) := by decide +kernel
theorem gx79_91 : aF 91 zM79.2.2.2.2.2.2.2 = some (91, (.ifCond .eq 7), 3, 98, 0) := by decide +kernel
theorem gx79_98 : aF 98 zM79.2.2.2.2.2.2.2 = some (98, (.iconst 0), 1, 0, 0) := by decide +kernel
theorem gx79_99 : aF 99 zM79.2.2.2.2.2.2.2 = some (99, .iadd, 1, 0, 0) := by decide +kernel
theorem gx79_100 : aF 100 zM79.2.2.2.2.2.2.2 = some (100, (.putfield 76), 3, 6, 3) := by decide +kernel
theorem gx79_103 : aF 103 zM79.2.2.2.2.2.2.2 = some (103, (.aload_n 0), 1, 0, 0) := by decide +kernel
theorem gx79_104 : aF 104 zM79.2.2.2.2.2.2.2 = some (104, .dup, 1, 0, 0) := by decide +kernel
theorem gx79_105 : aF 105 zM79.2.2.2.2.2.2.2 = some (105, (.getfield 52), 3, 6, 1) := by decide +kernel
theorem gx79_108 : aF 108 zM79.2.2.2.2.2.2.2 = some (108, (.iconst 1), 1, 0, 0) := by decide +kernel
theorem gx79_109 : aF 109 zM79.2.2.2.2.2.2.2 = some (109, .iadd, 1, 0, 0) := by decide +kernel
theorem gx79_110 : aF 110 zM79.2.2.2.2.2.2.2 = some (110, (.putfield 52), 3, 6, 1) := by decide +kernel
theorem gx79_113 : aF 113 zM79.2.2.2.2.2.2.2 = some (113, (.iload 4), 2, 0, 0) := by decide +kernel
theorem gx79_115 : aF 115 zM79.2.2.2.2.2.2.2 = some (115, .ireturn, 1, 0, 0) := by decide +kernel
theorem gx79_94 : aF 94 zM79.2.2.2.2.2.2.2 = some (94, (.iconst 1), 1, 0, 0) := by decide +kernel
theorem gx79_95 : aF 95 zM79.2.2.2.2.2.2.2 = some (95, (.goto 4), 3, 99, 0) := by decide +kernel
theorem gx79_71 : aF 71 zM79.2.2.2.2.2.2.2 = some (71, (.iconst 1), 1, 0, 0) := by decide +kernel
theorem gx79_72 : aF 72 zM79.2.2.2.2.2.2.2 = some (72, (.goto 4), 3, 76, 0) := by decide +kernel
theorem gx79_13 : aF 13 zM79.2.2.2.2.2.2.2 = some (13, (.bipush (-3)), 2, 0, 0) := by decide +kernel
theorem gx79_15 : aF 15 zM79.2.2.2.2.2.2.2 = some (15, .ireturn, 1, 0, 0) := by decide +kernel
theorem gx204_0 : aF 0 zM204.2.2.2.2.2.2.2 = some (0, (.aload_n 0), 1, 0, 0) := by decide +kernel
theorem gx204_1 : aF 1 zM204.2.2.2.2.2.2.2 = some (1, (.getfield 7), 3, 12, 3) := by decide +kernel
theorem gx204_4 : aF 4 zM204.2.2.2.2.2.2.2 = some (4, (.aload_n 0), 1, 0, 0) := by decide +kernel
theorem gx204_5 : aF 5 zM204.2.2.2.2.2.2.2 = some (5, (.getfield 265), 3, 12, 2) := by decide +kernel
theorem gx204_8 : aF 8 zM204.2.2.2.2.2.2.2 = some (8, (.iload_n 1), 1, 0, 0) := by decide +kernel
theorem gx204_9 : aF 9 zM204.2.2.2.2.2.2.2 = some (9, .iastore, 1, 0, 0) := by decide +kernel
theorem gx204_10 : aF 10 zM204.2.2.2.2.2.2.2 = some (10, (.aload_n 0), 1, 0, 0) := by decide +kernel
theorem gx204_11 : aF 11 zM204.2.2.2.2.2.2.2 = some (11, (.getfield 16), 3, 12, 5) := by decide +kernel
theorem gx204_14 : aF 14 zM204.2.2.2.2.2.2.2 = some (14, (.aload_n 0), 1, 0, 0) := by decide +kernel
theorem gx204_15 : aF 15 zM204.2.2.2.2.2.2.2 = some (15, (.getfield 265), 3, 12, 2) := by decide +kernel
theorem gx204_18 : aF 18 zM204.2.2.2.2.2.2.2 = some (18, (.iconst (-1)), 1, 0, 0) := by decide +kernel
theorem gx204_19 : aF 19 zM204.2.2.2.2.2.2.2 = some (19, .iastore, 1, 0, 0) := by decide +kernel
theorem gx204_20 : aF 20 zM204.2.2.2.2.2.2.2 = some (20, (.aload_n 0), 1, 0, 0) := by decide +kernel
theorem gx204_21 : aF 21 zM204.2.2.2.2.2.2.2 = some (21, (.getfield 19), 3, 12, 6) := by decide +kernel
theorem gx204_24 : aF 24 zM204.2.2.2.2.2.2.2 = some (24, (.aload_n 0), 1, 0, 0) := by decide +kernel
theorem gx204_25 : aF 25 zM204.2.2.2.2.2.2.2 = some (25, (.getfield 265), 3, 12, 2) := by decide +kernel
theorem gx204_28 : aF 28 zM204.2.2.2.2.2.2.2 = some (28, (.aload_n 0), 1, 0, 0) := by decide +kernel
theorem gx204_29 : aF 29 zM204.2.2.2.2.2.2.2 = some (29, (.getfield 262), 3, 12, 1) := by decide +kernel
theorem gx204_32 : aF 32 zM204.2.2.2.2.2.2.2 = some (32, .iastore, 1, 0, 0) := by decide +kernel
theorem gx204_33 : aF 33 zM204.2.2.2.2.2.2.2 = some (33, (.aload_n 0), 1, 0, 0) := by decide +kernel
theorem gx204_34 : aF 34 zM204.2.2.2.2.2.2.2 = some (34, (.getfield 22), 3, 12, 7) := by decide +kernel
theorem gx204_37 : aF 37 zM204.2.2.2.2.2.2.2 = some (37, (.aload_n 0), 1, 0, 0) := by decide +kernel
theorem gx204_38 : aF 38 zM204.2.2.2.2.2.2.2 = some (38, (.getfield 265), 3, 12, 2) := by decide +kernel
theorem gx204_41 : aF 41 zM204.2.2.2.2.2.2.2 = some (41, (.iconst (-1)), 1, 0, 0) := by decide +kernel
theorem gx204_42 : aF 42 zM204.2.2.2.2.2.2.2 = some (42, .iastore, 1, 0, 0) := by decide +kernel
theorem gx204_43 : aF 43 zM204.2.2.2.2.2.2.2 = some (43, (.aload_n 0), 1, 0, 0) := by decide +kernel
theorem gx204_44 : aF 44 zM204.2.2.2.2.2.2.2 = some (44, .dup, 1, 0, 0) := by decide +kernel
theorem gx204_45 : aF 45 zM204.2.2.2.2.2.2.2 = some (45, (.getfield 265), 3, 12, 2) := by decide +kernel
theorem gx204_48 : aF 48 zM204.2.2.2.2.2.2.2 = some (48, (.iconst 1), 1, 0, 0) := by decide +kernel
theorem gx204_49 : aF 49 zM204.2.2.2.2.2.2.2 = some (49, .iadd, 1, 0, 0) := by decide +kernel
theorem gx204_50 : aF 50 zM204.2.2.2.2.2.2.2 = some (50, (.putfield 265), 3, 12, 2) := by decide +kernel
theorem gx204_53 : aF 53 zM204.2.2.2.2.2.2.2 = some (53, (.aload_n 0), 1, 0, 0) := by decide +kernel
theorem gx204_54 : aF 54 zM204.2.2.2.2.2.2.2 = some (54, (.getfield 265), 3, 12, 2) := by decide +kernel
theorem gx204_57 : aF 57 zM204.2.2.2.2.2.2.2 = some (57, (.iconst 1), 1, 0, 0) := by decide +kernel
theorem gx204_58 : aF 58 zM204.2.2.2.2.2.2.2 = some (58, .isub, 1, 0, 0) := by decide +kernel
theorem gx204_59 : aF 59 zM204.2.2.2.2.2.2.2 = some (59, .ireturn, 1, 0, 0) := by decide +kernel
theorem gx90_0 : aF 0 zM90.2.2.2.2.2.2.2 = some (0, (.iconst 0), 1, 0, 0) := by decide +kernel
theorem gx90_1 : aF 1 zM90.2.2.2.2.2.2.2 = some (1, (.istore_n 1), 1, 0, 0) := by decide +kernel
theorem gx90_2 : aF 2 zM90.2.2.2.2.2.2.2 = some (2, (.iconst 0), 1, 0, 0) := by decide +kernel
theorem gx90_3 : aF 3 zM90.2.2.2.2.2.2.2 = some (3, (.istore_n 2), 1, 0, 0) := by decide +kernel
theorem gx90_4 : aF 4 zM90.2.2.2.2.2.2.2 = some (4, (.iload_n 2), 1, 0, 0) := by decide +kernel
theorem gx90_5 : aF 5 zM90.2.2.2.2.2.2.2 = some (5, (.aload_n 0), 1, 0, 0) := by decide +kernel
theorem gx90_6 : aF 6 zM90.2.2.2.2.2.2.2 = some (6, (.getfield 18), 3, 7, 2) := by decide +kernel
theorem gx90_9 : aF 9 zM90.2.2.2.2.2.2.2 = some (9, (.if_icmp .ge 45), 3, 54, 0) := by decide +kernel
theorem gx90_54 : aF 54 zM90.2.2.2.2.2.2.2 = some (54, (.iload_n 1), 1, 0, 0) := by decide +kernel
theorem gx90_55 : aF 55 zM90.2.2.2.2.2.2.2 = some (55, (.invokestatic 34), 3, 1012, 0) := by decide +kernel
theorem gx90_58 : aF 58 zM90.2.2.2.2.2.2.2 = some (58, (.iconst 2), 1, 0, 0) := by decide +kernel
theorem gx90_59 : aF 59 zM90.2.2.2.2.2.2.2 = some (59, .idiv, 1, 0, 0) := by decide +kernel
theorem gx90_60 : aF 60 zM90.2.2.2.2.2.2.2 = some (60, .ireturn, 1, 0, 0) := by decide +kernel
theorem gx90_12 : aF 12 zM90.2.2.2.2.2.2.2 = some (12, (.aload_n 0), 1, 0, 0) := by decide +kernel
theorem gx90_13 : aF 13 zM90.2.2.2.2.2.2.2 = some (13, (.iload_n 2), 1, 0, 0) := by decide +kernel
theorem gx90_14 : aF 14 zM90.2.2.2.2.2.2.2 = some (14, (.invokevirtual 26), 3, 92, 0) := by decide +kernel
theorem gx90_17 : aF 17 zM90.2.2.2.2.2.2.2 = some (17, (.istore_n 3), 1, 0, 0) := by decide +kernel
theorem gx90_18 : aF 18 zM90.2.2.2.2.2.2.2 = some (18, (.iload_n 1), 1, 0, 0) := by decide +kernel
theorem gx90_19 : aF 19 zM90.2.2.2.2.2.2.2 = some (19, (.aload_n 0), 1, 0, 0) := by decide +kernel
theorem gx90_20 : aF 20 zM90.2.2.2.2.2.2.2 = some (20, (.getfield 9), 3, 7, 0) := by decide +kernel
theorem gx90_23 : aF 23 zM90.2.2.2.2.2.2.2 = some (23, (.iload_n 2), 1, 0, 0) := by decide +kernel
theorem gx90_24 : aF 24 zM90.2.2.2.2.2.2.2 = some (24, .iaload, 1, 0, 0) := by decide +kernel
theorem gx90_25 : aF 25 zM90.2.2.2.2.2.2.2 = some (25, (.aload_n 0), 1, 0, 0) := by decide +kernel
theorem gx90_26 : aF 26 zM90.2.2.2.2.2.2.2 = some (26, (.getfield 15), 3, 7, 1) := by decide +kernel
theorem gx90_29 : aF 29 zM90.2.2.2.2.2.2.2 = some (29, (.iload_n 3), 1, 0, 0) := by decide +kernel
theorem gx90_30 : aF 30 zM90.2.2.2.2.2.2.2 = some (30, .iaload, 1, 0, 0) := by decide +kernel
theorem gx90_31 : aF 31 zM90.2.2.2.2.2.2.2 = some (31, .imul, 1, 0, 0) := by decide +kernel
theorem gx90_32 : aF 32 zM90.2.2.2.2.2.2.2 = some (32, (.aload_n 0), 1, 0, 0) := by decide +kernel
theorem gx90_33 : aF 33 zM90.2.2.2.2.2.2.2 = some (33, (.getfield 9), 3, 7, 0) := by decide +kernel
theorem gx90_36 : aF 36 zM90.2.2.2.2.2.2.2 = some (36, (.iload_n 3), 1, 0, 0) := by decide +kernel
theorem gx90_37 : aF 37 zM90.2.2.2.2.2.2.2 = some (37, .iaload, 1, 0, 0) := by decide +kernel
theorem gx90_38 : aF 38 zM90.2.2.2.2.2.2.2 = some (38, (.aload_n 0), 1, 0, 0) := by decide +kernel
theorem gx90_39 : aF 39 zM90.2.2.2.2.2.2.2 = some (39, (.getfield 15), 3, 7, 1) := by decide +kernel
theorem gx90_42 : aF 42 zM90.2.2.2.2.2.2.2 = some (42, (.iload_n 2), 1, 0, 0) := by decide +kernel
theorem gx90_43 : aF 43 zM90.2.2.2.2.2.2.2 = some (43, .iaload, 1, 0, 0) := by decide +kernel
theorem gx90_44 : aF 44 zM90.2.2.2.2.2.2.2 = some (44, .imul, 1, 0, 0) := by decide +kernel
theorem gx90_45 : aF 45 zM90.2.2.2.2.2.2.2 = some (45, .isub, 1, 0, 0) := by decide +kernel
theorem gx90_46 : aF 46 zM90.2.2.2.2.2.2.2 = some (46, .iadd, 1, 0, 0) := by decide +kernel
theorem gx90_47 : aF 47 zM90.2.2.2.2.2.2.2 = some (47, (.istore_n 1), 1, 0, 0) := by decide +kernel
theorem gx90_48 : aF 48 zM90.2.2.2.2.2.2.2 = some (48, (.iinc 2 1), 3, 0, 0) := by decide +kernel
theorem gx90_51 : aF 51 zM90.2.2.2.2.2.2.2 = some (51, (.goto (-47)), 3, 4, 0) := by decide +kernel
theorem gx219_0 : aF 0 zM219.2.2.2.2.2.2.2 = some (0, (.iconst 0), 1, 0, 0) := by decide +kernel
theorem gx219_1 : aF 1 zM219.2.2.2.2.2.2.2 = some (1, (.istore_n 1), 1, 0, 0) := by decide +kernel
theorem gx219_2 : aF 2 zM219.2.2.2.2.2.2.2 = some (2, (.iconst 0), 1, 0, 0) := by decide +kernel
theorem gx219_3 : aF 3 zM219.2.2.2.2.2.2.2 = some (3, (.istore_n 2), 1, 0, 0) := by decide +kernel
theorem gx219_4 : aF 4 zM219.2.2.2.2.2.2.2 = some (4, (.iload_n 2), 1, 0, 0) := by decide +kernel
theorem gx219_5 : aF 5 zM219.2.2.2.2.2.2.2 = some (5, (.aload_n 0), 1, 0, 0) := by decide +kernel
theorem gx219_6 : aF 6 zM219.2.2.2.2.2.2.2 = some (6, (.getfield 283), 3, 12, 11) := by decide +kernel
theorem gx219_9 : aF 9 zM219.2.2.2.2.2.2.2 = some (9, (.if_icmp .ge 47), 3, 56, 0) := by decide +kernel
theorem gx219_56 : aF 56 zM219.2.2.2.2.2.2.2 = some (56, (.iload_n 1), 1, 0, 0) := by decide +kernel
theorem gx219_57 : aF 57 zM219.2.2.2.2.2.2.2 = some (57, (.ifCond .ge 8), 3, 65, 0) := by decide +kernel
theorem gx219_65 : aF 65 zM219.2.2.2.2.2.2.2 = some (65, (.iload_n 1), 1, 0, 0) := by decide +kernel
theorem gx219_66 : aF 66 zM219.2.2.2.2.2.2.2 = some (66, (.iconst 2), 1, 0, 0) := by decide +kernel
theorem gx219_67 : aF 67 zM219.2.2.2.2.2.2.2 = some (67, .idiv, 1, 0, 0) := by decide +kernel
theorem gx219_68 : aF 68 zM219.2.2.2.2.2.2.2 = some (68, .ireturn, 1, 0, 0) := by decide +kernel
theorem gx219_60 : aF 60 zM219.2.2.2.2.2.2.2 = some (60, (.iload_n 1), 1, 0, 0) := by decide +kernel
theorem gx219_61 : aF 61 zM219.2.2.2.2.2.2.2 = some (61, .ineg, 1, 0, 0) := by decide +kernel
theorem gx219_62 : aF 62 zM219.2.2.2.2.2.2.2 = some (62, (.goto 4), 3, 66, 0) := by decide +kernel
theorem gx219_12 : aF 12 zM219.2.2.2.2.2.2.2 = some (12, (.iload_n 1), 1, 0, 0) := by decide +kernel
theorem gx219_13 : aF 13 zM219.2.2.2.2.2.2.2 = some (13, (.aload_n 0), 1, 0, 0) := by decide +kernel
theorem gx219_14 : aF 14 zM219.2.2.2.2.2.2.2 = some (14, (.getfield 34), 3, 12, 12) := by decide +kernel
theorem gx219_17 : aF 17 zM219.2.2.2.2.2.2.2 = some (17, (.iload_n 2), 1, 0, 0) := by decide +kernel
theorem gx219_18 : aF 18 zM219.2.2.2.2.2.2.2 = some (18, .iaload, 1, 0, 0) := by decide +kernel
theorem gx219_19 : aF 19 zM219.2.2.2.2.2.2.2 = some (19, (.aload_n 0), 1, 0, 0) := by decide +kernel
theorem gx219_20 : aF 20 zM219.2.2.2.2.2.2.2 = some (20, (.getfield 37), 3, 12, 13) := by decide +kernel
theorem gx219_23 : aF 23 zM219.2.2.2.2.2.2.2 = some (23, (.aload_n 0), 1, 0, 0) := by decide +kernel
theorem gx219_24 : aF 24 zM219.2.2.2.2.2.2.2 = some (24, (.iload_n 2), 1, 0, 0) := by decide +kernel
theorem gx219_25 : aF 25 zM219.2.2.2.2.2.2.2 = some (25, (.invokevirtual 286), 3, 213, 0) := by decide +kernel
theorem gx219_28 : aF 28 zM219.2.2.2.2.2.2.2 = some (28, .iaload, 1, 0, 0) := by decide +kernel
theorem gx219_29 : aF 29 zM219.2.2.2.2.2.2.2 = some (29, .imul, 1, 0, 0) := by decide +kernel
theorem gx219_30 : aF 30 zM219.2.2.2.2.2.2.2 = some (30, (.aload_n 0), 1, 0, 0) := by decide +kernel
theorem gx219_31 : aF 31 zM219.2.2.2.2.2.2.2 = some (31, (.getfield 34), 3, 12, 12) := by decide +kernel
theorem gx219_34 : aF 34 zM219.2.2.2.2.2.2.2 = some (34, (.aload_n 0), 1, 0, 0) := by decide +kernel
theorem gx219_35 : aF 35 zM219.2.2.2.2.2.2.2 = some (35, (.iload_n 2), 1, 0, 0) := by decide +kernel
theorem gx219_36 : aF 36 zM219.2.2.2.2.2.2.2 = some (36, (.invokevirtual 286), 3, 213, 0) := by decide +kernel
theorem gx219_39 : aF 39 zM219.2.2.2.2.2.2.2 = some (39, .iaload, 1, 0, 0) := by decide +kernel
theorem gx219_40 : aF 40 zM219.2.2.2.2.2.2.2 = some (40, (.aload_n 0), 1, 0, 0) := by decide +kernel
theorem gx219_41 : aF 41 zM219.2.2.2.2.2.2.2 = some (41, (.getfield 37), 3, 12, 13) := by decide +kernel
theorem gx219_44 : aF 44 zM219.2.2.2.2.2.2.2 = some (44, (.iload_n 2), 1, 0, 0) := by decide +kernel
theorem gx219_45 : aF 45 zM219.2.2.2.2.2.2.2 = some (45, .iaload, 1, 0, 0) := by decide +kernel
theorem gx219_46 : aF 46 zM219.2.2.2.2.2.2.2 = some (46, .imul, 1, 0, 0) := by decide +kernel
theorem gx219_47 : aF 47 zM219.2.2.2.2.2.2.2 = some (47, .isub, 1, 0, 0) := by decide +kernel
theorem gx219_48 : aF 48 zM219.2.2.2.2.2.2.2 = some (48, .iadd, 1, 0, 0) := by decide +kernel
theorem gx219_49 : aF 49 zM219.2.2.2.2.2.2.2 = some (49, (.istore_n 1), 1, 0, 0) := by decide +kernel
theorem gx219_50 : aF 50 zM219.2.2.2.2.2.2.2 = some (50, (.iinc 2 1), 3, 0, 0) := by decide +kernel
theorem gx219_53 : aF 53 zM219.2.2.2.2.2.2.2 = some (53, (.goto (-49)), 3, 4, 0) := by decide +kernel
theorem gx88_0 : aF 0 zM88.2.2.2.2.2.2.2 = some (0, (.aload_n 0), 1, 0, 0) := by decide +kernel
theorem gx88_1 : aF 1 zM88.2.2.2.2.2.2.2 = some (1, (.getfield 18), 3, 7, 2) := by decide +kernel
theorem gx88_4 : aF 4 zM88.2.2.2.2.2.2.2 = some (4, (.bipush 12), 2, 0, 0) := by decide +kernel
theorem gx88_6 : aF 6 zM88.2.2.2.2.2.2.2 = some (6, (.if_icmp .ge 33), 3, 39, 0) := by decide +kernel
theorem gx88_39 : aF 39 zM88.2.2.2.2.2.2.2 = some (39, (.aload_n 0), 1, 0, 0) := by decide +kernel
theorem gx88_40 : aF 40 zM88.2.2.2.2.2.2.2 = some (40, (.getfield 18), 3, 7, 2) := by decide +kernel
theorem gx88_43 : aF 43 zM88.2.2.2.2.2.2.2 = some (43, .ireturn, 1, 0, 0) := by decide +kernel
theorem gx88_9 : aF 9 zM88.2.2.2.2.2.2.2 = some (9, (.aload_n 0), 1, 0, 0) := by decide +kernel
theorem gx88_10 : aF 10 zM88.2.2.2.2.2.2.2 = some (10, (.getfield 9), 3, 7, 0) := by decide +kernel
theorem gx88_13 : aF 13 zM88.2.2.2.2.2.2.2 = some (13, (.aload_n 0), 1, 0, 0) := by decide +kernel
theorem gx88_14 : aF 14 zM88.2.2.2.2.2.2.2 = some (14, (.getfield 18), 3, 7, 2) := by decide +kernel
theorem gx88_17 : aF 17 zM88.2.2.2.2.2.2.2 = some (17, (.iload_n 1), 1, 0, 0) := by decide +kernel
theorem gx88_18 : aF 18 zM88.2.2.2.2.2.2.2 = some (18, .iastore, 1, 0, 0) := by decide +kernel
theorem gx88_19 : aF 19 zM88.2.2.2.2.2.2.2 = some (19, (.aload_n 0), 1, 0, 0) := by decide +kernel
theorem gx88_20 : aF 20 zM88.2.2.2.2.2.2.2 = some (20, (.getfield 15), 3, 7, 1) := by decide +kernel
theorem gx88_23 : aF 23 zM88.2.2.2.2.2.2.2 = some (23, (.aload_n 0), 1, 0, 0) := by decide +kernel
theorem gx88_24 : aF 24 zM88.2.2.2.2.2.2.2 = some (24, (.getfield 18), 3, 7, 2) := by decide +kernel
theorem gx88_27 : aF 27 zM88.2.2.2.2.2.2.2 = some (27, (.iload_n 2), 1, 0, 0) := by decide +kernel
theorem gx88_28 : aF 28 zM88.2.2.2.2.2.2.2 = some (28, .iastore, 1, 0, 0) := by decide +kernel
theorem gx88_29 : aF 29 zM88.2.2.2.2.2.2.2 = some (29, (.aload_n 0), 1, 0, 0) := by decide +kernel
theorem gx88_30 : aF 30 zM88.2.2.2.2.2.2.2 = some (30, .dup, 1, 0, 0) := by decide +kernel
theorem gx88_31 : aF 31 zM88.2.2.2.2.2.2.2 = some (31, (.getfield 18), 3, 7, 2) := by decide +kernel
theorem gx88_34 : aF 34 zM88.2.2.2.2.2.2.2 = some (34, (.iconst 1), 1, 0, 0) := by decide +kernel
theorem gx88_35 : aF 35 zM88.2.2.2.2.2.2.2 = some (35, .iadd, 1, 0, 0) := by decide +kernel
theorem gx88_36 : aF 36 zM88.2.2.2.2.2.2.2 = some (36, (.putfield 18), 3, 7, 2) := by decide +kernel
theorem gx147_0 : aF 0 zM147.2.2.2.2.2.2.2 = some (0, (.iload_n 1), 1, 0, 0) := by decide +kernel
theorem gx147_1 : aF 1 zM147.2.2.2.2.2.2.2 = some (1, (.iconst 0), 1, 0, 0) := by decide +kernel
theorem gx147_2 : aF 2 zM147.2.2.2.2.2.2.2 = some (2, (.bipush 24), 2, 0, 0) := by decide +kernel
theorem gx147_4 : aF 4 zM147.2.2.2.2.2.2.2 = some (4, (.invokestatic 85), 3, 137, 0) := by decide +kernel
theorem gx147_7 : aF 7 zM147.2.2.2.2.2.2.2 = some (7, (.ifCond .eq 13), 3, 20, 0) := by decide +kernel
theorem gx147_20 : aF 20 zM147.2.2.2.2.2.2.2 = some (20, (.iconst (-1)), 1, 0, 0) := by decide +kernel
theorem gx147_21 : aF 21 zM147.2.2.2.2.2.2.2 = some (21, .ireturn, 1, 0, 0) := by decide +kernel
theorem gx147_10 : aF 10 zM147.2.2.2.2.2.2.2 = some (10, (.iload_n 2), 1, 0, 0) := by decide +kernel
theorem gx147_11 : aF 11 zM147.2.2.2.2.2.2.2 = some (11, (.iconst 0), 1, 0, 0) := by decide +kernel
theorem gx147_12 : aF 12 zM147.2.2.2.2.2.2.2 = some (12, (.bipush 24), 2, 0, 0) := by decide +kernel
theorem gx147_14 : aF 14 zM147.2.2.2.2.2.2.2 = some (14, (.invokestatic 85), 3, 137, 0) := by decide +kernel
theorem gx147_17 : aF 17 zM147.2.2.2.2.2.2.2 = some (17, (.ifCond .ne 5), 3, 22, 0) := by decide +kernel
theorem gx147_22 : aF 22 zM147.2.2.2.2.2.2.2 = some (22, (.aload_n 0), 1, 0, 0) := by decide +kernel
theorem gx147_23 : aF 23 zM147.2.2.2.2.2.2.2 = some (23, (.getfield 19), 3, 11, 1) := by decide +kernel
theorem gx147_26 : aF 26 zM147.2.2.2.2.2.2.2 = some (26, (.getfield 108), 3, 7, 2) := by decide +kernel
theorem gx147_29 : aF 29 zM147.2.2.2.2.2.2.2 = some (29, (.bipush 12), 2, 0, 0) := by decide +kernel
theorem gx147_31 : aF 31 zM147.2.2.2.2.2.2.2 = some (31, (.if_icmp .lt 8), 3, 39, 0) := by decide +kernel
theorem gx147_39 : aF 39 zM147.2.2.2.2.2.2.2 = some (39, (.aload_n 0), 1, 0, 0) := by decide +kernel
theorem gx147_40 : aF 40 zM147.2.2.2.2.2.2.2 = some (40, (.getfield 19), 3, 11, 1) := by decide +kernel
theorem gx147_43 : aF 43 zM147.2.2.2.2.2.2.2 = some (43, (.iload_n 1), 1, 0, 0) := by decide +kernel
theorem gx147_44 : aF 44 zM147.2.2.2.2.2.2.2 = some (44, (.iload_n 2), 1, 0, 0) := by decide +kernel
theorem gx147_45 : aF 45 zM147.2.2.2.2.2.2.2 = some (45, (.invokevirtual 111), 3, 88, 0) := by decide +kernel
theorem gx147_48 : aF 48 zM147.2.2.2.2.2.2.2 = some (48, .ireturn, 1, 0, 0) := by decide +kernel
theorem gx147_34 : aF 34 zM147.2.2.2.2.2.2.2 = some (34, (.bipush (-3)), 2, 0, 0) := by decide +kernel
theorem gx147_36 : aF 36 zM147.2.2.2.2.2.2.2 = some (36, (.goto 12), 3, 48, 0) := by decide +kernel
theorem gx209_0 : aF 0 zM209.2.2.2.2.2.2.2 = some (0, (.iload_n 1), 1, 0, 0) := by decide +kernel
theorem gx209_1 : aF 1 zM209.2.2.2.2.2.2.2 = some (1, (.iconst 0), 1, 0, 0) := by decide +kernel
theorem gx209_2 : aF 2 zM209.2.2.2.2.2.2.2 = some (2, (.bipush 24), 2, 0, 0) := by decide +kernel
theorem gx209_4 : aF 4 zM209.2.2.2.2.2.2.2 = some (4, (.invokestatic 258), 3, 196, 0) := by decide +kernel
theorem gx209_7 : aF 7 zM209.2.2.2.2.2.2.2 = some (7, (.ifCond .eq 13), 3, 20, 0) := by decide +kernel
theorem gx209_20 : aF 20 zM209.2.2.2.2.2.2.2 = some (20, (.iconst (-1)), 1, 0, 0) := by decide +kernel
theorem gx209_21 : aF 21 zM209.2.2.2.2.2.2.2 = some (21, .ireturn, 1, 0, 0) := by decide +kernel
theorem gx209_10 : aF 10 zM209.2.2.2.2.2.2.2 = some (10, (.iload_n 2), 1, 0, 0) := by decide +kernel
theorem gx209_11 : aF 11 zM209.2.2.2.2.2.2.2 = some (11, (.iconst 0), 1, 0, 0) := by decide +kernel
theorem gx209_12 : aF 12 zM209.2.2.2.2.2.2.2 = some (12, (.bipush 24), 2, 0, 0) := by decide +kernel
theorem gx209_14 : aF 14 zM209.2.2.2.2.2.2.2 = some (14, (.invokestatic 258), 3, 196, 0) := by decide +kernel
theorem gx209_17 : aF 17 zM209.2.2.2.2.2.2.2 = some (17, (.ifCond .ne 5), 3, 22, 0) := by decide +kernel
theorem gx209_22 : aF 22 zM209.2.2.2.2.2.2.2 = some (22, (.aload_n 0), 1, 0, 0) := by decide +kernel
theorem gx209_23 : aF 23 zM209.2.2.2.2.2.2.2 = some (23, (.getfield 283), 3, 12, 11) := by decide +kernel
theorem gx209_26 : aF 26 zM209.2.2.2.2.2.2.2 = some (26, (.bipush 12), 2, 0, 0) := by decide +kernel
theorem gx209_28 : aF 28 zM209.2.2.2.2.2.2.2 = some (28, (.if_icmp .ne 6), 3, 34, 0) := by decide +kernel
theorem gx209_34 : aF 34 zM209.2.2.2.2.2.2.2 = some (34, (.aload_n 0), 1, 0, 0) := by decide +kernel
theorem gx209_35 : aF 35 zM209.2.2.2.2.2.2.2 = some (35, (.getfield 34), 3, 12, 12) := by decide +kernel
theorem gx209_38 : aF 38 zM209.2.2.2.2.2.2.2 = some (38, (.aload_n 0), 1, 0, 0) := by decide +kernel
theorem gx209_39 : aF 39 zM209.2.2.2.2.2.2.2 = some (39, (.getfield 283), 3, 12, 11) := by decide +kernel
theorem gx209_42 : aF 42 zM209.2.2.2.2.2.2.2 = some (42, (.iload_n 1), 1, 0, 0) := by decide +kernel
theorem gx209_43 : aF 43 zM209.2.2.2.2.2.2.2 = some (43, .iastore, 1, 0, 0) := by decide +kernel
theorem gx209_44 : aF 44 zM209.2.2.2.2.2.2.2 = some (44, (.aload_n 0), 1, 0, 0) := by decide +kernel
theorem gx209_45 : aF 45 zM209.2.2.2.2.2.2.2 = some (45, (.getfield 37), 3, 12, 13) := by decide +kernel
theorem gx209_48 : aF 48 zM209.2.2.2.2.2.2.2 = some (48, (.aload_n 0), 1, 0, 0) := by decide +kernel
theorem gx209_49 : aF 49 zM209.2.2.2.2.2.2.2 = some (49, (.getfield 283), 3, 12, 11) := by decide +kernel
theorem gx209_52 : aF 52 zM209.2.2.2.2.2.2.2 = some (52, (.iload_n 2), 1, 0, 0) := by decide +kernel
theorem gx209_53 : aF 53 zM209.2.2.2.2.2.2.2 = some (53, .iastore, 1, 0, 0) := by decide +kernel
theorem gx209_54 : aF 54 zM209.2.2.2.2.2.2.2 = some (54, (.aload_n 0), 1, 0, 0) := by decide +kernel
theorem gx209_55 : aF 55 zM209.2.2.2.2.2.2.2 = some (55, .dup, 1, 0, 0) := by decide +kernel
theorem gx209_56 : aF 56 zM209.2.2.2.2.2.2.2 = some (56, (.getfield 283), 3, 12, 11) := by decide +kernel
theorem gx209_59 : aF 59 zM209.2.2.2.2.2.2.2 = some (59, (.iconst 1), 1, 0, 0) := by decide +kernel
theorem gx209_60 : aF 60 zM209.2.2.2.2.2.2.2 = some (60, .iadd, 1, 0, 0) := by decide +kernel
theorem gx209_61 : aF 61 zM209.2.2.2.2.2.2.2 = some (61, (.putfield 283), 3, 12, 11) := by decide +kernel
theorem gx209_64 : aF 64 zM209.2.2.2.2.2.2.2 = some (64, (.aload_n 0), 1, 0, 0) := by decide +kernel
theorem gx209_65 : aF 65 zM209.2.2.2.2.2.2.2 = some (65, (.getfield 283), 3, 12, 11) := by decide +kernel
theorem gx209_68 : aF 68 zM209.2.2.2.2.2.2.2 = some (68, .ireturn, 1, 0, 0) := by decide +kernel
theorem gx209_31 : aF 31 zM209.2.2.2.2.2.2.2 = some (31, (.bipush (-3)), 2, 0, 0) := by decide +kernel
theorem gx209_33 : aF 33 zM209.2.2.2.2.2.2.2 = some (33, .ireturn, 1, 0, 0) := by decide +kernel
theorem gx148_0 : aF 0 zM148.2.2.2.2.2.2.2 = some (0, (.aload_n 0), 1, 0, 0) := by decide +kernel
theorem gx148_1 : aF 1 zM148.2.2.2.2.2.2.2 = some (1, (.getfield 19), 3, 11, 1) := by decide +kernel
theorem gx148_4 : aF 4 zM148.2.2.2.2.2.2.2 = some (4, (.getfield 108), 3, 7, 2) := by decide +kernel
theorem gx148_7 : aF 7 zM148.2.2.2.2.2.2.2 = some (7, (.istore_n 1), 1, 0, 0) := by decide +kernel
theorem gx148_8 : aF 8 zM148.2.2.2.2.2.2.2 = some (8, (.aload_n 0), 1, 0, 0) := by decide +kernel
theorem gx148_9 : aF 9 zM148.2.2.2.2.2.2.2 = some (9, (.getfield 19), 3, 11, 1) := by decide +kernel
theorem gx148_12 : aF 12 zM148.2.2.2.2.2.2.2 = some (12, (.iconst 0), 1, 0, 0) := by decide +kernel
theorem gx148_13 : aF 13 zM148.2.2.2.2.2.2.2 = some (13, (.putfield 108), 3, 7, 2) := by decide +kernel
theorem gx148_16 : aF 16 zM148.2.2.2.2.2.2.2 = some (16, (.iload_n 1), 1, 0, 0) := by decide +kernel
theorem gx148_17 : aF 17 zM148.2.2.2.2.2.2.2 = some (17, .ireturn, 1, 0, 0) := by decide +kernel
theorem gx210_0 : aF 0 zM210.2.2.2.2.2.2.2 = some (0, (.aload_n 0), 1, 0, 0) := by decide +kernel
theorem gx210_1 : aF 1 zM210.2.2.2.2.2.2.2 = some (1, (.getfield 283), 3, 12, 11) := by decide +kernel
theorem gx210_4 : aF 4 zM210.2.2.2.2.2.2.2 = some (4, (.istore_n 1), 1, 0, 0) := by decide +kernel
theorem gx210_5 : aF 5 zM210.2.2.2.2.2.2.2 = some (5, (.aload_n 0), 1, 0, 0) := by decide +kernel
theorem gx210_6 : aF 6 zM210.2.2.2.2.2.2.2 = some (6, (.iconst 0), 1, 0, 0) := by decide +kernel
theorem gx210_7 : aF 7 zM210.2.2.2.2.2.2.2 = some (7, (.putfield 283), 3, 12, 11) := by decide +kernel
theorem gx210_10 : aF 10 zM210.2.2.2.2.2.2.2 = some (10, (.iload_n 1), 1, 0, 0) := by decide +kernel
theorem gx210_11 : aF 11 zM210.2.2.2.2.2.2.2 = some (11, .ireturn, 1, 0, 0) := by decide +kernel
theorem gx145_0 : aF 0 zM145.2.2.2.2.2.2.2 = some (0, (.aload_n 0), 1, 0, 0) := by decide +kernel
theorem gx145_1 : aF 1 zM145.2.2.2.2.2.2.2 = some (1, (.getfield 12), 3, 11, 0) := by decide +kernel
theorem gx145_4 : aF 4 zM145.2.2.2.2.2.2.2 = some (4, (.invokevirtual 97), 3, 73, 0) := by decide +kernel
theorem gx145_7 : aF 7 zM145.2.2.2.2.2.2.2 = some (7, (.ifCond .eq 8), 3, 15, 0) := by decide +kernel
theorem gx145_15 : aF 15 zM145.2.2.2.2.2.2.2 = some (15, (.aload_n 0), 1, 0, 0) := by decide +kernel
theorem gx145_16 : aF 16 zM145.2.2.2.2.2.2.2 = some (16, (.getfield 12), 3, 11, 0) := by decide +kernel
theorem gx145_19 : aF 19 zM145.2.2.2.2.2.2.2 = some (19, (.iconst 0), 1, 0, 0) := by decide +kernel
theorem gx145_20 : aF 20 zM145.2.2.2.2.2.2.2 = some (20, (.iconst 0), 1, 0, 0) := by decide +kernel
theorem gx145_21 : aF 21 zM145.2.2.2.2.2.2.2 = some (21, (.iconst (-1)), 1, 0, 0) := by decide +kernel
theorem gx145_22 : aF 22 zM145.2.2.2.2.2.2.2 = some (22, (.invokevirtual 101), 3, 79, 0) := by decide +kernel
theorem gx145_25 : aF 25 zM145.2.2.2.2.2.2.2 = some (25, .ireturn, 1, 0, 0) := by decide +kernel
theorem gx145_10 : aF 10 zM145.2.2.2.2.2.2.2 = some (10, (.bipush (-3)), 2, 0, 0) := by decide +kernel
theorem gx145_12 : aF 12 zM145.2.2.2.2.2.2.2 = some (12, (.goto 13), 3, 25, 0) := by decide +kernel
theorem gx205_0 : aF 0 zM205.2.2.2.2.2.2.2 = some (0, (.aload_n 0), 1, 0, 0) := by decide +kernel
theorem gx205_1 : aF 1 zM205.2.2.2.2.2.2.2 = some (1, (.getfield 265), 3, 12, 2) := by decide +kernel
theorem gx205_4 : aF 4 zM205.2.2.2.2.2.2.2 = some (4, (.sipush 150), 3, 0, 0) := by decide +kernel
theorem gx205_7 : aF 7 zM205.2.2.2.2.2.2.2 = some (7, (.if_icmp .ne 8), 3, 15, 0) := by decide +kernel
theorem gx205_15 : aF 15 zM205.2.2.2.2.2.2.2 = some (15, (.aload_n 0), 1, 0, 0) := by decide +kernel
theorem gx205_16 : aF 16 zM205.2.2.2.2.2.2.2 = some (16, (.iconst 0), 1, 0, 0) := by decide +kernel
theorem gx205_17 : aF 17 zM205.2.2.2.2.2.2.2 = some (17, (.invokevirtual 276), 3, 204, 0) := by decide +kernel
theorem gx205_20 : aF 20 zM205.2.2.2.2.2.2.2 = some (20, .ireturn, 1, 0, 0) := by decide +kernel
theorem gx205_10 : aF 10 zM205.2.2.2.2.2.2.2 = some (10, (.bipush (-3)), 2, 0, 0) := by decide +kernel
theorem gx205_12 : aF 12 zM205.2.2.2.2.2.2.2 = some (12, (.goto 8), 3, 20, 0) := by decide +kernel
theorem gx146_0 : aF 0 zM146.2.2.2.2.2.2.2 = some (0, (.iload_n 1), 1, 0, 0) := by decide +kernel
theorem gx146_1 : aF 1 zM146.2.2.2.2.2.2.2 = some (1, (.invokestatic 105), 3, 71, 0) := by decide +kernel
theorem gx146_4 : aF 4 zM146.2.2.2.2.2.2.2 = some (4, (.ifCond .eq 10), 3, 14, 0) := by decide +kernel
theorem gx146_14 : aF 14 zM146.2.2.2.2.2.2.2 = some (14, (.iconst (-1)), 1, 0, 0) := by decide +kernel
theorem gx146_15 : aF 15 zM146.2.2.2.2.2.2.2 = some (15, .ireturn, 1, 0, 0) := by decide +kernel
theorem gx146_7 : aF 7 zM146.2.2.2.2.2.2.2 = some (7, (.iload_n 2), 1, 0, 0) := by decide +kernel
theorem gx146_8 : aF 8 zM146.2.2.2.2.2.2.2 = some (8, (.invokestatic 89), 3, 140, 0) := by decide +kernel
theorem gx146_11 : aF 11 zM146.2.2.2.2.2.2.2 = some (11, (.ifCond .ne 5), 3, 16, 0) := by decide +kernel
theorem gx146_16 : aF 16 zM146.2.2.2.2.2.2.2 = some (16, (.aload_n 0), 1, 0, 0) := by decide +kernel
theorem gx146_17 : aF 17 zM146.2.2.2.2.2.2.2 = some (17, (.getfield 12), 3, 11, 0) := by decide +kernel
theorem gx146_20 : aF 20 zM146.2.2.2.2.2.2.2 = some (20, (.invokevirtual 97), 3, 73, 0) := by decide +kernel
theorem gx146_23 : aF 23 zM146.2.2.2.2.2.2.2 = some (23, (.ifCond .eq 8), 3, 31, 0) := by decide +kernel
theorem gx146_31 : aF 31 zM146.2.2.2.2.2.2.2 = some (31, (.aload_n 0), 1, 0, 0) := by decide +kernel
theorem gx146_32 : aF 32 zM146.2.2.2.2.2.2.2 = some (32, (.getfield 12), 3, 11, 0) := by decide +kernel
theorem gx146_35 : aF 35 zM146.2.2.2.2.2.2.2 = some (35, (.iload_n 1), 1, 0, 0) := by decide +kernel
theorem gx146_36 : aF 36 zM146.2.2.2.2.2.2.2 = some (36, (.iload_n 2), 1, 0, 0) := by decide +kernel
theorem gx146_37 : aF 37 zM146.2.2.2.2.2.2.2 = some (37, (.iconst (-1)), 1, 0, 0) := by decide +kernel
theorem gx146_38 : aF 38 zM146.2.2.2.2.2.2.2 = some (38, (.invokevirtual 101), 3, 79, 0) := by decide +kernel
theorem gx146_41 : aF 41 zM146.2.2.2.2.2.2.2 = some (41, .ireturn, 1, 0, 0) := by decide +kernel
theorem gx146_26 : aF 26 zM146.2.2.2.2.2.2.2 = some (26, (.bipush (-3)), 2, 0, 0) := by decide +kernel
theorem gx146_28 : aF 28 zM146.2.2.2.2.2.2.2 = some (28, (.goto 13), 3, 41, 0) := by decide +kernel
theorem gx207_0 : aF 0 zM207.2.2.2.2.2.2.2 = some (0, (.iload_n 1), 1, 0, 0) := by decide +kernel
theorem gx207_1 : aF 1 zM207.2.2.2.2.2.2.2 = some (1, (.iconst 1), 1, 0, 0) := by decide +kernel
theorem gx207_2 : aF 2 zM207.2.2.2.2.2.2.2 = some (2, (.invokestatic 272), 3, 201, 0) := by decide +kernel
theorem gx207_5 : aF 5 zM207.2.2.2.2.2.2.2 = some (5, (.ifCond .eq 20), 3, 25, 0) := by decide +kernel
theorem gx207_25 : aF 25 zM207.2.2.2.2.2.2.2 = some (25, (.iconst (-1)), 1, 0, 0) := by decide +kernel
theorem gx207_26 : aF 26 zM207.2.2.2.2.2.2.2 = some (26, .ireturn, 1, 0, 0) := by decide +kernel
theorem gx207_8 : aF 8 zM207.2.2.2.2.2.2.2 = some (8, (.iload_n 1), 1, 0, 0) := by decide +kernel
theorem gx207_9 : aF 9 zM207.2.2.2.2.2.2.2 = some (9, (.iconst 0), 1, 0, 0) := by decide +kernel
theorem gx207_10 : aF 10 zM207.2.2.2.2.2.2.2 = some (10, (.bipush 7), 2, 0, 0) := by decide +kernel
theorem gx207_12 : aF 12 zM207.2.2.2.2.2.2.2 = some (12, (.invokestatic 258), 3, 196, 0) := by decide +kernel
theorem gx207_15 : aF 15 zM207.2.2.2.2.2.2.2 = some (15, (.ifCond .eq 10), 3, 25, 0) := by decide +kernel
theorem gx207_18 : aF 18 zM207.2.2.2.2.2.2.2 = some (18, (.iload_n 2), 1, 0, 0) := by decide +kernel
theorem gx207_19 : aF 19 zM207.2.2.2.2.2.2.2 = some (19, (.invokestatic 280), 3, 206, 0) := by decide +kernel
theorem gx207_22 : aF 22 zM207.2.2.2.2.2.2.2 = some (22, (.ifCond .ne 5), 3, 27, 0) := by decide +kernel
theorem gx207_27 : aF 27 zM207.2.2.2.2.2.2.2 = some (27, (.aload_n 0), 1, 0, 0) := by decide +kernel
theorem gx207_28 : aF 28 zM207.2.2.2.2.2.2.2 = some (28, (.getfield 265), 3, 12, 2) := by decide +kernel
theorem gx207_31 : aF 31 zM207.2.2.2.2.2.2.2 = some (31, (.sipush 150), 3, 0, 0) := by decide +kernel
theorem gx207_34 : aF 34 zM207.2.2.2.2.2.2.2 = some (34, (.if_icmp .ne 6), 3, 40, 0) := by decide +kernel
theorem gx207_40 : aF 40 zM207.2.2.2.2.2.2.2 = some (40, (.aload_n 0), 1, 0, 0) := by decide +kernel
theorem gx207_41 : aF 41 zM207.2.2.2.2.2.2.2 = some (41, (.iload_n 1), 1, 0, 0) := by decide +kernel
theorem gx207_42 : aF 42 zM207.2.2.2.2.2.2.2 = some (42, (.invokevirtual 276), 3, 204, 0) := by decide +kernel
theorem gx207_45 : aF 45 zM207.2.2.2.2.2.2.2 = some (45, (.istore_n 3), 1, 0, 0) := by decide +kernel
theorem gx207_46 : aF 46 zM207.2.2.2.2.2.2.2 = some (46, (.aload_n 0), 1, 0, 0) := by decide +kernel
theorem gx207_47 : aF 47 zM207.2.2.2.2.2.2.2 = some (47, (.getfield 13), 3, 12, 4) := by decide +kernel
theorem gx207_50 : aF 50 zM207.2.2.2.2.2.2.2 = some (50, (.iload_n 3), 1, 0, 0) := by decide +kernel
theorem gx207_51 : aF 51 zM207.2.2.2.2.2.2.2 = some (51, (.iload_n 2), 1, 0, 0) := by decide +kernel
theorem gx207_52 : aF 52 zM207.2.2.2.2.2.2.2 = some (52, .iastore, 1, 0, 0) := by decide +kernel
theorem gx207_53 : aF 53 zM207.2.2.2.2.2.2.2 = some (53, (.iload_n 3), 1, 0, 0) := by decide +kernel
theorem gx207_54 : aF 54 zM207.2.2.2.2.2.2.2 = some (54, .ireturn, 1, 0, 0) := by decide +kernel
theorem gx207_37 : aF 37 zM207.2.2.2.2.2.2.2 = some (37, (.bipush (-3)), 2, 0, 0) := by decide +kernel
theorem gx207_39 : aF 39 zM207.2.2.2.2.2.2.2 = some (39, .ireturn, 1, 0, 0) := by decide +kernel
theorem gx80_0 : aF 0 zM80.2.2.2.2.2.2.2 = some (0, (.aload_n 0), 1, 0, 0) := by decide +kernel
theorem gx80_1 : aF 1 zM80.2.2.2.2.2.2.2 = some (1, (.bipush 6), 2, 0, 0) := by decide +kernel
theorem gx80_3 : aF 3 zM80.2.2.2.2.2.2.2 = some (3, (.iload_n 1), 1, 0, 0) := by decide +kernel
theorem gx80_4 : aF 4 zM80.2.2.2.2.2.2.2 = some (4, (.iconst (-1)), 1, 0, 0) := by decide +kernel
theorem gx80_5 : aF 5 zM80.2.2.2.2.2.2.2 = some (5, (.invokevirtual 79), 3, 79, 0) := by decide +kernel
theorem gx80_8 : aF 8 zM80.2.2.2.2.2.2.2 = some (8, (.istore_n 2), 1, 0, 0) := by decide +kernel
theorem gx80_9 : aF 9 zM80.2.2.2.2.2.2.2 = some (9, (.iload_n 2), 1, 0, 0) := by decide +kernel
theorem gx80_10 : aF 10 zM80.2.2.2.2.2.2.2 = some (10, (.ifCond .ge 5), 3, 15, 0) := by decide +kernel
theorem gx80_15 : aF 15 zM80.2.2.2.2.2.2.2 = some (15, (.aload_n 0), 1, 0, 0) := by decide +kernel
theorem gx80_16 : aF 16 zM80.2.2.2.2.2.2.2 = some (16, (.getfield 83), 3, 6, 4) := by decide +kernel
theorem gx80_19 : aF 19 zM80.2.2.2.2.2.2.2 = some (19, (.istore_n 3), 1, 0, 0) := by decide +kernel
theorem gx80_13 : aF 13 zM80.2.2.2.2.2.2.2 = some (13, (.iload_n 2), 1, 0, 0) := by decide +kernel
theorem gx80_14 : aF 14 zM80.2.2.2.2.2.2.2 = some (14, .ireturn, 1, 0, 0) := by decide +kernel
theorem gx80_20 : aF 20 zM80.2.2.2.2.2.2.2 = some (20, (.iload_n 3), 1, 0, 0) := by decide +kernel
theorem gx80_21 : aF 21 zM80.2.2.2.2.2.2.2 = some (21, (.ifCond .le 40), 3, 61, 0) := by decide +kernel
theorem gx80_61 : aF 61 zM80.2.2.2.2.2.2.2 = some (61, (.aload_n 0), 1, 0, 0) := by decide +kernel
theorem gx80_62 : aF 62 zM80.2.2.2.2.2.2.2 = some (62, (.getfield 24), 3, 6, 11) := by decide +kernel
theorem gx80_65 : aF 65 zM80.2.2.2.2.2.2.2 = some (65, (.iload_n 3), 1, 0, 0) := by decide +kernel
theorem gx80_66 : aF 66 zM80.2.2.2.2.2.2.2 = some (66, (.iload_n 2), 1, 0, 0) := by decide +kernel
theorem gx80_67 : aF 67 zM80.2.2.2.2.2.2.2 = some (67, .iastore, 1, 0, 0) := by decide +kernel
theorem gx80_68 : aF 68 zM80.2.2.2.2.2.2.2 = some (68, (.aload_n 0), 1, 0, 0) := by decide +kernel
theorem gx80_69 : aF 69 zM80.2.2.2.2.2.2.2 = some (69, .dup, 1, 0, 0) := by decide +kernel
theorem gx80_70 : aF 70 zM80.2.2.2.2.2.2.2 = some (70, (.getfield 83), 3, 6, 4) := by decide +kernel
theorem gx80_73 : aF 73 zM80.2.2.2.2.2.2.2 = some (73, (.iconst 1), 1, 0, 0) := by decide +kernel
theorem gx80_74 : aF 74 zM80.2.2.2.2.2.2.2 = some (74, .iadd, 1, 0, 0) := by decide +kernel
theorem gx80_75 : aF 75 zM80.2.2.2.2.2.2.2 = some (75, (.putfield 83), 3, 6, 4) := by decide +kernel
theorem gx80_78 : aF 78 zM80.2.2.2.2.2.2.2 = some (78, (.iload_n 2), 1, 0, 0) := by decide +kernel
theorem gx80_79 : aF 79 zM80.2.2.2.2.2.2.2 = some (79, .ireturn, 1, 0, 0) := by decide +kernel
theorem gx80_24 : aF 24 zM80.2.2.2.2.2.2.2 = some (24, (.aload_n 0), 1, 0, 0) := by decide +kernel
theorem gx80_25 : aF 25 zM80.2.2.2.2.2.2.2 = some (25, (.getfield 15), 3, 6, 8) := by decide +kernel
theorem gx80_28 : aF 28 zM80.2.2.2.2.2.2.2 = some (28, (.aload_n 0), 1, 0, 0) := by decide +kernel
theorem gx80_29 : aF 29 zM80.2.2.2.2.2.2.2 = some (29, (.getfield 24), 3, 6, 11) := by decide +kernel
theorem gx80_32 : aF 32 zM80.2.2.2.2.2.2.2 = some (32, (.iload_n 3), 1, 0, 0) := by decide +kernel
theorem gx80_33 : aF 33 zM80.2.2.2.2.2.2.2 = some (33, (.iconst 1), 1, 0, 0) := by decide +kernel
theorem gx80_34 : aF 34 zM80.2.2.2.2.2.2.2 = some (34, .isub, 1, 0, 0) := by decide +kernel
theorem gx80_35 : aF 35 zM80.2.2.2.2.2.2.2 = some (35, .iaload, 1, 0, 0) := by decide +kernel
theorem gx80_36 : aF 36 zM80.2.2.2.2.2.2.2 = some (36, .iaload, 1, 0, 0) := by decide +kernel
theorem gx80_37 : aF 37 zM80.2.2.2.2.2.2.2 = some (37, (.iload_n 1), 1, 0, 0) := by decide +kernel
theorem gx80_38 : aF 38 zM80.2.2.2.2.2.2.2 = some (38, (.if_icmp .ge 23), 3, 61, 0) := by decide +kernel
theorem gx80_41 : aF 41 zM80.2.2.2.2.2.2.2 = some (41, (.aload_n 0), 1, 0, 0) := by decide +kernel
theorem gx80_42 : aF 42 zM80.2.2.2.2.2.2.2 = some (42, (.getfield 24), 3, 6, 11) := by decide +kernel
theorem gx80_45 : aF 45 zM80.2.2.2.2.2.2.2 = some (45, (.iload_n 3), 1, 0, 0) := by decide +kernel
theorem gx80_46 : aF 46 zM80.2.2.2.2.2.2.2 = some (46, (.aload_n 0), 1, 0, 0) := by decide +kernel
theorem gx80_47 : aF 47 zM80.2.2.2.2.2.2.2 = some (47, (.getfield 24), 3, 6, 11) := by decide +kernel
theorem gx80_50 : aF 50 zM80.2.2.2.2.2.2.2 = some (50, (.iload_n 3), 1, 0, 0) := by decide +kernel
theorem gx80_51 : aF 51 zM80.2.2.2.2.2.2.2 = some (51, (.iconst 1), 1, 0, 0) := by decide +kernel
theorem gx80_52 : aF 52 zM80.2.2.2.2.2.2.2 = some (52, .isub, 1, 0, 0) := by decide +kernel
theorem gx80_53 : aF 53 zM80.2.2.2.2.2.2.2 = some (53, .iaload, 1, 0, 0) := by decide +kernel
theorem gx80_54 : aF 54 zM80.2.2.2.2.2.2.2 = some (54, .iastore, 1, 0, 0) := by decide +kernel
theorem gx80_55 : aF 55 zM80.2.2.2.2.2.2.2 = some (55, (.iinc 3 (-1)), 3, 0, 0) := by decide +kernel
theorem gx80_58 : aF 58 zM80.2.2.2.2.2.2.2 = some (58, (.goto (-38)), 3, 20, 0) := by decide +kernel
theorem gx151_0 : aF 0 zM151.2.2.2.2.2.2.2 = some (0, (.iload_n 1), 1, 0, 0) := by decide +kernel
theorem gx151_1 : aF 1 zM151.2.2.2.2.2.2.2 = some (1, (.iconst 1), 1, 0, 0) := by decide +kernel
theorem gx151_2 : aF 2 zM151.2.2.2.2.2.2.2 = some (2, (.sipush 999), 3, 0, 0) := by decide +kernel
theorem gx151_5 : aF 5 zM151.2.2.2.2.2.2.2 = some (5, (.invokestatic 85), 3, 137, 0) := by decide +kernel
theorem gx151_8 : aF 8 zM151.2.2.2.2.2.2.2 = some (8, (.ifCond .ne 5), 3, 13, 0) := by decide +kernel
theorem gx151_13 : aF 13 zM151.2.2.2.2.2.2.2 = some (13, (.aload_n 0), 1, 0, 0) := by decide +kernel
theorem gx151_14 : aF 14 zM151.2.2.2.2.2.2.2 = some (14, (.getfield 12), 3, 11, 0) := by decide +kernel
theorem gx151_17 : aF 17 zM151.2.2.2.2.2.2.2 = some (17, (.invokevirtual 97), 3, 73, 0) := by decide +kernel
theorem gx151_20 : aF 20 zM151.2.2.2.2.2.2.2 = some (20, (.ifCond .eq 8), 3, 28, 0) := by decide +kernel
theorem gx151_28 : aF 28 zM151.2.2.2.2.2.2.2 = some (28, (.aload_n 0), 1, 0, 0) := by decide +kernel
theorem gx151_29 : aF 29 zM151.2.2.2.2.2.2.2 = some (29, (.getfield 12), 3, 11, 0) := by decide +kernel
theorem gx151_32 : aF 32 zM151.2.2.2.2.2.2.2 = some (32, (.iload_n 1), 1, 0, 0) := by decide +kernel
theorem gx151_33 : aF 33 zM151.2.2.2.2.2.2.2 = some (33, (.invokevirtual 128), 3, 80, 0) := by decide +kernel
theorem gx151_36 : aF 36 zM151.2.2.2.2.2.2.2 = some (36, .ireturn, 1, 0, 0) := by decide +kernel
theorem gx151_23 : aF 23 zM151.2.2.2.2.2.2.2 = some (23, (.bipush (-3)), 2, 0, 0) := by decide +kernel
theorem gx151_25 : aF 25 zM151.2.2.2.2.2.2.2 = some (25, (.goto 11), 3, 36, 0) := by decide +kernel
theorem gx151_11 : aF 11 zM151.2.2.2.2.2.2.2 = some (11, (.iconst (-1)), 1, 0, 0) := by decide +kernel
theorem gx151_12 : aF 12 zM151.2.2.2.2.2.2.2 = some (12, .ireturn, 1, 0, 0) := by decide +kernel
theorem gx208_0 : aF 0 zM208.2.2.2.2.2.2.2 = some (0, (.iload_n 1), 1, 0, 0) := by decide +kernel
theorem gx208_1 : aF 1 zM208.2.2.2.2.2.2.2 = some (1, (.iconst 1), 1, 0, 0) := by decide +kernel
theorem gx208_2 : aF 2 zM208.2.2.2.2.2.2.2 = some (2, (.sipush 999), 3, 0, 0) := by decide +kernel
theorem gx208_5 : aF 5 zM208.2.2.2.2.2.2.2 = some (5, (.invokestatic 258), 3, 196, 0) := by decide +kernel
theorem gx208_8 : aF 8 zM208.2.2.2.2.2.2.2 = some (8, (.ifCond .ne 5), 3, 13, 0) := by decide +kernel
theorem gx208_13 : aF 13 zM208.2.2.2.2.2.2.2 = some (13, (.aload_n 0), 1, 0, 0) := by decide +kernel
theorem gx208_14 : aF 14 zM208.2.2.2.2.2.2.2 = some (14, (.getfield 265), 3, 12, 2) := by decide +kernel
theorem gx208_17 : aF 17 zM208.2.2.2.2.2.2.2 = some (17, (.sipush 150), 3, 0, 0) := by decide +kernel
theorem gx208_20 : aF 20 zM208.2.2.2.2.2.2.2 = some (20, (.if_icmp .ne 6), 3, 26, 0) := by decide +kernel
theorem gx208_26 : aF 26 zM208.2.2.2.2.2.2.2 = some (26, (.aload_n 0), 1, 0, 0) := by decide +kernel
theorem gx208_27 : aF 27 zM208.2.2.2.2.2.2.2 = some (27, (.bipush 6), 2, 0, 0) := by decide +kernel
theorem gx208_29 : aF 29 zM208.2.2.2.2.2.2.2 = some (29, (.invokevirtual 276), 3, 204, 0) := by decide +kernel
theorem gx208_32 : aF 32 zM208.2.2.2.2.2.2.2 = some (32, (.istore_n 2), 1, 0, 0) := by decide +kernel
theorem gx208_33 : aF 33 zM208.2.2.2.2.2.2.2 = some (33, (.aload_n 0), 1, 0, 0) := by decide +kernel
theorem gx208_34 : aF 34 zM208.2.2.2.2.2.2.2 = some (34, (.getfield 28), 3, 12, 9) := by decide +kernel
theorem gx208_37 : aF 37 zM208.2.2.2.2.2.2.2 = some (37, (.iload_n 2), 1, 0, 0) := by decide +kernel
theorem gx208_38 : aF 38 zM208.2.2.2.2.2.2.2 = some (38, (.iload_n 1), 1, 0, 0) := by decide +kernel
theorem gx208_39 : aF 39 zM208.2.2.2.2.2.2.2 = some (39, .iastore, 1, 0, 0) := by decide +kernel
theorem gx208_40 : aF 40 zM208.2.2.2.2.2.2.2 = some (40, (.iload_n 2), 1, 0, 0) := by decide +kernel
theorem gx208_41 : aF 41 zM208.2.2.2.2.2.2.2 = some (41, .ireturn, 1, 0, 0) := by decide +kernel
theorem gx208_23 : aF 23 zM208.2.2.2.2.2.2.2 = some (23, (.bipush (-3)), 2, 0, 0) := by decide +kernel
theorem gx208_25 : aF 25 zM208.2.2.2.2.2.2.2 = some (25, .ireturn, 1, 0, 0) := by decide +kernel
theorem gx208_11 : aF 11 zM208.2.2.2.2.2.2.2 = some (11, (.iconst (-1)), 1, 0, 0) := by decide +kernel
theorem gx208_12 : aF 12 zM208.2.2.2.2.2.2.2 = some (12, .ireturn, 1, 0, 0) := by decide +kernel
theorem gx91_0 : aF 0 zM91.2.2.2.2.2.2.2 = some (0, (.iconst 0), 1, 0, 0) := by decide +kernel
theorem gx91_1 : aF 1 zM91.2.2.2.2.2.2.2 = some (1, (.istore_n 2), 1, 0, 0) := by decide +kernel
theorem gx91_2 : aF 2 zM91.2.2.2.2.2.2.2 = some (2, (.iconst 1), 1, 0, 0) := by decide +kernel
theorem gx91_3 : aF 3 zM91.2.2.2.2.2.2.2 = some (3, (.istore_n 3), 1, 0, 0) := by decide +kernel
theorem gx91_4 : aF 4 zM91.2.2.2.2.2.2.2 = some (4, (.iload_n 3), 1, 0, 0) := by decide +kernel
theorem gx91_5 : aF 5 zM91.2.2.2.2.2.2.2 = some (5, (.aload_n 0), 1, 0, 0) := by decide +kernel
theorem gx91_6 : aF 6 zM91.2.2.2.2.2.2.2 = some (6, (.getfield 18), 3, 7, 2) := by decide +kernel
theorem gx91_9 : aF 9 zM91.2.2.2.2.2.2.2 = some (9, (.if_icmp .ge 65), 3, 74, 0) := by decide +kernel
theorem gx91_74 : aF 74 zM91.2.2.2.2.2.2.2 = some (74, (.iload_n 2), 1, 0, 0) := by decide +kernel
theorem gx91_75 : aF 75 zM91.2.2.2.2.2.2.2 = some (75, .ireturn, 1, 0, 0) := by decide +kernel
theorem gx91_12 : aF 12 zM91.2.2.2.2.2.2.2 = some (12, (.aload_n 0), 1, 0, 0) := by decide +kernel
theorem gx91_13 : aF 13 zM91.2.2.2.2.2.2.2 = some (13, (.getfield 15), 3, 7, 1) := by decide +kernel
theorem gx91_16 : aF 16 zM91.2.2.2.2.2.2.2 = some (16, (.iload_n 3), 1, 0, 0) := by decide +kernel
theorem gx91_17 : aF 17 zM91.2.2.2.2.2.2.2 = some (17, .iaload, 1, 0, 0) := by decide +kernel
theorem gx91_18 : aF 18 zM91.2.2.2.2.2.2.2 = some (18, (.istore 4), 2, 0, 0) := by decide +kernel
theorem gx91_20 : aF 20 zM91.2.2.2.2.2.2.2 = some (20, (.aload_n 0), 1, 0, 0) := by decide +kernel
theorem gx91_21 : aF 21 zM91.2.2.2.2.2.2.2 = some (21, (.getfield 15), 3, 7, 1) := by decide +kernel
theorem gx91_24 : aF 24 zM91.2.2.2.2.2.2.2 = some (24, (.aload_n 0), 1, 0, 0) := by decide +kernel
theorem gx91_25 : aF 25 zM91.2.2.2.2.2.2.2 = some (25, (.iload_n 3), 1, 0, 0) := by decide +kernel
theorem gx91_26 : aF 26 zM91.2.2.2.2.2.2.2 = some (26, (.invokevirtual 26), 3, 92, 0) := by decide +kernel
theorem gx91_29 : aF 29 zM91.2.2.2.2.2.2.2 = some (29, .iaload, 1, 0, 0) := by decide +kernel
theorem gx91_30 : aF 30 zM91.2.2.2.2.2.2.2 = some (30, (.istore 5), 2, 0, 0) := by decide +kernel
theorem gx91_32 : aF 32 zM91.2.2.2.2.2.2.2 = some (32, (.iload 4), 2, 0, 0) := by decide +kernel
theorem gx91_34 : aF 34 zM91.2.2.2.2.2.2.2 = some (34, (.iload 5), 2, 0, 0) := by decide +kernel
theorem gx91_36 : aF 36 zM91.2.2.2.2.2.2.2 = some (36, (.invokestatic 39), 3, 1011, 0) := by decide +kernel
theorem gx91_39 : aF 39 zM91.2.2.2.2.2.2.2 = some (39, (.iload_n 1), 1, 0, 0) := by decide +kernel
theorem gx91_40 : aF 40 zM91.2.2.2.2.2.2.2 = some (40, (.if_icmp .gt 28), 3, 68, 0) := by decide +kernel
theorem gx91_68 : aF 68 zM91.2.2.2.2.2.2.2 = some (68, (.iinc 3 2), 3, 0, 0) := by decide +kernel
theorem gx91_71 : aF 71 zM91.2.2.2.2.2.2.2 = some (71, (.goto (-67)), 3, 4, 0) := by decide +kernel
theorem gx91_43 : aF 43 zM91.2.2.2.2.2.2.2 = some (43, (.iload_n 1), 1, 0, 0) := by decide +kernel
theorem gx91_44 : aF 44 zM91.2.2.2.2.2.2.2 = some (44, (.iload 4), 2, 0, 0) := by decide +kernel
theorem gx91_46 : aF 46 zM91.2.2.2.2.2.2.2 = some (46, (.iload 5), 2, 0, 0) := by decide +kernel
theorem gx91_48 : aF 48 zM91.2.2.2.2.2.2.2 = some (48, (.invokestatic 43), 3, 1010, 0) := by decide +kernel
theorem gx91_51 : aF 51 zM91.2.2.2.2.2.2.2 = some (51, (.if_icmp .ge 17), 3, 68, 0) := by decide +kernel
theorem gx91_54 : aF 54 zM91.2.2.2.2.2.2.2 = some (54, (.iload_n 2), 1, 0, 0) := by decide +kernel
theorem gx91_55 : aF 55 zM91.2.2.2.2.2.2.2 = some (55, (.ldc 46), 2, 16777215, 0) := by decide +kernel
theorem gx91_57 : aF 57 zM91.2.2.2.2.2.2.2 = some (57, (.iconst (-1)), 1, 0, 0) := by decide +kernel
theorem gx91_58 : aF 58 zM91.2.2.2.2.2.2.2 = some (58, (.aload_n 0), 1, 0, 0) := by decide +kernel
theorem gx91_59 : aF 59 zM91.2.2.2.2.2.2.2 = some (59, (.getfield 9), 3, 7, 0) := by decide +kernel
theorem gx91_62 : aF 62 zM91.2.2.2.2.2.2.2 = some (62, (.iload_n 3), 1, 0, 0) := by decide +kernel
theorem gx91_63 : aF 63 zM91.2.2.2.2.2.2.2 = some (63, .iaload, 1, 0, 0) := by decide +kernel
theorem gx91_64 : aF 64 zM91.2.2.2.2.2.2.2 = some (64, .ishl, 1, 0, 0) := by decide +kernel
theorem gx91_65 : aF 65 zM91.2.2.2.2.2.2.2 = some (65, .iand, 1, 0, 0) := by decide +kernel
theorem gx91_66 : aF 66 zM91.2.2.2.2.2.2.2 = some (66, .ixor, 1, 0, 0) := by decide +kernel
theorem gx91_67 : aF 67 zM91.2.2.2.2.2.2.2 = some (67, (.istore_n 2), 1, 0, 0) := by decide +kernel
theorem gx221_0 : aF 0 zM221.2.2.2.2.2.2.2 = some (0, (.iconst 0), 1, 0, 0) := by decide +kernel
theorem gx221_1 : aF 1 zM221.2.2.2.2.2.2.2 = some (1, (.istore_n 3), 1, 0, 0) := by decide +kernel
theorem gx221_2 : aF 2 zM221.2.2.2.2.2.2.2 = some (2, (.iconst 1), 1, 0, 0) := by decide +kernel
theorem gx221_3 : aF 3 zM221.2.2.2.2.2.2.2 = some (3, (.istore 4), 2, 0, 0) := by decide +kernel
theorem gx221_5 : aF 5 zM221.2.2.2.2.2.2.2 = some (5, (.iload 4), 2, 0, 0) := by decide +kernel
theorem gx221_7 : aF 7 zM221.2.2.2.2.2.2.2 = some (7, (.aload_n 0), 1, 0, 0) := by decide +kernel
theorem gx221_8 : aF 8 zM221.2.2.2.2.2.2.2 = some (8, (.getfield 283), 3, 12, 11) := by decide +kernel
theorem gx221_11 : aF 11 zM221.2.2.2.2.2.2.2 = some (11, (.if_icmp .ge 51), 3, 62, 0) := by decide +kernel
theorem gx221_62 : aF 62 zM221.2.2.2.2.2.2.2 = some (62, (.iload_n 3), 1, 0, 0) := by decide +kernel
theorem gx221_63 : aF 63 zM221.2.2.2.2.2.2.2 = some (63, .ireturn, 1, 0, 0) := by decide +kernel
theorem gx221_14 : aF 14 zM221.2.2.2.2.2.2.2 = some (14, (.aload_n 0), 1, 0, 0) := by decide +kernel
theorem gx221_15 : aF 15 zM221.2.2.2.2.2.2.2 = some (15, (.getfield 34), 3, 12, 12) := by decide +kernel
theorem gx221_18 : aF 18 zM221.2.2.2.2.2.2.2 = some (18, (.iload 4), 2, 0, 0) := by decide +kernel
theorem gx221_20 : aF 20 zM221.2.2.2.2.2.2.2 = some (20, .iaload, 1, 0, 0) := by decide +kernel
theorem gx221_21 : aF 21 zM221.2.2.2.2.2.2.2 = some (21, (.iload_n 1), 1, 0, 0) := by decide +kernel
theorem gx221_22 : aF 22 zM221.2.2.2.2.2.2.2 = some (22, (.if_icmp .le 34), 3, 56, 0) := by decide +kernel
theorem gx221_56 : aF 56 zM221.2.2.2.2.2.2.2 = some (56, (.iinc 4 2), 3, 0, 0) := by decide +kernel
theorem gx221_59 : aF 59 zM221.2.2.2.2.2.2.2 = some (59, (.goto (-54)), 3, 5, 0) := by decide +kernel
theorem gx221_25 : aF 25 zM221.2.2.2.2.2.2.2 = some (25, (.iload_n 2), 1, 0, 0) := by decide +kernel
theorem gx221_26 : aF 26 zM221.2.2.2.2.2.2.2 = some (26, (.aload_n 0), 1, 0, 0) := by decide +kernel
theorem gx221_27 : aF 27 zM221.2.2.2.2.2.2.2 = some (27, (.iload 4), 2, 0, 0) := by decide +kernel
theorem gx221_29 : aF 29 zM221.2.2.2.2.2.2.2 = some (29, (.invokevirtual 296), 3, 216, 0) := by decide +kernel
theorem gx221_32 : aF 32 zM221.2.2.2.2.2.2.2 = some (32, (.aload_n 0), 1, 0, 0) := by decide +kernel
theorem gx221_33 : aF 33 zM221.2.2.2.2.2.2.2 = some (33, (.iload 4), 2, 0, 0) := by decide +kernel
theorem gx221_35 : aF 35 zM221.2.2.2.2.2.2.2 = some (35, (.invokevirtual 299), 3, 217, 0) := by decide +kernel
theorem gx221_38 : aF 38 zM221.2.2.2.2.2.2.2 = some (38, (.iconst 1), 1, 0, 0) := by decide +kernel
theorem gx221_39 : aF 39 zM221.2.2.2.2.2.2.2 = some (39, .isub, 1, 0, 0) := by decide +kernel
theorem gx221_40 : aF 40 zM221.2.2.2.2.2.2.2 = some (40, (.invokestatic 258), 3, 196, 0) := by decide +kernel
theorem gx221_43 : aF 43 zM221.2.2.2.2.2.2.2 = some (43, (.ifCond .eq 13), 3, 56, 0) := by decide +kernel
theorem gx221_46 : aF 46 zM221.2.2.2.2.2.2.2 = some (46, (.iload_n 3), 1, 0, 0) := by decide +kernel
theorem gx221_47 : aF 47 zM221.2.2.2.2.2.2.2 = some (47, (.ifCond .ne 7), 3, 54, 0) := by decide +kernel
theorem gx221_54 : aF 54 zM221.2.2.2.2.2.2.2 = some (54, (.iconst 0), 1, 0, 0) := by decide +kernel
theorem gx221_55 : aF 55 zM221.2.2.2.2.2.2.2 = some (55, (.istore_n 3), 1, 0, 0) := by decide +kernel
theorem gx221_50 : aF 50 zM221.2.2.2.2.2.2.2 = some (50, (.iconst 1), 1, 0, 0) := by decide +kernel
theorem gx221_51 : aF 51 zM221.2.2.2.2.2.2.2 = some (51, (.goto 4), 3, 55, 0) := by decide +kernel
theorem gx81_0 : aF 0 zM81.2.2.2.2.2.2.2 = some (0, (.iconst 0), 1, 0, 0) := by decide +kernel
theorem gx81_1 : aF 1 zM81.2.2.2.2.2.2.2 = some (1, (.istore_n 3), 1, 0, 0) := by decide +kernel
theorem gx81_2 : aF 2 zM81.2.2.2.2.2.2.2 = some (2, (.iload_n 3), 1, 0, 0) := by decide +kernel
theorem gx81_3 : aF 3 zM81.2.2.2.2.2.2.2 = some (3, (.bipush 24), 2, 0, 0) := by decide +kernel
theorem gx81_5 : aF 5 zM81.2.2.2.2.2.2.2 = some (5, (.if_icmp .ge 25), 3, 30, 0) := by decide +kernel
theorem gx81_30 : aF 30 zM81.2.2.2.2.2.2.2 = some (30, .return_, 1, 0, 0) := by decide +kernel
theorem gx81_8 : aF 8 zM81.2.2.2.2.2.2.2 = some (8, (.aload_n 0), 1, 0, 0) := by decide +kernel
theorem gx81_9 : aF 9 zM81.2.2.2.2.2.2.2 = some (9, (.getfield 30), 3, 6, 13) := by decide +kernel
theorem gx81_12 : aF 12 zM81.2.2.2.2.2.2.2 = some (12, (.iload_n 1), 1, 0, 0) := by decide +kernel
theorem gx81_13 : aF 13 zM81.2.2.2.2.2.2.2 = some (13, (.bipush 24), 2, 0, 0) := by decide +kernel
theorem gx81_15 : aF 15 zM81.2.2.2.2.2.2.2 = some (15, .imul, 1, 0, 0) := by decide +kernel
theorem gx81_16 : aF 16 zM81.2.2.2.2.2.2.2 = some (16, (.iload_n 3), 1, 0, 0) := by decide +kernel
theorem gx81_17 : aF 17 zM81.2.2.2.2.2.2.2 = some (17, .iadd, 1, 0, 0) := by decide +kernel
theorem gx81_18 : aF 18 zM81.2.2.2.2.2.2.2 = some (18, (.aload_n 2), 1, 0, 0) := by decide +kernel
theorem gx81_19 : aF 19 zM81.2.2.2.2.2.2.2 = some (19, (.iload_n 3), 1, 0, 0) := by decide +kernel
theorem gx81_20 : aF 20 zM81.2.2.2.2.2.2.2 = some (20, (.invokevirtual 86), 3, 91, 0) := by decide +kernel
theorem gx81_23 : aF 23 zM81.2.2.2.2.2.2.2 = some (23, .iastore, 1, 0, 0) := by decide +kernel
theorem gx81_24 : aF 24 zM81.2.2.2.2.2.2.2 = some (24, (.iinc 3 1), 3, 0, 0) := by decide +kernel
theorem gx81_27 : aF 27 zM81.2.2.2.2.2.2.2 = some (27, (.goto (-25)), 3, 2, 0) := by decide +kernel
theorem gx150_0 : aF 0 zM150.2.2.2.2.2.2.2 = some (0, (.aload_n 0), 1, 0, 0) := by decide +kernel
theorem gx150_1 : aF 1 zM150.2.2.2.2.2.2.2 = some (1, (.getfield 12), 3, 11, 0) := by decide +kernel
theorem gx150_4 : aF 4 zM150.2.2.2.2.2.2.2 = some (4, (.iload_n 1), 1, 0, 0) := by decide +kernel
theorem gx150_5 : aF 5 zM150.2.2.2.2.2.2.2 = some (5, (.invokevirtual 121), 3, 75, 0) := by decide +kernel
theorem gx150_8 : aF 8 zM150.2.2.2.2.2.2.2 = some (8, (.ifCond .eq 12), 3, 20, 0) := by decide +kernel
theorem gx150_20 : aF 20 zM150.2.2.2.2.2.2.2 = some (20, (.iconst (-1)), 1, 0, 0) := by decide +kernel
theorem gx150_21 : aF 21 zM150.2.2.2.2.2.2.2 = some (21, .ireturn, 1, 0, 0) := by decide +kernel
theorem gx150_11 : aF 11 zM150.2.2.2.2.2.2.2 = some (11, (.iload_n 2), 1, 0, 0) := by decide +kernel
theorem gx150_12 : aF 12 zM150.2.2.2.2.2.2.2 = some (12, (.iconst 0), 1, 0, 0) := by decide +kernel
theorem gx150_13 : aF 13 zM150.2.2.2.2.2.2.2 = some (13, (.iconst 1), 1, 0, 0) := by decide +kernel
theorem gx150_14 : aF 14 zM150.2.2.2.2.2.2.2 = some (14, (.invokestatic 85), 3, 137, 0) := by decide +kernel
theorem gx150_17 : aF 17 zM150.2.2.2.2.2.2.2 = some (17, (.ifCond .ne 5), 3, 22, 0) := by decide +kernel
theorem gx150_22 : aF 22 zM150.2.2.2.2.2.2.2 = some (22, (.aload_n 0), 1, 0, 0) := by decide +kernel
theorem gx150_23 : aF 23 zM150.2.2.2.2.2.2.2 = some (23, (.getfield 19), 3, 11, 1) := by decide +kernel
theorem gx150_26 : aF 26 zM150.2.2.2.2.2.2.2 = some (26, (.invokevirtual 114), 3, 89, 0) := by decide +kernel
theorem gx150_29 : aF 29 zM150.2.2.2.2.2.2.2 = some (29, (.ifCond .ne 6), 3, 35, 0) := by decide +kernel
theorem gx150_35 : aF 35 zM150.2.2.2.2.2.2.2 = some (35, (.aload_n 0), 1, 0, 0) := by decide +kernel
theorem gx150_36 : aF 36 zM150.2.2.2.2.2.2.2 = some (36, (.getfield 12), 3, 11, 0) := by decide +kernel
theorem gx150_39 : aF 39 zM150.2.2.2.2.2.2.2 = some (39, (.invokevirtual 97), 3, 73, 0) := by decide +kernel
theorem gx150_42 : aF 42 zM150.2.2.2.2.2.2.2 = some (42, (.ifCond .eq 6), 3, 48, 0) := by decide +kernel
theorem gx150_48 : aF 48 zM150.2.2.2.2.2.2.2 = some (48, (.aload_n 0), 1, 0, 0) := by decide +kernel
theorem gx150_49 : aF 49 zM150.2.2.2.2.2.2.2 = some (49, (.getfield 12), 3, 11, 0) := by decide +kernel
theorem gx150_52 : aF 52 zM150.2.2.2.2.2.2.2 = some (52, (.iload_n 2), 1, 0, 0) := by decide +kernel
theorem gx150_53 : aF 53 zM150.2.2.2.2.2.2.2 = some (53, (.iconst 1), 1, 0, 0) := by decide +kernel
theorem gx150_54 : aF 54 zM150.2.2.2.2.2.2.2 = some (54, (.if_icmp .ne 7), 3, 61, 0) := by decide +kernel
theorem gx150_61 : aF 61 zM150.2.2.2.2.2.2.2 = some (61, (.iconst 4), 1, 0, 0) := by decide +kernel
theorem gx150_62 : aF 62 zM150.2.2.2.2.2.2.2 = some (62, (.aload_n 0), 1, 0, 0) := by decide +kernel
theorem gx150_63 : aF 63 zM150.2.2.2.2.2.2.2 = some (63, (.getfield 19), 3, 11, 1) := by decide +kernel
theorem gx150_66 : aF 66 zM150.2.2.2.2.2.2.2 = some (66, (.invokevirtual 117), 3, 90, 0) := by decide +kernel
theorem gx150_69 : aF 69 zM150.2.2.2.2.2.2.2 = some (69, (.iload_n 1), 1, 0, 0) := by decide +kernel
theorem gx150_70 : aF 70 zM150.2.2.2.2.2.2.2 = some (70, (.invokevirtual 101), 3, 79, 0) := by decide +kernel
theorem gx150_73 : aF 73 zM150.2.2.2.2.2.2.2 = some (73, (.istore_n 3), 1, 0, 0) := by decide +kernel
theorem gx150_74 : aF 74 zM150.2.2.2.2.2.2.2 = some (74, (.aload_n 0), 1, 0, 0) := by decide +kernel
theorem gx150_75 : aF 75 zM150.2.2.2.2.2.2.2 = some (75, (.getfield 12), 3, 11, 0) := by decide +kernel
theorem gx150_78 : aF 78 zM150.2.2.2.2.2.2.2 = some (78, (.iload_n 3), 1, 0, 0) := by decide +kernel
theorem gx150_79 : aF 79 zM150.2.2.2.2.2.2.2 = some (79, (.aload_n 0), 1, 0, 0) := by decide +kernel
theorem gx150_80 : aF 80 zM150.2.2.2.2.2.2.2 = some (80, (.getfield 19), 3, 11, 1) := by decide +kernel
theorem gx150_83 : aF 83 zM150.2.2.2.2.2.2.2 = some (83, (.invokevirtual 124), 3, 81, 0) := by decide +kernel
theorem gx150_86 : aF 86 zM150.2.2.2.2.2.2.2 = some (86, (.aload_n 0), 1, 0, 0) := by decide +kernel
theorem gx150_87 : aF 87 zM150.2.2.2.2.2.2.2 = some (87, (.getfield 19), 3, 11, 1) := by decide +kernel
theorem gx150_90 : aF 90 zM150.2.2.2.2.2.2.2 = some (90, (.iconst 0), 1, 0, 0) := by decide +kernel
theorem gx150_91 : aF 91 zM150.2.2.2.2.2.2.2 = some (91, (.putfield 108), 3, 7, 2) := by decide +kernel
theorem gx150_94 : aF 94 zM150.2.2.2.2.2.2.2 = some (94, (.iload_n 3), 1, 0, 0) := by decide +kernel
theorem gx150_95 : aF 95 zM150.2.2.2.2.2.2.2 = some (95, .ireturn, 1, 0, 0) := by decide +kernel
theorem gx150_57 : aF 57 zM150.2.2.2.2.2.2.2 = some (57, (.iconst 5), 1, 0, 0) := by decide +kernel
theorem gx150_58 : aF 58 zM150.2.2.2.2.2.2.2 = some (58, (.goto 4), 3, 62, 0) := by decide +kernel
theorem gx150_45 : aF 45 zM150.2.2.2.2.2.2.2 = some (45, (.bipush (-3)), 2, 0, 0) := by decide +kernel
theorem gx150_47 : aF 47 zM150.2.2.2.2.2.2.2 = some (47, .ireturn, 1, 0, 0) := by decide +kernel
theorem gx150_32 : aF 32 zM150.2.2.2.2.2.2.2 = some (32, (.bipush (-2)), 2, 0, 0) := by decide +kernel
theorem gx150_34 : aF 34 zM150.2.2.2.2.2.2.2 = some (34, .ireturn, 1, 0, 0) := by decide +kernel
theorem gx222_0 : aF 0 zM222.2.2.2.2.2.2.2 = some (0, (.aload_n 0), 1, 0, 0) := by decide +kernel
theorem gx222_1 : aF 1 zM222.2.2.2.2.2.2.2 = some (1, (.iload_n 1), 1, 0, 0) := by decide +kernel
theorem gx222_2 : aF 2 zM222.2.2.2.2.2.2.2 = some (2, (.invokevirtual 316), 3, 202, 0) := by decide +kernel
theorem gx222_5 : aF 5 zM222.2.2.2.2.2.2.2 = some (5, (.ifCond .eq 12), 3, 17, 0) := by decide +kernel
theorem gx222_17 : aF 17 zM222.2.2.2.2.2.2.2 = some (17, (.iconst (-1)), 1, 0, 0) := by decide +kernel
theorem gx222_18 : aF 18 zM222.2.2.2.2.2.2.2 = some (18, .ireturn, 1, 0, 0) := by decide +kernel
theorem gx222_8 : aF 8 zM222.2.2.2.2.2.2.2 = some (8, (.iload_n 2), 1, 0, 0) := by decide +kernel
theorem gx222_9 : aF 9 zM222.2.2.2.2.2.2.2 = some (9, (.iconst 0), 1, 0, 0) := by decide +kernel
theorem gx222_10 : aF 10 zM222.2.2.2.2.2.2.2 = some (10, (.iconst 1), 1, 0, 0) := by decide +kernel
theorem gx222_11 : aF 11 zM222.2.2.2.2.2.2.2 = some (11, (.invokestatic 258), 3, 196, 0) := by decide +kernel
theorem gx222_14 : aF 14 zM222.2.2.2.2.2.2.2 = some (14, (.ifCond .ne 5), 3, 19, 0) := by decide +kernel
theorem gx222_19 : aF 19 zM222.2.2.2.2.2.2.2 = some (19, (.aload_n 0), 1, 0, 0) := by decide +kernel
theorem gx222_20 : aF 20 zM222.2.2.2.2.2.2.2 = some (20, (.invokevirtual 308), 3, 218, 0) := by decide +kernel
theorem gx222_23 : aF 23 zM222.2.2.2.2.2.2.2 = some (23, (.ifCond .ne 6), 3, 29, 0) := by decide +kernel
theorem gx222_29 : aF 29 zM222.2.2.2.2.2.2.2 = some (29, (.aload_n 0), 1, 0, 0) := by decide +kernel
theorem gx222_30 : aF 30 zM222.2.2.2.2.2.2.2 = some (30, (.getfield 265), 3, 12, 2) := by decide +kernel
theorem gx222_33 : aF 33 zM222.2.2.2.2.2.2.2 = some (33, (.sipush 150), 3, 0, 0) := by decide +kernel
theorem gx222_36 : aF 36 zM222.2.2.2.2.2.2.2 = some (36, (.if_icmp .ne 6), 3, 42, 0) := by decide +kernel
theorem gx222_42 : aF 42 zM222.2.2.2.2.2.2.2 = some (42, (.aload_n 0), 1, 0, 0) := by decide +kernel
theorem gx222_43 : aF 43 zM222.2.2.2.2.2.2.2 = some (43, (.iload_n 2), 1, 0, 0) := by decide +kernel
theorem gx222_44 : aF 44 zM222.2.2.2.2.2.2.2 = some (44, (.iconst 1), 1, 0, 0) := by decide +kernel
theorem gx222_45 : aF 45 zM222.2.2.2.2.2.2.2 = some (45, (.if_icmp .ne 7), 3, 52, 0) := by decide +kernel
theorem gx222_52 : aF 52 zM222.2.2.2.2.2.2.2 = some (52, (.iconst 4), 1, 0, 0) := by decide +kernel
theorem gx222_53 : aF 53 zM222.2.2.2.2.2.2.2 = some (53, (.invokevirtual 276), 3, 204, 0) := by decide +kernel
theorem gx222_56 : aF 56 zM222.2.2.2.2.2.2.2 = some (56, (.istore_n 3), 1, 0, 0) := by decide +kernel
theorem gx222_57 : aF 57 zM222.2.2.2.2.2.2.2 = some (57, (.aload_n 0), 1, 0, 0) := by decide +kernel
theorem gx222_58 : aF 58 zM222.2.2.2.2.2.2.2 = some (58, (.getfield 16), 3, 12, 5) := by decide +kernel
theorem gx222_61 : aF 61 zM222.2.2.2.2.2.2.2 = some (61, (.iload_n 3), 1, 0, 0) := by decide +kernel
theorem gx222_62 : aF 62 zM222.2.2.2.2.2.2.2 = some (62, (.iload_n 1), 1, 0, 0) := by decide +kernel
theorem gx222_63 : aF 63 zM222.2.2.2.2.2.2.2 = some (63, .iastore, 1, 0, 0) := by decide +kernel
theorem gx222_64 : aF 64 zM222.2.2.2.2.2.2.2 = some (64, (.aload_n 0), 1, 0, 0) := by decide +kernel
theorem gx222_65 : aF 65 zM222.2.2.2.2.2.2.2 = some (65, (.getfield 25), 3, 12, 8) := by decide +kernel
theorem gx222_68 : aF 68 zM222.2.2.2.2.2.2.2 = some (68, (.iload_n 3), 1, 0, 0) := by decide +kernel
theorem gx222_69 : aF 69 zM222.2.2.2.2.2.2.2 = some (69, (.aload_n 0), 1, 0, 0) := by decide +kernel
theorem gx222_70 : aF 70 zM222.2.2.2.2.2.2.2 = some (70, (.invokevirtual 312), 3, 219, 0) := by decide +kernel
theorem gx222_73 : aF 73 zM222.2.2.2.2.2.2.2 = some (73, .iastore, 1, 0, 0) := by decide +kernel
theorem gx222_74 : aF 74 zM222.2.2.2.2.2.2.2 = some (74, (.iconst 0), 1, 0, 0) := by decide +kernel
theorem gx222_75 : aF 75 zM222.2.2.2.2.2.2.2 = some (75, (.istore 4), 2, 0, 0) := by decide +kernel
theorem gx222_48 : aF 48 zM222.2.2.2.2.2.2.2 = some (48, (.iconst 5), 1, 0, 0) := by decide +kernel
theorem gx222_49 : aF 49 zM222.2.2.2.2.2.2.2 = some (49, (.goto 4), 3, 53, 0) := by decide +kernel
theorem gx222_39 : aF 39 zM222.2.2.2.2.2.2.2 = some (39, (.bipush (-3)), 2, 0, 0) := by decide +kernel
theorem gx222_41 : aF 41 zM222.2.2.2.2.2.2.2 = some (41, .ireturn, 1, 0, 0) := by decide +kernel
theorem gx222_26 : aF 26 zM222.2.2.2.2.2.2.2 = some (26, (.bipush (-2)), 2, 0, 0) := by decide +kernel
theorem gx222_28 : aF 28 zM222.2.2.2.2.2.2.2 = some (28, .ireturn, 1, 0, 0) := by decide +kernel
theorem gx222_77 : aF 77 zM222.2.2.2.2.2.2.2 = some (77, (.iload 4), 2, 0, 0) := by decide +kernel
theorem gx222_79 : aF 79 zM222.2.2.2.2.2.2.2 = some (79, (.bipush 24), 2, 0, 0) := by decide +kernel
theorem gx222_81 : aF 81 zM222.2.2.2.2.2.2.2 = some (81, (.if_icmp .ge 66), 3, 147, 0) := by decide +kernel
theorem gx222_147 : aF 147 zM222.2.2.2.2.2.2.2 = some (147, (.aload_n 0), 1, 0, 0) := by decide +kernel
theorem gx222_148 : aF 148 zM222.2.2.2.2.2.2.2 = some (148, (.iconst 0), 1, 0, 0) := by decide +kernel
theorem gx222_149 : aF 149 zM222.2.2.2.2.2.2.2 = some (149, (.putfield 283), 3, 12, 11) := by decide +kernel
theorem gx222_152 : aF 152 zM222.2.2.2.2.2.2.2 = some (152, (.iload_n 3), 1, 0, 0) := by decide +kernel
theorem gx222_153 : aF 153 zM222.2.2.2.2.2.2.2 = some (153, .ireturn, 1, 0, 0) := by decide +kernel
theorem gx222_84 : aF 84 zM222.2.2.2.2.2.2.2 = some (84, (.iconst 0), 1, 0, 0) := by decide +kernel
theorem gx222_85 : aF 85 zM222.2.2.2.2.2.2.2 = some (85, (.istore 5), 2, 0, 0) := by decide +kernel
theorem gx222_87 : aF 87 zM222.2.2.2.2.2.2.2 = some (87, (.iconst 0), 1, 0, 0) := by decide +kernel
theorem gx222_88 : aF 88 zM222.2.2.2.2.2.2.2 = some (88, (.istore 6), 2, 0, 0) := by decide +kernel
theorem gx222_90 : aF 90 zM222.2.2.2.2.2.2.2 = some (90, (.iload 6), 2, 0, 0) := by decide +kernel
theorem gx222_92 : aF 92 zM222.2.2.2.2.2.2.2 = some (92, (.bipush 24), 2, 0, 0) := by decide +kernel
theorem gx222_94 : aF 94 zM222.2.2.2.2.2.2.2 = some (94, (.if_icmp .ge 33), 3, 127, 0) := by decide +kernel
theorem gx222_127 : aF 127 zM222.2.2.2.2.2.2.2 = some (127, (.aload_n 0), 1, 0, 0) := by decide +kernel
theorem gx222_128 : aF 128 zM222.2.2.2.2.2.2.2 = some (128, (.getfield 31), 3, 12, 10) := by decide +kernel
theorem gx222_131 : aF 131 zM222.2.2.2.2.2.2.2 = some (131, (.bipush 24), 2, 0, 0) := by decide +kernel
theorem gx222_133 : aF 133 zM222.2.2.2.2.2.2.2 = some (133, (.iload_n 3), 1, 0, 0) := by decide +kernel
theorem gx222_134 : aF 134 zM222.2.2.2.2.2.2.2 = some (134, .imul, 1, 0, 0) := by decide +kernel
theorem gx222_135 : aF 135 zM222.2.2.2.2.2.2.2 = some (135, (.iload 4), 2, 0, 0) := by decide +kernel
theorem gx222_137 : aF 137 zM222.2.2.2.2.2.2.2 = some (137, .iadd, 1, 0, 0) := by decide +kernel
theorem gx222_138 : aF 138 zM222.2.2.2.2.2.2.2 = some (138, (.iload 5), 2, 0, 0) := by decide +kernel
theorem gx222_140 : aF 140 zM222.2.2.2.2.2.2.2 = some (140, .iastore, 1, 0, 0) := by decide +kernel
theorem gx222_141 : aF 141 zM222.2.2.2.2.2.2.2 = some (141, (.iinc 4 1), 3, 0, 0) := by decide +kernel
theorem gx222_144 : aF 144 zM222.2.2.2.2.2.2.2 = some (144, (.goto (-67)), 3, 77, 0) := by decide +kernel
theorem gx222_97 : aF 97 zM222.2.2.2.2.2.2.2 = some (97, (.iload 5), 2, 0, 0) := by decide +kernel
theorem gx222_99 : aF 99 zM222.2.2.2.2.2.2.2 = some (99, (.aload_n 0), 1, 0, 0) := by decide +kernel
theorem gx222_100 : aF 100 zM222.2.2.2.2.2.2.2 = some (100, (.iload 6), 2, 0, 0) := by decide +kernel
theorem gx222_102 : aF 102 zM222.2.2.2.2.2.2.2 = some (102, (.iload 4), 2, 0, 0) := by decide +kernel
theorem gx222_104 : aF 104 zM222.2.2.2.2.2.2.2 = some (104, (.invokevirtual 319), 3, 221, 0) := by decide +kernel
theorem gx222_107 : aF 107 zM222.2.2.2.2.2.2.2 = some (107, (.ifCond .eq 10), 3, 117, 0) := by decide +kernel
theorem gx222_117 : aF 117 zM222.2.2.2.2.2.2.2 = some (117, (.iconst 0), 1, 0, 0) := by decide +kernel
theorem gx222_118 : aF 118 zM222.2.2.2.2.2.2.2 = some (118, .ior, 1, 0, 0) := by decide +kernel
theorem gx222_119 : aF 119 zM222.2.2.2.2.2.2.2 = some (119, (.istore 5), 2, 0, 0) := by decide +kernel
theorem gx222_121 : aF 121 zM222.2.2.2.2.2.2.2 = some (121, (.iinc 6 1), 3, 0, 0) := by decide +kernel
theorem gx222_124 : aF 124 zM222.2.2.2.2.2.2.2 = some (124, (.goto (-34)), 3, 90, 0) := by decide +kernel
theorem gx222_110 : aF 110 zM222.2.2.2.2.2.2.2 = some (110, (.iconst 1), 1, 0, 0) := by decide +kernel
theorem gx222_111 : aF 111 zM222.2.2.2.2.2.2.2 = some (111, (.iload 6), 2, 0, 0) := by decide +kernel
theorem gx222_113 : aF 113 zM222.2.2.2.2.2.2.2 = some (113, .ishl, 1, 0, 0) := by decide +kernel
theorem gx222_114 : aF 114 zM222.2.2.2.2.2.2.2 = some (114, (.goto 4), 3, 118, 0) := by decide +kernel
theorem d79_0 {n : Nat} {X : aX} {h : aH} {P : Int → aH → Prop} {x1 x2 x3 : Int32} {a1 a2 a3 : Int} (S : wS h) (z1 : x1.toInt = a1) (z2 : x2.toInt = a2) (z3 : x3.toInt = a3) (H : ((¬ (150 ≤ (vw h) 1 1) → (0 ≤ vw h 1 1 → vw h 1 1 < 150 → ((¬ (kFarm a1) → ((¬ (4 ≤ a1 ∧ a1 ≤ 5) → ∀ h_33 : aH, wS h_33 → vw h_33 = up (up (up (up (up (up (up (up (vw h) 2 (vw h 1 1) a1) 3 (vw h 1 1) a2) 7 (vw h 1 1) a3) 4 (vw h 1 1) (vw h 1 0)) 5 (vw h 1 1) (-1)) 1 2 (w32 ((vw h 1 2) + 0))) 1 3 (w32 ((vw h 1 3) + 0))) 1 1 (w32 ((vw h 1 1) + 1)) → P (vw h 1 1) h_33) ∧ ((4 ≤ a1 ∧ a1 ≤ 5) → ∀ h_40 : aH, wS h_40 → vw h_40 = up (up (up (up (up (up (up (up (vw h) 2 (vw h 1 1) a1) 3 (vw h 1 1) a2) 7 (vw h 1 1) a3) 4 (vw h 1 1) (vw h 1 0)) 5 (vw h 1 1) (-1)) 1 2 (w32 ((vw h 1 2) + 0))) 1 3 (w32 ((vw h 1 3) + 1))) 1 1 (w32 ((vw h 1 1) + 1)) → P (vw h 1 1) h_40))) ∧ ((kFarm a1) → ((¬ (4 ≤ a1 ∧ a1 ≤ 5) → ∀ h_55 : aH, wS h_55 → vw h_55 = up (up (up (up (up (up (up (up (vw h) 2 (vw h 1 1) a1) 3 (vw h 1 1) a2) 7 (vw h 1 1) a3) 4 (vw h 1 1) (vw h 1 0)) 5 (vw h 1 1) (-1)) 1 2 (w32 ((vw h 1 2) + 1))) 1 3 (w32 ((vw h 1 3) + 0))) 1 1 (w32 ((vw h 1 1) + 1)) → P (vw h 1 1) h_55) ∧ ((4 ≤ a1 ∧ a1 ≤ 5) → ∀ h_62 : aH, wS h_62 → vw h_62 = up (up (up (up (up (up (up (up (vw h) 2 (vw h 1 1) a1) 3 (vw h 1 1) a2) 7 (vw h 1 1) a3) 4 (vw h 1 1) (vw h 1 0)) 5 (vw h 1 1) (-1)) 1 2 (w32 ((vw h 1 2) + 1))) 1 3 (w32 ((vw h 1 3) + 1))) 1 1 (w32 ((vw h 1 1) + 1)) → P (vw h 1 1) h_62)))))) ∧ ((150 ≤ (vw h) 1 1) → P (-3) h))) : Pt (n + 1) X zM79 0 [some (.ref 1), some (.int x1), some (.int x2), some (.int x3), none] [] h (qI P) := by
  refine pt_1 (fun n d => r_aloadn gx79_0 rfl) ?_
  refine pt_d (pt_getI (B := 1) gx79_1 S (fun v1 h1 => ?_))
  refine pt_d (pt_1 (fun n d => r_istore (L' := [some (.ref 1), some (.int x1), some (.int x2), some (.int x3), some (.int v1)]) gx79_4 rfl rfl) ?_)
  refine pt_d (pt_1 (fun n d => r_aloadn gx79_6 rfl) ?_)
  refine pt_d (pt_virt (as := []) (r := []) gx79_7 rfl (show zmt[73]? = some zM73 from rfl) rfl rfl rfl rfl (c_73 S) (kqP (fun v2 h2 => ?_)))
  show Pt _ _ _ 10 _ [.int v2] _ _
  refine pt_d (pt_ifB_eq gx79_10 h2 (fun e3 => ?_) (fun e3 => ?_))
  · have H := H.1 e3
    refine pt_d (pt_1 (fun n d => r_aloadn gx79_16 rfl) ?_)
    refine pt_d (pt_getR gx79_17 S tr_1_7 ?_)
    refine pt_d (pt_1 (fun n d => r_iload gx79_20 rfl) ?_)
    refine pt_d (pt_1 (fun n d => r_iloadn gx79_22 rfl) ?_)
    refine pt_d (pt_iast (N' := 150) gx79_23 S tl_2 h1 z1 (fun h_5 S5 p5 q5 e5 => ?_))
    have H := H p5 q5
    refine pt_d (pt_1 (fun n d => r_aloadn gx79_24 rfl) ?_)
    refine pt_d (pt_getR gx79_25 S5 tr_1_8 ?_)
    refine pt_d (pt_1 (fun n d => r_iload gx79_28 rfl) ?_)
    refine pt_d (pt_1 (fun n d => r_iloadn gx79_30 rfl) ?_)
    refine pt_d (pt_iast (N' := 150) gx79_31 S5 tl_3 h1 z2 (fun h_7 S7 p7 q7 e7 => ?_))
    refine pt_d (pt_1 (fun n d => r_aloadn gx79_32 rfl) ?_)
    refine pt_d (pt_getR gx79_33 S7 tr_1_12 ?_)
    refine pt_d (pt_1 (fun n d => r_iload gx79_36 rfl) ?_)
    refine pt_d (pt_1 (fun n d => r_iloadn gx79_38 rfl) ?_)
    refine pt_d (pt_iast (N' := 150) gx79_39 S7 tl_7 h1 z3 (fun h_9 S9 p9 q9 e9 => ?_))
    refine pt_d (pt_1 (fun n d => r_aloadn gx79_40 rfl) ?_)
    refine pt_d (pt_getR gx79_41 S9 tr_1_9 ?_)
    refine pt_d (pt_1 (fun n d => r_iload gx79_44 rfl) ?_)
    refine pt_d (pt_1 (fun n d => r_aloadn gx79_46 rfl) ?_)
    refine pt_d (pt_getI (B := 0) gx79_47 S9 (fun v11 h11 => ?_))
    have h11 : v11.toInt = vw h 1 0 := by rw [h11, e9, up_c (by decide), e7, up_c (by decide), e5, up_c (by decide)]
    refine pt_d (pt_iast (N' := 150) gx79_50 S9 tl_4 h1 h11 (fun h_12 S12 p12 q12 e12 => ?_))
    refine pt_d (pt_1 (fun n d => r_aloadn gx79_51 rfl) ?_)
    refine pt_d (pt_getR gx79_52 S12 tr_1_10 ?_)
    refine pt_d (pt_1 (fun n d => r_iload gx79_55 rfl) ?_)
    refine pt_d (pt_iconst gx79_57 (fun v14 h14 => ?_))
    refine pt_d (pt_iast (N' := 150) gx79_58 S12 tl_5 h1 h14 (fun h_15 S15 p15 q15 e15 => ?_))
    refine pt_d (pt_1 (fun n d => r_aloadn gx79_59 rfl) ?_)
    refine pt_d (pt_1 (fun n d => r_dup gx79_60 rfl) ?_)
    refine pt_d (pt_getI (B := 2) gx79_61 S15 (fun v16 h16 => ?_))
    have h16 : v16.toInt = vw h 1 2 := by rw [h16, e15, up_c (by decide), e12, up_c (by decide), e9, up_c (by decide), e7, up_c (by decide), e5, up_c (by decide)]
    refine pt_d (pt_1 (fun n d => r_iloadn gx79_64 rfl) ?_)
    refine pt_d (pt_stat (as := [.int x1]) (r := [.int v16, .ref 1]) gx79_65 rfl (show zmt[71]? = some zM71 from rfl) rfl rfl rfl rfl (c_71 S15 z1) (kqP (fun v17 h17 => ?_)))
    show Pt _ _ _ 68 _ [.int v17, .int v16, .ref 1] _ _
    refine pt_d (pt_ifB_eq gx79_68 h17 (fun e18 => ?_) (fun e18 => ?_))
    · have H := H.1 e18
      refine pt_d (pt_iconst gx79_75 (fun v19 h19 => ?_))
      refine pt_d (pt_iadd gx79_76 h16 h19 (fun v20 h20 => ?_))
      refine pt_d (pt_putI (B := 2) gx79_77 S15 h20 (fun h_21 S21 e21 => ?_))
      refine pt_d (pt_1 (fun n d => r_aloadn gx79_80 rfl) ?_)
      refine pt_d (pt_1 (fun n d => r_dup gx79_81 rfl) ?_)
      refine pt_d (pt_getI (B := 3) gx79_82 S21 (fun v22 h22 => ?_))
      have h22 : v22.toInt = vw h 1 3 := by rw [h22, e21, up_j (by decide), e15, up_c (by decide), e12, up_c (by decide), e9, up_c (by decide), e7, up_c (by decide), e5, up_c (by decide)]
      refine pt_d (pt_1 (fun n d => r_iloadn gx79_85 rfl) ?_)
      refine pt_d (pt_iconst gx79_86 (fun v23 h23 => ?_))
      refine pt_d (pt_iconst gx79_87 (fun v24 h24 => ?_))
      refine pt_d (pt_stat (as := [.int x1, .int v23, .int v24]) (r := [.int v22, .ref 1]) gx79_88 rfl (show zmt[137]? = some zM137 from rfl) rfl rfl rfl rfl (c_137 S21 z1 h23 h24) (kqP (fun v25 h25 => ?_)))
      show Pt _ _ _ 91 _ [.int v25, .int v22, .ref 1] _ _
      refine pt_d (pt_ifB_eq gx79_91 h25 (fun e26 => ?_) (fun e26 => ?_))
      · have H := H.1 e26
        refine pt_d (pt_iconst gx79_98 (fun v27 h27 => ?_))
        refine pt_d (pt_iadd gx79_99 h22 h27 (fun v28 h28 => ?_))
        refine pt_d (pt_putI (B := 3) gx79_100 S21 h28 (fun h_29 S29 e29 => ?_))
        refine pt_d (pt_1 (fun n d => r_aloadn gx79_103 rfl) ?_)
        refine pt_d (pt_1 (fun n d => r_dup gx79_104 rfl) ?_)
        refine pt_d (pt_getI (B := 1) gx79_105 S29 (fun v30 h30 => ?_))
        have h30 : v30.toInt = vw h 1 1 := by rw [h30, e29, up_j (by decide), e21, up_j (by decide), e15, up_c (by decide), e12, up_c (by decide), e9, up_c (by decide), e7, up_c (by decide), e5, up_c (by decide)]
        refine pt_d (pt_iconst gx79_108 (fun v31 h31 => ?_))
        refine pt_d (pt_iadd gx79_109 h30 h31 (fun v32 h32 => ?_))
        refine pt_d (pt_putI (B := 1) gx79_110 S29 h32 (fun h_33 S33 e33 => ?_))
        refine pt_d (pt_1 (fun n d => r_iload gx79_113 rfl) ?_)
        have H := H h_33 S33 (by rw [e33, e29, e21, e15, e12, e9, e7, e5])
        exact pt_d (pt_iret gx79_115 ⟨_, rfl, by rw [h1]; exact H⟩)
      · have H := H.2 e26
        refine pt_d (pt_iconst gx79_94 (fun v34 h34 => ?_))
        refine pt_d (pt_1 (fun n d => r_goto gx79_95) ?_)
        refine pt_d (pt_iadd gx79_99 h22 h34 (fun v35 h35 => ?_))
        refine pt_d (pt_putI (B := 3) gx79_100 S21 h35 (fun h_36 S36 e36 => ?_))
        refine pt_d (pt_1 (fun n d => r_aloadn gx79_103 rfl) ?_)
        refine pt_d (pt_1 (fun n d => r_dup gx79_104 rfl) ?_)
        refine pt_d (pt_getI (B := 1) gx79_105 S36 (fun v37 h37 => ?_))
        have h37 : v37.toInt = vw h 1 1 := by rw [h37, e36, up_j (by decide), e21, up_j (by decide), e15, up_c (by decide), e12, up_c (by decide), e9, up_c (by decide), e7, up_c (by decide), e5, up_c (by decide)]
        refine pt_d (pt_iconst gx79_108 (fun v38 h38 => ?_))
        refine pt_d (pt_iadd gx79_109 h37 h38 (fun v39 h39 => ?_))
        refine pt_d (pt_putI (B := 1) gx79_110 S36 h39 (fun h_40 S40 e40 => ?_))
        refine pt_d (pt_1 (fun n d => r_iload gx79_113 rfl) ?_)
        have H := H h_40 S40 (by rw [e40, e36, e21, e15, e12, e9, e7, e5])
        exact pt_d (pt_iret gx79_115 ⟨_, rfl, by rw [h1]; exact H⟩)
    · have H := H.2 e18
      refine pt_d (pt_iconst gx79_71 (fun v41 h41 => ?_))
      refine pt_d (pt_1 (fun n d => r_goto gx79_72) ?_)
      refine pt_d (pt_iadd gx79_76 h16 h41 (fun v42 h42 => ?_))
      refine pt_d (pt_putI (B := 2) gx79_77 S15 h42 (fun h_43 S43 e43 => ?_))
      refine pt_d (pt_1 (fun n d => r_aloadn gx79_80 rfl) ?_)
      refine pt_d (pt_1 (fun n d => r_dup gx79_81 rfl) ?_)
      refine pt_d (pt_getI (B := 3) gx79_82 S43 (fun v44 h44 => ?_))
      have h44 : v44.toInt = vw h 1 3 := by rw [h44, e43, up_j (by decide), e15, up_c (by decide), e12, up_c (by decide), e9, up_c (by decide), e7, up_c (by decide), e5, up_c (by decide)]
      refine pt_d (pt_1 (fun n d => r_iloadn gx79_85 rfl) ?_)
      refine pt_d (pt_iconst gx79_86 (fun v45 h45 => ?_))
      refine pt_d (pt_iconst gx79_87 (fun v46 h46 => ?_))
      refine pt_d (pt_stat (as := [.int x1, .int v45, .int v46]) (r := [.int v44, .ref 1]) gx79_88 rfl (show zmt[137]? = some zM137 from rfl) rfl rfl rfl rfl (c_137 S43 z1 h45 h46) (kqP (fun v47 h47 => ?_)))
      show Pt _ _ _ 91 _ [.int v47, .int v44, .ref 1] _ _
      refine pt_d (pt_ifB_eq gx79_91 h47 (fun e48 => ?_) (fun e48 => ?_))
      · have H := H.1 e48
        refine pt_d (pt_iconst gx79_98 (fun v49 h49 => ?_))
        refine pt_d (pt_iadd gx79_99 h44 h49 (fun v50 h50 => ?_))
        refine pt_d (pt_putI (B := 3) gx79_100 S43 h50 (fun h_51 S51 e51 => ?_))
        refine pt_d (pt_1 (fun n d => r_aloadn gx79_103 rfl) ?_)
        refine pt_d (pt_1 (fun n d => r_dup gx79_104 rfl) ?_)
        refine pt_d (pt_getI (B := 1) gx79_105 S51 (fun v52 h52 => ?_))
        have h52 : v52.toInt = vw h 1 1 := by rw [h52, e51, up_j (by decide), e43, up_j (by decide), e15, up_c (by decide), e12, up_c (by decide), e9, up_c (by decide), e7, up_c (by decide), e5, up_c (by decide)]
        refine pt_d (pt_iconst gx79_108 (fun v53 h53 => ?_))
        refine pt_d (pt_iadd gx79_109 h52 h53 (fun v54 h54 => ?_))
        refine pt_d (pt_putI (B := 1) gx79_110 S51 h54 (fun h_55 S55 e55 => ?_))
        refine pt_d (pt_1 (fun n d => r_iload gx79_113 rfl) ?_)
        have H := H h_55 S55 (by rw [e55, e51, e43, e15, e12, e9, e7, e5])
        exact pt_d (pt_iret gx79_115 ⟨_, rfl, by rw [h1]; exact H⟩)
      · have H := H.2 e48
        refine pt_d (pt_iconst gx79_94 (fun v56 h56 => ?_))
        refine pt_d (pt_1 (fun n d => r_goto gx79_95) ?_)
        refine pt_d (pt_iadd gx79_99 h44 h56 (fun v57 h57 => ?_))
        refine pt_d (pt_putI (B := 3) gx79_100 S43 h57 (fun h_58 S58 e58 => ?_))
        refine pt_d (pt_1 (fun n d => r_aloadn gx79_103 rfl) ?_)
        refine pt_d (pt_1 (fun n d => r_dup gx79_104 rfl) ?_)
        refine pt_d (pt_getI (B := 1) gx79_105 S58 (fun v59 h59 => ?_))
        have h59 : v59.toInt = vw h 1 1 := by rw [h59, e58, up_j (by decide), e43, up_j (by decide), e15, up_c (by decide), e12, up_c (by decide), e9, up_c (by decide), e7, up_c (by decide), e5, up_c (by decide)]
        refine pt_d (pt_iconst gx79_108 (fun v60 h60 => ?_))
        refine pt_d (pt_iadd gx79_109 h59 h60 (fun v61 h61 => ?_))
        refine pt_d (pt_putI (B := 1) gx79_110 S58 h61 (fun h_62 S62 e62 => ?_))
        refine pt_d (pt_1 (fun n d => r_iload gx79_113 rfl) ?_)
        have H := H h_62 S62 (by rw [e62, e58, e43, e15, e12, e9, e7, e5])
        exact pt_d (pt_iret gx79_115 ⟨_, rfl, by rw [h1]; exact H⟩)
  · have H := H.2 e3
    refine pt_d (pt_bipush gx79_13 (fun v63 h63 => ?_))
    exact pt_d (pt_iret gx79_15 ⟨_, rfl, by rw [h63]; exact H⟩)
noncomputable def cAddV (V : vS) (k m t : Int) : vS := up (up (up (up (up (up (up (up V 2 (V 1 1) k) 3 (V 1 1) m) 7 (V 1 1) t) 4 (V 1 1) (V 1 0)) 5 (V 1 1) (-1)) 1 2 (w32 (V 1 2 + bI (kFarm k)))) 1 3 (w32 (V 1 3 + bI (4 ≤ k ∧ k ≤ 5)))) 1 1 (w32 (V 1 1 + 1))
def RAdd (V : vS) (k m t y : Int) (V' : vS) : Prop := (150 ≤ V 1 1 ∧ y = -3 ∧ V' = V) ∨ (0 ≤ V 1 1 ∧ V 1 1 < 150 ∧ y = V 1 1 ∧ V' = cAddV V k m t)
theorem c_79 {n : Nat} {X : aX} {h : aH} {x1 x2 x3 : Int32} {a1 a2 a3 : Int} (S : wS h) (z1 : x1.toInt = a1) (z2 : x2.toInt = a2) (z3 : x3.toInt = a3) : Pt n X zM79 0 [some (.ref 1), some (.int x1), some (.int x2), some (.int x3), none] [] h (qI (fun y h' => wS h' ∧ RAdd (vw h) a1 a2 a3 y (vw h'))) := by
  refine pt_d (d79_0 S z1 z2 z3 ⟨fun e p q => ?_, fun e => ⟨S, Or.inl ⟨e, rfl, rfl⟩⟩⟩)
  refine ⟨fun e1 => ⟨fun e2 g S2 eg => ⟨S2, Or.inr ⟨p, q, rfl, ?_⟩⟩, fun e2 g S2 eg => ⟨S2, Or.inr ⟨p, q, rfl, ?_⟩⟩⟩, fun e1 => ⟨fun e2 g S2 eg => ⟨S2, Or.inr ⟨p, q, rfl, ?_⟩⟩, fun e2 g S2 eg => ⟨S2, Or.inr ⟨p, q, rfl, ?_⟩⟩⟩⟩
  · unfold cAddV; rw [eg, bI_f e1, bI_f e2]
  · unfold cAddV; rw [eg, bI_f e1, bI_t e2]
  · unfold cAddV; rw [eg, bI_t e1, bI_f e2]
  · unfold cAddV; rw [eg, bI_t e1, bI_t e2]

theorem d204_0 {n : Nat} {X : aX} {h : aH} {P : Int → aH → Prop} {x1 : Int32} {a1 : Int} (S : wS h) (z1 : x1.toInt = a1) (H : (0 ≤ vw h 72 2 → vw h 72 2 < 150 → ∀ h_19 : aH, wS h_19 → vw h_19 = up (up (up (up (up (vw h) 73 (vw h 72 2) a1) 75 (vw h 72 2) (-1)) 76 (vw h 72 2) (vw h 72 1)) 77 (vw h 72 2) (-1)) 72 2 (w32 ((vw h 72 2) + 1)) → P (w32 ((w32 ((vw h 72 2) + 1)) - 1)) h_19)) : Pt (n + 1) X zM204 0 [some (.ref 72), some (.int x1)] [] h (qI P) := by
  refine pt_1 (fun n d => r_aloadn gx204_0 rfl) ?_
  refine pt_d (pt_getR gx204_1 S tr_72_3 ?_)
  refine pt_d (pt_1 (fun n d => r_aloadn gx204_4 rfl) ?_)
  refine pt_d (pt_getI (B := 2) gx204_5 S (fun v2 h2 => ?_))
  refine pt_d (pt_1 (fun n d => r_iloadn gx204_8 rfl) ?_)
  refine pt_d (pt_iast (N' := 150) gx204_9 S tl_73 h2 z1 (fun h_3 S3 p3 q3 e3 => ?_))
  have H := H p3 q3
  refine pt_d (pt_1 (fun n d => r_aloadn gx204_10 rfl) ?_)
  refine pt_d (pt_getR gx204_11 S3 tr_72_5 ?_)
  refine pt_d (pt_1 (fun n d => r_aloadn gx204_14 rfl) ?_)
  refine pt_d (pt_getI (B := 2) gx204_15 S3 (fun v5 h5 => ?_))
  have h5 : v5.toInt = vw h 72 2 := by rw [h5, e3, up_c (by decide)]
  refine pt_d (pt_iconst gx204_18 (fun v6 h6 => ?_))
  refine pt_d (pt_iast (N' := 150) gx204_19 S3 tl_75 h5 h6 (fun h_7 S7 p7 q7 e7 => ?_))
  refine pt_d (pt_1 (fun n d => r_aloadn gx204_20 rfl) ?_)
  refine pt_d (pt_getR gx204_21 S7 tr_72_6 ?_)
  refine pt_d (pt_1 (fun n d => r_aloadn gx204_24 rfl) ?_)
  refine pt_d (pt_getI (B := 2) gx204_25 S7 (fun v9 h9 => ?_))
  have h9 : v9.toInt = vw h 72 2 := by rw [h9, e7, up_c (by decide), e3, up_c (by decide)]
  refine pt_d (pt_1 (fun n d => r_aloadn gx204_28 rfl) ?_)
  refine pt_d (pt_getI (B := 1) gx204_29 S7 (fun v10 h10 => ?_))
  have h10 : v10.toInt = vw h 72 1 := by rw [h10, e7, up_c (by decide), e3, up_c (by decide)]
  refine pt_d (pt_iast (N' := 150) gx204_32 S7 tl_76 h9 h10 (fun h_11 S11 p11 q11 e11 => ?_))
  refine pt_d (pt_1 (fun n d => r_aloadn gx204_33 rfl) ?_)
  refine pt_d (pt_getR gx204_34 S11 tr_72_7 ?_)
  refine pt_d (pt_1 (fun n d => r_aloadn gx204_37 rfl) ?_)
  refine pt_d (pt_getI (B := 2) gx204_38 S11 (fun v13 h13 => ?_))
  have h13 : v13.toInt = vw h 72 2 := by rw [h13, e11, up_c (by decide), e7, up_c (by decide), e3, up_c (by decide)]
  refine pt_d (pt_iconst gx204_41 (fun v14 h14 => ?_))
  refine pt_d (pt_iast (N' := 150) gx204_42 S11 tl_77 h13 h14 (fun h_15 S15 p15 q15 e15 => ?_))
  refine pt_d (pt_1 (fun n d => r_aloadn gx204_43 rfl) ?_)
  refine pt_d (pt_1 (fun n d => r_dup gx204_44 rfl) ?_)
  refine pt_d (pt_getI (B := 2) gx204_45 S15 (fun v16 h16 => ?_))
  have h16 : v16.toInt = vw h 72 2 := by rw [h16, e15, up_c (by decide), e11, up_c (by decide), e7, up_c (by decide), e3, up_c (by decide)]
  refine pt_d (pt_iconst gx204_48 (fun v17 h17 => ?_))
  refine pt_d (pt_iadd gx204_49 h16 h17 (fun v18 h18 => ?_))
  refine pt_d (pt_putI (B := 2) gx204_50 S15 h18 (fun h_19 S19 e19 => ?_))
  refine pt_d (pt_1 (fun n d => r_aloadn gx204_53 rfl) ?_)
  refine pt_d (pt_getI (B := 2) gx204_54 S19 (fun v20 h20 => ?_))
  have h20 : v20.toInt = w32 ((vw h 72 2) + 1) := by rw [h20, e19, up_s]
  refine pt_d (pt_iconst gx204_57 (fun v21 h21 => ?_))
  refine pt_d (pt_isub gx204_58 h20 h21 (fun v22 h22 => ?_))
  have H := H h_19 S19 (by rw [e19, e15, e11, e7, e3])
  exact pt_d (pt_iret gx204_59 ⟨_, rfl, by rw [h22]; exact H⟩)
def mAddV (V : vS) (k : Int) : vS := up (up (up (up (up V 73 (V 72 2) k) 75 (V 72 2) (-1)) 76 (V 72 2) (V 72 1)) 77 (V 72 2) (-1)) 72 2 (w32 (V 72 2 + 1))
def RAddM (V : vS) (k y : Int) (V' : vS) : Prop := 0 ≤ V 72 2 ∧ V 72 2 < 150 ∧ y = V 72 2 ∧ V' = mAddV V k
theorem c_204 {n : Nat} {X : aX} {h : aH} {x1 : Int32} {a1 : Int} (S : wS h) (z1 : x1.toInt = a1) : Pt n X zM204 0 [some (.ref 72), some (.int x1)] [] h (qI (fun y h' => wS h' ∧ RAddM (vw h) a1 y (vw h'))) := by
  refine pt_d (d204_0 S z1 (fun p q g S2 eg => ⟨S2, p, q, ?_, eg⟩))
  rw [w32_id (z := vw h 72 2 + 1) (by omega) (by omega), w32_id (by omega) (by omega)]
  omega

theorem d90_0 {n : Nat} {X : aX} {h : aH} {P : Int → aH → Prop} (S : wS h) (H : (∀ (w1 : Int32) (w2 : Int32) (u3_ : Option Value), w1.toInt = 0 → w2.toInt = 0 → Pt n X zM90 4 [some (.ref 13), some (.int w1), some (.int w2), u3_] [] h (qI P))) : Pt (n + 1) X zM90 0 [some (.ref 13), none, none, none] [] h (qI P) := by
  refine pt_iconst gx90_0 (fun v1 h1 => ?_)
  refine pt_d (pt_1 (fun n d => r_istoren (L' := [some (.ref 13), some (.int v1), none, none]) gx90_1 rfl rfl) ?_)
  refine pt_d (pt_iconst gx90_2 (fun v2 h2 => ?_))
  refine pt_d (pt_1 (fun n d => r_istoren (L' := [some (.ref 13), some (.int v1), some (.int v2), none]) gx90_3 rfl rfl) ?_)
  exact H v1 v2 _ h1 h2
theorem d90_4 {n : Nat} {X : aX} {h : aH} {P : Int → aH → Prop} {x1 x2 : Int32} {a1 a2 : Int} {u3 : Option Value} (S : wS h) (z1 : x1.toInt = a1) (z2 : x2.toInt = a2) (H : ((vw h 13 2 ≤ a2 → P (iDiv (iAbs a1) 2) h) ∧ (a2 < vw h 13 2 → (0 ≤ a2 → a2 < 12 → (0 ≤ cNxt (vw h) a2 → cNxt (vw h) a2 < 12 → (∀ (w1 : Int32) (w2 : Int32) (u3_ : Option Value), w1.toInt = w32 (a1 + (w32 ((w32 ((vw h 14 a2) * (vw h 15 (cNxt (vw h) a2)))) - (w32 ((vw h 14 (cNxt (vw h) a2)) * (vw h 15 a2)))))) → w2.toInt = w32 (a2 + 1) → Pt n X zM90 4 [some (.ref 13), some (.int w1), some (.int w2), u3_] [] h (qI P))))))) : Pt (n + 1) X zM90 4 [some (.ref 13), some (.int x1), some (.int x2), u3] [] h (qI P) := by
  refine pt_1 (fun n d => r_iloadn gx90_4 rfl) ?_
  refine pt_d (pt_1 (fun n d => r_aloadn gx90_5 rfl) ?_)
  refine pt_d (pt_getI (B := 2) gx90_6 S (fun v1 h1 => ?_))
  refine pt_d (pt_icmp_ge gx90_9 z2 h1 (fun e2 => ?_) (fun e2 => ?_))
  · have H := H.1 e2
    refine pt_d (pt_1 (fun n d => r_iloadn gx90_54 rfl) ?_)
    refine pt_d (pt_abs gx90_55 rfl z1 (fun v3 h3 => ?_))
    refine pt_d (pt_iconst gx90_58 (fun v4 h4 => ?_))
    refine pt_d (pt_idiv gx90_59 h3 h4 (fun v5 h5 => ?_))
    exact pt_d (pt_iret gx90_60 ⟨_, rfl, by rw [h5]; exact H⟩)
  · have H := H.2 e2
    refine pt_d (pt_1 (fun n d => r_aloadn gx90_12 rfl) ?_)
    refine pt_d (pt_1 (fun n d => r_iloadn gx90_13 rfl) ?_)
    refine pt_d (pt_virt (as := [.int x2]) (r := []) gx90_14 rfl (show zmt[92]? = some zM92 from rfl) rfl rfl rfl rfl (c_92 S z2) (kqP (fun v6 h6 => ?_)))
    show Pt _ _ _ 17 _ [.int v6] _ _
    refine pt_d (pt_1 (fun n d => r_istoren (L' := [some (.ref 13), some (.int x1), some (.int x2), some (.int v6)]) gx90_17 rfl rfl) ?_)
    refine pt_d (pt_1 (fun n d => r_iloadn gx90_18 rfl) ?_)
    refine pt_d (pt_1 (fun n d => r_aloadn gx90_19 rfl) ?_)
    refine pt_d (pt_getR gx90_20 S tr_13_0 ?_)
    refine pt_d (pt_1 (fun n d => r_iloadn gx90_23 rfl) ?_)
    refine pt_d (pt_iald (N' := 12) gx90_24 S tl_14 z2 (fun v8 p8 q8 h8 => ?_))
    have H := H p8 q8
    refine pt_d (pt_1 (fun n d => r_aloadn gx90_25 rfl) ?_)
    refine pt_d (pt_getR gx90_26 S tr_13_1 ?_)
    refine pt_d (pt_1 (fun n d => r_iloadn gx90_29 rfl) ?_)
    refine pt_d (pt_iald (N' := 12) gx90_30 S tl_15 h6 (fun v10 p10 q10 h10 => ?_))
    have H := H p10 q10
    refine pt_d (pt_imul gx90_31 h8 h10 (fun v11 h11 => ?_))
    refine pt_d (pt_1 (fun n d => r_aloadn gx90_32 rfl) ?_)
    refine pt_d (pt_getR gx90_33 S tr_13_0 ?_)
    refine pt_d (pt_1 (fun n d => r_iloadn gx90_36 rfl) ?_)
    refine pt_d (pt_iald (N' := 12) gx90_37 S tl_14 h6 (fun v13 p13 q13 h13 => ?_))
    refine pt_d (pt_1 (fun n d => r_aloadn gx90_38 rfl) ?_)
    refine pt_d (pt_getR gx90_39 S tr_13_1 ?_)
    refine pt_d (pt_1 (fun n d => r_iloadn gx90_42 rfl) ?_)
    refine pt_d (pt_iald (N' := 12) gx90_43 S tl_15 z2 (fun v15 p15 q15 h15 => ?_))
    refine pt_d (pt_imul gx90_44 h13 h15 (fun v16 h16 => ?_))
    refine pt_d (pt_isub gx90_45 h11 h16 (fun v17 h17 => ?_))
    refine pt_d (pt_iadd gx90_46 z1 h17 (fun v18 h18 => ?_))
    refine pt_d (pt_1 (fun n d => r_istoren (L' := [some (.ref 13), some (.int v18), some (.int x2), some (.int v6)]) gx90_47 rfl rfl) ?_)
    refine pt_d (pt_iinc (c := 1) gx90_48 rfl z2 (fun v19 h19 => ?_))
    show Pt _ _ _ _ [some (.ref 13), some (.int v18), some (.int v19), some (.int v6)] [] _ _
    refine pt_d (pt_1 (fun n d => r_goto gx90_51) ?_)
    exact H v18 v19 _ h18 h19
theorem d219_0 {n : Nat} {X : aX} {h : aH} {P : Int → aH → Prop} (S : wS h) (H : (∀ (w1 : Int32) (w2 : Int32), w1.toInt = 0 → w2.toInt = 0 → Pt n X zM219 4 [some (.ref 72), some (.int w1), some (.int w2)] [] h (qI P))) : Pt (n + 1) X zM219 0 [some (.ref 72), none, none] [] h (qI P) := by
  refine pt_iconst gx219_0 (fun v1 h1 => ?_)
  refine pt_d (pt_1 (fun n d => r_istoren (L' := [some (.ref 72), some (.int v1), none]) gx219_1 rfl rfl) ?_)
  refine pt_d (pt_iconst gx219_2 (fun v2 h2 => ?_))
  refine pt_d (pt_1 (fun n d => r_istoren (L' := [some (.ref 72), some (.int v1), some (.int v2)]) gx219_3 rfl rfl) ?_)
  exact H v1 v2 h1 h2
theorem d219_4 {n : Nat} {X : aX} {h : aH} {P : Int → aH → Prop} {x1 x2 : Int32} {a1 a2 : Int} (S : wS h) (z1 : x1.toInt = a1) (z2 : x2.toInt = a2) (H : ((vw h 72 11 ≤ a2 → ((0 ≤ a1 → P (iDiv a1 2) h) ∧ (a1 < 0 → P (iDiv (w32 (-a1)) 2) h))) ∧ (a2 < vw h 72 11 → (0 ≤ a2 → a2 < 12 → (0 ≤ mNxt (vw h) a2 → mNxt (vw h) a2 < 12 → (∀ (w1 : Int32) (w2 : Int32), w1.toInt = w32 (a1 + (w32 ((w32 ((vw h 81 a2) * (vw h 82 (mNxt (vw h) a2)))) - (w32 ((vw h 81 (mNxt (vw h) a2)) * (vw h 82 a2)))))) → w2.toInt = w32 (a2 + 1) → Pt n X zM219 4 [some (.ref 72), some (.int w1), some (.int w2)] [] h (qI P))))))) : Pt (n + 1) X zM219 4 [some (.ref 72), some (.int x1), some (.int x2)] [] h (qI P) := by
  refine pt_1 (fun n d => r_iloadn gx219_4 rfl) ?_
  refine pt_d (pt_1 (fun n d => r_aloadn gx219_5 rfl) ?_)
  refine pt_d (pt_getI (B := 11) gx219_6 S (fun v1 h1 => ?_))
  refine pt_d (pt_icmp_ge gx219_9 z2 h1 (fun e2 => ?_) (fun e2 => ?_))
  · have H := H.1 e2
    refine pt_d (pt_1 (fun n d => r_iloadn gx219_56 rfl) ?_)
    refine pt_d (pt_if_ge gx219_57 z1 (fun e3 => ?_) (fun e3 => ?_))
    · have H := H.1 e3
      refine pt_d (pt_1 (fun n d => r_iloadn gx219_65 rfl) ?_)
      refine pt_d (pt_iconst gx219_66 (fun v4 h4 => ?_))
      refine pt_d (pt_idiv gx219_67 z1 h4 (fun v5 h5 => ?_))
      exact pt_d (pt_iret gx219_68 ⟨_, rfl, by rw [h5]; exact H⟩)
    · have H := H.2 e3
      refine pt_d (pt_1 (fun n d => r_iloadn gx219_60 rfl) ?_)
      refine pt_d (pt_ineg gx219_61 z1 (fun v6 h6 => ?_))
      refine pt_d (pt_1 (fun n d => r_goto gx219_62) ?_)
      refine pt_d (pt_iconst gx219_66 (fun v7 h7 => ?_))
      refine pt_d (pt_idiv gx219_67 h6 h7 (fun v8 h8 => ?_))
      exact pt_d (pt_iret gx219_68 ⟨_, rfl, by rw [h8]; exact H⟩)
  · have H := H.2 e2
    refine pt_d (pt_1 (fun n d => r_iloadn gx219_12 rfl) ?_)
    refine pt_d (pt_1 (fun n d => r_aloadn gx219_13 rfl) ?_)
    refine pt_d (pt_getR gx219_14 S tr_72_12 ?_)
    refine pt_d (pt_1 (fun n d => r_iloadn gx219_17 rfl) ?_)
    refine pt_d (pt_iald (N' := 12) gx219_18 S tl_81 z2 (fun v10 p10 q10 h10 => ?_))
    have H := H p10 q10
    refine pt_d (pt_1 (fun n d => r_aloadn gx219_19 rfl) ?_)
    refine pt_d (pt_getR gx219_20 S tr_72_13 ?_)
    refine pt_d (pt_1 (fun n d => r_aloadn gx219_23 rfl) ?_)
    refine pt_d (pt_1 (fun n d => r_iloadn gx219_24 rfl) ?_)
    refine pt_d (pt_virt (as := [.int x2]) (r := [.ref 82, .int v10, .int x1]) gx219_25 rfl (show zmt[213]? = some zM213 from rfl) rfl rfl rfl rfl (c_213 S z2) (kqP (fun v12 h12 => ?_)))
    show Pt _ _ _ 28 _ [.int v12, .ref 82, .int v10, .int x1] _ _
    refine pt_d (pt_iald (N' := 12) gx219_28 S tl_82 h12 (fun v13 p13 q13 h13 => ?_))
    have H := H p13 q13
    refine pt_d (pt_imul gx219_29 h10 h13 (fun v14 h14 => ?_))
    refine pt_d (pt_1 (fun n d => r_aloadn gx219_30 rfl) ?_)
    refine pt_d (pt_getR gx219_31 S tr_72_12 ?_)
    refine pt_d (pt_1 (fun n d => r_aloadn gx219_34 rfl) ?_)
    refine pt_d (pt_1 (fun n d => r_iloadn gx219_35 rfl) ?_)
    refine pt_d (pt_virt (as := [.int x2]) (r := [.ref 81, .int v14, .int x1]) gx219_36 rfl (show zmt[213]? = some zM213 from rfl) rfl rfl rfl rfl (c_213 S z2) (kqP (fun v16 h16 => ?_)))
    show Pt _ _ _ 39 _ [.int v16, .ref 81, .int v14, .int x1] _ _
    refine pt_d (pt_iald (N' := 12) gx219_39 S tl_81 h16 (fun v17 p17 q17 h17 => ?_))
    refine pt_d (pt_1 (fun n d => r_aloadn gx219_40 rfl) ?_)
    refine pt_d (pt_getR gx219_41 S tr_72_13 ?_)
    refine pt_d (pt_1 (fun n d => r_iloadn gx219_44 rfl) ?_)
    refine pt_d (pt_iald (N' := 12) gx219_45 S tl_82 z2 (fun v19 p19 q19 h19 => ?_))
    refine pt_d (pt_imul gx219_46 h17 h19 (fun v20 h20 => ?_))
    refine pt_d (pt_isub gx219_47 h14 h20 (fun v21 h21 => ?_))
    refine pt_d (pt_iadd gx219_48 z1 h21 (fun v22 h22 => ?_))
    refine pt_d (pt_1 (fun n d => r_istoren (L' := [some (.ref 72), some (.int v22), some (.int x2)]) gx219_49 rfl rfl) ?_)
    refine pt_d (pt_iinc (c := 1) gx219_50 rfl z2 (fun v23 h23 => ?_))
    show Pt _ _ _ _ [some (.ref 72), some (.int v22), some (.int v23)] [] _ _
    refine pt_d (pt_1 (fun n d => r_goto gx219_53) ?_)
    exact H v22 v23 h22 h23
def cAr (V : vS) : Nat → Int
  | 0 => 0
  | k + 1 => w32 (cAr V k + w32 (w32 (V 14 (k : Nat) * V 15 (cNxt V (k : Nat))) - w32 (V 14 (cNxt V (k : Nat)) * V 15 (k : Nat))))
def mAr (V : vS) : Nat → Int
  | 0 => 0
  | k + 1 => w32 (mAr V k + w32 (w32 (V 81 (k : Nat) * V 82 (mNxt V (k : Nat))) - w32 (V 81 (mNxt V (k : Nat)) * V 82 (k : Nat))))
def cArea (V : vS) : Int := iDiv (iAbs (cAr V (V 13 2).toNat)) 2
def mArea (V : vS) : Int := iDiv (iAbs (mAr V (V 72 11).toNat)) 2
theorem l_90 {X : aX} {h : aH} (S : wS h) (hn : vw h 13 2 ≤ 12) : ∀ (n : Nat) (x1 x2 : Int32) (u3 : Option Value) (k : Nat), x2.toInt = k → (k : Int) ≤ max 0 (vw h 13 2) → x1.toInt = cAr (vw h) k → Pt n X zM90 4 [some (.ref 13), some (.int x1), some (.int x2), u3] [] h (qI (fun y h' => h' = h ∧ y = cArea (vw h))) := by
  intro n
  induction n with
  | zero => exact fun _ _ _ _ _ _ _ => pt_z
  | succ n ih =>
    intro x1 x2 u3 k hk kn hx
    refine d90_4 S hx hk ⟨fun e => ⟨rfl, ?_⟩, fun e p q p2 q2 y1 y2 u3' h1 h2 => ih y1 y2 u3' (k + 1) ?_ (by omega) (by rw [h1]; rfl)⟩
    · unfold cArea
      rw [show (vw h 13 2).toNat = k by omega]
    · rw [h2, w32_id (by omega) (by omega)]; omega
theorem c_90 {n : Nat} {X : aX} {h : aH} (S : wS h) (hn : vw h 13 2 ≤ 12) : Pt n X zM90 0 [some (.ref 13), none, none, none] [] h (qI (fun y h' => h' = h ∧ y = cArea (vw h))) := by
  refine pt_d (d90_0 S (fun y1 y2 u3 h1 h2 => l_90 S hn n y1 y2 u3 0 h2 (by omega) h1))
theorem l_219 {X : aX} {h : aH} (S : wS h) (hn : vw h 72 11 ≤ 12) : ∀ (n : Nat) (x1 x2 : Int32) (k : Nat), x2.toInt = k → (k : Int) ≤ max 0 (vw h 72 11) → x1.toInt = mAr (vw h) k → Pt n X zM219 4 [some (.ref 72), some (.int x1), some (.int x2)] [] h (qI (fun y h' => h' = h ∧ y = mArea (vw h))) := by
  intro n
  induction n with
  | zero => exact fun _ _ _ _ _ _ => pt_z
  | succ n ih =>
    intro x1 x2 k hk kn hx
    refine d219_4 S hx hk ⟨fun e => ⟨fun e2 => ⟨rfl, ?_⟩, fun e2 => ⟨rfl, ?_⟩⟩, fun e p q p2 q2 y1 y2 h1 h2 => ih y1 y2 (k + 1) ?_ (by omega) (by rw [h1]; rfl)⟩
    · unfold mArea iAbs
      rw [show (vw h 72 11).toNat = k by omega, if_pos e2]
    · unfold mArea iAbs
      rw [show (vw h 72 11).toNat = k by omega, if_neg (by omega)]
    · rw [h2, w32_id (by omega) (by omega)]; omega
theorem c_219 {n : Nat} {X : aX} {h : aH} (S : wS h) (hn : vw h 72 11 ≤ 12) : Pt n X zM219 0 [some (.ref 72), none, none] [] h (qI (fun y h' => h' = h ∧ y = mArea (vw h))) := by
  refine pt_d (d219_0 S (fun y1 y2 h1 h2 => l_219 S hn n y1 y2 0 h2 (by omega) h1))
theorem ar_j {V : vS} (J : JRing V) : ∀ k : Nat, (k : Int) ≤ V 13 2 → cAr V k = mAr V k := by
  intro k
  induction k with
  | zero => intro _; rfl
  | succ k ih =>
    intro hk
    unfold cAr mAr
    rw [ih (by omega), nxt_j J (i := (k : Nat)) (by omega) (by omega), J.2.1, J.2.1, J.2.2.1, J.2.2.1]
theorem area_j {V : vS} (J : JRing V) : cArea V = mArea V := by
  unfold cArea mArea
  rw [ar_j J _ (by have := J.2.2.2.1; omega), J.1]

theorem d88_0 {n : Nat} {X : aX} {h : aH} {P : Int → aH → Prop} {x1 x2 : Int32} {a1 a2 : Int} (S : wS h) (z1 : x1.toInt = a1) (z2 : x2.toInt = a2) (H : ((12 ≤ vw h 13 2 → P (vw h 13 2) h) ∧ (vw h 13 2 < 12 → (0 ≤ vw h 13 2 → vw h 13 2 < 12 → ∀ h_14 : aH, wS h_14 → vw h_14 = up (up (up (vw h) 14 (vw h 13 2) a1) 15 (vw h 13 2) a2) 13 2 (w32 ((vw h 13 2) + 1)) → P (w32 ((vw h 13 2) + 1)) h_14)))) : Pt (n + 1) X zM88 0 [some (.ref 13), some (.int x1), some (.int x2)] [] h (qI P) := by
  refine pt_1 (fun n d => r_aloadn gx88_0 rfl) ?_
  refine pt_d (pt_getI (B := 2) gx88_1 S (fun v1 h1 => ?_))
  refine pt_d (pt_bipush gx88_4 (fun v2 h2 => ?_))
  refine pt_d (pt_icmp_ge gx88_6 h1 h2 (fun e3 => ?_) (fun e3 => ?_))
  · have H := H.1 e3
    refine pt_d (pt_1 (fun n d => r_aloadn gx88_39 rfl) ?_)
    refine pt_d (pt_getI (B := 2) gx88_40 S (fun v4 h4 => ?_))
    exact pt_d (pt_iret gx88_43 ⟨_, rfl, by rw [h4]; exact H⟩)
  · have H := H.2 e3
    refine pt_d (pt_1 (fun n d => r_aloadn gx88_9 rfl) ?_)
    refine pt_d (pt_getR gx88_10 S tr_13_0 ?_)
    refine pt_d (pt_1 (fun n d => r_aloadn gx88_13 rfl) ?_)
    refine pt_d (pt_getI (B := 2) gx88_14 S (fun v6 h6 => ?_))
    refine pt_d (pt_1 (fun n d => r_iloadn gx88_17 rfl) ?_)
    refine pt_d (pt_iast (N' := 12) gx88_18 S tl_14 h6 z1 (fun h_7 S7 p7 q7 e7 => ?_))
    have H := H p7 q7
    refine pt_d (pt_1 (fun n d => r_aloadn gx88_19 rfl) ?_)
    refine pt_d (pt_getR gx88_20 S7 tr_13_1 ?_)
    refine pt_d (pt_1 (fun n d => r_aloadn gx88_23 rfl) ?_)
    refine pt_d (pt_getI (B := 2) gx88_24 S7 (fun v9 h9 => ?_))
    have h9 : v9.toInt = vw h 13 2 := by rw [h9, e7, up_c (by decide)]
    refine pt_d (pt_1 (fun n d => r_iloadn gx88_27 rfl) ?_)
    refine pt_d (pt_iast (N' := 12) gx88_28 S7 tl_15 h9 z2 (fun h_10 S10 p10 q10 e10 => ?_))
    refine pt_d (pt_1 (fun n d => r_aloadn gx88_29 rfl) ?_)
    refine pt_d (pt_1 (fun n d => r_dup gx88_30 rfl) ?_)
    refine pt_d (pt_getI (B := 2) gx88_31 S10 (fun v11 h11 => ?_))
    have h11 : v11.toInt = vw h 13 2 := by rw [h11, e10, up_c (by decide), e7, up_c (by decide)]
    refine pt_d (pt_iconst gx88_34 (fun v12 h12 => ?_))
    refine pt_d (pt_iadd gx88_35 h11 h12 (fun v13 h13 => ?_))
    refine pt_d (pt_putI (B := 2) gx88_36 S10 h13 (fun h_14 S14 e14 => ?_))
    refine pt_d (pt_1 (fun n d => r_aloadn gx88_39 rfl) ?_)
    refine pt_d (pt_getI (B := 2) gx88_40 S14 (fun v15 h15 => ?_))
    have h15 : v15.toInt = w32 ((vw h 13 2) + 1) := by rw [h15, e14, up_s]
    have H := H h_14 S14 (by rw [e14, e10, e7])
    exact pt_d (pt_iret gx88_43 ⟨_, rfl, by rw [h15]; exact H⟩)
def RRing (V : vS) (x y r : Int) (V' : vS) : Prop := (12 ≤ V 13 2 ∧ r = V 13 2 ∧ V' = V) ∨ (0 ≤ V 13 2 ∧ V 13 2 < 12 ∧ r = w32 (V 13 2 + 1) ∧ V' = up (up (up V 14 (V 13 2) x) 15 (V 13 2) y) 13 2 (w32 (V 13 2 + 1)))
theorem c_88 {n : Nat} {X : aX} {h : aH} {x1 x2 : Int32} {a1 a2 : Int} (S : wS h) (z1 : x1.toInt = a1) (z2 : x2.toInt = a2) : Pt n X zM88 0 [some (.ref 13), some (.int x1), some (.int x2)] [] h (qI (fun y h' => wS h' ∧ RRing (vw h) a1 a2 y (vw h'))) := by
  refine pt_d (d88_0 S z1 z2 ⟨fun e => ⟨S, Or.inl ⟨e, rfl, rfl⟩⟩, fun e p q g S2 eg => ⟨S2, Or.inr ⟨p, q, rfl, eg⟩⟩⟩)

theorem d147_0 {n : Nat} {X : aX} {h : aH} {P : Int → aH → Prop} {x1 x2 : Int32} {a1 a2 : Int} (S : wS h) (z1 : x1.toInt = a1) (z2 : x2.toInt = a2) (H : ((¬ (0 ≤ a1 ∧ a1 ≤ 24) → P (-1) h) ∧ ((0 ≤ a1 ∧ a1 ≤ 24) → (((0 ≤ a2 ∧ a2 ≤ 24) → ((vw h 13 2 < 12 → ∀ (y15 : Int) (h_15 : aH), (wS h_15 ∧ RRing (vw h) a1 a2 y15 (vw h_15)) → P y15 h_15) ∧ (12 ≤ vw h 13 2 → P (-3) h))) ∧ (¬ (0 ≤ a2 ∧ a2 ≤ 24) → P (-1) h))))) : Pt (n + 1) X zM147 0 [some (.ref 0), some (.int x1), some (.int x2)] [] h (qI P) := by
  refine pt_1 (fun n d => r_iloadn gx147_0 rfl) ?_
  refine pt_d (pt_iconst gx147_1 (fun v1 h1 => ?_))
  refine pt_d (pt_bipush gx147_2 (fun v2 h2 => ?_))
  refine pt_d (pt_stat (as := [.int x1, .int v1, .int v2]) (r := []) gx147_4 rfl (show zmt[137]? = some zM137 from rfl) rfl rfl rfl rfl (c_137 S z1 h1 h2) (kqP (fun v3 h3 => ?_)))
  show Pt _ _ _ 7 _ [.int v3] _ _
  refine pt_d (pt_ifB_eq gx147_7 h3 (fun e4 => ?_) (fun e4 => ?_))
  · have H := H.1 e4
    refine pt_d (pt_iconst gx147_20 (fun v5 h5 => ?_))
    exact pt_d (pt_iret gx147_21 ⟨_, rfl, by rw [h5]; exact H⟩)
  · have H := H.2 e4
    refine pt_d (pt_1 (fun n d => r_iloadn gx147_10 rfl) ?_)
    refine pt_d (pt_iconst gx147_11 (fun v6 h6 => ?_))
    refine pt_d (pt_bipush gx147_12 (fun v7 h7 => ?_))
    refine pt_d (pt_stat (as := [.int x2, .int v6, .int v7]) (r := []) gx147_14 rfl (show zmt[137]? = some zM137 from rfl) rfl rfl rfl rfl (c_137 S z2 h6 h7) (kqP (fun v8 h8 => ?_)))
    show Pt _ _ _ 17 _ [.int v8] _ _
    refine pt_d (pt_ifB_ne gx147_17 h8 (fun e9 => ?_) (fun e9 => ?_))
    · have H := H.1 e9
      refine pt_d (pt_1 (fun n d => r_aloadn gx147_22 rfl) ?_)
      refine pt_d (pt_getR gx147_23 S tr_0_1 ?_)
      refine pt_d (pt_getI (B := 2) gx147_26 S (fun v11 h11 => ?_))
      refine pt_d (pt_bipush gx147_29 (fun v12 h12 => ?_))
      refine pt_d (pt_icmp_lt gx147_31 h11 h12 (fun e13 => ?_) (fun e13 => ?_))
      · have H := H.1 e13
        refine pt_d (pt_1 (fun n d => r_aloadn gx147_39 rfl) ?_)
        refine pt_d (pt_getR gx147_40 S tr_0_1 ?_)
        refine pt_d (pt_1 (fun n d => r_iloadn gx147_43 rfl) ?_)
        refine pt_d (pt_1 (fun n d => r_iloadn gx147_44 rfl) ?_)
        refine pt_d (pt_virt (as := [.int x1, .int x2]) (r := []) gx147_45 rfl (show zmt[88]? = some zM88 from rfl) rfl rfl rfl rfl (c_88 S z1 z2) (kqI (fun v15 y15 h_15 h15 P15 => ?_)))
        have S15 := P15.1
        have H := H y15 h_15 P15
        show Pt _ _ _ 48 _ [.int v15] _ _
        exact pt_d (pt_iret gx147_48 ⟨_, rfl, by rw [h15]; exact H⟩)
      · have H := H.2 e13
        refine pt_d (pt_bipush gx147_34 (fun v16 h16 => ?_))
        refine pt_d (pt_1 (fun n d => r_goto gx147_36) ?_)
        exact pt_d (pt_iret gx147_48 ⟨_, rfl, by rw [h16]; exact H⟩)
    · have H := H.2 e9
      refine pt_d (pt_iconst gx147_20 (fun v17 h17 => ?_))
      exact pt_d (pt_iret gx147_21 ⟨_, rfl, by rw [h17]; exact H⟩)
theorem d209_0 {n : Nat} {X : aX} {h : aH} {P : Int → aH → Prop} {x1 x2 : Int32} {a1 a2 : Int} (S : wS h) (z1 : x1.toInt = a1) (z2 : x2.toInt = a2) (H : ((¬ (0 ≤ a1 ∧ a1 ≤ 24) → P (-1) h) ∧ ((0 ≤ a1 ∧ a1 ≤ 24) → (((0 ≤ a2 ∧ a2 ≤ 24) → ((vw h 72 11 ≠ 12 → (0 ≤ vw h 72 11 → vw h 72 11 < 12 → ∀ h_22 : aH, wS h_22 → vw h_22 = up (up (up (vw h) 81 (vw h 72 11) a1) 82 (vw h 72 11) a2) 72 11 (w32 ((vw h 72 11) + 1)) → P (w32 ((vw h 72 11) + 1)) h_22)) ∧ (vw h 72 11 = 12 → P (-3) h))) ∧ (¬ (0 ≤ a2 ∧ a2 ≤ 24) → P (-1) h))))) : Pt (n + 1) X zM209 0 [some (.ref 72), some (.int x1), some (.int x2)] [] h (qI P) := by
  refine pt_1 (fun n d => r_iloadn gx209_0 rfl) ?_
  refine pt_d (pt_iconst gx209_1 (fun v1 h1 => ?_))
  refine pt_d (pt_bipush gx209_2 (fun v2 h2 => ?_))
  refine pt_d (pt_stat (as := [.int x1, .int v1, .int v2]) (r := []) gx209_4 rfl (show zmt[196]? = some zM196 from rfl) rfl rfl rfl rfl (c_196 S z1 h1 h2) (kqP (fun v3 h3 => ?_)))
  show Pt _ _ _ 7 _ [.int v3] _ _
  refine pt_d (pt_ifB_eq gx209_7 h3 (fun e4 => ?_) (fun e4 => ?_))
  · have H := H.1 e4
    refine pt_d (pt_iconst gx209_20 (fun v5 h5 => ?_))
    exact pt_d (pt_iret gx209_21 ⟨_, rfl, by rw [h5]; exact H⟩)
  · have H := H.2 e4
    refine pt_d (pt_1 (fun n d => r_iloadn gx209_10 rfl) ?_)
    refine pt_d (pt_iconst gx209_11 (fun v6 h6 => ?_))
    refine pt_d (pt_bipush gx209_12 (fun v7 h7 => ?_))
    refine pt_d (pt_stat (as := [.int x2, .int v6, .int v7]) (r := []) gx209_14 rfl (show zmt[196]? = some zM196 from rfl) rfl rfl rfl rfl (c_196 S z2 h6 h7) (kqP (fun v8 h8 => ?_)))
    show Pt _ _ _ 17 _ [.int v8] _ _
    refine pt_d (pt_ifB_ne gx209_17 h8 (fun e9 => ?_) (fun e9 => ?_))
    · have H := H.1 e9
      refine pt_d (pt_1 (fun n d => r_aloadn gx209_22 rfl) ?_)
      refine pt_d (pt_getI (B := 11) gx209_23 S (fun v10 h10 => ?_))
      refine pt_d (pt_bipush gx209_26 (fun v11 h11 => ?_))
      refine pt_d (pt_icmp_ne gx209_28 h10 h11 (fun e12 => ?_) (fun e12 => ?_))
      · have H := H.1 e12
        refine pt_d (pt_1 (fun n d => r_aloadn gx209_34 rfl) ?_)
        refine pt_d (pt_getR gx209_35 S tr_72_12 ?_)
        refine pt_d (pt_1 (fun n d => r_aloadn gx209_38 rfl) ?_)
        refine pt_d (pt_getI (B := 11) gx209_39 S (fun v14 h14 => ?_))
        refine pt_d (pt_1 (fun n d => r_iloadn gx209_42 rfl) ?_)
        refine pt_d (pt_iast (N' := 12) gx209_43 S tl_81 h14 z1 (fun h_15 S15 p15 q15 e15 => ?_))
        have H := H p15 q15
        refine pt_d (pt_1 (fun n d => r_aloadn gx209_44 rfl) ?_)
        refine pt_d (pt_getR gx209_45 S15 tr_72_13 ?_)
        refine pt_d (pt_1 (fun n d => r_aloadn gx209_48 rfl) ?_)
        refine pt_d (pt_getI (B := 11) gx209_49 S15 (fun v17 h17 => ?_))
        have h17 : v17.toInt = vw h 72 11 := by rw [h17, e15, up_c (by decide)]
        refine pt_d (pt_1 (fun n d => r_iloadn gx209_52 rfl) ?_)
        refine pt_d (pt_iast (N' := 12) gx209_53 S15 tl_82 h17 z2 (fun h_18 S18 p18 q18 e18 => ?_))
        refine pt_d (pt_1 (fun n d => r_aloadn gx209_54 rfl) ?_)
        refine pt_d (pt_1 (fun n d => r_dup gx209_55 rfl) ?_)
        refine pt_d (pt_getI (B := 11) gx209_56 S18 (fun v19 h19 => ?_))
        have h19 : v19.toInt = vw h 72 11 := by rw [h19, e18, up_c (by decide), e15, up_c (by decide)]
        refine pt_d (pt_iconst gx209_59 (fun v20 h20 => ?_))
        refine pt_d (pt_iadd gx209_60 h19 h20 (fun v21 h21 => ?_))
        refine pt_d (pt_putI (B := 11) gx209_61 S18 h21 (fun h_22 S22 e22 => ?_))
        refine pt_d (pt_1 (fun n d => r_aloadn gx209_64 rfl) ?_)
        refine pt_d (pt_getI (B := 11) gx209_65 S22 (fun v23 h23 => ?_))
        have h23 : v23.toInt = w32 ((vw h 72 11) + 1) := by rw [h23, e22, up_s]
        have H := H h_22 S22 (by rw [e22, e18, e15])
        exact pt_d (pt_iret gx209_68 ⟨_, rfl, by rw [h23]; exact H⟩)
      · have H := H.2 e12
        refine pt_d (pt_bipush gx209_31 (fun v24 h24 => ?_))
        exact pt_d (pt_iret gx209_33 ⟨_, rfl, by rw [h24]; exact H⟩)
    · have H := H.2 e9
      refine pt_d (pt_iconst gx209_20 (fun v25 h25 => ?_))
      exact pt_d (pt_iret gx209_21 ⟨_, rfl, by rw [h25]; exact H⟩)
theorem d148_0 {n : Nat} {X : aX} {h : aH} {P : Int → aH → Prop} (S : wS h) (H : ∀ h_5 : aH, wS h_5 → vw h_5 = up (vw h) 13 2 0 → P (vw h 13 2) h_5) : Pt (n + 1) X zM148 0 [some (.ref 0), none] [] h (qI P) := by
  refine pt_1 (fun n d => r_aloadn gx148_0 rfl) ?_
  refine pt_d (pt_getR gx148_1 S tr_0_1 ?_)
  refine pt_d (pt_getI (B := 2) gx148_4 S (fun v2 h2 => ?_))
  refine pt_d (pt_1 (fun n d => r_istoren (L' := [some (.ref 0), some (.int v2)]) gx148_7 rfl rfl) ?_)
  refine pt_d (pt_1 (fun n d => r_aloadn gx148_8 rfl) ?_)
  refine pt_d (pt_getR gx148_9 S tr_0_1 ?_)
  refine pt_d (pt_iconst gx148_12 (fun v4 h4 => ?_))
  refine pt_d (pt_putI (B := 2) gx148_13 S h4 (fun h_5 S5 e5 => ?_))
  refine pt_d (pt_1 (fun n d => r_iloadn gx148_16 rfl) ?_)
  have H := H h_5 S5 (by rw [e5])
  exact pt_d (pt_iret gx148_17 ⟨_, rfl, by rw [h2]; exact H⟩)
theorem d210_0 {n : Nat} {X : aX} {h : aH} {P : Int → aH → Prop} (S : wS h) (H : ∀ h_3 : aH, wS h_3 → vw h_3 = up (vw h) 72 11 0 → P (vw h 72 11) h_3) : Pt (n + 1) X zM210 0 [some (.ref 72), none] [] h (qI P) := by
  refine pt_1 (fun n d => r_aloadn gx210_0 rfl) ?_
  refine pt_d (pt_getI (B := 11) gx210_1 S (fun v1 h1 => ?_))
  refine pt_d (pt_1 (fun n d => r_istoren (L' := [some (.ref 72), some (.int v1)]) gx210_4 rfl rfl) ?_)
  refine pt_d (pt_1 (fun n d => r_aloadn gx210_5 rfl) ?_)
  refine pt_d (pt_iconst gx210_6 (fun v2 h2 => ?_))
  refine pt_d (pt_putI (B := 11) gx210_7 S h2 (fun h_3 S3 e3 => ?_))
  refine pt_d (pt_1 (fun n d => r_iloadn gx210_10 rfl) ?_)
  have H := H h_3 S3 (by rw [e3])
  exact pt_d (pt_iret gx210_11 ⟨_, rfl, by rw [h1]; exact H⟩)
theorem d145_0 {n : Nat} {X : aX} {h : aH} {P : Int → aH → Prop} (S : wS h) (H : ((¬ (150 ≤ (vw h) 1 1) → ∀ (y8 : Int) (h_8 : aH), (wS h_8 ∧ RAdd (vw h) 0 0 (-1) y8 (vw h_8)) → P y8 h_8) ∧ ((150 ≤ (vw h) 1 1) → P (-3) h))) : Pt (n + 1) X zM145 0 [some (.ref 0)] [] h (qI P) := by
  refine pt_1 (fun n d => r_aloadn gx145_0 rfl) ?_
  refine pt_d (pt_getR gx145_1 S tr_0_0 ?_)
  refine pt_d (pt_virt (as := []) (r := []) gx145_4 rfl (show zmt[73]? = some zM73 from rfl) rfl rfl rfl rfl (c_73 S) (kqP (fun v2 h2 => ?_)))
  show Pt _ _ _ 7 _ [.int v2] _ _
  refine pt_d (pt_ifB_eq gx145_7 h2 (fun e3 => ?_) (fun e3 => ?_))
  · have H := H.1 e3
    refine pt_d (pt_1 (fun n d => r_aloadn gx145_15 rfl) ?_)
    refine pt_d (pt_getR gx145_16 S tr_0_0 ?_)
    refine pt_d (pt_iconst gx145_19 (fun v5 h5 => ?_))
    refine pt_d (pt_iconst gx145_20 (fun v6 h6 => ?_))
    refine pt_d (pt_iconst gx145_21 (fun v7 h7 => ?_))
    refine pt_d (pt_virt (as := [.int v5, .int v6, .int v7]) (r := []) gx145_22 rfl (show zmt[79]? = some zM79 from rfl) rfl rfl rfl rfl (c_79 S h5 h6 h7) (kqI (fun v8 y8 h_8 h8 P8 => ?_)))
    have S8 := P8.1
    have H := H y8 h_8 P8
    show Pt _ _ _ 25 _ [.int v8] _ _
    exact pt_d (pt_iret gx145_25 ⟨_, rfl, by rw [h8]; exact H⟩)
  · have H := H.2 e3
    refine pt_d (pt_bipush gx145_10 (fun v9 h9 => ?_))
    refine pt_d (pt_1 (fun n d => r_goto gx145_12) ?_)
    exact pt_d (pt_iret gx145_25 ⟨_, rfl, by rw [h9]; exact H⟩)
theorem d205_0 {n : Nat} {X : aX} {h : aH} {P : Int → aH → Prop} (S : wS h) (H : ((vw h 72 2 ≠ 150 → ∀ (y5 : Int) (h_5 : aH), (wS h_5 ∧ RAddM (vw h) 0 y5 (vw h_5)) → P y5 h_5) ∧ (vw h 72 2 = 150 → P (-3) h))) : Pt (n + 1) X zM205 0 [some (.ref 72)] [] h (qI P) := by
  refine pt_1 (fun n d => r_aloadn gx205_0 rfl) ?_
  refine pt_d (pt_getI (B := 2) gx205_1 S (fun v1 h1 => ?_))
  refine pt_d (pt_sipush gx205_4 (fun v2 h2 => ?_))
  refine pt_d (pt_icmp_ne gx205_7 h1 h2 (fun e3 => ?_) (fun e3 => ?_))
  · have H := H.1 e3
    refine pt_d (pt_1 (fun n d => r_aloadn gx205_15 rfl) ?_)
    refine pt_d (pt_iconst gx205_16 (fun v4 h4 => ?_))
    refine pt_d (pt_virt (as := [.int v4]) (r := []) gx205_17 rfl (show zmt[204]? = some zM204 from rfl) rfl rfl rfl rfl (c_204 S h4) (kqI (fun v5 y5 h_5 h5 P5 => ?_)))
    have S5 := P5.1
    have H := H y5 h_5 P5
    show Pt _ _ _ 20 _ [.int v5] _ _
    exact pt_d (pt_iret gx205_20 ⟨_, rfl, by rw [h5]; exact H⟩)
  · have H := H.2 e3
    refine pt_d (pt_bipush gx205_10 (fun v6 h6 => ?_))
    refine pt_d (pt_1 (fun n d => r_goto gx205_12) ?_)
    exact pt_d (pt_iret gx205_20 ⟨_, rfl, by rw [h6]; exact H⟩)
theorem d146_0 {n : Nat} {X : aX} {h : aH} {P : Int → aH → Prop} {x1 x2 : Int32} {a1 a2 : Int} (S : wS h) (z1 : x1.toInt = a1) (z2 : x2.toInt = a2) (H : ((¬ (kFarm a1) → P (-1) h) ∧ ((kFarm a1) → (((0 ≤ a2 ∧ a2 ≤ 3) → ((¬ (150 ≤ (vw h) 1 1) → ∀ (y11 : Int) (h_11 : aH), (wS h_11 ∧ RAdd (vw h) a1 a2 (-1) y11 (vw h_11)) → P y11 h_11) ∧ ((150 ≤ (vw h) 1 1) → P (-3) h))) ∧ (¬ (0 ≤ a2 ∧ a2 ≤ 3) → P (-1) h))))) : Pt (n + 1) X zM146 0 [some (.ref 0), some (.int x1), some (.int x2)] [] h (qI P) := by
  refine pt_1 (fun n d => r_iloadn gx146_0 rfl) ?_
  refine pt_d (pt_stat (as := [.int x1]) (r := []) gx146_1 rfl (show zmt[71]? = some zM71 from rfl) rfl rfl rfl rfl (c_71 S z1) (kqP (fun v1 h1 => ?_)))
  show Pt _ _ _ 4 _ [.int v1] _ _
  refine pt_d (pt_ifB_eq gx146_4 h1 (fun e2 => ?_) (fun e2 => ?_))
  · have H := H.1 e2
    refine pt_d (pt_iconst gx146_14 (fun v3 h3 => ?_))
    exact pt_d (pt_iret gx146_15 ⟨_, rfl, by rw [h3]; exact H⟩)
  · have H := H.2 e2
    refine pt_d (pt_1 (fun n d => r_iloadn gx146_7 rfl) ?_)
    refine pt_d (pt_stat (as := [.int x2]) (r := []) gx146_8 rfl (show zmt[140]? = some zM140 from rfl) rfl rfl rfl rfl (c_140 S z2) (kqP (fun v4 h4 => ?_)))
    show Pt _ _ _ 11 _ [.int v4] _ _
    refine pt_d (pt_ifB_ne gx146_11 h4 (fun e5 => ?_) (fun e5 => ?_))
    · have H := H.1 e5
      refine pt_d (pt_1 (fun n d => r_aloadn gx146_16 rfl) ?_)
      refine pt_d (pt_getR gx146_17 S tr_0_0 ?_)
      refine pt_d (pt_virt (as := []) (r := []) gx146_20 rfl (show zmt[73]? = some zM73 from rfl) rfl rfl rfl rfl (c_73 S) (kqP (fun v7 h7 => ?_)))
      show Pt _ _ _ 23 _ [.int v7] _ _
      refine pt_d (pt_ifB_eq gx146_23 h7 (fun e8 => ?_) (fun e8 => ?_))
      · have H := H.1 e8
        refine pt_d (pt_1 (fun n d => r_aloadn gx146_31 rfl) ?_)
        refine pt_d (pt_getR gx146_32 S tr_0_0 ?_)
        refine pt_d (pt_1 (fun n d => r_iloadn gx146_35 rfl) ?_)
        refine pt_d (pt_1 (fun n d => r_iloadn gx146_36 rfl) ?_)
        refine pt_d (pt_iconst gx146_37 (fun v10 h10 => ?_))
        refine pt_d (pt_virt (as := [.int x1, .int x2, .int v10]) (r := []) gx146_38 rfl (show zmt[79]? = some zM79 from rfl) rfl rfl rfl rfl (c_79 S z1 z2 h10) (kqI (fun v11 y11 h_11 h11 P11 => ?_)))
        have S11 := P11.1
        have H := H y11 h_11 P11
        show Pt _ _ _ 41 _ [.int v11] _ _
        exact pt_d (pt_iret gx146_41 ⟨_, rfl, by rw [h11]; exact H⟩)
      · have H := H.2 e8
        refine pt_d (pt_bipush gx146_26 (fun v12 h12 => ?_))
        refine pt_d (pt_1 (fun n d => r_goto gx146_28) ?_)
        exact pt_d (pt_iret gx146_41 ⟨_, rfl, by rw [h12]; exact H⟩)
    · have H := H.2 e5
      refine pt_d (pt_iconst gx146_14 (fun v13 h13 => ?_))
      exact pt_d (pt_iret gx146_15 ⟨_, rfl, by rw [h13]; exact H⟩)
theorem d207_0 {n : Nat} {X : aX} {h : aH} {P : Int → aH → Prop} {x1 x2 : Int32} {a1 a2 : Int} (S : wS h) (z1 : x1.toInt = a1) (z2 : x2.toInt = a2) (H : ((¬ (uF a1 1) → P (-1) h) ∧ ((uF a1 1) → ((¬ (0 ≤ a1 ∧ a1 ≤ 7) → P (-1) h) ∧ ((0 ≤ a1 ∧ a1 ≤ 7) → (((0 ≤ a2 ∧ a2 ≤ 3) → ((vw h 72 2 ≠ 150 → ∀ (y15 : Int) (h_15 : aH), (wS h_15 ∧ RAddM (vw h) a1 y15 (vw h_15)) → (0 ≤ y15 → y15 < 150 → ∀ h_17 : aH, wS h_17 → vw h_17 = up (vw h_15) 74 y15 a2 → P y15 h_17)) ∧ (vw h 72 2 = 150 → P (-3) h))) ∧ (¬ (0 ≤ a2 ∧ a2 ≤ 3) → P (-1) h))))))) : Pt (n + 1) X zM207 0 [some (.ref 72), some (.int x1), some (.int x2), none] [] h (qI P) := by
  refine pt_1 (fun n d => r_iloadn gx207_0 rfl) ?_
  refine pt_d (pt_iconst gx207_1 (fun v1 h1 => ?_))
  refine pt_d (pt_stat (as := [.int x1, .int v1]) (r := []) gx207_2 rfl (show zmt[201]? = some zM201 from rfl) rfl rfl rfl rfl (c_201 S z1 h1) (kqP (fun v2 h2 => ?_)))
  show Pt _ _ _ 5 _ [.int v2] _ _
  refine pt_d (pt_ifB_eq gx207_5 h2 (fun e3 => ?_) (fun e3 => ?_))
  · have H := H.1 e3
    refine pt_d (pt_iconst gx207_25 (fun v4 h4 => ?_))
    exact pt_d (pt_iret gx207_26 ⟨_, rfl, by rw [h4]; exact H⟩)
  · have H := H.2 e3
    refine pt_d (pt_1 (fun n d => r_iloadn gx207_8 rfl) ?_)
    refine pt_d (pt_iconst gx207_9 (fun v5 h5 => ?_))
    refine pt_d (pt_bipush gx207_10 (fun v6 h6 => ?_))
    refine pt_d (pt_stat (as := [.int x1, .int v5, .int v6]) (r := []) gx207_12 rfl (show zmt[196]? = some zM196 from rfl) rfl rfl rfl rfl (c_196 S z1 h5 h6) (kqP (fun v7 h7 => ?_)))
    show Pt _ _ _ 15 _ [.int v7] _ _
    refine pt_d (pt_ifB_eq gx207_15 h7 (fun e8 => ?_) (fun e8 => ?_))
    · have H := H.1 e8
      refine pt_d (pt_iconst gx207_25 (fun v9 h9 => ?_))
      exact pt_d (pt_iret gx207_26 ⟨_, rfl, by rw [h9]; exact H⟩)
    · have H := H.2 e8
      refine pt_d (pt_1 (fun n d => r_iloadn gx207_18 rfl) ?_)
      refine pt_d (pt_stat (as := [.int x2]) (r := []) gx207_19 rfl (show zmt[206]? = some zM206 from rfl) rfl rfl rfl rfl (c_206 S z2) (kqP (fun v10 h10 => ?_)))
      show Pt _ _ _ 22 _ [.int v10] _ _
      refine pt_d (pt_ifB_ne gx207_22 h10 (fun e11 => ?_) (fun e11 => ?_))
      · have H := H.1 e11
        refine pt_d (pt_1 (fun n d => r_aloadn gx207_27 rfl) ?_)
        refine pt_d (pt_getI (B := 2) gx207_28 S (fun v12 h12 => ?_))
        refine pt_d (pt_sipush gx207_31 (fun v13 h13 => ?_))
        refine pt_d (pt_icmp_ne gx207_34 h12 h13 (fun e14 => ?_) (fun e14 => ?_))
        · have H := H.1 e14
          refine pt_d (pt_1 (fun n d => r_aloadn gx207_40 rfl) ?_)
          refine pt_d (pt_1 (fun n d => r_iloadn gx207_41 rfl) ?_)
          refine pt_d (pt_virt (as := [.int x1]) (r := []) gx207_42 rfl (show zmt[204]? = some zM204 from rfl) rfl rfl rfl rfl (c_204 S z1) (kqI (fun v15 y15 h_15 h15 P15 => ?_)))
          have S15 := P15.1
          have H := H y15 h_15 P15
          show Pt _ _ _ 45 _ [.int v15] _ _
          refine pt_d (pt_1 (fun n d => r_istoren (L' := [some (.ref 72), some (.int x1), some (.int x2), some (.int v15)]) gx207_45 rfl rfl) ?_)
          refine pt_d (pt_1 (fun n d => r_aloadn gx207_46 rfl) ?_)
          refine pt_d (pt_getR gx207_47 S15 tr_72_4 ?_)
          refine pt_d (pt_1 (fun n d => r_iloadn gx207_50 rfl) ?_)
          refine pt_d (pt_1 (fun n d => r_iloadn gx207_51 rfl) ?_)
          refine pt_d (pt_iast (N' := 150) gx207_52 S15 tl_74 h15 z2 (fun h_17 S17 p17 q17 e17 => ?_))
          have H := H p17 q17
          refine pt_d (pt_1 (fun n d => r_iloadn gx207_53 rfl) ?_)
          have H := H h_17 S17 (by rw [e17])
          exact pt_d (pt_iret gx207_54 ⟨_, rfl, by rw [h15]; exact H⟩)
        · have H := H.2 e14
          refine pt_d (pt_bipush gx207_37 (fun v18 h18 => ?_))
          exact pt_d (pt_iret gx207_39 ⟨_, rfl, by rw [h18]; exact H⟩)
      · have H := H.2 e11
        refine pt_d (pt_iconst gx207_25 (fun v19 h19 => ?_))
        exact pt_d (pt_iret gx207_26 ⟨_, rfl, by rw [h19]; exact H⟩)
def R147 (V : vS) (x y r : Int) (V' : vS) : Prop := (¬ (0 ≤ x ∧ x ≤ 24 ∧ 0 ≤ y ∧ y ≤ 24) ∧ r = -1 ∧ V' = V) ∨ ((0 ≤ x ∧ x ≤ 24 ∧ 0 ≤ y ∧ y ≤ 24) ∧ 12 ≤ V 13 2 ∧ r = -3 ∧ V' = V) ∨ ((0 ≤ x ∧ x ≤ 24 ∧ 0 ≤ y ∧ y ≤ 24) ∧ V 13 2 < 12 ∧ RRing V x y r V')
theorem c_147 {n : Nat} {X : aX} {h : aH} {x1 x2 : Int32} {a1 a2 : Int} (S : wS h) (z1 : x1.toInt = a1) (z2 : x2.toInt = a2) : Pt n X zM147 0 [some (.ref 0), some (.int x1), some (.int x2)] [] h (qI (fun y h' => R147 (vw h) a1 a2 y (vw h'))) := by
  refine pt_d (d147_0 S z1 z2 ?_)
  repeat' (first | (refine And.intro ?_ ?_) | intro _)
  all_goals first
    | exact Or.inl ⟨by omega, rfl, rfl⟩
    | exact Or.inr (Or.inl ⟨by omega, by omega, rfl, rfl⟩)
    | exact Or.inr (Or.inr ⟨by omega, by omega, And.right ‹_›⟩)
def R209 (V : vS) (x y r : Int) (V' : vS) : Prop := (¬ (0 ≤ x ∧ x ≤ 24 ∧ 0 ≤ y ∧ y ≤ 24) ∧ r = -1 ∧ V' = V) ∨ ((0 ≤ x ∧ x ≤ 24 ∧ 0 ≤ y ∧ y ≤ 24) ∧ V 72 11 = 12 ∧ r = -3 ∧ V' = V) ∨ ((0 ≤ x ∧ x ≤ 24 ∧ 0 ≤ y ∧ y ≤ 24) ∧ 0 ≤ V 72 11 ∧ V 72 11 < 12 ∧ r = w32 (V 72 11 + 1) ∧ V' = up (up (up V 81 (V 72 11) x) 82 (V 72 11) y) 72 11 (w32 (V 72 11 + 1)))
theorem c_209 {n : Nat} {X : aX} {h : aH} {x1 x2 : Int32} {a1 a2 : Int} (S : wS h) (z1 : x1.toInt = a1) (z2 : x2.toInt = a2) : Pt n X zM209 0 [some (.ref 72), some (.int x1), some (.int x2)] [] h (qI (fun y h' => R209 (vw h) a1 a2 y (vw h'))) := by
  refine pt_d (d209_0 S z1 z2 ?_)
  repeat' (first | (refine And.intro ?_ ?_) | intro _)
  all_goals first
    | exact Or.inl ⟨by omega, rfl, rfl⟩
    | exact Or.inr (Or.inl ⟨by omega, by omega, rfl, rfl⟩)
    | exact Or.inr (Or.inr ⟨by omega, by omega, by omega, rfl, ‹_›⟩)
theorem c_148 {n : Nat} {X : aX} {h : aH} (S : wS h) : Pt n X zM148 0 [some (.ref 0), none] [] h (qI (fun y h' => y = vw h 13 2 ∧ vw h' = up (vw h) 13 2 0)) := by
  refine pt_d (d148_0 S (fun g S2 eg => ⟨rfl, eg⟩))
theorem c_210 {n : Nat} {X : aX} {h : aH} (S : wS h) : Pt n X zM210 0 [some (.ref 72), none] [] h (qI (fun y h' => y = vw h 72 11 ∧ vw h' = up (vw h) 72 11 0)) := by
  refine pt_d (d210_0 S (fun g S2 eg => ⟨rfl, eg⟩))
-- bodies, farms
theorem c_145 {n : Nat} {X : aX} {h : aH} (S : wS h) : Pt n X zM145 0 [some (.ref 0)] [] h (qI (fun y h' => RAdd (vw h) 0 0 (-1) y (vw h'))) := by
  refine pt_d (d145_0 S ⟨fun e y g p => p.2, fun e => Or.inl ⟨e, rfl, rfl⟩⟩)
def RM205 (V : vS) (k r : Int) (V' : vS) : Prop := (V 72 2 = 150 ∧ r = -3 ∧ V' = V) ∨ (V 72 2 ≠ 150 ∧ RAddM V k r V')
theorem c_205 {n : Nat} {X : aX} {h : aH} (S : wS h) : Pt n X zM205 0 [some (.ref 72)] [] h (qI (fun y h' => RM205 (vw h) 0 y (vw h'))) := by
  refine pt_d (d205_0 S ⟨fun e y g p => Or.inr ⟨e, p.2⟩, fun e => Or.inl ⟨e, rfl, rfl⟩⟩)
def R146 (V : vS) (k l r : Int) (V' : vS) : Prop := (¬ (kFarm k ∧ 0 ≤ l ∧ l ≤ 3) ∧ r = -1 ∧ V' = V) ∨ ((kFarm k ∧ 0 ≤ l ∧ l ≤ 3) ∧ RAdd V k l (-1) r V')
theorem c_146 {n : Nat} {X : aX} {h : aH} {x1 x2 : Int32} {a1 a2 : Int} (S : wS h) (z1 : x1.toInt = a1) (z2 : x2.toInt = a2) : Pt n X zM146 0 [some (.ref 0), some (.int x1), some (.int x2)] [] h (qI (fun y h' => R146 (vw h) a1 a2 y (vw h'))) := by
  refine pt_d (d146_0 S z1 z2 ⟨fun e => Or.inl ⟨fun q => e q.1, rfl, rfl⟩, fun e => ⟨fun e2 => ⟨fun e3 y g p => Or.inr ⟨⟨e, e2⟩, p.2⟩, fun e3 => Or.inr ⟨⟨e, e2⟩, Or.inl ⟨e3, rfl, rfl⟩⟩⟩, fun e2 => Or.inl ⟨fun q => e2 q.2, rfl, rfl⟩⟩⟩)
def R207 (V : vS) (k l r : Int) (V' : vS) : Prop := (¬ (uF k 1 ∧ 0 ≤ k ∧ k ≤ 7 ∧ 0 ≤ l ∧ l ≤ 3) ∧ r = -1 ∧ V' = V) ∨ ((uF k 1 ∧ 0 ≤ k ∧ k ≤ 7 ∧ 0 ≤ l ∧ l ≤ 3) ∧ V 72 2 = 150 ∧ r = -3 ∧ V' = V) ∨ ((uF k 1 ∧ 0 ≤ k ∧ k ≤ 7 ∧ 0 ≤ l ∧ l ≤ 3) ∧ V 72 2 ≠ 150 ∧ ∃ V1, RAddM V k r V1 ∧ V' = up V1 74 r l)
theorem c_207 {n : Nat} {X : aX} {h : aH} {x1 x2 : Int32} {a1 a2 : Int} (S : wS h) (z1 : x1.toInt = a1) (z2 : x2.toInt = a2) : Pt n X zM207 0 [some (.ref 72), some (.int x1), some (.int x2), none] [] h (qI (fun y h' => R207 (vw h) a1 a2 y (vw h'))) := by
  refine pt_d (d207_0 S z1 z2 ⟨fun e => Or.inl ⟨fun q => e q.1, rfl, rfl⟩, fun e => ⟨fun e2 => Or.inl ⟨fun q => e2 ⟨q.2.1, q.2.2.1⟩, rfl, rfl⟩, fun e2 => ⟨fun e3 => ⟨fun e4 y g p p1 p2 g2 S2 eg => Or.inr (Or.inr ⟨⟨e, e2.1, e2.2, e3⟩, e4, _, p.2, eg⟩), fun e4 => Or.inr (Or.inl ⟨⟨e, e2.1, e2.2, e3⟩, e4, rfl, rfl⟩)⟩, fun e3 => Or.inl ⟨fun q => e3 q.2.2.2, rfl, rfl⟩⟩⟩⟩)

theorem d80_0 {n : Nat} {X : aX} {h : aH} {P : Int → aH → Prop} {x1 : Int32} {a1 : Int} (S : wS h) (z1 : x1.toInt = a1) (H : ∀ (y3 : Int) (h_3 : aH), (wS h_3 ∧ RAdd (vw h) 6 a1 (-1) y3 (vw h_3)) → ((0 ≤ y3 → (∀ (w2 : Int32) (w3 : Int32), w2.toInt = y3 → w3.toInt = vw h_3 1 4 → Pt n X zM80 20 [some (.ref 1), some (.int x1), some (.int w2), some (.int w3)] [] h_3 (qI P))) ∧ (y3 < 0 → P y3 h_3))) : Pt (n + 1) X zM80 0 [some (.ref 1), some (.int x1), none, none] [] h (qI P) := by
  refine pt_1 (fun n d => r_aloadn gx80_0 rfl) ?_
  refine pt_d (pt_bipush gx80_1 (fun v1 h1 => ?_))
  refine pt_d (pt_1 (fun n d => r_iloadn gx80_3 rfl) ?_)
  refine pt_d (pt_iconst gx80_4 (fun v2 h2 => ?_))
  refine pt_d (pt_virt (as := [.int v1, .int x1, .int v2]) (r := []) gx80_5 rfl (show zmt[79]? = some zM79 from rfl) rfl rfl rfl rfl (c_79 S h1 z1 h2) (kqI (fun v3 y3 h_3 h3 P3 => ?_)))
  have S3 := P3.1
  have H := H y3 h_3 P3
  show Pt _ _ _ 8 _ [.int v3] _ _
  refine pt_d (pt_1 (fun n d => r_istoren (L' := [some (.ref 1), some (.int x1), some (.int v3), none]) gx80_8 rfl rfl) ?_)
  refine pt_d (pt_1 (fun n d => r_iloadn gx80_9 rfl) ?_)
  refine pt_d (pt_if_ge gx80_10 h3 (fun e4 => ?_) (fun e4 => ?_))
  · have H := H.1 e4
    refine pt_d (pt_1 (fun n d => r_aloadn gx80_15 rfl) ?_)
    refine pt_d (pt_getI (B := 4) gx80_16 S3 (fun v5 h5 => ?_))
    refine pt_d (pt_1 (fun n d => r_istoren (L' := [some (.ref 1), some (.int x1), some (.int v3), some (.int v5)]) gx80_19 rfl rfl) ?_)
    exact H v3 v5 h3 h5
  · have H := H.2 e4
    refine pt_d (pt_1 (fun n d => r_iloadn gx80_13 rfl) ?_)
    exact pt_d (pt_iret gx80_14 ⟨_, rfl, by rw [h3]; exact H⟩)
theorem d80_20 {n : Nat} {X : aX} {h : aH} {P : Int → aH → Prop} {x1 x2 x3 : Int32} {a1 a2 a3 : Int} (S : wS h) (z1 : x1.toInt = a1) (z2 : x2.toInt = a2) (z3 : x3.toInt = a3) (H : ((a3 ≤ 0 → (0 ≤ a3 → a3 < 150 → ∀ h_7 : aH, wS h_7 → vw h_7 = up (up (vw h) 6 a3 a2) 1 4 (w32 ((vw h 1 4) + 1)) → P a2 h_7)) ∧ (0 < a3 → (0 ≤ w32 (a3 - 1) → w32 (a3 - 1) < 150 → (0 ≤ vw h 6 (w32 (a3 - 1)) → vw h 6 (w32 (a3 - 1)) < 150 → ((a1 ≤ vw h 3 (vw h 6 (w32 (a3 - 1))) → (0 ≤ a3 → a3 < 150 → ∀ h_20 : aH, wS h_20 → vw h_20 = up (up (vw h) 6 a3 a2) 1 4 (w32 ((vw h 1 4) + 1)) → P a2 h_20)) ∧ (vw h 3 (vw h 6 (w32 (a3 - 1))) < a1 → (0 ≤ a3 → a3 < 150 → ∀ h_26 : aH, wS h_26 → vw h_26 = up (vw h) 6 a3 (vw h 6 (w32 (a3 - 1))) → (∀ (w3 : Int32), w3.toInt = w32 (a3 + (-1)) → Pt n X zM80 20 [some (.ref 1), some (.int x1), some (.int x2), some (.int w3)] [] h_26 (qI P)))))))))) : Pt (n + 1) X zM80 20 [some (.ref 1), some (.int x1), some (.int x2), some (.int x3)] [] h (qI P) := by
  refine pt_1 (fun n d => r_iloadn gx80_20 rfl) ?_
  refine pt_d (pt_if_le gx80_21 z3 (fun e1 => ?_) (fun e1 => ?_))
  · have H := H.1 e1
    refine pt_d (pt_1 (fun n d => r_aloadn gx80_61 rfl) ?_)
    refine pt_d (pt_getR gx80_62 S tr_1_11 ?_)
    refine pt_d (pt_1 (fun n d => r_iloadn gx80_65 rfl) ?_)
    refine pt_d (pt_1 (fun n d => r_iloadn gx80_66 rfl) ?_)
    refine pt_d (pt_iast (N' := 150) gx80_67 S tl_6 z3 z2 (fun h_3 S3 p3 q3 e3 => ?_))
    have H := H p3 q3
    refine pt_d (pt_1 (fun n d => r_aloadn gx80_68 rfl) ?_)
    refine pt_d (pt_1 (fun n d => r_dup gx80_69 rfl) ?_)
    refine pt_d (pt_getI (B := 4) gx80_70 S3 (fun v4 h4 => ?_))
    have h4 : v4.toInt = vw h 1 4 := by rw [h4, e3, up_c (by decide)]
    refine pt_d (pt_iconst gx80_73 (fun v5 h5 => ?_))
    refine pt_d (pt_iadd gx80_74 h4 h5 (fun v6 h6 => ?_))
    refine pt_d (pt_putI (B := 4) gx80_75 S3 h6 (fun h_7 S7 e7 => ?_))
    refine pt_d (pt_1 (fun n d => r_iloadn gx80_78 rfl) ?_)
    have H := H h_7 S7 (by rw [e7, e3])
    exact pt_d (pt_iret gx80_79 ⟨_, rfl, by rw [z2]; exact H⟩)
  · have H := H.2 e1
    refine pt_d (pt_1 (fun n d => r_aloadn gx80_24 rfl) ?_)
    refine pt_d (pt_getR gx80_25 S tr_1_8 ?_)
    refine pt_d (pt_1 (fun n d => r_aloadn gx80_28 rfl) ?_)
    refine pt_d (pt_getR gx80_29 S tr_1_11 ?_)
    refine pt_d (pt_1 (fun n d => r_iloadn gx80_32 rfl) ?_)
    refine pt_d (pt_iconst gx80_33 (fun v10 h10 => ?_))
    refine pt_d (pt_isub gx80_34 z3 h10 (fun v11 h11 => ?_))
    refine pt_d (pt_iald (N' := 150) gx80_35 S tl_6 h11 (fun v12 p12 q12 h12 => ?_))
    have H := H p12 q12
    refine pt_d (pt_iald (N' := 150) gx80_36 S tl_3 h12 (fun v13 p13 q13 h13 => ?_))
    have H := H p13 q13
    refine pt_d (pt_1 (fun n d => r_iloadn gx80_37 rfl) ?_)
    refine pt_d (pt_icmp_ge gx80_38 h13 z1 (fun e14 => ?_) (fun e14 => ?_))
    · have H := H.1 e14
      refine pt_d (pt_1 (fun n d => r_aloadn gx80_61 rfl) ?_)
      refine pt_d (pt_getR gx80_62 S tr_1_11 ?_)
      refine pt_d (pt_1 (fun n d => r_iloadn gx80_65 rfl) ?_)
      refine pt_d (pt_1 (fun n d => r_iloadn gx80_66 rfl) ?_)
      refine pt_d (pt_iast (N' := 150) gx80_67 S tl_6 z3 z2 (fun h_16 S16 p16 q16 e16 => ?_))
      have H := H p16 q16
      refine pt_d (pt_1 (fun n d => r_aloadn gx80_68 rfl) ?_)
      refine pt_d (pt_1 (fun n d => r_dup gx80_69 rfl) ?_)
      refine pt_d (pt_getI (B := 4) gx80_70 S16 (fun v17 h17 => ?_))
      have h17 : v17.toInt = vw h 1 4 := by rw [h17, e16, up_c (by decide)]
      refine pt_d (pt_iconst gx80_73 (fun v18 h18 => ?_))
      refine pt_d (pt_iadd gx80_74 h17 h18 (fun v19 h19 => ?_))
      refine pt_d (pt_putI (B := 4) gx80_75 S16 h19 (fun h_20 S20 e20 => ?_))
      refine pt_d (pt_1 (fun n d => r_iloadn gx80_78 rfl) ?_)
      have H := H h_20 S20 (by rw [e20, e16])
      exact pt_d (pt_iret gx80_79 ⟨_, rfl, by rw [z2]; exact H⟩)
    · have H := H.2 e14
      refine pt_d (pt_1 (fun n d => r_aloadn gx80_41 rfl) ?_)
      refine pt_d (pt_getR gx80_42 S tr_1_11 ?_)
      refine pt_d (pt_1 (fun n d => r_iloadn gx80_45 rfl) ?_)
      refine pt_d (pt_1 (fun n d => r_aloadn gx80_46 rfl) ?_)
      refine pt_d (pt_getR gx80_47 S tr_1_11 ?_)
      refine pt_d (pt_1 (fun n d => r_iloadn gx80_50 rfl) ?_)
      refine pt_d (pt_iconst gx80_51 (fun v23 h23 => ?_))
      refine pt_d (pt_isub gx80_52 z3 h23 (fun v24 h24 => ?_))
      refine pt_d (pt_iald (N' := 150) gx80_53 S tl_6 h24 (fun v25 p25 q25 h25 => ?_))
      refine pt_d (pt_iast (N' := 150) gx80_54 S tl_6 z3 h25 (fun h_26 S26 p26 q26 e26 => ?_))
      have H := H p26 q26
      refine pt_d (pt_iinc (c := (-1)) gx80_55 rfl z3 (fun v27 h27 => ?_))
      show Pt _ _ _ _ [some (.ref 1), some (.int x1), some (.int x2), some (.int v27)] [] _ _
      refine pt_d (pt_1 (fun n d => r_goto gx80_58) ?_)
      have H := H h_26 S26 (by rw [e26])
      exact H v27 h27
def RPer (V : vS) (v r : Int) (V' : vS) : Prop := (150 ≤ V 1 1 ∧ r = -3 ∧ V' = V) ∨ (0 ≤ V 1 1 ∧ V 1 1 < 150 ∧ r = V 1 1 ∧ ∀ c j, c ≠ 6 → ¬ (c = 1 ∧ j = 4) → V' c j = cAddV V 6 v (-1) c j)
theorem l_80 {X : aX} {V0 : vS} {b : Int} : ∀ (n : Nat) (h : aH) (x1 x2 x3 : Int32), wS h → x2.toInt = b → (∀ c j, c ≠ 6 → ¬ (c = 1 ∧ j = 4) → vw h c j = V0 c j) → Pt n X zM80 20 [some (.ref 1), some (.int x1), some (.int x2), some (.int x3)] [] h (qI (fun y h' => wS h' ∧ y = b ∧ ∀ c j, c ≠ 6 → ¬ (c = 1 ∧ j = 4) → vw h' c j = V0 c j)) := by
  intro n
  induction n with
  | zero => exact fun _ _ _ _ _ _ _ => pt_z
  | succ n ih =>
    intro h x1 x2 x3 S hb F
    have fin : ∀ g : aH, wS g → vw g = up (up (vw h) 6 x3.toInt b) 1 4 (w32 (vw h 1 4 + 1)) → (fun (y : Int) (h' : aH) => wS h' ∧ y = b ∧ ∀ c j, c ≠ 6 → ¬ (c = 1 ∧ j = 4) → vw h' c j = V0 c j) b g := by
      intro g S2 eg
      refine ⟨S2, rfl, fun c j c1 c2 => ?_⟩
      rw [eg]
      unfold up
      rw [if_neg c2, if_neg (fun q => c1 q.1)]
      exact F c j c1 c2
    refine d80_20 S rfl hb rfl ⟨fun e p q g S2 eg => fin g S2 eg, fun e p q p2 q2 => ⟨fun e2 p3 q3 g S2 eg => fin g S2 eg, fun e2 p3 q3 g S2 eg y3 h3 => ?_⟩⟩
    refine ih g x1 x2 y3 S2 hb (fun c j c1 c2 => ?_)
    rw [eg, up_c c1]
    exact F c j c1 c2
theorem c_80 {n : Nat} {X : aX} {h : aH} {x1 : Int32} {a1 : Int} (S : wS h) (z1 : x1.toInt = a1) : Pt n X zM80 0 [some (.ref 1), some (.int x1), none, none] [] h (qI (fun y h' => wS h' ∧ RPer (vw h) a1 y (vw h'))) := by
  refine pt_d (d80_0 S z1 (fun y g p => ⟨fun e y2 y3 h2 h3 => ?_, fun e => ?_⟩))
  · rcases p.2 with ⟨q1, q2, q3⟩ | ⟨q1, q2, q3, q4⟩
    · omega
    · refine pt_q (l_80 (V0 := vw g) (b := y) n g x1 y2 y3 p.1 h2 (fun _ _ _ _ => rfl)) ?_
      rintro v h' ⟨x, rfl, r1, r2, r3⟩
      exact ⟨x, rfl, r1, Or.inr ⟨q1, q2, r2.trans q3, fun c j c1 c2 => by rw [r3 c j c1 c2, q4]⟩⟩
  · rcases p.2 with ⟨q1, q2, q3⟩ | ⟨q1, q2, q3, q4⟩
    · exact ⟨p.1, Or.inl ⟨q1, q2, q3⟩⟩
    · omega

theorem d151_0 {n : Nat} {X : aX} {h : aH} {P : Int → aH → Prop} {x1 : Int32} {a1 : Int} (S : wS h) (z1 : x1.toInt = a1) (H : (((1 ≤ a1 ∧ a1 ≤ 999) → ((¬ (150 ≤ (vw h) 1 1) → ∀ (y9 : Int) (h_9 : aH), (wS h_9 ∧ RPer (vw h) a1 y9 (vw h_9)) → P y9 h_9) ∧ ((150 ≤ (vw h) 1 1) → P (-3) h))) ∧ (¬ (1 ≤ a1 ∧ a1 ≤ 999) → P (-1) h))) : Pt (n + 1) X zM151 0 [some (.ref 0), some (.int x1)] [] h (qI P) := by
  refine pt_1 (fun n d => r_iloadn gx151_0 rfl) ?_
  refine pt_d (pt_iconst gx151_1 (fun v1 h1 => ?_))
  refine pt_d (pt_sipush gx151_2 (fun v2 h2 => ?_))
  refine pt_d (pt_stat (as := [.int x1, .int v1, .int v2]) (r := []) gx151_5 rfl (show zmt[137]? = some zM137 from rfl) rfl rfl rfl rfl (c_137 S z1 h1 h2) (kqP (fun v3 h3 => ?_)))
  show Pt _ _ _ 8 _ [.int v3] _ _
  refine pt_d (pt_ifB_ne gx151_8 h3 (fun e4 => ?_) (fun e4 => ?_))
  · have H := H.1 e4
    refine pt_d (pt_1 (fun n d => r_aloadn gx151_13 rfl) ?_)
    refine pt_d (pt_getR gx151_14 S tr_0_0 ?_)
    refine pt_d (pt_virt (as := []) (r := []) gx151_17 rfl (show zmt[73]? = some zM73 from rfl) rfl rfl rfl rfl (c_73 S) (kqP (fun v6 h6 => ?_)))
    show Pt _ _ _ 20 _ [.int v6] _ _
    refine pt_d (pt_ifB_eq gx151_20 h6 (fun e7 => ?_) (fun e7 => ?_))
    · have H := H.1 e7
      refine pt_d (pt_1 (fun n d => r_aloadn gx151_28 rfl) ?_)
      refine pt_d (pt_getR gx151_29 S tr_0_0 ?_)
      refine pt_d (pt_1 (fun n d => r_iloadn gx151_32 rfl) ?_)
      refine pt_d (pt_virt (as := [.int x1]) (r := []) gx151_33 rfl (show zmt[80]? = some zM80 from rfl) rfl rfl rfl rfl (c_80 S z1) (kqI (fun v9 y9 h_9 h9 P9 => ?_)))
      have S9 := P9.1
      have H := H y9 h_9 P9
      show Pt _ _ _ 36 _ [.int v9] _ _
      exact pt_d (pt_iret gx151_36 ⟨_, rfl, by rw [h9]; exact H⟩)
    · have H := H.2 e7
      refine pt_d (pt_bipush gx151_23 (fun v10 h10 => ?_))
      refine pt_d (pt_1 (fun n d => r_goto gx151_25) ?_)
      exact pt_d (pt_iret gx151_36 ⟨_, rfl, by rw [h10]; exact H⟩)
  · have H := H.2 e4
    refine pt_d (pt_iconst gx151_11 (fun v11 h11 => ?_))
    exact pt_d (pt_iret gx151_12 ⟨_, rfl, by rw [h11]; exact H⟩)
theorem d208_0 {n : Nat} {X : aX} {h : aH} {P : Int → aH → Prop} {x1 : Int32} {a1 : Int} (S : wS h) (z1 : x1.toInt = a1) (H : (((1 ≤ a1 ∧ a1 ≤ 999) → ((vw h 72 2 ≠ 150 → ∀ (y9 : Int) (h_9 : aH), (wS h_9 ∧ RAddM (vw h) 6 y9 (vw h_9)) → (0 ≤ y9 → y9 < 150 → ∀ h_11 : aH, wS h_11 → vw h_11 = up (vw h_9) 79 y9 a1 → P y9 h_11)) ∧ (vw h 72 2 = 150 → P (-3) h))) ∧ (¬ (1 ≤ a1 ∧ a1 ≤ 999) → P (-1) h))) : Pt (n + 1) X zM208 0 [some (.ref 72), some (.int x1), none] [] h (qI P) := by
  refine pt_1 (fun n d => r_iloadn gx208_0 rfl) ?_
  refine pt_d (pt_iconst gx208_1 (fun v1 h1 => ?_))
  refine pt_d (pt_sipush gx208_2 (fun v2 h2 => ?_))
  refine pt_d (pt_stat (as := [.int x1, .int v1, .int v2]) (r := []) gx208_5 rfl (show zmt[196]? = some zM196 from rfl) rfl rfl rfl rfl (c_196 S z1 h1 h2) (kqP (fun v3 h3 => ?_)))
  show Pt _ _ _ 8 _ [.int v3] _ _
  refine pt_d (pt_ifB_ne gx208_8 h3 (fun e4 => ?_) (fun e4 => ?_))
  · have H := H.1 e4
    refine pt_d (pt_1 (fun n d => r_aloadn gx208_13 rfl) ?_)
    refine pt_d (pt_getI (B := 2) gx208_14 S (fun v5 h5 => ?_))
    refine pt_d (pt_sipush gx208_17 (fun v6 h6 => ?_))
    refine pt_d (pt_icmp_ne gx208_20 h5 h6 (fun e7 => ?_) (fun e7 => ?_))
    · have H := H.1 e7
      refine pt_d (pt_1 (fun n d => r_aloadn gx208_26 rfl) ?_)
      refine pt_d (pt_bipush gx208_27 (fun v8 h8 => ?_))
      refine pt_d (pt_virt (as := [.int v8]) (r := []) gx208_29 rfl (show zmt[204]? = some zM204 from rfl) rfl rfl rfl rfl (c_204 S h8) (kqI (fun v9 y9 h_9 h9 P9 => ?_)))
      have S9 := P9.1
      have H := H y9 h_9 P9
      show Pt _ _ _ 32 _ [.int v9] _ _
      refine pt_d (pt_1 (fun n d => r_istoren (L' := [some (.ref 72), some (.int x1), some (.int v9)]) gx208_32 rfl rfl) ?_)
      refine pt_d (pt_1 (fun n d => r_aloadn gx208_33 rfl) ?_)
      refine pt_d (pt_getR gx208_34 S9 tr_72_9 ?_)
      refine pt_d (pt_1 (fun n d => r_iloadn gx208_37 rfl) ?_)
      refine pt_d (pt_1 (fun n d => r_iloadn gx208_38 rfl) ?_)
      refine pt_d (pt_iast (N' := 150) gx208_39 S9 tl_79 h9 z1 (fun h_11 S11 p11 q11 e11 => ?_))
      have H := H p11 q11
      refine pt_d (pt_1 (fun n d => r_iloadn gx208_40 rfl) ?_)
      have H := H h_11 S11 (by rw [e11])
      exact pt_d (pt_iret gx208_41 ⟨_, rfl, by rw [h9]; exact H⟩)
    · have H := H.2 e7
      refine pt_d (pt_bipush gx208_23 (fun v12 h12 => ?_))
      exact pt_d (pt_iret gx208_25 ⟨_, rfl, by rw [h12]; exact H⟩)
  · have H := H.2 e4
    refine pt_d (pt_iconst gx208_11 (fun v13 h13 => ?_))
    exact pt_d (pt_iret gx208_12 ⟨_, rfl, by rw [h13]; exact H⟩)
def R151 (V : vS) (v r : Int) (V' : vS) : Prop := (¬ (1 ≤ v ∧ v ≤ 999) ∧ r = -1 ∧ V' = V) ∨ ((1 ≤ v ∧ v ≤ 999) ∧ RPer V v r V')
theorem c_151 {n : Nat} {X : aX} {h : aH} {x1 : Int32} {a1 : Int} (S : wS h) (z1 : x1.toInt = a1) : Pt n X zM151 0 [some (.ref 0), some (.int x1)] [] h (qI (fun y h' => R151 (vw h) a1 y (vw h'))) := by
  refine pt_d (d151_0 S z1 ⟨fun e => ⟨fun e3 y g p => Or.inr ⟨e, p.2⟩, fun e3 => Or.inr ⟨e, Or.inl ⟨e3, rfl, rfl⟩⟩⟩, fun e => Or.inl ⟨e, rfl, rfl⟩⟩)
def R208 (V : vS) (v r : Int) (V' : vS) : Prop := (¬ (1 ≤ v ∧ v ≤ 999) ∧ r = -1 ∧ V' = V) ∨ ((1 ≤ v ∧ v ≤ 999) ∧ V 72 2 = 150 ∧ r = -3 ∧ V' = V) ∨ ((1 ≤ v ∧ v ≤ 999) ∧ V 72 2 ≠ 150 ∧ ∃ V1, RAddM V 6 r V1 ∧ V' = up V1 79 r v)
theorem c_208 {n : Nat} {X : aX} {h : aH} {x1 : Int32} {a1 : Int} (S : wS h) (z1 : x1.toInt = a1) : Pt n X zM208 0 [some (.ref 72), some (.int x1), none] [] h (qI (fun y h' => R208 (vw h) a1 y (vw h'))) := by
  refine pt_d (d208_0 S z1 ⟨fun e => ⟨fun e4 y g p p1 p2 g2 S2 eg => Or.inr (Or.inr ⟨e, e4, _, p.2, eg⟩), fun e4 => Or.inr (Or.inl ⟨e, e4, rfl, rfl⟩)⟩, fun e => Or.inl ⟨e, rfl, rfl⟩⟩)

theorem d91_0 {n : Nat} {X : aX} {h : aH} {P : Int → aH → Prop} {x1 : Int32} {a1 : Int} (S : wS h) (z1 : x1.toInt = a1) (H : (∀ (w2 : Int32) (w3 : Int32) (u4_ : Option Value) (u5_ : Option Value), w2.toInt = 0 → w3.toInt = 1 → Pt n X zM91 4 [some (.ref 13), some (.int x1), some (.int w2), some (.int w3), u4_, u5_] [] h (qI P))) : Pt (n + 1) X zM91 0 [some (.ref 13), some (.int x1), none, none, none, none] [] h (qI P) := by
  refine pt_iconst gx91_0 (fun v1 h1 => ?_)
  refine pt_d (pt_1 (fun n d => r_istoren (L' := [some (.ref 13), some (.int x1), some (.int v1), none, none, none]) gx91_1 rfl rfl) ?_)
  refine pt_d (pt_iconst gx91_2 (fun v2 h2 => ?_))
  refine pt_d (pt_1 (fun n d => r_istoren (L' := [some (.ref 13), some (.int x1), some (.int v1), some (.int v2), none, none]) gx91_3 rfl rfl) ?_)
  exact H v1 v2 _ _ h1 h2
theorem d91_4 {n : Nat} {X : aX} {h : aH} {P : Int → aH → Prop} {x1 x2 x3 : Int32} {a1 a2 a3 : Int} {u4 u5 : Option Value} (S : wS h) (z1 : x1.toInt = a1) (z2 : x2.toInt = a2) (z3 : x3.toInt = a3) (H : ((vw h 13 2 ≤ a3 → P a2 h) ∧ (a3 < vw h 13 2 → (0 ≤ a3 → a3 < 12 → (0 ≤ cNxt (vw h) a3 → cNxt (vw h) a3 < 12 → ((a1 < min (vw h 15 a3) (vw h 15 (cNxt (vw h) a3)) → (∀ (w3 : Int32) (u4_ : Option Value) (u5_ : Option Value), w3.toInt = w32 (a3 + 2) → Pt n X zM91 4 [some (.ref 13), some (.int x1), some (.int x2), some (.int w3), u4_, u5_] [] h (qI P))) ∧ (min (vw h 15 a3) (vw h 15 (cNxt (vw h) a3)) ≤ a1 → ((max (vw h 15 a3) (vw h 15 (cNxt (vw h) a3)) ≤ a1 → (∀ (w3 : Int32) (u4_ : Option Value) (u5_ : Option Value), w3.toInt = w32 (a3 + 2) → Pt n X zM91 4 [some (.ref 13), some (.int x1), some (.int x2), some (.int w3), u4_, u5_] [] h (qI P))) ∧ (a1 < max (vw h 15 a3) (vw h 15 (cNxt (vw h) a3)) → (∀ (w2 : Int32) (w3 : Int32) (u4_ : Option Value) (u5_ : Option Value), w2.toInt = bXor a2 (bAnd 16777215 (bShl (-1) (vw h 14 a3))) → w3.toInt = w32 (a3 + 2) → Pt n X zM91 4 [some (.ref 13), some (.int x1), some (.int w2), some (.int w3), u4_, u5_] [] h (qI P))))))))))) : Pt (n + 1) X zM91 4 [some (.ref 13), some (.int x1), some (.int x2), some (.int x3), u4, u5] [] h (qI P) := by
  refine pt_1 (fun n d => r_iloadn gx91_4 rfl) ?_
  refine pt_d (pt_1 (fun n d => r_aloadn gx91_5 rfl) ?_)
  refine pt_d (pt_getI (B := 2) gx91_6 S (fun v1 h1 => ?_))
  refine pt_d (pt_icmp_ge gx91_9 z3 h1 (fun e2 => ?_) (fun e2 => ?_))
  · have H := H.1 e2
    refine pt_d (pt_1 (fun n d => r_iloadn gx91_74 rfl) ?_)
    exact pt_d (pt_iret gx91_75 ⟨_, rfl, by rw [z2]; exact H⟩)
  · have H := H.2 e2
    refine pt_d (pt_1 (fun n d => r_aloadn gx91_12 rfl) ?_)
    refine pt_d (pt_getR gx91_13 S tr_13_1 ?_)
    refine pt_d (pt_1 (fun n d => r_iloadn gx91_16 rfl) ?_)
    refine pt_d (pt_iald (N' := 12) gx91_17 S tl_15 z3 (fun v4 p4 q4 h4 => ?_))
    have H := H p4 q4
    refine pt_d (pt_1 (fun n d => r_istore (L' := [some (.ref 13), some (.int x1), some (.int x2), some (.int x3), some (.int v4), u5]) gx91_18 rfl rfl) ?_)
    refine pt_d (pt_1 (fun n d => r_aloadn gx91_20 rfl) ?_)
    refine pt_d (pt_getR gx91_21 S tr_13_1 ?_)
    refine pt_d (pt_1 (fun n d => r_aloadn gx91_24 rfl) ?_)
    refine pt_d (pt_1 (fun n d => r_iloadn gx91_25 rfl) ?_)
    refine pt_d (pt_virt (as := [.int x3]) (r := [.ref 15]) gx91_26 rfl (show zmt[92]? = some zM92 from rfl) rfl rfl rfl rfl (c_92 S z3) (kqP (fun v6 h6 => ?_)))
    show Pt _ _ _ 29 _ [.int v6, .ref 15] _ _
    refine pt_d (pt_iald (N' := 12) gx91_29 S tl_15 h6 (fun v7 p7 q7 h7 => ?_))
    have H := H p7 q7
    refine pt_d (pt_1 (fun n d => r_istore (L' := [some (.ref 13), some (.int x1), some (.int x2), some (.int x3), some (.int v4), some (.int v7)]) gx91_30 rfl rfl) ?_)
    refine pt_d (pt_1 (fun n d => r_iload gx91_32 rfl) ?_)
    refine pt_d (pt_1 (fun n d => r_iload gx91_34 rfl) ?_)
    refine pt_d (pt_min gx91_36 rfl h4 h7 (fun v8 h8 => ?_))
    refine pt_d (pt_1 (fun n d => r_iloadn gx91_39 rfl) ?_)
    refine pt_d (pt_icmp_gt gx91_40 h8 z1 (fun e9 => ?_) (fun e9 => ?_))
    · have H := H.1 e9
      refine pt_d (pt_iinc (c := 2) gx91_68 rfl z3 (fun v10 h10 => ?_))
      show Pt _ _ _ _ [some (.ref 13), some (.int x1), some (.int x2), some (.int v10), some (.int v4), some (.int v7)] [] _ _
      refine pt_d (pt_1 (fun n d => r_goto gx91_71) ?_)
      exact H v10 _ _ h10
    · have H := H.2 e9
      refine pt_d (pt_1 (fun n d => r_iloadn gx91_43 rfl) ?_)
      refine pt_d (pt_1 (fun n d => r_iload gx91_44 rfl) ?_)
      refine pt_d (pt_1 (fun n d => r_iload gx91_46 rfl) ?_)
      refine pt_d (pt_max gx91_48 rfl h4 h7 (fun v11 h11 => ?_))
      refine pt_d (pt_icmp_ge gx91_51 z1 h11 (fun e12 => ?_) (fun e12 => ?_))
      · have H := H.1 e12
        refine pt_d (pt_iinc (c := 2) gx91_68 rfl z3 (fun v13 h13 => ?_))
        show Pt _ _ _ _ [some (.ref 13), some (.int x1), some (.int x2), some (.int v13), some (.int v4), some (.int v7)] [] _ _
        refine pt_d (pt_1 (fun n d => r_goto gx91_71) ?_)
        exact H v13 _ _ h13
      · have H := H.2 e12
        refine pt_d (pt_1 (fun n d => r_iloadn gx91_54 rfl) ?_)
        refine pt_d (pt_ldc (c := 16777215) gx91_55 rfl (fun v14 h14 => ?_))
        refine pt_d (pt_iconst gx91_57 (fun v15 h15 => ?_))
        refine pt_d (pt_1 (fun n d => r_aloadn gx91_58 rfl) ?_)
        refine pt_d (pt_getR gx91_59 S tr_13_0 ?_)
        refine pt_d (pt_1 (fun n d => r_iloadn gx91_62 rfl) ?_)
        refine pt_d (pt_iald (N' := 12) gx91_63 S tl_14 z3 (fun v17 p17 q17 h17 => ?_))
        refine pt_d (pt_ishl gx91_64 h15 h17 (fun v18 h18 => ?_))
        refine pt_d (pt_iand gx91_65 h14 h18 (fun v19 h19 => ?_))
        refine pt_d (pt_ixor gx91_66 z2 h19 (fun v20 h20 => ?_))
        refine pt_d (pt_1 (fun n d => r_istoren (L' := [some (.ref 13), some (.int x1), some (.int v20), some (.int x3), some (.int v4), some (.int v7)]) gx91_67 rfl rfl) ?_)
        refine pt_d (pt_iinc (c := 2) gx91_68 rfl z3 (fun v21 h21 => ?_))
        show Pt _ _ _ _ [some (.ref 13), some (.int x1), some (.int v20), some (.int v21), some (.int v4), some (.int v7)] [] _ _
        refine pt_d (pt_1 (fun n d => r_goto gx91_71) ?_)
        exact H v20 v21 _ _ h20 h21
theorem d221_0 {n : Nat} {X : aX} {h : aH} {P : Int → aH → Prop} {x1 x2 : Int32} {a1 a2 : Int} (S : wS h) (z1 : x1.toInt = a1) (z2 : x2.toInt = a2) (H : (∀ (w3 : Int32) (w4 : Int32), w3.toInt = 0 → w4.toInt = 1 → Pt n X zM221 5 [some (.ref 72), some (.int x1), some (.int x2), some (.int w3), some (.int w4)] [] h (qI P))) : Pt (n + 1) X zM221 0 [some (.ref 72), some (.int x1), some (.int x2), none, none] [] h (qI P) := by
  refine pt_iconst gx221_0 (fun v1 h1 => ?_)
  refine pt_d (pt_1 (fun n d => r_istoren (L' := [some (.ref 72), some (.int x1), some (.int x2), some (.int v1), none]) gx221_1 rfl rfl) ?_)
  refine pt_d (pt_iconst gx221_2 (fun v2 h2 => ?_))
  refine pt_d (pt_1 (fun n d => r_istore (L' := [some (.ref 72), some (.int x1), some (.int x2), some (.int v1), some (.int v2)]) gx221_3 rfl rfl) ?_)
  exact H v1 v2 h1 h2
theorem d221_5 {n : Nat} {X : aX} {h : aH} {P : Int → aH → Prop} {x1 x2 x3 x4 : Int32} {a1 a2 a3 a4 : Int} (S : wS h) (z1 : x1.toInt = a1) (z2 : x2.toInt = a2) (z3 : x3.toInt = a3) (z4 : x4.toInt = a4) (H : ((vw h 72 11 ≤ a4 → P a3 h) ∧ (a4 < vw h 72 11 → (0 ≤ a4 → a4 < 12 → ((vw h 81 a4 ≤ a1 → (∀ (w4 : Int32), w4.toInt = w32 (a4 + 2) → Pt n X zM221 5 [some (.ref 72), some (.int x1), some (.int x2), some (.int x3), some (.int w4)] [] h (qI P))) ∧ (a1 < vw h 81 a4 → ((¬ ((min ((vw h) 82 a4) ((vw h) 82 (mNxt (vw h) a4))) ≤ a2 ∧ a2 ≤ (w32 ((max ((vw h) 82 a4) ((vw h) 82 (mNxt (vw h) a4))) - 1))) → (∀ (w4 : Int32), w4.toInt = w32 (a4 + 2) → Pt n X zM221 5 [some (.ref 72), some (.int x1), some (.int x2), some (.int x3), some (.int w4)] [] h (qI P))) ∧ (((min ((vw h) 82 a4) ((vw h) 82 (mNxt (vw h) a4))) ≤ a2 ∧ a2 ≤ (w32 ((max ((vw h) 82 a4) ((vw h) 82 (mNxt (vw h) a4))) - 1))) → ((a3 ≠ 0 → (∀ (w3 : Int32) (w4 : Int32), w3.toInt = 0 → w4.toInt = w32 (a4 + 2) → Pt n X zM221 5 [some (.ref 72), some (.int x1), some (.int x2), some (.int w3), some (.int w4)] [] h (qI P))) ∧ (a3 = 0 → (∀ (w3 : Int32) (w4 : Int32), w3.toInt = 1 → w4.toInt = w32 (a4 + 2) → Pt n X zM221 5 [some (.ref 72), some (.int x1), some (.int x2), some (.int w3), some (.int w4)] [] h (qI P)))))))))))) : Pt (n + 1) X zM221 5 [some (.ref 72), some (.int x1), some (.int x2), some (.int x3), some (.int x4)] [] h (qI P) := by
  refine pt_1 (fun n d => r_iload gx221_5 rfl) ?_
  refine pt_d (pt_1 (fun n d => r_aloadn gx221_7 rfl) ?_)
  refine pt_d (pt_getI (B := 11) gx221_8 S (fun v1 h1 => ?_))
  refine pt_d (pt_icmp_ge gx221_11 z4 h1 (fun e2 => ?_) (fun e2 => ?_))
  · have H := H.1 e2
    refine pt_d (pt_1 (fun n d => r_iloadn gx221_62 rfl) ?_)
    exact pt_d (pt_iret gx221_63 ⟨_, rfl, by rw [z3]; exact H⟩)
  · have H := H.2 e2
    refine pt_d (pt_1 (fun n d => r_aloadn gx221_14 rfl) ?_)
    refine pt_d (pt_getR gx221_15 S tr_72_12 ?_)
    refine pt_d (pt_1 (fun n d => r_iload gx221_18 rfl) ?_)
    refine pt_d (pt_iald (N' := 12) gx221_20 S tl_81 z4 (fun v4 p4 q4 h4 => ?_))
    have H := H p4 q4
    refine pt_d (pt_1 (fun n d => r_iloadn gx221_21 rfl) ?_)
    refine pt_d (pt_icmp_le gx221_22 h4 z1 (fun e5 => ?_) (fun e5 => ?_))
    · have H := H.1 e5
      refine pt_d (pt_iinc (c := 2) gx221_56 rfl z4 (fun v6 h6 => ?_))
      show Pt _ _ _ _ [some (.ref 72), some (.int x1), some (.int x2), some (.int x3), some (.int v6)] [] _ _
      refine pt_d (pt_1 (fun n d => r_goto gx221_59) ?_)
      exact H v6 h6
    · have H := H.2 e5
      refine pt_d (pt_1 (fun n d => r_iloadn gx221_25 rfl) ?_)
      refine pt_d (pt_1 (fun n d => r_aloadn gx221_26 rfl) ?_)
      refine pt_d (pt_1 (fun n d => r_iload gx221_27 rfl) ?_)
      refine pt_d (pt_virt (as := [.int x4]) (r := [.int x2]) gx221_29 rfl (show zmt[216]? = some zM216 from rfl) rfl rfl rfl rfl (c_216 S z4) (kqP (fun v7 h7 => ?_)))
      show Pt _ _ _ 32 _ [.int v7, .int x2] _ _
      refine pt_d (pt_1 (fun n d => r_aloadn gx221_32 rfl) ?_)
      refine pt_d (pt_1 (fun n d => r_iload gx221_33 rfl) ?_)
      refine pt_d (pt_virt (as := [.int x4]) (r := [.int v7, .int x2]) gx221_35 rfl (show zmt[217]? = some zM217 from rfl) rfl rfl rfl rfl (c_217 S z4) (kqP (fun v8 h8 => ?_)))
      show Pt _ _ _ 38 _ [.int v8, .int v7, .int x2] _ _
      refine pt_d (pt_iconst gx221_38 (fun v9 h9 => ?_))
      refine pt_d (pt_isub gx221_39 h8 h9 (fun v10 h10 => ?_))
      refine pt_d (pt_stat (as := [.int x2, .int v7, .int v10]) (r := []) gx221_40 rfl (show zmt[196]? = some zM196 from rfl) rfl rfl rfl rfl (c_196 S z2 h7 h10) (kqP (fun v11 h11 => ?_)))
      show Pt _ _ _ 43 _ [.int v11] _ _
      refine pt_d (pt_ifB_eq gx221_43 h11 (fun e12 => ?_) (fun e12 => ?_))
      · have H := H.1 e12
        refine pt_d (pt_iinc (c := 2) gx221_56 rfl z4 (fun v13 h13 => ?_))
        show Pt _ _ _ _ [some (.ref 72), some (.int x1), some (.int x2), some (.int x3), some (.int v13)] [] _ _
        refine pt_d (pt_1 (fun n d => r_goto gx221_59) ?_)
        exact H v13 h13
      · have H := H.2 e12
        refine pt_d (pt_1 (fun n d => r_iloadn gx221_46 rfl) ?_)
        refine pt_d (pt_if_ne gx221_47 z3 (fun e14 => ?_) (fun e14 => ?_))
        · have H := H.1 e14
          refine pt_d (pt_iconst gx221_54 (fun v15 h15 => ?_))
          refine pt_d (pt_1 (fun n d => r_istoren (L' := [some (.ref 72), some (.int x1), some (.int x2), some (.int v15), some (.int x4)]) gx221_55 rfl rfl) ?_)
          refine pt_d (pt_iinc (c := 2) gx221_56 rfl z4 (fun v16 h16 => ?_))
          show Pt _ _ _ _ [some (.ref 72), some (.int x1), some (.int x2), some (.int v15), some (.int v16)] [] _ _
          refine pt_d (pt_1 (fun n d => r_goto gx221_59) ?_)
          exact H v15 v16 h15 h16
        · have H := H.2 e14
          refine pt_d (pt_iconst gx221_50 (fun v17 h17 => ?_))
          refine pt_d (pt_1 (fun n d => r_goto gx221_51) ?_)
          refine pt_d (pt_1 (fun n d => r_istoren (L' := [some (.ref 72), some (.int x1), some (.int x2), some (.int v17), some (.int x4)]) gx221_55 rfl rfl) ?_)
          refine pt_d (pt_iinc (c := 2) gx221_56 rfl z4 (fun v18 h18 => ?_))
          show Pt _ _ _ _ [some (.ref 72), some (.int x1), some (.int x2), some (.int v17), some (.int v18)] [] _ _
          refine pt_d (pt_1 (fun n d => r_goto gx221_59) ?_)
          exact H v17 v18 h17 h18
def cIns (V : vS) (y : Int) : Nat → Int
  | 0 => 0
  | k + 1 => if min (V 15 (2 * (k : Nat) + 1)) (V 15 (cNxt V (2 * (k : Nat) + 1))) ≤ y ∧ y < max (V 15 (2 * (k : Nat) + 1)) (V 15 (cNxt V (2 * (k : Nat) + 1))) then bXor (cIns V y k) (bAnd 16777215 (bShl (-1) (V 14 (2 * (k : Nat) + 1)))) else cIns V y k
def cRow (V : vS) (y : Int) : Int := cIns V y ((V 13 2).toNat / 2)
def mIn (V : vS) (x y : Int) : Nat → Int
  | 0 => 0
  | k + 1 => if x < V 81 (2 * (k : Nat) + 1) ∧ (min (V 82 (2 * (k : Nat) + 1)) (V 82 (mNxt V (2 * (k : Nat) + 1))) ≤ y ∧ y ≤ w32 (max (V 82 (2 * (k : Nat) + 1)) (V 82 (mNxt V (2 * (k : Nat) + 1))) - 1)) then (if mIn V x y k ≠ 0 then 0 else 1) else mIn V x y k
def mInR (V : vS) (x y : Int) : Int := mIn V x y ((V 72 11).toNat / 2)
theorem l_91 {X : aX} {h : aH} (S : wS h) (h0 : 0 ≤ vw h 13 2) (hn : vw h 13 2 ≤ 12) : ∀ (n : Nat) (x1 x2 x3 : Int32) (u4 u5 : Option Value) (k : Nat), x3.toInt = 2 * (k : Nat) + 1 → 2 * (k : Int) ≤ vw h 13 2 → x2.toInt = cIns (vw h) x1.toInt k → Pt n X zM91 4 [some (.ref 13), some (.int x1), some (.int x2), some (.int x3), u4, u5] [] h (qI (fun y h' => h' = h ∧ y = cRow (vw h) x1.toInt)) := by
  intro n
  induction n with
  | zero => exact fun _ _ _ _ _ _ _ _ _ => pt_z
  | succ n ih =>
    intro x1 x2 x3 u4 u5 k hk kn hx
    have step : ∀ (y2 y3 : Int32) (u4 u5 : Option Value), 2 * (k : Int) + 1 < vw h 13 2 → y3.toInt = w32 (2 * (k : Nat) + 1 + 2) → y2.toInt = cIns (vw h) x1.toInt (k + 1) → Pt n X zM91 4 [some (.ref 13), some (.int x1), some (.int y2), some (.int y3), u4, u5] [] h (qI (fun y h' => h' = h ∧ y = cRow (vw h) x1.toInt)) := by
      intro y2 y3 u4 u5 e h3 h2
      refine ih x1 y2 y3 u4 u5 (k + 1) ?_ (by omega) h2
      rw [h3, w32_id (by omega) (by omega)]; omega
    refine d91_4 S rfl hx hk ⟨fun e => ⟨rfl, ?_⟩, fun e p q p2 q2 => ⟨fun e2 y3 u4 u5 h3 => step x2 y3 u4 u5 e h3 ?_, fun e2 => ⟨fun e3 y3 u4 u5 h3 => step x2 y3 u4 u5 e h3 ?_, fun e3 y2 y3 u4 u5 h2 h3 => step y2 y3 u4 u5 e h3 ?_⟩⟩⟩
    · unfold cRow
      rw [show (vw h 13 2).toNat / 2 = k by omega]
    · rw [hx]; conv => rhs; unfold cIns
      rw [if_neg (by omega)]
    · rw [hx]; conv => rhs; unfold cIns
      rw [if_neg (by omega)]
    · rw [h2]; conv => rhs; unfold cIns
      rw [if_pos ⟨e2, e3⟩]
theorem c_91 {n : Nat} {X : aX} {h : aH} {x1 : Int32} {a1 : Int} (S : wS h) (z1 : x1.toInt = a1) (hn : 0 ≤ vw h 13 2 ∧ vw h 13 2 ≤ 12) : Pt n X zM91 0 [some (.ref 13), some (.int x1), none, none, none, none] [] h (qI (fun y h' => h' = h ∧ y = cRow (vw h) a1)) := by
  subst z1
  refine pt_d (d91_0 S rfl (fun y2 y3 u4 u5 h2 h3 => l_91 S hn.1 hn.2 n x1 y2 y3 u4 u5 0 h3 (by omega) h2))
theorem l_221 {X : aX} {h : aH} (S : wS h) (h0 : 0 ≤ vw h 72 11) (hn : vw h 72 11 ≤ 12) : ∀ (n : Nat) (x1 x2 x3 x4 : Int32) (k : Nat), x4.toInt = 2 * (k : Nat) + 1 → 2 * (k : Int) ≤ vw h 72 11 → x3.toInt = mIn (vw h) x1.toInt x2.toInt k → Pt n X zM221 5 [some (.ref 72), some (.int x1), some (.int x2), some (.int x3), some (.int x4)] [] h (qI (fun y h' => h' = h ∧ y = mInR (vw h) x1.toInt x2.toInt)) := by
  intro n
  induction n with
  | zero => exact fun _ _ _ _ _ _ _ _ => pt_z
  | succ n ih =>
    intro x1 x2 x3 x4 k hk kn hx
    have step : ∀ (y3 y4 : Int32), 2 * (k : Int) + 1 < vw h 72 11 → y4.toInt = w32 (2 * (k : Nat) + 1 + 2) → y3.toInt = mIn (vw h) x1.toInt x2.toInt (k + 1) → Pt n X zM221 5 [some (.ref 72), some (.int x1), some (.int x2), some (.int y3), some (.int y4)] [] h (qI (fun y h' => h' = h ∧ y = mInR (vw h) x1.toInt x2.toInt)) := by
      intro y3 y4 e h4 h3
      refine ih x1 x2 y3 y4 (k + 1) ?_ (by omega) h3
      rw [h4, w32_id (by omega) (by omega)]; omega
    refine d221_5 S rfl rfl hx hk ⟨fun e => ⟨rfl, ?_⟩, fun e p q => ⟨fun e2 y4 h4 => step x3 y4 e h4 ?_, fun e2 => ⟨fun e3 y4 h4 => step x3 y4 e h4 ?_, fun e3 => ⟨fun e4 y3 y4 h3 h4 => step y3 y4 e h4 ?_, fun e4 y3 y4 h3 h4 => step y3 y4 e h4 ?_⟩⟩⟩⟩
    · unfold mInR
      rw [show (vw h 72 11).toNat / 2 = k by omega]
    · rw [hx]; conv => rhs; unfold mIn
      rw [if_neg (fun z => by omega)]
    · rw [hx]; conv => rhs; unfold mIn
      rw [if_neg (fun z => e3 z.2)]
    · rw [h3]; conv => rhs; unfold mIn
      rw [if_pos ⟨e2, e3⟩, if_pos e4]
    · rw [h3]; conv => rhs; unfold mIn
      rw [if_pos ⟨e2, e3⟩, if_neg (fun z => z e4)]
theorem c_221 {n : Nat} {X : aX} {h : aH} {x1 x2 : Int32} {a1 a2 : Int} (S : wS h) (z1 : x1.toInt = a1) (z2 : x2.toInt = a2) (hn : 0 ≤ vw h 72 11 ∧ vw h 72 11 ≤ 12) : Pt n X zM221 0 [some (.ref 72), some (.int x1), some (.int x2), none, none] [] h (qI (fun y h' => h' = h ∧ y = mInR (vw h) a1 a2)) := by
  subst z1
  subst z2
  refine pt_d (d221_0 S rfl rfl (fun y3 y4 h3 h4 => l_221 S hn.1 hn.2 n x1 x2 y3 y4 0 h4 (by omega) h3))

theorem d81_0 {n : Nat} {X : aX} {h : aH} {P : aH → Prop} {x1 : Int32} {a1 : Int} (S : wS h) (z1 : x1.toInt = a1) (H : (∀ (w3 : Int32), w3.toInt = 0 → Pt n X zM81 2 [some (.ref 1), some (.int x1), some (.ref 13), some (.int w3)] [] h (qN P))) : Pt (n + 1) X zM81 0 [some (.ref 1), some (.int x1), some (.ref 13), none] [] h (qN P) := by
  refine pt_iconst gx81_0 (fun v1 h1 => ?_)
  refine pt_d (pt_1 (fun n d => r_istoren (L' := [some (.ref 1), some (.int x1), some (.ref 13), some (.int v1)]) gx81_1 rfl rfl) ?_)
  exact H v1 h1
theorem d81_2 {n : Nat} {X : aX} {h : aH} {P : aH → Prop} {x1 x3 : Int32} {a1 a3 : Int} (S : wS h) (z1 : x1.toInt = a1) (z3 : x3.toInt = a3) (H : ((24 ≤ a3 → P h) ∧ (a3 < 24 → ((0 ≤ vw h 13 2 ∧ vw h 13 2 ≤ 12) ∧ (0 ≤ w32 ((w32 (a1 * 24)) + a3) → w32 ((w32 (a1 * 24)) + a3) < 3600 → ∀ h_8 : aH, wS h_8 → vw h_8 = up (vw h) 8 (w32 ((w32 (a1 * 24)) + a3)) (cRow (vw h) a3) → (∀ (w3 : Int32), w3.toInt = w32 (a3 + 1) → Pt n X zM81 2 [some (.ref 1), some (.int x1), some (.ref 13), some (.int w3)] [] h_8 (qN P))))))) : Pt (n + 1) X zM81 2 [some (.ref 1), some (.int x1), some (.ref 13), some (.int x3)] [] h (qN P) := by
  refine pt_1 (fun n d => r_iloadn gx81_2 rfl) ?_
  refine pt_d (pt_bipush gx81_3 (fun v1 h1 => ?_))
  refine pt_d (pt_icmp_ge gx81_5 z3 h1 (fun e2 => ?_) (fun e2 => ?_))
  · have H := H.1 e2
    exact pt_d (pt_vret gx81_30 ⟨rfl, H⟩)
  · have H := H.2 e2
    refine pt_d (pt_1 (fun n d => r_aloadn gx81_8 rfl) ?_)
    refine pt_d (pt_getR gx81_9 S tr_1_13 ?_)
    refine pt_d (pt_1 (fun n d => r_iloadn gx81_12 rfl) ?_)
    refine pt_d (pt_bipush gx81_13 (fun v4 h4 => ?_))
    refine pt_d (pt_imul gx81_15 z1 h4 (fun v5 h5 => ?_))
    refine pt_d (pt_1 (fun n d => r_iloadn gx81_16 rfl) ?_)
    refine pt_d (pt_iadd gx81_17 h5 z3 (fun v6 h6 => ?_))
    refine pt_d (pt_1 (fun n d => r_aloadn gx81_18 rfl) ?_)
    refine pt_d (pt_1 (fun n d => r_iloadn gx81_19 rfl) ?_)
    obtain ⟨pr7, H⟩ := H
    refine pt_d (pt_virt (as := [.int x3]) (r := [.int v6, .ref 8]) gx81_20 rfl (show zmt[91]? = some zM91 from rfl) rfl rfl rfl rfl (c_91 S z3 pr7) (kqP (fun v7 h7 => ?_)))
    show Pt _ _ _ 23 _ [.int v7, .int v6, .ref 8] _ _
    refine pt_d (pt_iast (N' := 3600) gx81_23 S tl_8 h6 h7 (fun h_8 S8 p8 q8 e8 => ?_))
    have H := H p8 q8
    refine pt_d (pt_iinc (c := 1) gx81_24 rfl z3 (fun v9 h9 => ?_))
    show Pt _ _ _ _ [some (.ref 1), some (.int x1), some (.ref 13), some (.int v9)] [] _ _
    refine pt_d (pt_1 (fun n d => r_goto gx81_27) ?_)
    have H := H h_8 S8 (by rw [e8])
    exact H v9 h9
theorem cNxt_c {V V' : vS} (e : V' 13 2 = V 13 2) (i : Int) : cNxt V' i = cNxt V i := by unfold cNxt; rw [e]
theorem mNxt_c {V V' : vS} (e : V' 72 11 = V 72 11) (i : Int) : mNxt V' i = mNxt V i := by unfold mNxt; rw [e]
theorem cIns_c {V V' : vS} (e : V' 13 2 = V 13 2) (e1 : ∀ j, V' 14 j = V 14 j) (e2 : ∀ j, V' 15 j = V 15 j) (y : Int) : ∀ k, cIns V' y k = cIns V y k
  | 0 => rfl
  | k + 1 => by
    unfold cIns
    rw [cIns_c e e1 e2 y k, cNxt_c e, e1, e2, e2]
theorem cRow_c {V V' : vS} (e : V' 13 2 = V 13 2) (e1 : ∀ j, V' 14 j = V 14 j) (e2 : ∀ j, V' 15 j = V 15 j) (y : Int) : cRow V' y = cRow V y := by
  unfold cRow
  rw [e, cIns_c e e1 e2]
theorem mIn_c {V V' : vS} (e : V' 72 11 = V 72 11) (e1 : ∀ j, V' 81 j = V 81 j) (e2 : ∀ j, V' 82 j = V 82 j) (x y : Int) : ∀ k, mIn V' x y k = mIn V x y k
  | 0 => rfl
  | k + 1 => by
    unfold mIn
    rw [mIn_c e e1 e2 x y k, mNxt_c e, e1, e2, e2]
theorem mInR_c {V V' : vS} (e : V' 72 11 = V 72 11) (e1 : ∀ j, V' 81 j = V 81 j) (e2 : ∀ j, V' 82 j = V 82 j) (x y : Int) : mInR V' x y = mInR V x y := by
  unfold mInR
  rw [e, mIn_c e e1 e2]
theorem mAr_c {V V' : vS} (e : V' 72 11 = V 72 11) (e1 : ∀ j, V' 81 j = V 81 j) (e2 : ∀ j, V' 82 j = V 82 j) : ∀ k, mAr V' k = mAr V k
  | 0 => rfl
  | k + 1 => by
    unfold mAr
    rw [mAr_c e e1 e2 k, mNxt_c e, e1, e1, e2, e2]
theorem mArea_c {V V' : vS} (e : V' 72 11 = V 72 11) (e1 : ∀ j, V' 81 j = V 81 j) (e2 : ∀ j, V' 82 j = V 82 j) : mArea V' = mArea V := by
  unfold mArea
  rw [e, mAr_c e e1 e2]
def outl (V : vS) (b y : Int) : vS := fun c j => if c = 8 ∧ 24 * b ≤ j ∧ j < 24 * b + y then cRow V (j - 24 * b) else V c j
theorem outl_c {V : vS} {b y : Int} {c : Nat} {j : Int} (h : c ≠ 8) : outl V b y c j = V c j := if_neg (fun q => h q.1)
theorem outl_s {V V' : vS} {b y : Int} (hb : 0 ≤ b) (hb2 : b < 150) (h0 : 0 ≤ y) (h1 : y < 24) (e : V' = up (outl V b y) 8 (24 * b + y) (cRow V y)) : V' = outl V b (y + 1) := by
  funext c j
  rw [e]
  unfold up outl
  by_cases q : c = 8
  · subst q
    by_cases q2 : j = 24 * b + y
    · rw [if_pos ⟨rfl, q2⟩, if_pos ⟨rfl, by omega, by omega⟩]
      congr 1
      omega
    · rw [if_neg (fun z => q2 z.2)]
      by_cases q3 : 24 * b ≤ j ∧ j < 24 * b + y
      · rw [if_pos ⟨rfl, q3⟩, if_pos ⟨rfl, by omega, by omega⟩]
      · rw [if_neg (fun z => q3 z.2), if_neg (fun z => by omega)]
  · rw [if_neg (fun z => q z.1), if_neg (fun z => q z.1), if_neg (fun z => q z.1)]
theorem l_81 {X : aX} {V : vS} {b : Int} (hb : 0 ≤ b) (hb2 : b < 150) (h0 : 0 ≤ V 13 2) (hn : V 13 2 ≤ 12) : ∀ (n : Nat) (h : aH) (x1 x3 : Int32), wS h → x1.toInt = b → 0 ≤ x3.toInt → x3.toInt ≤ 24 → vw h = outl V b x3.toInt → Pt n X zM81 2 [some (.ref 1), some (.int x1), some (.ref 13), some (.int x3)] [] h (qN (fun h' => wS h' ∧ vw h' = outl V b 24)) := by
  intro n
  induction n with
  | zero => exact fun _ _ _ _ _ _ _ _ => pt_z
  | succ n ih =>
    intro h x1 x3 S h1 p q e
    have en : vw h 13 2 = V 13 2 := by rw [e]; exact outl_c (by decide)
    have er : cRow (vw h) x3.toInt = cRow V x3.toInt := cRow_c en (fun j => by rw [e]; exact outl_c (by decide)) (fun j => by rw [e]; exact outl_c (by decide)) _
    refine d81_2 S h1 rfl ⟨fun e2 => ⟨S, by rw [e, show x3.toInt = 24 by omega]⟩, fun e2 => ⟨⟨by omega, by omega⟩, fun p3 q3 g S2 eg w3 h3 => ?_⟩⟩
    have h3 := w_1 h3 (by omega) (by omega)
    refine ih g x1 w3 S2 h1 (by omega) (by omega) ?_
    rw [h3]
    refine outl_s hb hb2 p e2 ?_
    rw [eg, er, e]
    congr 1
    unfold w32
    omega
theorem c_81 {n : Nat} {X : aX} {h : aH} {x1 : Int32} {a1 : Int} (S : wS h) (z1 : x1.toInt = a1) (hp : (0 ≤ a1 ∧ a1 < 150) ∧ 0 ≤ vw h 13 2 ∧ vw h 13 2 ≤ 12) : Pt n X zM81 0 [some (.ref 1), some (.int x1), some (.ref 13), none] [] h (qN (fun h' => wS h' ∧ vw h' = outl (vw h) a1 24)) := by
  refine pt_d (d81_0 S z1 (fun w3 h3 => l_81 hp.1.1 hp.1.2 hp.2.1 hp.2.2 n h x1 w3 S z1 (by omega) (by omega) ?_))
  funext c j
  unfold outl
  rw [if_neg (fun z => by omega)]
def mRw (V : vS) (y : Int) : Nat → Int
  | 0 => 0
  | x + 1 => if mInR V (x : Nat) y ≠ 0 then bOr (mRw V y x) (bShl 1 (x : Nat)) else bOr (mRw V y x) 0
def outm (V : vS) (b y : Int) : vS := fun c j => if c = 80 ∧ 24 * b ≤ j ∧ j < 24 * b + y then mRw V (j - 24 * b) 24 else V c j
theorem outm_c {V : vS} {b y : Int} {c : Nat} {j : Int} (h : c ≠ 80) : outm V b y c j = V c j := if_neg (fun q => h q.1)
theorem outm_s {V V' : vS} {b y : Int} (hb : 0 ≤ b) (hb2 : b < 150) (h0 : 0 ≤ y) (h1 : y < 24) (e : V' = up (outm V b y) 80 (24 * b + y) (mRw V y 24)) : V' = outm V b (y + 1) := by
  funext c j
  rw [e]
  unfold up outm
  by_cases q : c = 80
  · subst q
    by_cases q2 : j = 24 * b + y
    · rw [if_pos ⟨rfl, q2⟩, if_pos ⟨rfl, by omega, by omega⟩]
      congr 1
      omega
    · rw [if_neg (fun z => q2 z.2)]
      by_cases q3 : 24 * b ≤ j ∧ j < 24 * b + y
      · rw [if_pos ⟨rfl, q3⟩, if_pos ⟨rfl, by omega, by omega⟩]
      · rw [if_neg (fun z => q3 z.2), if_neg (fun z => by omega)]
  · rw [if_neg (fun z => q z.1), if_neg (fun z => q z.1), if_neg (fun z => q z.1)]

theorem d150_0 {n : Nat} {X : aX} {h : aH} {P : Int → aH → Prop} {x1 x2 : Int32} {a1 a2 : Int} (S : wS h) (z1 : x1.toInt = a1) (z2 : x2.toInt = a2) (H : ((¬ (cFarm (vw h) a1) → P (-1) h) ∧ ((cFarm (vw h) a1) → (((0 ≤ a2 ∧ a2 ≤ 1) → (vw h 13 2 ≤ 12 ∧ (((cSound (vw h)) → ((¬ (150 ≤ (vw h) 1 1) → ((a2 ≠ 1 → (vw h 13 2 ≤ 12 ∧ ∀ (y21 : Int) (h_21 : aH), (wS h_21 ∧ RAdd (vw h) 4 (cArea (vw h)) a1 y21 (vw h_21)) → (((0 ≤ y21 ∧ y21 < 150) ∧ 0 ≤ vw h_21 13 2 ∧ vw h_21 13 2 ≤ 12) ∧ ∀ (h_24 : aH), (wS h_24 ∧ vw h_24 = outl (vw h_21) y21 24) → ∀ h_27 : aH, wS h_27 → vw h_27 = up (vw h_24) 13 2 0 → P y21 h_27))) ∧ (a2 = 1 → (vw h 13 2 ≤ 12 ∧ ∀ (y31 : Int) (h_31 : aH), (wS h_31 ∧ RAdd (vw h) 5 (cArea (vw h)) a1 y31 (vw h_31)) → (((0 ≤ y31 ∧ y31 < 150) ∧ 0 ≤ vw h_31 13 2 ∧ vw h_31 13 2 ≤ 12) ∧ ∀ (h_34 : aH), (wS h_34 ∧ vw h_34 = outl (vw h_31) y31 24) → ∀ h_37 : aH, wS h_37 → vw h_37 = up (vw h_34) 13 2 0 → P y31 h_37))))) ∧ ((150 ≤ (vw h) 1 1) → P (-3) h))) ∧ (¬ (cSound (vw h)) → P (-2) h)))) ∧ (¬ (0 ≤ a2 ∧ a2 ≤ 1) → P (-1) h))))) : Pt (n + 1) X zM150 0 [some (.ref 0), some (.int x1), some (.int x2), none] [] h (qI P) := by
  refine pt_1 (fun n d => r_aloadn gx150_0 rfl) ?_
  refine pt_d (pt_getR gx150_1 S tr_0_0 ?_)
  refine pt_d (pt_1 (fun n d => r_iloadn gx150_4 rfl) ?_)
  refine pt_d (pt_virt (as := [.int x1]) (r := []) gx150_5 rfl (show zmt[75]? = some zM75 from rfl) rfl rfl rfl rfl (c_75 S z1) (kqP (fun v2 h2 => ?_)))
  show Pt _ _ _ 8 _ [.int v2] _ _
  refine pt_d (pt_ifB_eq gx150_8 h2 (fun e3 => ?_) (fun e3 => ?_))
  · have H := H.1 e3
    refine pt_d (pt_iconst gx150_20 (fun v4 h4 => ?_))
    exact pt_d (pt_iret gx150_21 ⟨_, rfl, by rw [h4]; exact H⟩)
  · have H := H.2 e3
    refine pt_d (pt_1 (fun n d => r_iloadn gx150_11 rfl) ?_)
    refine pt_d (pt_iconst gx150_12 (fun v5 h5 => ?_))
    refine pt_d (pt_iconst gx150_13 (fun v6 h6 => ?_))
    refine pt_d (pt_stat (as := [.int x2, .int v5, .int v6]) (r := []) gx150_14 rfl (show zmt[137]? = some zM137 from rfl) rfl rfl rfl rfl (c_137 S z2 h5 h6) (kqP (fun v7 h7 => ?_)))
    show Pt _ _ _ 17 _ [.int v7] _ _
    refine pt_d (pt_ifB_ne gx150_17 h7 (fun e8 => ?_) (fun e8 => ?_))
    · have H := H.1 e8
      refine pt_d (pt_1 (fun n d => r_aloadn gx150_22 rfl) ?_)
      refine pt_d (pt_getR gx150_23 S tr_0_1 ?_)
      obtain ⟨pr10, H⟩ := H
      refine pt_d (pt_virt (as := []) (r := []) gx150_26 rfl (show zmt[89]? = some zM89 from rfl) rfl rfl rfl rfl (c_89 S pr10) (kqP (fun v10 h10 => ?_)))
      show Pt _ _ _ 29 _ [.int v10] _ _
      refine pt_d (pt_ifB_ne gx150_29 h10 (fun e11 => ?_) (fun e11 => ?_))
      · have H := H.1 e11
        refine pt_d (pt_1 (fun n d => r_aloadn gx150_35 rfl) ?_)
        refine pt_d (pt_getR gx150_36 S tr_0_0 ?_)
        refine pt_d (pt_virt (as := []) (r := []) gx150_39 rfl (show zmt[73]? = some zM73 from rfl) rfl rfl rfl rfl (c_73 S) (kqP (fun v13 h13 => ?_)))
        show Pt _ _ _ 42 _ [.int v13] _ _
        refine pt_d (pt_ifB_eq gx150_42 h13 (fun e14 => ?_) (fun e14 => ?_))
        · have H := H.1 e14
          refine pt_d (pt_1 (fun n d => r_aloadn gx150_48 rfl) ?_)
          refine pt_d (pt_getR gx150_49 S tr_0_0 ?_)
          refine pt_d (pt_1 (fun n d => r_iloadn gx150_52 rfl) ?_)
          refine pt_d (pt_iconst gx150_53 (fun v16 h16 => ?_))
          refine pt_d (pt_icmp_ne gx150_54 z2 h16 (fun e17 => ?_) (fun e17 => ?_))
          · have H := H.1 e17
            refine pt_d (pt_iconst gx150_61 (fun v18 h18 => ?_))
            refine pt_d (pt_1 (fun n d => r_aloadn gx150_62 rfl) ?_)
            refine pt_d (pt_getR gx150_63 S tr_0_1 ?_)
            obtain ⟨pr20, H⟩ := H
            refine pt_d (pt_virt (as := []) (r := [.int v18, .ref 1]) gx150_66 rfl (show zmt[90]? = some zM90 from rfl) rfl rfl rfl rfl (c_90 S pr20) (kqP (fun v20 h20 => ?_)))
            show Pt _ _ _ 69 _ [.int v20, .int v18, .ref 1] _ _
            refine pt_d (pt_1 (fun n d => r_iloadn gx150_69 rfl) ?_)
            refine pt_d (pt_virt (as := [.int v18, .int v20, .int x1]) (r := []) gx150_70 rfl (show zmt[79]? = some zM79 from rfl) rfl rfl rfl rfl (c_79 S h18 h20 z1) (kqI (fun v21 y21 h_21 h21 P21 => ?_)))
            have S21 := P21.1
            have H := H y21 h_21 P21
            show Pt _ _ _ 73 _ [.int v21] _ _
            refine pt_d (pt_1 (fun n d => r_istoren (L' := [some (.ref 0), some (.int x1), some (.int x2), some (.int v21)]) gx150_73 rfl rfl) ?_)
            refine pt_d (pt_1 (fun n d => r_aloadn gx150_74 rfl) ?_)
            refine pt_d (pt_getR gx150_75 S21 tr_0_0 ?_)
            refine pt_d (pt_1 (fun n d => r_iloadn gx150_78 rfl) ?_)
            refine pt_d (pt_1 (fun n d => r_aloadn gx150_79 rfl) ?_)
            refine pt_d (pt_getR gx150_80 S21 tr_0_1 ?_)
            obtain ⟨pr24, H⟩ := H
            refine pt_d (pt_virt (as := [.int v21, .ref 13]) (r := []) gx150_83 rfl (show zmt[81]? = some zM81 from rfl) rfl rfl rfl rfl (c_81 S21 h21 pr24) (kqN (fun h_24 P24 => ?_)))
            have S24 := P24.1
            have H := H h_24 P24
            show Pt _ _ _ 86 _ [] _ _
            refine pt_d (pt_1 (fun n d => r_aloadn gx150_86 rfl) ?_)
            refine pt_d (pt_getR gx150_87 S24 tr_0_1 ?_)
            refine pt_d (pt_iconst gx150_90 (fun v26 h26 => ?_))
            refine pt_d (pt_putI (B := 2) gx150_91 S24 h26 (fun h_27 S27 e27 => ?_))
            refine pt_d (pt_1 (fun n d => r_iloadn gx150_94 rfl) ?_)
            have H := H h_27 S27 (by rw [e27])
            exact pt_d (pt_iret gx150_95 ⟨_, rfl, by rw [h21]; exact H⟩)
          · have H := H.2 e17
            refine pt_d (pt_iconst gx150_57 (fun v28 h28 => ?_))
            refine pt_d (pt_1 (fun n d => r_goto gx150_58) ?_)
            refine pt_d (pt_1 (fun n d => r_aloadn gx150_62 rfl) ?_)
            refine pt_d (pt_getR gx150_63 S tr_0_1 ?_)
            obtain ⟨pr30, H⟩ := H
            refine pt_d (pt_virt (as := []) (r := [.int v28, .ref 1]) gx150_66 rfl (show zmt[90]? = some zM90 from rfl) rfl rfl rfl rfl (c_90 S pr30) (kqP (fun v30 h30 => ?_)))
            show Pt _ _ _ 69 _ [.int v30, .int v28, .ref 1] _ _
            refine pt_d (pt_1 (fun n d => r_iloadn gx150_69 rfl) ?_)
            refine pt_d (pt_virt (as := [.int v28, .int v30, .int x1]) (r := []) gx150_70 rfl (show zmt[79]? = some zM79 from rfl) rfl rfl rfl rfl (c_79 S h28 h30 z1) (kqI (fun v31 y31 h_31 h31 P31 => ?_)))
            have S31 := P31.1
            have H := H y31 h_31 P31
            show Pt _ _ _ 73 _ [.int v31] _ _
            refine pt_d (pt_1 (fun n d => r_istoren (L' := [some (.ref 0), some (.int x1), some (.int x2), some (.int v31)]) gx150_73 rfl rfl) ?_)
            refine pt_d (pt_1 (fun n d => r_aloadn gx150_74 rfl) ?_)
            refine pt_d (pt_getR gx150_75 S31 tr_0_0 ?_)
            refine pt_d (pt_1 (fun n d => r_iloadn gx150_78 rfl) ?_)
            refine pt_d (pt_1 (fun n d => r_aloadn gx150_79 rfl) ?_)
            refine pt_d (pt_getR gx150_80 S31 tr_0_1 ?_)
            obtain ⟨pr34, H⟩ := H
            refine pt_d (pt_virt (as := [.int v31, .ref 13]) (r := []) gx150_83 rfl (show zmt[81]? = some zM81 from rfl) rfl rfl rfl rfl (c_81 S31 h31 pr34) (kqN (fun h_34 P34 => ?_)))
            have S34 := P34.1
            have H := H h_34 P34
            show Pt _ _ _ 86 _ [] _ _
            refine pt_d (pt_1 (fun n d => r_aloadn gx150_86 rfl) ?_)
            refine pt_d (pt_getR gx150_87 S34 tr_0_1 ?_)
            refine pt_d (pt_iconst gx150_90 (fun v36 h36 => ?_))
            refine pt_d (pt_putI (B := 2) gx150_91 S34 h36 (fun h_37 S37 e37 => ?_))
            refine pt_d (pt_1 (fun n d => r_iloadn gx150_94 rfl) ?_)
            have H := H h_37 S37 (by rw [e37])
            exact pt_d (pt_iret gx150_95 ⟨_, rfl, by rw [h31]; exact H⟩)
        · have H := H.2 e14
          refine pt_d (pt_bipush gx150_45 (fun v38 h38 => ?_))
          exact pt_d (pt_iret gx150_47 ⟨_, rfl, by rw [h38]; exact H⟩)
      · have H := H.2 e11
        refine pt_d (pt_bipush gx150_32 (fun v39 h39 => ?_))
        exact pt_d (pt_iret gx150_34 ⟨_, rfl, by rw [h39]; exact H⟩)
    · have H := H.2 e8
      refine pt_d (pt_iconst gx150_20 (fun v40 h40 => ?_))
      exact pt_d (pt_iret gx150_21 ⟨_, rfl, by rw [h40]; exact H⟩)
theorem d222_0 {n : Nat} {X : aX} {h : aH} {P : Int → aH → Prop} {x1 x2 : Int32} {a1 a2 : Int} (S : wS h) (z1 : x1.toInt = a1) (z2 : x2.toInt = a2) (H : ((¬ (mFarm (vw h) a1) → P (-1) h) ∧ ((mFarm (vw h) a1) → (((0 ≤ a2 ∧ a2 ≤ 1) → (vw h 72 11 ≤ 12 ∧ (((mSound (vw h)) → ((vw h 72 2 ≠ 150 → ((a2 ≠ 1 → ∀ (y16 : Int) (h_16 : aH), (wS h_16 ∧ RAddM (vw h) 4 y16 (vw h_16)) → (0 ≤ y16 → y16 < 150 → ∀ h_18 : aH, wS h_18 → vw h_18 = up (vw h_16) 75 y16 a1 → (vw h_18 72 11 ≤ 12 ∧ ∀ h_21 : aH, wS h_21 → vw h_21 = up (vw h_18) 78 y16 (mArea (vw h_18)) → (∀ (w3 : Int32) (w4 : Int32) (u5_ : Option Value) (u6_ : Option Value), w3.toInt = y16 → w4.toInt = 0 → Pt n X zM222 77 [some (.ref 72), some (.int x1), some (.int x2), some (.int w3), some (.int w4), u5_, u6_] [] h_21 (qI P))))) ∧ (a2 = 1 → ∀ (y24 : Int) (h_24 : aH), (wS h_24 ∧ RAddM (vw h) 5 y24 (vw h_24)) → (0 ≤ y24 → y24 < 150 → ∀ h_26 : aH, wS h_26 → vw h_26 = up (vw h_24) 75 y24 a1 → (vw h_26 72 11 ≤ 12 ∧ ∀ h_29 : aH, wS h_29 → vw h_29 = up (vw h_26) 78 y24 (mArea (vw h_26)) → (∀ (w3 : Int32) (w4 : Int32) (u5_ : Option Value) (u6_ : Option Value), w3.toInt = y24 → w4.toInt = 0 → Pt n X zM222 77 [some (.ref 72), some (.int x1), some (.int x2), some (.int w3), some (.int w4), u5_, u6_] [] h_29 (qI P))))))) ∧ (vw h 72 2 = 150 → P (-3) h))) ∧ (¬ (mSound (vw h)) → P (-2) h)))) ∧ (¬ (0 ≤ a2 ∧ a2 ≤ 1) → P (-1) h))))) : Pt (n + 1) X zM222 0 [some (.ref 72), some (.int x1), some (.int x2), none, none, none, none] [] h (qI P) := by
  refine pt_1 (fun n d => r_aloadn gx222_0 rfl) ?_
  refine pt_d (pt_1 (fun n d => r_iloadn gx222_1 rfl) ?_)
  refine pt_d (pt_virt (as := [.int x1]) (r := []) gx222_2 rfl (show zmt[202]? = some zM202 from rfl) rfl rfl rfl rfl (c_202 S z1) (kqP (fun v1 h1 => ?_)))
  show Pt _ _ _ 5 _ [.int v1] _ _
  refine pt_d (pt_ifB_eq gx222_5 h1 (fun e2 => ?_) (fun e2 => ?_))
  · have H := H.1 e2
    refine pt_d (pt_iconst gx222_17 (fun v3 h3 => ?_))
    exact pt_d (pt_iret gx222_18 ⟨_, rfl, by rw [h3]; exact H⟩)
  · have H := H.2 e2
    refine pt_d (pt_1 (fun n d => r_iloadn gx222_8 rfl) ?_)
    refine pt_d (pt_iconst gx222_9 (fun v4 h4 => ?_))
    refine pt_d (pt_iconst gx222_10 (fun v5 h5 => ?_))
    refine pt_d (pt_stat (as := [.int x2, .int v4, .int v5]) (r := []) gx222_11 rfl (show zmt[196]? = some zM196 from rfl) rfl rfl rfl rfl (c_196 S z2 h4 h5) (kqP (fun v6 h6 => ?_)))
    show Pt _ _ _ 14 _ [.int v6] _ _
    refine pt_d (pt_ifB_ne gx222_14 h6 (fun e7 => ?_) (fun e7 => ?_))
    · have H := H.1 e7
      refine pt_d (pt_1 (fun n d => r_aloadn gx222_19 rfl) ?_)
      obtain ⟨pr8, H⟩ := H
      refine pt_d (pt_virt (as := []) (r := []) gx222_20 rfl (show zmt[218]? = some zM218 from rfl) rfl rfl rfl rfl (c_218 S pr8) (kqP (fun v8 h8 => ?_)))
      show Pt _ _ _ 23 _ [.int v8] _ _
      refine pt_d (pt_ifB_ne gx222_23 h8 (fun e9 => ?_) (fun e9 => ?_))
      · have H := H.1 e9
        refine pt_d (pt_1 (fun n d => r_aloadn gx222_29 rfl) ?_)
        refine pt_d (pt_getI (B := 2) gx222_30 S (fun v10 h10 => ?_))
        refine pt_d (pt_sipush gx222_33 (fun v11 h11 => ?_))
        refine pt_d (pt_icmp_ne gx222_36 h10 h11 (fun e12 => ?_) (fun e12 => ?_))
        · have H := H.1 e12
          refine pt_d (pt_1 (fun n d => r_aloadn gx222_42 rfl) ?_)
          refine pt_d (pt_1 (fun n d => r_iloadn gx222_43 rfl) ?_)
          refine pt_d (pt_iconst gx222_44 (fun v13 h13 => ?_))
          refine pt_d (pt_icmp_ne gx222_45 z2 h13 (fun e14 => ?_) (fun e14 => ?_))
          · have H := H.1 e14
            refine pt_d (pt_iconst gx222_52 (fun v15 h15 => ?_))
            refine pt_d (pt_virt (as := [.int v15]) (r := []) gx222_53 rfl (show zmt[204]? = some zM204 from rfl) rfl rfl rfl rfl (c_204 S h15) (kqI (fun v16 y16 h_16 h16 P16 => ?_)))
            have S16 := P16.1
            have H := H y16 h_16 P16
            show Pt _ _ _ 56 _ [.int v16] _ _
            refine pt_d (pt_1 (fun n d => r_istoren (L' := [some (.ref 72), some (.int x1), some (.int x2), some (.int v16), none, none, none]) gx222_56 rfl rfl) ?_)
            refine pt_d (pt_1 (fun n d => r_aloadn gx222_57 rfl) ?_)
            refine pt_d (pt_getR gx222_58 S16 tr_72_5 ?_)
            refine pt_d (pt_1 (fun n d => r_iloadn gx222_61 rfl) ?_)
            refine pt_d (pt_1 (fun n d => r_iloadn gx222_62 rfl) ?_)
            refine pt_d (pt_iast (N' := 150) gx222_63 S16 tl_75 h16 z1 (fun h_18 S18 p18 q18 e18 => ?_))
            have H := H p18 q18
            refine pt_d (pt_1 (fun n d => r_aloadn gx222_64 rfl) ?_)
            refine pt_d (pt_getR gx222_65 S18 tr_72_8 ?_)
            refine pt_d (pt_1 (fun n d => r_iloadn gx222_68 rfl) ?_)
            refine pt_d (pt_1 (fun n d => r_aloadn gx222_69 rfl) ?_)
            have H := H h_18 S18 (by rw [e18])
            obtain ⟨pr20, H⟩ := H
            refine pt_d (pt_virt (as := []) (r := [.int v16, .ref 78]) gx222_70 rfl (show zmt[219]? = some zM219 from rfl) rfl rfl rfl rfl (c_219 S18 pr20) (kqP (fun v20 h20 => ?_)))
            show Pt _ _ _ 73 _ [.int v20, .int v16, .ref 78] _ _
            refine pt_d (pt_iast (N' := 150) gx222_73 S18 tl_78 h16 h20 (fun h_21 S21 p21 q21 e21 => ?_))
            refine pt_d (pt_iconst gx222_74 (fun v22 h22 => ?_))
            refine pt_d (pt_1 (fun n d => r_istore (L' := [some (.ref 72), some (.int x1), some (.int x2), some (.int v16), some (.int v22), none, none]) gx222_75 rfl rfl) ?_)
            have H := H h_21 S21 (by rw [e21])
            exact H v16 v22 _ _ h16 h22
          · have H := H.2 e14
            refine pt_d (pt_iconst gx222_48 (fun v23 h23 => ?_))
            refine pt_d (pt_1 (fun n d => r_goto gx222_49) ?_)
            refine pt_d (pt_virt (as := [.int v23]) (r := []) gx222_53 rfl (show zmt[204]? = some zM204 from rfl) rfl rfl rfl rfl (c_204 S h23) (kqI (fun v24 y24 h_24 h24 P24 => ?_)))
            have S24 := P24.1
            have H := H y24 h_24 P24
            show Pt _ _ _ 56 _ [.int v24] _ _
            refine pt_d (pt_1 (fun n d => r_istoren (L' := [some (.ref 72), some (.int x1), some (.int x2), some (.int v24), none, none, none]) gx222_56 rfl rfl) ?_)
            refine pt_d (pt_1 (fun n d => r_aloadn gx222_57 rfl) ?_)
            refine pt_d (pt_getR gx222_58 S24 tr_72_5 ?_)
            refine pt_d (pt_1 (fun n d => r_iloadn gx222_61 rfl) ?_)
            refine pt_d (pt_1 (fun n d => r_iloadn gx222_62 rfl) ?_)
            refine pt_d (pt_iast (N' := 150) gx222_63 S24 tl_75 h24 z1 (fun h_26 S26 p26 q26 e26 => ?_))
            have H := H p26 q26
            refine pt_d (pt_1 (fun n d => r_aloadn gx222_64 rfl) ?_)
            refine pt_d (pt_getR gx222_65 S26 tr_72_8 ?_)
            refine pt_d (pt_1 (fun n d => r_iloadn gx222_68 rfl) ?_)
            refine pt_d (pt_1 (fun n d => r_aloadn gx222_69 rfl) ?_)
            have H := H h_26 S26 (by rw [e26])
            obtain ⟨pr28, H⟩ := H
            refine pt_d (pt_virt (as := []) (r := [.int v24, .ref 78]) gx222_70 rfl (show zmt[219]? = some zM219 from rfl) rfl rfl rfl rfl (c_219 S26 pr28) (kqP (fun v28 h28 => ?_)))
            show Pt _ _ _ 73 _ [.int v28, .int v24, .ref 78] _ _
            refine pt_d (pt_iast (N' := 150) gx222_73 S26 tl_78 h24 h28 (fun h_29 S29 p29 q29 e29 => ?_))
            refine pt_d (pt_iconst gx222_74 (fun v30 h30 => ?_))
            refine pt_d (pt_1 (fun n d => r_istore (L' := [some (.ref 72), some (.int x1), some (.int x2), some (.int v24), some (.int v30), none, none]) gx222_75 rfl rfl) ?_)
            have H := H h_29 S29 (by rw [e29])
            exact H v24 v30 _ _ h24 h30
        · have H := H.2 e12
          refine pt_d (pt_bipush gx222_39 (fun v31 h31 => ?_))
          exact pt_d (pt_iret gx222_41 ⟨_, rfl, by rw [h31]; exact H⟩)
      · have H := H.2 e9
        refine pt_d (pt_bipush gx222_26 (fun v32 h32 => ?_))
        exact pt_d (pt_iret gx222_28 ⟨_, rfl, by rw [h32]; exact H⟩)
    · have H := H.2 e7
      refine pt_d (pt_iconst gx222_17 (fun v33 h33 => ?_))
      exact pt_d (pt_iret gx222_18 ⟨_, rfl, by rw [h33]; exact H⟩)
theorem d222_77 {n : Nat} {X : aX} {h : aH} {P : Int → aH → Prop} {x1 x2 x3 x4 : Int32} {a1 a2 a3 a4 : Int} {u5 u6 : Option Value} (S : wS h) (z1 : x1.toInt = a1) (z2 : x2.toInt = a2) (z3 : x3.toInt = a3) (z4 : x4.toInt = a4) (H : ((24 ≤ a4 → ∀ h_4 : aH, wS h_4 → vw h_4 = up (vw h) 72 11 0 → P a3 h_4) ∧ (a4 < 24 → (∀ (w5 : Int32) (w6 : Int32), w5.toInt = 0 → w6.toInt = 0 → Pt n X zM222 90 [some (.ref 72), some (.int x1), some (.int x2), some (.int x3), some (.int x4), some (.int w5), some (.int w6)] [] h (qI P))))) : Pt (n + 1) X zM222 77 [some (.ref 72), some (.int x1), some (.int x2), some (.int x3), some (.int x4), u5, u6] [] h (qI P) := by
  refine pt_1 (fun n d => r_iload gx222_77 rfl) ?_
  refine pt_d (pt_bipush gx222_79 (fun v1 h1 => ?_))
  refine pt_d (pt_icmp_ge gx222_81 z4 h1 (fun e2 => ?_) (fun e2 => ?_))
  · have H := H.1 e2
    refine pt_d (pt_1 (fun n d => r_aloadn gx222_147 rfl) ?_)
    refine pt_d (pt_iconst gx222_148 (fun v3 h3 => ?_))
    refine pt_d (pt_putI (B := 11) gx222_149 S h3 (fun h_4 S4 e4 => ?_))
    refine pt_d (pt_1 (fun n d => r_iloadn gx222_152 rfl) ?_)
    have H := H h_4 S4 (by rw [e4])
    exact pt_d (pt_iret gx222_153 ⟨_, rfl, by rw [z3]; exact H⟩)
  · have H := H.2 e2
    refine pt_d (pt_iconst gx222_84 (fun v5 h5 => ?_))
    refine pt_d (pt_1 (fun n d => r_istore (L' := [some (.ref 72), some (.int x1), some (.int x2), some (.int x3), some (.int x4), some (.int v5), u6]) gx222_85 rfl rfl) ?_)
    refine pt_d (pt_iconst gx222_87 (fun v6 h6 => ?_))
    refine pt_d (pt_1 (fun n d => r_istore (L' := [some (.ref 72), some (.int x1), some (.int x2), some (.int x3), some (.int x4), some (.int v5), some (.int v6)]) gx222_88 rfl rfl) ?_)
    exact H v5 v6 h5 h6
theorem d222_90 {n : Nat} {X : aX} {h : aH} {P : Int → aH → Prop} {x1 x2 x3 x4 x5 x6 : Int32} {a1 a2 a3 a4 a5 a6 : Int} (S : wS h) (z1 : x1.toInt = a1) (z2 : x2.toInt = a2) (z3 : x3.toInt = a3) (z4 : x4.toInt = a4) (z5 : x5.toInt = a5) (z6 : x6.toInt = a6) (H : ((24 ≤ a6 → (0 ≤ w32 ((w32 (24 * a3)) + a4) → w32 ((w32 (24 * a3)) + a4) < 3600 → ∀ h_7 : aH, wS h_7 → vw h_7 = up (vw h) 80 (w32 ((w32 (24 * a3)) + a4)) a5 → (∀ (w4 : Int32) (u5_ : Option Value) (u6_ : Option Value), w4.toInt = w32 (a4 + 1) → Pt n X zM222 77 [some (.ref 72), some (.int x1), some (.int x2), some (.int x3), some (.int w4), u5_, u6_] [] h_7 (qI P)))) ∧ (a6 < 24 → ((0 ≤ vw h 72 11 ∧ vw h 72 11 ≤ 12) ∧ ((mInR (vw h) a6 a4 = 0 → (∀ (w5 : Int32) (w6 : Int32), w5.toInt = bOr a5 0 → w6.toInt = w32 (a6 + 1) → Pt n X zM222 90 [some (.ref 72), some (.int x1), some (.int x2), some (.int x3), some (.int x4), some (.int w5), some (.int w6)] [] h (qI P))) ∧ (mInR (vw h) a6 a4 ≠ 0 → (∀ (w5 : Int32) (w6 : Int32), w5.toInt = bOr a5 (bShl 1 a6) → w6.toInt = w32 (a6 + 1) → Pt n X zM222 90 [some (.ref 72), some (.int x1), some (.int x2), some (.int x3), some (.int x4), some (.int w5), some (.int w6)] [] h (qI P)))))))) : Pt (n + 1) X zM222 90 [some (.ref 72), some (.int x1), some (.int x2), some (.int x3), some (.int x4), some (.int x5), some (.int x6)] [] h (qI P) := by
  refine pt_1 (fun n d => r_iload gx222_90 rfl) ?_
  refine pt_d (pt_bipush gx222_92 (fun v1 h1 => ?_))
  refine pt_d (pt_icmp_ge gx222_94 z6 h1 (fun e2 => ?_) (fun e2 => ?_))
  · have H := H.1 e2
    refine pt_d (pt_1 (fun n d => r_aloadn gx222_127 rfl) ?_)
    refine pt_d (pt_getR gx222_128 S tr_72_10 ?_)
    refine pt_d (pt_bipush gx222_131 (fun v4 h4 => ?_))
    refine pt_d (pt_1 (fun n d => r_iloadn gx222_133 rfl) ?_)
    refine pt_d (pt_imul gx222_134 h4 z3 (fun v5 h5 => ?_))
    refine pt_d (pt_1 (fun n d => r_iload gx222_135 rfl) ?_)
    refine pt_d (pt_iadd gx222_137 h5 z4 (fun v6 h6 => ?_))
    refine pt_d (pt_1 (fun n d => r_iload gx222_138 rfl) ?_)
    refine pt_d (pt_iast (N' := 3600) gx222_140 S tl_80 h6 z5 (fun h_7 S7 p7 q7 e7 => ?_))
    have H := H p7 q7
    refine pt_d (pt_iinc (c := 1) gx222_141 rfl z4 (fun v8 h8 => ?_))
    show Pt _ _ _ _ [some (.ref 72), some (.int x1), some (.int x2), some (.int x3), some (.int v8), some (.int x5), some (.int x6)] [] _ _
    refine pt_d (pt_1 (fun n d => r_goto gx222_144) ?_)
    have H := H h_7 S7 (by rw [e7])
    exact H v8 _ _ h8
  · have H := H.2 e2
    refine pt_d (pt_1 (fun n d => r_iload gx222_97 rfl) ?_)
    refine pt_d (pt_1 (fun n d => r_aloadn gx222_99 rfl) ?_)
    refine pt_d (pt_1 (fun n d => r_iload gx222_100 rfl) ?_)
    refine pt_d (pt_1 (fun n d => r_iload gx222_102 rfl) ?_)
    obtain ⟨pr9, H⟩ := H
    refine pt_d (pt_virt (as := [.int x6, .int x4]) (r := [.int x5]) gx222_104 rfl (show zmt[221]? = some zM221 from rfl) rfl rfl rfl rfl (c_221 S z6 z4 pr9) (kqP (fun v9 h9 => ?_)))
    show Pt _ _ _ 107 _ [.int v9, .int x5] _ _
    refine pt_d (pt_if_eq gx222_107 h9 (fun e10 => ?_) (fun e10 => ?_))
    · have H := H.1 e10
      refine pt_d (pt_iconst gx222_117 (fun v11 h11 => ?_))
      refine pt_d (pt_ior gx222_118 z5 h11 (fun v12 h12 => ?_))
      refine pt_d (pt_1 (fun n d => r_istore (L' := [some (.ref 72), some (.int x1), some (.int x2), some (.int x3), some (.int x4), some (.int v12), some (.int x6)]) gx222_119 rfl rfl) ?_)
      refine pt_d (pt_iinc (c := 1) gx222_121 rfl z6 (fun v13 h13 => ?_))
      show Pt _ _ _ _ [some (.ref 72), some (.int x1), some (.int x2), some (.int x3), some (.int x4), some (.int v12), some (.int v13)] [] _ _
      refine pt_d (pt_1 (fun n d => r_goto gx222_124) ?_)
      exact H v12 v13 h12 h13
    · have H := H.2 e10
      refine pt_d (pt_iconst gx222_110 (fun v14 h14 => ?_))
      refine pt_d (pt_1 (fun n d => r_iload gx222_111 rfl) ?_)
      refine pt_d (pt_ishl gx222_113 h14 z6 (fun v15 h15 => ?_))
      refine pt_d (pt_1 (fun n d => r_goto gx222_114) ?_)
      refine pt_d (pt_ior gx222_118 z5 h15 (fun v16 h16 => ?_))
      refine pt_d (pt_1 (fun n d => r_istore (L' := [some (.ref 72), some (.int x1), some (.int x2), some (.int x3), some (.int x4), some (.int v16), some (.int x6)]) gx222_119 rfl rfl) ?_)
      refine pt_d (pt_iinc (c := 1) gx222_121 rfl z6 (fun v17 h17 => ?_))
      show Pt _ _ _ _ [some (.ref 72), some (.int x1), some (.int x2), some (.int x3), some (.int x4), some (.int v16), some (.int v17)] [] _ _
      refine pt_d (pt_1 (fun n d => r_goto gx222_124) ?_)
      exact H v16 v17 h16 h17
theorem cAddV_c {V : vS} {k m t : Int} {c : Nat} {j : Int} (h1 : c ≠ 1) (h2 : c ≠ 2) (h3 : c ≠ 3) (h4 : c ≠ 4) (h5 : c ≠ 5) (h7 : c ≠ 7) : cAddV V k m t c j = V c j := by
  unfold cAddV
  rw [up_c h1, up_c h1, up_c h1, up_c h5, up_c h4, up_c h7, up_c h3, up_c h2]
theorem mAddV_c {V : vS} {k : Int} {c : Nat} {j : Int} (h1 : c ≠ 72) (h2 : c ≠ 73) (h3 : c ≠ 75) (h4 : c ≠ 76) (h5 : c ≠ 77) : mAddV V k c j = V c j := by
  unfold mAddV
  rw [up_c h1, up_c h5, up_c h4, up_c h3, up_c h2]
def R150 (V : vS) (f m r : Int) (V' : vS) : Prop := (¬ (cFarm V f ∧ 0 ≤ m ∧ m ≤ 1) ∧ r = -1 ∧ V' = V) ∨ ((cFarm V f ∧ 0 ≤ m ∧ m ≤ 1) ∧ ((¬ cSound V ∧ r = -2 ∧ V' = V) ∨ (cSound V ∧ 150 ≤ V 1 1 ∧ r = -3 ∧ V' = V) ∨ (cSound V ∧ 0 ≤ V 1 1 ∧ V 1 1 < 150 ∧ r = V 1 1 ∧ V' = up (outl (cAddV V (if m = 1 then 5 else 4) (cArea V) f) (V 1 1) 24) 13 2 0)))
theorem c_150 {n : Nat} {X : aX} {h : aH} {x1 x2 : Int32} {a1 a2 : Int} (S : wS h) (z1 : x1.toInt = a1) (z2 : x2.toInt = a2) (h0 : 0 ≤ vw h 13 2) (hn : vw h 13 2 ≤ 12) : Pt n X zM150 0 [some (.ref 0), some (.int x1), some (.int x2), none] [] h (qI (fun y h' => R150 (vw h) a1 a2 y (vw h'))) := by
  refine pt_d (d150_0 S z1 z2 ⟨fun e => Or.inl ⟨fun q => e q.1, rfl, rfl⟩, fun e1 => ⟨fun e2 => ⟨hn, ⟨fun e3 => ⟨fun e4 => ⟨fun e5 => ⟨hn, fun y g p => ?_⟩, fun e5 => ⟨hn, fun y g p => ?_⟩⟩, fun e4 => Or.inr ⟨⟨e1, e2⟩, Or.inr (Or.inl ⟨e3, e4, rfl, rfl⟩)⟩⟩, fun e3 => Or.inr ⟨⟨e1, e2⟩, Or.inl ⟨e3, rfl, rfl⟩⟩⟩⟩, fun e2 => Or.inl ⟨fun q => e2 q.2, rfl, rfl⟩⟩⟩)
  · rcases p.2 with ⟨q1, q2, q3⟩ | ⟨q1, q2, q3, q4⟩
    · omega
    · have r : vw g 13 2 = vw h 13 2 := by rw [q4]; exact cAddV_c (by decide) (by decide) (by decide) (by decide) (by decide) (by decide)
      refine ⟨⟨⟨by omega, by omega⟩, by omega, by omega⟩, fun g2 p2 g3 S3 eg => Or.inr ⟨⟨e1, e2⟩, Or.inr (Or.inr ⟨e3, q1, q2, q3, ?_⟩)⟩⟩
      rw [eg, p2.2, q4, q3, if_neg e5]
  · rcases p.2 with ⟨q1, q2, q3⟩ | ⟨q1, q2, q3, q4⟩
    · omega
    · have r : vw g 13 2 = vw h 13 2 := by rw [q4]; exact cAddV_c (by decide) (by decide) (by decide) (by decide) (by decide) (by decide)
      refine ⟨⟨⟨by omega, by omega⟩, by omega, by omega⟩, fun g2 p2 g3 S3 eg => Or.inr ⟨⟨e1, e2⟩, Or.inr (Or.inr ⟨e3, q1, q2, q3, ?_⟩)⟩⟩
      rw [eg, p2.2, q4, q3, if_pos e5]
theorem l_222 {X : aX} {V : vS} {b : Int} (hb : 0 ≤ b) (hb2 : b < 150) (h0 : 0 ≤ V 72 11) (hn : V 72 11 ≤ 12) : ∀ n : Nat, (∀ (h : aH) (x1 x2 x3 x4 : Int32) (u5 u6 : Option Value), wS h → x3.toInt = b → 0 ≤ x4.toInt → x4.toInt ≤ 24 → vw h = outm V b x4.toInt → Pt n X zM222 77 [some (.ref 72), some (.int x1), some (.int x2), some (.int x3), some (.int x4), u5, u6] [] h (qI (fun y h' => y = b ∧ vw h' = up (outm V b 24) 72 11 0))) ∧ (∀ (h : aH) (x1 x2 x3 x4 x5 x6 : Int32) (k : Nat), wS h → x3.toInt = b → 0 ≤ x4.toInt → x4.toInt < 24 → vw h = outm V b x4.toInt → x6.toInt = k → k ≤ 24 → x5.toInt = mRw V x4.toInt k → Pt n X zM222 90 [some (.ref 72), some (.int x1), some (.int x2), some (.int x3), some (.int x4), some (.int x5), some (.int x6)] [] h (qI (fun y h' => y = b ∧ vw h' = up (outm V b 24) 72 11 0))) := by
  intro n
  induction n with
  | zero => exact ⟨fun _ _ _ _ _ _ _ _ _ _ _ _ => pt_z, fun _ _ _ _ _ _ _ _ _ _ _ _ _ _ _ _ => pt_z⟩
  | succ n ih =>
    obtain ⟨ih1, ih2⟩ := ih
    constructor
    · intro h x1 x2 x3 x4 u5 u6 S h3 p q e
      refine d222_77 S rfl rfl h3 rfl ⟨fun e2 g S2 eg => ⟨rfl, by rw [eg, e, show x4.toInt = 24 by omega]⟩, fun e2 w5 w6 h5 h6 => ih2 h x1 x2 x3 x4 w5 w6 0 S h3 p e2 e h6 (by omega) h5⟩
    · intro h x1 x2 x3 x4 x5 x6 k S h3 p q e h6 hk h5
      have en : vw h 72 11 = V 72 11 := by rw [e]; exact outm_c (by decide)
      have e1 : ∀ j, vw h 81 j = V 81 j := fun j => by rw [e]; exact outm_c (by decide)
      have e2 : ∀ j, vw h 82 j = V 82 j := fun j => by rw [e]; exact outm_c (by decide)
      have step : ∀ w5 w6 : Int32, (k : Int) < 24 → w6.toInt = w32 ((k : Nat) + 1) → w5.toInt = mRw V x4.toInt (k + 1) → Pt n X zM222 90 [some (.ref 72), some (.int x1), some (.int x2), some (.int x3), some (.int x4), some (.int w5), some (.int w6)] [] h (qI (fun y h' => y = b ∧ vw h' = up (outm V b 24) 72 11 0)) := by
        intro w5 w6 k2 g6 g5
        refine ih2 h x1 x2 x3 x4 w5 w6 (k + 1) S h3 p q e ?_ (by omega) g5
        rw [g6, w32_id (by omega) (by omega)]; omega
      refine d222_90 S rfl rfl h3 rfl h5 h6 ⟨fun e3 p3 q3 g S2 eg w4 u5 u6 h4 => ?_, fun e3 => ⟨⟨by omega, by omega⟩, ⟨fun e4 w5 w6 g5 g6 => step w5 w6 e3 g6 ?_, fun e4 w5 w6 g5 g6 => step w5 w6 e3 g6 ?_⟩⟩⟩
      · have h4 := w_1 h4 (by omega) (by omega)
        refine ih1 g x1 x2 x3 w4 u5 u6 S2 h3 (by omega) (by omega) ?_
        rw [h4]
        refine outm_s hb hb2 p q ?_
        rw [eg, e, show k = 24 by omega]
        congr 1
        unfold w32
        omega
      · rw [g5]; conv => rhs; unfold mRw
        rw [← mInR_c en e1 e2, if_neg (fun z => z e4)]
      · rw [g5]; conv => rhs; unfold mRw
        rw [← mInR_c en e1 e2, if_pos e4]
def R222 (V : vS) (f m r : Int) (V' : vS) : Prop := (¬ (mFarm V f ∧ 0 ≤ m ∧ m ≤ 1) ∧ r = -1 ∧ V' = V) ∨ ((mFarm V f ∧ 0 ≤ m ∧ m ≤ 1) ∧ ((¬ mSound V ∧ r = -2 ∧ V' = V) ∨ (mSound V ∧ V 72 2 = 150 ∧ r = -3 ∧ V' = V) ∨ (mSound V ∧ V 72 2 ≠ 150 ∧ ∃ V1, RAddM V (if m = 1 then 5 else 4) r V1 ∧ V' = up (outm (up (up V1 75 r f) 78 r (mArea V)) r 24) 72 11 0)))
theorem c_222 {n : Nat} {X : aX} {h : aH} {x1 x2 : Int32} {a1 a2 : Int} (S : wS h) (z1 : x1.toInt = a1) (z2 : x2.toInt = a2) (h0 : 0 ≤ vw h 72 11) (hn : vw h 72 11 ≤ 12) : Pt n X zM222 0 [some (.ref 72), some (.int x1), some (.int x2), none, none, none, none] [] h (qI (fun y h' => R222 (vw h) a1 a2 y (vw h'))) := by
  have fin : ∀ (g g2 : aH) (y k : Int) (w3 w4 : Int32) (u5 u6 : Option Value), mFarm (vw h) a1 → (0 ≤ a2 ∧ a2 ≤ 1) → mSound (vw h) → vw h 72 2 ≠ 150 → k = (if a2 = 1 then 5 else 4) → RAddM (vw h) k y (vw g) → wS g2 → vw g2 = up (up (vw g) 75 y a1) 78 y (mArea (up (vw g) 75 y a1)) → w3.toInt = y → w4.toInt = 0 → Pt n X zM222 77 [some (.ref 72), some (.int x1), some (.int x2), some (.int w3), some (.int w4), u5, u6] [] g2 (qI (fun y h' => R222 (vw h) a1 a2 y (vw h'))) := by
    intro g g2 y k w3 w4 u5 u6 e1 e2 e3 e4 hk p S2 eg h3 h4
    subst hk
    obtain ⟨q1, q2, q3, q4⟩ := p
    have c0 : ∀ j, vw g 81 j = vw h 81 j := fun j => by rw [q4]; exact mAddV_c (by decide) (by decide) (by decide) (by decide) (by decide)
    have c1 : ∀ j, vw g 82 j = vw h 82 j := fun j => by rw [q4]; exact mAddV_c (by decide) (by decide) (by decide) (by decide) (by decide)
    have c2 : vw g 72 11 = vw h 72 11 := by rw [q4]; unfold mAddV; rw [up_j (by decide), up_c (by decide), up_c (by decide), up_c (by decide), up_c (by decide)]
    have ea : mArea (up (vw g) 75 y a1) = mArea (vw h) := mArea_c (by rw [up_c (by decide), c2]) (fun j => by rw [up_c (by decide), c0]) (fun j => by rw [up_c (by decide), c1])
    rw [ea] at eg
    refine pt_q ((l_222 (V := vw g2) (b := y) (by omega) (by omega) ?_ ?_ n).1 g2 x1 x2 w3 w4 u5 u6 S2 h3 (by omega) (by omega) ?_) ?_
    · rw [eg, up_c (by decide), up_c (by decide), c2]; exact h0
    · rw [eg, up_c (by decide), up_c (by decide), c2]; exact hn
    · rw [h4]
      funext c j
      unfold outm
      rw [if_neg (fun z => by omega)]
    · rintro v h' ⟨x, rfl, r1, r2⟩
      refine ⟨x, rfl, Or.inr ⟨⟨e1, e2⟩, Or.inr (Or.inr ⟨e3, e4, vw g, ⟨q1, q2, r1.trans q3, q4⟩, ?_⟩)⟩⟩
      rw [r2, eg, r1]
  refine pt_d (d222_0 S z1 z2 ⟨fun e => Or.inl ⟨fun q => e q.1, rfl, rfl⟩, fun e1 => ⟨fun e2 => ⟨hn, ⟨fun e3 => ⟨fun e4 => ⟨fun e5 y g p p1 p2 g1 S1 eg1 => ⟨?_, fun g2 S2 eg w3 w4 u5 u6 h3 h4 => ?_⟩, fun e5 y g p p1 p2 g1 S1 eg1 => ⟨?_, fun g2 S2 eg w3 w4 u5 u6 h3 h4 => ?_⟩⟩, fun e4 => Or.inr ⟨⟨e1, e2⟩, Or.inr (Or.inl ⟨e3, e4, rfl, rfl⟩)⟩⟩, fun e3 => Or.inr ⟨⟨e1, e2⟩, Or.inl ⟨e3, rfl, rfl⟩⟩⟩⟩, fun e2 => Or.inl ⟨fun q => e2 q.2, rfl, rfl⟩⟩⟩)
  · rw [eg1, up_c (by decide), p.2.2.2.2]; unfold mAddV; rw [up_j (by decide), up_c (by decide), up_c (by decide), up_c (by decide), up_c (by decide)]; exact hn
  · exact fin g g2 y 4 w3 w4 u5 u6 e1 e2 e3 e4 (by rw [if_neg e5]) p.2 S2 (by rw [eg, eg1]) h3 h4
  · rw [eg1, up_c (by decide), p.2.2.2.2]; unfold mAddV; rw [up_j (by decide), up_c (by decide), up_c (by decide), up_c (by decide), up_c (by decide)]; exact hn
  · exact fin g g2 y 5 w3 w4 u5 u6 e1 e2 e3 e4 (by rw [if_pos e5]) p.2 S2 (by rw [eg, eg1]) h3 h4


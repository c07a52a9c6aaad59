-- ===== seasons: the model reckons =====
theorem tl_102 : tkL 102 0 200 = true := by decide +kernel
theorem tl_98 : tkL 98 0 200 = true := by decide +kernel
theorem tl_99 : tkL 99 0 200 = true := by decide +kernel
theorem tl_100 : tkL 100 0 200 = true := by decide +kernel
theorem tl_101 : tkL 101 0 200 = true := by decide +kernel
theorem tl_91 : tkL 91 0 4 = true := by decide +kernel
theorem tr_72_37 : tkR 72 37 102 = true := by decide +kernel
theorem tr_72_33 : tkR 72 33 98 = true := by decide +kernel
theorem tr_72_34 : tkR 72 34 99 = true := by decide +kernel
theorem tr_72_35 : tkR 72 35 100 = true := by decide +kernel
theorem tr_72_36 : tkR 72 36 101 = true := by decide +kernel
theorem tr_72_24 : tkR 72 24 91 = true := by decide +kernel
theorem gx229_0 : aF 0 zM229.2.2.2.2.2.2.2 = some (0, (.aload_n 0), 1, 0, 0) := by decide +kernel
theorem gx229_1 : aF 1 zM229.2.2.2.2.2.2.2 = some (1, (.getfield 61), 3, 12, 23) := by decide +kernel
theorem gx229_4 : aF 4 zM229.2.2.2.2.2.2.2 = some (4, (.iload_n 1), 1, 0, 0) := by decide +kernel
theorem gx229_5 : aF 5 zM229.2.2.2.2.2.2.2 = some (5, .iaload, 1, 0, 0) := by decide +kernel
theorem gx229_6 : aF 6 zM229.2.2.2.2.2.2.2 = some (6, (.sipush 365), 3, 0, 0) := by decide +kernel
theorem gx229_9 : aF 9 zM229.2.2.2.2.2.2.2 = some (9, .idiv, 1, 0, 0) := by decide +kernel
theorem gx229_10 : aF 10 zM229.2.2.2.2.2.2.2 = some (10, .ireturn, 1, 0, 0) := by decide +kernel
theorem gx234_0 : aF 0 zM234.2.2.2.2.2.2.2 = some (0, (.aload_n 0), 1, 0, 0) := by decide +kernel
theorem gx234_1 : aF 1 zM234.2.2.2.2.2.2.2 = some (1, (.getfield 61), 3, 12, 23) := by decide +kernel
theorem gx234_4 : aF 4 zM234.2.2.2.2.2.2.2 = some (4, (.iload_n 1), 1, 0, 0) := by decide +kernel
theorem gx234_5 : aF 5 zM234.2.2.2.2.2.2.2 = some (5, .iaload, 1, 0, 0) := by decide +kernel
theorem gx234_6 : aF 6 zM234.2.2.2.2.2.2.2 = some (6, (.iload_n 2), 1, 0, 0) := by decide +kernel
theorem gx234_7 : aF 7 zM234.2.2.2.2.2.2.2 = some (7, (.if_icmp .gt 32), 3, 39, 0) := by decide +kernel
theorem gx234_39 : aF 39 zM234.2.2.2.2.2.2.2 = some (39, (.iconst 0), 1, 0, 0) := by decide +kernel
theorem gx234_40 : aF 40 zM234.2.2.2.2.2.2.2 = some (40, .ireturn, 1, 0, 0) := by decide +kernel
theorem gx234_10 : aF 10 zM234.2.2.2.2.2.2.2 = some (10, (.aload_n 0), 1, 0, 0) := by decide +kernel
theorem gx234_11 : aF 11 zM234.2.2.2.2.2.2.2 = some (11, (.getfield 22), 3, 12, 7) := by decide +kernel
theorem gx234_14 : aF 14 zM234.2.2.2.2.2.2.2 = some (14, (.aload_n 0), 1, 0, 0) := by decide +kernel
theorem gx234_15 : aF 15 zM234.2.2.2.2.2.2.2 = some (15, (.getfield 55), 3, 12, 21) := by decide +kernel
theorem gx234_18 : aF 18 zM234.2.2.2.2.2.2.2 = some (18, (.iload_n 1), 1, 0, 0) := by decide +kernel
theorem gx234_19 : aF 19 zM234.2.2.2.2.2.2.2 = some (19, .iaload, 1, 0, 0) := by decide +kernel
theorem gx234_20 : aF 20 zM234.2.2.2.2.2.2.2 = some (20, .iaload, 1, 0, 0) := by decide +kernel
theorem gx234_21 : aF 21 zM234.2.2.2.2.2.2.2 = some (21, (.ifCond .lt 20), 3, 41, 0) := by decide +kernel
theorem gx234_41 : aF 41 zM234.2.2.2.2.2.2.2 = some (41, (.iload_n 1), 1, 0, 0) := by decide +kernel
theorem gx234_42 : aF 42 zM234.2.2.2.2.2.2.2 = some (42, (.iconst 1), 1, 0, 0) := by decide +kernel
theorem gx234_43 : aF 43 zM234.2.2.2.2.2.2.2 = some (43, .iadd, 1, 0, 0) := by decide +kernel
theorem gx234_44 : aF 44 zM234.2.2.2.2.2.2.2 = some (44, (.istore_n 3), 1, 0, 0) := by decide +kernel
theorem gx234_24 : aF 24 zM234.2.2.2.2.2.2.2 = some (24, (.aload_n 0), 1, 0, 0) := by decide +kernel
theorem gx234_25 : aF 25 zM234.2.2.2.2.2.2.2 = some (25, (.getfield 22), 3, 12, 7) := by decide +kernel
theorem gx234_28 : aF 28 zM234.2.2.2.2.2.2.2 = some (28, (.aload_n 0), 1, 0, 0) := by decide +kernel
theorem gx234_29 : aF 29 zM234.2.2.2.2.2.2.2 = some (29, (.getfield 55), 3, 12, 21) := by decide +kernel
theorem gx234_32 : aF 32 zM234.2.2.2.2.2.2.2 = some (32, (.iload_n 1), 1, 0, 0) := by decide +kernel
theorem gx234_33 : aF 33 zM234.2.2.2.2.2.2.2 = some (33, .iaload, 1, 0, 0) := by decide +kernel
theorem gx234_34 : aF 34 zM234.2.2.2.2.2.2.2 = some (34, .iaload, 1, 0, 0) := by decide +kernel
theorem gx234_35 : aF 35 zM234.2.2.2.2.2.2.2 = some (35, (.iload_n 2), 1, 0, 0) := by decide +kernel
theorem gx234_36 : aF 36 zM234.2.2.2.2.2.2.2 = some (36, (.if_icmp .gt 5), 3, 41, 0) := by decide +kernel
theorem gx234_45 : aF 45 zM234.2.2.2.2.2.2.2 = some (45, (.iload_n 3), 1, 0, 0) := by decide +kernel
theorem gx234_46 : aF 46 zM234.2.2.2.2.2.2.2 = some (46, (.aload_n 0), 1, 0, 0) := by decide +kernel
theorem gx234_47 : aF 47 zM234.2.2.2.2.2.2.2 = some (47, (.getfield 336), 3, 12, 19) := by decide +kernel
theorem gx234_50 : aF 50 zM234.2.2.2.2.2.2.2 = some (50, (.if_icmp .ge 64), 3, 114, 0) := by decide +kernel
theorem gx234_114 : aF 114 zM234.2.2.2.2.2.2.2 = some (114, (.iconst 1), 1, 0, 0) := by decide +kernel
theorem gx234_115 : aF 115 zM234.2.2.2.2.2.2.2 = some (115, .ireturn, 1, 0, 0) := by decide +kernel
theorem gx234_53 : aF 53 zM234.2.2.2.2.2.2.2 = some (53, (.aload_n 0), 1, 0, 0) := by decide +kernel
theorem gx234_54 : aF 54 zM234.2.2.2.2.2.2.2 = some (54, (.getfield 61), 3, 12, 23) := by decide +kernel
theorem gx234_57 : aF 57 zM234.2.2.2.2.2.2.2 = some (57, (.iload_n 3), 1, 0, 0) := by decide +kernel
theorem gx234_58 : aF 58 zM234.2.2.2.2.2.2.2 = some (58, .iaload, 1, 0, 0) := by decide +kernel
theorem gx234_59 : aF 59 zM234.2.2.2.2.2.2.2 = some (59, (.iload_n 2), 1, 0, 0) := by decide +kernel
theorem gx234_60 : aF 60 zM234.2.2.2.2.2.2.2 = some (60, (.if_icmp .gt 48), 3, 108, 0) := by decide +kernel
theorem gx234_108 : aF 108 zM234.2.2.2.2.2.2.2 = some (108, (.iinc 3 1), 3, 0, 0) := by decide +kernel
theorem gx234_111 : aF 111 zM234.2.2.2.2.2.2.2 = some (111, (.goto (-66)), 3, 45, 0) := by decide +kernel
theorem gx234_63 : aF 63 zM234.2.2.2.2.2.2.2 = some (63, (.aload_n 0), 1, 0, 0) := by decide +kernel
theorem gx234_64 : aF 64 zM234.2.2.2.2.2.2.2 = some (64, (.getfield 52), 3, 12, 20) := by decide +kernel
theorem gx234_67 : aF 67 zM234.2.2.2.2.2.2.2 = some (67, (.iload_n 3), 1, 0, 0) := by decide +kernel
theorem gx234_68 : aF 68 zM234.2.2.2.2.2.2.2 = some (68, .iaload, 1, 0, 0) := by decide +kernel
theorem gx234_69 : aF 69 zM234.2.2.2.2.2.2.2 = some (69, (.aload_n 0), 1, 0, 0) := by decide +kernel
theorem gx234_70 : aF 70 zM234.2.2.2.2.2.2.2 = some (70, (.getfield 52), 3, 12, 20) := by decide +kernel
theorem gx234_73 : aF 73 zM234.2.2.2.2.2.2.2 = some (73, (.iload_n 1), 1, 0, 0) := by decide +kernel
theorem gx234_74 : aF 74 zM234.2.2.2.2.2.2.2 = some (74, .iaload, 1, 0, 0) := by decide +kernel
theorem gx234_75 : aF 75 zM234.2.2.2.2.2.2.2 = some (75, (.if_icmp .ne 33), 3, 108, 0) := by decide +kernel
theorem gx234_78 : aF 78 zM234.2.2.2.2.2.2.2 = some (78, (.aload_n 0), 1, 0, 0) := by decide +kernel
theorem gx234_79 : aF 79 zM234.2.2.2.2.2.2.2 = some (79, (.getfield 55), 3, 12, 21) := by decide +kernel
theorem gx234_82 : aF 82 zM234.2.2.2.2.2.2.2 = some (82, (.iload_n 3), 1, 0, 0) := by decide +kernel
theorem gx234_83 : aF 83 zM234.2.2.2.2.2.2.2 = some (83, .iaload, 1, 0, 0) := by decide +kernel
theorem gx234_84 : aF 84 zM234.2.2.2.2.2.2.2 = some (84, (.aload_n 0), 1, 0, 0) := by decide +kernel
theorem gx234_85 : aF 85 zM234.2.2.2.2.2.2.2 = some (85, (.getfield 55), 3, 12, 21) := by decide +kernel
theorem gx234_88 : aF 88 zM234.2.2.2.2.2.2.2 = some (88, (.iload_n 1), 1, 0, 0) := by decide +kernel
theorem gx234_89 : aF 89 zM234.2.2.2.2.2.2.2 = some (89, .iaload, 1, 0, 0) := by decide +kernel
theorem gx234_90 : aF 90 zM234.2.2.2.2.2.2.2 = some (90, (.if_icmp .ne 18), 3, 108, 0) := by decide +kernel
theorem gx234_93 : aF 93 zM234.2.2.2.2.2.2.2 = some (93, (.aload_n 0), 1, 0, 0) := by decide +kernel
theorem gx234_94 : aF 94 zM234.2.2.2.2.2.2.2 = some (94, (.iload_n 3), 1, 0, 0) := by decide +kernel
theorem gx234_95 : aF 95 zM234.2.2.2.2.2.2.2 = some (95, (.invokevirtual 342), 3, 229, 0) := by decide +kernel
theorem gx234_98 : aF 98 zM234.2.2.2.2.2.2.2 = some (98, (.aload_n 0), 1, 0, 0) := by decide +kernel
theorem gx234_99 : aF 99 zM234.2.2.2.2.2.2.2 = some (99, (.iload_n 1), 1, 0, 0) := by decide +kernel
theorem gx234_100 : aF 100 zM234.2.2.2.2.2.2.2 = some (100, (.invokevirtual 342), 3, 229, 0) := by decide +kernel
theorem gx234_103 : aF 103 zM234.2.2.2.2.2.2.2 = some (103, (.if_icmp .ne 5), 3, 108, 0) := by decide +kernel
theorem gx234_106 : aF 106 zM234.2.2.2.2.2.2.2 = some (106, (.iconst 0), 1, 0, 0) := by decide +kernel
theorem gx234_107 : aF 107 zM234.2.2.2.2.2.2.2 = some (107, .ireturn, 1, 0, 0) := by decide +kernel
theorem gx237_0 : aF 0 zM237.2.2.2.2.2.2.2 = some (0, (.aload_n 0), 1, 0, 0) := by decide +kernel
theorem gx237_1 : aF 1 zM237.2.2.2.2.2.2.2 = some (1, (.getfield 352), 3, 12, 32) := by decide +kernel
theorem gx237_4 : aF 4 zM237.2.2.2.2.2.2.2 = some (4, (.iconst 1), 1, 0, 0) := by decide +kernel
theorem gx237_5 : aF 5 zM237.2.2.2.2.2.2.2 = some (5, .isub, 1, 0, 0) := by decide +kernel
theorem gx237_6 : aF 6 zM237.2.2.2.2.2.2.2 = some (6, (.istore_n 3), 1, 0, 0) := by decide +kernel
theorem gx237_7 : aF 7 zM237.2.2.2.2.2.2.2 = some (7, (.iload_n 3), 1, 0, 0) := by decide +kernel
theorem gx237_8 : aF 8 zM237.2.2.2.2.2.2.2 = some (8, (.ifCond .lt 70), 3, 78, 0) := by decide +kernel
theorem gx237_78 : aF 78 zM237.2.2.2.2.2.2.2 = some (78, (.iconst 0), 1, 0, 0) := by decide +kernel
theorem gx237_79 : aF 79 zM237.2.2.2.2.2.2.2 = some (79, .ireturn, 1, 0, 0) := by decide +kernel
theorem gx237_11 : aF 11 zM237.2.2.2.2.2.2.2 = some (11, (.aload_n 0), 1, 0, 0) := by decide +kernel
theorem gx237_12 : aF 12 zM237.2.2.2.2.2.2.2 = some (12, (.getfield 97), 3, 12, 37) := by decide +kernel
theorem gx237_15 : aF 15 zM237.2.2.2.2.2.2.2 = some (15, (.iload_n 3), 1, 0, 0) := by decide +kernel
theorem gx237_16 : aF 16 zM237.2.2.2.2.2.2.2 = some (16, .iaload, 1, 0, 0) := by decide +kernel
theorem gx237_17 : aF 17 zM237.2.2.2.2.2.2.2 = some (17, (.iload_n 2), 1, 0, 0) := by decide +kernel
theorem gx237_18 : aF 18 zM237.2.2.2.2.2.2.2 = some (18, (.if_icmp .gt 54), 3, 72, 0) := by decide +kernel
theorem gx237_72 : aF 72 zM237.2.2.2.2.2.2.2 = some (72, (.iinc 3 (-1)), 3, 0, 0) := by decide +kernel
theorem gx237_75 : aF 75 zM237.2.2.2.2.2.2.2 = some (75, (.goto (-68)), 3, 7, 0) := by decide +kernel
theorem gx237_21 : aF 21 zM237.2.2.2.2.2.2.2 = some (21, (.aload_n 0), 1, 0, 0) := by decide +kernel
theorem gx237_22 : aF 22 zM237.2.2.2.2.2.2.2 = some (22, (.getfield 85), 3, 12, 33) := by decide +kernel
theorem gx237_25 : aF 25 zM237.2.2.2.2.2.2.2 = some (25, (.iload_n 3), 1, 0, 0) := by decide +kernel
theorem gx237_26 : aF 26 zM237.2.2.2.2.2.2.2 = some (26, .iaload, 1, 0, 0) := by decide +kernel
theorem gx237_27 : aF 27 zM237.2.2.2.2.2.2.2 = some (27, (.aload_n 0), 1, 0, 0) := by decide +kernel
theorem gx237_28 : aF 28 zM237.2.2.2.2.2.2.2 = some (28, (.getfield 52), 3, 12, 20) := by decide +kernel
theorem gx237_31 : aF 31 zM237.2.2.2.2.2.2.2 = some (31, (.iload_n 1), 1, 0, 0) := by decide +kernel
theorem gx237_32 : aF 32 zM237.2.2.2.2.2.2.2 = some (32, .iaload, 1, 0, 0) := by decide +kernel
theorem gx237_33 : aF 33 zM237.2.2.2.2.2.2.2 = some (33, (.if_icmp .ne 39), 3, 72, 0) := by decide +kernel
theorem gx237_36 : aF 36 zM237.2.2.2.2.2.2.2 = some (36, (.aload_n 0), 1, 0, 0) := by decide +kernel
theorem gx237_37 : aF 37 zM237.2.2.2.2.2.2.2 = some (37, (.getfield 88), 3, 12, 34) := by decide +kernel
theorem gx237_40 : aF 40 zM237.2.2.2.2.2.2.2 = some (40, (.iload_n 3), 1, 0, 0) := by decide +kernel
theorem gx237_41 : aF 41 zM237.2.2.2.2.2.2.2 = some (41, .iaload, 1, 0, 0) := by decide +kernel
theorem gx237_42 : aF 42 zM237.2.2.2.2.2.2.2 = some (42, (.aload_n 0), 1, 0, 0) := by decide +kernel
theorem gx237_43 : aF 43 zM237.2.2.2.2.2.2.2 = some (43, (.getfield 55), 3, 12, 21) := by decide +kernel
theorem gx237_46 : aF 46 zM237.2.2.2.2.2.2.2 = some (46, (.iload_n 1), 1, 0, 0) := by decide +kernel
theorem gx237_47 : aF 47 zM237.2.2.2.2.2.2.2 = some (47, .iaload, 1, 0, 0) := by decide +kernel
theorem gx237_48 : aF 48 zM237.2.2.2.2.2.2.2 = some (48, (.if_icmp .ne 24), 3, 72, 0) := by decide +kernel
theorem gx237_51 : aF 51 zM237.2.2.2.2.2.2.2 = some (51, (.aload_n 0), 1, 0, 0) := by decide +kernel
theorem gx237_52 : aF 52 zM237.2.2.2.2.2.2.2 = some (52, (.getfield 91), 3, 12, 35) := by decide +kernel
theorem gx237_55 : aF 55 zM237.2.2.2.2.2.2.2 = some (55, (.iload_n 3), 1, 0, 0) := by decide +kernel
theorem gx237_56 : aF 56 zM237.2.2.2.2.2.2.2 = some (56, .iaload, 1, 0, 0) := by decide +kernel
theorem gx237_57 : aF 57 zM237.2.2.2.2.2.2.2 = some (57, (.aload_n 0), 1, 0, 0) := by decide +kernel
theorem gx237_58 : aF 58 zM237.2.2.2.2.2.2.2 = some (58, (.iload_n 1), 1, 0, 0) := by decide +kernel
theorem gx237_59 : aF 59 zM237.2.2.2.2.2.2.2 = some (59, (.invokevirtual 342), 3, 229, 0) := by decide +kernel
theorem gx237_62 : aF 62 zM237.2.2.2.2.2.2.2 = some (62, (.if_icmp .ne 10), 3, 72, 0) := by decide +kernel
theorem gx237_65 : aF 65 zM237.2.2.2.2.2.2.2 = some (65, (.aload_n 0), 1, 0, 0) := by decide +kernel
theorem gx237_66 : aF 66 zM237.2.2.2.2.2.2.2 = some (66, (.getfield 94), 3, 12, 36) := by decide +kernel
theorem gx237_69 : aF 69 zM237.2.2.2.2.2.2.2 = some (69, (.iload_n 3), 1, 0, 0) := by decide +kernel
theorem gx237_70 : aF 70 zM237.2.2.2.2.2.2.2 = some (70, .iaload, 1, 0, 0) := by decide +kernel
theorem gx237_71 : aF 71 zM237.2.2.2.2.2.2.2 = some (71, .ireturn, 1, 0, 0) := by decide +kernel
theorem gx235_0 : aF 0 zM235.2.2.2.2.2.2.2 = some (0, (.aload_n 0), 1, 0, 0) := by decide +kernel
theorem gx235_1 : aF 1 zM235.2.2.2.2.2.2.2 = some (1, (.getfield 31), 3, 12, 10) := by decide +kernel
theorem gx235_4 : aF 4 zM235.2.2.2.2.2.2.2 = some (4, (.bipush 24), 2, 0, 0) := by decide +kernel
theorem gx235_6 : aF 6 zM235.2.2.2.2.2.2.2 = some (6, (.iload_n 1), 1, 0, 0) := by decide +kernel
theorem gx235_7 : aF 7 zM235.2.2.2.2.2.2.2 = some (7, .imul, 1, 0, 0) := by decide +kernel
theorem gx235_8 : aF 8 zM235.2.2.2.2.2.2.2 = some (8, (.iload_n 2), 1, 0, 0) := by decide +kernel
theorem gx235_9 : aF 9 zM235.2.2.2.2.2.2.2 = some (9, (.bipush 24), 2, 0, 0) := by decide +kernel
theorem gx235_11 : aF 11 zM235.2.2.2.2.2.2.2 = some (11, .idiv, 1, 0, 0) := by decide +kernel
theorem gx235_12 : aF 12 zM235.2.2.2.2.2.2.2 = some (12, .iadd, 1, 0, 0) := by decide +kernel
theorem gx235_13 : aF 13 zM235.2.2.2.2.2.2.2 = some (13, .iaload, 1, 0, 0) := by decide +kernel
theorem gx235_14 : aF 14 zM235.2.2.2.2.2.2.2 = some (14, (.iload_n 2), 1, 0, 0) := by decide +kernel
theorem gx235_15 : aF 15 zM235.2.2.2.2.2.2.2 = some (15, (.bipush 24), 2, 0, 0) := by decide +kernel
theorem gx235_17 : aF 17 zM235.2.2.2.2.2.2.2 = some (17, .irem, 1, 0, 0) := by decide +kernel
theorem gx235_18 : aF 18 zM235.2.2.2.2.2.2.2 = some (18, .ishr, 1, 0, 0) := by decide +kernel
theorem gx235_19 : aF 19 zM235.2.2.2.2.2.2.2 = some (19, (.iconst 1), 1, 0, 0) := by decide +kernel
theorem gx235_20 : aF 20 zM235.2.2.2.2.2.2.2 = some (20, .iand, 1, 0, 0) := by decide +kernel
theorem gx235_21 : aF 21 zM235.2.2.2.2.2.2.2 = some (21, (.iconst 1), 1, 0, 0) := by decide +kernel
theorem gx235_22 : aF 22 zM235.2.2.2.2.2.2.2 = some (22, (.if_icmp .ne 7), 3, 29, 0) := by decide +kernel
theorem gx235_29 : aF 29 zM235.2.2.2.2.2.2.2 = some (29, (.iconst 0), 1, 0, 0) := by decide +kernel
theorem gx235_30 : aF 30 zM235.2.2.2.2.2.2.2 = some (30, .ireturn, 1, 0, 0) := by decide +kernel
theorem gx235_25 : aF 25 zM235.2.2.2.2.2.2.2 = some (25, (.iconst 1), 1, 0, 0) := by decide +kernel
theorem gx235_26 : aF 26 zM235.2.2.2.2.2.2.2 = some (26, (.goto 4), 3, 30, 0) := by decide +kernel
theorem gx233_0 : aF 0 zM233.2.2.2.2.2.2.2 = some (0, (.iconst 0), 1, 0, 0) := by decide +kernel
theorem gx233_1 : aF 1 zM233.2.2.2.2.2.2.2 = some (1, (.istore 5), 2, 0, 0) := by decide +kernel
theorem gx233_3 : aF 3 zM233.2.2.2.2.2.2.2 = some (3, (.iload 5), 2, 0, 0) := by decide +kernel
theorem gx233_5 : aF 5 zM233.2.2.2.2.2.2.2 = some (5, (.aload_n 0), 1, 0, 0) := by decide +kernel
theorem gx233_6 : aF 6 zM233.2.2.2.2.2.2.2 = some (6, (.getfield 339), 3, 12, 25) := by decide +kernel
theorem gx233_9 : aF 9 zM233.2.2.2.2.2.2.2 = some (9, (.if_icmp .ge 80), 3, 89, 0) := by decide +kernel
theorem gx233_89 : aF 89 zM233.2.2.2.2.2.2.2 = some (89, (.iconst 0), 1, 0, 0) := by decide +kernel
theorem gx233_90 : aF 90 zM233.2.2.2.2.2.2.2 = some (90, .ireturn, 1, 0, 0) := by decide +kernel
theorem gx233_12 : aF 12 zM233.2.2.2.2.2.2.2 = some (12, (.aload_n 0), 1, 0, 0) := by decide +kernel
theorem gx233_13 : aF 13 zM233.2.2.2.2.2.2.2 = some (13, (.getfield 82), 3, 12, 31) := by decide +kernel
theorem gx233_16 : aF 16 zM233.2.2.2.2.2.2.2 = some (16, (.iload 5), 2, 0, 0) := by decide +kernel
theorem gx233_18 : aF 18 zM233.2.2.2.2.2.2.2 = some (18, .iaload, 1, 0, 0) := by decide +kernel
theorem gx233_19 : aF 19 zM233.2.2.2.2.2.2.2 = some (19, (.iload 4), 2, 0, 0) := by decide +kernel
theorem gx233_21 : aF 21 zM233.2.2.2.2.2.2.2 = some (21, (.if_icmp .gt 62), 3, 83, 0) := by decide +kernel
theorem gx233_83 : aF 83 zM233.2.2.2.2.2.2.2 = some (83, (.iinc 5 1), 3, 0, 0) := by decide +kernel
theorem gx233_86 : aF 86 zM233.2.2.2.2.2.2.2 = some (86, (.goto (-83)), 3, 3, 0) := by decide +kernel
theorem gx233_24 : aF 24 zM233.2.2.2.2.2.2.2 = some (24, (.aload_n 0), 1, 0, 0) := by decide +kernel
theorem gx233_25 : aF 25 zM233.2.2.2.2.2.2.2 = some (25, (.getfield 79), 3, 12, 30) := by decide +kernel
theorem gx233_28 : aF 28 zM233.2.2.2.2.2.2.2 = some (28, (.iload 5), 2, 0, 0) := by decide +kernel
theorem gx233_30 : aF 30 zM233.2.2.2.2.2.2.2 = some (30, .iaload, 1, 0, 0) := by decide +kernel
theorem gx233_31 : aF 31 zM233.2.2.2.2.2.2.2 = some (31, (.sipush 365), 3, 0, 0) := by decide +kernel
theorem gx233_34 : aF 34 zM233.2.2.2.2.2.2.2 = some (34, (.iload_n 3), 1, 0, 0) := by decide +kernel
theorem gx233_35 : aF 35 zM233.2.2.2.2.2.2.2 = some (35, .imul, 1, 0, 0) := by decide +kernel
theorem gx233_36 : aF 36 zM233.2.2.2.2.2.2.2 = some (36, (.if_icmp .gt 47), 3, 83, 0) := by decide +kernel
theorem gx233_39 : aF 39 zM233.2.2.2.2.2.2.2 = some (39, (.iload_n 1), 1, 0, 0) := by decide +kernel
theorem gx233_40 : aF 40 zM233.2.2.2.2.2.2.2 = some (40, (.aload_n 0), 1, 0, 0) := by decide +kernel
theorem gx233_41 : aF 41 zM233.2.2.2.2.2.2.2 = some (41, (.getfield 67), 3, 12, 26) := by decide +kernel
theorem gx233_44 : aF 44 zM233.2.2.2.2.2.2.2 = some (44, (.iload 5), 2, 0, 0) := by decide +kernel
theorem gx233_46 : aF 46 zM233.2.2.2.2.2.2.2 = some (46, .iaload, 1, 0, 0) := by decide +kernel
theorem gx233_47 : aF 47 zM233.2.2.2.2.2.2.2 = some (47, (.aload_n 0), 1, 0, 0) := by decide +kernel
theorem gx233_48 : aF 48 zM233.2.2.2.2.2.2.2 = some (48, (.getfield 73), 3, 12, 28) := by decide +kernel
theorem gx233_51 : aF 51 zM233.2.2.2.2.2.2.2 = some (51, (.iload 5), 2, 0, 0) := by decide +kernel
theorem gx233_53 : aF 53 zM233.2.2.2.2.2.2.2 = some (53, .iaload, 1, 0, 0) := by decide +kernel
theorem gx233_54 : aF 54 zM233.2.2.2.2.2.2.2 = some (54, (.invokestatic 258), 3, 196, 0) := by decide +kernel
theorem gx233_57 : aF 57 zM233.2.2.2.2.2.2.2 = some (57, (.ifCond .eq 26), 3, 83, 0) := by decide +kernel
theorem gx233_60 : aF 60 zM233.2.2.2.2.2.2.2 = some (60, (.iload_n 2), 1, 0, 0) := by decide +kernel
theorem gx233_61 : aF 61 zM233.2.2.2.2.2.2.2 = some (61, (.aload_n 0), 1, 0, 0) := by decide +kernel
theorem gx233_62 : aF 62 zM233.2.2.2.2.2.2.2 = some (62, (.getfield 70), 3, 12, 27) := by decide +kernel
theorem gx233_65 : aF 65 zM233.2.2.2.2.2.2.2 = some (65, (.iload 5), 2, 0, 0) := by decide +kernel
theorem gx233_67 : aF 67 zM233.2.2.2.2.2.2.2 = some (67, .iaload, 1, 0, 0) := by decide +kernel
theorem gx233_68 : aF 68 zM233.2.2.2.2.2.2.2 = some (68, (.aload_n 0), 1, 0, 0) := by decide +kernel
theorem gx233_69 : aF 69 zM233.2.2.2.2.2.2.2 = some (69, (.getfield 76), 3, 12, 29) := by decide +kernel
theorem gx233_72 : aF 72 zM233.2.2.2.2.2.2.2 = some (72, (.iload 5), 2, 0, 0) := by decide +kernel
theorem gx233_74 : aF 74 zM233.2.2.2.2.2.2.2 = some (74, .iaload, 1, 0, 0) := by decide +kernel
theorem gx233_75 : aF 75 zM233.2.2.2.2.2.2.2 = some (75, (.invokestatic 258), 3, 196, 0) := by decide +kernel
theorem gx233_78 : aF 78 zM233.2.2.2.2.2.2.2 = some (78, (.ifCond .eq 5), 3, 83, 0) := by decide +kernel
theorem gx233_81 : aF 81 zM233.2.2.2.2.2.2.2 = some (81, (.iconst 1), 1, 0, 0) := by decide +kernel
theorem gx233_82 : aF 82 zM233.2.2.2.2.2.2.2 = some (82, .ireturn, 1, 0, 0) := by decide +kernel
theorem gx240_0 : aF 0 zM240.2.2.2.2.2.2.2 = some (0, (.aload_n 0), 1, 0, 0) := by decide +kernel
theorem gx240_1 : aF 1 zM240.2.2.2.2.2.2.2 = some (1, (.getfield 61), 3, 12, 23) := by decide +kernel
theorem gx240_4 : aF 4 zM240.2.2.2.2.2.2.2 = some (4, (.iload_n 1), 1, 0, 0) := by decide +kernel
theorem gx240_5 : aF 5 zM240.2.2.2.2.2.2.2 = some (5, .iaload, 1, 0, 0) := by decide +kernel
theorem gx240_6 : aF 6 zM240.2.2.2.2.2.2.2 = some (6, (.sipush 365), 3, 0, 0) := by decide +kernel
theorem gx240_9 : aF 9 zM240.2.2.2.2.2.2.2 = some (9, .irem, 1, 0, 0) := by decide +kernel
theorem gx240_10 : aF 10 zM240.2.2.2.2.2.2.2 = some (10, (.aload_n 0), 1, 0, 0) := by decide +kernel
theorem gx240_11 : aF 11 zM240.2.2.2.2.2.2.2 = some (11, (.getfield 64), 3, 12, 24) := by decide +kernel
theorem gx240_14 : aF 14 zM240.2.2.2.2.2.2.2 = some (14, (.aload_n 0), 1, 0, 0) := by decide +kernel
theorem gx240_15 : aF 15 zM240.2.2.2.2.2.2.2 = some (15, (.getfield 13), 3, 12, 4) := by decide +kernel
theorem gx240_18 : aF 18 zM240.2.2.2.2.2.2.2 = some (18, (.aload_n 0), 1, 0, 0) := by decide +kernel
theorem gx240_19 : aF 19 zM240.2.2.2.2.2.2.2 = some (19, (.getfield 52), 3, 12, 20) := by decide +kernel
theorem gx240_22 : aF 22 zM240.2.2.2.2.2.2.2 = some (22, (.iload_n 1), 1, 0, 0) := by decide +kernel
theorem gx240_23 : aF 23 zM240.2.2.2.2.2.2.2 = some (23, .iaload, 1, 0, 0) := by decide +kernel
theorem gx240_24 : aF 24 zM240.2.2.2.2.2.2.2 = some (24, .iaload, 1, 0, 0) := by decide +kernel
theorem gx240_25 : aF 25 zM240.2.2.2.2.2.2.2 = some (25, .iaload, 1, 0, 0) := by decide +kernel
theorem gx240_26 : aF 26 zM240.2.2.2.2.2.2.2 = some (26, .isub, 1, 0, 0) := by decide +kernel
theorem gx240_27 : aF 27 zM240.2.2.2.2.2.2.2 = some (27, (.istore_n 2), 1, 0, 0) := by decide +kernel
theorem gx240_28 : aF 28 zM240.2.2.2.2.2.2.2 = some (28, (.iload_n 2), 1, 0, 0) := by decide +kernel
theorem gx240_29 : aF 29 zM240.2.2.2.2.2.2.2 = some (29, (.ifCond .ge 7), 3, 36, 0) := by decide +kernel
theorem gx240_36 : aF 36 zM240.2.2.2.2.2.2.2 = some (36, (.iload_n 2), 1, 0, 0) := by decide +kernel
theorem gx240_37 : aF 37 zM240.2.2.2.2.2.2.2 = some (37, .ireturn, 1, 0, 0) := by decide +kernel
theorem gx240_32 : aF 32 zM240.2.2.2.2.2.2.2 = some (32, (.iconst 0), 1, 0, 0) := by decide +kernel
theorem gx240_33 : aF 33 zM240.2.2.2.2.2.2.2 = some (33, (.goto 4), 3, 37, 0) := by decide +kernel
theorem d229_0 {n : Nat} {X : aX} {h : aH} {P : Int → aH → Prop} {x1 : Int32} {a1 : Int} (S : wS h) (z1 : x1.toInt = a1) (H : (0 ≤ a1 → a1 < 300 → P (iDiv (vw h 90 a1) 365) h)) : Pt (n + 1) X zM229 0 [some (.ref 72), some (.int x1)] [] h (qI P) := by
  refine pt_1 (fun n d => r_aloadn gx229_0 rfl) ?_
  refine pt_d (pt_getR gx229_1 S tr_72_23 ?_)
  refine pt_d (pt_1 (fun n d => r_iloadn gx229_4 rfl) ?_)
  refine pt_d (pt_iald (N' := 300) gx229_5 S tl_90 z1 (fun v2 p2 q2 h2 => ?_))
  have H := H p2 q2
  refine pt_d (pt_sipush gx229_6 (fun v3 h3 => ?_))
  refine pt_d (pt_idiv gx229_9 h2 h3 (fun v4 h4 => ?_))
  exact pt_d (pt_iret gx229_10 ⟨_, rfl, by rw [h4]; exact H⟩)
theorem c_229 {n : Nat} {X : aX} {h : aH} {x1 : Int32} {a1 : Int} (S : wS h) (z1 : x1.toInt = a1) : Pt n X zM229 0 [some (.ref 72), some (.int x1)] [] h (qI (fun y h' => h' = h ∧ y = iDiv (vw h 90 a1) 365)) := pt_d (d229_0 S z1 (fun _ _ => ⟨rfl, rfl⟩))

theorem d234_0 {n : Nat} {X : aX} {h : aH} {P : Int → aH → Prop} {x1 x2 : Int32} {a1 a2 : Int} (S : wS h) (z1 : x1.toInt = a1) (z2 : x2.toInt = a2) (H : (0 ≤ a1 → a1 < 300 → ((a2 < vw h 90 a1 → P 0 h) ∧ (vw h 90 a1 ≤ a2 → (0 ≤ vw h 88 a1 → vw h 88 a1 < 150 → ((vw h 77 (vw h 88 a1) < 0 → (∀ (w3 : Int32), w3.toInt = w32 (a1 + 1) → Pt n X zM234 45 [some (.ref 72), some (.int x1), some (.int x2), some (.int w3)] [] h (qI P))) ∧ (0 ≤ vw h 77 (vw h 88 a1) → ((a2 < vw h 77 (vw h 88 a1) → (∀ (w3 : Int32), w3.toInt = w32 (a1 + 1) → Pt n X zM234 45 [some (.ref 72), some (.int x1), some (.int x2), some (.int w3)] [] h (qI P))) ∧ (vw h 77 (vw h 88 a1) ≤ a2 → P 0 h))))))))) : Pt (n + 1) X zM234 0 [some (.ref 72), some (.int x1), some (.int x2), none] [] h (qI P) := by
  refine pt_1 (fun n d => r_aloadn gx234_0 rfl) ?_
  refine pt_d (pt_getR gx234_1 S tr_72_23 ?_)
  refine pt_d (pt_1 (fun n d => r_iloadn gx234_4 rfl) ?_)
  refine pt_d (pt_iald (N' := 300) gx234_5 S tl_90 z1 (fun v2 p2 q2 h2 => ?_))
  have H := H p2 q2
  refine pt_d (pt_1 (fun n d => r_iloadn gx234_6 rfl) ?_)
  refine pt_d (pt_icmp_gt gx234_7 h2 z2 (fun e3 => ?_) (fun e3 => ?_))
  · have H := H.1 e3
    refine pt_d (pt_iconst gx234_39 (fun v4 h4 => ?_))
    exact pt_d (pt_iret gx234_40 ⟨_, rfl, by rw [h4]; exact H⟩)
  · have H := H.2 e3
    refine pt_d (pt_1 (fun n d => r_aloadn gx234_10 rfl) ?_)
    refine pt_d (pt_getR gx234_11 S tr_72_7 ?_)
    refine pt_d (pt_1 (fun n d => r_aloadn gx234_14 rfl) ?_)
    refine pt_d (pt_getR gx234_15 S tr_72_21 ?_)
    refine pt_d (pt_1 (fun n d => r_iloadn gx234_18 rfl) ?_)
    refine pt_d (pt_iald (N' := 300) gx234_19 S tl_88 z1 (fun v7 p7 q7 h7 => ?_))
    refine pt_d (pt_iald (N' := 150) gx234_20 S tl_77 h7 (fun v8 p8 q8 h8 => ?_))
    have H := H p8 q8
    refine pt_d (pt_if_lt gx234_21 h8 (fun e9 => ?_) (fun e9 => ?_))
    · have H := H.1 e9
      refine pt_d (pt_1 (fun n d => r_iloadn gx234_41 rfl) ?_)
      refine pt_d (pt_iconst gx234_42 (fun v10 h10 => ?_))
      refine pt_d (pt_iadd gx234_43 z1 h10 (fun v11 h11 => ?_))
      refine pt_d (pt_1 (fun n d => r_istoren (L' := [some (.ref 72), some (.int x1), some (.int x2), some (.int v11)]) gx234_44 rfl rfl) ?_)
      exact H v11 h11
    · have H := H.2 e9
      refine pt_d (pt_1 (fun n d => r_aloadn gx234_24 rfl) ?_)
      refine pt_d (pt_getR gx234_25 S tr_72_7 ?_)
      refine pt_d (pt_1 (fun n d => r_aloadn gx234_28 rfl) ?_)
      refine pt_d (pt_getR gx234_29 S tr_72_21 ?_)
      refine pt_d (pt_1 (fun n d => r_iloadn gx234_32 rfl) ?_)
      refine pt_d (pt_iald (N' := 300) gx234_33 S tl_88 z1 (fun v14 p14 q14 h14 => ?_))
      refine pt_d (pt_iald (N' := 150) gx234_34 S tl_77 h14 (fun v15 p15 q15 h15 => ?_))
      refine pt_d (pt_1 (fun n d => r_iloadn gx234_35 rfl) ?_)
      refine pt_d (pt_icmp_gt gx234_36 h15 z2 (fun e16 => ?_) (fun e16 => ?_))
      · have H := H.1 e16
        refine pt_d (pt_1 (fun n d => r_iloadn gx234_41 rfl) ?_)
        refine pt_d (pt_iconst gx234_42 (fun v17 h17 => ?_))
        refine pt_d (pt_iadd gx234_43 z1 h17 (fun v18 h18 => ?_))
        refine pt_d (pt_1 (fun n d => r_istoren (L' := [some (.ref 72), some (.int x1), some (.int x2), some (.int v18)]) gx234_44 rfl rfl) ?_)
        exact H v18 h18
      · have H := H.2 e16
        refine pt_d (pt_iconst gx234_39 (fun v19 h19 => ?_))
        exact pt_d (pt_iret gx234_40 ⟨_, rfl, by rw [h19]; exact H⟩)
theorem d234_45 {n : Nat} {X : aX} {h : aH} {P : Int → aH → Prop} {x1 x2 x3 : Int32} {a1 a2 a3 : Int} (S : wS h) (z1 : x1.toInt = a1) (z2 : x2.toInt = a2) (z3 : x3.toInt = a3) (H : ((vw h 72 19 ≤ a3 → P 1 h) ∧ (a3 < vw h 72 19 → (0 ≤ a3 → a3 < 300 → ((a2 < vw h 90 a3 → (∀ (w3 : Int32), w3.toInt = w32 (a3 + 1) → Pt n X zM234 45 [some (.ref 72), some (.int x1), some (.int x2), some (.int w3)] [] h (qI P))) ∧ (vw h 90 a3 ≤ a2 → (0 ≤ a1 → a1 < 300 → ((vw h 87 a3 ≠ vw h 87 a1 → (∀ (w3 : Int32), w3.toInt = w32 (a3 + 1) → Pt n X zM234 45 [some (.ref 72), some (.int x1), some (.int x2), some (.int w3)] [] h (qI P))) ∧ (vw h 87 a3 = vw h 87 a1 → ((vw h 88 a3 ≠ vw h 88 a1 → (∀ (w3 : Int32), w3.toInt = w32 (a3 + 1) → Pt n X zM234 45 [some (.ref 72), some (.int x1), some (.int x2), some (.int w3)] [] h (qI P))) ∧ (vw h 88 a3 = vw h 88 a1 → ((iDiv ((vw h) 90 a3) 365 ≠ iDiv ((vw h) 90 a1) 365 → (∀ (w3 : Int32), w3.toInt = w32 (a3 + 1) → Pt n X zM234 45 [some (.ref 72), some (.int x1), some (.int x2), some (.int w3)] [] h (qI P))) ∧ (iDiv ((vw h) 90 a3) 365 = iDiv ((vw h) 90 a1) 365 → P 0 h))))))))))))) : Pt (n + 1) X zM234 45 [some (.ref 72), some (.int x1), some (.int x2), some (.int x3)] [] h (qI P) := by
  refine pt_1 (fun n d => r_iloadn gx234_45 rfl) ?_
  refine pt_d (pt_1 (fun n d => r_aloadn gx234_46 rfl) ?_)
  refine pt_d (pt_getI (B := 19) gx234_47 S (fun v1 h1 => ?_))
  refine pt_d (pt_icmp_ge gx234_50 z3 h1 (fun e2 => ?_) (fun e2 => ?_))
  · have H := H.1 e2
    refine pt_d (pt_iconst gx234_114 (fun v3 h3 => ?_))
    exact pt_d (pt_iret gx234_115 ⟨_, rfl, by rw [h3]; exact H⟩)
  · have H := H.2 e2
    refine pt_d (pt_1 (fun n d => r_aloadn gx234_53 rfl) ?_)
    refine pt_d (pt_getR gx234_54 S tr_72_23 ?_)
    refine pt_d (pt_1 (fun n d => r_iloadn gx234_57 rfl) ?_)
    refine pt_d (pt_iald (N' := 300) gx234_58 S tl_90 z3 (fun v5 p5 q5 h5 => ?_))
    have H := H p5 q5
    refine pt_d (pt_1 (fun n d => r_iloadn gx234_59 rfl) ?_)
    refine pt_d (pt_icmp_gt gx234_60 h5 z2 (fun e6 => ?_) (fun e6 => ?_))
    · have H := H.1 e6
      refine pt_d (pt_iinc (c := 1) gx234_108 rfl z3 (fun v7 h7 => ?_))
      show Pt _ _ _ _ [some (.ref 72), some (.int x1), some (.int x2), some (.int v7)] [] _ _
      refine pt_d (pt_1 (fun n d => r_goto gx234_111) ?_)
      exact H v7 h7
    · have H := H.2 e6
      refine pt_d (pt_1 (fun n d => r_aloadn gx234_63 rfl) ?_)
      refine pt_d (pt_getR gx234_64 S tr_72_20 ?_)
      refine pt_d (pt_1 (fun n d => r_iloadn gx234_67 rfl) ?_)
      refine pt_d (pt_iald (N' := 300) gx234_68 S tl_87 z3 (fun v9 p9 q9 h9 => ?_))
      refine pt_d (pt_1 (fun n d => r_aloadn gx234_69 rfl) ?_)
      refine pt_d (pt_getR gx234_70 S tr_72_20 ?_)
      refine pt_d (pt_1 (fun n d => r_iloadn gx234_73 rfl) ?_)
      refine pt_d (pt_iald (N' := 300) gx234_74 S tl_87 z1 (fun v11 p11 q11 h11 => ?_))
      have H := H p11 q11
      refine pt_d (pt_icmp_ne gx234_75 h9 h11 (fun e12 => ?_) (fun e12 => ?_))
      · have H := H.1 e12
        refine pt_d (pt_iinc (c := 1) gx234_108 rfl z3 (fun v13 h13 => ?_))
        show Pt _ _ _ _ [some (.ref 72), some (.int x1), some (.int x2), some (.int v13)] [] _ _
        refine pt_d (pt_1 (fun n d => r_goto gx234_111) ?_)
        exact H v13 h13
      · have H := H.2 e12
        refine pt_d (pt_1 (fun n d => r_aloadn gx234_78 rfl) ?_)
        refine pt_d (pt_getR gx234_79 S tr_72_21 ?_)
        refine pt_d (pt_1 (fun n d => r_iloadn gx234_82 rfl) ?_)
        refine pt_d (pt_iald (N' := 300) gx234_83 S tl_88 z3 (fun v15 p15 q15 h15 => ?_))
        refine pt_d (pt_1 (fun n d => r_aloadn gx234_84 rfl) ?_)
        refine pt_d (pt_getR gx234_85 S tr_72_21 ?_)
        refine pt_d (pt_1 (fun n d => r_iloadn gx234_88 rfl) ?_)
        refine pt_d (pt_iald (N' := 300) gx234_89 S tl_88 z1 (fun v17 p17 q17 h17 => ?_))
        refine pt_d (pt_icmp_ne gx234_90 h15 h17 (fun e18 => ?_) (fun e18 => ?_))
        · have H := H.1 e18
          refine pt_d (pt_iinc (c := 1) gx234_108 rfl z3 (fun v19 h19 => ?_))
          show Pt _ _ _ _ [some (.ref 72), some (.int x1), some (.int x2), some (.int v19)] [] _ _
          refine pt_d (pt_1 (fun n d => r_goto gx234_111) ?_)
          exact H v19 h19
        · have H := H.2 e18
          refine pt_d (pt_1 (fun n d => r_aloadn gx234_93 rfl) ?_)
          refine pt_d (pt_1 (fun n d => r_iloadn gx234_94 rfl) ?_)
          refine pt_d (pt_virt (as := [.int x3]) (r := []) gx234_95 rfl (show zmt[229]? = some zM229 from rfl) rfl rfl rfl rfl (c_229 S z3) (kqP (fun v20 h20 => ?_)))
          show Pt _ _ _ 98 _ [.int v20] _ _
          refine pt_d (pt_1 (fun n d => r_aloadn gx234_98 rfl) ?_)
          refine pt_d (pt_1 (fun n d => r_iloadn gx234_99 rfl) ?_)
          refine pt_d (pt_virt (as := [.int x1]) (r := [.int v20]) gx234_100 rfl (show zmt[229]? = some zM229 from rfl) rfl rfl rfl rfl (c_229 S z1) (kqP (fun v21 h21 => ?_)))
          show Pt _ _ _ 103 _ [.int v21, .int v20] _ _
          refine pt_d (pt_icmp_ne gx234_103 h20 h21 (fun e22 => ?_) (fun e22 => ?_))
          · have H := H.1 e22
            refine pt_d (pt_iinc (c := 1) gx234_108 rfl z3 (fun v23 h23 => ?_))
            show Pt _ _ _ _ [some (.ref 72), some (.int x1), some (.int x2), some (.int v23)] [] _ _
            refine pt_d (pt_1 (fun n d => r_goto gx234_111) ?_)
            exact H v23 h23
          · have H := H.2 e22
            refine pt_d (pt_iconst gx234_106 (fun v24 h24 => ?_))
            exact pt_d (pt_iret gx234_107 ⟨_, rfl, by rw [h24]; exact H⟩)
theorem d237_0 {n : Nat} {X : aX} {h : aH} {P : Int → aH → Prop} {x1 x2 : Int32} {a1 a2 : Int} (S : wS h) (z1 : x1.toInt = a1) (z2 : x2.toInt = a2) (H : (∀ (w3 : Int32), w3.toInt = w32 ((vw h 72 32) - 1) → Pt n X zM237 7 [some (.ref 72), some (.int x1), some (.int x2), some (.int w3)] [] h (qI P))) : Pt (n + 1) X zM237 0 [some (.ref 72), some (.int x1), some (.int x2), none] [] h (qI P) := by
  refine pt_1 (fun n d => r_aloadn gx237_0 rfl) ?_
  refine pt_d (pt_getI (B := 32) gx237_1 S (fun v1 h1 => ?_))
  refine pt_d (pt_iconst gx237_4 (fun v2 h2 => ?_))
  refine pt_d (pt_isub gx237_5 h1 h2 (fun v3 h3 => ?_))
  refine pt_d (pt_1 (fun n d => r_istoren (L' := [some (.ref 72), some (.int x1), some (.int x2), some (.int v3)]) gx237_6 rfl rfl) ?_)
  exact H v3 h3
theorem d237_7 {n : Nat} {X : aX} {h : aH} {P : Int → aH → Prop} {x1 x2 x3 : Int32} {a1 a2 a3 : Int} (S : wS h) (z1 : x1.toInt = a1) (z2 : x2.toInt = a2) (z3 : x3.toInt = a3) (H : ((a3 < 0 → P 0 h) ∧ (0 ≤ a3 → (0 ≤ a3 → a3 < 200 → ((a2 < vw h 102 a3 → (∀ (w3 : Int32), w3.toInt = w32 (a3 + (-1)) → Pt n X zM237 7 [some (.ref 72), some (.int x1), some (.int x2), some (.int w3)] [] h (qI P))) ∧ (vw h 102 a3 ≤ a2 → (0 ≤ a1 → a1 < 300 → ((vw h 98 a3 ≠ vw h 87 a1 → (∀ (w3 : Int32), w3.toInt = w32 (a3 + (-1)) → Pt n X zM237 7 [some (.ref 72), some (.int x1), some (.int x2), some (.int w3)] [] h (qI P))) ∧ (vw h 98 a3 = vw h 87 a1 → ((vw h 99 a3 ≠ vw h 88 a1 → (∀ (w3 : Int32), w3.toInt = w32 (a3 + (-1)) → Pt n X zM237 7 [some (.ref 72), some (.int x1), some (.int x2), some (.int w3)] [] h (qI P))) ∧ (vw h 99 a3 = vw h 88 a1 → ((vw h 100 a3 ≠ iDiv ((vw h) 90 a1) 365 → (∀ (w3 : Int32), w3.toInt = w32 (a3 + (-1)) → Pt n X zM237 7 [some (.ref 72), some (.int x1), some (.int x2), some (.int w3)] [] h (qI P))) ∧ (vw h 100 a3 = iDiv ((vw h) 90 a1) 365 → P (vw h 101 a3) h))))))))))))) : Pt (n + 1) X zM237 7 [some (.ref 72), some (.int x1), some (.int x2), some (.int x3)] [] h (qI P) := by
  refine pt_1 (fun n d => r_iloadn gx237_7 rfl) ?_
  refine pt_d (pt_if_lt gx237_8 z3 (fun e1 => ?_) (fun e1 => ?_))
  · have H := H.1 e1
    refine pt_d (pt_iconst gx237_78 (fun v2 h2 => ?_))
    exact pt_d (pt_iret gx237_79 ⟨_, rfl, by rw [h2]; exact H⟩)
  · have H := H.2 e1
    refine pt_d (pt_1 (fun n d => r_aloadn gx237_11 rfl) ?_)
    refine pt_d (pt_getR gx237_12 S tr_72_37 ?_)
    refine pt_d (pt_1 (fun n d => r_iloadn gx237_15 rfl) ?_)
    refine pt_d (pt_iald (N' := 200) gx237_16 S tl_102 z3 (fun v4 p4 q4 h4 => ?_))
    have H := H p4 q4
    refine pt_d (pt_1 (fun n d => r_iloadn gx237_17 rfl) ?_)
    refine pt_d (pt_icmp_gt gx237_18 h4 z2 (fun e5 => ?_) (fun e5 => ?_))
    · have H := H.1 e5
      refine pt_d (pt_iinc (c := (-1)) gx237_72 rfl z3 (fun v6 h6 => ?_))
      show Pt _ _ _ _ [some (.ref 72), some (.int x1), some (.int x2), some (.int v6)] [] _ _
      refine pt_d (pt_1 (fun n d => r_goto gx237_75) ?_)
      exact H v6 h6
    · have H := H.2 e5
      refine pt_d (pt_1 (fun n d => r_aloadn gx237_21 rfl) ?_)
      refine pt_d (pt_getR gx237_22 S tr_72_33 ?_)
      refine pt_d (pt_1 (fun n d => r_iloadn gx237_25 rfl) ?_)
      refine pt_d (pt_iald (N' := 200) gx237_26 S tl_98 z3 (fun v8 p8 q8 h8 => ?_))
      refine pt_d (pt_1 (fun n d => r_aloadn gx237_27 rfl) ?_)
      refine pt_d (pt_getR gx237_28 S tr_72_20 ?_)
      refine pt_d (pt_1 (fun n d => r_iloadn gx237_31 rfl) ?_)
      refine pt_d (pt_iald (N' := 300) gx237_32 S tl_87 z1 (fun v10 p10 q10 h10 => ?_))
      have H := H p10 q10
      refine pt_d (pt_icmp_ne gx237_33 h8 h10 (fun e11 => ?_) (fun e11 => ?_))
      · have H := H.1 e11
        refine pt_d (pt_iinc (c := (-1)) gx237_72 rfl z3 (fun v12 h12 => ?_))
        show Pt _ _ _ _ [some (.ref 72), some (.int x1), some (.int x2), some (.int v12)] [] _ _
        refine pt_d (pt_1 (fun n d => r_goto gx237_75) ?_)
        exact H v12 h12
      · have H := H.2 e11
        refine pt_d (pt_1 (fun n d => r_aloadn gx237_36 rfl) ?_)
        refine pt_d (pt_getR gx237_37 S tr_72_34 ?_)
        refine pt_d (pt_1 (fun n d => r_iloadn gx237_40 rfl) ?_)
        refine pt_d (pt_iald (N' := 200) gx237_41 S tl_99 z3 (fun v14 p14 q14 h14 => ?_))
        refine pt_d (pt_1 (fun n d => r_aloadn gx237_42 rfl) ?_)
        refine pt_d (pt_getR gx237_43 S tr_72_21 ?_)
        refine pt_d (pt_1 (fun n d => r_iloadn gx237_46 rfl) ?_)
        refine pt_d (pt_iald (N' := 300) gx237_47 S tl_88 z1 (fun v16 p16 q16 h16 => ?_))
        refine pt_d (pt_icmp_ne gx237_48 h14 h16 (fun e17 => ?_) (fun e17 => ?_))
        · have H := H.1 e17
          refine pt_d (pt_iinc (c := (-1)) gx237_72 rfl z3 (fun v18 h18 => ?_))
          show Pt _ _ _ _ [some (.ref 72), some (.int x1), some (.int x2), some (.int v18)] [] _ _
          refine pt_d (pt_1 (fun n d => r_goto gx237_75) ?_)
          exact H v18 h18
        · have H := H.2 e17
          refine pt_d (pt_1 (fun n d => r_aloadn gx237_51 rfl) ?_)
          refine pt_d (pt_getR gx237_52 S tr_72_35 ?_)
          refine pt_d (pt_1 (fun n d => r_iloadn gx237_55 rfl) ?_)
          refine pt_d (pt_iald (N' := 200) gx237_56 S tl_100 z3 (fun v20 p20 q20 h20 => ?_))
          refine pt_d (pt_1 (fun n d => r_aloadn gx237_57 rfl) ?_)
          refine pt_d (pt_1 (fun n d => r_iloadn gx237_58 rfl) ?_)
          refine pt_d (pt_virt (as := [.int x1]) (r := [.int v20]) gx237_59 rfl (show zmt[229]? = some zM229 from rfl) rfl rfl rfl rfl (c_229 S z1) (kqP (fun v21 h21 => ?_)))
          show Pt _ _ _ 62 _ [.int v21, .int v20] _ _
          refine pt_d (pt_icmp_ne gx237_62 h20 h21 (fun e22 => ?_) (fun e22 => ?_))
          · have H := H.1 e22
            refine pt_d (pt_iinc (c := (-1)) gx237_72 rfl z3 (fun v23 h23 => ?_))
            show Pt _ _ _ _ [some (.ref 72), some (.int x1), some (.int x2), some (.int v23)] [] _ _
            refine pt_d (pt_1 (fun n d => r_goto gx237_75) ?_)
            exact H v23 h23
          · have H := H.2 e22
            refine pt_d (pt_1 (fun n d => r_aloadn gx237_65 rfl) ?_)
            refine pt_d (pt_getR gx237_66 S tr_72_36 ?_)
            refine pt_d (pt_1 (fun n d => r_iloadn gx237_69 rfl) ?_)
            refine pt_d (pt_iald (N' := 200) gx237_70 S tl_101 z3 (fun v25 p25 q25 h25 => ?_))
            exact pt_d (pt_iret gx237_71 ⟨_, rfl, by rw [h25]; exact H⟩)
theorem d235_0 {n : Nat} {X : aX} {h : aH} {P : Int → aH → Prop} {x1 x2 : Int32} {a1 a2 : Int} (S : wS h) (z1 : x1.toInt = a1) (z2 : x2.toInt = a2) (H : (0 ≤ w32 ((w32 (24 * a1)) + (iDiv a2 24)) → w32 ((w32 (24 * a1)) + (iDiv a2 24)) < 3600 → ((bAnd (bShr (vw h 80 (w32 ((w32 (24 * a1)) + (iDiv a2 24)))) (iRem a2 24)) 1 ≠ 1 → P 0 h) ∧ (bAnd (bShr (vw h 80 (w32 ((w32 (24 * a1)) + (iDiv a2 24)))) (iRem a2 24)) 1 = 1 → P 1 h)))) : Pt (n + 1) X zM235 0 [some (.ref 72), some (.int x1), some (.int x2)] [] h (qI P) := by
  refine pt_1 (fun n d => r_aloadn gx235_0 rfl) ?_
  refine pt_d (pt_getR gx235_1 S tr_72_10 ?_)
  refine pt_d (pt_bipush gx235_4 (fun v2 h2 => ?_))
  refine pt_d (pt_1 (fun n d => r_iloadn gx235_6 rfl) ?_)
  refine pt_d (pt_imul gx235_7 h2 z1 (fun v3 h3 => ?_))
  refine pt_d (pt_1 (fun n d => r_iloadn gx235_8 rfl) ?_)
  refine pt_d (pt_bipush gx235_9 (fun v4 h4 => ?_))
  refine pt_d (pt_idiv gx235_11 z2 h4 (fun v5 h5 => ?_))
  refine pt_d (pt_iadd gx235_12 h3 h5 (fun v6 h6 => ?_))
  refine pt_d (pt_iald (N' := 3600) gx235_13 S tl_80 h6 (fun v7 p7 q7 h7 => ?_))
  have H := H p7 q7
  refine pt_d (pt_1 (fun n d => r_iloadn gx235_14 rfl) ?_)
  refine pt_d (pt_bipush gx235_15 (fun v8 h8 => ?_))
  refine pt_d (pt_irem gx235_17 z2 h8 (fun v9 h9 => ?_))
  refine pt_d (pt_ishr gx235_18 h7 h9 (fun v10 h10 => ?_))
  refine pt_d (pt_iconst gx235_19 (fun v11 h11 => ?_))
  refine pt_d (pt_iand gx235_20 h10 h11 (fun v12 h12 => ?_))
  refine pt_d (pt_iconst gx235_21 (fun v13 h13 => ?_))
  refine pt_d (pt_icmp_ne gx235_22 h12 h13 (fun e14 => ?_) (fun e14 => ?_))
  · have H := H.1 e14
    refine pt_d (pt_iconst gx235_29 (fun v15 h15 => ?_))
    exact pt_d (pt_iret gx235_30 ⟨_, rfl, by rw [h15]; exact H⟩)
  · have H := H.2 e14
    refine pt_d (pt_iconst gx235_25 (fun v16 h16 => ?_))
    refine pt_d (pt_1 (fun n d => r_goto gx235_26) ?_)
    exact pt_d (pt_iret gx235_30 ⟨_, rfl, by rw [h16]; exact H⟩)
theorem d233_0 {n : Nat} {X : aX} {h : aH} {P : Int → aH → Prop} {x1 x2 x3 x4 : Int32} {a1 a2 a3 a4 : Int} (S : wS h) (z1 : x1.toInt = a1) (z2 : x2.toInt = a2) (z3 : x3.toInt = a3) (z4 : x4.toInt = a4) (H : (∀ (w5 : Int32), w5.toInt = 0 → Pt n X zM233 3 [some (.ref 72), some (.int x1), some (.int x2), some (.int x3), some (.int x4), some (.int w5)] [] h (qI P))) : Pt (n + 1) X zM233 0 [some (.ref 72), some (.int x1), some (.int x2), some (.int x3), some (.int x4), none] [] h (qI P) := by
  refine pt_iconst gx233_0 (fun v1 h1 => ?_)
  refine pt_d (pt_1 (fun n d => r_istore (L' := [some (.ref 72), some (.int x1), some (.int x2), some (.int x3), some (.int x4), some (.int v1)]) gx233_1 rfl rfl) ?_)
  exact H v1 h1
theorem d233_3 {n : Nat} {X : aX} {h : aH} {P : Int → aH → Prop} {x1 x2 x3 x4 x5 : Int32} {a1 a2 a3 a4 a5 : Int} (S : wS h) (z1 : x1.toInt = a1) (z2 : x2.toInt = a2) (z3 : x3.toInt = a3) (z4 : x4.toInt = a4) (z5 : x5.toInt = a5) (H : ((vw h 72 25 ≤ a5 → P 0 h) ∧ (a5 < vw h 72 25 → (0 ≤ a5 → a5 < 40 → ((a4 < vw h 97 a5 → (∀ (w5 : Int32), w5.toInt = w32 (a5 + 1) → Pt n X zM233 3 [some (.ref 72), some (.int x1), some (.int x2), some (.int x3), some (.int x4), some (.int w5)] [] h (qI P))) ∧ (vw h 97 a5 ≤ a4 → ((w32 (365 * a3) < vw h 96 a5 → (∀ (w5 : Int32), w5.toInt = w32 (a5 + 1) → Pt n X zM233 3 [some (.ref 72), some (.int x1), some (.int x2), some (.int x3), some (.int x4), some (.int w5)] [] h (qI P))) ∧ (vw h 96 a5 ≤ w32 (365 * a3) → ((¬ ((vw h 92 a5) ≤ a1 ∧ a1 ≤ (vw h 94 a5)) → (∀ (w5 : Int32), w5.toInt = w32 (a5 + 1) → Pt n X zM233 3 [some (.ref 72), some (.int x1), some (.int x2), some (.int x3), some (.int x4), some (.int w5)] [] h (qI P))) ∧ (((vw h 92 a5) ≤ a1 ∧ a1 ≤ (vw h 94 a5)) → ((¬ ((vw h 93 a5) ≤ a2 ∧ a2 ≤ (vw h 95 a5)) → (∀ (w5 : Int32), w5.toInt = w32 (a5 + 1) → Pt n X zM233 3 [some (.ref 72), some (.int x1), some (.int x2), some (.int x3), some (.int x4), some (.int w5)] [] h (qI P))) ∧ (((vw h 93 a5) ≤ a2 ∧ a2 ≤ (vw h 95 a5)) → P 1 h)))))))))))) : Pt (n + 1) X zM233 3 [some (.ref 72), some (.int x1), some (.int x2), some (.int x3), some (.int x4), some (.int x5)] [] h (qI P) := by
  refine pt_1 (fun n d => r_iload gx233_3 rfl) ?_
  refine pt_d (pt_1 (fun n d => r_aloadn gx233_5 rfl) ?_)
  refine pt_d (pt_getI (B := 25) gx233_6 S (fun v1 h1 => ?_))
  refine pt_d (pt_icmp_ge gx233_9 z5 h1 (fun e2 => ?_) (fun e2 => ?_))
  · have H := H.1 e2
    refine pt_d (pt_iconst gx233_89 (fun v3 h3 => ?_))
    exact pt_d (pt_iret gx233_90 ⟨_, rfl, by rw [h3]; exact H⟩)
  · have H := H.2 e2
    refine pt_d (pt_1 (fun n d => r_aloadn gx233_12 rfl) ?_)
    refine pt_d (pt_getR gx233_13 S tr_72_31 ?_)
    refine pt_d (pt_1 (fun n d => r_iload gx233_16 rfl) ?_)
    refine pt_d (pt_iald (N' := 40) gx233_18 S tl_97 z5 (fun v5 p5 q5 h5 => ?_))
    have H := H p5 q5
    refine pt_d (pt_1 (fun n d => r_iload gx233_19 rfl) ?_)
    refine pt_d (pt_icmp_gt gx233_21 h5 z4 (fun e6 => ?_) (fun e6 => ?_))
    · have H := H.1 e6
      refine pt_d (pt_iinc (c := 1) gx233_83 rfl z5 (fun v7 h7 => ?_))
      show Pt _ _ _ _ [some (.ref 72), some (.int x1), some (.int x2), some (.int x3), some (.int x4), some (.int v7)] [] _ _
      refine pt_d (pt_1 (fun n d => r_goto gx233_86) ?_)
      exact H v7 h7
    · have H := H.2 e6
      refine pt_d (pt_1 (fun n d => r_aloadn gx233_24 rfl) ?_)
      refine pt_d (pt_getR gx233_25 S tr_72_30 ?_)
      refine pt_d (pt_1 (fun n d => r_iload gx233_28 rfl) ?_)
      refine pt_d (pt_iald (N' := 40) gx233_30 S tl_96 z5 (fun v9 p9 q9 h9 => ?_))
      refine pt_d (pt_sipush gx233_31 (fun v10 h10 => ?_))
      refine pt_d (pt_1 (fun n d => r_iloadn gx233_34 rfl) ?_)
      refine pt_d (pt_imul gx233_35 h10 z3 (fun v11 h11 => ?_))
      refine pt_d (pt_icmp_gt gx233_36 h9 h11 (fun e12 => ?_) (fun e12 => ?_))
      · have H := H.1 e12
        refine pt_d (pt_iinc (c := 1) gx233_83 rfl z5 (fun v13 h13 => ?_))
        show Pt _ _ _ _ [some (.ref 72), some (.int x1), some (.int x2), some (.int x3), some (.int x4), some (.int v13)] [] _ _
        refine pt_d (pt_1 (fun n d => r_goto gx233_86) ?_)
        exact H v13 h13
      · have H := H.2 e12
        refine pt_d (pt_1 (fun n d => r_iloadn gx233_39 rfl) ?_)
        refine pt_d (pt_1 (fun n d => r_aloadn gx233_40 rfl) ?_)
        refine pt_d (pt_getR gx233_41 S tr_72_26 ?_)
        refine pt_d (pt_1 (fun n d => r_iload gx233_44 rfl) ?_)
        refine pt_d (pt_iald (N' := 40) gx233_46 S tl_92 z5 (fun v15 p15 q15 h15 => ?_))
        refine pt_d (pt_1 (fun n d => r_aloadn gx233_47 rfl) ?_)
        refine pt_d (pt_getR gx233_48 S tr_72_28 ?_)
        refine pt_d (pt_1 (fun n d => r_iload gx233_51 rfl) ?_)
        refine pt_d (pt_iald (N' := 40) gx233_53 S tl_94 z5 (fun v17 p17 q17 h17 => ?_))
        refine pt_d (pt_stat (as := [.int x1, .int v15, .int v17]) (r := []) gx233_54 rfl (show zmt[196]? = some zM196 from rfl) rfl rfl rfl rfl (c_196 S z1 h15 h17) (kqP (fun v18 h18 => ?_)))
        show Pt _ _ _ 57 _ [.int v18] _ _
        refine pt_d (pt_ifB_eq gx233_57 h18 (fun e19 => ?_) (fun e19 => ?_))
        · have H := H.1 e19
          refine pt_d (pt_iinc (c := 1) gx233_83 rfl z5 (fun v20 h20 => ?_))
          show Pt _ _ _ _ [some (.ref 72), some (.int x1), some (.int x2), some (.int x3), some (.int x4), some (.int v20)] [] _ _
          refine pt_d (pt_1 (fun n d => r_goto gx233_86) ?_)
          exact H v20 h20
        · have H := H.2 e19
          refine pt_d (pt_1 (fun n d => r_iloadn gx233_60 rfl) ?_)
          refine pt_d (pt_1 (fun n d => r_aloadn gx233_61 rfl) ?_)
          refine pt_d (pt_getR gx233_62 S tr_72_27 ?_)
          refine pt_d (pt_1 (fun n d => r_iload gx233_65 rfl) ?_)
          refine pt_d (pt_iald (N' := 40) gx233_67 S tl_93 z5 (fun v22 p22 q22 h22 => ?_))
          refine pt_d (pt_1 (fun n d => r_aloadn gx233_68 rfl) ?_)
          refine pt_d (pt_getR gx233_69 S tr_72_29 ?_)
          refine pt_d (pt_1 (fun n d => r_iload gx233_72 rfl) ?_)
          refine pt_d (pt_iald (N' := 40) gx233_74 S tl_95 z5 (fun v24 p24 q24 h24 => ?_))
          refine pt_d (pt_stat (as := [.int x2, .int v22, .int v24]) (r := []) gx233_75 rfl (show zmt[196]? = some zM196 from rfl) rfl rfl rfl rfl (c_196 S z2 h22 h24) (kqP (fun v25 h25 => ?_)))
          show Pt _ _ _ 78 _ [.int v25] _ _
          refine pt_d (pt_ifB_eq gx233_78 h25 (fun e26 => ?_) (fun e26 => ?_))
          · have H := H.1 e26
            refine pt_d (pt_iinc (c := 1) gx233_83 rfl z5 (fun v27 h27 => ?_))
            show Pt _ _ _ _ [some (.ref 72), some (.int x1), some (.int x2), some (.int x3), some (.int x4), some (.int v27)] [] _ _
            refine pt_d (pt_1 (fun n d => r_goto gx233_86) ?_)
            exact H v27 h27
          · have H := H.2 e26
            refine pt_d (pt_iconst gx233_81 (fun v28 h28 => ?_))
            exact pt_d (pt_iret gx233_82 ⟨_, rfl, by rw [h28]; exact H⟩)
theorem d240_0 {n : Nat} {X : aX} {h : aH} {P : Int → aH → Prop} {x1 : Int32} {a1 : Int} (S : wS h) (z1 : x1.toInt = a1) (H : (0 ≤ a1 → a1 < 300 → (0 ≤ vw h 87 a1 → vw h 87 a1 < 150 → (0 ≤ vw h 74 (vw h 87 a1) → vw h 74 (vw h 87 a1) < 4 → ((0 ≤ w32 ((iRem (vw h 90 a1) 365) - (vw h 91 (vw h 74 (vw h 87 a1)))) → P (w32 ((iRem (vw h 90 a1) 365) - (vw h 91 (vw h 74 (vw h 87 a1))))) h) ∧ (w32 ((iRem (vw h 90 a1) 365) - (vw h 91 (vw h 74 (vw h 87 a1)))) < 0 → P 0 h)))))) : Pt (n + 1) X zM240 0 [some (.ref 72), some (.int x1), none] [] h (qI P) := by
  refine pt_1 (fun n d => r_aloadn gx240_0 rfl) ?_
  refine pt_d (pt_getR gx240_1 S tr_72_23 ?_)
  refine pt_d (pt_1 (fun n d => r_iloadn gx240_4 rfl) ?_)
  refine pt_d (pt_iald (N' := 300) gx240_5 S tl_90 z1 (fun v2 p2 q2 h2 => ?_))
  have H := H p2 q2
  refine pt_d (pt_sipush gx240_6 (fun v3 h3 => ?_))
  refine pt_d (pt_irem gx240_9 h2 h3 (fun v4 h4 => ?_))
  refine pt_d (pt_1 (fun n d => r_aloadn gx240_10 rfl) ?_)
  refine pt_d (pt_getR gx240_11 S tr_72_24 ?_)
  refine pt_d (pt_1 (fun n d => r_aloadn gx240_14 rfl) ?_)
  refine pt_d (pt_getR gx240_15 S tr_72_4 ?_)
  refine pt_d (pt_1 (fun n d => r_aloadn gx240_18 rfl) ?_)
  refine pt_d (pt_getR gx240_19 S tr_72_20 ?_)
  refine pt_d (pt_1 (fun n d => r_iloadn gx240_22 rfl) ?_)
  refine pt_d (pt_iald (N' := 300) gx240_23 S tl_87 z1 (fun v8 p8 q8 h8 => ?_))
  refine pt_d (pt_iald (N' := 150) gx240_24 S tl_74 h8 (fun v9 p9 q9 h9 => ?_))
  have H := H p9 q9
  refine pt_d (pt_iald (N' := 4) gx240_25 S tl_91 h9 (fun v10 p10 q10 h10 => ?_))
  have H := H p10 q10
  refine pt_d (pt_isub gx240_26 h4 h10 (fun v11 h11 => ?_))
  refine pt_d (pt_1 (fun n d => r_istoren (L' := [some (.ref 72), some (.int x1), some (.int v11)]) gx240_27 rfl rfl) ?_)
  refine pt_d (pt_1 (fun n d => r_iloadn gx240_28 rfl) ?_)
  refine pt_d (pt_if_ge gx240_29 h11 (fun e12 => ?_) (fun e12 => ?_))
  · have H := H.1 e12
    refine pt_d (pt_1 (fun n d => r_iloadn gx240_36 rfl) ?_)
    exact pt_d (pt_iret gx240_37 ⟨_, rfl, by rw [h11]; exact H⟩)
  · have H := H.2 e12
    refine pt_d (pt_iconst gx240_32 (fun v13 h13 => ?_))
    refine pt_d (pt_1 (fun n d => r_goto gx240_33) ?_)
    exact pt_d (pt_iret gx240_37 ⟨_, rfl, by rw [h13]; exact H⟩)
def lat (V : vS) (c o k : Int) : Prop := V 90 o ≤ k ∧ V 87 o = V 87 c ∧ V 88 o = V 88 c ∧ iDiv (V 90 o) 365 = iDiv (V 90 c) 365
def mcn (V : vS) (c k : Int) : Prop := V 90 c ≤ k ∧ (V 77 (V 88 c) < 0 ∨ k < V 77 (V 88 c)) ∧ ∀ o, c < o → o < V 72 19 → ¬ lat V c o k
theorem l_234 {X : aX} {h : aH} {c k : Int} (S : wS h) (hn : 0 ≤ vw h 72 19 ∧ vw h 72 19 ≤ 300) (h1c : vw h 90 c ≤ k ∧ (vw h 77 (vw h 88 c) < 0 ∨ k < vw h 77 (vw h 88 c))) : ∀ (n : Nat) (x1 x2 x3 : Int32) (o : Int), x1.toInt = c → x2.toInt = k → x3.toInt = o → -1 ≤ o → (∀ o', c < o' → o' < o → o' < vw h 72 19 → ¬ lat (vw h) c o' k) → c < o → Pt n X zM234 45 [some (.ref 72), some (.int x1), some (.int x2), some (.int x3)] [] h (qI (fun r h' => h' = h ∧ r = bI (mcn (vw h) c k))) := by
  intro n
  induction n with
  | zero => exact fun _ _ _ _ _ _ _ _ _ _ => pt_z
  | succ n ih =>
    intro x1 x2 x3 o h1 h2 h3 o0 no co
    have next : ∀ w3 : Int32, o < vw h 72 19 → ¬ lat (vw h) c o k → w3.toInt = w32 (o + 1) → Pt n X zM234 45 [some (.ref 72), some (.int x1), some (.int x2), some (.int w3)] [] h (qI (fun r h' => h' = h ∧ r = bI (mcn (vw h) c k))) := by
      intro w3 lt nl g3
      replace g3 := w_1 g3 (by omega) (by omega)
      refine ih x1 x2 w3 (o + 1) h1 h2 g3 (by omega) (fun o' a b d => ?_) (by omega)
      by_cases z : o' = o
      · rw [z]; exact nl
      · exact no o' a (by omega) d
    refine d234_45 S h1 h2 h3 ⟨fun e => ⟨rfl, (bI_t ⟨h1c.1, h1c.2, fun o' a b => no o' a (by omega) b⟩).symm⟩, fun e _ _ => ⟨fun e2 w3 g3 => next w3 e (fun z => absurd z.1 (by omega)) g3, fun e2 _ _ => ⟨fun e3 w3 g3 => next w3 e (fun z => e3 z.2.1) g3, fun e3 => ⟨fun e4 w3 g3 => next w3 e (fun z => e4 z.2.2.1) g3, fun e4 => ⟨fun e5 w3 g3 => next w3 e (fun z => e5 z.2.2.2) g3, fun e5 => ⟨rfl, (bI_f (fun z => z.2.2 o co e ⟨e2, e3, e4, e5⟩)).symm⟩⟩⟩⟩⟩⟩
theorem c_234 {n : Nat} {X : aX} {h : aH} {x1 x2 : Int32} {a1 a2 : Int} (S : wS h) (z1 : x1.toInt = a1) (z2 : x2.toInt = a2) (hn : 0 ≤ vw h 72 19 ∧ vw h 72 19 ≤ 300) : Pt n X zM234 0 [some (.ref 72), some (.int x1), some (.int x2), none] [] h (qI (fun y h' => h' = h ∧ y = bI (mcn (vw h) a1 a2))) := by
  have go : ∀ (w3 : Int32), 0 ≤ a1 → a1 < 300 → (vw h 90 a1 ≤ a2 ∧ (vw h 77 (vw h 88 a1) < 0 ∨ a2 < vw h 77 (vw h 88 a1))) → w3.toInt = w32 (a1 + 1) → Pt n X zM234 45 [some (.ref 72), some (.int x1), some (.int x2), some (.int w3)] [] h (qI (fun r h' => h' = h ∧ r = bI (mcn (vw h) a1 a2))) := by
    intro w3 p0 p1 hc g3
    replace g3 := w_1 g3 (by omega) (by omega)
    exact l_234 S hn hc n x1 x2 w3 (a1 + 1) z1 z2 g3 (by omega) (fun o' a b _ => by omega) (by omega)
  refine pt_d (d234_0 S z1 z2 (fun p0 p1 => ⟨fun e => ⟨rfl, (bI_f (fun z => absurd z.1 (by omega))).symm⟩, fun e _ _ => ⟨fun e2 w3 g3 => go w3 p0 p1 ⟨e, Or.inl e2⟩ g3, fun e2 => ⟨fun e3 w3 g3 => go w3 p0 p1 ⟨e, Or.inr e3⟩ g3, fun e3 => ⟨rfl, (bI_f (fun z => ?_)).symm⟩⟩⟩⟩))
  rcases z.2.1 with z | z <;> omega
-- what a control told as missing
def mmg (V : vS) (c k : Int) : Nat → Int
  | 0 => 0
  | i + 1 => if V 98 (i : Nat) = V 87 c ∧ V 99 (i : Nat) = V 88 c ∧ V 100 (i : Nat) = iDiv (V 90 c) 365 ∧ V 102 (i : Nat) ≤ k then V 101 (i : Nat) else mmg V c k i
theorem l_237 {X : aX} {h : aH} {c k : Int} (S : wS h) : ∀ (n : Nat) (x1 x2 x3 : Int32) (i : Nat), x1.toInt = c → x2.toInt = k → x3.toInt = (i : Int) - 1 → i ≤ 200 → Pt n X zM237 7 [some (.ref 72), some (.int x1), some (.int x2), some (.int x3)] [] h (qI (fun r h' => h' = h ∧ r = mmg (vw h) c k i)) := by
  intro n
  induction n with
  | zero => exact fun _ _ _ _ _ _ _ _ => pt_z
  | succ n ih =>
    intro x1 x2 x3 i h1 h2 h3 hi
    obtain rfl | ⟨j, rfl⟩ : i = 0 ∨ ∃ j, i = j + 1 := by
      cases i with
      | zero => exact Or.inl rfl
      | succ j => exact Or.inr ⟨j, rfl⟩
    · exact d237_7 S h1 h2 h3 ⟨fun _ => ⟨rfl, rfl⟩, fun e => by omega⟩
    · have h3 : x3.toInt = (j : Int) := by omega
      have next : ∀ (w3 : Int32), ¬ (vw h 98 (j : Nat) = vw h 87 c ∧ vw h 99 (j : Nat) = vw h 88 c ∧ vw h 100 (j : Nat) = iDiv (vw h 90 c) 365 ∧ vw h 102 (j : Nat) ≤ k) → w3.toInt = w32 ((j : Int) + (-1)) → Pt n X zM237 7 [some (.ref 72), some (.int x1), some (.int x2), some (.int w3)] [] h (qI (fun r h' => h' = h ∧ r = mmg (vw h) c k (j + 1))) := by
        intro w3 no g3
        replace g3 := w_1 g3 (by omega) (by omega)
        refine pt_q (ih x1 x2 w3 j h1 h2 (by omega) (by omega)) ?_
        rintro v h' ⟨x, ex, p1, p2⟩
        exact ⟨x, ex, p1, p2.trans (if_neg no).symm⟩
      exact d237_7 S h1 h2 h3 ⟨fun e => by omega, fun _ _ _ => ⟨fun e w3 g3 => next w3 (fun z => absurd z.2.2.2 (by omega)) g3, fun e _ _ => ⟨fun e2 w3 g3 => next w3 (fun z => e2 z.1) g3, fun e2 => ⟨fun e3 w3 g3 => next w3 (fun z => e3 z.2.1) g3, fun e3 => ⟨fun e4 w3 g3 => next w3 (fun z => e4 z.2.2.1) g3, fun e4 => ⟨rfl, (if_pos ⟨e2, e3, e4, e⟩).symm⟩⟩⟩⟩⟩⟩
theorem c_237 {n : Nat} {X : aX} {h : aH} {x1 x2 : Int32} {a1 a2 : Int} (S : wS h) (z1 : x1.toInt = a1) (z2 : x2.toInt = a2) (hb : 0 ≤ vw h 72 32 ∧ vw h 72 32 ≤ 200) : Pt n X zM237 0 [some (.ref 72), some (.int x1), some (.int x2), none] [] h (qI (fun y h' => h' = h ∧ y = mmg (vw h) a1 a2 (vw h 72 32).toNat)) :=
  pt_d (d237_0 S z1 z2 (fun w3 g3 => l_237 S n x1 x2 w3 _ z1 z2 (by rw [g3, w32_id (by omega) (by omega)]; omega) (by omega)))
-- is a square in a field, is it out
def isI (V : vS) (b q : Int) : Prop := bAnd (bShr (V 80 (w32 (w32 (24 * b) + iDiv q 24))) (iRem q 24)) 1 = 1
theorem c_235 {n : Nat} {X : aX} {h : aH} {x1 x2 : Int32} {a1 a2 : Int} (S : wS h) (z1 : x1.toInt = a1) (z2 : x2.toInt = a2) : Pt n X zM235 0 [some (.ref 72), some (.int x1), some (.int x2)] [] h (qI (fun y h' => h' = h ∧ y = bI (isI (vw h) a1 a2))) :=
  pt_d (d235_0 S z1 z2 (fun _ _ => ⟨fun e => ⟨rfl, (bI_f e).symm⟩, fun e => ⟨rfl, (bI_t e).symm⟩⟩))
theorem shr_k : ∀ k : Fin 24, ((Int32.ofInt (k.val : Int) &&& 31).toBitVec.smod 32).toNat = k.val := by decide +kernel
theorem bit_n {n k : Nat} (hn : n < 2147483648) (hk : k < 24) : bAnd (bShr (n : Int) (k : Int)) 1 = 1 ↔ tb (n : Int) k = true := by
  have e : bShr (n : Int) (k : Int) = ((n / 2 ^ k : Nat) : Int) := by
    unfold bShr
    rw [ofI_n hn, pk_shrN (show n < 2 ^ 31 from hn) _ k (shr_k ⟨k, hk⟩), nI_toInt (show n / 2 ^ k < 2 ^ 31 from Nat.lt_of_le_of_lt (Nat.div_le_self _ _) hn)]
  have e2 : bAnd ((n / 2 ^ k : Nat) : Int) 1 = ((n / 2 ^ k &&& 1 : Nat) : Int) := bAnd_n (m := 1) (Nat.lt_of_le_of_lt (Nat.div_le_self _ _) hn) (by decide)
  rw [e, e2, Nat.and_one_is_mod, tb_n hn, decide_eq_true_eq]
  omega
theorem isI_tb {V : vS} {b y : Int} {x : Nat} (hb : 0 ≤ b ∧ b < 150) (hy : 0 ≤ y ∧ y < 24) (hx : x < 24) (h8 : ∀ j, 0 ≤ V 80 j ∧ V 80 j < 2147483648) : isI V b (24 * y + (x : Int)) ↔ tb (V 80 (24 * b + y)) x = true := by
  unfold isI
  rw [iDiv_pos (by omega) (by omega) (by decide) (by decide), iRem_pos (by omega) (by omega) (by decide) (by decide), show (24 * y + (x : Int)) / 24 = y by omega, show (24 * y + (x : Int)) % 24 = (x : Int) by omega, w32_id (z := 24 * b) (by omega) (by omega), w32_id (by omega) (by omega)]
  have r := h8 (24 * b + y)
  obtain ⟨n, en⟩ : ∃ n : Nat, V 80 (24 * b + y) = (n : Int) := ⟨(V 80 (24 * b + y)).toNat, by omega⟩
  rw [en] at r ⊢
  exact bit_n (by omega) hx
def oHm (V : vS) (x y yr k i : Int) : Prop := V 97 i ≤ k ∧ V 96 i ≤ w32 (365 * yr) ∧ (V 92 i ≤ x ∧ x ≤ V 94 i) ∧ V 93 i ≤ y ∧ y ≤ V 95 i
def isO (V : vS) (x y yr k : Int) : Prop := ∃ i, (0 ≤ i ∧ i < V 72 25) ∧ oHm V x y yr k i
theorem l_233 {X : aX} {h : aH} {x y yr k : Int} (S : wS h) (hn : 0 ≤ vw h 72 25 ∧ vw h 72 25 ≤ 40) : ∀ (n : Nat) (x1 x2 x3 x4 x5 : Int32) (i : Int), x1.toInt = x → x2.toInt = y → x3.toInt = yr → x4.toInt = k → x5.toInt = i → 0 ≤ i → (∀ i', 0 ≤ i' → i' < i → i' < vw h 72 25 → ¬ oHm (vw h) x y yr k i') → i ≤ vw h 72 25 → Pt n X zM233 3 [some (.ref 72), some (.int x1), some (.int x2), some (.int x3), some (.int x4), some (.int x5)] [] h (qI (fun r h' => h' = h ∧ r = bI (isO (vw h) x y yr k))) := by
  intro n
  induction n with
  | zero => exact fun _ _ _ _ _ _ _ _ _ _ _ _ _ _ => pt_z
  | succ n ih =>
    intro x1 x2 x3 x4 x5 i h1 h2 h3 h4 h5 i0 no iN
    have next : ∀ w5 : Int32, i < vw h 72 25 → ¬ oHm (vw h) x y yr k i → w5.toInt = w32 (i + 1) → Pt n X zM233 3 [some (.ref 72), some (.int x1), some (.int x2), some (.int x3), some (.int x4), some (.int w5)] [] h (qI (fun r h' => h' = h ∧ r = bI (isO (vw h) x y yr k))) := by
      intro w5 lt nl g5
      replace g5 := w_1 g5 (by omega) (by omega)
      refine ih x1 x2 x3 x4 w5 (i + 1) h1 h2 h3 h4 g5 (by omega) (fun i' a b d => ?_) (by omega)
      by_cases z : i' = i
      · rw [z]; exact nl
      · exact no i' a (by omega) d
    exact d233_3 S h1 h2 h3 h4 h5 ⟨fun e => ⟨rfl, (bI_f (fun ⟨i', a, b⟩ => no i' a.1 (by omega) a.2 b)).symm⟩, fun e _ _ => ⟨fun e2 w5 g5 => next w5 e (fun z => absurd z.1 (by omega)) g5, fun e2 => ⟨fun e3 w5 g5 => next w5 e (fun z => absurd z.2.1 (by omega)) g5, fun e3 => ⟨fun e4 w5 g5 => next w5 e (fun z => e4 z.2.2.1) g5, fun e4 => ⟨fun e5 w5 g5 => next w5 e (fun z => e5 z.2.2.2) g5, fun e5 => ⟨rfl, (bI_t ⟨i, ⟨i0, e⟩, e2, e3, e4, e5⟩).symm⟩⟩⟩⟩⟩⟩
theorem c_233 {n : Nat} {X : aX} {h : aH} {x1 x2 x3 x4 : Int32} {a1 a2 a3 a4 : Int} (S : wS h) (z1 : x1.toInt = a1) (z2 : x2.toInt = a2) (z3 : x3.toInt = a3) (z4 : x4.toInt = a4) (hn : 0 ≤ vw h 72 25 ∧ vw h 72 25 ≤ 40) : Pt n X zM233 0 [some (.ref 72), some (.int x1), some (.int x2), some (.int x3), some (.int x4), none] [] h (qI (fun y h' => h' = h ∧ y = bI (isO (vw h) a1 a2 a3 a4))) :=
  pt_d (d233_0 S z1 z2 z3 z4 (fun w5 g5 => l_233 S hn n x1 x2 x3 x4 w5 0 z1 z2 z3 z4 g5 (Int.le_refl _) (fun i' a b _ => by omega) hn.1))
-- ===== who holds what, what is given up =====
theorem tl_9 : tkL 9 0 200 = true := by decide +kernel
theorem tl_12 : tkL 12 0 200 = true := by decide +kernel
theorem tl_11 : tkL 11 0 200 = true := by decide +kernel
theorem tl_10 : tkL 10 0 200 = true := by decide +kernel
theorem tl_84 : tkL 84 0 200 = true := by decide +kernel
theorem tl_83 : tkL 83 0 200 = true := by decide +kernel
theorem tl_86 : tkL 86 0 200 = true := by decide +kernel
theorem tl_85 : tkL 85 0 200 = true := by decide +kernel
theorem tl_17 : tkL 17 0 300 = true := by decide +kernel
theorem tl_18 : tkL 18 0 300 = true := by decide +kernel
theorem tl_19 : tkL 19 0 300 = true := by decide +kernel
theorem tl_20 : tkL 20 0 300 = true := by decide +kernel
theorem tl_21 : tkL 21 0 300 = true := by decide +kernel
theorem tl_87 : tkL 87 0 300 = true := by decide +kernel
theorem tl_88 : tkL 88 0 300 = true := by decide +kernel
theorem tl_89 : tkL 89 0 300 = true := by decide +kernel
theorem tl_90 : tkL 90 0 300 = true := by decide +kernel
theorem tr_1_14 : tkR 1 14 9 = true := by decide +kernel
theorem tr_1_17 : tkR 1 17 12 = true := by decide +kernel
theorem tr_1_16 : tkR 1 16 11 = true := by decide +kernel
theorem tr_1_15 : tkR 1 15 10 = true := by decide +kernel
theorem tr_72_16 : tkR 72 16 84 = true := by decide +kernel
theorem tr_72_15 : tkR 72 15 83 = true := by decide +kernel
theorem tr_72_18 : tkR 72 18 86 = true := by decide +kernel
theorem tr_72_17 : tkR 72 17 85 = true := by decide +kernel
theorem tr_16_4 : tkR 16 4 17 = true := by decide +kernel
theorem tr_16_5 : tkR 16 5 18 = true := by decide +kernel
theorem tr_16_6 : tkR 16 6 19 = true := by decide +kernel
theorem tr_16_7 : tkR 16 7 20 = true := by decide +kernel
theorem tr_16_0 : tkR 16 0 1 = true := by decide +kernel
theorem tr_16_8 : tkR 16 8 21 = true := by decide +kernel
theorem tr_0_2 : tkR 0 2 16 = true := by decide +kernel
theorem tr_72_20 : tkR 72 20 87 = true := by decide +kernel
theorem tr_72_21 : tkR 72 21 88 = true := by decide +kernel
theorem tr_72_22 : tkR 72 22 89 = true := by decide +kernel
theorem tr_72_23 : tkR 72 23 90 = true := by decide +kernel
theorem gx86_0 : aF 0 zM86.2.2.2.2.2.2.2 = some (0, (.aload_n 0), 1, 0, 0) := by decide +kernel
theorem gx86_1 : aF 1 zM86.2.2.2.2.2.2.2 = some (1, (.getfield 27), 3, 6, 12) := by decide +kernel
theorem gx86_4 : aF 4 zM86.2.2.2.2.2.2.2 = some (4, (.iload_n 1), 1, 0, 0) := by decide +kernel
theorem gx86_5 : aF 5 zM86.2.2.2.2.2.2.2 = some (5, .iaload, 1, 0, 0) := by decide +kernel
theorem gx86_6 : aF 6 zM86.2.2.2.2.2.2.2 = some (6, (.istore 4), 2, 0, 0) := by decide +kernel
theorem gx86_8 : aF 8 zM86.2.2.2.2.2.2.2 = some (8, (.iconst 0), 1, 0, 0) := by decide +kernel
theorem gx86_9 : aF 9 zM86.2.2.2.2.2.2.2 = some (9, (.istore 5), 2, 0, 0) := by decide +kernel
theorem gx86_11 : aF 11 zM86.2.2.2.2.2.2.2 = some (11, (.iconst 0), 1, 0, 0) := by decide +kernel
theorem gx86_12 : aF 12 zM86.2.2.2.2.2.2.2 = some (12, (.istore 6), 2, 0, 0) := by decide +kernel
theorem gx86_14 : aF 14 zM86.2.2.2.2.2.2.2 = some (14, (.iload 6), 2, 0, 0) := by decide +kernel
theorem gx86_16 : aF 16 zM86.2.2.2.2.2.2.2 = some (16, (.aload_n 0), 1, 0, 0) := by decide +kernel
theorem gx86_17 : aF 17 zM86.2.2.2.2.2.2.2 = some (17, (.getfield 101), 3, 6, 6) := by decide +kernel
theorem gx86_20 : aF 20 zM86.2.2.2.2.2.2.2 = some (20, (.if_icmp .ge 77), 3, 97, 0) := by decide +kernel
theorem gx86_97 : aF 97 zM86.2.2.2.2.2.2.2 = some (97, (.iload 4), 2, 0, 0) := by decide +kernel
theorem gx86_99 : aF 99 zM86.2.2.2.2.2.2.2 = some (99, .ireturn, 1, 0, 0) := by decide +kernel
theorem gx86_23 : aF 23 zM86.2.2.2.2.2.2.2 = some (23, (.aload_n 0), 1, 0, 0) := by decide +kernel
theorem gx86_24 : aF 24 zM86.2.2.2.2.2.2.2 = some (24, (.getfield 33), 3, 6, 14) := by decide +kernel
theorem gx86_27 : aF 27 zM86.2.2.2.2.2.2.2 = some (27, (.iload 6), 2, 0, 0) := by decide +kernel
theorem gx86_29 : aF 29 zM86.2.2.2.2.2.2.2 = some (29, .iaload, 1, 0, 0) := by decide +kernel
theorem gx86_30 : aF 30 zM86.2.2.2.2.2.2.2 = some (30, (.iload_n 1), 1, 0, 0) := by decide +kernel
theorem gx86_31 : aF 31 zM86.2.2.2.2.2.2.2 = some (31, (.if_icmp .ne 18), 3, 49, 0) := by decide +kernel
theorem gx86_49 : aF 49 zM86.2.2.2.2.2.2.2 = some (49, (.iconst 0), 1, 0, 0) := by decide +kernel
theorem gx86_50 : aF 50 zM86.2.2.2.2.2.2.2 = some (50, (.istore 7), 2, 0, 0) := by decide +kernel
theorem gx86_52 : aF 52 zM86.2.2.2.2.2.2.2 = some (52, (.iload 7), 2, 0, 0) := by decide +kernel
theorem gx86_54 : aF 54 zM86.2.2.2.2.2.2.2 = some (54, (.ifCond .eq 37), 3, 91, 0) := by decide +kernel
theorem gx86_91 : aF 91 zM86.2.2.2.2.2.2.2 = some (91, (.iinc 6 1), 3, 0, 0) := by decide +kernel
theorem gx86_94 : aF 94 zM86.2.2.2.2.2.2.2 = some (94, (.goto (-80)), 3, 14, 0) := by decide +kernel
theorem gx86_34 : aF 34 zM86.2.2.2.2.2.2.2 = some (34, (.aload_n 0), 1, 0, 0) := by decide +kernel
theorem gx86_35 : aF 35 zM86.2.2.2.2.2.2.2 = some (35, (.getfield 42), 3, 6, 17) := by decide +kernel
theorem gx86_38 : aF 38 zM86.2.2.2.2.2.2.2 = some (38, (.iload 6), 2, 0, 0) := by decide +kernel
theorem gx86_40 : aF 40 zM86.2.2.2.2.2.2.2 = some (40, .iaload, 1, 0, 0) := by decide +kernel
theorem gx86_41 : aF 41 zM86.2.2.2.2.2.2.2 = some (41, (.iload_n 3), 1, 0, 0) := by decide +kernel
theorem gx86_42 : aF 42 zM86.2.2.2.2.2.2.2 = some (42, (.if_icmp .gt 7), 3, 49, 0) := by decide +kernel
theorem gx86_45 : aF 45 zM86.2.2.2.2.2.2.2 = some (45, (.iconst 1), 1, 0, 0) := by decide +kernel
theorem gx86_46 : aF 46 zM86.2.2.2.2.2.2.2 = some (46, (.goto 4), 3, 50, 0) := by decide +kernel
theorem gx86_57 : aF 57 zM86.2.2.2.2.2.2.2 = some (57, (.aload_n 0), 1, 0, 0) := by decide +kernel
theorem gx86_58 : aF 58 zM86.2.2.2.2.2.2.2 = some (58, (.getfield 39), 3, 6, 16) := by decide +kernel
theorem gx86_61 : aF 61 zM86.2.2.2.2.2.2.2 = some (61, (.iload 6), 2, 0, 0) := by decide +kernel
theorem gx86_63 : aF 63 zM86.2.2.2.2.2.2.2 = some (63, .iaload, 1, 0, 0) := by decide +kernel
theorem gx86_64 : aF 64 zM86.2.2.2.2.2.2.2 = some (64, (.iload 5), 2, 0, 0) := by decide +kernel
theorem gx86_66 : aF 66 zM86.2.2.2.2.2.2.2 = some (66, (.iload_n 2), 1, 0, 0) := by decide +kernel
theorem gx86_67 : aF 67 zM86.2.2.2.2.2.2.2 = some (67, (.invokestatic 45), 3, 137, 0) := by decide +kernel
theorem gx86_70 : aF 70 zM86.2.2.2.2.2.2.2 = some (70, (.ifCond .eq 21), 3, 91, 0) := by decide +kernel
theorem gx86_73 : aF 73 zM86.2.2.2.2.2.2.2 = some (73, (.aload_n 0), 1, 0, 0) := by decide +kernel
theorem gx86_74 : aF 74 zM86.2.2.2.2.2.2.2 = some (74, (.getfield 39), 3, 6, 16) := by decide +kernel
theorem gx86_77 : aF 77 zM86.2.2.2.2.2.2.2 = some (77, (.iload 6), 2, 0, 0) := by decide +kernel
theorem gx86_79 : aF 79 zM86.2.2.2.2.2.2.2 = some (79, .iaload, 1, 0, 0) := by decide +kernel
theorem gx86_80 : aF 80 zM86.2.2.2.2.2.2.2 = some (80, (.istore 5), 2, 0, 0) := by decide +kernel
theorem gx86_82 : aF 82 zM86.2.2.2.2.2.2.2 = some (82, (.aload_n 0), 1, 0, 0) := by decide +kernel
theorem gx86_83 : aF 83 zM86.2.2.2.2.2.2.2 = some (83, (.getfield 36), 3, 6, 15) := by decide +kernel
theorem gx86_86 : aF 86 zM86.2.2.2.2.2.2.2 = some (86, (.iload 6), 2, 0, 0) := by decide +kernel
theorem gx86_88 : aF 88 zM86.2.2.2.2.2.2.2 = some (88, .iaload, 1, 0, 0) := by decide +kernel
theorem gx86_89 : aF 89 zM86.2.2.2.2.2.2.2 = some (89, (.istore 4), 2, 0, 0) := by decide +kernel
theorem gx226_0 : aF 0 zM226.2.2.2.2.2.2.2 = some (0, (.iconst (-1)), 1, 0, 0) := by decide +kernel
theorem gx226_1 : aF 1 zM226.2.2.2.2.2.2.2 = some (1, (.istore 4), 2, 0, 0) := by decide +kernel
theorem gx226_3 : aF 3 zM226.2.2.2.2.2.2.2 = some (3, (.iconst 0), 1, 0, 0) := by decide +kernel
theorem gx226_4 : aF 4 zM226.2.2.2.2.2.2.2 = some (4, (.istore 5), 2, 0, 0) := by decide +kernel
theorem gx226_6 : aF 6 zM226.2.2.2.2.2.2.2 = some (6, (.iload 5), 2, 0, 0) := by decide +kernel
theorem gx226_8 : aF 8 zM226.2.2.2.2.2.2.2 = some (8, (.aload_n 0), 1, 0, 0) := by decide +kernel
theorem gx226_9 : aF 9 zM226.2.2.2.2.2.2.2 = some (9, (.getfield 328), 3, 12, 14) := by decide +kernel
theorem gx226_12 : aF 12 zM226.2.2.2.2.2.2.2 = some (12, (.if_icmp .ge 68), 3, 80, 0) := by decide +kernel
theorem gx226_80 : aF 80 zM226.2.2.2.2.2.2.2 = some (80, (.iload 4), 2, 0, 0) := by decide +kernel
theorem gx226_82 : aF 82 zM226.2.2.2.2.2.2.2 = some (82, (.ifCond .ge 12), 3, 94, 0) := by decide +kernel
theorem gx226_94 : aF 94 zM226.2.2.2.2.2.2.2 = some (94, (.aload_n 0), 1, 0, 0) := by decide +kernel
theorem gx226_95 : aF 95 zM226.2.2.2.2.2.2.2 = some (95, (.getfield 43), 3, 12, 16) := by decide +kernel
theorem gx226_98 : aF 98 zM226.2.2.2.2.2.2.2 = some (98, (.iload 4), 2, 0, 0) := by decide +kernel
theorem gx226_100 : aF 100 zM226.2.2.2.2.2.2.2 = some (100, .iaload, 1, 0, 0) := by decide +kernel
theorem gx226_101 : aF 101 zM226.2.2.2.2.2.2.2 = some (101, .ireturn, 1, 0, 0) := by decide +kernel
theorem gx226_85 : aF 85 zM226.2.2.2.2.2.2.2 = some (85, (.aload_n 0), 1, 0, 0) := by decide +kernel
theorem gx226_86 : aF 86 zM226.2.2.2.2.2.2.2 = some (86, (.getfield 16), 3, 12, 5) := by decide +kernel
theorem gx226_89 : aF 89 zM226.2.2.2.2.2.2.2 = some (89, (.iload_n 1), 1, 0, 0) := by decide +kernel
theorem gx226_90 : aF 90 zM226.2.2.2.2.2.2.2 = some (90, .iaload, 1, 0, 0) := by decide +kernel
theorem gx226_91 : aF 91 zM226.2.2.2.2.2.2.2 = some (91, (.goto 10), 3, 101, 0) := by decide +kernel
theorem gx226_15 : aF 15 zM226.2.2.2.2.2.2.2 = some (15, (.aload_n 0), 1, 0, 0) := by decide +kernel
theorem gx226_16 : aF 16 zM226.2.2.2.2.2.2.2 = some (16, (.getfield 40), 3, 12, 15) := by decide +kernel
theorem gx226_19 : aF 19 zM226.2.2.2.2.2.2.2 = some (19, (.iload 5), 2, 0, 0) := by decide +kernel
theorem gx226_21 : aF 21 zM226.2.2.2.2.2.2.2 = some (21, .iaload, 1, 0, 0) := by decide +kernel
theorem gx226_22 : aF 22 zM226.2.2.2.2.2.2.2 = some (22, (.iload_n 1), 1, 0, 0) := by decide +kernel
theorem gx226_23 : aF 23 zM226.2.2.2.2.2.2.2 = some (23, (.if_icmp .ne 51), 3, 74, 0) := by decide +kernel
theorem gx226_74 : aF 74 zM226.2.2.2.2.2.2.2 = some (74, (.iinc 5 1), 3, 0, 0) := by decide +kernel
theorem gx226_77 : aF 77 zM226.2.2.2.2.2.2.2 = some (77, (.goto (-71)), 3, 6, 0) := by decide +kernel
theorem gx226_26 : aF 26 zM226.2.2.2.2.2.2.2 = some (26, (.aload_n 0), 1, 0, 0) := by decide +kernel
theorem gx226_27 : aF 27 zM226.2.2.2.2.2.2.2 = some (27, (.getfield 49), 3, 12, 18) := by decide +kernel
theorem gx226_30 : aF 30 zM226.2.2.2.2.2.2.2 = some (30, (.iload 5), 2, 0, 0) := by decide +kernel
theorem gx226_32 : aF 32 zM226.2.2.2.2.2.2.2 = some (32, .iaload, 1, 0, 0) := by decide +kernel
theorem gx226_33 : aF 33 zM226.2.2.2.2.2.2.2 = some (33, (.iload_n 3), 1, 0, 0) := by decide +kernel
theorem gx226_34 : aF 34 zM226.2.2.2.2.2.2.2 = some (34, (.if_icmp .gt 40), 3, 74, 0) := by decide +kernel
theorem gx226_37 : aF 37 zM226.2.2.2.2.2.2.2 = some (37, (.aload_n 0), 1, 0, 0) := by decide +kernel
theorem gx226_38 : aF 38 zM226.2.2.2.2.2.2.2 = some (38, (.getfield 46), 3, 12, 17) := by decide +kernel
theorem gx226_41 : aF 41 zM226.2.2.2.2.2.2.2 = some (41, (.iload 5), 2, 0, 0) := by decide +kernel
theorem gx226_43 : aF 43 zM226.2.2.2.2.2.2.2 = some (43, .iaload, 1, 0, 0) := by decide +kernel
theorem gx226_44 : aF 44 zM226.2.2.2.2.2.2.2 = some (44, (.iload_n 2), 1, 0, 0) := by decide +kernel
theorem gx226_45 : aF 45 zM226.2.2.2.2.2.2.2 = some (45, (.if_icmp .gt 29), 3, 74, 0) := by decide +kernel
theorem gx226_48 : aF 48 zM226.2.2.2.2.2.2.2 = some (48, (.iload 4), 2, 0, 0) := by decide +kernel
theorem gx226_50 : aF 50 zM226.2.2.2.2.2.2.2 = some (50, (.ifCond .lt 20), 3, 70, 0) := by decide +kernel
theorem gx226_70 : aF 70 zM226.2.2.2.2.2.2.2 = some (70, (.iload 5), 2, 0, 0) := by decide +kernel
theorem gx226_72 : aF 72 zM226.2.2.2.2.2.2.2 = some (72, (.istore 4), 2, 0, 0) := by decide +kernel
theorem gx226_53 : aF 53 zM226.2.2.2.2.2.2.2 = some (53, (.aload_n 0), 1, 0, 0) := by decide +kernel
theorem gx226_54 : aF 54 zM226.2.2.2.2.2.2.2 = some (54, (.getfield 46), 3, 12, 17) := by decide +kernel
theorem gx226_57 : aF 57 zM226.2.2.2.2.2.2.2 = some (57, (.iload 5), 2, 0, 0) := by decide +kernel
theorem gx226_59 : aF 59 zM226.2.2.2.2.2.2.2 = some (59, .iaload, 1, 0, 0) := by decide +kernel
theorem gx226_60 : aF 60 zM226.2.2.2.2.2.2.2 = some (60, (.aload_n 0), 1, 0, 0) := by decide +kernel
theorem gx226_61 : aF 61 zM226.2.2.2.2.2.2.2 = some (61, (.getfield 46), 3, 12, 17) := by decide +kernel
theorem gx226_64 : aF 64 zM226.2.2.2.2.2.2.2 = some (64, (.iload 4), 2, 0, 0) := by decide +kernel
theorem gx226_66 : aF 66 zM226.2.2.2.2.2.2.2 = some (66, .iaload, 1, 0, 0) := by decide +kernel
theorem gx226_67 : aF 67 zM226.2.2.2.2.2.2.2 = some (67, (.if_icmp .lt 7), 3, 74, 0) := by decide +kernel
theorem gx85_0 : aF 0 zM85.2.2.2.2.2.2.2 = some (0, (.aload_n 0), 1, 0, 0) := by decide +kernel
theorem gx85_1 : aF 1 zM85.2.2.2.2.2.2.2 = some (1, (.getfield 101), 3, 6, 6) := by decide +kernel
theorem gx85_4 : aF 4 zM85.2.2.2.2.2.2.2 = some (4, (.sipush 200), 3, 0, 0) := by decide +kernel
theorem gx85_7 : aF 7 zM85.2.2.2.2.2.2.2 = some (7, (.if_icmp .ge 56), 3, 63, 0) := by decide +kernel
theorem gx85_63 : aF 63 zM85.2.2.2.2.2.2.2 = some (63, (.aload_n 0), 1, 0, 0) := by decide +kernel
theorem gx85_64 : aF 64 zM85.2.2.2.2.2.2.2 = some (64, (.getfield 101), 3, 6, 6) := by decide +kernel
theorem gx85_67 : aF 67 zM85.2.2.2.2.2.2.2 = some (67, .ireturn, 1, 0, 0) := by decide +kernel
theorem gx85_10 : aF 10 zM85.2.2.2.2.2.2.2 = some (10, (.aload_n 0), 1, 0, 0) := by decide +kernel
theorem gx85_11 : aF 11 zM85.2.2.2.2.2.2.2 = some (11, (.getfield 33), 3, 6, 14) := by decide +kernel
theorem gx85_14 : aF 14 zM85.2.2.2.2.2.2.2 = some (14, (.aload_n 0), 1, 0, 0) := by decide +kernel
theorem gx85_15 : aF 15 zM85.2.2.2.2.2.2.2 = some (15, (.getfield 101), 3, 6, 6) := by decide +kernel
theorem gx85_18 : aF 18 zM85.2.2.2.2.2.2.2 = some (18, (.iload_n 1), 1, 0, 0) := by decide +kernel
theorem gx85_19 : aF 19 zM85.2.2.2.2.2.2.2 = some (19, .iastore, 1, 0, 0) := by decide +kernel
theorem gx85_20 : aF 20 zM85.2.2.2.2.2.2.2 = some (20, (.aload_n 0), 1, 0, 0) := by decide +kernel
theorem gx85_21 : aF 21 zM85.2.2.2.2.2.2.2 = some (21, (.getfield 36), 3, 6, 15) := by decide +kernel
theorem gx85_24 : aF 24 zM85.2.2.2.2.2.2.2 = some (24, (.aload_n 0), 1, 0, 0) := by decide +kernel
theorem gx85_25 : aF 25 zM85.2.2.2.2.2.2.2 = some (25, (.getfield 101), 3, 6, 6) := by decide +kernel
theorem gx85_28 : aF 28 zM85.2.2.2.2.2.2.2 = some (28, (.iload_n 2), 1, 0, 0) := by decide +kernel
theorem gx85_29 : aF 29 zM85.2.2.2.2.2.2.2 = some (29, .iastore, 1, 0, 0) := by decide +kernel
theorem gx85_30 : aF 30 zM85.2.2.2.2.2.2.2 = some (30, (.aload_n 0), 1, 0, 0) := by decide +kernel
theorem gx85_31 : aF 31 zM85.2.2.2.2.2.2.2 = some (31, (.getfield 39), 3, 6, 16) := by decide +kernel
theorem gx85_34 : aF 34 zM85.2.2.2.2.2.2.2 = some (34, (.aload_n 0), 1, 0, 0) := by decide +kernel
theorem gx85_35 : aF 35 zM85.2.2.2.2.2.2.2 = some (35, (.getfield 101), 3, 6, 6) := by decide +kernel
theorem gx85_38 : aF 38 zM85.2.2.2.2.2.2.2 = some (38, (.iload_n 3), 1, 0, 0) := by decide +kernel
theorem gx85_39 : aF 39 zM85.2.2.2.2.2.2.2 = some (39, .iastore, 1, 0, 0) := by decide +kernel
theorem gx85_40 : aF 40 zM85.2.2.2.2.2.2.2 = some (40, (.aload_n 0), 1, 0, 0) := by decide +kernel
theorem gx85_41 : aF 41 zM85.2.2.2.2.2.2.2 = some (41, (.getfield 42), 3, 6, 17) := by decide +kernel
theorem gx85_44 : aF 44 zM85.2.2.2.2.2.2.2 = some (44, (.aload_n 0), 1, 0, 0) := by decide +kernel
theorem gx85_45 : aF 45 zM85.2.2.2.2.2.2.2 = some (45, (.getfield 101), 3, 6, 6) := by decide +kernel
theorem gx85_48 : aF 48 zM85.2.2.2.2.2.2.2 = some (48, (.aload_n 0), 1, 0, 0) := by decide +kernel
theorem gx85_49 : aF 49 zM85.2.2.2.2.2.2.2 = some (49, (.getfield 70), 3, 6, 0) := by decide +kernel
theorem gx85_52 : aF 52 zM85.2.2.2.2.2.2.2 = some (52, .iastore, 1, 0, 0) := by decide +kernel
theorem gx85_53 : aF 53 zM85.2.2.2.2.2.2.2 = some (53, (.aload_n 0), 1, 0, 0) := by decide +kernel
theorem gx85_54 : aF 54 zM85.2.2.2.2.2.2.2 = some (54, .dup, 1, 0, 0) := by decide +kernel
theorem gx85_55 : aF 55 zM85.2.2.2.2.2.2.2 = some (55, (.getfield 101), 3, 6, 6) := by decide +kernel
theorem gx85_58 : aF 58 zM85.2.2.2.2.2.2.2 = some (58, (.iconst 1), 1, 0, 0) := by decide +kernel
theorem gx85_59 : aF 59 zM85.2.2.2.2.2.2.2 = some (59, .iadd, 1, 0, 0) := by decide +kernel
theorem gx85_60 : aF 60 zM85.2.2.2.2.2.2.2 = some (60, (.putfield 101), 3, 6, 6) := by decide +kernel
theorem gx28_0 : aF 0 zM28.2.2.2.2.2.2.2 = some (0, (.aload_n 0), 1, 0, 0) := by decide +kernel
theorem gx28_1 : aF 1 zM28.2.2.2.2.2.2.2 = some (1, (.getfield 9), 3, 2, 4) := by decide +kernel
theorem gx28_4 : aF 4 zM28.2.2.2.2.2.2.2 = some (4, (.iload_n 1), 1, 0, 0) := by decide +kernel
theorem gx28_5 : aF 5 zM28.2.2.2.2.2.2.2 = some (5, .iaload, 1, 0, 0) := by decide +kernel
theorem gx28_6 : aF 6 zM28.2.2.2.2.2.2.2 = some (6, (.iload_n 2), 1, 0, 0) := by decide +kernel
theorem gx28_7 : aF 7 zM28.2.2.2.2.2.2.2 = some (7, (.if_icmp .gt 23), 3, 30, 0) := by decide +kernel
theorem gx28_30 : aF 30 zM28.2.2.2.2.2.2.2 = some (30, (.iconst 1), 1, 0, 0) := by decide +kernel
theorem gx28_31 : aF 31 zM28.2.2.2.2.2.2.2 = some (31, (.goto 4), 3, 35, 0) := by decide +kernel
theorem gx28_35 : aF 35 zM28.2.2.2.2.2.2.2 = some (35, .ireturn, 1, 0, 0) := by decide +kernel
theorem gx28_10 : aF 10 zM28.2.2.2.2.2.2.2 = some (10, (.aload_n 0), 1, 0, 0) := by decide +kernel
theorem gx28_11 : aF 11 zM28.2.2.2.2.2.2.2 = some (11, (.getfield 9), 3, 2, 4) := by decide +kernel
theorem gx28_14 : aF 14 zM28.2.2.2.2.2.2.2 = some (14, (.iload_n 1), 1, 0, 0) := by decide +kernel
theorem gx28_15 : aF 15 zM28.2.2.2.2.2.2.2 = some (15, .iaload, 1, 0, 0) := by decide +kernel
theorem gx28_16 : aF 16 zM28.2.2.2.2.2.2.2 = some (16, (.iload_n 2), 1, 0, 0) := by decide +kernel
theorem gx28_17 : aF 17 zM28.2.2.2.2.2.2.2 = some (17, (.if_icmp .ne 17), 3, 34, 0) := by decide +kernel
theorem gx28_34 : aF 34 zM28.2.2.2.2.2.2.2 = some (34, (.iconst 0), 1, 0, 0) := by decide +kernel
theorem gx28_20 : aF 20 zM28.2.2.2.2.2.2.2 = some (20, (.aload_n 0), 1, 0, 0) := by decide +kernel
theorem gx28_21 : aF 21 zM28.2.2.2.2.2.2.2 = some (21, (.getfield 15), 3, 2, 5) := by decide +kernel
theorem gx28_24 : aF 24 zM28.2.2.2.2.2.2.2 = some (24, (.iload_n 1), 1, 0, 0) := by decide +kernel
theorem gx28_25 : aF 25 zM28.2.2.2.2.2.2.2 = some (25, .iaload, 1, 0, 0) := by decide +kernel
theorem gx28_26 : aF 26 zM28.2.2.2.2.2.2.2 = some (26, (.iload_n 3), 1, 0, 0) := by decide +kernel
theorem gx28_27 : aF 27 zM28.2.2.2.2.2.2.2 = some (27, (.if_icmp .le 7), 3, 34, 0) := by decide +kernel
theorem gx27_0 : aF 0 zM27.2.2.2.2.2.2.2 = some (0, (.aload_n 0), 1, 0, 0) := by decide +kernel
theorem gx27_1 : aF 1 zM27.2.2.2.2.2.2.2 = some (1, (.getfield 64), 3, 2, 1) := by decide +kernel
theorem gx27_4 : aF 4 zM27.2.2.2.2.2.2.2 = some (4, (.sipush 300), 3, 0, 0) := by decide +kernel
theorem gx27_7 : aF 7 zM27.2.2.2.2.2.2.2 = some (7, (.if_icmp .ge 121), 3, 128, 0) := by decide +kernel
theorem gx27_128 : aF 128 zM27.2.2.2.2.2.2.2 = some (128, (.aload_n 0), 1, 0, 0) := by decide +kernel
theorem gx27_129 : aF 129 zM27.2.2.2.2.2.2.2 = some (129, (.getfield 64), 3, 2, 1) := by decide +kernel
theorem gx27_132 : aF 132 zM27.2.2.2.2.2.2.2 = some (132, .ireturn, 1, 0, 0) := by decide +kernel
theorem gx27_10 : aF 10 zM27.2.2.2.2.2.2.2 = some (10, (.aload_n 0), 1, 0, 0) := by decide +kernel
theorem gx27_11 : aF 11 zM27.2.2.2.2.2.2.2 = some (11, (.getfield 9), 3, 2, 4) := by decide +kernel
theorem gx27_14 : aF 14 zM27.2.2.2.2.2.2.2 = some (14, (.aload_n 0), 1, 0, 0) := by decide +kernel
theorem gx27_15 : aF 15 zM27.2.2.2.2.2.2.2 = some (15, (.getfield 64), 3, 2, 1) := by decide +kernel
theorem gx27_18 : aF 18 zM27.2.2.2.2.2.2.2 = some (18, (.iload_n 1), 1, 0, 0) := by decide +kernel
theorem gx27_19 : aF 19 zM27.2.2.2.2.2.2.2 = some (19, .iastore, 1, 0, 0) := by decide +kernel
theorem gx27_20 : aF 20 zM27.2.2.2.2.2.2.2 = some (20, (.aload_n 0), 1, 0, 0) := by decide +kernel
theorem gx27_21 : aF 21 zM27.2.2.2.2.2.2.2 = some (21, (.getfield 15), 3, 2, 5) := by decide +kernel
theorem gx27_24 : aF 24 zM27.2.2.2.2.2.2.2 = some (24, (.aload_n 0), 1, 0, 0) := by decide +kernel
theorem gx27_25 : aF 25 zM27.2.2.2.2.2.2.2 = some (25, (.getfield 64), 3, 2, 1) := by decide +kernel
theorem gx27_28 : aF 28 zM27.2.2.2.2.2.2.2 = some (28, (.iload_n 2), 1, 0, 0) := by decide +kernel
theorem gx27_29 : aF 29 zM27.2.2.2.2.2.2.2 = some (29, .iastore, 1, 0, 0) := by decide +kernel
theorem gx27_30 : aF 30 zM27.2.2.2.2.2.2.2 = some (30, (.aload_n 0), 1, 0, 0) := by decide +kernel
theorem gx27_31 : aF 31 zM27.2.2.2.2.2.2.2 = some (31, (.getfield 18), 3, 2, 6) := by decide +kernel
theorem gx27_34 : aF 34 zM27.2.2.2.2.2.2.2 = some (34, (.aload_n 0), 1, 0, 0) := by decide +kernel
theorem gx27_35 : aF 35 zM27.2.2.2.2.2.2.2 = some (35, (.getfield 64), 3, 2, 1) := by decide +kernel
theorem gx27_38 : aF 38 zM27.2.2.2.2.2.2.2 = some (38, (.iload_n 3), 1, 0, 0) := by decide +kernel
theorem gx27_39 : aF 39 zM27.2.2.2.2.2.2.2 = some (39, .iastore, 1, 0, 0) := by decide +kernel
theorem gx27_40 : aF 40 zM27.2.2.2.2.2.2.2 = some (40, (.aload_n 0), 1, 0, 0) := by decide +kernel
theorem gx27_41 : aF 41 zM27.2.2.2.2.2.2.2 = some (41, (.getfield 21), 3, 2, 7) := by decide +kernel
theorem gx27_44 : aF 44 zM27.2.2.2.2.2.2.2 = some (44, (.aload_n 0), 1, 0, 0) := by decide +kernel
theorem gx27_45 : aF 45 zM27.2.2.2.2.2.2.2 = some (45, (.getfield 64), 3, 2, 1) := by decide +kernel
theorem gx27_48 : aF 48 zM27.2.2.2.2.2.2.2 = some (48, (.aload_n 0), 1, 0, 0) := by decide +kernel
theorem gx27_49 : aF 49 zM27.2.2.2.2.2.2.2 = some (49, (.getfield 60), 3, 2, 0) := by decide +kernel
theorem gx27_52 : aF 52 zM27.2.2.2.2.2.2.2 = some (52, (.getfield 68), 3, 6, 0) := by decide +kernel
theorem gx27_55 : aF 55 zM27.2.2.2.2.2.2.2 = some (55, .iastore, 1, 0, 0) := by decide +kernel
theorem gx27_56 : aF 56 zM27.2.2.2.2.2.2.2 = some (56, (.aload_n 0), 1, 0, 0) := by decide +kernel
theorem gx27_57 : aF 57 zM27.2.2.2.2.2.2.2 = some (57, (.getfield 64), 3, 2, 1) := by decide +kernel
theorem gx27_60 : aF 60 zM27.2.2.2.2.2.2.2 = some (60, (.istore 4), 2, 0, 0) := by decide +kernel
theorem gx27_62 : aF 62 zM27.2.2.2.2.2.2.2 = some (62, (.iload 4), 2, 0, 0) := by decide +kernel
theorem gx27_64 : aF 64 zM27.2.2.2.2.2.2.2 = some (64, (.ifCond .le 43), 3, 107, 0) := by decide +kernel
theorem gx27_107 : aF 107 zM27.2.2.2.2.2.2.2 = some (107, (.aload_n 0), 1, 0, 0) := by decide +kernel
theorem gx27_108 : aF 108 zM27.2.2.2.2.2.2.2 = some (108, (.getfield 24), 3, 2, 8) := by decide +kernel
theorem gx27_111 : aF 111 zM27.2.2.2.2.2.2.2 = some (111, (.iload 4), 2, 0, 0) := by decide +kernel
theorem gx27_113 : aF 113 zM27.2.2.2.2.2.2.2 = some (113, (.aload_n 0), 1, 0, 0) := by decide +kernel
theorem gx27_114 : aF 114 zM27.2.2.2.2.2.2.2 = some (114, (.getfield 64), 3, 2, 1) := by decide +kernel
theorem gx27_117 : aF 117 zM27.2.2.2.2.2.2.2 = some (117, .iastore, 1, 0, 0) := by decide +kernel
theorem gx27_118 : aF 118 zM27.2.2.2.2.2.2.2 = some (118, (.aload_n 0), 1, 0, 0) := by decide +kernel
theorem gx27_119 : aF 119 zM27.2.2.2.2.2.2.2 = some (119, .dup, 1, 0, 0) := by decide +kernel
theorem gx27_120 : aF 120 zM27.2.2.2.2.2.2.2 = some (120, (.getfield 64), 3, 2, 1) := by decide +kernel
theorem gx27_123 : aF 123 zM27.2.2.2.2.2.2.2 = some (123, (.iconst 1), 1, 0, 0) := by decide +kernel
theorem gx27_124 : aF 124 zM27.2.2.2.2.2.2.2 = some (124, .iadd, 1, 0, 0) := by decide +kernel
theorem gx27_125 : aF 125 zM27.2.2.2.2.2.2.2 = some (125, (.putfield 64), 3, 2, 1) := by decide +kernel
theorem gx27_67 : aF 67 zM27.2.2.2.2.2.2.2 = some (67, (.aload_n 0), 1, 0, 0) := by decide +kernel
theorem gx27_68 : aF 68 zM27.2.2.2.2.2.2.2 = some (68, (.aload_n 0), 1, 0, 0) := by decide +kernel
theorem gx27_69 : aF 69 zM27.2.2.2.2.2.2.2 = some (69, (.getfield 24), 3, 2, 8) := by decide +kernel
theorem gx27_72 : aF 72 zM27.2.2.2.2.2.2.2 = some (72, (.iload 4), 2, 0, 0) := by decide +kernel
theorem gx27_74 : aF 74 zM27.2.2.2.2.2.2.2 = some (74, (.iconst 1), 1, 0, 0) := by decide +kernel
theorem gx27_75 : aF 75 zM27.2.2.2.2.2.2.2 = some (75, .isub, 1, 0, 0) := by decide +kernel
theorem gx27_76 : aF 76 zM27.2.2.2.2.2.2.2 = some (76, .iaload, 1, 0, 0) := by decide +kernel
theorem gx27_77 : aF 77 zM27.2.2.2.2.2.2.2 = some (77, (.iload_n 1), 1, 0, 0) := by decide +kernel
theorem gx27_78 : aF 78 zM27.2.2.2.2.2.2.2 = some (78, (.iload_n 2), 1, 0, 0) := by decide +kernel
theorem gx27_79 : aF 79 zM27.2.2.2.2.2.2.2 = some (79, (.invokevirtual 73), 3, 28, 0) := by decide +kernel
theorem gx27_82 : aF 82 zM27.2.2.2.2.2.2.2 = some (82, (.ifCond .eq 25), 3, 107, 0) := by decide +kernel
theorem gx27_85 : aF 85 zM27.2.2.2.2.2.2.2 = some (85, (.aload_n 0), 1, 0, 0) := by decide +kernel
theorem gx27_86 : aF 86 zM27.2.2.2.2.2.2.2 = some (86, (.getfield 24), 3, 2, 8) := by decide +kernel
theorem gx27_89 : aF 89 zM27.2.2.2.2.2.2.2 = some (89, (.iload 4), 2, 0, 0) := by decide +kernel
theorem gx27_91 : aF 91 zM27.2.2.2.2.2.2.2 = some (91, (.aload_n 0), 1, 0, 0) := by decide +kernel
theorem gx27_92 : aF 92 zM27.2.2.2.2.2.2.2 = some (92, (.getfield 24), 3, 2, 8) := by decide +kernel
theorem gx27_95 : aF 95 zM27.2.2.2.2.2.2.2 = some (95, (.iload 4), 2, 0, 0) := by decide +kernel
theorem gx27_97 : aF 97 zM27.2.2.2.2.2.2.2 = some (97, (.iconst 1), 1, 0, 0) := by decide +kernel
theorem gx27_98 : aF 98 zM27.2.2.2.2.2.2.2 = some (98, .isub, 1, 0, 0) := by decide +kernel
theorem gx27_99 : aF 99 zM27.2.2.2.2.2.2.2 = some (99, .iaload, 1, 0, 0) := by decide +kernel
theorem gx27_100 : aF 100 zM27.2.2.2.2.2.2.2 = some (100, .iastore, 1, 0, 0) := by decide +kernel
theorem gx27_101 : aF 101 zM27.2.2.2.2.2.2.2 = some (101, (.iinc 4 (-1)), 3, 0, 0) := by decide +kernel
theorem gx27_104 : aF 104 zM27.2.2.2.2.2.2.2 = some (104, (.goto (-42)), 3, 62, 0) := by decide +kernel
theorem gx154_0 : aF 0 zM154.2.2.2.2.2.2.2 = some (0, (.aload_n 0), 1, 0, 0) := by decide +kernel
theorem gx154_1 : aF 1 zM154.2.2.2.2.2.2.2 = some (1, (.getfield 12), 3, 11, 0) := by decide +kernel
theorem gx154_4 : aF 4 zM154.2.2.2.2.2.2.2 = some (4, (.iload_n 1), 1, 0, 0) := by decide +kernel
theorem gx154_5 : aF 5 zM154.2.2.2.2.2.2.2 = some (5, (.invokevirtual 136), 3, 77, 0) := by decide +kernel
theorem gx154_8 : aF 8 zM154.2.2.2.2.2.2.2 = some (8, (.ifCond .ne 5), 3, 13, 0) := by decide +kernel
theorem gx154_13 : aF 13 zM154.2.2.2.2.2.2.2 = some (13, (.aload_n 0), 1, 0, 0) := by decide +kernel
theorem gx154_14 : aF 14 zM154.2.2.2.2.2.2.2 = some (14, (.getfield 12), 3, 11, 0) := by decide +kernel
theorem gx154_17 : aF 17 zM154.2.2.2.2.2.2.2 = some (17, (.getfield 149), 3, 6, 10) := by decide +kernel
theorem gx154_20 : aF 20 zM154.2.2.2.2.2.2.2 = some (20, (.iload_n 1), 1, 0, 0) := by decide +kernel
theorem gx154_21 : aF 21 zM154.2.2.2.2.2.2.2 = some (21, .iaload, 1, 0, 0) := by decide +kernel
theorem gx154_22 : aF 22 zM154.2.2.2.2.2.2.2 = some (22, (.iconst (-1)), 1, 0, 0) := by decide +kernel
theorem gx154_23 : aF 23 zM154.2.2.2.2.2.2.2 = some (23, (.if_icmp .eq 6), 3, 29, 0) := by decide +kernel
theorem gx154_29 : aF 29 zM154.2.2.2.2.2.2.2 = some (29, (.aload_n 0), 1, 0, 0) := by decide +kernel
theorem gx154_30 : aF 30 zM154.2.2.2.2.2.2.2 = some (30, (.getfield 12), 3, 11, 0) := by decide +kernel
theorem gx154_33 : aF 33 zM154.2.2.2.2.2.2.2 = some (33, (.getfield 149), 3, 6, 10) := by decide +kernel
theorem gx154_36 : aF 36 zM154.2.2.2.2.2.2.2 = some (36, (.iload_n 1), 1, 0, 0) := by decide +kernel
theorem gx154_37 : aF 37 zM154.2.2.2.2.2.2.2 = some (37, (.aload_n 0), 1, 0, 0) := by decide +kernel
theorem gx154_38 : aF 38 zM154.2.2.2.2.2.2.2 = some (38, (.getfield 12), 3, 11, 0) := by decide +kernel
theorem gx154_41 : aF 41 zM154.2.2.2.2.2.2.2 = some (41, (.getfield 93), 3, 6, 0) := by decide +kernel
theorem gx154_44 : aF 44 zM154.2.2.2.2.2.2.2 = some (44, .iastore, 1, 0, 0) := by decide +kernel
theorem gx154_45 : aF 45 zM154.2.2.2.2.2.2.2 = some (45, (.aload_n 0), 1, 0, 0) := by decide +kernel
theorem gx154_46 : aF 46 zM154.2.2.2.2.2.2.2 = some (46, (.getfield 12), 3, 11, 0) := by decide +kernel
theorem gx154_49 : aF 49 zM154.2.2.2.2.2.2.2 = some (49, .dup, 1, 0, 0) := by decide +kernel
theorem gx154_50 : aF 50 zM154.2.2.2.2.2.2.2 = some (50, (.getfield 158), 3, 6, 5) := by decide +kernel
theorem gx154_53 : aF 53 zM154.2.2.2.2.2.2.2 = some (53, (.iconst 1), 1, 0, 0) := by decide +kernel
theorem gx154_54 : aF 54 zM154.2.2.2.2.2.2.2 = some (54, .iadd, 1, 0, 0) := by decide +kernel
theorem gx154_55 : aF 55 zM154.2.2.2.2.2.2.2 = some (55, (.putfield 158), 3, 6, 5) := by decide +kernel
theorem gx154_58 : aF 58 zM154.2.2.2.2.2.2.2 = some (58, (.iconst 1), 1, 0, 0) := by decide +kernel
theorem gx154_59 : aF 59 zM154.2.2.2.2.2.2.2 = some (59, .ireturn, 1, 0, 0) := by decide +kernel
theorem gx154_26 : aF 26 zM154.2.2.2.2.2.2.2 = some (26, (.bipush (-2)), 2, 0, 0) := by decide +kernel
theorem gx154_28 : aF 28 zM154.2.2.2.2.2.2.2 = some (28, .ireturn, 1, 0, 0) := by decide +kernel
theorem gx154_11 : aF 11 zM154.2.2.2.2.2.2.2 = some (11, (.iconst (-1)), 1, 0, 0) := by decide +kernel
theorem gx154_12 : aF 12 zM154.2.2.2.2.2.2.2 = some (12, .ireturn, 1, 0, 0) := by decide +kernel
theorem gx224_0 : aF 0 zM224.2.2.2.2.2.2.2 = some (0, (.aload_n 0), 1, 0, 0) := by decide +kernel
theorem gx224_1 : aF 1 zM224.2.2.2.2.2.2.2 = some (1, (.iload_n 1), 1, 0, 0) := by decide +kernel
theorem gx224_2 : aF 2 zM224.2.2.2.2.2.2.2 = some (2, (.invokevirtual 322), 3, 203, 0) := by decide +kernel
theorem gx224_5 : aF 5 zM224.2.2.2.2.2.2.2 = some (5, (.ifCond .ne 5), 3, 10, 0) := by decide +kernel
theorem gx224_10 : aF 10 zM224.2.2.2.2.2.2.2 = some (10, (.aload_n 0), 1, 0, 0) := by decide +kernel
theorem gx224_11 : aF 11 zM224.2.2.2.2.2.2.2 = some (11, (.getfield 22), 3, 12, 7) := by decide +kernel
theorem gx224_14 : aF 14 zM224.2.2.2.2.2.2.2 = some (14, (.iload_n 1), 1, 0, 0) := by decide +kernel
theorem gx224_15 : aF 15 zM224.2.2.2.2.2.2.2 = some (15, .iaload, 1, 0, 0) := by decide +kernel
theorem gx224_16 : aF 16 zM224.2.2.2.2.2.2.2 = some (16, (.ifCond .lt 6), 3, 22, 0) := by decide +kernel
theorem gx224_22 : aF 22 zM224.2.2.2.2.2.2.2 = some (22, (.aload_n 0), 1, 0, 0) := by decide +kernel
theorem gx224_23 : aF 23 zM224.2.2.2.2.2.2.2 = some (23, (.getfield 22), 3, 12, 7) := by decide +kernel
theorem gx224_26 : aF 26 zM224.2.2.2.2.2.2.2 = some (26, (.iload_n 1), 1, 0, 0) := by decide +kernel
theorem gx224_27 : aF 27 zM224.2.2.2.2.2.2.2 = some (27, (.aload_n 0), 1, 0, 0) := by decide +kernel
theorem gx224_28 : aF 28 zM224.2.2.2.2.2.2.2 = some (28, (.getfield 262), 3, 12, 1) := by decide +kernel
theorem gx224_31 : aF 31 zM224.2.2.2.2.2.2.2 = some (31, .iastore, 1, 0, 0) := by decide +kernel
theorem gx224_32 : aF 32 zM224.2.2.2.2.2.2.2 = some (32, (.aload_n 0), 1, 0, 0) := by decide +kernel
theorem gx224_33 : aF 33 zM224.2.2.2.2.2.2.2 = some (33, (.iconst 1), 1, 0, 0) := by decide +kernel
theorem gx224_34 : aF 34 zM224.2.2.2.2.2.2.2 = some (34, (.putfield 100), 3, 12, 38) := by decide +kernel
theorem gx224_37 : aF 37 zM224.2.2.2.2.2.2.2 = some (37, (.iconst 1), 1, 0, 0) := by decide +kernel
theorem gx224_38 : aF 38 zM224.2.2.2.2.2.2.2 = some (38, .ireturn, 1, 0, 0) := by decide +kernel
theorem gx224_19 : aF 19 zM224.2.2.2.2.2.2.2 = some (19, (.bipush (-2)), 2, 0, 0) := by decide +kernel
theorem gx224_21 : aF 21 zM224.2.2.2.2.2.2.2 = some (21, .ireturn, 1, 0, 0) := by decide +kernel
theorem gx224_8 : aF 8 zM224.2.2.2.2.2.2.2 = some (8, (.iconst (-1)), 1, 0, 0) := by decide +kernel
theorem gx224_9 : aF 9 zM224.2.2.2.2.2.2.2 = some (9, .ireturn, 1, 0, 0) := by decide +kernel
theorem gx155_0 : aF 0 zM155.2.2.2.2.2.2.2 = some (0, (.aload_n 0), 1, 0, 0) := by decide +kernel
theorem gx155_1 : aF 1 zM155.2.2.2.2.2.2.2 = some (1, (.getfield 12), 3, 11, 0) := by decide +kernel
theorem gx155_4 : aF 4 zM155.2.2.2.2.2.2.2 = some (4, (.iload_n 1), 1, 0, 0) := by decide +kernel
theorem gx155_5 : aF 5 zM155.2.2.2.2.2.2.2 = some (5, (.invokevirtual 161), 3, 78, 0) := by decide +kernel
theorem gx155_8 : aF 8 zM155.2.2.2.2.2.2.2 = some (8, (.ifCond .eq 21), 3, 29, 0) := by decide +kernel
theorem gx155_29 : aF 29 zM155.2.2.2.2.2.2.2 = some (29, (.iconst (-1)), 1, 0, 0) := by decide +kernel
theorem gx155_30 : aF 30 zM155.2.2.2.2.2.2.2 = some (30, .ireturn, 1, 0, 0) := by decide +kernel
theorem gx155_11 : aF 11 zM155.2.2.2.2.2.2.2 = some (11, (.aload_n 0), 1, 0, 0) := by decide +kernel
theorem gx155_12 : aF 12 zM155.2.2.2.2.2.2.2 = some (12, (.getfield 12), 3, 11, 0) := by decide +kernel
theorem gx155_15 : aF 15 zM155.2.2.2.2.2.2.2 = some (15, (.iload_n 2), 1, 0, 0) := by decide +kernel
theorem gx155_16 : aF 16 zM155.2.2.2.2.2.2.2 = some (16, (.invokevirtual 121), 3, 75, 0) := by decide +kernel
theorem gx155_19 : aF 19 zM155.2.2.2.2.2.2.2 = some (19, (.ifCond .eq 10), 3, 29, 0) := by decide +kernel
theorem gx155_22 : aF 22 zM155.2.2.2.2.2.2.2 = some (22, (.iload_n 3), 1, 0, 0) := by decide +kernel
theorem gx155_23 : aF 23 zM155.2.2.2.2.2.2.2 = some (23, (.invokestatic 164), 3, 138, 0) := by decide +kernel
theorem gx155_26 : aF 26 zM155.2.2.2.2.2.2.2 = some (26, (.ifCond .ne 5), 3, 31, 0) := by decide +kernel
theorem gx155_31 : aF 31 zM155.2.2.2.2.2.2.2 = some (31, (.aload_n 0), 1, 0, 0) := by decide +kernel
theorem gx155_32 : aF 32 zM155.2.2.2.2.2.2.2 = some (32, (.getfield 12), 3, 11, 0) := by decide +kernel
theorem gx155_35 : aF 35 zM155.2.2.2.2.2.2.2 = some (35, (.getfield 167), 3, 6, 6) := by decide +kernel
theorem gx155_38 : aF 38 zM155.2.2.2.2.2.2.2 = some (38, (.sipush 200), 3, 0, 0) := by decide +kernel
theorem gx155_41 : aF 41 zM155.2.2.2.2.2.2.2 = some (41, (.if_icmp .lt 8), 3, 49, 0) := by decide +kernel
theorem gx155_49 : aF 49 zM155.2.2.2.2.2.2.2 = some (49, (.aload_n 0), 1, 0, 0) := by decide +kernel
theorem gx155_50 : aF 50 zM155.2.2.2.2.2.2.2 = some (50, (.getfield 12), 3, 11, 0) := by decide +kernel
theorem gx155_53 : aF 53 zM155.2.2.2.2.2.2.2 = some (53, (.iload_n 1), 1, 0, 0) := by decide +kernel
theorem gx155_54 : aF 54 zM155.2.2.2.2.2.2.2 = some (54, (.iload_n 2), 1, 0, 0) := by decide +kernel
theorem gx155_55 : aF 55 zM155.2.2.2.2.2.2.2 = some (55, (.iload_n 3), 1, 0, 0) := by decide +kernel
theorem gx155_56 : aF 56 zM155.2.2.2.2.2.2.2 = some (56, (.invokevirtual 170), 3, 85, 0) := by decide +kernel
theorem gx155_59 : aF 59 zM155.2.2.2.2.2.2.2 = some (59, .ireturn, 1, 0, 0) := by decide +kernel
theorem gx155_44 : aF 44 zM155.2.2.2.2.2.2.2 = some (44, (.bipush (-3)), 2, 0, 0) := by decide +kernel
theorem gx155_46 : aF 46 zM155.2.2.2.2.2.2.2 = some (46, (.goto 13), 3, 59, 0) := by decide +kernel
theorem gx225_0 : aF 0 zM225.2.2.2.2.2.2.2 = some (0, (.aload_n 0), 1, 0, 0) := by decide +kernel
theorem gx225_1 : aF 1 zM225.2.2.2.2.2.2.2 = some (1, (.iload_n 1), 1, 0, 0) := by decide +kernel
theorem gx225_2 : aF 2 zM225.2.2.2.2.2.2.2 = some (2, (.invokevirtual 268), 3, 200, 0) := by decide +kernel
theorem gx225_5 : aF 5 zM225.2.2.2.2.2.2.2 = some (5, (.ifCond .eq 37), 3, 42, 0) := by decide +kernel
theorem gx225_42 : aF 42 zM225.2.2.2.2.2.2.2 = some (42, (.iconst (-1)), 1, 0, 0) := by decide +kernel
theorem gx225_43 : aF 43 zM225.2.2.2.2.2.2.2 = some (43, .ireturn, 1, 0, 0) := by decide +kernel
theorem gx225_8 : aF 8 zM225.2.2.2.2.2.2.2 = some (8, (.aload_n 0), 1, 0, 0) := by decide +kernel
theorem gx225_9 : aF 9 zM225.2.2.2.2.2.2.2 = some (9, (.iload_n 1), 1, 0, 0) := by decide +kernel
theorem gx225_10 : aF 10 zM225.2.2.2.2.2.2.2 = some (10, (.invokevirtual 322), 3, 203, 0) := by decide +kernel
theorem gx225_13 : aF 13 zM225.2.2.2.2.2.2.2 = some (13, (.ifCond .ne 14), 3, 27, 0) := by decide +kernel
theorem gx225_27 : aF 27 zM225.2.2.2.2.2.2.2 = some (27, (.aload_n 0), 1, 0, 0) := by decide +kernel
theorem gx225_28 : aF 28 zM225.2.2.2.2.2.2.2 = some (28, (.iload_n 2), 1, 0, 0) := by decide +kernel
theorem gx225_29 : aF 29 zM225.2.2.2.2.2.2.2 = some (29, (.invokevirtual 316), 3, 202, 0) := by decide +kernel
theorem gx225_32 : aF 32 zM225.2.2.2.2.2.2.2 = some (32, (.ifCond .eq 10), 3, 42, 0) := by decide +kernel
theorem gx225_35 : aF 35 zM225.2.2.2.2.2.2.2 = some (35, (.iload_n 3), 1, 0, 0) := by decide +kernel
theorem gx225_36 : aF 36 zM225.2.2.2.2.2.2.2 = some (36, (.invokestatic 325), 3, 197, 0) := by decide +kernel
theorem gx225_39 : aF 39 zM225.2.2.2.2.2.2.2 = some (39, (.ifCond .ne 5), 3, 44, 0) := by decide +kernel
theorem gx225_44 : aF 44 zM225.2.2.2.2.2.2.2 = some (44, (.aload_n 0), 1, 0, 0) := by decide +kernel
theorem gx225_45 : aF 45 zM225.2.2.2.2.2.2.2 = some (45, (.getfield 328), 3, 12, 14) := by decide +kernel
theorem gx225_48 : aF 48 zM225.2.2.2.2.2.2.2 = some (48, (.sipush 200), 3, 0, 0) := by decide +kernel
theorem gx225_51 : aF 51 zM225.2.2.2.2.2.2.2 = some (51, (.if_icmp .ne 6), 3, 57, 0) := by decide +kernel
theorem gx225_57 : aF 57 zM225.2.2.2.2.2.2.2 = some (57, (.aload_n 0), 1, 0, 0) := by decide +kernel
theorem gx225_58 : aF 58 zM225.2.2.2.2.2.2.2 = some (58, (.getfield 40), 3, 12, 15) := by decide +kernel
theorem gx225_61 : aF 61 zM225.2.2.2.2.2.2.2 = some (61, (.aload_n 0), 1, 0, 0) := by decide +kernel
theorem gx225_62 : aF 62 zM225.2.2.2.2.2.2.2 = some (62, (.getfield 328), 3, 12, 14) := by decide +kernel
theorem gx225_65 : aF 65 zM225.2.2.2.2.2.2.2 = some (65, (.iload_n 1), 1, 0, 0) := by decide +kernel
theorem gx225_66 : aF 66 zM225.2.2.2.2.2.2.2 = some (66, .iastore, 1, 0, 0) := by decide +kernel
theorem gx225_67 : aF 67 zM225.2.2.2.2.2.2.2 = some (67, (.aload_n 0), 1, 0, 0) := by decide +kernel
theorem gx225_68 : aF 68 zM225.2.2.2.2.2.2.2 = some (68, (.getfield 43), 3, 12, 16) := by decide +kernel
theorem gx225_71 : aF 71 zM225.2.2.2.2.2.2.2 = some (71, (.aload_n 0), 1, 0, 0) := by decide +kernel
theorem gx225_72 : aF 72 zM225.2.2.2.2.2.2.2 = some (72, (.getfield 328), 3, 12, 14) := by decide +kernel
theorem gx225_75 : aF 75 zM225.2.2.2.2.2.2.2 = some (75, (.iload_n 2), 1, 0, 0) := by decide +kernel
theorem gx225_76 : aF 76 zM225.2.2.2.2.2.2.2 = some (76, .iastore, 1, 0, 0) := by decide +kernel
theorem gx225_77 : aF 77 zM225.2.2.2.2.2.2.2 = some (77, (.aload_n 0), 1, 0, 0) := by decide +kernel
theorem gx225_78 : aF 78 zM225.2.2.2.2.2.2.2 = some (78, (.getfield 46), 3, 12, 17) := by decide +kernel
theorem gx225_81 : aF 81 zM225.2.2.2.2.2.2.2 = some (81, (.aload_n 0), 1, 0, 0) := by decide +kernel
theorem gx225_82 : aF 82 zM225.2.2.2.2.2.2.2 = some (82, (.getfield 328), 3, 12, 14) := by decide +kernel
theorem gx225_85 : aF 85 zM225.2.2.2.2.2.2.2 = some (85, (.iload_n 3), 1, 0, 0) := by decide +kernel
theorem gx225_86 : aF 86 zM225.2.2.2.2.2.2.2 = some (86, .iastore, 1, 0, 0) := by decide +kernel
theorem gx225_87 : aF 87 zM225.2.2.2.2.2.2.2 = some (87, (.aload_n 0), 1, 0, 0) := by decide +kernel
theorem gx225_88 : aF 88 zM225.2.2.2.2.2.2.2 = some (88, (.getfield 49), 3, 12, 18) := by decide +kernel
theorem gx225_91 : aF 91 zM225.2.2.2.2.2.2.2 = some (91, (.aload_n 0), 1, 0, 0) := by decide +kernel
theorem gx225_92 : aF 92 zM225.2.2.2.2.2.2.2 = some (92, (.getfield 328), 3, 12, 14) := by decide +kernel
theorem gx225_95 : aF 95 zM225.2.2.2.2.2.2.2 = some (95, (.aload_n 0), 1, 0, 0) := by decide +kernel
theorem gx225_96 : aF 96 zM225.2.2.2.2.2.2.2 = some (96, (.getfield 262), 3, 12, 1) := by decide +kernel
theorem gx225_99 : aF 99 zM225.2.2.2.2.2.2.2 = some (99, .iastore, 1, 0, 0) := by decide +kernel
theorem gx225_100 : aF 100 zM225.2.2.2.2.2.2.2 = some (100, (.aload_n 0), 1, 0, 0) := by decide +kernel
theorem gx225_101 : aF 101 zM225.2.2.2.2.2.2.2 = some (101, .dup, 1, 0, 0) := by decide +kernel
theorem gx225_102 : aF 102 zM225.2.2.2.2.2.2.2 = some (102, (.getfield 328), 3, 12, 14) := by decide +kernel
theorem gx225_105 : aF 105 zM225.2.2.2.2.2.2.2 = some (105, (.iconst 1), 1, 0, 0) := by decide +kernel
theorem gx225_106 : aF 106 zM225.2.2.2.2.2.2.2 = some (106, .iadd, 1, 0, 0) := by decide +kernel
theorem gx225_107 : aF 107 zM225.2.2.2.2.2.2.2 = some (107, (.putfield 328), 3, 12, 14) := by decide +kernel
theorem gx225_110 : aF 110 zM225.2.2.2.2.2.2.2 = some (110, (.aload_n 0), 1, 0, 0) := by decide +kernel
theorem gx225_111 : aF 111 zM225.2.2.2.2.2.2.2 = some (111, (.getfield 328), 3, 12, 14) := by decide +kernel
theorem gx225_114 : aF 114 zM225.2.2.2.2.2.2.2 = some (114, .ireturn, 1, 0, 0) := by decide +kernel
theorem gx225_54 : aF 54 zM225.2.2.2.2.2.2.2 = some (54, (.bipush (-3)), 2, 0, 0) := by decide +kernel
theorem gx225_56 : aF 56 zM225.2.2.2.2.2.2.2 = some (56, .ireturn, 1, 0, 0) := by decide +kernel
theorem gx225_16 : aF 16 zM225.2.2.2.2.2.2.2 = some (16, (.aload_n 0), 1, 0, 0) := by decide +kernel
theorem gx225_17 : aF 17 zM225.2.2.2.2.2.2.2 = some (17, (.getfield 7), 3, 12, 3) := by decide +kernel
theorem gx225_20 : aF 20 zM225.2.2.2.2.2.2.2 = some (20, (.iload_n 1), 1, 0, 0) := by decide +kernel
theorem gx225_21 : aF 21 zM225.2.2.2.2.2.2.2 = some (21, .iaload, 1, 0, 0) := by decide +kernel
theorem gx225_22 : aF 22 zM225.2.2.2.2.2.2.2 = some (22, (.bipush 6), 2, 0, 0) := by decide +kernel
theorem gx225_24 : aF 24 zM225.2.2.2.2.2.2.2 = some (24, (.if_icmp .ne 18), 3, 42, 0) := by decide +kernel
theorem gx157_0 : aF 0 zM157.2.2.2.2.2.2.2 = some (0, (.aload_n 0), 1, 0, 0) := by decide +kernel
theorem gx157_1 : aF 1 zM157.2.2.2.2.2.2.2 = some (1, (.getfield 12), 3, 11, 0) := by decide +kernel
theorem gx157_4 : aF 4 zM157.2.2.2.2.2.2.2 = some (4, (.iload_n 1), 1, 0, 0) := by decide +kernel
theorem gx157_5 : aF 5 zM157.2.2.2.2.2.2.2 = some (5, (.invokevirtual 121), 3, 75, 0) := by decide +kernel
theorem gx157_8 : aF 8 zM157.2.2.2.2.2.2.2 = some (8, (.ifCond .eq 21), 3, 29, 0) := by decide +kernel
theorem gx157_29 : aF 29 zM157.2.2.2.2.2.2.2 = some (29, (.iconst (-1)), 1, 0, 0) := by decide +kernel
theorem gx157_30 : aF 30 zM157.2.2.2.2.2.2.2 = some (30, .ireturn, 1, 0, 0) := by decide +kernel
theorem gx157_11 : aF 11 zM157.2.2.2.2.2.2.2 = some (11, (.aload_n 0), 1, 0, 0) := by decide +kernel
theorem gx157_12 : aF 12 zM157.2.2.2.2.2.2.2 = some (12, (.getfield 12), 3, 11, 0) := by decide +kernel
theorem gx157_15 : aF 15 zM157.2.2.2.2.2.2.2 = some (15, (.iload_n 2), 1, 0, 0) := by decide +kernel
theorem gx157_16 : aF 16 zM157.2.2.2.2.2.2.2 = some (16, (.invokevirtual 136), 3, 77, 0) := by decide +kernel
theorem gx157_19 : aF 19 zM157.2.2.2.2.2.2.2 = some (19, (.ifCond .eq 10), 3, 29, 0) := by decide +kernel
theorem gx157_22 : aF 22 zM157.2.2.2.2.2.2.2 = some (22, (.iload_n 3), 1, 0, 0) := by decide +kernel
theorem gx157_23 : aF 23 zM157.2.2.2.2.2.2.2 = some (23, (.invokestatic 173), 3, 141, 0) := by decide +kernel
theorem gx157_26 : aF 26 zM157.2.2.2.2.2.2.2 = some (26, (.ifCond .ne 5), 3, 31, 0) := by decide +kernel
theorem gx157_31 : aF 31 zM157.2.2.2.2.2.2.2 = some (31, (.aload_n 0), 1, 0, 0) := by decide +kernel
theorem gx157_32 : aF 32 zM157.2.2.2.2.2.2.2 = some (32, (.getfield 12), 3, 11, 0) := by decide +kernel
theorem gx157_35 : aF 35 zM157.2.2.2.2.2.2.2 = some (35, (.getfield 139), 3, 6, 7) := by decide +kernel
theorem gx157_38 : aF 38 zM157.2.2.2.2.2.2.2 = some (38, (.iload_n 2), 1, 0, 0) := by decide +kernel
theorem gx157_39 : aF 39 zM157.2.2.2.2.2.2.2 = some (39, .iaload, 1, 0, 0) := by decide +kernel
theorem gx157_40 : aF 40 zM157.2.2.2.2.2.2.2 = some (40, (.iconst 5), 1, 0, 0) := by decide +kernel
theorem gx157_41 : aF 41 zM157.2.2.2.2.2.2.2 = some (41, (.if_icmp .ne 9), 3, 50, 0) := by decide +kernel
theorem gx157_50 : aF 50 zM157.2.2.2.2.2.2.2 = some (50, (.aload_n 0), 1, 0, 0) := by decide +kernel
theorem gx157_51 : aF 51 zM157.2.2.2.2.2.2.2 = some (51, (.getfield 12), 3, 11, 0) := by decide +kernel
theorem gx157_54 : aF 54 zM157.2.2.2.2.2.2.2 = some (54, (.iload_n 2), 1, 0, 0) := by decide +kernel
theorem gx157_55 : aF 55 zM157.2.2.2.2.2.2.2 = some (55, (.aload_n 0), 1, 0, 0) := by decide +kernel
theorem gx157_56 : aF 56 zM157.2.2.2.2.2.2.2 = some (56, (.getfield 12), 3, 11, 0) := by decide +kernel
theorem gx157_59 : aF 59 zM157.2.2.2.2.2.2.2 = some (59, (.getfield 93), 3, 6, 0) := by decide +kernel
theorem gx157_62 : aF 62 zM157.2.2.2.2.2.2.2 = some (62, (.aload_n 0), 1, 0, 0) := by decide +kernel
theorem gx157_63 : aF 63 zM157.2.2.2.2.2.2.2 = some (63, (.getfield 12), 3, 11, 0) := by decide +kernel
theorem gx157_66 : aF 66 zM157.2.2.2.2.2.2.2 = some (66, (.getfield 93), 3, 6, 0) := by decide +kernel
theorem gx157_69 : aF 69 zM157.2.2.2.2.2.2.2 = some (69, (.invokevirtual 152), 3, 86, 0) := by decide +kernel
theorem gx157_72 : aF 72 zM157.2.2.2.2.2.2.2 = some (72, (.iload_n 1), 1, 0, 0) := by decide +kernel
theorem gx157_73 : aF 73 zM157.2.2.2.2.2.2.2 = some (73, (.if_icmp .ne 16), 3, 89, 0) := by decide +kernel
theorem gx157_89 : aF 89 zM157.2.2.2.2.2.2.2 = some (89, (.bipush (-2)), 2, 0, 0) := by decide +kernel
theorem gx157_91 : aF 91 zM157.2.2.2.2.2.2.2 = some (91, .ireturn, 1, 0, 0) := by decide +kernel
theorem gx157_76 : aF 76 zM157.2.2.2.2.2.2.2 = some (76, (.aload_n 0), 1, 0, 0) := by decide +kernel
theorem gx157_77 : aF 77 zM157.2.2.2.2.2.2.2 = some (77, (.getfield 12), 3, 11, 0) := by decide +kernel
theorem gx157_80 : aF 80 zM157.2.2.2.2.2.2.2 = some (80, (.getfield 149), 3, 6, 10) := by decide +kernel
theorem gx157_83 : aF 83 zM157.2.2.2.2.2.2.2 = some (83, (.iload_n 2), 1, 0, 0) := by decide +kernel
theorem gx157_84 : aF 84 zM157.2.2.2.2.2.2.2 = some (84, .iaload, 1, 0, 0) := by decide +kernel
theorem gx157_85 : aF 85 zM157.2.2.2.2.2.2.2 = some (85, (.iconst (-1)), 1, 0, 0) := by decide +kernel
theorem gx157_86 : aF 86 zM157.2.2.2.2.2.2.2 = some (86, (.if_icmp .eq 6), 3, 92, 0) := by decide +kernel
theorem gx157_92 : aF 92 zM157.2.2.2.2.2.2.2 = some (92, (.aload_n 0), 1, 0, 0) := by decide +kernel
theorem gx157_93 : aF 93 zM157.2.2.2.2.2.2.2 = some (93, (.getfield 28), 3, 11, 2) := by decide +kernel
theorem gx157_96 : aF 96 zM157.2.2.2.2.2.2.2 = some (96, (.getfield 176), 3, 2, 1) := by decide +kernel
theorem gx157_99 : aF 99 zM157.2.2.2.2.2.2.2 = some (99, (.sipush 300), 3, 0, 0) := by decide +kernel
theorem gx157_102 : aF 102 zM157.2.2.2.2.2.2.2 = some (102, (.if_icmp .lt 8), 3, 110, 0) := by decide +kernel
theorem gx157_110 : aF 110 zM157.2.2.2.2.2.2.2 = some (110, (.aload_n 0), 1, 0, 0) := by decide +kernel
theorem gx157_111 : aF 111 zM157.2.2.2.2.2.2.2 = some (111, (.getfield 28), 3, 11, 2) := by decide +kernel
theorem gx157_114 : aF 114 zM157.2.2.2.2.2.2.2 = some (114, (.iload_n 1), 1, 0, 0) := by decide +kernel
theorem gx157_115 : aF 115 zM157.2.2.2.2.2.2.2 = some (115, (.iload_n 2), 1, 0, 0) := by decide +kernel
theorem gx157_116 : aF 116 zM157.2.2.2.2.2.2.2 = some (116, (.iload_n 3), 1, 0, 0) := by decide +kernel
theorem gx157_117 : aF 117 zM157.2.2.2.2.2.2.2 = some (117, (.invokevirtual 177), 3, 27, 0) := by decide +kernel
theorem gx157_120 : aF 120 zM157.2.2.2.2.2.2.2 = some (120, .ireturn, 1, 0, 0) := by decide +kernel
theorem gx157_105 : aF 105 zM157.2.2.2.2.2.2.2 = some (105, (.bipush (-3)), 2, 0, 0) := by decide +kernel
theorem gx157_107 : aF 107 zM157.2.2.2.2.2.2.2 = some (107, (.goto 13), 3, 120, 0) := by decide +kernel
theorem gx157_44 : aF 44 zM157.2.2.2.2.2.2.2 = some (44, (.iload_n 3), 1, 0, 0) := by decide +kernel
theorem gx157_45 : aF 45 zM157.2.2.2.2.2.2.2 = some (45, (.ifCond .eq 5), 3, 50, 0) := by decide +kernel
theorem gx157_48 : aF 48 zM157.2.2.2.2.2.2.2 = some (48, (.iconst (-1)), 1, 0, 0) := by decide +kernel
theorem gx157_49 : aF 49 zM157.2.2.2.2.2.2.2 = some (49, .ireturn, 1, 0, 0) := by decide +kernel
theorem gx230_0 : aF 0 zM230.2.2.2.2.2.2.2 = some (0, (.aload_n 0), 1, 0, 0) := by decide +kernel
theorem gx230_1 : aF 1 zM230.2.2.2.2.2.2.2 = some (1, (.iload_n 1), 1, 0, 0) := by decide +kernel
theorem gx230_2 : aF 2 zM230.2.2.2.2.2.2.2 = some (2, (.invokevirtual 316), 3, 202, 0) := by decide +kernel
theorem gx230_5 : aF 5 zM230.2.2.2.2.2.2.2 = some (5, (.ifCond .eq 35), 3, 40, 0) := by decide +kernel
theorem gx230_40 : aF 40 zM230.2.2.2.2.2.2.2 = some (40, (.iconst (-1)), 1, 0, 0) := by decide +kernel
theorem gx230_41 : aF 41 zM230.2.2.2.2.2.2.2 = some (41, .ireturn, 1, 0, 0) := by decide +kernel
theorem gx230_8 : aF 8 zM230.2.2.2.2.2.2.2 = some (8, (.aload_n 0), 1, 0, 0) := by decide +kernel
theorem gx230_9 : aF 9 zM230.2.2.2.2.2.2.2 = some (9, (.iload_n 2), 1, 0, 0) := by decide +kernel
theorem gx230_10 : aF 10 zM230.2.2.2.2.2.2.2 = some (10, (.invokevirtual 322), 3, 203, 0) := by decide +kernel
theorem gx230_13 : aF 13 zM230.2.2.2.2.2.2.2 = some (13, (.ifCond .eq 27), 3, 40, 0) := by decide +kernel
theorem gx230_16 : aF 16 zM230.2.2.2.2.2.2.2 = some (16, (.iload_n 3), 1, 0, 0) := by decide +kernel
theorem gx230_17 : aF 17 zM230.2.2.2.2.2.2.2 = some (17, (.iconst 0), 1, 0, 0) := by decide +kernel
theorem gx230_18 : aF 18 zM230.2.2.2.2.2.2.2 = some (18, (.bipush 7), 2, 0, 0) := by decide +kernel
theorem gx230_20 : aF 20 zM230.2.2.2.2.2.2.2 = some (20, (.invokestatic 258), 3, 196, 0) := by decide +kernel
theorem gx230_23 : aF 23 zM230.2.2.2.2.2.2.2 = some (23, (.ifCond .eq 17), 3, 40, 0) := by decide +kernel
theorem gx230_26 : aF 26 zM230.2.2.2.2.2.2.2 = some (26, (.aload_n 0), 1, 0, 0) := by decide +kernel
theorem gx230_27 : aF 27 zM230.2.2.2.2.2.2.2 = some (27, (.getfield 7), 3, 12, 3) := by decide +kernel
theorem gx230_30 : aF 30 zM230.2.2.2.2.2.2.2 = some (30, (.iload_n 2), 1, 0, 0) := by decide +kernel
theorem gx230_31 : aF 31 zM230.2.2.2.2.2.2.2 = some (31, .iaload, 1, 0, 0) := by decide +kernel
theorem gx230_32 : aF 32 zM230.2.2.2.2.2.2.2 = some (32, (.iconst 5), 1, 0, 0) := by decide +kernel
theorem gx230_33 : aF 33 zM230.2.2.2.2.2.2.2 = some (33, (.if_icmp .ne 9), 3, 42, 0) := by decide +kernel
theorem gx230_42 : aF 42 zM230.2.2.2.2.2.2.2 = some (42, (.aload_n 0), 1, 0, 0) := by decide +kernel
theorem gx230_43 : aF 43 zM230.2.2.2.2.2.2.2 = some (43, (.getfield 22), 3, 12, 7) := by decide +kernel
theorem gx230_46 : aF 46 zM230.2.2.2.2.2.2.2 = some (46, (.iload_n 2), 1, 0, 0) := by decide +kernel
theorem gx230_47 : aF 47 zM230.2.2.2.2.2.2.2 = some (47, .iaload, 1, 0, 0) := by decide +kernel
theorem gx230_48 : aF 48 zM230.2.2.2.2.2.2.2 = some (48, (.ifCond .ge 20), 3, 68, 0) := by decide +kernel
theorem gx230_68 : aF 68 zM230.2.2.2.2.2.2.2 = some (68, (.bipush (-2)), 2, 0, 0) := by decide +kernel
theorem gx230_70 : aF 70 zM230.2.2.2.2.2.2.2 = some (70, .ireturn, 1, 0, 0) := by decide +kernel
theorem gx230_51 : aF 51 zM230.2.2.2.2.2.2.2 = some (51, (.aload_n 0), 1, 0, 0) := by decide +kernel
theorem gx230_52 : aF 52 zM230.2.2.2.2.2.2.2 = some (52, (.iload_n 2), 1, 0, 0) := by decide +kernel
theorem gx230_53 : aF 53 zM230.2.2.2.2.2.2.2 = some (53, (.aload_n 0), 1, 0, 0) := by decide +kernel
theorem gx230_54 : aF 54 zM230.2.2.2.2.2.2.2 = some (54, (.getfield 262), 3, 12, 1) := by decide +kernel
theorem gx230_57 : aF 57 zM230.2.2.2.2.2.2.2 = some (57, (.aload_n 0), 1, 0, 0) := by decide +kernel
theorem gx230_58 : aF 58 zM230.2.2.2.2.2.2.2 = some (58, (.getfield 262), 3, 12, 1) := by decide +kernel
theorem gx230_61 : aF 61 zM230.2.2.2.2.2.2.2 = some (61, (.invokevirtual 331), 3, 226, 0) := by decide +kernel
theorem gx230_64 : aF 64 zM230.2.2.2.2.2.2.2 = some (64, (.iload_n 1), 1, 0, 0) := by decide +kernel
theorem gx230_65 : aF 65 zM230.2.2.2.2.2.2.2 = some (65, (.if_icmp .eq 6), 3, 71, 0) := by decide +kernel
theorem gx230_71 : aF 71 zM230.2.2.2.2.2.2.2 = some (71, (.aload_n 0), 1, 0, 0) := by decide +kernel
theorem gx230_72 : aF 72 zM230.2.2.2.2.2.2.2 = some (72, (.getfield 336), 3, 12, 19) := by decide +kernel
theorem gx230_75 : aF 75 zM230.2.2.2.2.2.2.2 = some (75, (.sipush 300), 3, 0, 0) := by decide +kernel
theorem gx230_78 : aF 78 zM230.2.2.2.2.2.2.2 = some (78, (.if_icmp .ne 6), 3, 84, 0) := by decide +kernel
theorem gx230_84 : aF 84 zM230.2.2.2.2.2.2.2 = some (84, (.aload_n 0), 1, 0, 0) := by decide +kernel
theorem gx230_85 : aF 85 zM230.2.2.2.2.2.2.2 = some (85, (.getfield 52), 3, 12, 20) := by decide +kernel
theorem gx230_88 : aF 88 zM230.2.2.2.2.2.2.2 = some (88, (.aload_n 0), 1, 0, 0) := by decide +kernel
theorem gx230_89 : aF 89 zM230.2.2.2.2.2.2.2 = some (89, (.getfield 336), 3, 12, 19) := by decide +kernel
theorem gx230_92 : aF 92 zM230.2.2.2.2.2.2.2 = some (92, (.iload_n 1), 1, 0, 0) := by decide +kernel
theorem gx230_93 : aF 93 zM230.2.2.2.2.2.2.2 = some (93, .iastore, 1, 0, 0) := by decide +kernel
theorem gx230_94 : aF 94 zM230.2.2.2.2.2.2.2 = some (94, (.aload_n 0), 1, 0, 0) := by decide +kernel
theorem gx230_95 : aF 95 zM230.2.2.2.2.2.2.2 = some (95, (.getfield 55), 3, 12, 21) := by decide +kernel
theorem gx230_98 : aF 98 zM230.2.2.2.2.2.2.2 = some (98, (.aload_n 0), 1, 0, 0) := by decide +kernel
theorem gx230_99 : aF 99 zM230.2.2.2.2.2.2.2 = some (99, (.getfield 336), 3, 12, 19) := by decide +kernel
theorem gx230_102 : aF 102 zM230.2.2.2.2.2.2.2 = some (102, (.iload_n 2), 1, 0, 0) := by decide +kernel
theorem gx230_103 : aF 103 zM230.2.2.2.2.2.2.2 = some (103, .iastore, 1, 0, 0) := by decide +kernel
theorem gx230_104 : aF 104 zM230.2.2.2.2.2.2.2 = some (104, (.aload_n 0), 1, 0, 0) := by decide +kernel
theorem gx230_105 : aF 105 zM230.2.2.2.2.2.2.2 = some (105, (.getfield 58), 3, 12, 22) := by decide +kernel
theorem gx230_108 : aF 108 zM230.2.2.2.2.2.2.2 = some (108, (.aload_n 0), 1, 0, 0) := by decide +kernel
theorem gx230_109 : aF 109 zM230.2.2.2.2.2.2.2 = some (109, (.getfield 336), 3, 12, 19) := by decide +kernel
theorem gx230_112 : aF 112 zM230.2.2.2.2.2.2.2 = some (112, (.iload_n 3), 1, 0, 0) := by decide +kernel
theorem gx230_113 : aF 113 zM230.2.2.2.2.2.2.2 = some (113, .iastore, 1, 0, 0) := by decide +kernel
theorem gx230_114 : aF 114 zM230.2.2.2.2.2.2.2 = some (114, (.aload_n 0), 1, 0, 0) := by decide +kernel
theorem gx230_115 : aF 115 zM230.2.2.2.2.2.2.2 = some (115, (.getfield 61), 3, 12, 23) := by decide +kernel
theorem gx230_118 : aF 118 zM230.2.2.2.2.2.2.2 = some (118, (.aload_n 0), 1, 0, 0) := by decide +kernel
theorem gx230_119 : aF 119 zM230.2.2.2.2.2.2.2 = some (119, (.getfield 336), 3, 12, 19) := by decide +kernel
theorem gx230_122 : aF 122 zM230.2.2.2.2.2.2.2 = some (122, (.aload_n 0), 1, 0, 0) := by decide +kernel
theorem gx230_123 : aF 123 zM230.2.2.2.2.2.2.2 = some (123, (.getfield 262), 3, 12, 1) := by decide +kernel
theorem gx230_126 : aF 126 zM230.2.2.2.2.2.2.2 = some (126, .iastore, 1, 0, 0) := by decide +kernel
theorem gx230_127 : aF 127 zM230.2.2.2.2.2.2.2 = some (127, (.aload_n 0), 1, 0, 0) := by decide +kernel
theorem gx230_128 : aF 128 zM230.2.2.2.2.2.2.2 = some (128, .dup, 1, 0, 0) := by decide +kernel
theorem gx230_129 : aF 129 zM230.2.2.2.2.2.2.2 = some (129, (.getfield 336), 3, 12, 19) := by decide +kernel
theorem gx230_132 : aF 132 zM230.2.2.2.2.2.2.2 = some (132, (.iconst 1), 1, 0, 0) := by decide +kernel
theorem gx230_133 : aF 133 zM230.2.2.2.2.2.2.2 = some (133, .iadd, 1, 0, 0) := by decide +kernel
theorem gx230_134 : aF 134 zM230.2.2.2.2.2.2.2 = some (134, (.putfield 336), 3, 12, 19) := by decide +kernel
theorem gx230_137 : aF 137 zM230.2.2.2.2.2.2.2 = some (137, (.aload_n 0), 1, 0, 0) := by decide +kernel
theorem gx230_138 : aF 138 zM230.2.2.2.2.2.2.2 = some (138, (.iconst 1), 1, 0, 0) := by decide +kernel
theorem gx230_139 : aF 139 zM230.2.2.2.2.2.2.2 = some (139, (.putfield 100), 3, 12, 38) := by decide +kernel
theorem gx230_142 : aF 142 zM230.2.2.2.2.2.2.2 = some (142, (.aload_n 0), 1, 0, 0) := by decide +kernel
theorem gx230_143 : aF 143 zM230.2.2.2.2.2.2.2 = some (143, (.getfield 336), 3, 12, 19) := by decide +kernel
theorem gx230_146 : aF 146 zM230.2.2.2.2.2.2.2 = some (146, .ireturn, 1, 0, 0) := by decide +kernel
theorem gx230_81 : aF 81 zM230.2.2.2.2.2.2.2 = some (81, (.bipush (-3)), 2, 0, 0) := by decide +kernel
theorem gx230_83 : aF 83 zM230.2.2.2.2.2.2.2 = some (83, .ireturn, 1, 0, 0) := by decide +kernel
theorem gx230_36 : aF 36 zM230.2.2.2.2.2.2.2 = some (36, (.iload_n 3), 1, 0, 0) := by decide +kernel
theorem gx230_37 : aF 37 zM230.2.2.2.2.2.2.2 = some (37, (.ifCond .eq 5), 3, 42, 0) := by decide +kernel
theorem d86_0 {n : Nat} {X : aX} {h : aH} {P : Int → aH → Prop} {x1 x2 x3 : Int32} {a1 a2 a3 : Int} (S : wS h) (z1 : x1.toInt = a1) (z2 : x2.toInt = a2) (z3 : x3.toInt = a3) (H : (0 ≤ a1 → a1 < 150 → (∀ (w4 : Int32) (w5 : Int32) (w6 : Int32) (u7_ : Option Value), w4.toInt = vw h 7 a1 → w5.toInt = 0 → w6.toInt = 0 → Pt n X zM86 14 [some (.ref 1), some (.int x1), some (.int x2), some (.int x3), some (.int w4), some (.int w5), some (.int w6), u7_] [] h (qI P)))) : Pt (n + 1) X zM86 0 [some (.ref 1), some (.int x1), some (.int x2), some (.int x3), none, none, none, none] [] h (qI P) := by
  refine pt_1 (fun n d => r_aloadn gx86_0 rfl) ?_
  refine pt_d (pt_getR gx86_1 S tr_1_12 ?_)
  refine pt_d (pt_1 (fun n d => r_iloadn gx86_4 rfl) ?_)
  refine pt_d (pt_iald (N' := 150) gx86_5 S tl_7 z1 (fun v2 p2 q2 h2 => ?_))
  have H := H p2 q2
  refine pt_d (pt_1 (fun n d => r_istore (L' := [some (.ref 1), some (.int x1), some (.int x2), some (.int x3), some (.int v2), none, none, none]) gx86_6 rfl rfl) ?_)
  refine pt_d (pt_iconst gx86_8 (fun v3 h3 => ?_))
  refine pt_d (pt_1 (fun n d => r_istore (L' := [some (.ref 1), some (.int x1), some (.int x2), some (.int x3), some (.int v2), some (.int v3), none, none]) gx86_9 rfl rfl) ?_)
  refine pt_d (pt_iconst gx86_11 (fun v4 h4 => ?_))
  refine pt_d (pt_1 (fun n d => r_istore (L' := [some (.ref 1), some (.int x1), some (.int x2), some (.int x3), some (.int v2), some (.int v3), some (.int v4), none]) gx86_12 rfl rfl) ?_)
  exact H v2 v3 v4 _ h2 h3 h4
theorem d86_14 {n : Nat} {X : aX} {h : aH} {P : Int → aH → Prop} {x1 x2 x3 x4 x5 x6 : Int32} {a1 a2 a3 a4 a5 a6 : Int} {u7 : Option Value} (S : wS h) (z1 : x1.toInt = a1) (z2 : x2.toInt = a2) (z3 : x3.toInt = a3) (z4 : x4.toInt = a4) (z5 : x5.toInt = a5) (z6 : x6.toInt = a6) (H : ((vw h 1 6 ≤ a6 → P a4 h) ∧ (a6 < vw h 1 6 → (0 ≤ a6 → a6 < 200 → ((vw h 9 a6 ≠ a1 → (∀ (w6 : Int32) (u7_ : Option Value), w6.toInt = w32 (a6 + 1) → Pt n X zM86 14 [some (.ref 1), some (.int x1), some (.int x2), some (.int x3), some (.int x4), some (.int x5), some (.int w6), u7_] [] h (qI P))) ∧ (vw h 9 a6 = a1 → ((a3 < vw h 12 a6 → (∀ (w6 : Int32) (u7_ : Option Value), w6.toInt = w32 (a6 + 1) → Pt n X zM86 14 [some (.ref 1), some (.int x1), some (.int x2), some (.int x3), some (.int x4), some (.int x5), some (.int w6), u7_] [] h (qI P))) ∧ (vw h 12 a6 ≤ a3 → ((¬ (a5 ≤ (vw h 11 a6) ∧ (vw h 11 a6) ≤ a2) → (∀ (w6 : Int32) (u7_ : Option Value), w6.toInt = w32 (a6 + 1) → Pt n X zM86 14 [some (.ref 1), some (.int x1), some (.int x2), some (.int x3), some (.int x4), some (.int x5), some (.int w6), u7_] [] h (qI P))) ∧ ((a5 ≤ (vw h 11 a6) ∧ (vw h 11 a6) ≤ a2) → (∀ (w4 : Int32) (w5 : Int32) (w6 : Int32) (u7_ : Option Value), w4.toInt = vw h 10 a6 → w5.toInt = vw h 11 a6 → w6.toInt = w32 (a6 + 1) → Pt n X zM86 14 [some (.ref 1), some (.int x1), some (.int x2), some (.int x3), some (.int w4), some (.int w5), some (.int w6), u7_] [] h (qI P)))))))))))) : Pt (n + 1) X zM86 14 [some (.ref 1), some (.int x1), some (.int x2), some (.int x3), some (.int x4), some (.int x5), some (.int x6), u7] [] h (qI P) := by
  refine pt_1 (fun n d => r_iload gx86_14 rfl) ?_
  refine pt_d (pt_1 (fun n d => r_aloadn gx86_16 rfl) ?_)
  refine pt_d (pt_getI (B := 6) gx86_17 S (fun v1 h1 => ?_))
  refine pt_d (pt_icmp_ge gx86_20 z6 h1 (fun e2 => ?_) (fun e2 => ?_))
  · have H := H.1 e2
    refine pt_d (pt_1 (fun n d => r_iload gx86_97 rfl) ?_)
    exact pt_d (pt_iret gx86_99 ⟨_, rfl, by rw [z4]; exact H⟩)
  · have H := H.2 e2
    refine pt_d (pt_1 (fun n d => r_aloadn gx86_23 rfl) ?_)
    refine pt_d (pt_getR gx86_24 S tr_1_14 ?_)
    refine pt_d (pt_1 (fun n d => r_iload gx86_27 rfl) ?_)
    refine pt_d (pt_iald (N' := 200) gx86_29 S tl_9 z6 (fun v4 p4 q4 h4 => ?_))
    have H := H p4 q4
    refine pt_d (pt_1 (fun n d => r_iloadn gx86_30 rfl) ?_)
    refine pt_d (pt_icmp_ne gx86_31 h4 z1 (fun e5 => ?_) (fun e5 => ?_))
    · have H := H.1 e5
      refine pt_d (pt_iconst gx86_49 (fun v6 h6 => ?_))
      refine pt_d (pt_1 (fun n d => r_istore (L' := [some (.ref 1), some (.int x1), some (.int x2), some (.int x3), some (.int x4), some (.int x5), some (.int x6), some (.int v6)]) gx86_50 rfl rfl) ?_)
      refine pt_d (pt_1 (fun n d => r_iload gx86_52 rfl) ?_)
      refine pt_d (pt_if_eq gx86_54 h6 (fun e7 => ?_) (fun e7 => absurd e7 (by decide)))
      refine pt_d (pt_iinc (c := 1) gx86_91 rfl z6 (fun v8 h8 => ?_))
      show Pt _ _ _ _ [some (.ref 1), some (.int x1), some (.int x2), some (.int x3), some (.int x4), some (.int x5), some (.int v8), some (.int v6)] [] _ _
      refine pt_d (pt_1 (fun n d => r_goto gx86_94) ?_)
      exact H v8 _ h8
    · have H := H.2 e5
      refine pt_d (pt_1 (fun n d => r_aloadn gx86_34 rfl) ?_)
      refine pt_d (pt_getR gx86_35 S tr_1_17 ?_)
      refine pt_d (pt_1 (fun n d => r_iload gx86_38 rfl) ?_)
      refine pt_d (pt_iald (N' := 200) gx86_40 S tl_12 z6 (fun v10 p10 q10 h10 => ?_))
      refine pt_d (pt_1 (fun n d => r_iloadn gx86_41 rfl) ?_)
      refine pt_d (pt_icmp_gt gx86_42 h10 z3 (fun e11 => ?_) (fun e11 => ?_))
      · have H := H.1 e11
        refine pt_d (pt_iconst gx86_49 (fun v12 h12 => ?_))
        refine pt_d (pt_1 (fun n d => r_istore (L' := [some (.ref 1), some (.int x1), some (.int x2), some (.int x3), some (.int x4), some (.int x5), some (.int x6), some (.int v12)]) gx86_50 rfl rfl) ?_)
        refine pt_d (pt_1 (fun n d => r_iload gx86_52 rfl) ?_)
        refine pt_d (pt_if_eq gx86_54 h12 (fun e13 => ?_) (fun e13 => absurd e13 (by decide)))
        refine pt_d (pt_iinc (c := 1) gx86_91 rfl z6 (fun v14 h14 => ?_))
        show Pt _ _ _ _ [some (.ref 1), some (.int x1), some (.int x2), some (.int x3), some (.int x4), some (.int x5), some (.int v14), some (.int v12)] [] _ _
        refine pt_d (pt_1 (fun n d => r_goto gx86_94) ?_)
        exact H v14 _ h14
      · have H := H.2 e11
        refine pt_d (pt_iconst gx86_45 (fun v15 h15 => ?_))
        refine pt_d (pt_1 (fun n d => r_goto gx86_46) ?_)
        refine pt_d (pt_1 (fun n d => r_istore (L' := [some (.ref 1), some (.int x1), some (.int x2), some (.int x3), some (.int x4), some (.int x5), some (.int x6), some (.int v15)]) gx86_50 rfl rfl) ?_)
        refine pt_d (pt_1 (fun n d => r_iload gx86_52 rfl) ?_)
        refine pt_d (pt_if_eq gx86_54 h15 (fun e16 => absurd e16 (by decide)) (fun e16 => ?_))
        refine pt_d (pt_1 (fun n d => r_aloadn gx86_57 rfl) ?_)
        refine pt_d (pt_getR gx86_58 S tr_1_16 ?_)
        refine pt_d (pt_1 (fun n d => r_iload gx86_61 rfl) ?_)
        refine pt_d (pt_iald (N' := 200) gx86_63 S tl_11 z6 (fun v18 p18 q18 h18 => ?_))
        refine pt_d (pt_1 (fun n d => r_iload gx86_64 rfl) ?_)
        refine pt_d (pt_1 (fun n d => r_iloadn gx86_66 rfl) ?_)
        refine pt_d (pt_stat (as := [.int v18, .int x5, .int x2]) (r := []) gx86_67 rfl (show zmt[137]? = some zM137 from rfl) rfl rfl rfl rfl (c_137 S h18 z5 z2) (kqP (fun v19 h19 => ?_)))
        show Pt _ _ _ 70 _ [.int v19] _ _
        refine pt_d (pt_ifB_eq gx86_70 h19 (fun e20 => ?_) (fun e20 => ?_))
        · have H := H.1 e20
          refine pt_d (pt_iinc (c := 1) gx86_91 rfl z6 (fun v21 h21 => ?_))
          show Pt _ _ _ _ [some (.ref 1), some (.int x1), some (.int x2), some (.int x3), some (.int x4), some (.int x5), some (.int v21), some (.int v15)] [] _ _
          refine pt_d (pt_1 (fun n d => r_goto gx86_94) ?_)
          exact H v21 _ h21
        · have H := H.2 e20
          refine pt_d (pt_1 (fun n d => r_aloadn gx86_73 rfl) ?_)
          refine pt_d (pt_getR gx86_74 S tr_1_16 ?_)
          refine pt_d (pt_1 (fun n d => r_iload gx86_77 rfl) ?_)
          refine pt_d (pt_iald (N' := 200) gx86_79 S tl_11 z6 (fun v23 p23 q23 h23 => ?_))
          refine pt_d (pt_1 (fun n d => r_istore (L' := [some (.ref 1), some (.int x1), some (.int x2), some (.int x3), some (.int x4), some (.int v23), some (.int x6), some (.int v15)]) gx86_80 rfl rfl) ?_)
          refine pt_d (pt_1 (fun n d => r_aloadn gx86_82 rfl) ?_)
          refine pt_d (pt_getR gx86_83 S tr_1_15 ?_)
          refine pt_d (pt_1 (fun n d => r_iload gx86_86 rfl) ?_)
          refine pt_d (pt_iald (N' := 200) gx86_88 S tl_10 z6 (fun v25 p25 q25 h25 => ?_))
          refine pt_d (pt_1 (fun n d => r_istore (L' := [some (.ref 1), some (.int x1), some (.int x2), some (.int x3), some (.int v25), some (.int v23), some (.int x6), some (.int v15)]) gx86_89 rfl rfl) ?_)
          refine pt_d (pt_iinc (c := 1) gx86_91 rfl z6 (fun v26 h26 => ?_))
          show Pt _ _ _ _ [some (.ref 1), some (.int x1), some (.int x2), some (.int x3), some (.int v25), some (.int v23), some (.int v26), some (.int v15)] [] _ _
          refine pt_d (pt_1 (fun n d => r_goto gx86_94) ?_)
          exact H v25 v23 v26 _ h25 h23 h26
theorem d226_0 {n : Nat} {X : aX} {h : aH} {P : Int → aH → Prop} {x1 x2 x3 : Int32} {a1 a2 a3 : Int} (S : wS h) (z1 : x1.toInt = a1) (z2 : x2.toInt = a2) (z3 : x3.toInt = a3) (H : (∀ (w4 : Int32) (w5 : Int32), w4.toInt = (-1) → w5.toInt = 0 → Pt n X zM226 6 [some (.ref 72), some (.int x1), some (.int x2), some (.int x3), some (.int w4), some (.int w5)] [] h (qI P))) : Pt (n + 1) X zM226 0 [some (.ref 72), some (.int x1), some (.int x2), some (.int x3), none, none] [] h (qI P) := by
  refine pt_iconst gx226_0 (fun v1 h1 => ?_)
  refine pt_d (pt_1 (fun n d => r_istore (L' := [some (.ref 72), some (.int x1), some (.int x2), some (.int x3), some (.int v1), none]) gx226_1 rfl rfl) ?_)
  refine pt_d (pt_iconst gx226_3 (fun v2 h2 => ?_))
  refine pt_d (pt_1 (fun n d => r_istore (L' := [some (.ref 72), some (.int x1), some (.int x2), some (.int x3), some (.int v1), some (.int v2)]) gx226_4 rfl rfl) ?_)
  exact H v1 v2 h1 h2
theorem d226_6 {n : Nat} {X : aX} {h : aH} {P : Int → aH → Prop} {x1 x2 x3 x4 x5 : Int32} {a1 a2 a3 a4 a5 : Int} (S : wS h) (z1 : x1.toInt = a1) (z2 : x2.toInt = a2) (z3 : x3.toInt = a3) (z4 : x4.toInt = a4) (z5 : x5.toInt = a5) (H : ((vw h 72 14 ≤ a5 → ((0 ≤ a4 → (0 ≤ a4 → a4 < 200 → P (vw h 84 a4) h)) ∧ (a4 < 0 → (0 ≤ a1 → a1 < 150 → P (vw h 75 a1) h)))) ∧ (a5 < vw h 72 14 → (0 ≤ a5 → a5 < 200 → ((vw h 83 a5 ≠ a1 → (∀ (w5 : Int32), w5.toInt = w32 (a5 + 1) → Pt n X zM226 6 [some (.ref 72), some (.int x1), some (.int x2), some (.int x3), some (.int x4), some (.int w5)] [] h (qI P))) ∧ (vw h 83 a5 = a1 → ((a3 < vw h 86 a5 → (∀ (w5 : Int32), w5.toInt = w32 (a5 + 1) → Pt n X zM226 6 [some (.ref 72), some (.int x1), some (.int x2), some (.int x3), some (.int x4), some (.int w5)] [] h (qI P))) ∧ (vw h 86 a5 ≤ a3 → ((a2 < vw h 85 a5 → (∀ (w5 : Int32), w5.toInt = w32 (a5 + 1) → Pt n X zM226 6 [some (.ref 72), some (.int x1), some (.int x2), some (.int x3), some (.int x4), some (.int w5)] [] h (qI P))) ∧ (vw h 85 a5 ≤ a2 → ((a4 < 0 → (∀ (w5 : Int32), w5.toInt = w32 (a5 + 1) → Pt n X zM226 6 [some (.ref 72), some (.int x1), some (.int x2), some (.int x3), some (.int x5), some (.int w5)] [] h (qI P))) ∧ (0 ≤ a4 → (0 ≤ a4 → a4 < 200 → ((vw h 85 a5 < vw h 85 a4 → (∀ (w5 : Int32), w5.toInt = w32 (a5 + 1) → Pt n X zM226 6 [some (.ref 72), some (.int x1), some (.int x2), some (.int x3), some (.int x4), some (.int w5)] [] h (qI P))) ∧ (vw h 85 a4 ≤ vw h 85 a5 → (∀ (w5 : Int32), w5.toInt = w32 (a5 + 1) → Pt n X zM226 6 [some (.ref 72), some (.int x1), some (.int x2), some (.int x3), some (.int x5), some (.int w5)] [] h (qI P))))))))))))))))) : Pt (n + 1) X zM226 6 [some (.ref 72), some (.int x1), some (.int x2), some (.int x3), some (.int x4), some (.int x5)] [] h (qI P) := by
  refine pt_1 (fun n d => r_iload gx226_6 rfl) ?_
  refine pt_d (pt_1 (fun n d => r_aloadn gx226_8 rfl) ?_)
  refine pt_d (pt_getI (B := 14) gx226_9 S (fun v1 h1 => ?_))
  refine pt_d (pt_icmp_ge gx226_12 z5 h1 (fun e2 => ?_) (fun e2 => ?_))
  · have H := H.1 e2
    refine pt_d (pt_1 (fun n d => r_iload gx226_80 rfl) ?_)
    refine pt_d (pt_if_ge gx226_82 z4 (fun e3 => ?_) (fun e3 => ?_))
    · have H := H.1 e3
      refine pt_d (pt_1 (fun n d => r_aloadn gx226_94 rfl) ?_)
      refine pt_d (pt_getR gx226_95 S tr_72_16 ?_)
      refine pt_d (pt_1 (fun n d => r_iload gx226_98 rfl) ?_)
      refine pt_d (pt_iald (N' := 200) gx226_100 S tl_84 z4 (fun v5 p5 q5 h5 => ?_))
      have H := H p5 q5
      exact pt_d (pt_iret gx226_101 ⟨_, rfl, by rw [h5]; exact H⟩)
    · have H := H.2 e3
      refine pt_d (pt_1 (fun n d => r_aloadn gx226_85 rfl) ?_)
      refine pt_d (pt_getR gx226_86 S tr_72_5 ?_)
      refine pt_d (pt_1 (fun n d => r_iloadn gx226_89 rfl) ?_)
      refine pt_d (pt_iald (N' := 150) gx226_90 S tl_75 z1 (fun v7 p7 q7 h7 => ?_))
      have H := H p7 q7
      refine pt_d (pt_1 (fun n d => r_goto gx226_91) ?_)
      exact pt_d (pt_iret gx226_101 ⟨_, rfl, by rw [h7]; exact H⟩)
  · have H := H.2 e2
    refine pt_d (pt_1 (fun n d => r_aloadn gx226_15 rfl) ?_)
    refine pt_d (pt_getR gx226_16 S tr_72_15 ?_)
    refine pt_d (pt_1 (fun n d => r_iload gx226_19 rfl) ?_)
    refine pt_d (pt_iald (N' := 200) gx226_21 S tl_83 z5 (fun v9 p9 q9 h9 => ?_))
    have H := H p9 q9
    refine pt_d (pt_1 (fun n d => r_iloadn gx226_22 rfl) ?_)
    refine pt_d (pt_icmp_ne gx226_23 h9 z1 (fun e10 => ?_) (fun e10 => ?_))
    · have H := H.1 e10
      refine pt_d (pt_iinc (c := 1) gx226_74 rfl z5 (fun v11 h11 => ?_))
      show Pt _ _ _ _ [some (.ref 72), some (.int x1), some (.int x2), some (.int x3), some (.int x4), some (.int v11)] [] _ _
      refine pt_d (pt_1 (fun n d => r_goto gx226_77) ?_)
      exact H v11 h11
    · have H := H.2 e10
      refine pt_d (pt_1 (fun n d => r_aloadn gx226_26 rfl) ?_)
      refine pt_d (pt_getR gx226_27 S tr_72_18 ?_)
      refine pt_d (pt_1 (fun n d => r_iload gx226_30 rfl) ?_)
      refine pt_d (pt_iald (N' := 200) gx226_32 S tl_86 z5 (fun v13 p13 q13 h13 => ?_))
      refine pt_d (pt_1 (fun n d => r_iloadn gx226_33 rfl) ?_)
      refine pt_d (pt_icmp_gt gx226_34 h13 z3 (fun e14 => ?_) (fun e14 => ?_))
      · have H := H.1 e14
        refine pt_d (pt_iinc (c := 1) gx226_74 rfl z5 (fun v15 h15 => ?_))
        show Pt _ _ _ _ [some (.ref 72), some (.int x1), some (.int x2), some (.int x3), some (.int x4), some (.int v15)] [] _ _
        refine pt_d (pt_1 (fun n d => r_goto gx226_77) ?_)
        exact H v15 h15
      · have H := H.2 e14
        refine pt_d (pt_1 (fun n d => r_aloadn gx226_37 rfl) ?_)
        refine pt_d (pt_getR gx226_38 S tr_72_17 ?_)
        refine pt_d (pt_1 (fun n d => r_iload gx226_41 rfl) ?_)
        refine pt_d (pt_iald (N' := 200) gx226_43 S tl_85 z5 (fun v17 p17 q17 h17 => ?_))
        refine pt_d (pt_1 (fun n d => r_iloadn gx226_44 rfl) ?_)
        refine pt_d (pt_icmp_gt gx226_45 h17 z2 (fun e18 => ?_) (fun e18 => ?_))
        · have H := H.1 e18
          refine pt_d (pt_iinc (c := 1) gx226_74 rfl z5 (fun v19 h19 => ?_))
          show Pt _ _ _ _ [some (.ref 72), some (.int x1), some (.int x2), some (.int x3), some (.int x4), some (.int v19)] [] _ _
          refine pt_d (pt_1 (fun n d => r_goto gx226_77) ?_)
          exact H v19 h19
        · have H := H.2 e18
          refine pt_d (pt_1 (fun n d => r_iload gx226_48 rfl) ?_)
          refine pt_d (pt_if_lt gx226_50 z4 (fun e20 => ?_) (fun e20 => ?_))
          · have H := H.1 e20
            refine pt_d (pt_1 (fun n d => r_iload gx226_70 rfl) ?_)
            refine pt_d (pt_1 (fun n d => r_istore (L' := [some (.ref 72), some (.int x1), some (.int x2), some (.int x3), some (.int x5), some (.int x5)]) gx226_72 rfl rfl) ?_)
            refine pt_d (pt_iinc (c := 1) gx226_74 rfl z5 (fun v21 h21 => ?_))
            show Pt _ _ _ _ [some (.ref 72), some (.int x1), some (.int x2), some (.int x3), some (.int x5), some (.int v21)] [] _ _
            refine pt_d (pt_1 (fun n d => r_goto gx226_77) ?_)
            exact H v21 h21
          · have H := H.2 e20
            refine pt_d (pt_1 (fun n d => r_aloadn gx226_53 rfl) ?_)
            refine pt_d (pt_getR gx226_54 S tr_72_17 ?_)
            refine pt_d (pt_1 (fun n d => r_iload gx226_57 rfl) ?_)
            refine pt_d (pt_iald (N' := 200) gx226_59 S tl_85 z5 (fun v23 p23 q23 h23 => ?_))
            refine pt_d (pt_1 (fun n d => r_aloadn gx226_60 rfl) ?_)
            refine pt_d (pt_getR gx226_61 S tr_72_17 ?_)
            refine pt_d (pt_1 (fun n d => r_iload gx226_64 rfl) ?_)
            refine pt_d (pt_iald (N' := 200) gx226_66 S tl_85 z4 (fun v25 p25 q25 h25 => ?_))
            have H := H p25 q25
            refine pt_d (pt_icmp_lt gx226_67 h23 h25 (fun e26 => ?_) (fun e26 => ?_))
            · have H := H.1 e26
              refine pt_d (pt_iinc (c := 1) gx226_74 rfl z5 (fun v27 h27 => ?_))
              show Pt _ _ _ _ [some (.ref 72), some (.int x1), some (.int x2), some (.int x3), some (.int x4), some (.int v27)] [] _ _
              refine pt_d (pt_1 (fun n d => r_goto gx226_77) ?_)
              exact H v27 h27
            · have H := H.2 e26
              refine pt_d (pt_1 (fun n d => r_iload gx226_70 rfl) ?_)
              refine pt_d (pt_1 (fun n d => r_istore (L' := [some (.ref 72), some (.int x1), some (.int x2), some (.int x3), some (.int x5), some (.int x5)]) gx226_72 rfl rfl) ?_)
              refine pt_d (pt_iinc (c := 1) gx226_74 rfl z5 (fun v28 h28 => ?_))
              show Pt _ _ _ _ [some (.ref 72), some (.int x1), some (.int x2), some (.int x3), some (.int x5), some (.int v28)] [] _ _
              refine pt_d (pt_1 (fun n d => r_goto gx226_77) ?_)
              exact H v28 h28
def cHo (V : vS) (b d k : Int) : Nat → Int × Int
  | 0 => (0, V 7 b)
  | i + 1 => if V 9 (i : Nat) = b ∧ V 12 (i : Nat) ≤ k ∧ (cHo V b d k i).1 ≤ V 11 (i : Nat) ∧ V 11 (i : Nat) ≤ d then (V 11 (i : Nat), V 10 (i : Nat)) else cHo V b d k i
def cHold (V : vS) (b d k : Int) : Int := (cHo V b d k (V 1 6).toNat).2
theorem l_86 {X : aX} {h : aH} (S : wS h) (hn : vw h 1 6 ≤ 200) : ∀ (n : Nat) (x1 x2 x3 x4 x5 x6 : Int32) (u7 : Option Value) (i : Nat), x6.toInt = i → (i : Int) ≤ max 0 (vw h 1 6) → x5.toInt = (cHo (vw h) x1.toInt x2.toInt x3.toInt i).1 → x4.toInt = (cHo (vw h) x1.toInt x2.toInt x3.toInt i).2 → Pt n X zM86 14 [some (.ref 1), some (.int x1), some (.int x2), some (.int x3), some (.int x4), some (.int x5), some (.int x6), u7] [] h (qI (fun y h' => h' = h ∧ y = cHold (vw h) x1.toInt x2.toInt x3.toInt)) := by
  intro n
  induction n with
  | zero => exact fun _ _ _ _ _ _ _ _ _ _ _ _ => pt_z
  | succ n ih =>
    intro x1 x2 x3 x4 x5 x6 u7 i hi hin h5 h4
    have nx : ∀ (w6 : Int32) (u7 : Option Value), (i : Int) < vw h 1 6 → w6.toInt = w32 ((i : Nat) + 1) → ¬ (vw h 9 (i : Nat) = x1.toInt ∧ vw h 12 (i : Nat) ≤ x3.toInt ∧ (cHo (vw h) x1.toInt x2.toInt x3.toInt i).1 ≤ vw h 11 (i : Nat) ∧ vw h 11 (i : Nat) ≤ x2.toInt) → Pt n X zM86 14 [some (.ref 1), some (.int x1), some (.int x2), some (.int x3), some (.int x4), some (.int x5), some (.int w6), u7] [] h (qI (fun y h' => h' = h ∧ y = cHold (vw h) x1.toInt x2.toInt x3.toInt)) := by
      intro w6 u7 e g6 ng
      have es : cHo (vw h) x1.toInt x2.toInt x3.toInt (i + 1) = cHo (vw h) x1.toInt x2.toInt x3.toInt i := if_neg ng
      refine ih x1 x2 x3 x4 x5 w6 u7 (i + 1) ?_ (by omega) (by rw [es]; exact h5) (by rw [es]; exact h4)
      rw [g6, w32_id (by omega) (by omega)]; omega
    refine d86_14 S rfl rfl rfl h4 h5 hi ⟨fun e => ⟨rfl, ?_⟩, fun e p q => ⟨fun e2 w6 u7 g6 => nx w6 u7 e g6 (fun z => e2 z.1), fun e2 => ⟨fun e3 w6 u7 g6 => nx w6 u7 e g6 (fun z => by omega), fun e3 => ⟨fun e4 w6 u7 g6 => nx w6 u7 e g6 (fun z => e4 z.2.2), fun e4 w4 w5 w6 u7 g4 g5 g6 => ?_⟩⟩⟩⟩
    · unfold cHold
      rw [show (vw h 1 6).toNat = i by omega]
    · have es : cHo (vw h) x1.toInt x2.toInt x3.toInt (i + 1) = (vw h 11 (i : Nat), vw h 10 (i : Nat)) := if_pos ⟨e2, e3, e4⟩
      refine ih x1 x2 x3 w4 w5 w6 u7 (i + 1) ?_ (by omega) (by rw [es]; exact g5) (by rw [es]; exact g4)
      rw [g6, w32_id (by omega) (by omega)]; omega
theorem c_86 {n : Nat} {X : aX} {h : aH} {x1 x2 x3 : Int32} {a1 a2 a3 : Int} (S : wS h) (z1 : x1.toInt = a1) (z2 : x2.toInt = a2) (z3 : x3.toInt = a3) (hn : vw h 1 6 ≤ 200) : Pt n X zM86 0 [some (.ref 1), some (.int x1), some (.int x2), some (.int x3), none, none, none, none] [] h (qI (fun y h' => h' = h ∧ y = cHold (vw h) a1 a2 a3)) := by
  subst z1
  subst z2
  subst z3
  refine pt_d (d86_0 S rfl rfl rfl (fun p q w4 w5 w6 u7 g4 g5 g6 => l_86 S hn n x1 x2 x3 w4 w5 w6 u7 0 g6 (by omega) g5 g4))
def mHo (V : vS) (b d k : Int) : Nat → Int
  | 0 => -1
  | i + 1 => if V 83 (i : Nat) = b ∧ V 86 (i : Nat) ≤ k ∧ V 85 (i : Nat) ≤ d ∧ (mHo V b d k i < 0 ∨ V 85 (mHo V b d k i) ≤ V 85 (i : Nat)) then (i : Nat) else mHo V b d k i
def mHold (V : vS) (b d k : Int) : Int := if mHo V b d k (V 72 14).toNat < 0 then V 75 b else V 84 (mHo V b d k (V 72 14).toNat)
theorem l_226 {X : aX} {h : aH} (S : wS h) (hn : vw h 72 14 ≤ 200) : ∀ (n : Nat) (x1 x2 x3 x4 x5 : Int32) (i : Nat), x5.toInt = i → (i : Int) ≤ max 0 (vw h 72 14) → x4.toInt = mHo (vw h) x1.toInt x2.toInt x3.toInt i → Pt n X zM226 6 [some (.ref 72), some (.int x1), some (.int x2), some (.int x3), some (.int x4), some (.int x5)] [] h (qI (fun y h' => h' = h ∧ y = mHold (vw h) x1.toInt x2.toInt x3.toInt)) := by
  intro n
  induction n with
  | zero => exact fun _ _ _ _ _ _ _ _ _ => pt_z
  | succ n ih =>
    intro x1 x2 x3 x4 x5 i hi hin h4
    have nx : ∀ w5 : Int32, (i : Int) < vw h 72 14 → w5.toInt = w32 ((i : Nat) + 1) → ¬ (vw h 83 (i : Nat) = x1.toInt ∧ vw h 86 (i : Nat) ≤ x3.toInt ∧ vw h 85 (i : Nat) ≤ x2.toInt ∧ (mHo (vw h) x1.toInt x2.toInt x3.toInt i < 0 ∨ vw h 85 (mHo (vw h) x1.toInt x2.toInt x3.toInt i) ≤ vw h 85 (i : Nat))) → Pt n X zM226 6 [some (.ref 72), some (.int x1), some (.int x2), some (.int x3), some (.int x4), some (.int w5)] [] h (qI (fun y h' => h' = h ∧ y = mHold (vw h) x1.toInt x2.toInt x3.toInt)) := by
      intro w5 e g5 ng
      have es : mHo (vw h) x1.toInt x2.toInt x3.toInt (i + 1) = mHo (vw h) x1.toInt x2.toInt x3.toInt i := if_neg ng
      refine ih x1 x2 x3 x4 w5 (i + 1) ?_ (by omega) (by rw [es]; exact h4)
      rw [g5, w32_id (by omega) (by omega)]; omega
    have ys : ∀ w5 : Int32, (i : Int) < vw h 72 14 → w5.toInt = w32 ((i : Nat) + 1) → (vw h 83 (i : Nat) = x1.toInt ∧ vw h 86 (i : Nat) ≤ x3.toInt ∧ vw h 85 (i : Nat) ≤ x2.toInt ∧ (mHo (vw h) x1.toInt x2.toInt x3.toInt i < 0 ∨ vw h 85 (mHo (vw h) x1.toInt x2.toInt x3.toInt i) ≤ vw h 85 (i : Nat))) → Pt n X zM226 6 [some (.ref 72), some (.int x1), some (.int x2), some (.int x3), some (.int x5), some (.int w5)] [] h (qI (fun y h' => h' = h ∧ y = mHold (vw h) x1.toInt x2.toInt x3.toInt)) := by
      intro w5 e g5 ng
      have es : mHo (vw h) x1.toInt x2.toInt x3.toInt (i + 1) = (i : Nat) := if_pos ng
      refine ih x1 x2 x3 x5 w5 (i + 1) ?_ (by omega) (by rw [es]; exact hi)
      rw [g5, w32_id (by omega) (by omega)]; omega
    refine d226_6 S rfl rfl rfl h4 hi ⟨fun e => ⟨fun e2 p q => ⟨rfl, ?_⟩, fun e2 p q => ⟨rfl, ?_⟩⟩, fun e p q => ⟨fun e2 w5 g5 => nx w5 e g5 (fun z => e2 z.1), fun e2 => ⟨fun e3 w5 g5 => nx w5 e g5 (fun z => by omega), fun e3 => ⟨fun e4 w5 g5 => nx w5 e g5 (fun z => by omega), fun e4 => ⟨fun e5 w5 g5 => ys w5 e g5 ⟨e2, e3, e4, Or.inl e5⟩, fun e5 p5 q5 => ⟨fun e6 w5 g5 => nx w5 e g5 (fun z => by omega), fun e6 w5 g5 => ys w5 e g5 ⟨e2, e3, e4, Or.inr e6⟩⟩⟩⟩⟩⟩⟩
    · unfold mHold
      rw [show (vw h 72 14).toNat = i by omega, if_neg (by omega)]
    · unfold mHold
      rw [show (vw h 72 14).toNat = i by omega, if_pos (by omega)]
theorem c_226 {n : Nat} {X : aX} {h : aH} {x1 x2 x3 : Int32} {a1 a2 a3 : Int} (S : wS h) (z1 : x1.toInt = a1) (z2 : x2.toInt = a2) (z3 : x3.toInt = a3) (hn : vw h 72 14 ≤ 200) : Pt n X zM226 0 [some (.ref 72), some (.int x1), some (.int x2), some (.int x3), none, none] [] h (qI (fun y h' => h' = h ∧ y = mHold (vw h) a1 a2 a3)) := by
  subst z1
  subst z2
  subst z3
  refine pt_d (d226_0 S rfl rfl rfl (fun w4 w5 g4 g5 => l_226 S hn n x1 x2 x3 w4 w5 0 g5 (by omega) g4))
def JHand (V : vS) : Prop := V 1 6 = V 72 14 ∧ (∀ j, V 9 j = V 83 j) ∧ (∀ j, V 10 j = V 84 j) ∧ (∀ j, V 11 j = V 85 j) ∧ (∀ j, V 12 j = V 86 j) ∧ 0 ≤ V 1 6 ∧ V 1 6 ≤ 200 ∧ (∀ j, 0 ≤ j → j < V 1 6 → 0 ≤ V 11 j) ∧ ∀ j, -1 ≤ V 10 j
theorem ho_j {V : vS} (J : JHand V) (e7 : ∀ j, V 7 j = V 75 j) (b d k : Int) : ∀ i : Nat, (i : Int) ≤ V 1 6 → (mHo V b d k i < 0 ∧ mHo V b d k i = -1 ∧ cHo V b d k i = (0, V 75 b)) ∨ (0 ≤ mHo V b d k i ∧ mHo V b d k i < i ∧ cHo V b d k i = (V 85 (mHo V b d k i), V 84 (mHo V b d k i))) := by
  obtain ⟨j1, j2, j3, j4, j5, j6, j7, j8, j9⟩ := J
  intro i
  induction i with
  | zero => intro _; exact Or.inl ⟨by unfold mHo; decide, rfl, by unfold cHo; rw [e7]⟩
  | succ i ih =>
    intro hi
    have h0 := j8 (i : Nat) (by omega) (by omega)
    have ih := ih (by omega)
    have em : mHo V b d k (i + 1) = if V 83 (i : Nat) = b ∧ V 86 (i : Nat) ≤ k ∧ V 85 (i : Nat) ≤ d ∧ (mHo V b d k i < 0 ∨ V 85 (mHo V b d k i) ≤ V 85 (i : Nat)) then ((i : Nat) : Int) else mHo V b d k i := rfl
    have ec : cHo V b d k (i + 1) = if V 9 (i : Nat) = b ∧ V 12 (i : Nat) ≤ k ∧ (cHo V b d k i).1 ≤ V 11 (i : Nat) ∧ V 11 (i : Nat) ≤ d then (V 11 (i : Nat), V 10 (i : Nat)) else cHo V b d k i := rfl
    rw [j4] at h0
    have same : (V 9 (i : Nat) = b ∧ V 12 (i : Nat) ≤ k ∧ (cHo V b d k i).1 ≤ V 11 (i : Nat) ∧ V 11 (i : Nat) ≤ d) ↔ (V 83 (i : Nat) = b ∧ V 86 (i : Nat) ≤ k ∧ V 85 (i : Nat) ≤ d ∧ (mHo V b d k i < 0 ∨ V 85 (mHo V b d k i) ≤ V 85 (i : Nat))) := by
      rw [j2, j5, j4]
      rcases ih with ⟨q1, q2, q3⟩ | ⟨q1, q2, q3⟩
      · rw [q3]; dsimp only; omega
      · rw [q3]; dsimp only; omega
    by_cases c : V 83 (i : Nat) = b ∧ V 86 (i : Nat) ≤ k ∧ V 85 (i : Nat) ≤ d ∧ (mHo V b d k i < 0 ∨ V 85 (mHo V b d k i) ≤ V 85 (i : Nat))
    · rw [em, ec, if_pos c, if_pos (same.mpr c), j4, j3]
      exact Or.inr ⟨by omega, by omega, rfl⟩
    · rw [em, ec, if_neg c, if_neg (fun z => c (same.mp z))]
      rcases ih with q | ⟨q1, q2, q3⟩
      · exact Or.inl q
      · exact Or.inr ⟨q1, by omega, q3⟩
theorem hold_j {V : vS} (J : JHand V) (e7 : ∀ j, V 7 j = V 75 j) (b d k : Int) : cHold V b d k = mHold V b d k := by
  have h6 := J.2.2.2.2.2.1
  have := ho_j J e7 b d k (V 1 6).toNat (by omega)
  unfold cHold mHold
  rw [J.1] at this ⊢
  rcases this with ⟨q1, q2, q3⟩ | ⟨q1, q2, q3⟩
  · rw [q3, if_pos q1]
  · rw [q3, if_neg (by omega)]

theorem d85_0 {n : Nat} {X : aX} {h : aH} {P : Int → aH → Prop} {x1 x2 x3 : Int32} {a1 a2 a3 : Int} (S : wS h) (z1 : x1.toInt = a1) (z2 : x2.toInt = a2) (z3 : x3.toInt = a3) (H : ((200 ≤ vw h 1 6 → P (vw h 1 6) h) ∧ (vw h 1 6 < 200 → (0 ≤ vw h 1 6 → vw h 1 6 < 200 → ∀ h_21 : aH, wS h_21 → vw h_21 = up (up (up (up (up (vw h) 9 (vw h 1 6) a1) 10 (vw h 1 6) a2) 11 (vw h 1 6) a3) 12 (vw h 1 6) (vw h 1 0)) 1 6 (w32 ((vw h 1 6) + 1)) → P (w32 ((vw h 1 6) + 1)) h_21)))) : Pt (n + 1) X zM85 0 [some (.ref 1), some (.int x1), some (.int x2), some (.int x3)] [] h (qI P) := by
  refine pt_1 (fun n d => r_aloadn gx85_0 rfl) ?_
  refine pt_d (pt_getI (B := 6) gx85_1 S (fun v1 h1 => ?_))
  refine pt_d (pt_sipush gx85_4 (fun v2 h2 => ?_))
  refine pt_d (pt_icmp_ge gx85_7 h1 h2 (fun e3 => ?_) (fun e3 => ?_))
  · have H := H.1 e3
    refine pt_d (pt_1 (fun n d => r_aloadn gx85_63 rfl) ?_)
    refine pt_d (pt_getI (B := 6) gx85_64 S (fun v4 h4 => ?_))
    exact pt_d (pt_iret gx85_67 ⟨_, rfl, by rw [h4]; exact H⟩)
  · have H := H.2 e3
    refine pt_d (pt_1 (fun n d => r_aloadn gx85_10 rfl) ?_)
    refine pt_d (pt_getR gx85_11 S tr_1_14 ?_)
    refine pt_d (pt_1 (fun n d => r_aloadn gx85_14 rfl) ?_)
    refine pt_d (pt_getI (B := 6) gx85_15 S (fun v6 h6 => ?_))
    refine pt_d (pt_1 (fun n d => r_iloadn gx85_18 rfl) ?_)
    refine pt_d (pt_iast (N' := 200) gx85_19 S tl_9 h6 z1 (fun h_7 S7 p7 q7 e7 => ?_))
    have H := H p7 q7
    refine pt_d (pt_1 (fun n d => r_aloadn gx85_20 rfl) ?_)
    refine pt_d (pt_getR gx85_21 S7 tr_1_15 ?_)
    refine pt_d (pt_1 (fun n d => r_aloadn gx85_24 rfl) ?_)
    refine pt_d (pt_getI (B := 6) gx85_25 S7 (fun v9 h9 => ?_))
    have h9 : v9.toInt = vw h 1 6 := by rw [h9, e7, up_c (by decide)]
    refine pt_d (pt_1 (fun n d => r_iloadn gx85_28 rfl) ?_)
    refine pt_d (pt_iast (N' := 200) gx85_29 S7 tl_10 h9 z2 (fun h_10 S10 p10 q10 e10 => ?_))
    refine pt_d (pt_1 (fun n d => r_aloadn gx85_30 rfl) ?_)
    refine pt_d (pt_getR gx85_31 S10 tr_1_16 ?_)
    refine pt_d (pt_1 (fun n d => r_aloadn gx85_34 rfl) ?_)
    refine pt_d (pt_getI (B := 6) gx85_35 S10 (fun v12 h12 => ?_))
    have h12 : v12.toInt = vw h 1 6 := by rw [h12, e10, up_c (by decide), e7, up_c (by decide)]
    refine pt_d (pt_1 (fun n d => r_iloadn gx85_38 rfl) ?_)
    refine pt_d (pt_iast (N' := 200) gx85_39 S10 tl_11 h12 z3 (fun h_13 S13 p13 q13 e13 => ?_))
    refine pt_d (pt_1 (fun n d => r_aloadn gx85_40 rfl) ?_)
    refine pt_d (pt_getR gx85_41 S13 tr_1_17 ?_)
    refine pt_d (pt_1 (fun n d => r_aloadn gx85_44 rfl) ?_)
    refine pt_d (pt_getI (B := 6) gx85_45 S13 (fun v15 h15 => ?_))
    have h15 : v15.toInt = vw h 1 6 := by rw [h15, e13, up_c (by decide), e10, up_c (by decide), e7, up_c (by decide)]
    refine pt_d (pt_1 (fun n d => r_aloadn gx85_48 rfl) ?_)
    refine pt_d (pt_getI (B := 0) gx85_49 S13 (fun v16 h16 => ?_))
    have h16 : v16.toInt = vw h 1 0 := by rw [h16, e13, up_c (by decide), e10, up_c (by decide), e7, up_c (by decide)]
    refine pt_d (pt_iast (N' := 200) gx85_52 S13 tl_12 h15 h16 (fun h_17 S17 p17 q17 e17 => ?_))
    refine pt_d (pt_1 (fun n d => r_aloadn gx85_53 rfl) ?_)
    refine pt_d (pt_1 (fun n d => r_dup gx85_54 rfl) ?_)
    refine pt_d (pt_getI (B := 6) gx85_55 S17 (fun v18 h18 => ?_))
    have h18 : v18.toInt = vw h 1 6 := by rw [h18, e17, up_c (by decide), e13, up_c (by decide), e10, up_c (by decide), e7, up_c (by decide)]
    refine pt_d (pt_iconst gx85_58 (fun v19 h19 => ?_))
    refine pt_d (pt_iadd gx85_59 h18 h19 (fun v20 h20 => ?_))
    refine pt_d (pt_putI (B := 6) gx85_60 S17 h20 (fun h_21 S21 e21 => ?_))
    refine pt_d (pt_1 (fun n d => r_aloadn gx85_63 rfl) ?_)
    refine pt_d (pt_getI (B := 6) gx85_64 S21 (fun v22 h22 => ?_))
    have h22 : v22.toInt = w32 ((vw h 1 6) + 1) := by rw [h22, e21, up_s]
    have H := H h_21 S21 (by rw [e21, e17, e13, e10, e7])
    exact pt_d (pt_iret gx85_67 ⟨_, rfl, by rw [h22]; exact H⟩)
def RPass (V : vS) (b f d r : Int) (V' : vS) : Prop := (200 ≤ V 1 6 ∧ r = V 1 6 ∧ V' = V) ∨ (0 ≤ V 1 6 ∧ V 1 6 < 200 ∧ r = w32 (V 1 6 + 1) ∧ V' = up (up (up (up (up V 9 (V 1 6) b) 10 (V 1 6) f) 11 (V 1 6) d) 12 (V 1 6) (V 1 0)) 1 6 (w32 (V 1 6 + 1)))
theorem c_85 {n : Nat} {X : aX} {h : aH} {x1 x2 x3 : Int32} {a1 a2 a3 : Int} (S : wS h) (z1 : x1.toInt = a1) (z2 : x2.toInt = a2) (z3 : x3.toInt = a3) : Pt n X zM85 0 [some (.ref 1), some (.int x1), some (.int x2), some (.int x3)] [] h (qI (fun y h' => wS h' ∧ RPass (vw h) a1 a2 a3 y (vw h'))) := by
  refine pt_d (d85_0 S z1 z2 z3 ⟨fun e => ⟨S, Or.inl ⟨e, rfl, rfl⟩⟩, fun e p q g S2 eg => ⟨S2, Or.inr ⟨p, q, rfl, eg⟩⟩⟩)

theorem d28_0 {n : Nat} {X : aX} {h : aH} {P : Int → aH → Prop} {x1 x2 x3 : Int32} {a1 a2 a3 : Int} (S : wS h) (z1 : x1.toInt = a1) (z2 : x2.toInt = a2) (z3 : x3.toInt = a3) (H : (0 ≤ a1 → a1 < 300 → ((a2 < vw h 17 a1 → P 1 h) ∧ (vw h 17 a1 ≤ a2 → ((vw h 17 a1 ≠ a2 → P 0 h) ∧ (vw h 17 a1 = a2 → ((vw h 18 a1 ≤ a3 → P 0 h) ∧ (a3 < vw h 18 a1 → P 1 h)))))))) : Pt (n + 1) X zM28 0 [some (.ref 16), some (.int x1), some (.int x2), some (.int x3)] [] h (qI P) := by
  refine pt_1 (fun n d => r_aloadn gx28_0 rfl) ?_
  refine pt_d (pt_getR gx28_1 S tr_16_4 ?_)
  refine pt_d (pt_1 (fun n d => r_iloadn gx28_4 rfl) ?_)
  refine pt_d (pt_iald (N' := 300) gx28_5 S tl_17 z1 (fun v2 p2 q2 h2 => ?_))
  have H := H p2 q2
  refine pt_d (pt_1 (fun n d => r_iloadn gx28_6 rfl) ?_)
  refine pt_d (pt_icmp_gt gx28_7 h2 z2 (fun e3 => ?_) (fun e3 => ?_))
  · have H := H.1 e3
    refine pt_d (pt_iconst gx28_30 (fun v4 h4 => ?_))
    refine pt_d (pt_1 (fun n d => r_goto gx28_31) ?_)
    exact pt_d (pt_iret gx28_35 ⟨_, rfl, by rw [h4]; exact H⟩)
  · have H := H.2 e3
    refine pt_d (pt_1 (fun n d => r_aloadn gx28_10 rfl) ?_)
    refine pt_d (pt_getR gx28_11 S tr_16_4 ?_)
    refine pt_d (pt_1 (fun n d => r_iloadn gx28_14 rfl) ?_)
    refine pt_d (pt_iald (N' := 300) gx28_15 S tl_17 z1 (fun v6 p6 q6 h6 => ?_))
    refine pt_d (pt_1 (fun n d => r_iloadn gx28_16 rfl) ?_)
    refine pt_d (pt_icmp_ne gx28_17 h6 z2 (fun e7 => ?_) (fun e7 => ?_))
    · have H := H.1 e7
      refine pt_d (pt_iconst gx28_34 (fun v8 h8 => ?_))
      exact pt_d (pt_iret gx28_35 ⟨_, rfl, by rw [h8]; exact H⟩)
    · have H := H.2 e7
      refine pt_d (pt_1 (fun n d => r_aloadn gx28_20 rfl) ?_)
      refine pt_d (pt_getR gx28_21 S tr_16_5 ?_)
      refine pt_d (pt_1 (fun n d => r_iloadn gx28_24 rfl) ?_)
      refine pt_d (pt_iald (N' := 300) gx28_25 S tl_18 z1 (fun v10 p10 q10 h10 => ?_))
      refine pt_d (pt_1 (fun n d => r_iloadn gx28_26 rfl) ?_)
      refine pt_d (pt_icmp_le gx28_27 h10 z3 (fun e11 => ?_) (fun e11 => ?_))
      · have H := H.1 e11
        refine pt_d (pt_iconst gx28_34 (fun v12 h12 => ?_))
        exact pt_d (pt_iret gx28_35 ⟨_, rfl, by rw [h12]; exact H⟩)
      · have H := H.2 e11
        refine pt_d (pt_iconst gx28_30 (fun v13 h13 => ?_))
        refine pt_d (pt_1 (fun n d => r_goto gx28_31) ?_)
        exact pt_d (pt_iret gx28_35 ⟨_, rfl, by rw [h13]; exact H⟩)
theorem c_28 {n : Nat} {X : aX} {h : aH} {x1 x2 x3 : Int32} {a1 a2 a3 : Int} (S : wS h) (z1 : x1.toInt = a1) (z2 : x2.toInt = a2) (z3 : x3.toInt = a3) : Pt n X zM28 0 [some (.ref 16), some (.int x1), some (.int x2), some (.int x3)] [] h (qI (fun y h' => h' = h ∧ y = bI (a2 < (vw h) 17 a1 ∨ ((vw h) 17 a1 = a2 ∧ a3 < (vw h) 18 a1)))) := by
  refine pt_d (d28_0 S z1 z2 z3 ?_)
  repeat' (first | (refine And.intro ?_ ?_) | intro _)
  all_goals first
    | rfl
    | exact (bI_t (by omega)).symm
    | exact (bI_f (by omega)).symm
    | exact bI_c (by omega)
    | omega
theorem d27_0 {n : Nat} {X : aX} {h : aH} {P : Int → aH → Prop} {x1 x2 x3 : Int32} {a1 a2 a3 : Int} (S : wS h) (z1 : x1.toInt = a1) (z2 : x2.toInt = a2) (z3 : x3.toInt = a3) (H : ((300 ≤ vw h 16 1 → P (vw h 16 1) h) ∧ (vw h 16 1 < 300 → (0 ≤ vw h 16 1 → vw h 16 1 < 300 → ∀ h_18 : aH, wS h_18 → vw h_18 = up (up (up (up (vw h) 17 (vw h 16 1) a1) 18 (vw h 16 1) a2) 19 (vw h 16 1) a3) 20 (vw h 16 1) (vw h 1 0) → (∀ (w4 : Int32), w4.toInt = vw h 16 1 → Pt n X zM27 62 [some (.ref 16), some (.int x1), some (.int x2), some (.int x3), some (.int w4)] [] h_18 (qI P)))))) : Pt (n + 1) X zM27 0 [some (.ref 16), some (.int x1), some (.int x2), some (.int x3), none] [] h (qI P) := by
  refine pt_1 (fun n d => r_aloadn gx27_0 rfl) ?_
  refine pt_d (pt_getI (B := 1) gx27_1 S (fun v1 h1 => ?_))
  refine pt_d (pt_sipush gx27_4 (fun v2 h2 => ?_))
  refine pt_d (pt_icmp_ge gx27_7 h1 h2 (fun e3 => ?_) (fun e3 => ?_))
  · have H := H.1 e3
    refine pt_d (pt_1 (fun n d => r_aloadn gx27_128 rfl) ?_)
    refine pt_d (pt_getI (B := 1) gx27_129 S (fun v4 h4 => ?_))
    exact pt_d (pt_iret gx27_132 ⟨_, rfl, by rw [h4]; exact H⟩)
  · have H := H.2 e3
    refine pt_d (pt_1 (fun n d => r_aloadn gx27_10 rfl) ?_)
    refine pt_d (pt_getR gx27_11 S tr_16_4 ?_)
    refine pt_d (pt_1 (fun n d => r_aloadn gx27_14 rfl) ?_)
    refine pt_d (pt_getI (B := 1) gx27_15 S (fun v6 h6 => ?_))
    refine pt_d (pt_1 (fun n d => r_iloadn gx27_18 rfl) ?_)
    refine pt_d (pt_iast (N' := 300) gx27_19 S tl_17 h6 z1 (fun h_7 S7 p7 q7 e7 => ?_))
    have H := H p7 q7
    refine pt_d (pt_1 (fun n d => r_aloadn gx27_20 rfl) ?_)
    refine pt_d (pt_getR gx27_21 S7 tr_16_5 ?_)
    refine pt_d (pt_1 (fun n d => r_aloadn gx27_24 rfl) ?_)
    refine pt_d (pt_getI (B := 1) gx27_25 S7 (fun v9 h9 => ?_))
    have h9 : v9.toInt = vw h 16 1 := by rw [h9, e7, up_c (by decide)]
    refine pt_d (pt_1 (fun n d => r_iloadn gx27_28 rfl) ?_)
    refine pt_d (pt_iast (N' := 300) gx27_29 S7 tl_18 h9 z2 (fun h_10 S10 p10 q10 e10 => ?_))
    refine pt_d (pt_1 (fun n d => r_aloadn gx27_30 rfl) ?_)
    refine pt_d (pt_getR gx27_31 S10 tr_16_6 ?_)
    refine pt_d (pt_1 (fun n d => r_aloadn gx27_34 rfl) ?_)
    refine pt_d (pt_getI (B := 1) gx27_35 S10 (fun v12 h12 => ?_))
    have h12 : v12.toInt = vw h 16 1 := by rw [h12, e10, up_c (by decide), e7, up_c (by decide)]
    refine pt_d (pt_1 (fun n d => r_iloadn gx27_38 rfl) ?_)
    refine pt_d (pt_iast (N' := 300) gx27_39 S10 tl_19 h12 z3 (fun h_13 S13 p13 q13 e13 => ?_))
    refine pt_d (pt_1 (fun n d => r_aloadn gx27_40 rfl) ?_)
    refine pt_d (pt_getR gx27_41 S13 tr_16_7 ?_)
    refine pt_d (pt_1 (fun n d => r_aloadn gx27_44 rfl) ?_)
    refine pt_d (pt_getI (B := 1) gx27_45 S13 (fun v15 h15 => ?_))
    have h15 : v15.toInt = vw h 16 1 := by rw [h15, e13, up_c (by decide), e10, up_c (by decide), e7, up_c (by decide)]
    refine pt_d (pt_1 (fun n d => r_aloadn gx27_48 rfl) ?_)
    refine pt_d (pt_getR gx27_49 S13 tr_16_0 ?_)
    refine pt_d (pt_getI (B := 0) gx27_52 S13 (fun v17 h17 => ?_))
    have h17 : v17.toInt = vw h 1 0 := by rw [h17, e13, up_c (by decide), e10, up_c (by decide), e7, up_c (by decide)]
    refine pt_d (pt_iast (N' := 300) gx27_55 S13 tl_20 h15 h17 (fun h_18 S18 p18 q18 e18 => ?_))
    refine pt_d (pt_1 (fun n d => r_aloadn gx27_56 rfl) ?_)
    refine pt_d (pt_getI (B := 1) gx27_57 S18 (fun v19 h19 => ?_))
    have h19 : v19.toInt = vw h 16 1 := by rw [h19, e18, up_c (by decide), e13, up_c (by decide), e10, up_c (by decide), e7, up_c (by decide)]
    refine pt_d (pt_1 (fun n d => r_istore (L' := [some (.ref 16), some (.int x1), some (.int x2), some (.int x3), some (.int v19)]) gx27_60 rfl rfl) ?_)
    have H := H h_18 S18 (by rw [e18, e13, e10, e7])
    exact H v19 h19
theorem d27_62 {n : Nat} {X : aX} {h : aH} {P : Int → aH → Prop} {x1 x2 x3 x4 : Int32} {a1 a2 a3 a4 : Int} (S : wS h) (z1 : x1.toInt = a1) (z2 : x2.toInt = a2) (z3 : x3.toInt = a3) (z4 : x4.toInt = a4) (H : ((a4 ≤ 0 → (0 ≤ a4 → a4 < 300 → ∀ h_8 : aH, wS h_8 → vw h_8 = up (up (vw h) 21 a4 (vw h 16 1)) 16 1 (w32 ((vw h 16 1) + 1)) → P (w32 ((vw h 16 1) + 1)) h_8)) ∧ (0 < a4 → (0 ≤ w32 (a4 - 1) → w32 (a4 - 1) < 300 → ((¬ (a1 < (vw h) 17 (vw h 21 (w32 (a4 - 1))) ∨ ((vw h) 17 (vw h 21 (w32 (a4 - 1))) = a1 ∧ a2 < (vw h) 18 (vw h 21 (w32 (a4 - 1))))) → (0 ≤ a4 → a4 < 300 → ∀ h_22 : aH, wS h_22 → vw h_22 = up (up (vw h) 21 a4 (vw h 16 1)) 16 1 (w32 ((vw h 16 1) + 1)) → P (w32 ((vw h 16 1) + 1)) h_22)) ∧ ((a1 < (vw h) 17 (vw h 21 (w32 (a4 - 1))) ∨ ((vw h) 17 (vw h 21 (w32 (a4 - 1))) = a1 ∧ a2 < (vw h) 18 (vw h 21 (w32 (a4 - 1))))) → (0 ≤ a4 → a4 < 300 → ∀ h_29 : aH, wS h_29 → vw h_29 = up (vw h) 21 a4 (vw h 21 (w32 (a4 - 1))) → (∀ (w4 : Int32), w4.toInt = w32 (a4 + (-1)) → Pt n X zM27 62 [some (.ref 16), some (.int x1), some (.int x2), some (.int x3), some (.int w4)] [] h_29 (qI P))))))))) : Pt (n + 1) X zM27 62 [some (.ref 16), some (.int x1), some (.int x2), some (.int x3), some (.int x4)] [] h (qI P) := by
  refine pt_1 (fun n d => r_iload gx27_62 rfl) ?_
  refine pt_d (pt_if_le gx27_64 z4 (fun e1 => ?_) (fun e1 => ?_))
  · have H := H.1 e1
    refine pt_d (pt_1 (fun n d => r_aloadn gx27_107 rfl) ?_)
    refine pt_d (pt_getR gx27_108 S tr_16_8 ?_)
    refine pt_d (pt_1 (fun n d => r_iload gx27_111 rfl) ?_)
    refine pt_d (pt_1 (fun n d => r_aloadn gx27_113 rfl) ?_)
    refine pt_d (pt_getI (B := 1) gx27_114 S (fun v3 h3 => ?_))
    refine pt_d (pt_iast (N' := 300) gx27_117 S tl_21 z4 h3 (fun h_4 S4 p4 q4 e4 => ?_))
    have H := H p4 q4
    refine pt_d (pt_1 (fun n d => r_aloadn gx27_118 rfl) ?_)
    refine pt_d (pt_1 (fun n d => r_dup gx27_119 rfl) ?_)
    refine pt_d (pt_getI (B := 1) gx27_120 S4 (fun v5 h5 => ?_))
    have h5 : v5.toInt = vw h 16 1 := by rw [h5, e4, up_c (by decide)]
    refine pt_d (pt_iconst gx27_123 (fun v6 h6 => ?_))
    refine pt_d (pt_iadd gx27_124 h5 h6 (fun v7 h7 => ?_))
    refine pt_d (pt_putI (B := 1) gx27_125 S4 h7 (fun h_8 S8 e8 => ?_))
    refine pt_d (pt_1 (fun n d => r_aloadn gx27_128 rfl) ?_)
    refine pt_d (pt_getI (B := 1) gx27_129 S8 (fun v9 h9 => ?_))
    have h9 : v9.toInt = w32 ((vw h 16 1) + 1) := by rw [h9, e8, up_s]
    have H := H h_8 S8 (by rw [e8, e4])
    exact pt_d (pt_iret gx27_132 ⟨_, rfl, by rw [h9]; exact H⟩)
  · have H := H.2 e1
    refine pt_d (pt_1 (fun n d => r_aloadn gx27_67 rfl) ?_)
    refine pt_d (pt_1 (fun n d => r_aloadn gx27_68 rfl) ?_)
    refine pt_d (pt_getR gx27_69 S tr_16_8 ?_)
    refine pt_d (pt_1 (fun n d => r_iload gx27_72 rfl) ?_)
    refine pt_d (pt_iconst gx27_74 (fun v11 h11 => ?_))
    refine pt_d (pt_isub gx27_75 z4 h11 (fun v12 h12 => ?_))
    refine pt_d (pt_iald (N' := 300) gx27_76 S tl_21 h12 (fun v13 p13 q13 h13 => ?_))
    have H := H p13 q13
    refine pt_d (pt_1 (fun n d => r_iloadn gx27_77 rfl) ?_)
    refine pt_d (pt_1 (fun n d => r_iloadn gx27_78 rfl) ?_)
    refine pt_d (pt_virt (as := [.int v13, .int x1, .int x2]) (r := []) gx27_79 rfl (show zmt[28]? = some zM28 from rfl) rfl rfl rfl rfl (c_28 S h13 z1 z2) (kqP (fun v14 h14 => ?_)))
    show Pt _ _ _ 82 _ [.int v14] _ _
    refine pt_d (pt_ifB_eq gx27_82 h14 (fun e15 => ?_) (fun e15 => ?_))
    · have H := H.1 e15
      refine pt_d (pt_1 (fun n d => r_aloadn gx27_107 rfl) ?_)
      refine pt_d (pt_getR gx27_108 S tr_16_8 ?_)
      refine pt_d (pt_1 (fun n d => r_iload gx27_111 rfl) ?_)
      refine pt_d (pt_1 (fun n d => r_aloadn gx27_113 rfl) ?_)
      refine pt_d (pt_getI (B := 1) gx27_114 S (fun v17 h17 => ?_))
      refine pt_d (pt_iast (N' := 300) gx27_117 S tl_21 z4 h17 (fun h_18 S18 p18 q18 e18 => ?_))
      have H := H p18 q18
      refine pt_d (pt_1 (fun n d => r_aloadn gx27_118 rfl) ?_)
      refine pt_d (pt_1 (fun n d => r_dup gx27_119 rfl) ?_)
      refine pt_d (pt_getI (B := 1) gx27_120 S18 (fun v19 h19 => ?_))
      have h19 : v19.toInt = vw h 16 1 := by rw [h19, e18, up_c (by decide)]
      refine pt_d (pt_iconst gx27_123 (fun v20 h20 => ?_))
      refine pt_d (pt_iadd gx27_124 h19 h20 (fun v21 h21 => ?_))
      refine pt_d (pt_putI (B := 1) gx27_125 S18 h21 (fun h_22 S22 e22 => ?_))
      refine pt_d (pt_1 (fun n d => r_aloadn gx27_128 rfl) ?_)
      refine pt_d (pt_getI (B := 1) gx27_129 S22 (fun v23 h23 => ?_))
      have h23 : v23.toInt = w32 ((vw h 16 1) + 1) := by rw [h23, e22, up_s]
      have H := H h_22 S22 (by rw [e22, e18])
      exact pt_d (pt_iret gx27_132 ⟨_, rfl, by rw [h23]; exact H⟩)
    · have H := H.2 e15
      refine pt_d (pt_1 (fun n d => r_aloadn gx27_85 rfl) ?_)
      refine pt_d (pt_getR gx27_86 S tr_16_8 ?_)
      refine pt_d (pt_1 (fun n d => r_iload gx27_89 rfl) ?_)
      refine pt_d (pt_1 (fun n d => r_aloadn gx27_91 rfl) ?_)
      refine pt_d (pt_getR gx27_92 S tr_16_8 ?_)
      refine pt_d (pt_1 (fun n d => r_iload gx27_95 rfl) ?_)
      refine pt_d (pt_iconst gx27_97 (fun v26 h26 => ?_))
      refine pt_d (pt_isub gx27_98 z4 h26 (fun v27 h27 => ?_))
      refine pt_d (pt_iald (N' := 300) gx27_99 S tl_21 h27 (fun v28 p28 q28 h28 => ?_))
      refine pt_d (pt_iast (N' := 300) gx27_100 S tl_21 z4 h28 (fun h_29 S29 p29 q29 e29 => ?_))
      have H := H p29 q29
      refine pt_d (pt_iinc (c := (-1)) gx27_101 rfl z4 (fun v30 h30 => ?_))
      show Pt _ _ _ _ [some (.ref 16), some (.int x1), some (.int x2), some (.int x3), some (.int v30)] [] _ _
      refine pt_d (pt_1 (fun n d => r_goto gx27_104) ?_)
      have H := H h_29 S29 (by rw [e29])
      exact H v30 h30
def RClm (V : vS) (f b c r : Int) (V' : vS) : Prop := (300 ≤ V 16 1 ∧ r = V 16 1 ∧ V' = V) ∨ (0 ≤ V 16 1 ∧ V 16 1 < 300 ∧ r = w32 (V 16 1 + 1) ∧ ∀ c' j, c' ≠ 21 → V' c' j = up (up (up (up (up V 17 (V 16 1) f) 18 (V 16 1) b) 19 (V 16 1) c) 20 (V 16 1) (V 1 0)) 16 1 (w32 (V 16 1 + 1)) c' j)
theorem d154_0 {n : Nat} {X : aX} {h : aH} {P : Int → aH → Prop} {x1 : Int32} {a1 : Int} (S : wS h) (z1 : x1.toInt = a1) (H : (((cField (vw h) a1) → (0 ≤ a1 → a1 < 150 → ((vw h 5 a1 = (-1) → ∀ h_18 : aH, wS h_18 → vw h_18 = up (up (vw h) 5 a1 (vw h 1 0)) 1 5 (w32 ((vw h 1 5) + 1)) → P 1 h_18) ∧ (vw h 5 a1 ≠ (-1) → P (-2) h)))) ∧ (¬ (cField (vw h) a1) → P (-1) h))) : Pt (n + 1) X zM154 0 [some (.ref 0), some (.int x1)] [] h (qI P) := by
  refine pt_1 (fun n d => r_aloadn gx154_0 rfl) ?_
  refine pt_d (pt_getR gx154_1 S tr_0_0 ?_)
  refine pt_d (pt_1 (fun n d => r_iloadn gx154_4 rfl) ?_)
  refine pt_d (pt_virt (as := [.int x1]) (r := []) gx154_5 rfl (show zmt[77]? = some zM77 from rfl) rfl rfl rfl rfl (c_77 S z1) (kqP (fun v2 h2 => ?_)))
  show Pt _ _ _ 8 _ [.int v2] _ _
  refine pt_d (pt_ifB_ne gx154_8 h2 (fun e3 => ?_) (fun e3 => ?_))
  · have H := H.1 e3
    refine pt_d (pt_1 (fun n d => r_aloadn gx154_13 rfl) ?_)
    refine pt_d (pt_getR gx154_14 S tr_0_0 ?_)
    refine pt_d (pt_getR gx154_17 S tr_1_10 ?_)
    refine pt_d (pt_1 (fun n d => r_iloadn gx154_20 rfl) ?_)
    refine pt_d (pt_iald (N' := 150) gx154_21 S tl_5 z1 (fun v6 p6 q6 h6 => ?_))
    have H := H p6 q6
    refine pt_d (pt_iconst gx154_22 (fun v7 h7 => ?_))
    refine pt_d (pt_icmp_eq gx154_23 h6 h7 (fun e8 => ?_) (fun e8 => ?_))
    · have H := H.1 e8
      refine pt_d (pt_1 (fun n d => r_aloadn gx154_29 rfl) ?_)
      refine pt_d (pt_getR gx154_30 S tr_0_0 ?_)
      refine pt_d (pt_getR gx154_33 S tr_1_10 ?_)
      refine pt_d (pt_1 (fun n d => r_iloadn gx154_36 rfl) ?_)
      refine pt_d (pt_1 (fun n d => r_aloadn gx154_37 rfl) ?_)
      refine pt_d (pt_getR gx154_38 S tr_0_0 ?_)
      refine pt_d (pt_getI (B := 0) gx154_41 S (fun v12 h12 => ?_))
      refine pt_d (pt_iast (N' := 150) gx154_44 S tl_5 z1 h12 (fun h_13 S13 p13 q13 e13 => ?_))
      refine pt_d (pt_1 (fun n d => r_aloadn gx154_45 rfl) ?_)
      refine pt_d (pt_getR gx154_46 S13 tr_0_0 ?_)
      refine pt_d (pt_1 (fun n d => r_dup gx154_49 rfl) ?_)
      refine pt_d (pt_getI (B := 5) gx154_50 S13 (fun v15 h15 => ?_))
      have h15 : v15.toInt = vw h 1 5 := by rw [h15, e13, up_c (by decide)]
      refine pt_d (pt_iconst gx154_53 (fun v16 h16 => ?_))
      refine pt_d (pt_iadd gx154_54 h15 h16 (fun v17 h17 => ?_))
      refine pt_d (pt_putI (B := 5) gx154_55 S13 h17 (fun h_18 S18 e18 => ?_))
      refine pt_d (pt_iconst gx154_58 (fun v19 h19 => ?_))
      have H := H h_18 S18 (by rw [e18, e13])
      exact pt_d (pt_iret gx154_59 ⟨_, rfl, by rw [h19]; exact H⟩)
    · have H := H.2 e8
      refine pt_d (pt_bipush gx154_26 (fun v20 h20 => ?_))
      exact pt_d (pt_iret gx154_28 ⟨_, rfl, by rw [h20]; exact H⟩)
  · have H := H.2 e3
    refine pt_d (pt_iconst gx154_11 (fun v21 h21 => ?_))
    exact pt_d (pt_iret gx154_12 ⟨_, rfl, by rw [h21]; exact H⟩)
theorem d224_0 {n : Nat} {X : aX} {h : aH} {P : Int → aH → Prop} {x1 : Int32} {a1 : Int} (S : wS h) (z1 : x1.toInt = a1) (H : (((mField (vw h) a1) → (0 ≤ a1 → a1 < 150 → ((vw h 77 a1 < 0 → ∀ h_10 : aH, wS h_10 → vw h_10 = up (up (vw h) 77 a1 (vw h 72 1)) 72 38 1 → P 1 h_10) ∧ (0 ≤ vw h 77 a1 → P (-2) h)))) ∧ (¬ (mField (vw h) a1) → P (-1) h))) : Pt (n + 1) X zM224 0 [some (.ref 72), some (.int x1)] [] h (qI P) := by
  refine pt_1 (fun n d => r_aloadn gx224_0 rfl) ?_
  refine pt_d (pt_1 (fun n d => r_iloadn gx224_1 rfl) ?_)
  refine pt_d (pt_virt (as := [.int x1]) (r := []) gx224_2 rfl (show zmt[203]? = some zM203 from rfl) rfl rfl rfl rfl (c_203 S z1) (kqP (fun v1 h1 => ?_)))
  show Pt _ _ _ 5 _ [.int v1] _ _
  refine pt_d (pt_ifB_ne gx224_5 h1 (fun e2 => ?_) (fun e2 => ?_))
  · have H := H.1 e2
    refine pt_d (pt_1 (fun n d => r_aloadn gx224_10 rfl) ?_)
    refine pt_d (pt_getR gx224_11 S tr_72_7 ?_)
    refine pt_d (pt_1 (fun n d => r_iloadn gx224_14 rfl) ?_)
    refine pt_d (pt_iald (N' := 150) gx224_15 S tl_77 z1 (fun v4 p4 q4 h4 => ?_))
    have H := H p4 q4
    refine pt_d (pt_if_lt gx224_16 h4 (fun e5 => ?_) (fun e5 => ?_))
    · have H := H.1 e5
      refine pt_d (pt_1 (fun n d => r_aloadn gx224_22 rfl) ?_)
      refine pt_d (pt_getR gx224_23 S tr_72_7 ?_)
      refine pt_d (pt_1 (fun n d => r_iloadn gx224_26 rfl) ?_)
      refine pt_d (pt_1 (fun n d => r_aloadn gx224_27 rfl) ?_)
      refine pt_d (pt_getI (B := 1) gx224_28 S (fun v7 h7 => ?_))
      refine pt_d (pt_iast (N' := 150) gx224_31 S tl_77 z1 h7 (fun h_8 S8 p8 q8 e8 => ?_))
      refine pt_d (pt_1 (fun n d => r_aloadn gx224_32 rfl) ?_)
      refine pt_d (pt_iconst gx224_33 (fun v9 h9 => ?_))
      refine pt_d (pt_putI (B := 38) gx224_34 S8 h9 (fun h_10 S10 e10 => ?_))
      refine pt_d (pt_iconst gx224_37 (fun v11 h11 => ?_))
      have H := H h_10 S10 (by rw [e10, e8])
      exact pt_d (pt_iret gx224_38 ⟨_, rfl, by rw [h11]; exact H⟩)
    · have H := H.2 e5
      refine pt_d (pt_bipush gx224_19 (fun v12 h12 => ?_))
      exact pt_d (pt_iret gx224_21 ⟨_, rfl, by rw [h12]; exact H⟩)
  · have H := H.2 e2
    refine pt_d (pt_iconst gx224_8 (fun v13 h13 => ?_))
    exact pt_d (pt_iret gx224_9 ⟨_, rfl, by rw [h13]; exact H⟩)
theorem d155_0 {n : Nat} {X : aX} {h : aH} {P : Int → aH → Prop} {x1 x2 x3 : Int32} {a1 a2 a3 : Int} (S : wS h) (z1 : x1.toInt = a1) (z2 : x2.toInt = a2) (z3 : x3.toInt = a3) (H : ((¬ (cHeld (vw h) a1) → P (-1) h) ∧ ((cHeld (vw h) a1) → ((¬ (cFarm (vw h) a2) → P (-1) h) ∧ ((cFarm (vw h) a2) → (((0 ≤ a3 ∧ a3 ≤ 3649) → ((vw h 1 6 < 200 → ∀ (y16 : Int) (h_16 : aH), (wS h_16 ∧ RPass (vw h) a1 a2 a3 y16 (vw h_16)) → P y16 h_16) ∧ (200 ≤ vw h 1 6 → P (-3) h))) ∧ (¬ (0 ≤ a3 ∧ a3 ≤ 3649) → P (-1) h))))))) : Pt (n + 1) X zM155 0 [some (.ref 0), some (.int x1), some (.int x2), some (.int x3)] [] h (qI P) := by
  refine pt_1 (fun n d => r_aloadn gx155_0 rfl) ?_
  refine pt_d (pt_getR gx155_1 S tr_0_0 ?_)
  refine pt_d (pt_1 (fun n d => r_iloadn gx155_4 rfl) ?_)
  refine pt_d (pt_virt (as := [.int x1]) (r := []) gx155_5 rfl (show zmt[78]? = some zM78 from rfl) rfl rfl rfl rfl (c_78 S z1) (kqP (fun v2 h2 => ?_)))
  show Pt _ _ _ 8 _ [.int v2] _ _
  refine pt_d (pt_ifB_eq gx155_8 h2 (fun e3 => ?_) (fun e3 => ?_))
  · have H := H.1 e3
    refine pt_d (pt_iconst gx155_29 (fun v4 h4 => ?_))
    exact pt_d (pt_iret gx155_30 ⟨_, rfl, by rw [h4]; exact H⟩)
  · have H := H.2 e3
    refine pt_d (pt_1 (fun n d => r_aloadn gx155_11 rfl) ?_)
    refine pt_d (pt_getR gx155_12 S tr_0_0 ?_)
    refine pt_d (pt_1 (fun n d => r_iloadn gx155_15 rfl) ?_)
    refine pt_d (pt_virt (as := [.int x2]) (r := []) gx155_16 rfl (show zmt[75]? = some zM75 from rfl) rfl rfl rfl rfl (c_75 S z2) (kqP (fun v6 h6 => ?_)))
    show Pt _ _ _ 19 _ [.int v6] _ _
    refine pt_d (pt_ifB_eq gx155_19 h6 (fun e7 => ?_) (fun e7 => ?_))
    · have H := H.1 e7
      refine pt_d (pt_iconst gx155_29 (fun v8 h8 => ?_))
      exact pt_d (pt_iret gx155_30 ⟨_, rfl, by rw [h8]; exact H⟩)
    · have H := H.2 e7
      refine pt_d (pt_1 (fun n d => r_iloadn gx155_22 rfl) ?_)
      refine pt_d (pt_stat (as := [.int x3]) (r := []) gx155_23 rfl (show zmt[138]? = some zM138 from rfl) rfl rfl rfl rfl (c_138 S z3) (kqP (fun v9 h9 => ?_)))
      show Pt _ _ _ 26 _ [.int v9] _ _
      refine pt_d (pt_ifB_ne gx155_26 h9 (fun e10 => ?_) (fun e10 => ?_))
      · have H := H.1 e10
        refine pt_d (pt_1 (fun n d => r_aloadn gx155_31 rfl) ?_)
        refine pt_d (pt_getR gx155_32 S tr_0_0 ?_)
        refine pt_d (pt_getI (B := 6) gx155_35 S (fun v12 h12 => ?_))
        refine pt_d (pt_sipush gx155_38 (fun v13 h13 => ?_))
        refine pt_d (pt_icmp_lt gx155_41 h12 h13 (fun e14 => ?_) (fun e14 => ?_))
        · have H := H.1 e14
          refine pt_d (pt_1 (fun n d => r_aloadn gx155_49 rfl) ?_)
          refine pt_d (pt_getR gx155_50 S tr_0_0 ?_)
          refine pt_d (pt_1 (fun n d => r_iloadn gx155_53 rfl) ?_)
          refine pt_d (pt_1 (fun n d => r_iloadn gx155_54 rfl) ?_)
          refine pt_d (pt_1 (fun n d => r_iloadn gx155_55 rfl) ?_)
          refine pt_d (pt_virt (as := [.int x1, .int x2, .int x3]) (r := []) gx155_56 rfl (show zmt[85]? = some zM85 from rfl) rfl rfl rfl rfl (c_85 S z1 z2 z3) (kqI (fun v16 y16 h_16 h16 P16 => ?_)))
          have S16 := P16.1
          have H := H y16 h_16 P16
          show Pt _ _ _ 59 _ [.int v16] _ _
          exact pt_d (pt_iret gx155_59 ⟨_, rfl, by rw [h16]; exact H⟩)
        · have H := H.2 e14
          refine pt_d (pt_bipush gx155_44 (fun v17 h17 => ?_))
          refine pt_d (pt_1 (fun n d => r_goto gx155_46) ?_)
          exact pt_d (pt_iret gx155_59 ⟨_, rfl, by rw [h17]; exact H⟩)
      · have H := H.2 e10
        refine pt_d (pt_iconst gx155_29 (fun v18 h18 => ?_))
        exact pt_d (pt_iret gx155_30 ⟨_, rfl, by rw [h18]; exact H⟩)
theorem d225_0 {n : Nat} {X : aX} {h : aH} {P : Int → aH → Prop} {x1 x2 x3 : Int32} {a1 a2 a3 : Int} (S : wS h) (z1 : x1.toInt = a1) (z2 : x2.toInt = a2) (z3 : x3.toInt = a3) (H : ((¬ (mBody (vw h) a1) → P (-1) h) ∧ ((mBody (vw h) a1) → (((mField (vw h) a1) → ((¬ (mFarm (vw h) a2) → P (-1) h) ∧ ((mFarm (vw h) a2) → (((0 ≤ a3 ∧ a3 ≤ 3649) → ((vw h 72 14 ≠ 200 → (0 ≤ vw h 72 14 → vw h 72 14 < 200 → ∀ h_30 : aH, wS h_30 → vw h_30 = up (up (up (up (up (vw h) 83 (vw h 72 14) a1) 84 (vw h 72 14) a2) 85 (vw h 72 14) a3) 86 (vw h 72 14) (vw h 72 1)) 72 14 (w32 ((vw h 72 14) + 1)) → P (w32 ((vw h 72 14) + 1)) h_30)) ∧ (vw h 72 14 = 200 → P (-3) h))) ∧ (¬ (0 ≤ a3 ∧ a3 ≤ 3649) → P (-1) h))))) ∧ (¬ (mField (vw h) a1) → (0 ≤ a1 → a1 < 150 → ((vw h 73 a1 ≠ 6 → P (-1) h) ∧ (vw h 73 a1 = 6 → ((¬ (mFarm (vw h) a2) → P (-1) h) ∧ ((mFarm (vw h) a2) → (((0 ≤ a3 ∧ a3 ≤ 3649) → ((vw h 72 14 ≠ 200 → (0 ≤ vw h 72 14 → vw h 72 14 < 200 → ∀ h_63 : aH, wS h_63 → vw h_63 = up (up (up (up (up (vw h) 83 (vw h 72 14) a1) 84 (vw h 72 14) a2) 85 (vw h 72 14) a3) 86 (vw h 72 14) (vw h 72 1)) 72 14 (w32 ((vw h 72 14) + 1)) → P (w32 ((vw h 72 14) + 1)) h_63)) ∧ (vw h 72 14 = 200 → P (-3) h))) ∧ (¬ (0 ≤ a3 ∧ a3 ≤ 3649) → P (-1) h)))))))))))) : Pt (n + 1) X zM225 0 [some (.ref 72), some (.int x1), some (.int x2), some (.int x3)] [] h (qI P) := by
  refine pt_1 (fun n d => r_aloadn gx225_0 rfl) ?_
  refine pt_d (pt_1 (fun n d => r_iloadn gx225_1 rfl) ?_)
  refine pt_d (pt_virt (as := [.int x1]) (r := []) gx225_2 rfl (show zmt[200]? = some zM200 from rfl) rfl rfl rfl rfl (c_200 S z1) (kqP (fun v1 h1 => ?_)))
  show Pt _ _ _ 5 _ [.int v1] _ _
  refine pt_d (pt_ifB_eq gx225_5 h1 (fun e2 => ?_) (fun e2 => ?_))
  · have H := H.1 e2
    refine pt_d (pt_iconst gx225_42 (fun v3 h3 => ?_))
    exact pt_d (pt_iret gx225_43 ⟨_, rfl, by rw [h3]; exact H⟩)
  · have H := H.2 e2
    refine pt_d (pt_1 (fun n d => r_aloadn gx225_8 rfl) ?_)
    refine pt_d (pt_1 (fun n d => r_iloadn gx225_9 rfl) ?_)
    refine pt_d (pt_virt (as := [.int x1]) (r := []) gx225_10 rfl (show zmt[203]? = some zM203 from rfl) rfl rfl rfl rfl (c_203 S z1) (kqP (fun v4 h4 => ?_)))
    show Pt _ _ _ 13 _ [.int v4] _ _
    refine pt_d (pt_ifB_ne gx225_13 h4 (fun e5 => ?_) (fun e5 => ?_))
    · have H := H.1 e5
      refine pt_d (pt_1 (fun n d => r_aloadn gx225_27 rfl) ?_)
      refine pt_d (pt_1 (fun n d => r_iloadn gx225_28 rfl) ?_)
      refine pt_d (pt_virt (as := [.int x2]) (r := []) gx225_29 rfl (show zmt[202]? = some zM202 from rfl) rfl rfl rfl rfl (c_202 S z2) (kqP (fun v6 h6 => ?_)))
      show Pt _ _ _ 32 _ [.int v6] _ _
      refine pt_d (pt_ifB_eq gx225_32 h6 (fun e7 => ?_) (fun e7 => ?_))
      · have H := H.1 e7
        refine pt_d (pt_iconst gx225_42 (fun v8 h8 => ?_))
        exact pt_d (pt_iret gx225_43 ⟨_, rfl, by rw [h8]; exact H⟩)
      · have H := H.2 e7
        refine pt_d (pt_1 (fun n d => r_iloadn gx225_35 rfl) ?_)
        refine pt_d (pt_stat (as := [.int x3]) (r := []) gx225_36 rfl (show zmt[197]? = some zM197 from rfl) rfl rfl rfl rfl (c_197 S z3) (kqP (fun v9 h9 => ?_)))
        show Pt _ _ _ 39 _ [.int v9] _ _
        refine pt_d (pt_ifB_ne gx225_39 h9 (fun e10 => ?_) (fun e10 => ?_))
        · have H := H.1 e10
          refine pt_d (pt_1 (fun n d => r_aloadn gx225_44 rfl) ?_)
          refine pt_d (pt_getI (B := 14) gx225_45 S (fun v11 h11 => ?_))
          refine pt_d (pt_sipush gx225_48 (fun v12 h12 => ?_))
          refine pt_d (pt_icmp_ne gx225_51 h11 h12 (fun e13 => ?_) (fun e13 => ?_))
          · have H := H.1 e13
            refine pt_d (pt_1 (fun n d => r_aloadn gx225_57 rfl) ?_)
            refine pt_d (pt_getR gx225_58 S tr_72_15 ?_)
            refine pt_d (pt_1 (fun n d => r_aloadn gx225_61 rfl) ?_)
            refine pt_d (pt_getI (B := 14) gx225_62 S (fun v15 h15 => ?_))
            refine pt_d (pt_1 (fun n d => r_iloadn gx225_65 rfl) ?_)
            refine pt_d (pt_iast (N' := 200) gx225_66 S tl_83 h15 z1 (fun h_16 S16 p16 q16 e16 => ?_))
            have H := H p16 q16
            refine pt_d (pt_1 (fun n d => r_aloadn gx225_67 rfl) ?_)
            refine pt_d (pt_getR gx225_68 S16 tr_72_16 ?_)
            refine pt_d (pt_1 (fun n d => r_aloadn gx225_71 rfl) ?_)
            refine pt_d (pt_getI (B := 14) gx225_72 S16 (fun v18 h18 => ?_))
            have h18 : v18.toInt = vw h 72 14 := by rw [h18, e16, up_c (by decide)]
            refine pt_d (pt_1 (fun n d => r_iloadn gx225_75 rfl) ?_)
            refine pt_d (pt_iast (N' := 200) gx225_76 S16 tl_84 h18 z2 (fun h_19 S19 p19 q19 e19 => ?_))
            refine pt_d (pt_1 (fun n d => r_aloadn gx225_77 rfl) ?_)
            refine pt_d (pt_getR gx225_78 S19 tr_72_17 ?_)
            refine pt_d (pt_1 (fun n d => r_aloadn gx225_81 rfl) ?_)
            refine pt_d (pt_getI (B := 14) gx225_82 S19 (fun v21 h21 => ?_))
            have h21 : v21.toInt = vw h 72 14 := by rw [h21, e19, up_c (by decide), e16, up_c (by decide)]
            refine pt_d (pt_1 (fun n d => r_iloadn gx225_85 rfl) ?_)
            refine pt_d (pt_iast (N' := 200) gx225_86 S19 tl_85 h21 z3 (fun h_22 S22 p22 q22 e22 => ?_))
            refine pt_d (pt_1 (fun n d => r_aloadn gx225_87 rfl) ?_)
            refine pt_d (pt_getR gx225_88 S22 tr_72_18 ?_)
            refine pt_d (pt_1 (fun n d => r_aloadn gx225_91 rfl) ?_)
            refine pt_d (pt_getI (B := 14) gx225_92 S22 (fun v24 h24 => ?_))
            have h24 : v24.toInt = vw h 72 14 := by rw [h24, e22, up_c (by decide), e19, up_c (by decide), e16, up_c (by decide)]
            refine pt_d (pt_1 (fun n d => r_aloadn gx225_95 rfl) ?_)
            refine pt_d (pt_getI (B := 1) gx225_96 S22 (fun v25 h25 => ?_))
            have h25 : v25.toInt = vw h 72 1 := by rw [h25, e22, up_c (by decide), e19, up_c (by decide), e16, up_c (by decide)]
            refine pt_d (pt_iast (N' := 200) gx225_99 S22 tl_86 h24 h25 (fun h_26 S26 p26 q26 e26 => ?_))
            refine pt_d (pt_1 (fun n d => r_aloadn gx225_100 rfl) ?_)
            refine pt_d (pt_1 (fun n d => r_dup gx225_101 rfl) ?_)
            refine pt_d (pt_getI (B := 14) gx225_102 S26 (fun v27 h27 => ?_))
            have h27 : v27.toInt = vw h 72 14 := by rw [h27, e26, up_c (by decide), e22, up_c (by decide), e19, up_c (by decide), e16, up_c (by decide)]
            refine pt_d (pt_iconst gx225_105 (fun v28 h28 => ?_))
            refine pt_d (pt_iadd gx225_106 h27 h28 (fun v29 h29 => ?_))
            refine pt_d (pt_putI (B := 14) gx225_107 S26 h29 (fun h_30 S30 e30 => ?_))
            refine pt_d (pt_1 (fun n d => r_aloadn gx225_110 rfl) ?_)
            refine pt_d (pt_getI (B := 14) gx225_111 S30 (fun v31 h31 => ?_))
            have h31 : v31.toInt = w32 ((vw h 72 14) + 1) := by rw [h31, e30, up_s]
            have H := H h_30 S30 (by rw [e30, e26, e22, e19, e16])
            exact pt_d (pt_iret gx225_114 ⟨_, rfl, by rw [h31]; exact H⟩)
          · have H := H.2 e13
            refine pt_d (pt_bipush gx225_54 (fun v32 h32 => ?_))
            exact pt_d (pt_iret gx225_56 ⟨_, rfl, by rw [h32]; exact H⟩)
        · have H := H.2 e10
          refine pt_d (pt_iconst gx225_42 (fun v33 h33 => ?_))
          exact pt_d (pt_iret gx225_43 ⟨_, rfl, by rw [h33]; exact H⟩)
    · have H := H.2 e5
      refine pt_d (pt_1 (fun n d => r_aloadn gx225_16 rfl) ?_)
      refine pt_d (pt_getR gx225_17 S tr_72_3 ?_)
      refine pt_d (pt_1 (fun n d => r_iloadn gx225_20 rfl) ?_)
      refine pt_d (pt_iald (N' := 150) gx225_21 S tl_73 z1 (fun v35 p35 q35 h35 => ?_))
      have H := H p35 q35
      refine pt_d (pt_bipush gx225_22 (fun v36 h36 => ?_))
      refine pt_d (pt_icmp_ne gx225_24 h35 h36 (fun e37 => ?_) (fun e37 => ?_))
      · have H := H.1 e37
        refine pt_d (pt_iconst gx225_42 (fun v38 h38 => ?_))
        exact pt_d (pt_iret gx225_43 ⟨_, rfl, by rw [h38]; exact H⟩)
      · have H := H.2 e37
        refine pt_d (pt_1 (fun n d => r_aloadn gx225_27 rfl) ?_)
        refine pt_d (pt_1 (fun n d => r_iloadn gx225_28 rfl) ?_)
        refine pt_d (pt_virt (as := [.int x2]) (r := []) gx225_29 rfl (show zmt[202]? = some zM202 from rfl) rfl rfl rfl rfl (c_202 S z2) (kqP (fun v39 h39 => ?_)))
        show Pt _ _ _ 32 _ [.int v39] _ _
        refine pt_d (pt_ifB_eq gx225_32 h39 (fun e40 => ?_) (fun e40 => ?_))
        · have H := H.1 e40
          refine pt_d (pt_iconst gx225_42 (fun v41 h41 => ?_))
          exact pt_d (pt_iret gx225_43 ⟨_, rfl, by rw [h41]; exact H⟩)
        · have H := H.2 e40
          refine pt_d (pt_1 (fun n d => r_iloadn gx225_35 rfl) ?_)
          refine pt_d (pt_stat (as := [.int x3]) (r := []) gx225_36 rfl (show zmt[197]? = some zM197 from rfl) rfl rfl rfl rfl (c_197 S z3) (kqP (fun v42 h42 => ?_)))
          show Pt _ _ _ 39 _ [.int v42] _ _
          refine pt_d (pt_ifB_ne gx225_39 h42 (fun e43 => ?_) (fun e43 => ?_))
          · have H := H.1 e43
            refine pt_d (pt_1 (fun n d => r_aloadn gx225_44 rfl) ?_)
            refine pt_d (pt_getI (B := 14) gx225_45 S (fun v44 h44 => ?_))
            refine pt_d (pt_sipush gx225_48 (fun v45 h45 => ?_))
            refine pt_d (pt_icmp_ne gx225_51 h44 h45 (fun e46 => ?_) (fun e46 => ?_))
            · have H := H.1 e46
              refine pt_d (pt_1 (fun n d => r_aloadn gx225_57 rfl) ?_)
              refine pt_d (pt_getR gx225_58 S tr_72_15 ?_)
              refine pt_d (pt_1 (fun n d => r_aloadn gx225_61 rfl) ?_)
              refine pt_d (pt_getI (B := 14) gx225_62 S (fun v48 h48 => ?_))
              refine pt_d (pt_1 (fun n d => r_iloadn gx225_65 rfl) ?_)
              refine pt_d (pt_iast (N' := 200) gx225_66 S tl_83 h48 z1 (fun h_49 S49 p49 q49 e49 => ?_))
              have H := H p49 q49
              refine pt_d (pt_1 (fun n d => r_aloadn gx225_67 rfl) ?_)
              refine pt_d (pt_getR gx225_68 S49 tr_72_16 ?_)
              refine pt_d (pt_1 (fun n d => r_aloadn gx225_71 rfl) ?_)
              refine pt_d (pt_getI (B := 14) gx225_72 S49 (fun v51 h51 => ?_))
              have h51 : v51.toInt = vw h 72 14 := by rw [h51, e49, up_c (by decide)]
              refine pt_d (pt_1 (fun n d => r_iloadn gx225_75 rfl) ?_)
              refine pt_d (pt_iast (N' := 200) gx225_76 S49 tl_84 h51 z2 (fun h_52 S52 p52 q52 e52 => ?_))
              refine pt_d (pt_1 (fun n d => r_aloadn gx225_77 rfl) ?_)
              refine pt_d (pt_getR gx225_78 S52 tr_72_17 ?_)
              refine pt_d (pt_1 (fun n d => r_aloadn gx225_81 rfl) ?_)
              refine pt_d (pt_getI (B := 14) gx225_82 S52 (fun v54 h54 => ?_))
              have h54 : v54.toInt = vw h 72 14 := by rw [h54, e52, up_c (by decide), e49, up_c (by decide)]
              refine pt_d (pt_1 (fun n d => r_iloadn gx225_85 rfl) ?_)
              refine pt_d (pt_iast (N' := 200) gx225_86 S52 tl_85 h54 z3 (fun h_55 S55 p55 q55 e55 => ?_))
              refine pt_d (pt_1 (fun n d => r_aloadn gx225_87 rfl) ?_)
              refine pt_d (pt_getR gx225_88 S55 tr_72_18 ?_)
              refine pt_d (pt_1 (fun n d => r_aloadn gx225_91 rfl) ?_)
              refine pt_d (pt_getI (B := 14) gx225_92 S55 (fun v57 h57 => ?_))
              have h57 : v57.toInt = vw h 72 14 := by rw [h57, e55, up_c (by decide), e52, up_c (by decide), e49, up_c (by decide)]
              refine pt_d (pt_1 (fun n d => r_aloadn gx225_95 rfl) ?_)
              refine pt_d (pt_getI (B := 1) gx225_96 S55 (fun v58 h58 => ?_))
              have h58 : v58.toInt = vw h 72 1 := by rw [h58, e55, up_c (by decide), e52, up_c (by decide), e49, up_c (by decide)]
              refine pt_d (pt_iast (N' := 200) gx225_99 S55 tl_86 h57 h58 (fun h_59 S59 p59 q59 e59 => ?_))
              refine pt_d (pt_1 (fun n d => r_aloadn gx225_100 rfl) ?_)
              refine pt_d (pt_1 (fun n d => r_dup gx225_101 rfl) ?_)
              refine pt_d (pt_getI (B := 14) gx225_102 S59 (fun v60 h60 => ?_))
              have h60 : v60.toInt = vw h 72 14 := by rw [h60, e59, up_c (by decide), e55, up_c (by decide), e52, up_c (by decide), e49, up_c (by decide)]
              refine pt_d (pt_iconst gx225_105 (fun v61 h61 => ?_))
              refine pt_d (pt_iadd gx225_106 h60 h61 (fun v62 h62 => ?_))
              refine pt_d (pt_putI (B := 14) gx225_107 S59 h62 (fun h_63 S63 e63 => ?_))
              refine pt_d (pt_1 (fun n d => r_aloadn gx225_110 rfl) ?_)
              refine pt_d (pt_getI (B := 14) gx225_111 S63 (fun v64 h64 => ?_))
              have h64 : v64.toInt = w32 ((vw h 72 14) + 1) := by rw [h64, e63, up_s]
              have H := H h_63 S63 (by rw [e63, e59, e55, e52, e49])
              exact pt_d (pt_iret gx225_114 ⟨_, rfl, by rw [h64]; exact H⟩)
            · have H := H.2 e46
              refine pt_d (pt_bipush gx225_54 (fun v65 h65 => ?_))
              exact pt_d (pt_iret gx225_56 ⟨_, rfl, by rw [h65]; exact H⟩)
          · have H := H.2 e43
            refine pt_d (pt_iconst gx225_42 (fun v66 h66 => ?_))
            exact pt_d (pt_iret gx225_43 ⟨_, rfl, by rw [h66]; exact H⟩)
theorem d230_0 {n : Nat} {X : aX} {h : aH} {P : Int → aH → Prop} {x1 x2 x3 : Int32} {a1 a2 a3 : Int} (S : wS h) (z1 : x1.toInt = a1) (z2 : x2.toInt = a2) (z3 : x3.toInt = a3) (H : ((¬ (mFarm (vw h) a1) → P (-1) h) ∧ ((mFarm (vw h) a1) → ((¬ (mField (vw h) a2) → P (-1) h) ∧ ((mField (vw h) a2) → ((¬ (0 ≤ a3 ∧ a3 ≤ 7) → P (-1) h) ∧ ((0 ≤ a3 ∧ a3 ≤ 7) → (0 ≤ a2 → a2 < 150 → ((vw h 73 a2 ≠ 5 → ((0 ≤ vw h 77 a2 → P (-2) h) ∧ (vw h 77 a2 < 0 → (vw h 72 14 ≤ 200 ∧ ((mHold (vw h) a2 (vw h 72 1) (vw h 72 1) = a1 → ((vw h 72 19 ≠ 300 → (0 ≤ vw h 72 19 → vw h 72 19 < 300 → ∀ h_45 : aH, wS h_45 → vw h_45 = up (up (up (up (up (up (vw h) 87 (vw h 72 19) a1) 88 (vw h 72 19) a2) 89 (vw h 72 19) a3) 90 (vw h 72 19) (vw h 72 1)) 72 19 (w32 ((vw h 72 19) + 1))) 72 38 1 → P (w32 ((vw h 72 19) + 1)) h_45)) ∧ (vw h 72 19 = 300 → P (-3) h))) ∧ (mHold (vw h) a2 (vw h 72 1) (vw h 72 1) ≠ a1 → P (-2) h)))))) ∧ (vw h 73 a2 = 5 → ((a3 = 0 → ((0 ≤ vw h 77 a2 → P (-2) h) ∧ (vw h 77 a2 < 0 → (vw h 72 14 ≤ 200 ∧ ((mHold (vw h) a2 (vw h 72 1) (vw h 72 1) = a1 → ((vw h 72 19 ≠ 300 → (0 ≤ vw h 72 19 → vw h 72 19 < 300 → ∀ h_79 : aH, wS h_79 → vw h_79 = up (up (up (up (up (up (vw h) 87 (vw h 72 19) a1) 88 (vw h 72 19) a2) 89 (vw h 72 19) a3) 90 (vw h 72 19) (vw h 72 1)) 72 19 (w32 ((vw h 72 19) + 1))) 72 38 1 → P (w32 ((vw h 72 19) + 1)) h_79)) ∧ (vw h 72 19 = 300 → P (-3) h))) ∧ (mHold (vw h) a2 (vw h 72 1) (vw h 72 1) ≠ a1 → P (-2) h)))))) ∧ (a3 ≠ 0 → P (-1) h)))))))))))) : Pt (n + 1) X zM230 0 [some (.ref 72), some (.int x1), some (.int x2), some (.int x3)] [] h (qI P) := by
  refine pt_1 (fun n d => r_aloadn gx230_0 rfl) ?_
  refine pt_d (pt_1 (fun n d => r_iloadn gx230_1 rfl) ?_)
  refine pt_d (pt_virt (as := [.int x1]) (r := []) gx230_2 rfl (show zmt[202]? = some zM202 from rfl) rfl rfl rfl rfl (c_202 S z1) (kqP (fun v1 h1 => ?_)))
  show Pt _ _ _ 5 _ [.int v1] _ _
  refine pt_d (pt_ifB_eq gx230_5 h1 (fun e2 => ?_) (fun e2 => ?_))
  · have H := H.1 e2
    refine pt_d (pt_iconst gx230_40 (fun v3 h3 => ?_))
    exact pt_d (pt_iret gx230_41 ⟨_, rfl, by rw [h3]; exact H⟩)
  · have H := H.2 e2
    refine pt_d (pt_1 (fun n d => r_aloadn gx230_8 rfl) ?_)
    refine pt_d (pt_1 (fun n d => r_iloadn gx230_9 rfl) ?_)
    refine pt_d (pt_virt (as := [.int x2]) (r := []) gx230_10 rfl (show zmt[203]? = some zM203 from rfl) rfl rfl rfl rfl (c_203 S z2) (kqP (fun v4 h4 => ?_)))
    show Pt _ _ _ 13 _ [.int v4] _ _
    refine pt_d (pt_ifB_eq gx230_13 h4 (fun e5 => ?_) (fun e5 => ?_))
    · have H := H.1 e5
      refine pt_d (pt_iconst gx230_40 (fun v6 h6 => ?_))
      exact pt_d (pt_iret gx230_41 ⟨_, rfl, by rw [h6]; exact H⟩)
    · have H := H.2 e5
      refine pt_d (pt_1 (fun n d => r_iloadn gx230_16 rfl) ?_)
      refine pt_d (pt_iconst gx230_17 (fun v7 h7 => ?_))
      refine pt_d (pt_bipush gx230_18 (fun v8 h8 => ?_))
      refine pt_d (pt_stat (as := [.int x3, .int v7, .int v8]) (r := []) gx230_20 rfl (show zmt[196]? = some zM196 from rfl) rfl rfl rfl rfl (c_196 S z3 h7 h8) (kqP (fun v9 h9 => ?_)))
      show Pt _ _ _ 23 _ [.int v9] _ _
      refine pt_d (pt_ifB_eq gx230_23 h9 (fun e10 => ?_) (fun e10 => ?_))
      · have H := H.1 e10
        refine pt_d (pt_iconst gx230_40 (fun v11 h11 => ?_))
        exact pt_d (pt_iret gx230_41 ⟨_, rfl, by rw [h11]; exact H⟩)
      · have H := H.2 e10
        refine pt_d (pt_1 (fun n d => r_aloadn gx230_26 rfl) ?_)
        refine pt_d (pt_getR gx230_27 S tr_72_3 ?_)
        refine pt_d (pt_1 (fun n d => r_iloadn gx230_30 rfl) ?_)
        refine pt_d (pt_iald (N' := 150) gx230_31 S tl_73 z2 (fun v13 p13 q13 h13 => ?_))
        have H := H p13 q13
        refine pt_d (pt_iconst gx230_32 (fun v14 h14 => ?_))
        refine pt_d (pt_icmp_ne gx230_33 h13 h14 (fun e15 => ?_) (fun e15 => ?_))
        · have H := H.1 e15
          refine pt_d (pt_1 (fun n d => r_aloadn gx230_42 rfl) ?_)
          refine pt_d (pt_getR gx230_43 S tr_72_7 ?_)
          refine pt_d (pt_1 (fun n d => r_iloadn gx230_46 rfl) ?_)
          refine pt_d (pt_iald (N' := 150) gx230_47 S tl_77 z2 (fun v17 p17 q17 h17 => ?_))
          refine pt_d (pt_if_ge gx230_48 h17 (fun e18 => ?_) (fun e18 => ?_))
          · have H := H.1 e18
            refine pt_d (pt_bipush gx230_68 (fun v19 h19 => ?_))
            exact pt_d (pt_iret gx230_70 ⟨_, rfl, by rw [h19]; exact H⟩)
          · have H := H.2 e18
            refine pt_d (pt_1 (fun n d => r_aloadn gx230_51 rfl) ?_)
            refine pt_d (pt_1 (fun n d => r_iloadn gx230_52 rfl) ?_)
            refine pt_d (pt_1 (fun n d => r_aloadn gx230_53 rfl) ?_)
            refine pt_d (pt_getI (B := 1) gx230_54 S (fun v20 h20 => ?_))
            refine pt_d (pt_1 (fun n d => r_aloadn gx230_57 rfl) ?_)
            refine pt_d (pt_getI (B := 1) gx230_58 S (fun v21 h21 => ?_))
            obtain ⟨pr22, H⟩ := H
            refine pt_d (pt_virt (as := [.int x2, .int v20, .int v21]) (r := []) gx230_61 rfl (show zmt[226]? = some zM226 from rfl) rfl rfl rfl rfl (c_226 S z2 h20 h21 pr22) (kqP (fun v22 h22 => ?_)))
            show Pt _ _ _ 64 _ [.int v22] _ _
            refine pt_d (pt_1 (fun n d => r_iloadn gx230_64 rfl) ?_)
            refine pt_d (pt_icmp_eq gx230_65 h22 z1 (fun e23 => ?_) (fun e23 => ?_))
            · have H := H.1 e23
              refine pt_d (pt_1 (fun n d => r_aloadn gx230_71 rfl) ?_)
              refine pt_d (pt_getI (B := 19) gx230_72 S (fun v24 h24 => ?_))
              refine pt_d (pt_sipush gx230_75 (fun v25 h25 => ?_))
              refine pt_d (pt_icmp_ne gx230_78 h24 h25 (fun e26 => ?_) (fun e26 => ?_))
              · have H := H.1 e26
                refine pt_d (pt_1 (fun n d => r_aloadn gx230_84 rfl) ?_)
                refine pt_d (pt_getR gx230_85 S tr_72_20 ?_)
                refine pt_d (pt_1 (fun n d => r_aloadn gx230_88 rfl) ?_)
                refine pt_d (pt_getI (B := 19) gx230_89 S (fun v28 h28 => ?_))
                refine pt_d (pt_1 (fun n d => r_iloadn gx230_92 rfl) ?_)
                refine pt_d (pt_iast (N' := 300) gx230_93 S tl_87 h28 z1 (fun h_29 S29 p29 q29 e29 => ?_))
                have H := H p29 q29
                refine pt_d (pt_1 (fun n d => r_aloadn gx230_94 rfl) ?_)
                refine pt_d (pt_getR gx230_95 S29 tr_72_21 ?_)
                refine pt_d (pt_1 (fun n d => r_aloadn gx230_98 rfl) ?_)
                refine pt_d (pt_getI (B := 19) gx230_99 S29 (fun v31 h31 => ?_))
                have h31 : v31.toInt = vw h 72 19 := by rw [h31, e29, up_c (by decide)]
                refine pt_d (pt_1 (fun n d => r_iloadn gx230_102 rfl) ?_)
                refine pt_d (pt_iast (N' := 300) gx230_103 S29 tl_88 h31 z2 (fun h_32 S32 p32 q32 e32 => ?_))
                refine pt_d (pt_1 (fun n d => r_aloadn gx230_104 rfl) ?_)
                refine pt_d (pt_getR gx230_105 S32 tr_72_22 ?_)
                refine pt_d (pt_1 (fun n d => r_aloadn gx230_108 rfl) ?_)
                refine pt_d (pt_getI (B := 19) gx230_109 S32 (fun v34 h34 => ?_))
                have h34 : v34.toInt = vw h 72 19 := by rw [h34, e32, up_c (by decide), e29, up_c (by decide)]
                refine pt_d (pt_1 (fun n d => r_iloadn gx230_112 rfl) ?_)
                refine pt_d (pt_iast (N' := 300) gx230_113 S32 tl_89 h34 z3 (fun h_35 S35 p35 q35 e35 => ?_))
                refine pt_d (pt_1 (fun n d => r_aloadn gx230_114 rfl) ?_)
                refine pt_d (pt_getR gx230_115 S35 tr_72_23 ?_)
                refine pt_d (pt_1 (fun n d => r_aloadn gx230_118 rfl) ?_)
                refine pt_d (pt_getI (B := 19) gx230_119 S35 (fun v37 h37 => ?_))
                have h37 : v37.toInt = vw h 72 19 := by rw [h37, e35, up_c (by decide), e32, up_c (by decide), e29, up_c (by decide)]
                refine pt_d (pt_1 (fun n d => r_aloadn gx230_122 rfl) ?_)
                refine pt_d (pt_getI (B := 1) gx230_123 S35 (fun v38 h38 => ?_))
                have h38 : v38.toInt = vw h 72 1 := by rw [h38, e35, up_c (by decide), e32, up_c (by decide), e29, up_c (by decide)]
                refine pt_d (pt_iast (N' := 300) gx230_126 S35 tl_90 h37 h38 (fun h_39 S39 p39 q39 e39 => ?_))
                refine pt_d (pt_1 (fun n d => r_aloadn gx230_127 rfl) ?_)
                refine pt_d (pt_1 (fun n d => r_dup gx230_128 rfl) ?_)
                refine pt_d (pt_getI (B := 19) gx230_129 S39 (fun v40 h40 => ?_))
                have h40 : v40.toInt = vw h 72 19 := by rw [h40, e39, up_c (by decide), e35, up_c (by decide), e32, up_c (by decide), e29, up_c (by decide)]
                refine pt_d (pt_iconst gx230_132 (fun v41 h41 => ?_))
                refine pt_d (pt_iadd gx230_133 h40 h41 (fun v42 h42 => ?_))
                refine pt_d (pt_putI (B := 19) gx230_134 S39 h42 (fun h_43 S43 e43 => ?_))
                refine pt_d (pt_1 (fun n d => r_aloadn gx230_137 rfl) ?_)
                refine pt_d (pt_iconst gx230_138 (fun v44 h44 => ?_))
                refine pt_d (pt_putI (B := 38) gx230_139 S43 h44 (fun h_45 S45 e45 => ?_))
                refine pt_d (pt_1 (fun n d => r_aloadn gx230_142 rfl) ?_)
                refine pt_d (pt_getI (B := 19) gx230_143 S45 (fun v46 h46 => ?_))
                have h46 : v46.toInt = w32 ((vw h 72 19) + 1) := by rw [h46, e45, up_j (by decide), e43, up_s]
                have H := H h_45 S45 (by rw [e45, e43, e39, e35, e32, e29])
                exact pt_d (pt_iret gx230_146 ⟨_, rfl, by rw [h46]; exact H⟩)
              · have H := H.2 e26
                refine pt_d (pt_bipush gx230_81 (fun v47 h47 => ?_))
                exact pt_d (pt_iret gx230_83 ⟨_, rfl, by rw [h47]; exact H⟩)
            · have H := H.2 e23
              refine pt_d (pt_bipush gx230_68 (fun v48 h48 => ?_))
              exact pt_d (pt_iret gx230_70 ⟨_, rfl, by rw [h48]; exact H⟩)
        · have H := H.2 e15
          refine pt_d (pt_1 (fun n d => r_iloadn gx230_36 rfl) ?_)
          refine pt_d (pt_if_eq gx230_37 z3 (fun e49 => ?_) (fun e49 => ?_))
          · have H := H.1 e49
            refine pt_d (pt_1 (fun n d => r_aloadn gx230_42 rfl) ?_)
            refine pt_d (pt_getR gx230_43 S tr_72_7 ?_)
            refine pt_d (pt_1 (fun n d => r_iloadn gx230_46 rfl) ?_)
            refine pt_d (pt_iald (N' := 150) gx230_47 S tl_77 z2 (fun v51 p51 q51 h51 => ?_))
            refine pt_d (pt_if_ge gx230_48 h51 (fun e52 => ?_) (fun e52 => ?_))
            · have H := H.1 e52
              refine pt_d (pt_bipush gx230_68 (fun v53 h53 => ?_))
              exact pt_d (pt_iret gx230_70 ⟨_, rfl, by rw [h53]; exact H⟩)
            · have H := H.2 e52
              refine pt_d (pt_1 (fun n d => r_aloadn gx230_51 rfl) ?_)
              refine pt_d (pt_1 (fun n d => r_iloadn gx230_52 rfl) ?_)
              refine pt_d (pt_1 (fun n d => r_aloadn gx230_53 rfl) ?_)
              refine pt_d (pt_getI (B := 1) gx230_54 S (fun v54 h54 => ?_))
              refine pt_d (pt_1 (fun n d => r_aloadn gx230_57 rfl) ?_)
              refine pt_d (pt_getI (B := 1) gx230_58 S (fun v55 h55 => ?_))
              obtain ⟨pr56, H⟩ := H
              refine pt_d (pt_virt (as := [.int x2, .int v54, .int v55]) (r := []) gx230_61 rfl (show zmt[226]? = some zM226 from rfl) rfl rfl rfl rfl (c_226 S z2 h54 h55 pr56) (kqP (fun v56 h56 => ?_)))
              show Pt _ _ _ 64 _ [.int v56] _ _
              refine pt_d (pt_1 (fun n d => r_iloadn gx230_64 rfl) ?_)
              refine pt_d (pt_icmp_eq gx230_65 h56 z1 (fun e57 => ?_) (fun e57 => ?_))
              · have H := H.1 e57
                refine pt_d (pt_1 (fun n d => r_aloadn gx230_71 rfl) ?_)
                refine pt_d (pt_getI (B := 19) gx230_72 S (fun v58 h58 => ?_))
                refine pt_d (pt_sipush gx230_75 (fun v59 h59 => ?_))
                refine pt_d (pt_icmp_ne gx230_78 h58 h59 (fun e60 => ?_) (fun e60 => ?_))
                · have H := H.1 e60
                  refine pt_d (pt_1 (fun n d => r_aloadn gx230_84 rfl) ?_)
                  refine pt_d (pt_getR gx230_85 S tr_72_20 ?_)
                  refine pt_d (pt_1 (fun n d => r_aloadn gx230_88 rfl) ?_)
                  refine pt_d (pt_getI (B := 19) gx230_89 S (fun v62 h62 => ?_))
                  refine pt_d (pt_1 (fun n d => r_iloadn gx230_92 rfl) ?_)
                  refine pt_d (pt_iast (N' := 300) gx230_93 S tl_87 h62 z1 (fun h_63 S63 p63 q63 e63 => ?_))
                  have H := H p63 q63
                  refine pt_d (pt_1 (fun n d => r_aloadn gx230_94 rfl) ?_)
                  refine pt_d (pt_getR gx230_95 S63 tr_72_21 ?_)
                  refine pt_d (pt_1 (fun n d => r_aloadn gx230_98 rfl) ?_)
                  refine pt_d (pt_getI (B := 19) gx230_99 S63 (fun v65 h65 => ?_))
                  have h65 : v65.toInt = vw h 72 19 := by rw [h65, e63, up_c (by decide)]
                  refine pt_d (pt_1 (fun n d => r_iloadn gx230_102 rfl) ?_)
                  refine pt_d (pt_iast (N' := 300) gx230_103 S63 tl_88 h65 z2 (fun h_66 S66 p66 q66 e66 => ?_))
                  refine pt_d (pt_1 (fun n d => r_aloadn gx230_104 rfl) ?_)
                  refine pt_d (pt_getR gx230_105 S66 tr_72_22 ?_)
                  refine pt_d (pt_1 (fun n d => r_aloadn gx230_108 rfl) ?_)
                  refine pt_d (pt_getI (B := 19) gx230_109 S66 (fun v68 h68 => ?_))
                  have h68 : v68.toInt = vw h 72 19 := by rw [h68, e66, up_c (by decide), e63, up_c (by decide)]
                  refine pt_d (pt_1 (fun n d => r_iloadn gx230_112 rfl) ?_)
                  refine pt_d (pt_iast (N' := 300) gx230_113 S66 tl_89 h68 z3 (fun h_69 S69 p69 q69 e69 => ?_))
                  refine pt_d (pt_1 (fun n d => r_aloadn gx230_114 rfl) ?_)
                  refine pt_d (pt_getR gx230_115 S69 tr_72_23 ?_)
                  refine pt_d (pt_1 (fun n d => r_aloadn gx230_118 rfl) ?_)
                  refine pt_d (pt_getI (B := 19) gx230_119 S69 (fun v71 h71 => ?_))
                  have h71 : v71.toInt = vw h 72 19 := by rw [h71, e69, up_c (by decide), e66, up_c (by decide), e63, up_c (by decide)]
                  refine pt_d (pt_1 (fun n d => r_aloadn gx230_122 rfl) ?_)
                  refine pt_d (pt_getI (B := 1) gx230_123 S69 (fun v72 h72 => ?_))
                  have h72 : v72.toInt = vw h 72 1 := by rw [h72, e69, up_c (by decide), e66, up_c (by decide), e63, up_c (by decide)]
                  refine pt_d (pt_iast (N' := 300) gx230_126 S69 tl_90 h71 h72 (fun h_73 S73 p73 q73 e73 => ?_))
                  refine pt_d (pt_1 (fun n d => r_aloadn gx230_127 rfl) ?_)
                  refine pt_d (pt_1 (fun n d => r_dup gx230_128 rfl) ?_)
                  refine pt_d (pt_getI (B := 19) gx230_129 S73 (fun v74 h74 => ?_))
                  have h74 : v74.toInt = vw h 72 19 := by rw [h74, e73, up_c (by decide), e69, up_c (by decide), e66, up_c (by decide), e63, up_c (by decide)]
                  refine pt_d (pt_iconst gx230_132 (fun v75 h75 => ?_))
                  refine pt_d (pt_iadd gx230_133 h74 h75 (fun v76 h76 => ?_))
                  refine pt_d (pt_putI (B := 19) gx230_134 S73 h76 (fun h_77 S77 e77 => ?_))
                  refine pt_d (pt_1 (fun n d => r_aloadn gx230_137 rfl) ?_)
                  refine pt_d (pt_iconst gx230_138 (fun v78 h78 => ?_))
                  refine pt_d (pt_putI (B := 38) gx230_139 S77 h78 (fun h_79 S79 e79 => ?_))
                  refine pt_d (pt_1 (fun n d => r_aloadn gx230_142 rfl) ?_)
                  refine pt_d (pt_getI (B := 19) gx230_143 S79 (fun v80 h80 => ?_))
                  have h80 : v80.toInt = w32 ((vw h 72 19) + 1) := by rw [h80, e79, up_j (by decide), e77, up_s]
                  have H := H h_79 S79 (by rw [e79, e77, e73, e69, e66, e63])
                  exact pt_d (pt_iret gx230_146 ⟨_, rfl, by rw [h80]; exact H⟩)
                · have H := H.2 e60
                  refine pt_d (pt_bipush gx230_81 (fun v81 h81 => ?_))
                  exact pt_d (pt_iret gx230_83 ⟨_, rfl, by rw [h81]; exact H⟩)
              · have H := H.2 e57
                refine pt_d (pt_bipush gx230_68 (fun v82 h82 => ?_))
                exact pt_d (pt_iret gx230_70 ⟨_, rfl, by rw [h82]; exact H⟩)
          · have H := H.2 e49
            refine pt_d (pt_iconst gx230_40 (fun v83 h83 => ?_))
            exact pt_d (pt_iret gx230_41 ⟨_, rfl, by rw [h83]; exact H⟩)
def R154 (V : vS) (b r : Int) (V' : vS) : Prop := (¬ cField V b ∧ r = -1 ∧ V' = V) ∨ (cField V b ∧ V 5 b ≠ -1 ∧ r = -2 ∧ V' = V) ∨ (cField V b ∧ V 5 b = -1 ∧ r = 1 ∧ V' = up (up V 5 b (V 1 0)) 1 5 (w32 (V 1 5 + 1)))
theorem c_154 {n : Nat} {X : aX} {h : aH} {x1 : Int32} {a1 : Int} (S : wS h) (z1 : x1.toInt = a1) : Pt n X zM154 0 [some (.ref 0), some (.int x1)] [] h (qI (fun y h' => R154 (vw h) a1 y (vw h'))) := by
  refine pt_d (d154_0 S z1 ⟨fun e p q => ⟨fun e2 g S2 eg => Or.inr (Or.inr ⟨e, e2, rfl, eg⟩), fun e2 => Or.inr (Or.inl ⟨e, e2, rfl, rfl⟩)⟩, fun e => Or.inl ⟨e, rfl, rfl⟩⟩)
def R224 (V : vS) (b r : Int) (V' : vS) : Prop := (¬ mField V b ∧ r = -1 ∧ V' = V) ∨ (mField V b ∧ 0 ≤ V 77 b ∧ r = -2 ∧ V' = V) ∨ (mField V b ∧ V 77 b < 0 ∧ r = 1 ∧ V' = up (up V 77 b (V 72 1)) 72 38 1)
theorem c_224 {n : Nat} {X : aX} {h : aH} {x1 : Int32} {a1 : Int} (S : wS h) (z1 : x1.toInt = a1) : Pt n X zM224 0 [some (.ref 72), some (.int x1)] [] h (qI (fun y h' => R224 (vw h) a1 y (vw h'))) := by
  refine pt_d (d224_0 S z1 ⟨fun e p q => ⟨fun e2 g S2 eg => Or.inr (Or.inr ⟨e, e2, rfl, eg⟩), fun e2 => Or.inr (Or.inl ⟨e, e2, rfl, rfl⟩)⟩, fun e => Or.inl ⟨e, rfl, rfl⟩⟩)
def ok155 (V : vS) (b f d : Int) : Prop := cHeld V b ∧ cFarm V f ∧ 0 ≤ d ∧ d ≤ 3649
def R155 (V : vS) (b f d r : Int) (V' : vS) : Prop := (¬ ok155 V b f d ∧ r = -1 ∧ V' = V) ∨ (ok155 V b f d ∧ 200 ≤ V 1 6 ∧ r = -3 ∧ V' = V) ∨ (ok155 V b f d ∧ V 1 6 < 200 ∧ RPass V b f d r V')
theorem c_155 {n : Nat} {X : aX} {h : aH} {x1 x2 x3 : Int32} {a1 a2 a3 : Int} (S : wS h) (z1 : x1.toInt = a1) (z2 : x2.toInt = a2) (z3 : x3.toInt = a3) : Pt n X zM155 0 [some (.ref 0), some (.int x1), some (.int x2), some (.int x3)] [] h (qI (fun y h' => R155 (vw h) a1 a2 a3 y (vw h'))) := by
  refine pt_d (d155_0 S z1 z2 z3 ⟨fun e => Or.inl ⟨fun q => e q.1, rfl, rfl⟩, fun e => ⟨fun e2 => Or.inl ⟨fun q => e2 q.2.1, rfl, rfl⟩, fun e2 => ⟨fun e3 => ⟨fun e4 y g p => Or.inr (Or.inr ⟨⟨e, e2, e3⟩, e4, p.2⟩), fun e4 => Or.inr (Or.inl ⟨⟨e, e2, e3⟩, e4, rfl, rfl⟩)⟩, fun e3 => Or.inl ⟨fun q => e3 q.2.2, rfl, rfl⟩⟩⟩⟩)
def mHeld (V : vS) (b : Int) : Prop := mBody V b ∧ (mField V b ∨ V 73 b = 6)
def ok225 (V : vS) (b f d : Int) : Prop := mHeld V b ∧ mFarm V f ∧ 0 ≤ d ∧ d ≤ 3649
def R225 (V : vS) (b f d r : Int) (V' : vS) : Prop := (¬ ok225 V b f d ∧ r = -1 ∧ V' = V) ∨ (ok225 V b f d ∧ V 72 14 = 200 ∧ r = -3 ∧ V' = V) ∨ (ok225 V b f d ∧ 0 ≤ V 72 14 ∧ V 72 14 < 200 ∧ r = w32 (V 72 14 + 1) ∧ V' = up (up (up (up (up V 83 (V 72 14) b) 84 (V 72 14) f) 85 (V 72 14) d) 86 (V 72 14) (V 72 1)) 72 14 (w32 (V 72 14 + 1)))
theorem c_225 {n : Nat} {X : aX} {h : aH} {x1 x2 x3 : Int32} {a1 a2 a3 : Int} (S : wS h) (z1 : x1.toInt = a1) (z2 : x2.toInt = a2) (z3 : x3.toInt = a3) : Pt n X zM225 0 [some (.ref 72), some (.int x1), some (.int x2), some (.int x3)] [] h (qI (fun y h' => R225 (vw h) a1 a2 a3 y (vw h'))) := by
  have rest : ∀ {g : aH → Prop}, mHeld (vw h) a1 → ((¬ mFarm (vw h) a2 → (fun y h' => R225 (vw h) a1 a2 a3 y (vw h')) (-1) h) ∧ (mFarm (vw h) a2 → ((0 ≤ a3 ∧ a3 ≤ 3649 → ((vw h 72 14 ≠ 200 → (0 ≤ vw h 72 14 → vw h 72 14 < 200 → ∀ g : aH, wS g → vw g = up (up (up (up (up (vw h) 83 (vw h 72 14) a1) 84 (vw h 72 14) a2) 85 (vw h 72 14) a3) 86 (vw h 72 14) (vw h 72 1)) 72 14 (w32 ((vw h 72 14) + 1)) → (fun y h' => R225 (vw h) a1 a2 a3 y (vw h')) (w32 ((vw h 72 14) + 1)) g)) ∧ (vw h 72 14 = 200 → (fun y h' => R225 (vw h) a1 a2 a3 y (vw h')) (-3) h))) ∧ (¬ (0 ≤ a3 ∧ a3 ≤ 3649) → (fun y h' => R225 (vw h) a1 a2 a3 y (vw h')) (-1) h)))) := fun {_} e => ⟨fun e2 => Or.inl ⟨fun q => e2 q.2.1, rfl, rfl⟩, fun e2 => ⟨fun e3 => ⟨fun e4 p q g S2 eg => Or.inr (Or.inr ⟨⟨e, e2, e3⟩, p, q, rfl, eg⟩), fun e4 => Or.inr (Or.inl ⟨⟨e, e2, e3⟩, e4, rfl, rfl⟩)⟩, fun e3 => Or.inl ⟨fun q => e3 q.2.2, rfl, rfl⟩⟩⟩
  exact pt_d (d225_0 S z1 z2 z3 ⟨fun e => Or.inl ⟨fun q => e q.1.1, rfl, rfl⟩, fun e => ⟨fun e2 => rest (g := fun _ => True) ⟨e, Or.inl e2⟩, fun e2 p q => ⟨fun e3 => Or.inl ⟨fun q => q.1.2.elim e2 e3, rfl, rfl⟩, fun e3 => rest (g := fun _ => True) ⟨e, Or.inr e3⟩⟩⟩⟩)
def ok157 (V : vS) (f b c : Int) : Prop := cFarm V f ∧ cField V b ∧ (0 ≤ c ∧ c ≤ 7) ∧ (V 2 b = 5 → c = 0)
def hd157 (V : vS) (f b : Int) : Prop := cHold V b (V 1 0) (V 1 0) = f ∧ V 5 b = -1
def R157 (V : vS) (f b c r : Int) (V' : vS) : Prop := (¬ ok157 V f b c ∧ r = -1 ∧ V' = V) ∨ (ok157 V f b c ∧ ¬ hd157 V f b ∧ r = -2 ∧ V' = V) ∨ (ok157 V f b c ∧ hd157 V f b ∧ 300 ≤ V 16 1 ∧ r = -3 ∧ V' = V) ∨ (ok157 V f b c ∧ hd157 V f b ∧ V 16 1 < 300 ∧ RClm V f b c r V')
def ok230 (V : vS) (f b c : Int) : Prop := mFarm V f ∧ mField V b ∧ (0 ≤ c ∧ c ≤ 7) ∧ (V 73 b = 5 → c = 0)
def hd230 (V : vS) (f b : Int) : Prop := mHold V b (V 72 1) (V 72 1) = f ∧ V 77 b < 0
def mClmV (V : vS) (f b c : Int) : vS := up (up (up (up (up (up V 87 (V 72 19) f) 88 (V 72 19) b) 89 (V 72 19) c) 90 (V 72 19) (V 72 1)) 72 19 (w32 (V 72 19 + 1))) 72 38 1
def R230 (V : vS) (f b c r : Int) (V' : vS) : Prop := (¬ ok230 V f b c ∧ r = -1 ∧ V' = V) ∨ (ok230 V f b c ∧ ¬ hd230 V f b ∧ r = -2 ∧ V' = V) ∨ (ok230 V f b c ∧ hd230 V f b ∧ V 72 19 = 300 ∧ r = -3 ∧ V' = V) ∨ (ok230 V f b c ∧ hd230 V f b ∧ 0 ≤ V 72 19 ∧ V 72 19 < 300 ∧ r = w32 (V 72 19 + 1) ∧ V' = mClmV V f b c)
theorem c_230 {n : Nat} {X : aX} {h : aH} {x1 x2 x3 : Int32} {a1 a2 a3 : Int} (S : wS h) (z1 : x1.toInt = a1) (z2 : x2.toInt = a2) (z3 : x3.toInt = a3) (hn : vw h 72 14 ≤ 200) : Pt n X zM230 0 [some (.ref 72), some (.int x1), some (.int x2), some (.int x3)] [] h (qI (fun y h' => R230 (vw h) a1 a2 a3 y (vw h'))) := by
  have bad : ¬ ok230 (vw h) a1 a2 a3 → R230 (vw h) a1 a2 a3 (-1) (vw h) := fun q => Or.inl ⟨q, rfl, rfl⟩
  have nt : ok230 (vw h) a1 a2 a3 → ¬ hd230 (vw h) a1 a2 → R230 (vw h) a1 a2 a3 (-2) (vw h) := fun q r => Or.inr (Or.inl ⟨q, r, rfl, rfl⟩)
  have fl : ok230 (vw h) a1 a2 a3 → hd230 (vw h) a1 a2 → vw h 72 19 = 300 → R230 (vw h) a1 a2 a3 (-3) (vw h) := fun q r t => Or.inr (Or.inr (Or.inl ⟨q, r, t, rfl, rfl⟩))
  have gd : ∀ g : aH, ok230 (vw h) a1 a2 a3 → hd230 (vw h) a1 a2 → 0 ≤ vw h 72 19 → vw h 72 19 < 300 → vw g = mClmV (vw h) a1 a2 a3 → R230 (vw h) a1 a2 a3 (w32 (vw h 72 19 + 1)) (vw g) := fun g q r p t e => Or.inr (Or.inr (Or.inr ⟨q, r, p, t, rfl, e⟩))
  refine pt_d (d230_0 S z1 z2 z3 ⟨fun e => bad (fun q => e q.1), fun e => ⟨fun e2 => bad (fun q => e2 q.2.1), fun e2 => ⟨fun e3 => bad (fun q => e3 q.2.2.1), fun e3 p q => ⟨fun e4 => ⟨fun e5 => nt ⟨e, e2, e3, fun z => absurd z e4⟩ (fun z => absurd z.2 (by omega)), fun e5 => ⟨hn, ⟨fun e6 => ⟨fun e7 p7 q7 g S2 eg => gd g ⟨e, e2, e3, fun z => absurd z e4⟩ ⟨e6, e5⟩ p7 q7 eg, fun e7 => fl ⟨e, e2, e3, fun z => absurd z e4⟩ ⟨e6, e5⟩ e7⟩, fun e6 => nt ⟨e, e2, e3, fun z => absurd z e4⟩ (fun z => e6 z.1)⟩⟩⟩, fun e4 => ⟨fun e8 => ⟨fun e5 => nt ⟨e, e2, e3, fun z => e8⟩ (fun z => absurd z.2 (by omega)), fun e5 => ⟨hn, ⟨fun e6 => ⟨fun e7 p7 q7 g S2 eg => gd g ⟨e, e2, e3, fun z => e8⟩ ⟨e6, e5⟩ p7 q7 eg, fun e7 => fl ⟨e, e2, e3, fun z => e8⟩ ⟨e6, e5⟩ e7⟩, fun e6 => nt ⟨e, e2, e3, fun z => e8⟩ (fun z => e6 z.1)⟩⟩⟩, fun e8 => bad (fun q => e8 (q.2.2.2 e4))⟩⟩⟩⟩⟩)


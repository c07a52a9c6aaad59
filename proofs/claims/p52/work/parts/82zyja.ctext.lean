-- ===== 82zyja.ctext: 2 texts =====
section
-- ===== the class makes and finds texts =====
theorem tl_36 : tkL 36 0 16 = true := by decide +kernel
theorem tl_37 : tkL 37 0 16 = true := by decide +kernel
theorem tl_38 : tkL 38 0 16 = true := by decide +kernel
theorem tl_39 : tkL 39 0 16 = true := by decide +kernel
theorem tl_34 : tkL 34 3 160 = true := by decide +kernel
theorem tr_33_3 : tkR 33 3 36 = true := by decide +kernel
theorem tr_33_8 : tkR 33 8 40 = true := by decide +kernel
theorem tr_33_0 : tkR 33 0 34 = true := by decide +kernel
theorem tr_33_4 : tkR 33 4 37 = true := by decide +kernel
theorem tr_33_5 : tkR 33 5 38 = true := by decide +kernel
theorem tr_33_6 : tkR 33 6 39 = true := by decide +kernel
theorem tr_0_3 : tkR 0 3 33 = true := by decide +kernel
theorem gx123_0 : aF 0 zM123.2.2.2.2.2.2.2 = some (0, (.aload_n 0), 1, 0, 0) := by decide +kernel
theorem gx123_1 : aF 1 zM123.2.2.2.2.2.2.2 = some (1, (.iload_n 1), 1, 0, 0) := by decide +kernel
theorem gx123_2 : aF 2 zM123.2.2.2.2.2.2.2 = some (2, (.sipush 160), 3, 0, 0) := by decide +kernel
theorem gx123_5 : aF 5 zM123.2.2.2.2.2.2.2 = some (5, .imul, 1, 0, 0) := by decide +kernel
theorem gx123_6 : aF 6 zM123.2.2.2.2.2.2.2 = some (6, (.putfield 81), 3, 10, 9) := by decide +kernel
theorem gx123_9 : aF 9 zM123.2.2.2.2.2.2.2 = some (9, (.aload_n 0), 1, 0, 0) := by decide +kernel
theorem gx123_10 : aF 10 zM123.2.2.2.2.2.2.2 = some (10, (.aload_n 0), 1, 0, 0) := by decide +kernel
theorem gx123_11 : aF 11 zM123.2.2.2.2.2.2.2 = some (11, (.getfield 18), 3, 10, 3) := by decide +kernel
theorem gx123_14 : aF 14 zM123.2.2.2.2.2.2.2 = some (14, (.iload_n 1), 1, 0, 0) := by decide +kernel
theorem gx123_15 : aF 15 zM123.2.2.2.2.2.2.2 = some (15, .iaload, 1, 0, 0) := by decide +kernel
theorem gx123_16 : aF 16 zM123.2.2.2.2.2.2.2 = some (16, (.putfield 78), 3, 10, 10) := by decide +kernel
theorem gx123_19 : aF 19 zM123.2.2.2.2.2.2.2 = some (19, (.aload_n 0), 1, 0, 0) := by decide +kernel
theorem gx123_20 : aF 20 zM123.2.2.2.2.2.2.2 = some (20, (.iconst 0), 1, 0, 0) := by decide +kernel
theorem gx123_21 : aF 21 zM123.2.2.2.2.2.2.2 = some (21, (.putfield 75), 3, 10, 11) := by decide +kernel
theorem gx123_24 : aF 24 zM123.2.2.2.2.2.2.2 = some (24, (.aload_n 0), 1, 0, 0) := by decide +kernel
theorem gx123_25 : aF 25 zM123.2.2.2.2.2.2.2 = some (25, (.iconst (-1)), 1, 0, 0) := by decide +kernel
theorem gx123_26 : aF 26 zM123.2.2.2.2.2.2.2 = some (26, (.putfield 72), 3, 10, 12) := by decide +kernel
theorem gx123_29 : aF 29 zM123.2.2.2.2.2.2.2 = some (29, (.aload_n 0), 1, 0, 0) := by decide +kernel
theorem gx123_30 : aF 30 zM123.2.2.2.2.2.2.2 = some (30, (.aload_n 2), 1, 0, 0) := by decide +kernel
theorem gx123_31 : aF 31 zM123.2.2.2.2.2.2.2 = some (31, (.putfield 34), 3, 10, 13) := by decide +kernel
theorem gx123_34 : aF 34 zM123.2.2.2.2.2.2.2 = some (34, (.aload_n 0), 1, 0, 0) := by decide +kernel
theorem gx123_35 : aF 35 zM123.2.2.2.2.2.2.2 = some (35, (.iconst (-1)), 1, 0, 0) := by decide +kernel
theorem gx123_36 : aF 36 zM123.2.2.2.2.2.2.2 = some (36, (.putfield 69), 3, 10, 14) := by decide +kernel
theorem gx123_39 : aF 39 zM123.2.2.2.2.2.2.2 = some (39, .return_, 1, 0, 0) := by decide +kernel
theorem gx122_0 : aF 0 zM122.2.2.2.2.2.2.2 = some (0, (.aload_n 0), 1, 0, 0) := by decide +kernel
theorem gx122_1 : aF 1 zM122.2.2.2.2.2.2.2 = some (1, (.iload_n 1), 1, 0, 0) := by decide +kernel
theorem gx122_2 : aF 2 zM122.2.2.2.2.2.2.2 = some (2, (.aload_n 0), 1, 0, 0) := by decide +kernel
theorem gx122_3 : aF 3 zM122.2.2.2.2.2.2.2 = some (3, (.getfield 31), 3, 10, 8) := by decide +kernel
theorem gx122_6 : aF 6 zM122.2.2.2.2.2.2.2 = some (6, (.invokevirtual 58), 3, 123, 0) := by decide +kernel
theorem gx122_9 : aF 9 zM122.2.2.2.2.2.2.2 = some (9, (.iconst 1), 1, 0, 0) := by decide +kernel
theorem gx122_10 : aF 10 zM122.2.2.2.2.2.2.2 = some (10, (.istore_n 2), 1, 0, 0) := by decide +kernel
theorem gx122_11 : aF 11 zM122.2.2.2.2.2.2.2 = some (11, (.iconst 0), 1, 0, 0) := by decide +kernel
theorem gx122_12 : aF 12 zM122.2.2.2.2.2.2.2 = some (12, (.istore_n 3), 1, 0, 0) := by decide +kernel
theorem gx122_13 : aF 13 zM122.2.2.2.2.2.2.2 = some (13, (.iload_n 3), 1, 0, 0) := by decide +kernel
theorem gx122_14 : aF 14 zM122.2.2.2.2.2.2.2 = some (14, (.sipush 160), 3, 0, 0) := by decide +kernel
theorem gx122_17 : aF 17 zM122.2.2.2.2.2.2.2 = some (17, (.if_icmp .ge 41), 3, 58, 0) := by decide +kernel
theorem gx122_58 : aF 58 zM122.2.2.2.2.2.2.2 = some (58, (.aload_n 0), 1, 0, 0) := by decide +kernel
theorem gx122_59 : aF 59 zM122.2.2.2.2.2.2.2 = some (59, (.getfield 72), 3, 10, 12) := by decide +kernel
theorem gx122_62 : aF 62 zM122.2.2.2.2.2.2.2 = some (62, (.iconst (-1)), 1, 0, 0) := by decide +kernel
theorem gx122_63 : aF 63 zM122.2.2.2.2.2.2.2 = some (63, (.if_icmp .ne 22), 3, 85, 0) := by decide +kernel
theorem gx122_85 : aF 85 zM122.2.2.2.2.2.2.2 = some (85, (.aload_n 0), 1, 0, 0) := by decide +kernel
theorem gx122_86 : aF 86 zM122.2.2.2.2.2.2.2 = some (86, (.getfield 72), 3, 10, 12) := by decide +kernel
theorem gx122_89 : aF 89 zM122.2.2.2.2.2.2.2 = some (89, .ireturn, 1, 0, 0) := by decide +kernel
theorem gx122_66 : aF 66 zM122.2.2.2.2.2.2.2 = some (66, (.aload_n 0), 1, 0, 0) := by decide +kernel
theorem gx122_67 : aF 67 zM122.2.2.2.2.2.2.2 = some (67, (.getfield 75), 3, 10, 11) := by decide +kernel
theorem gx122_70 : aF 70 zM122.2.2.2.2.2.2.2 = some (70, (.aload_n 0), 1, 0, 0) := by decide +kernel
theorem gx122_71 : aF 71 zM122.2.2.2.2.2.2.2 = some (71, (.getfield 78), 3, 10, 10) := by decide +kernel
theorem gx122_74 : aF 74 zM122.2.2.2.2.2.2.2 = some (74, (.if_icmp .ge 11), 3, 85, 0) := by decide +kernel
theorem gx122_77 : aF 77 zM122.2.2.2.2.2.2.2 = some (77, (.aload_n 0), 1, 0, 0) := by decide +kernel
theorem gx122_78 : aF 78 zM122.2.2.2.2.2.2.2 = some (78, (.aload_n 0), 1, 0, 0) := by decide +kernel
theorem gx122_79 : aF 79 zM122.2.2.2.2.2.2.2 = some (79, (.getfield 75), 3, 10, 11) := by decide +kernel
theorem gx122_82 : aF 82 zM122.2.2.2.2.2.2.2 = some (82, (.putfield 72), 3, 10, 12) := by decide +kernel
theorem gx122_20 : aF 20 zM122.2.2.2.2.2.2.2 = some (20, (.iload_n 2), 1, 0, 0) := by decide +kernel
theorem gx122_21 : aF 21 zM122.2.2.2.2.2.2.2 = some (21, (.ifCond .eq 37), 3, 58, 0) := by decide +kernel
theorem gx122_24 : aF 24 zM122.2.2.2.2.2.2.2 = some (24, (.aload_n 0), 1, 0, 0) := by decide +kernel
theorem gx122_25 : aF 25 zM122.2.2.2.2.2.2.2 = some (25, (.iconst 0), 1, 0, 0) := by decide +kernel
theorem gx122_26 : aF 26 zM122.2.2.2.2.2.2.2 = some (26, (.invokevirtual 62), 3, 128, 0) := by decide +kernel
theorem gx122_29 : aF 29 zM122.2.2.2.2.2.2.2 = some (29, .pop, 1, 0, 0) := by decide +kernel
theorem gx122_30 : aF 30 zM122.2.2.2.2.2.2.2 = some (30, (.aload_n 0), 1, 0, 0) := by decide +kernel
theorem gx122_31 : aF 31 zM122.2.2.2.2.2.2.2 = some (31, (.bipush 63), 2, 0, 0) := by decide +kernel
theorem gx122_33 : aF 33 zM122.2.2.2.2.2.2.2 = some (33, (.invokevirtual 65), 3, 125, 0) := by decide +kernel
theorem gx122_36 : aF 36 zM122.2.2.2.2.2.2.2 = some (36, (.ifCond .eq 9), 3, 45, 0) := by decide +kernel
theorem gx122_45 : aF 45 zM122.2.2.2.2.2.2.2 = some (45, (.aload_n 0), 1, 0, 0) := by decide +kernel
theorem gx122_46 : aF 46 zM122.2.2.2.2.2.2.2 = some (46, (.bipush 59), 2, 0, 0) := by decide +kernel
theorem gx122_48 : aF 48 zM122.2.2.2.2.2.2.2 = some (48, (.invokevirtual 65), 3, 125, 0) := by decide +kernel
theorem gx122_51 : aF 51 zM122.2.2.2.2.2.2.2 = some (51, (.istore_n 2), 1, 0, 0) := by decide +kernel
theorem gx122_52 : aF 52 zM122.2.2.2.2.2.2.2 = some (52, (.iinc 3 1), 3, 0, 0) := by decide +kernel
theorem gx122_55 : aF 55 zM122.2.2.2.2.2.2.2 = some (55, (.goto (-42)), 3, 13, 0) := by decide +kernel
theorem gx122_39 : aF 39 zM122.2.2.2.2.2.2.2 = some (39, (.aload_n 0), 1, 0, 0) := by decide +kernel
theorem gx122_40 : aF 40 zM122.2.2.2.2.2.2.2 = some (40, (.iconst 0), 1, 0, 0) := by decide +kernel
theorem gx122_41 : aF 41 zM122.2.2.2.2.2.2.2 = some (41, (.invokevirtual 62), 3, 128, 0) := by decide +kernel
theorem gx122_44 : aF 44 zM122.2.2.2.2.2.2.2 = some (44, .pop, 1, 0, 0) := by decide +kernel
theorem gx118_0 : aF 0 zM118.2.2.2.2.2.2.2 = some (0, (.aload_n 0), 1, 0, 0) := by decide +kernel
theorem gx118_1 : aF 1 zM118.2.2.2.2.2.2.2 = some (1, (.getfield 41), 3, 10, 7) := by decide +kernel
theorem gx118_4 : aF 4 zM118.2.2.2.2.2.2.2 = some (4, (.bipush 16), 2, 0, 0) := by decide +kernel
theorem gx118_6 : aF 6 zM118.2.2.2.2.2.2.2 = some (6, (.if_icmp .lt 6), 3, 12, 0) := by decide +kernel
theorem gx118_12 : aF 12 zM118.2.2.2.2.2.2.2 = some (12, (.aload_n 0), 1, 0, 0) := by decide +kernel
theorem gx118_13 : aF 13 zM118.2.2.2.2.2.2.2 = some (13, (.getfield 9), 3, 10, 0) := by decide +kernel
theorem gx118_16 : aF 16 zM118.2.2.2.2.2.2.2 = some (16, (.iconst 0), 1, 0, 0) := by decide +kernel
theorem gx118_17 : aF 17 zM118.2.2.2.2.2.2.2 = some (17, (.aload_n 0), 1, 0, 0) := by decide +kernel
theorem gx118_18 : aF 18 zM118.2.2.2.2.2.2.2 = some (18, (.getfield 15), 3, 10, 2) := by decide +kernel
theorem gx118_21 : aF 21 zM118.2.2.2.2.2.2.2 = some (21, (.aload_n 0), 1, 0, 0) := by decide +kernel
theorem gx118_22 : aF 22 zM118.2.2.2.2.2.2.2 = some (22, (.getfield 41), 3, 10, 7) := by decide +kernel
theorem gx118_25 : aF 25 zM118.2.2.2.2.2.2.2 = some (25, (.sipush 160), 3, 0, 0) := by decide +kernel
theorem gx118_28 : aF 28 zM118.2.2.2.2.2.2.2 = some (28, .imul, 1, 0, 0) := by decide +kernel
theorem gx118_29 : aF 29 zM118.2.2.2.2.2.2.2 = some (29, (.aload_n 0), 1, 0, 0) := by decide +kernel
theorem gx118_30 : aF 30 zM118.2.2.2.2.2.2.2 = some (30, (.getfield 37), 3, 10, 1) := by decide +kernel
theorem gx118_33 : aF 33 zM118.2.2.2.2.2.2.2 = some (33, (.invokestatic 44), 3, 1002, 0) := by decide +kernel
theorem gx118_36 : aF 36 zM118.2.2.2.2.2.2.2 = some (36, (.aload_n 0), 1, 0, 0) := by decide +kernel
theorem gx118_37 : aF 37 zM118.2.2.2.2.2.2.2 = some (37, (.getfield 18), 3, 10, 3) := by decide +kernel
theorem gx118_40 : aF 40 zM118.2.2.2.2.2.2.2 = some (40, (.aload_n 0), 1, 0, 0) := by decide +kernel
theorem gx118_41 : aF 41 zM118.2.2.2.2.2.2.2 = some (41, (.getfield 41), 3, 10, 7) := by decide +kernel
theorem gx118_44 : aF 44 zM118.2.2.2.2.2.2.2 = some (44, (.aload_n 0), 1, 0, 0) := by decide +kernel
theorem gx118_45 : aF 45 zM118.2.2.2.2.2.2.2 = some (45, (.getfield 37), 3, 10, 1) := by decide +kernel
theorem gx118_48 : aF 48 zM118.2.2.2.2.2.2.2 = some (48, .iastore, 1, 0, 0) := by decide +kernel
theorem gx118_49 : aF 49 zM118.2.2.2.2.2.2.2 = some (49, (.aload_n 0), 1, 0, 0) := by decide +kernel
theorem gx118_50 : aF 50 zM118.2.2.2.2.2.2.2 = some (50, (.iconst 0), 1, 0, 0) := by decide +kernel
theorem gx118_51 : aF 51 zM118.2.2.2.2.2.2.2 = some (51, (.putfield 37), 3, 10, 1) := by decide +kernel
theorem gx118_54 : aF 54 zM118.2.2.2.2.2.2.2 = some (54, (.aload_n 0), 1, 0, 0) := by decide +kernel
theorem gx118_55 : aF 55 zM118.2.2.2.2.2.2.2 = some (55, (.aload_n 0), 1, 0, 0) := by decide +kernel
theorem gx118_56 : aF 56 zM118.2.2.2.2.2.2.2 = some (56, (.getfield 41), 3, 10, 7) := by decide +kernel
theorem gx118_59 : aF 59 zM118.2.2.2.2.2.2.2 = some (59, (.invokevirtual 50), 3, 122, 0) := by decide +kernel
theorem gx118_62 : aF 62 zM118.2.2.2.2.2.2.2 = some (62, (.istore 4), 2, 0, 0) := by decide +kernel
theorem gx118_64 : aF 64 zM118.2.2.2.2.2.2.2 = some (64, (.iload 4), 2, 0, 0) := by decide +kernel
theorem gx118_66 : aF 66 zM118.2.2.2.2.2.2.2 = some (66, (.iconst (-1)), 1, 0, 0) := by decide +kernel
theorem gx118_67 : aF 67 zM118.2.2.2.2.2.2.2 = some (67, (.if_icmp .eq 9), 3, 76, 0) := by decide +kernel
theorem gx118_76 : aF 76 zM118.2.2.2.2.2.2.2 = some (76, (.aload_n 0), 1, 0, 0) := by decide +kernel
theorem gx118_77 : aF 77 zM118.2.2.2.2.2.2.2 = some (77, (.getfield 22), 3, 10, 4) := by decide +kernel
theorem gx118_80 : aF 80 zM118.2.2.2.2.2.2.2 = some (80, (.aload_n 0), 1, 0, 0) := by decide +kernel
theorem gx118_81 : aF 81 zM118.2.2.2.2.2.2.2 = some (81, (.getfield 41), 3, 10, 7) := by decide +kernel
theorem gx118_84 : aF 84 zM118.2.2.2.2.2.2.2 = some (84, (.iload_n 1), 1, 0, 0) := by decide +kernel
theorem gx118_85 : aF 85 zM118.2.2.2.2.2.2.2 = some (85, .iastore, 1, 0, 0) := by decide +kernel
theorem gx118_86 : aF 86 zM118.2.2.2.2.2.2.2 = some (86, (.aload_n 0), 1, 0, 0) := by decide +kernel
theorem gx118_87 : aF 87 zM118.2.2.2.2.2.2.2 = some (87, (.getfield 25), 3, 10, 5) := by decide +kernel
theorem gx118_90 : aF 90 zM118.2.2.2.2.2.2.2 = some (90, (.aload_n 0), 1, 0, 0) := by decide +kernel
theorem gx118_91 : aF 91 zM118.2.2.2.2.2.2.2 = some (91, (.getfield 41), 3, 10, 7) := by decide +kernel
theorem gx118_94 : aF 94 zM118.2.2.2.2.2.2.2 = some (94, (.iload_n 2), 1, 0, 0) := by decide +kernel
theorem gx118_95 : aF 95 zM118.2.2.2.2.2.2.2 = some (95, .iastore, 1, 0, 0) := by decide +kernel
theorem gx118_96 : aF 96 zM118.2.2.2.2.2.2.2 = some (96, (.aload_n 0), 1, 0, 0) := by decide +kernel
theorem gx118_97 : aF 97 zM118.2.2.2.2.2.2.2 = some (97, (.getfield 28), 3, 10, 6) := by decide +kernel
theorem gx118_100 : aF 100 zM118.2.2.2.2.2.2.2 = some (100, (.aload_n 0), 1, 0, 0) := by decide +kernel
theorem gx118_101 : aF 101 zM118.2.2.2.2.2.2.2 = some (101, (.getfield 41), 3, 10, 7) := by decide +kernel
theorem gx118_104 : aF 104 zM118.2.2.2.2.2.2.2 = some (104, (.iload_n 3), 1, 0, 0) := by decide +kernel
theorem gx118_105 : aF 105 zM118.2.2.2.2.2.2.2 = some (105, .iastore, 1, 0, 0) := by decide +kernel
theorem gx118_106 : aF 106 zM118.2.2.2.2.2.2.2 = some (106, (.aload_n 0), 1, 0, 0) := by decide +kernel
theorem gx118_107 : aF 107 zM118.2.2.2.2.2.2.2 = some (107, .dup, 1, 0, 0) := by decide +kernel
theorem gx118_108 : aF 108 zM118.2.2.2.2.2.2.2 = some (108, (.getfield 41), 3, 10, 7) := by decide +kernel
theorem gx118_111 : aF 111 zM118.2.2.2.2.2.2.2 = some (111, (.iconst 1), 1, 0, 0) := by decide +kernel
theorem gx118_112 : aF 112 zM118.2.2.2.2.2.2.2 = some (112, .iadd, 1, 0, 0) := by decide +kernel
theorem gx118_113 : aF 113 zM118.2.2.2.2.2.2.2 = some (113, (.putfield 41), 3, 10, 7) := by decide +kernel
theorem gx118_116 : aF 116 zM118.2.2.2.2.2.2.2 = some (116, (.aload_n 0), 1, 0, 0) := by decide +kernel
theorem gx118_117 : aF 117 zM118.2.2.2.2.2.2.2 = some (117, (.getfield 41), 3, 10, 7) := by decide +kernel
theorem gx118_120 : aF 120 zM118.2.2.2.2.2.2.2 = some (120, (.iconst 1), 1, 0, 0) := by decide +kernel
theorem gx118_121 : aF 121 zM118.2.2.2.2.2.2.2 = some (121, .isub, 1, 0, 0) := by decide +kernel
theorem gx118_122 : aF 122 zM118.2.2.2.2.2.2.2 = some (122, .ireturn, 1, 0, 0) := by decide +kernel
theorem gx118_70 : aF 70 zM118.2.2.2.2.2.2.2 = some (70, (.bipush (-100)), 2, 0, 0) := by decide +kernel
theorem gx118_72 : aF 72 zM118.2.2.2.2.2.2.2 = some (72, (.iload 4), 2, 0, 0) := by decide +kernel
theorem gx118_74 : aF 74 zM118.2.2.2.2.2.2.2 = some (74, .isub, 1, 0, 0) := by decide +kernel
theorem gx118_75 : aF 75 zM118.2.2.2.2.2.2.2 = some (75, .ireturn, 1, 0, 0) := by decide +kernel
theorem gx118_9 : aF 9 zM118.2.2.2.2.2.2.2 = some (9, (.bipush (-3)), 2, 0, 0) := by decide +kernel
theorem gx118_11 : aF 11 zM118.2.2.2.2.2.2.2 = some (11, .ireturn, 1, 0, 0) := by decide +kernel
theorem gx117_0 : aF 0 zM117.2.2.2.2.2.2.2 = some (0, (.iconst 0), 1, 0, 0) := by decide +kernel
theorem gx117_1 : aF 1 zM117.2.2.2.2.2.2.2 = some (1, (.istore_n 3), 1, 0, 0) := by decide +kernel
theorem gx117_2 : aF 2 zM117.2.2.2.2.2.2.2 = some (2, (.iload_n 3), 1, 0, 0) := by decide +kernel
theorem gx117_3 : aF 3 zM117.2.2.2.2.2.2.2 = some (3, (.iload_n 1), 1, 0, 0) := by decide +kernel
theorem gx117_4 : aF 4 zM117.2.2.2.2.2.2.2 = some (4, (.if_icmp .ge 45), 3, 49, 0) := by decide +kernel
theorem gx117_49 : aF 49 zM117.2.2.2.2.2.2.2 = some (49, (.aload_n 0), 1, 0, 0) := by decide +kernel
theorem gx117_50 : aF 50 zM117.2.2.2.2.2.2.2 = some (50, (.getfield 37), 3, 10, 1) := by decide +kernel
theorem gx117_53 : aF 53 zM117.2.2.2.2.2.2.2 = some (53, .ireturn, 1, 0, 0) := by decide +kernel
theorem gx117_7 : aF 7 zM117.2.2.2.2.2.2.2 = some (7, (.aload_n 0), 1, 0, 0) := by decide +kernel
theorem gx117_8 : aF 8 zM117.2.2.2.2.2.2.2 = some (8, (.getfield 37), 3, 10, 1) := by decide +kernel
theorem gx117_11 : aF 11 zM117.2.2.2.2.2.2.2 = some (11, (.sipush 160), 3, 0, 0) := by decide +kernel
theorem gx117_14 : aF 14 zM117.2.2.2.2.2.2.2 = some (14, (.if_icmp .ge 35), 3, 49, 0) := by decide +kernel
theorem gx117_17 : aF 17 zM117.2.2.2.2.2.2.2 = some (17, (.aload_n 0), 1, 0, 0) := by decide +kernel
theorem gx117_18 : aF 18 zM117.2.2.2.2.2.2.2 = some (18, (.getfield 9), 3, 10, 0) := by decide +kernel
theorem gx117_21 : aF 21 zM117.2.2.2.2.2.2.2 = some (21, (.aload_n 0), 1, 0, 0) := by decide +kernel
theorem gx117_22 : aF 22 zM117.2.2.2.2.2.2.2 = some (22, (.getfield 37), 3, 10, 1) := by decide +kernel
theorem gx117_25 : aF 25 zM117.2.2.2.2.2.2.2 = some (25, (.iload_n 2), 1, 0, 0) := by decide +kernel
theorem gx117_26 : aF 26 zM117.2.2.2.2.2.2.2 = some (26, (.bipush 8), 2, 0, 0) := by decide +kernel
theorem gx117_28 : aF 28 zM117.2.2.2.2.2.2.2 = some (28, (.iload_n 3), 1, 0, 0) := by decide +kernel
theorem gx117_29 : aF 29 zM117.2.2.2.2.2.2.2 = some (29, .imul, 1, 0, 0) := by decide +kernel
theorem gx117_30 : aF 30 zM117.2.2.2.2.2.2.2 = some (30, .ishr, 1, 0, 0) := by decide +kernel
theorem gx117_31 : aF 31 zM117.2.2.2.2.2.2.2 = some (31, .i2b, 1, 0, 0) := by decide +kernel
theorem gx117_32 : aF 32 zM117.2.2.2.2.2.2.2 = some (32, .bastore, 1, 0, 0) := by decide +kernel
theorem gx117_33 : aF 33 zM117.2.2.2.2.2.2.2 = some (33, (.aload_n 0), 1, 0, 0) := by decide +kernel
theorem gx117_34 : aF 34 zM117.2.2.2.2.2.2.2 = some (34, .dup, 1, 0, 0) := by decide +kernel
theorem gx117_35 : aF 35 zM117.2.2.2.2.2.2.2 = some (35, (.getfield 37), 3, 10, 1) := by decide +kernel
theorem gx117_38 : aF 38 zM117.2.2.2.2.2.2.2 = some (38, (.iconst 1), 1, 0, 0) := by decide +kernel
theorem gx117_39 : aF 39 zM117.2.2.2.2.2.2.2 = some (39, .iadd, 1, 0, 0) := by decide +kernel
theorem gx117_40 : aF 40 zM117.2.2.2.2.2.2.2 = some (40, (.putfield 37), 3, 10, 1) := by decide +kernel
theorem gx117_43 : aF 43 zM117.2.2.2.2.2.2.2 = some (43, (.iinc 3 1), 3, 0, 0) := by decide +kernel
theorem gx117_46 : aF 46 zM117.2.2.2.2.2.2.2 = some (46, (.goto (-44)), 3, 2, 0) := by decide +kernel
theorem gx120_0 : aF 0 zM120.2.2.2.2.2.2.2 = some (0, (.aload_n 0), 1, 0, 0) := by decide +kernel
theorem gx120_1 : aF 1 zM120.2.2.2.2.2.2.2 = some (1, (.getfield 41), 3, 10, 7) := by decide +kernel
theorem gx120_4 : aF 4 zM120.2.2.2.2.2.2.2 = some (4, (.iconst 1), 1, 0, 0) := by decide +kernel
theorem gx120_5 : aF 5 zM120.2.2.2.2.2.2.2 = some (5, .isub, 1, 0, 0) := by decide +kernel
theorem gx120_6 : aF 6 zM120.2.2.2.2.2.2.2 = some (6, (.istore 4), 2, 0, 0) := by decide +kernel
theorem gx120_8 : aF 8 zM120.2.2.2.2.2.2.2 = some (8, (.iload 4), 2, 0, 0) := by decide +kernel
theorem gx120_10 : aF 10 zM120.2.2.2.2.2.2.2 = some (10, (.ifCond .lt 45), 3, 55, 0) := by decide +kernel
theorem gx120_55 : aF 55 zM120.2.2.2.2.2.2.2 = some (55, (.iconst (-1)), 1, 0, 0) := by decide +kernel
theorem gx120_56 : aF 56 zM120.2.2.2.2.2.2.2 = some (56, .ireturn, 1, 0, 0) := by decide +kernel
theorem gx120_13 : aF 13 zM120.2.2.2.2.2.2.2 = some (13, (.aload_n 0), 1, 0, 0) := by decide +kernel
theorem gx120_14 : aF 14 zM120.2.2.2.2.2.2.2 = some (14, (.getfield 22), 3, 10, 4) := by decide +kernel
theorem gx120_17 : aF 17 zM120.2.2.2.2.2.2.2 = some (17, (.iload 4), 2, 0, 0) := by decide +kernel
theorem gx120_19 : aF 19 zM120.2.2.2.2.2.2.2 = some (19, .iaload, 1, 0, 0) := by decide +kernel
theorem gx120_20 : aF 20 zM120.2.2.2.2.2.2.2 = some (20, (.iload_n 1), 1, 0, 0) := by decide +kernel
theorem gx120_21 : aF 21 zM120.2.2.2.2.2.2.2 = some (21, (.if_icmp .ne 28), 3, 49, 0) := by decide +kernel
theorem gx120_49 : aF 49 zM120.2.2.2.2.2.2.2 = some (49, (.iinc 4 (-1)), 3, 0, 0) := by decide +kernel
theorem gx120_52 : aF 52 zM120.2.2.2.2.2.2.2 = some (52, (.goto (-44)), 3, 8, 0) := by decide +kernel
theorem gx120_24 : aF 24 zM120.2.2.2.2.2.2.2 = some (24, (.aload_n 0), 1, 0, 0) := by decide +kernel
theorem gx120_25 : aF 25 zM120.2.2.2.2.2.2.2 = some (25, (.getfield 25), 3, 10, 5) := by decide +kernel
theorem gx120_28 : aF 28 zM120.2.2.2.2.2.2.2 = some (28, (.iload 4), 2, 0, 0) := by decide +kernel
theorem gx120_30 : aF 30 zM120.2.2.2.2.2.2.2 = some (30, .iaload, 1, 0, 0) := by decide +kernel
theorem gx120_31 : aF 31 zM120.2.2.2.2.2.2.2 = some (31, (.iload_n 2), 1, 0, 0) := by decide +kernel
theorem gx120_32 : aF 32 zM120.2.2.2.2.2.2.2 = some (32, (.if_icmp .gt 17), 3, 49, 0) := by decide +kernel
theorem gx120_35 : aF 35 zM120.2.2.2.2.2.2.2 = some (35, (.aload_n 0), 1, 0, 0) := by decide +kernel
theorem gx120_36 : aF 36 zM120.2.2.2.2.2.2.2 = some (36, (.getfield 28), 3, 10, 6) := by decide +kernel
theorem gx120_39 : aF 39 zM120.2.2.2.2.2.2.2 = some (39, (.iload 4), 2, 0, 0) := by decide +kernel
theorem gx120_41 : aF 41 zM120.2.2.2.2.2.2.2 = some (41, .iaload, 1, 0, 0) := by decide +kernel
theorem gx120_42 : aF 42 zM120.2.2.2.2.2.2.2 = some (42, (.iload_n 3), 1, 0, 0) := by decide +kernel
theorem gx120_43 : aF 43 zM120.2.2.2.2.2.2.2 = some (43, (.if_icmp .gt 6), 3, 49, 0) := by decide +kernel
theorem gx120_46 : aF 46 zM120.2.2.2.2.2.2.2 = some (46, (.iload 4), 2, 0, 0) := by decide +kernel
theorem gx120_48 : aF 48 zM120.2.2.2.2.2.2.2 = some (48, .ireturn, 1, 0, 0) := by decide +kernel
theorem gx143_0 : aF 0 zM143.2.2.2.2.2.2.2 = some (0, (.iload_n 0), 1, 0, 0) := by decide +kernel
theorem gx143_1 : aF 1 zM143.2.2.2.2.2.2.2 = some (1, (.ifCond .lt 25), 3, 26, 0) := by decide +kernel
theorem gx143_26 : aF 26 zM143.2.2.2.2.2.2.2 = some (26, (.iconst 0), 1, 0, 0) := by decide +kernel
theorem gx143_27 : aF 27 zM143.2.2.2.2.2.2.2 = some (27, .ireturn, 1, 0, 0) := by decide +kernel
theorem gx143_4 : aF 4 zM143.2.2.2.2.2.2.2 = some (4, (.iload_n 0), 1, 0, 0) := by decide +kernel
theorem gx143_5 : aF 5 zM143.2.2.2.2.2.2.2 = some (5, (.bipush 10), 2, 0, 0) := by decide +kernel
theorem gx143_7 : aF 7 zM143.2.2.2.2.2.2.2 = some (7, .idiv, 1, 0, 0) := by decide +kernel
theorem gx143_8 : aF 8 zM143.2.2.2.2.2.2.2 = some (8, (.invokestatic 89), 3, 140, 0) := by decide +kernel
theorem gx143_11 : aF 11 zM143.2.2.2.2.2.2.2 = some (11, (.ifCond .eq 15), 3, 26, 0) := by decide +kernel
theorem gx143_14 : aF 14 zM143.2.2.2.2.2.2.2 = some (14, (.iload_n 0), 1, 0, 0) := by decide +kernel
theorem gx143_15 : aF 15 zM143.2.2.2.2.2.2.2 = some (15, (.bipush 10), 2, 0, 0) := by decide +kernel
theorem gx143_17 : aF 17 zM143.2.2.2.2.2.2.2 = some (17, .irem, 1, 0, 0) := by decide +kernel
theorem gx143_18 : aF 18 zM143.2.2.2.2.2.2.2 = some (18, (.iconst 4), 1, 0, 0) := by decide +kernel
theorem gx143_19 : aF 19 zM143.2.2.2.2.2.2.2 = some (19, (.if_icmp .ge 7), 3, 26, 0) := by decide +kernel
theorem gx143_22 : aF 22 zM143.2.2.2.2.2.2.2 = some (22, (.iconst 1), 1, 0, 0) := by decide +kernel
theorem gx143_23 : aF 23 zM143.2.2.2.2.2.2.2 = some (23, (.goto 4), 3, 27, 0) := by decide +kernel
theorem gx167_0 : aF 0 zM167.2.2.2.2.2.2.2 = some (0, (.iload_n 1), 1, 0, 0) := by decide +kernel
theorem gx167_1 : aF 1 zM167.2.2.2.2.2.2.2 = some (1, (.iconst 1), 1, 0, 0) := by decide +kernel
theorem gx167_2 : aF 2 zM167.2.2.2.2.2.2.2 = some (2, (.iconst 4), 1, 0, 0) := by decide +kernel
theorem gx167_3 : aF 3 zM167.2.2.2.2.2.2.2 = some (3, (.invokestatic 85), 3, 137, 0) := by decide +kernel
theorem gx167_6 : aF 6 zM167.2.2.2.2.2.2.2 = some (6, (.ifCond .ne 5), 3, 11, 0) := by decide +kernel
theorem gx167_11 : aF 11 zM167.2.2.2.2.2.2.2 = some (11, (.aload_n 0), 1, 0, 0) := by decide +kernel
theorem gx167_12 : aF 12 zM167.2.2.2.2.2.2.2 = some (12, (.getfield 35), 3, 11, 3) := by decide +kernel
theorem gx167_15 : aF 15 zM167.2.2.2.2.2.2.2 = some (15, (.getfield 251), 3, 10, 1) := by decide +kernel
theorem gx167_18 : aF 18 zM167.2.2.2.2.2.2.2 = some (18, (.iload_n 1), 1, 0, 0) := by decide +kernel
theorem gx167_19 : aF 19 zM167.2.2.2.2.2.2.2 = some (19, .iadd, 1, 0, 0) := by decide +kernel
theorem gx167_20 : aF 20 zM167.2.2.2.2.2.2.2 = some (20, (.sipush 160), 3, 0, 0) := by decide +kernel
theorem gx167_23 : aF 23 zM167.2.2.2.2.2.2.2 = some (23, (.if_icmp .le 8), 3, 31, 0) := by decide +kernel
theorem gx167_31 : aF 31 zM167.2.2.2.2.2.2.2 = some (31, (.aload_n 0), 1, 0, 0) := by decide +kernel
theorem gx167_32 : aF 32 zM167.2.2.2.2.2.2.2 = some (32, (.getfield 35), 3, 11, 3) := by decide +kernel
theorem gx167_35 : aF 35 zM167.2.2.2.2.2.2.2 = some (35, (.iload_n 1), 1, 0, 0) := by decide +kernel
theorem gx167_36 : aF 36 zM167.2.2.2.2.2.2.2 = some (36, (.iload_n 2), 1, 0, 0) := by decide +kernel
theorem gx167_37 : aF 37 zM167.2.2.2.2.2.2.2 = some (37, (.invokevirtual 254), 3, 117, 0) := by decide +kernel
theorem gx167_40 : aF 40 zM167.2.2.2.2.2.2.2 = some (40, .ireturn, 1, 0, 0) := by decide +kernel
theorem gx167_26 : aF 26 zM167.2.2.2.2.2.2.2 = some (26, (.bipush (-3)), 2, 0, 0) := by decide +kernel
theorem gx167_28 : aF 28 zM167.2.2.2.2.2.2.2 = some (28, (.goto 12), 3, 40, 0) := by decide +kernel
theorem gx167_9 : aF 9 zM167.2.2.2.2.2.2.2 = some (9, (.iconst (-1)), 1, 0, 0) := by decide +kernel
theorem gx167_10 : aF 10 zM167.2.2.2.2.2.2.2 = some (10, .ireturn, 1, 0, 0) := by decide +kernel
theorem gx168_0 : aF 0 zM168.2.2.2.2.2.2.2 = some (0, (.iload_n 1), 1, 0, 0) := by decide +kernel
theorem gx168_1 : aF 1 zM168.2.2.2.2.2.2.2 = some (1, (.invokestatic 257), 3, 143, 0) := by decide +kernel
theorem gx168_4 : aF 4 zM168.2.2.2.2.2.2.2 = some (4, (.ifCond .eq 10), 3, 14, 0) := by decide +kernel
theorem gx168_14 : aF 14 zM168.2.2.2.2.2.2.2 = some (14, (.iconst (-1)), 1, 0, 0) := by decide +kernel
theorem gx168_15 : aF 15 zM168.2.2.2.2.2.2.2 = some (15, .ireturn, 1, 0, 0) := by decide +kernel
theorem gx168_7 : aF 7 zM168.2.2.2.2.2.2.2 = some (7, (.iload_n 2), 1, 0, 0) := by decide +kernel
theorem gx168_8 : aF 8 zM168.2.2.2.2.2.2.2 = some (8, (.invokestatic 187), 3, 139, 0) := by decide +kernel
theorem gx168_11 : aF 11 zM168.2.2.2.2.2.2.2 = some (11, (.ifCond .ne 5), 3, 16, 0) := by decide +kernel
theorem gx168_16 : aF 16 zM168.2.2.2.2.2.2.2 = some (16, (.aload_n 0), 1, 0, 0) := by decide +kernel
theorem gx168_17 : aF 17 zM168.2.2.2.2.2.2.2 = some (17, (.getfield 35), 3, 11, 3) := by decide +kernel
theorem gx168_20 : aF 20 zM168.2.2.2.2.2.2.2 = some (20, (.getfield 260), 3, 10, 7) := by decide +kernel
theorem gx168_23 : aF 23 zM168.2.2.2.2.2.2.2 = some (23, (.bipush 16), 2, 0, 0) := by decide +kernel
theorem gx168_25 : aF 25 zM168.2.2.2.2.2.2.2 = some (25, (.if_icmp .lt 8), 3, 33, 0) := by decide +kernel
theorem gx168_33 : aF 33 zM168.2.2.2.2.2.2.2 = some (33, (.aload_n 0), 1, 0, 0) := by decide +kernel
theorem gx168_34 : aF 34 zM168.2.2.2.2.2.2.2 = some (34, (.getfield 35), 3, 11, 3) := by decide +kernel
theorem gx168_37 : aF 37 zM168.2.2.2.2.2.2.2 = some (37, (.iload_n 1), 1, 0, 0) := by decide +kernel
theorem gx168_38 : aF 38 zM168.2.2.2.2.2.2.2 = some (38, (.iload_n 2), 1, 0, 0) := by decide +kernel
theorem gx168_39 : aF 39 zM168.2.2.2.2.2.2.2 = some (39, (.aload_n 0), 1, 0, 0) := by decide +kernel
theorem gx168_40 : aF 40 zM168.2.2.2.2.2.2.2 = some (40, (.getfield 12), 3, 11, 0) := by decide +kernel
theorem gx168_43 : aF 43 zM168.2.2.2.2.2.2.2 = some (43, (.getfield 93), 3, 6, 0) := by decide +kernel
theorem gx168_46 : aF 46 zM168.2.2.2.2.2.2.2 = some (46, (.invokevirtual 261), 3, 118, 0) := by decide +kernel
theorem gx168_49 : aF 49 zM168.2.2.2.2.2.2.2 = some (49, .ireturn, 1, 0, 0) := by decide +kernel
theorem gx168_28 : aF 28 zM168.2.2.2.2.2.2.2 = some (28, (.bipush (-3)), 2, 0, 0) := by decide +kernel
theorem gx168_30 : aF 30 zM168.2.2.2.2.2.2.2 = some (30, (.goto 19), 3, 49, 0) := by decide +kernel
theorem d123_0 {n : Nat} {X : aX} {h : aH} {P : aH → Prop} {x1 : Int32} {a1 : Int} {q2 : Nat} (S : wS h) (z1 : x1.toInt = a1) (H : (0 ≤ a1 → a1 < 16 → ∀ h_13 : aH, wS h_13 → vw h_13 = up (up (up (up (up (up (vw h) 33 9 (w32 (a1 * 160))) 33 10 (vw h 36 a1)) 33 11 0) 33 12 (-1)) 33 13 q2) 33 14 (-1) → P h_13)) : Pt (n + 1) X zM123 0 [some (.ref 33), some (.int x1), some (.ref q2)] [] h (qN P) := by
  refine pt_1 (fun n d => r_aloadn gx123_0 rfl) ?_
  refine pt_d (pt_1 (fun n d => r_iloadn gx123_1 rfl) ?_)
  refine pt_d (pt_sipush gx123_2 (fun v1 h1 => ?_))
  refine pt_d (pt_imul gx123_5 z1 h1 (fun v2 h2 => ?_))
  refine pt_d (pt_putI (B := 9) gx123_6 S h2 (fun h_3 S3 e3 => ?_))
  refine pt_d (pt_1 (fun n d => r_aloadn gx123_9 rfl) ?_)
  refine pt_d (pt_1 (fun n d => r_aloadn gx123_10 rfl) ?_)
  refine pt_d (pt_getR gx123_11 S3 tr_33_3 ?_)
  refine pt_d (pt_1 (fun n d => r_iloadn gx123_14 rfl) ?_)
  refine pt_d (pt_iald (N' := 16) gx123_15 S3 tl_36 z1 (fun v5 p5 q5 h5 => ?_))
  have H := H p5 q5
  have h5 : v5.toInt = vw h 36 a1 := by rw [h5, e3, up_c (by decide)]
  refine pt_d (pt_putI (B := 10) gx123_16 S3 h5 (fun h_6 S6 e6 => ?_))
  refine pt_d (pt_1 (fun n d => r_aloadn gx123_19 rfl) ?_)
  refine pt_d (pt_iconst gx123_20 (fun v7 h7 => ?_))
  refine pt_d (pt_putI (B := 11) gx123_21 S6 h7 (fun h_8 S8 e8 => ?_))
  refine pt_d (pt_1 (fun n d => r_aloadn gx123_24 rfl) ?_)
  refine pt_d (pt_iconst gx123_25 (fun v9 h9 => ?_))
  refine pt_d (pt_putI (B := 12) gx123_26 S8 h9 (fun h_10 S10 e10 => ?_))
  refine pt_d (pt_1 (fun n d => r_aloadn gx123_29 rfl) ?_)
  refine pt_d (pt_1 (fun n d => r_aloadn gx123_30 rfl) ?_)
  refine pt_d (pt_putR (B := 13) gx123_31 S10 (fun h_11 S11 e11 => ?_))
  refine pt_d (pt_1 (fun n d => r_aloadn gx123_34 rfl) ?_)
  refine pt_d (pt_iconst gx123_35 (fun v12 h12 => ?_))
  refine pt_d (pt_putI (B := 14) gx123_36 S11 h12 (fun h_13 S13 e13 => ?_))
  have H := H h_13 S13 (by rw [e13, e11, e10, e8, e6, e3])
  exact pt_d (pt_vret gx123_39 ⟨rfl, H⟩)
def op123 (V : vS) (t q : Int) : vS := up (up (up (up (up (up V 33 9 (w32 (t * 160))) 33 10 (V 36 t)) 33 11 0) 33 12 (-1)) 33 13 q) 33 14 (-1)
theorem c_123 {n : Nat} {X : aX} {h : aH} {x1 : Int32} {a1 : Int} {q2 : Nat} (S : wS h) (z1 : x1.toInt = a1) : Pt n X zM123 0 [some (.ref 33), some (.int x1), some (.ref q2)] [] h (qN (fun h' => wS h' ∧ vw h' = op123 (vw h) a1 (q2 : Int))) := pt_d (d123_0 S z1 (fun _ _ g S2 eg => ⟨S2, eg⟩))

theorem d122_0 {n : Nat} {X : aX} {h : aH} {P : Int → aH → Prop} {x1 : Int32} {a1 : Int} (S : wS h) (z1 : x1.toInt = a1) (H : ∀ (h_2 : aH), (wS h_2 ∧ vw h_2 = op123 (vw h) a1 40) → (∀ (w2 : Int32) (w3 : Int32), w2.toInt = 1 → w3.toInt = 0 → Pt n X zM122 13 [some (.ref 33), some (.int x1), some (.int w2), some (.int w3)] [] h_2 (qI P))) : Pt (n + 1) X zM122 0 [some (.ref 33), some (.int x1), none, none] [] h (qI P) := by
  refine pt_1 (fun n d => r_aloadn gx122_0 rfl) ?_
  refine pt_d (pt_1 (fun n d => r_iloadn gx122_1 rfl) ?_)
  refine pt_d (pt_1 (fun n d => r_aloadn gx122_2 rfl) ?_)
  refine pt_d (pt_getR gx122_3 S tr_33_8 ?_)
  refine pt_d (pt_virt (as := [.int x1, .ref 40]) (r := []) gx122_6 rfl (show zmt[123]? = some zM123 from rfl) rfl rfl rfl rfl (c_123 S z1) (kqN (fun h_2 P2 => ?_)))
  have S2 := P2.1
  have H := H h_2 P2
  show Pt _ _ _ 9 _ [] _ _
  refine pt_d (pt_iconst gx122_9 (fun v3 h3 => ?_))
  refine pt_d (pt_1 (fun n d => r_istoren (L' := [some (.ref 33), some (.int x1), some (.int v3), none]) gx122_10 rfl rfl) ?_)
  refine pt_d (pt_iconst gx122_11 (fun v4 h4 => ?_))
  refine pt_d (pt_1 (fun n d => r_istoren (L' := [some (.ref 33), some (.int x1), some (.int v3), some (.int v4)]) gx122_12 rfl rfl) ?_)
  exact H v3 v4 h3 h4
theorem d122_13 {n : Nat} {X : aX} {h : aH} {P : Int → aH → Prop} {x1 x2 x3 : Int32} {a1 a2 a3 : Int} (S : wS h) (z1 : x1.toInt = a1) (z2 : x2.toInt = a2) (z3 : x3.toInt = a3) (H : ((160 ≤ a3 → ((vw h 33 12 ≠ (-1) → P (vw h 33 12) h) ∧ (vw h 33 12 = (-1) → ((vw h 33 10 ≤ vw h 33 11 → P (vw h 33 12) h) ∧ (vw h 33 11 < vw h 33 10 → ∀ h_12 : aH, wS h_12 → vw h_12 = up (vw h) 33 12 (vw h 33 11) → P (vw h 33 11) h_12))))) ∧ (a3 < 160 → ((a2 = 0 → ((vw h 33 12 ≠ (-1) → P (vw h 33 12) h) ∧ (vw h 33 12 = (-1) → ((vw h 33 10 ≤ vw h 33 11 → P (vw h 33 12) h) ∧ (vw h 33 11 < vw h 33 10 → ∀ h_24 : aH, wS h_24 → vw h_24 = up (vw h) 33 12 (vw h 33 11) → P (vw h 33 11) h_24))))) ∧ (a2 ≠ 0 → ((cpre (vw h) 0) ∧ ∀ (y27 : Int) (h_27 : aH), (wS h_27 ∧ cRes 8 0 (vw h) (vw h_27)) → ((tIn (vw h_27) ∧ (0 : Int) ≤ 63 ∧ (63 : Int) ≤ 127) ∧ ∀ (y29 : Int) (h_29 : aH), (wS h_29 ∧ R125 (vw h_27) 63 y29 (vw h_29)) → ((y29 = 0 → ((tIn (vw h_29) ∧ (0 : Int) ≤ 59 ∧ (59 : Int) ≤ 127) ∧ ∀ (y32 : Int) (h_32 : aH), (wS h_32 ∧ R125 (vw h_29) 59 y32 (vw h_32)) → (∀ (w2 : Int32) (w3 : Int32), w2.toInt = y32 → w3.toInt = w32 (a3 + 1) → Pt n X zM122 13 [some (.ref 33), some (.int x1), some (.int w2), some (.int w3)] [] h_32 (qI P)))) ∧ (y29 ≠ 0 → ((cpre (vw h_29) 0) ∧ ∀ (y35 : Int) (h_35 : aH), (wS h_35 ∧ cRes 8 0 (vw h_29) (vw h_35)) → ((tIn (vw h_35) ∧ (0 : Int) ≤ 59 ∧ (59 : Int) ≤ 127) ∧ ∀ (y37 : Int) (h_37 : aH), (wS h_37 ∧ R125 (vw h_35) 59 y37 (vw h_37)) → (∀ (w2 : Int32) (w3 : Int32), w2.toInt = y37 → w3.toInt = w32 (a3 + 1) → Pt n X zM122 13 [some (.ref 33), some (.int x1), some (.int w2), some (.int w3)] [] h_37 (qI P))))))))))))) : Pt (n + 1) X zM122 13 [some (.ref 33), some (.int x1), some (.int x2), some (.int x3)] [] h (qI P) := by
  refine pt_1 (fun n d => r_iloadn gx122_13 rfl) ?_
  refine pt_d (pt_sipush gx122_14 (fun v1 h1 => ?_))
  refine pt_d (pt_icmp_ge gx122_17 z3 h1 (fun e2 => ?_) (fun e2 => ?_))
  · have H := H.1 e2
    refine pt_d (pt_1 (fun n d => r_aloadn gx122_58 rfl) ?_)
    refine pt_d (pt_getI (B := 12) gx122_59 S (fun v3 h3 => ?_))
    refine pt_d (pt_iconst gx122_62 (fun v4 h4 => ?_))
    refine pt_d (pt_icmp_ne gx122_63 h3 h4 (fun e5 => ?_) (fun e5 => ?_))
    · have H := H.1 e5
      refine pt_d (pt_1 (fun n d => r_aloadn gx122_85 rfl) ?_)
      refine pt_d (pt_getI (B := 12) gx122_86 S (fun v6 h6 => ?_))
      exact pt_d (pt_iret gx122_89 ⟨_, rfl, by rw [h6]; exact H⟩)
    · have H := H.2 e5
      refine pt_d (pt_1 (fun n d => r_aloadn gx122_66 rfl) ?_)
      refine pt_d (pt_getI (B := 11) gx122_67 S (fun v7 h7 => ?_))
      refine pt_d (pt_1 (fun n d => r_aloadn gx122_70 rfl) ?_)
      refine pt_d (pt_getI (B := 10) gx122_71 S (fun v8 h8 => ?_))
      refine pt_d (pt_icmp_ge gx122_74 h7 h8 (fun e9 => ?_) (fun e9 => ?_))
      · have H := H.1 e9
        refine pt_d (pt_1 (fun n d => r_aloadn gx122_85 rfl) ?_)
        refine pt_d (pt_getI (B := 12) gx122_86 S (fun v10 h10 => ?_))
        exact pt_d (pt_iret gx122_89 ⟨_, rfl, by rw [h10]; exact H⟩)
      · have H := H.2 e9
        refine pt_d (pt_1 (fun n d => r_aloadn gx122_77 rfl) ?_)
        refine pt_d (pt_1 (fun n d => r_aloadn gx122_78 rfl) ?_)
        refine pt_d (pt_getI (B := 11) gx122_79 S (fun v11 h11 => ?_))
        refine pt_d (pt_putI (B := 12) gx122_82 S h11 (fun h_12 S12 e12 => ?_))
        refine pt_d (pt_1 (fun n d => r_aloadn gx122_85 rfl) ?_)
        refine pt_d (pt_getI (B := 12) gx122_86 S12 (fun v13 h13 => ?_))
        have h13 : v13.toInt = vw h 33 11 := by rw [h13, e12, up_s]
        have H := H h_12 S12 (by rw [e12])
        exact pt_d (pt_iret gx122_89 ⟨_, rfl, by rw [h13]; exact H⟩)
  · have H := H.2 e2
    refine pt_d (pt_1 (fun n d => r_iloadn gx122_20 rfl) ?_)
    refine pt_d (pt_if_eq gx122_21 z2 (fun e14 => ?_) (fun e14 => ?_))
    · have H := H.1 e14
      refine pt_d (pt_1 (fun n d => r_aloadn gx122_58 rfl) ?_)
      refine pt_d (pt_getI (B := 12) gx122_59 S (fun v15 h15 => ?_))
      refine pt_d (pt_iconst gx122_62 (fun v16 h16 => ?_))
      refine pt_d (pt_icmp_ne gx122_63 h15 h16 (fun e17 => ?_) (fun e17 => ?_))
      · have H := H.1 e17
        refine pt_d (pt_1 (fun n d => r_aloadn gx122_85 rfl) ?_)
        refine pt_d (pt_getI (B := 12) gx122_86 S (fun v18 h18 => ?_))
        exact pt_d (pt_iret gx122_89 ⟨_, rfl, by rw [h18]; exact H⟩)
      · have H := H.2 e17
        refine pt_d (pt_1 (fun n d => r_aloadn gx122_66 rfl) ?_)
        refine pt_d (pt_getI (B := 11) gx122_67 S (fun v19 h19 => ?_))
        refine pt_d (pt_1 (fun n d => r_aloadn gx122_70 rfl) ?_)
        refine pt_d (pt_getI (B := 10) gx122_71 S (fun v20 h20 => ?_))
        refine pt_d (pt_icmp_ge gx122_74 h19 h20 (fun e21 => ?_) (fun e21 => ?_))
        · have H := H.1 e21
          refine pt_d (pt_1 (fun n d => r_aloadn gx122_85 rfl) ?_)
          refine pt_d (pt_getI (B := 12) gx122_86 S (fun v22 h22 => ?_))
          exact pt_d (pt_iret gx122_89 ⟨_, rfl, by rw [h22]; exact H⟩)
        · have H := H.2 e21
          refine pt_d (pt_1 (fun n d => r_aloadn gx122_77 rfl) ?_)
          refine pt_d (pt_1 (fun n d => r_aloadn gx122_78 rfl) ?_)
          refine pt_d (pt_getI (B := 11) gx122_79 S (fun v23 h23 => ?_))
          refine pt_d (pt_putI (B := 12) gx122_82 S h23 (fun h_24 S24 e24 => ?_))
          refine pt_d (pt_1 (fun n d => r_aloadn gx122_85 rfl) ?_)
          refine pt_d (pt_getI (B := 12) gx122_86 S24 (fun v25 h25 => ?_))
          have h25 : v25.toInt = vw h 33 11 := by rw [h25, e24, up_s]
          have H := H h_24 S24 (by rw [e24])
          exact pt_d (pt_iret gx122_89 ⟨_, rfl, by rw [h25]; exact H⟩)
    · have H := H.2 e14
      refine pt_d (pt_1 (fun n d => r_aloadn gx122_24 rfl) ?_)
      refine pt_d (pt_iconst gx122_25 (fun v26 h26 => ?_))
      obtain ⟨pr27, H⟩ := H
      refine pt_d (pt_virt (as := [.int v26]) (r := []) gx122_26 rfl (show zmt[128]? = some zM128 from rfl) rfl rfl rfl rfl ((c_gram X _).2.2.2.2.2.1 S h26 pr27) (kqI (fun v27 y27 h_27 h27 P27 => ?_)))
      have S27 := P27.1
      have H := H y27 h_27 P27
      show Pt _ _ _ 29 _ [.int v27] _ _
      refine pt_d (pt_1 (fun n d => r_pop gx122_29 rfl) ?_)
      refine pt_d (pt_1 (fun n d => r_aloadn gx122_30 rfl) ?_)
      refine pt_d (pt_bipush gx122_31 (fun v28 h28 => ?_))
      obtain ⟨pr29, H⟩ := H
      refine pt_d (pt_virt (as := [.int v28]) (r := []) gx122_33 rfl (show zmt[125]? = some zM125 from rfl) rfl rfl rfl rfl (c_125 S27 h28 pr29) (kqI (fun v29 y29 h_29 h29 P29 => ?_)))
      have S29 := P29.1
      have H := H y29 h_29 P29
      show Pt _ _ _ 36 _ [.int v29] _ _
      refine pt_d (pt_if_eq gx122_36 h29 (fun e30 => ?_) (fun e30 => ?_))
      · have H := H.1 e30
        refine pt_d (pt_1 (fun n d => r_aloadn gx122_45 rfl) ?_)
        refine pt_d (pt_bipush gx122_46 (fun v31 h31 => ?_))
        obtain ⟨pr32, H⟩ := H
        refine pt_d (pt_virt (as := [.int v31]) (r := []) gx122_48 rfl (show zmt[125]? = some zM125 from rfl) rfl rfl rfl rfl (c_125 S29 h31 pr32) (kqI (fun v32 y32 h_32 h32 P32 => ?_)))
        have S32 := P32.1
        have H := H y32 h_32 P32
        show Pt _ _ _ 51 _ [.int v32] _ _
        refine pt_d (pt_1 (fun n d => r_istoren (L' := [some (.ref 33), some (.int x1), some (.int v32), some (.int x3)]) gx122_51 rfl rfl) ?_)
        refine pt_d (pt_iinc (c := 1) gx122_52 rfl z3 (fun v33 h33 => ?_))
        show Pt _ _ _ _ [some (.ref 33), some (.int x1), some (.int v32), some (.int v33)] [] _ _
        refine pt_d (pt_1 (fun n d => r_goto gx122_55) ?_)
        exact H v32 v33 h32 h33
      · have H := H.2 e30
        refine pt_d (pt_1 (fun n d => r_aloadn gx122_39 rfl) ?_)
        refine pt_d (pt_iconst gx122_40 (fun v34 h34 => ?_))
        obtain ⟨pr35, H⟩ := H
        refine pt_d (pt_virt (as := [.int v34]) (r := []) gx122_41 rfl (show zmt[128]? = some zM128 from rfl) rfl rfl rfl rfl ((c_gram X _).2.2.2.2.2.1 S29 h34 pr35) (kqI (fun v35 y35 h_35 h35 P35 => ?_)))
        have S35 := P35.1
        have H := H y35 h_35 P35
        show Pt _ _ _ 44 _ [.int v35] _ _
        refine pt_d (pt_1 (fun n d => r_pop gx122_44 rfl) ?_)
        refine pt_d (pt_1 (fun n d => r_aloadn gx122_45 rfl) ?_)
        refine pt_d (pt_bipush gx122_46 (fun v36 h36 => ?_))
        obtain ⟨pr37, H⟩ := H
        refine pt_d (pt_virt (as := [.int v36]) (r := []) gx122_48 rfl (show zmt[125]? = some zM125 from rfl) rfl rfl rfl rfl (c_125 S35 h36 pr37) (kqI (fun v37 y37 h_37 h37 P37 => ?_)))
        have S37 := P37.1
        have H := H y37 h_37 P37
        show Pt _ _ _ 51 _ [.int v37] _ _
        refine pt_d (pt_1 (fun n d => r_istoren (L' := [some (.ref 33), some (.int x1), some (.int v37), some (.int x3)]) gx122_51 rfl rfl) ?_)
        refine pt_d (pt_iinc (c := 1) gx122_52 rfl z3 (fun v38 h38 => ?_))
        show Pt _ _ _ _ [some (.ref 33), some (.int x1), some (.int v37), some (.int v38)] [] _ _
        refine pt_d (pt_1 (fun n d => r_goto gx122_55) ?_)
        exact H v37 v38 h37 h38
def rsF (E q f : Int) : Int := if 0 ≤ f then f else if q < E then q else -1
def fnF (V : vS) : Int := if V 33 12 ≠ -1 then V 33 12 else if V 33 11 < V 33 10 then V 33 11 else -1
def fr33 (V V' : vS) : Prop := ∀ c j, (c ≠ 33 ∨ (j ≠ 11 ∧ j ≠ 12)) → V' c j = V c j
theorem fr33_t {V V1 V' : vS} (a : fr33 V V1) (b : fr33 V1 V') : fr33 V V' := fun c j h => (b c j h).trans (a c j h)
theorem fr33_c {t : Nat} {o : Int} {V V' : vS} (c : cRes t o V V') : fr33 V V' := by
  obtain ⟨q, f, a, g, -, rfl, -⟩ := c
  intro c j h
  rcases h with h | h
  · rw [up_c h, up_c h]
  · rw [up_j h.2, up_j h.1]
theorem fr33_k {V V' : vS} {c y : Int} (k : R125 V c y V') : fr33 V V' := by
  rcases k with ⟨-, rfl, -⟩ | ⟨-, -, rfl⟩
  · exact fun _ _ _ => rfl
  · intro c j h
    rcases h with h | h
    · rw [up_c h]
    · rw [up_j h.1]
theorem fr33_T {V V' : vS} (a : fr33 V V') : cTx V' = cTx V ∧ V' 33 10 = V 33 10 := by
  refine ⟨?_, a 33 10 (Or.inr (by decide))⟩
  funext p
  unfold cTx
  rw [a 33 10 (Or.inr (by decide)), a 33 9 (Or.inr (by decide)), a 35 _ (Or.inl (by decide))]
-- what a line comes to, and the sign behind it
theorem line_y {V Vx V7 : vS} {y q f : Int} (I : tIn V) (c : cRes 10 0 V Vx) (k : R125 Vx 59 y V7) (hy : y ≠ 0) (p : Pr (cTx V) 11 0 (V7 33 11) q f) : Pr (cTx V) 11 0 (V 33 11) q f ∧ V 33 11 + 2 ≤ V7 33 11 := by
  obtain ⟨⟨m1, m2, m3⟩, e7⟩ := tk_1 k hy
  obtain ⟨q0, f0, a, g, p1, e1, b1, b2, d⟩ := c
  obtain ⟨f1, f2, f3, f4⟩ := cR_f e1
  rw [f1, f3] at m2
  rw [e7, up_s, f3] at p
  have e11 : V7 33 11 = a + 1 := by rw [e7, up_s, f3]
  have hc : opB 14 (cTx V a) = true := by rw [m2]; rfl
  have b0 := I.1.1
  rcases d with ⟨rfl, rfl, rfl⟩ | ⟨d1, rfl | ⟨rfl, rfl, d2⟩⟩
  · refine ⟨sq_n gsq11 p1 (ch_y gch14 hc p), ?_⟩
    have := (pr_b b0 p1).2.2 (by decide)
    omega
  · rw [f4] at m1
    omega
  · rw [m2] at d2
    exact absurd d2 (by decide)
theorem line_n {V Vx V7 : vS} {y : Int} (I : tIn V) (c : cRes 10 0 V Vx) (k : R125 Vx 59 y V7) (hy : y = 0) : ∃ q f : Int, Pr (cTx V) 11 0 (V 33 11) q f ∧ fnF V7 = rsF (V 33 10) q f := by
  obtain ⟨e7, n7⟩ := tk_0 k hy
  subst e7
  have b0 := I.1.1
  obtain ⟨q0, f0, a, g, p1, e1, b1, b2, d⟩ := c
  obtain ⟨f1, f2, f3, f4⟩ := cR_f e1
  unfold fnF
  rw [f2, f3, f4]
  rcases d with ⟨rfl, rfl, rfl⟩ | ⟨d1, rfl | ⟨rfl, rfl, d2⟩⟩
  · have n := n7 f4
    rw [f1, f3] at n
    have hc : opB 14 (cTx V a) = false := beq_false_of_ne n
    exact ⟨_, _, sq_n gsq11 p1 (ch_e gch14 hc), by unfold rsF; rw [if_neg (show ¬ ((-1 : Int) ≠ -1) by decide), if_neg (show ¬ ((0 : Int) ≤ -1) by decide)]⟩
  · exact ⟨_, _, sq_f gsq11 p1 d1, by unfold rsF; rw [if_pos (by omega), if_pos d1]⟩
  · refine ⟨_, _, sq_f gsq11 p1 d1, ?_⟩
    have lt : a < V 33 10 := cT_lt I (fun w => by rw [w] at d2; cases d2)
    unfold rsF
    rw [if_neg (show ¬ ((-1 : Int) ≠ -1) by decide), if_pos lt, if_pos d1]
theorem l_122 {X : aX} : ∀ (n : Nat) (h : aH) (x1 x2 x3 : Int32), wS h → tIn (vw h) → 0 ≤ x3.toInt → (x2.toInt ≠ 0 → vw h 33 12 = -1 ∧ 2 * x3.toInt ≤ vw h 33 11) → Pt n X zM122 13 [some (.ref 33), some (.int x1), some (.int x2), some (.int x3)] [] h (qI (fun y h' => wS h' ∧ fr33 (vw h) (vw h') ∧ (x2.toInt ≠ 0 → ∃ q f : Int, Pr (cTx (vw h)) 11 0 (vw h 33 11) q f ∧ y = rsF (vw h 33 10) q f) ∧ (x2.toInt = 0 → y = fnF (vw h)))) := by
  intro n
  induction n with
  | zero => exact fun _ _ _ _ _ _ _ _ => pt_z
  | succ n ih =>
    intro h x1 x2 x3 S I i0 hc
    have bI := I.1
    have bI2 := I.2.1
    have stop : ∀ (e2 : x2.toInt = 0) (y : Int) (g : aH), wS g → fr33 (vw h) (vw g) → y = fnF (vw h) → wS g ∧ fr33 (vw h) (vw g) ∧ (x2.toInt ≠ 0 → ∃ q f : Int, Pr (cTx (vw h)) 11 0 (vw h 33 11) q f ∧ y = rsF (vw h 33 10) q f) ∧ (x2.toInt = 0 → y = fnF (vw h)) := fun e2 y g S2 F e => ⟨S2, F, fun z => absurd e2 z, fun _ => e⟩
    have f1 : vw h 33 12 ≠ -1 → vw h 33 12 = fnF (vw h) := fun z => (if_pos z).symm
    have f2 : vw h 33 12 = -1 → vw h 33 10 ≤ vw h 33 11 → vw h 33 12 = fnF (vw h) := fun z w => by
      unfold fnF
      rw [if_neg (fun u => u z), if_neg (by omega), z]
    have f3 : vw h 33 12 = -1 → vw h 33 11 < vw h 33 10 → vw h 33 11 = fnF (vw h) := fun z w => by
      unfold fnF
      rw [if_neg (fun u => u z), if_pos w]
    have fx : ∀ (g : aH), vw g = up (vw h) 33 12 (vw h 33 11) → fr33 (vw h) (vw g) := fun g eg c j hcj => by
      rw [eg]
      rcases hcj with z | z
      · exact up_c z
      · exact up_j z.2
    -- behind a line
    have go : ∀ (Vx : vS) (y37 : Int) (h37 : aH), cRes 10 0 (vw h) Vx → wS h37 → R125 Vx 59 y37 (vw h37) → x2.toInt ≠ 0 → x3.toInt < 160 → ∀ (w2 w3 : Int32), w2.toInt = y37 → w3.toInt = w32 (x3.toInt + 1) → Pt n X zM122 13 [some (.ref 33), some (.int x1), some (.int w2), some (.int w3)] [] h37 (qI (fun y h' => wS h' ∧ fr33 (vw h) (vw h') ∧ (x2.toInt ≠ 0 → ∃ q f : Int, Pr (cTx (vw h)) 11 0 (vw h 33 11) q f ∧ y = rsF (vw h 33 10) q f) ∧ (x2.toInt = 0 → y = fnF (vw h)))) := by
      intro Vx y37 h37 c S37 k e2 lt w2 w3 g2 g3
      replace g3 := w_1 g3 (by omega) (by omega)
      have F1 : fr33 (vw h) (vw h37) := fr33_t (fr33_c c) (fr33_k k)
      obtain ⟨T1, T2⟩ := fr33_T F1
      obtain ⟨Ix, jx⟩ := cR_i I c
      by_cases z : y37 = 0
      · have v := tk_0 k z
        have I37 : tIn (vw h37) := by rw [v.1]; exact Ix
        refine pt_q (ih h37 x1 w2 w3 S37 I37 (by omega) (fun w => absurd (g2.trans z) w)) ?_
        rintro y h' ⟨x, ex, p1, p2, -, p4⟩
        obtain ⟨q, f, r1, r2⟩ := line_n I c k z
        exact ⟨x, ex, p1, fr33_t F1 p2, fun _ => ⟨q, f, r1, (p4 (g2.trans z)).trans r2⟩, fun w => absurd w e2⟩
      · obtain ⟨I37, e12, e11⟩ := tk_i Ix k z
        obtain ⟨i1, i2⟩ := hc e2
        have a2 : vw h 33 11 + 2 ≤ vw h37 33 11 := by
          obtain ⟨q0, f0, a, g, p1, e1, b1, b2, d⟩ := c
          obtain ⟨u1, u2, u3, u4⟩ := cR_f e1
          obtain ⟨⟨m1, m2, m3⟩, -⟩ := tk_1 k z
          rcases d with ⟨rfl, rfl, rfl⟩ | ⟨d1, rfl | ⟨rfl, rfl, d2⟩⟩
          · have := (pr_b bI.1 p1).2.2 (by decide)
            omega
          · omega
          · rw [u1, u3] at m2
            rw [m2] at d2
            exact absurd d2 (by decide)
        refine pt_q (ih h37 x1 w2 w3 S37 I37 (by omega) (fun _ => ⟨e12, by omega⟩)) ?_
        rintro y h' ⟨x, ex, p1, p2, p3, -⟩
        obtain ⟨q, f, r1, r2⟩ := p3 (fun w => z (g2.symm.trans w))
        rw [T1] at r1
        rw [T2] at r2
        exact ⟨x, ex, p1, fr33_t F1 p2, fun _ => ⟨q, f, (line_y I c k z r1).1, r2⟩, fun w => absurd w e2⟩
    refine d122_13 S rfl rfl rfl ⟨fun e1 => ?_, fun e1 => ⟨fun e2 => ⟨fun z => stop e2 _ _ S (fun _ _ _ => rfl) (f1 z), fun z => ⟨fun w => stop e2 _ _ S (fun _ _ _ => rfl) (f2 z w), fun w g S2 eg => stop e2 _ _ S2 (fx g eg) (f3 z w)⟩⟩, fun e2 => ⟨⟨I, (hc e2).1, by decide, by decide⟩, fun y27 h27 k27 => ?_⟩⟩⟩
    · have e2 : x2.toInt = 0 := by
        by_cases z : x2.toInt = 0
        · exact z
        · have := (hc z).2
          omega
      exact ⟨fun z => stop e2 _ _ S (fun _ _ _ => rfl) (f1 z), fun z => ⟨fun w => stop e2 _ _ S (fun _ _ _ => rfl) (f2 z w), fun w g S2 eg => stop e2 _ _ S2 (fx g eg) (f3 z w)⟩⟩
    · obtain ⟨I27, j27⟩ := cR_i I k27.2
      refine ⟨⟨I27, by decide, by decide⟩, fun y29 h29 k29 => ⟨fun e29 => ?_, fun e29 => ?_⟩⟩
      · obtain ⟨v29, n29⟩ := tk_0 k29.2 e29
        have c10 : cRes 10 0 (vw h) (vw h29) := by
          rw [v29]
          exact c_seq gsq10 (fun _ _ _ => ch_e gch13) k27.2 (c_out (fun _ _ _ => ch_e gch13) I27 (fun e => beq_false_of_ne (n29 e)))
        exact ⟨⟨by rw [v29]; exact I27, by decide, by decide⟩, fun y32 h32 k32 w2 w3 g2 g3 => go (vw h29) y32 h32 c10 k32.1 k32.2 e2 e1 w2 w3 g2 g3⟩
      · obtain ⟨I29, e12, e11⟩ := tk_i I27 k29.2 e29
        refine ⟨⟨I29, e12, by decide, by decide⟩, fun y35 h35 k35 => ?_⟩
        obtain ⟨I35, j35⟩ := cR_i I29 k35.2
        have c10 : cRes 10 0 (vw h) (vw h35) := c_seq gsq10 (fun _ _ _ => ch_e gch13) k27.2 (c_cho gch13 k29.2 e29 rfl k35.2)
        exact ⟨⟨I35, by decide, by decide⟩, fun y37 h37 k37 w2 w3 g2 g3 => go (vw h35) y37 h37 c10 k37.1 k37.2 e2 e1 w2 w3 g2 g3⟩
def pre122 (V : vS) (t : Int) : Prop := (0 ≤ t ∧ t < 16) ∧ (0 ≤ V 36 t ∧ V 36 t ≤ 160) ∧ ∀ j, 0 ≤ j → j < 2560 → -128 ≤ V 35 j ∧ V 35 j ≤ 127
def oT (V : vS) (t p : Int) : Int := if 0 ≤ p ∧ p < V 36 t then V 35 (160 * t + p) else -1
theorem op_T {V : vS} {t q : Int} (H : pre122 V t) : tIn (op123 V t q) ∧ cTx (op123 V t q) = oT V t ∧ op123 V t q 33 10 = V 36 t ∧ op123 V t q 33 11 = 0 ∧ op123 V t q 33 12 = -1 ∧ ∀ c j, (c ≠ 33 ∨ (j < 9 ∨ 14 < j)) → op123 V t q c j = V c j := by
  obtain ⟨h1, h2, h3⟩ := H
  have e9 : op123 V t q 33 9 = 160 * t := by
    unfold op123
    rw [up_j (c' := 33) (by decide), up_j (c' := 33) (by decide), up_j (c' := 33) (by decide), up_j (c' := 33) (by decide), up_j (c' := 33) (by decide), up_s, w32_id (by omega) (by omega)]
    omega
  have e10 : op123 V t q 33 10 = V 36 t := by
    unfold op123
    rw [up_j (c' := 33) (by decide), up_j (c' := 33) (by decide), up_j (c' := 33) (by decide), up_j (c' := 33) (by decide), up_s]
  have e11 : op123 V t q 33 11 = 0 := by
    unfold op123
    rw [up_j (c' := 33) (by decide), up_j (c' := 33) (by decide), up_j (c' := 33) (by decide), up_s]
  have e12 : op123 V t q 33 12 = -1 := by
    unfold op123
    rw [up_j (c' := 33) (by decide), up_j (c' := 33) (by decide), up_s]
  have ex : ∀ c j, (c ≠ 33 ∨ (j < 9 ∨ 14 < j)) → op123 V t q c j = V c j := by
    intro c j hcj
    unfold op123
    rcases hcj with z | z
    · rw [up_c z, up_c z, up_c z, up_c z, up_c z, up_c z]
    · rw [up_j (by omega), up_j (by omega), up_j (by omega), up_j (by omega), up_j (by omega), up_j (by omega)]
  refine ⟨⟨by rw [e11, e10]; exact ⟨Int.le_refl _, h2.1⟩, by rw [e10]; exact h2.2, by rw [e9]; omega, fun j j0 j1 => by rw [ex 35 j (Or.inl (by decide))]; exact h3 j j0 j1⟩, ?_, e10, e11, e12, ex⟩
  funext p
  unfold cTx oT
  rw [e10, e9, ex 35 _ (Or.inl (by decide))]
def R122 (V : vS) (t y : Int) (V' : vS) : Prop := (∀ c j, (c ≠ 33 ∨ (j < 9 ∨ 14 < j)) → V' c j = V c j) ∧ ∃ q f : Int, Pr (oT V t) 11 0 0 q f ∧ y = rsF (V 36 t) q f
theorem c_122 {n : Nat} {X : aX} {h : aH} {x1 : Int32} {a1 : Int} (S : wS h) (z1 : x1.toInt = a1) (hp : pre122 (vw h) a1) : Pt n X zM122 0 [some (.ref 33), some (.int x1), none, none] [] h (qI (fun y h' => wS h' ∧ R122 (vw h) a1 y (vw h'))) := by
  obtain ⟨o1, o2, o3, o4, o5, o6⟩ := op_T (q := 40) hp
  refine pt_d (d122_0 S z1 (fun h2 k2 w2 w3 g2 g3 => ?_))
  have ev : vw h2 = op123 (vw h) a1 40 := k2.2
  refine pt_q (l_122 n h2 x1 w2 w3 k2.1 (by rw [ev]; exact o1) (by omega) (fun _ => ⟨by rw [ev]; exact o5, by rw [ev, o4]; omega⟩)) ?_
  rintro y h' ⟨x, ex, p1, p2, p3, -⟩
  obtain ⟨q, f, r1, r2⟩ := p3 (by omega)
  rw [ev, o2, o4] at r1
  rw [ev, o3] at r2
  rw [ev] at p2
  refine ⟨x, ex, p1, fun c j hcj => ?_, q, f, r1, r2⟩
  rw [p2 c j (hcj.imp id (fun z => by omega)), o6 c j hcj]
end
section
-- ===== the class makes and finds texts =====
theorem d118_0 {n : Nat} {X : aX} {h : aH} {P : Int → aH → Prop} {x1 x2 x3 : Int32} {a1 a2 a3 : Int} (S : wS h) (z1 : x1.toInt = a1) (z2 : x2.toInt = a2) (z3 : x3.toInt = a3) (H : ((vw h 33 7 < 16 → ((0 : Int) ≤ 0 → (0 : Int) ≤ w32 ((vw h 33 7) * 160) → (0 : Int) ≤ vw h 33 1 → (0 ≤ vw h 33 7 → vw h 33 7 < 16 → ∀ h_17 : aH, wS h_17 → vw h_17 = up (up (cpy (vw h) 34 0 35 (w32 ((vw h 33 7) * 160)) (vw h 33 1)) 36 (vw h 33 7) (vw h 33 1)) 33 1 0 → ((pre122 (vw h_17) (vw h 33 7)) ∧ ∀ (y19 : Int) (h_19 : aH), (wS h_19 ∧ R122 (vw h_17) (vw h 33 7) y19 (vw h_19)) → ((y19 = (-1) → (0 ≤ vw h_19 33 7 → vw h_19 33 7 < 16 → ∀ h_34 : aH, wS h_34 → vw h_34 = up (up (up (up (vw h_19) 37 (vw h_19 33 7) a1) 38 (vw h_19 33 7) a2) 39 (vw h_19 33 7) a3) 33 7 (w32 ((vw h_19 33 7) + 1)) → P (w32 ((w32 ((vw h_19 33 7) + 1)) - 1)) h_34)) ∧ (y19 ≠ (-1) → P (w32 ((-100) - y19)) h_19)))))) ∧ (16 ≤ vw h 33 7 → P (-3) h))) : Pt (n + 1) X zM118 0 [some (.ref 33), some (.int x1), some (.int x2), some (.int x3), none] [] h (qI P) := by
  refine pt_1 (fun n d => r_aloadn gx118_0 rfl) ?_
  refine pt_d (pt_getI (B := 7) gx118_1 S (fun v1 h1 => ?_))
  refine pt_d (pt_bipush gx118_4 (fun v2 h2 => ?_))
  refine pt_d (pt_icmp_lt gx118_6 h1 h2 (fun e3 => ?_) (fun e3 => ?_))
  · have H := H.1 e3
    refine pt_d (pt_1 (fun n d => r_aloadn gx118_12 rfl) ?_)
    refine pt_d (pt_getR gx118_13 S tr_33_0 ?_)
    refine pt_d (pt_iconst gx118_16 (fun v5 h5 => ?_))
    refine pt_d (pt_1 (fun n d => r_aloadn gx118_17 rfl) ?_)
    refine pt_d (pt_getR gx118_18 S tr_33_2 ?_)
    refine pt_d (pt_1 (fun n d => r_aloadn gx118_21 rfl) ?_)
    refine pt_d (pt_getI (B := 7) gx118_22 S (fun v7 h7 => ?_))
    refine pt_d (pt_sipush gx118_25 (fun v8 h8 => ?_))
    refine pt_d (pt_imul gx118_28 h7 h8 (fun v9 h9 => ?_))
    refine pt_d (pt_1 (fun n d => r_aloadn gx118_29 rfl) ?_)
    refine pt_d (pt_getI (B := 1) gx118_30 S (fun v10 h10 => ?_))
    refine pt_d (pt_copy gx118_33 rfl S h5 h9 h10 (fun h_11 S11 p11 q11 r11 e11 => ?_))
    have H := H p11 q11 r11
    refine pt_d (pt_1 (fun n d => r_aloadn gx118_36 rfl) ?_)
    refine pt_d (pt_getR gx118_37 S11 tr_33_3 ?_)
    refine pt_d (pt_1 (fun n d => r_aloadn gx118_40 rfl) ?_)
    refine pt_d (pt_getI (B := 7) gx118_41 S11 (fun v13 h13 => ?_))
    have h13 : v13.toInt = vw h 33 7 := by rw [h13, e11, cpy_c (by decide)]
    refine pt_d (pt_1 (fun n d => r_aloadn gx118_44 rfl) ?_)
    refine pt_d (pt_getI (B := 1) gx118_45 S11 (fun v14 h14 => ?_))
    have h14 : v14.toInt = vw h 33 1 := by rw [h14, e11, cpy_c (by decide)]
    refine pt_d (pt_iast (N' := 16) gx118_48 S11 tl_36 h13 h14 (fun h_15 S15 p15 q15 e15 => ?_))
    have H := H p15 q15
    refine pt_d (pt_1 (fun n d => r_aloadn gx118_49 rfl) ?_)
    refine pt_d (pt_iconst gx118_50 (fun v16 h16 => ?_))
    refine pt_d (pt_putI (B := 1) gx118_51 S15 h16 (fun h_17 S17 e17 => ?_))
    refine pt_d (pt_1 (fun n d => r_aloadn gx118_54 rfl) ?_)
    refine pt_d (pt_1 (fun n d => r_aloadn gx118_55 rfl) ?_)
    refine pt_d (pt_getI (B := 7) gx118_56 S17 (fun v18 h18 => ?_))
    have h18 : v18.toInt = vw h 33 7 := by rw [h18, e17, up_j (by decide), e15, up_c (by decide), e11, cpy_c (by decide)]
    have H := H h_17 S17 (by rw [e17, e15, e11])
    obtain ⟨pr19, H⟩ := H
    refine pt_d (pt_virt (as := [.int v18]) (r := []) gx118_59 rfl (show zmt[122]? = some zM122 from rfl) rfl rfl rfl rfl (c_122 S17 h18 pr19) (kqI (fun v19 y19 h_19 h19 P19 => ?_)))
    have S19 := P19.1
    have H := H y19 h_19 P19
    show Pt _ _ _ 62 _ [.int v19] _ _
    refine pt_d (pt_1 (fun n d => r_istore (L' := [some (.ref 33), some (.int x1), some (.int x2), some (.int x3), some (.int v19)]) gx118_62 rfl rfl) ?_)
    refine pt_d (pt_1 (fun n d => r_iload gx118_64 rfl) ?_)
    refine pt_d (pt_iconst gx118_66 (fun v20 h20 => ?_))
    refine pt_d (pt_icmp_eq gx118_67 h19 h20 (fun e21 => ?_) (fun e21 => ?_))
    · have H := H.1 e21
      refine pt_d (pt_1 (fun n d => r_aloadn gx118_76 rfl) ?_)
      refine pt_d (pt_getR gx118_77 S19 tr_33_4 ?_)
      refine pt_d (pt_1 (fun n d => r_aloadn gx118_80 rfl) ?_)
      refine pt_d (pt_getI (B := 7) gx118_81 S19 (fun v23 h23 => ?_))
      refine pt_d (pt_1 (fun n d => r_iloadn gx118_84 rfl) ?_)
      refine pt_d (pt_iast (N' := 16) gx118_85 S19 tl_37 h23 z1 (fun h_24 S24 p24 q24 e24 => ?_))
      have H := H p24 q24
      refine pt_d (pt_1 (fun n d => r_aloadn gx118_86 rfl) ?_)
      refine pt_d (pt_getR gx118_87 S24 tr_33_5 ?_)
      refine pt_d (pt_1 (fun n d => r_aloadn gx118_90 rfl) ?_)
      refine pt_d (pt_getI (B := 7) gx118_91 S24 (fun v26 h26 => ?_))
      have h26 : v26.toInt = vw h_19 33 7 := by rw [h26, e24, up_c (by decide)]
      refine pt_d (pt_1 (fun n d => r_iloadn gx118_94 rfl) ?_)
      refine pt_d (pt_iast (N' := 16) gx118_95 S24 tl_38 h26 z2 (fun h_27 S27 p27 q27 e27 => ?_))
      refine pt_d (pt_1 (fun n d => r_aloadn gx118_96 rfl) ?_)
      refine pt_d (pt_getR gx118_97 S27 tr_33_6 ?_)
      refine pt_d (pt_1 (fun n d => r_aloadn gx118_100 rfl) ?_)
      refine pt_d (pt_getI (B := 7) gx118_101 S27 (fun v29 h29 => ?_))
      have h29 : v29.toInt = vw h_19 33 7 := by rw [h29, e27, up_c (by decide), e24, up_c (by decide)]
      refine pt_d (pt_1 (fun n d => r_iloadn gx118_104 rfl) ?_)
      refine pt_d (pt_iast (N' := 16) gx118_105 S27 tl_39 h29 z3 (fun h_30 S30 p30 q30 e30 => ?_))
      refine pt_d (pt_1 (fun n d => r_aloadn gx118_106 rfl) ?_)
      refine pt_d (pt_1 (fun n d => r_dup gx118_107 rfl) ?_)
      refine pt_d (pt_getI (B := 7) gx118_108 S30 (fun v31 h31 => ?_))
      have h31 : v31.toInt = vw h_19 33 7 := by rw [h31, e30, up_c (by decide), e27, up_c (by decide), e24, up_c (by decide)]
      refine pt_d (pt_iconst gx118_111 (fun v32 h32 => ?_))
      refine pt_d (pt_iadd gx118_112 h31 h32 (fun v33 h33 => ?_))
      refine pt_d (pt_putI (B := 7) gx118_113 S30 h33 (fun h_34 S34 e34 => ?_))
      refine pt_d (pt_1 (fun n d => r_aloadn gx118_116 rfl) ?_)
      refine pt_d (pt_getI (B := 7) gx118_117 S34 (fun v35 h35 => ?_))
      have h35 : v35.toInt = w32 ((vw h_19 33 7) + 1) := by rw [h35, e34, up_s]
      refine pt_d (pt_iconst gx118_120 (fun v36 h36 => ?_))
      refine pt_d (pt_isub gx118_121 h35 h36 (fun v37 h37 => ?_))
      have H := H h_34 S34 (by rw [e34, e30, e27, e24])
      exact pt_d (pt_iret gx118_122 ⟨_, rfl, by rw [h37]; exact H⟩)
    · have H := H.2 e21
      refine pt_d (pt_bipush gx118_70 (fun v38 h38 => ?_))
      refine pt_d (pt_1 (fun n d => r_iload gx118_72 rfl) ?_)
      refine pt_d (pt_isub gx118_74 h38 h19 (fun v39 h39 => ?_))
      exact pt_d (pt_iret gx118_75 ⟨_, rfl, by rw [h39]; exact H⟩)
  · have H := H.2 e3
    refine pt_d (pt_bipush gx118_9 (fun v40 h40 => ?_))
    exact pt_d (pt_iret gx118_11 ⟨_, rfl, by rw [h40]; exact H⟩)
theorem d117_0 {n : Nat} {X : aX} {h : aH} {P : Int → aH → Prop} {x1 x2 : Int32} {a1 a2 : Int} (S : wS h) (z1 : x1.toInt = a1) (z2 : x2.toInt = a2) (H : (∀ (w3 : Int32), w3.toInt = 0 → Pt n X zM117 2 [some (.ref 33), some (.int x1), some (.int x2), some (.int w3)] [] h (qI P))) : Pt (n + 1) X zM117 0 [some (.ref 33), some (.int x1), some (.int x2), none] [] h (qI P) := by
  refine pt_iconst gx117_0 (fun v1 h1 => ?_)
  refine pt_d (pt_1 (fun n d => r_istoren (L' := [some (.ref 33), some (.int x1), some (.int x2), some (.int v1)]) gx117_1 rfl rfl) ?_)
  exact H v1 h1
theorem d117_2 {n : Nat} {X : aX} {h : aH} {P : Int → aH → Prop} {x1 x2 x3 : Int32} {a1 a2 a3 : Int} (S : wS h) (z1 : x1.toInt = a1) (z2 : x2.toInt = a2) (z3 : x3.toInt = a3) (H : ((a1 ≤ a3 → P (vw h 33 1) h) ∧ (a3 < a1 → ((160 ≤ vw h 33 1 → P (vw h 33 1) h) ∧ (vw h 33 1 < 160 → (0 ≤ vw h 33 1 → vw h 33 1 < 160 → ∀ h_17 : aH, wS h_17 → vw h_17 = up (up (vw h) 34 (vw h 33 1) (w8 (w8 (bShr a2 (w32 (8 * a3)))))) 33 1 (w32 ((vw h 33 1) + 1)) → (∀ (w3 : Int32), w3.toInt = w32 (a3 + 1) → Pt n X zM117 2 [some (.ref 33), some (.int x1), some (.int x2), some (.int w3)] [] h_17 (qI P)))))))) : Pt (n + 1) X zM117 2 [some (.ref 33), some (.int x1), some (.int x2), some (.int x3)] [] h (qI P) := by
  refine pt_1 (fun n d => r_iloadn gx117_2 rfl) ?_
  refine pt_d (pt_1 (fun n d => r_iloadn gx117_3 rfl) ?_)
  refine pt_d (pt_icmp_ge gx117_4 z3 z1 (fun e1 => ?_) (fun e1 => ?_))
  · have H := H.1 e1
    refine pt_d (pt_1 (fun n d => r_aloadn gx117_49 rfl) ?_)
    refine pt_d (pt_getI (B := 1) gx117_50 S (fun v2 h2 => ?_))
    exact pt_d (pt_iret gx117_53 ⟨_, rfl, by rw [h2]; exact H⟩)
  · have H := H.2 e1
    refine pt_d (pt_1 (fun n d => r_aloadn gx117_7 rfl) ?_)
    refine pt_d (pt_getI (B := 1) gx117_8 S (fun v3 h3 => ?_))
    refine pt_d (pt_sipush gx117_11 (fun v4 h4 => ?_))
    refine pt_d (pt_icmp_ge gx117_14 h3 h4 (fun e5 => ?_) (fun e5 => ?_))
    · have H := H.1 e5
      refine pt_d (pt_1 (fun n d => r_aloadn gx117_49 rfl) ?_)
      refine pt_d (pt_getI (B := 1) gx117_50 S (fun v6 h6 => ?_))
      exact pt_d (pt_iret gx117_53 ⟨_, rfl, by rw [h6]; exact H⟩)
    · have H := H.2 e5
      refine pt_d (pt_1 (fun n d => r_aloadn gx117_17 rfl) ?_)
      refine pt_d (pt_getR gx117_18 S tr_33_0 ?_)
      refine pt_d (pt_1 (fun n d => r_aloadn gx117_21 rfl) ?_)
      refine pt_d (pt_getI (B := 1) gx117_22 S (fun v8 h8 => ?_))
      refine pt_d (pt_1 (fun n d => r_iloadn gx117_25 rfl) ?_)
      refine pt_d (pt_bipush gx117_26 (fun v9 h9 => ?_))
      refine pt_d (pt_1 (fun n d => r_iloadn gx117_28 rfl) ?_)
      refine pt_d (pt_imul gx117_29 h9 z3 (fun v10 h10 => ?_))
      refine pt_d (pt_ishr gx117_30 z2 h10 (fun v11 h11 => ?_))
      refine pt_d (pt_i2b gx117_31 h11 (fun v12 h12 => ?_))
      refine pt_d (pt_bast (N' := 160) gx117_32 S tl_34 h8 h12 (fun h_13 S13 p13 q13 e13 => ?_))
      have H := H p13 q13
      refine pt_d (pt_1 (fun n d => r_aloadn gx117_33 rfl) ?_)
      refine pt_d (pt_1 (fun n d => r_dup gx117_34 rfl) ?_)
      refine pt_d (pt_getI (B := 1) gx117_35 S13 (fun v14 h14 => ?_))
      have h14 : v14.toInt = vw h 33 1 := by rw [h14, e13, up_c (by decide)]
      refine pt_d (pt_iconst gx117_38 (fun v15 h15 => ?_))
      refine pt_d (pt_iadd gx117_39 h14 h15 (fun v16 h16 => ?_))
      refine pt_d (pt_putI (B := 1) gx117_40 S13 h16 (fun h_17 S17 e17 => ?_))
      refine pt_d (pt_iinc (c := 1) gx117_43 rfl z3 (fun v18 h18 => ?_))
      show Pt _ _ _ _ [some (.ref 33), some (.int x1), some (.int x2), some (.int v18)] [] _ _
      refine pt_d (pt_1 (fun n d => r_goto gx117_46) ?_)
      have H := H h_17 S17 (by rw [e17, e13])
      exact H v18 h18
theorem d143_0 {n : Nat} {X : aX} {h : aH} {P : Int → aH → Prop} {x0 : Int32} {a0 : Int} (S : wS h) (z0 : x0.toInt = a0) (H : ((a0 < 0 → P 0 h) ∧ (0 ≤ a0 → ((¬ (0 ≤ (iDiv a0 10) ∧ (iDiv a0 10) ≤ 3) → P 0 h) ∧ ((0 ≤ (iDiv a0 10) ∧ (iDiv a0 10) ≤ 3) → ((4 ≤ iRem a0 10 → P 0 h) ∧ (iRem a0 10 < 4 → P 1 h))))))) : Pt (n + 1) X zM143 0 [some (.int x0)] [] h (qI P) := by
  refine pt_1 (fun n d => r_iloadn gx143_0 rfl) ?_
  refine pt_d (pt_if_lt gx143_1 z0 (fun e1 => ?_) (fun e1 => ?_))
  · have H := H.1 e1
    refine pt_d (pt_iconst gx143_26 (fun v2 h2 => ?_))
    exact pt_d (pt_iret gx143_27 ⟨_, rfl, by rw [h2]; exact H⟩)
  · have H := H.2 e1
    refine pt_d (pt_1 (fun n d => r_iloadn gx143_4 rfl) ?_)
    refine pt_d (pt_bipush gx143_5 (fun v3 h3 => ?_))
    refine pt_d (pt_idiv gx143_7 z0 h3 (fun v4 h4 => ?_))
    refine pt_d (pt_stat (as := [.int v4]) (r := []) gx143_8 rfl (show zmt[140]? = some zM140 from rfl) rfl rfl rfl rfl (c_140 S h4) (kqP (fun v5 h5 => ?_)))
    show Pt _ _ _ 11 _ [.int v5] _ _
    refine pt_d (pt_ifB_eq gx143_11 h5 (fun e6 => ?_) (fun e6 => ?_))
    · have H := H.1 e6
      refine pt_d (pt_iconst gx143_26 (fun v7 h7 => ?_))
      exact pt_d (pt_iret gx143_27 ⟨_, rfl, by rw [h7]; exact H⟩)
    · have H := H.2 e6
      refine pt_d (pt_1 (fun n d => r_iloadn gx143_14 rfl) ?_)
      refine pt_d (pt_bipush gx143_15 (fun v8 h8 => ?_))
      refine pt_d (pt_irem gx143_17 z0 h8 (fun v9 h9 => ?_))
      refine pt_d (pt_iconst gx143_18 (fun v10 h10 => ?_))
      refine pt_d (pt_icmp_ge gx143_19 h9 h10 (fun e11 => ?_) (fun e11 => ?_))
      · have H := H.1 e11
        refine pt_d (pt_iconst gx143_26 (fun v12 h12 => ?_))
        exact pt_d (pt_iret gx143_27 ⟨_, rfl, by rw [h12]; exact H⟩)
      · have H := H.2 e11
        refine pt_d (pt_iconst gx143_22 (fun v13 h13 => ?_))
        refine pt_d (pt_1 (fun n d => r_goto gx143_23) ?_)
        exact pt_d (pt_iret gx143_27 ⟨_, rfl, by rw [h13]; exact H⟩)
def tT (V : vS) (p : Int) : Int := if 0 ≤ p ∧ p < V 33 1 then V 34 p else -1
def pre118 (V : vS) : Prop := (0 ≤ V 33 1 ∧ V 33 1 ≤ 160) ∧ (∀ j, 0 ≤ j → j < 160 → -128 ≤ V 34 j ∧ V 34 j ≤ 127) ∧ ∀ j, 0 ≤ j → j < 2560 → -128 ≤ V 35 j ∧ V 35 j ≤ 127
def W118 (V : vS) : vS := up (up (cpy V 34 0 35 (160 * V 33 7) (V 33 1)) 36 (V 33 7) (V 33 1)) 33 1 0
def R118 (V : vS) (w y d r : Int) (V' : vS) : Prop := (16 ≤ V 33 7 ∧ r = -3 ∧ V' = V) ∨ ((0 ≤ V 33 7 ∧ V 33 7 < 16) ∧ ∃ q f : Int, Pr (tT V) 11 0 0 q f ∧ ((rsF (V 33 1) q f = -1 ∧ r = V 33 7 ∧ ∀ c j, (c ≠ 33 ∨ (j < 9 ∨ 14 < j)) → V' c j = up (up (up (up (W118 V) 37 (V 33 7) w) 38 (V 33 7) y) 39 (V 33 7) d) 33 7 (V 33 7 + 1) c j) ∨ (rsF (V 33 1) q f ≠ -1 ∧ r = w32 (-100 - rsF (V 33 1) q f) ∧ ∀ c j, (c ≠ 33 ∨ (j < 9 ∨ 14 < j)) → V' c j = W118 V c j)))
theorem W_pre {V : vS} (H : pre118 V) (n0 : 0 ≤ V 33 7) (n1 : V 33 7 < 16) : pre122 (W118 V) (V 33 7) ∧ oT (W118 V) (V 33 7) = tT V ∧ W118 V 36 (V 33 7) = V 33 1 ∧ W118 V 33 7 = V 33 7 := by
  obtain ⟨h1, h2, h3⟩ := H
  have e36 : W118 V 36 (V 33 7) = V 33 1 := by
    unfold W118
    rw [up_c (by decide), up_s]
  have e35 : ∀ j, W118 V 35 j = if 160 * V 33 7 ≤ j ∧ j < 160 * V 33 7 + V 33 1 then V 34 (j - 160 * V 33 7) else V 35 j := by
    intro j
    unfold W118
    rw [up_c (by decide), up_c (by decide)]
    unfold cpy
    by_cases z : 160 * V 33 7 ≤ j ∧ j < 160 * V 33 7 + V 33 1
    · rw [if_pos z, if_pos ⟨rfl, z⟩, Int.zero_add]
    · rw [if_neg z, if_neg (fun w => z w.2)]
  refine ⟨⟨⟨n0, n1⟩, by rw [e36]; exact h1, fun j j0 j1 => ?_⟩, ?_, e36, ?_⟩
  · rw [e35]
    split
    · exact h2 _ (by omega) (by omega)
    · exact h3 j j0 j1
  · funext p
    unfold oT tT
    rw [e36, e35]
    by_cases z : 0 ≤ p ∧ p < V 33 1
    · rw [if_pos z, if_pos z, if_pos ⟨by omega, by omega⟩]
      congr 1
      omega
    · rw [if_neg z, if_neg z]
  · unfold W118
    rw [up_j (c' := 33) (by decide), up_c (by decide), cpy_c (by decide)]
theorem c_118 {n : Nat} {X : aX} {h : aH} {x1 x2 x3 : Int32} {a1 a2 a3 : Int} (S : wS h) (z1 : x1.toInt = a1) (z2 : x2.toInt = a2) (z3 : x3.toInt = a3) (hp : pre118 (vw h)) : Pt n X zM118 0 [some (.ref 33), some (.int x1), some (.int x2), some (.int x3), none] [] h (qI (fun y h' => wS h' ∧ R118 (vw h) a1 a2 a3 y (vw h'))) := by
  refine pt_d (d118_0 S z1 z2 z3 ⟨fun lt _ _ _ n0 _ g S2 eg => ?_, fun ge => ⟨S, Or.inl ⟨ge, rfl, rfl⟩⟩⟩)
  have eW : vw g = W118 (vw h) := by
    rw [eg, w32_id (by omega) (by omega)]
    unfold W118
    rw [Int.mul_comm]
  obtain ⟨w1, w2, w3, w4⟩ := W_pre hp n0 lt
  refine ⟨by rw [eW]; exact w1, fun y19 h19 k => ?_⟩
  obtain ⟨fr, q, f, p, ey⟩ := k.2
  rw [eW, w2] at p
  rw [eW, w3] at ey
  rw [eW] at fr
  have e7 : vw h19 33 7 = vw h 33 7 := by rw [fr 33 7 (Or.inr (by decide)), w4]
  subst ey
  refine ⟨fun e _ _ g2 S3 eg2 => ⟨S3, Or.inr ⟨⟨n0, lt⟩, q, f, p, Or.inl ⟨e, ?_, fun c j hcj => ?_⟩⟩⟩, fun e => ⟨k.1, Or.inr ⟨⟨n0, lt⟩, q, f, p, Or.inr ⟨e, rfl, fr⟩⟩⟩⟩
  · rw [e7, w32_id (z := vw h 33 7 + 1) (by omega) (by omega), w32_id (by omega) (by omega)]
    omega
  · rw [eg2, e7, w32_id (z := vw h 33 7 + 1) (by omega) (by omega)]
    have fc := fr c j hcj
    unfold up at *
    simp only [fc]
-- feeding
def fd (V : vS) (T L : Nat) (f v : Int) : Nat → vS
  | 0 => V
  | k + 1 => up (up (fd V T L f v k) T (V L f + (k : Int)) (w8 (w8 (bShr v (w32 (8 * (k : Int))))))) L f (V L f + (k : Int) + 1)
theorem fd_L {V : vS} {T L : Nat} {f v : Int} : ∀ k : Nat, fd V T L f v k L f = V L f + (k : Int)
  | 0 => by show V L f = V L f + 0; omega
  | k + 1 => by
    show up _ L f _ L f = _
    rw [up_s]
    omega
theorem l_117 {X : aX} {V : vS} {m v : Int} (hb : 0 ≤ V 33 1 ∧ V 33 1 + m ≤ 160) (hm : 0 ≤ m) : ∀ (n : Nat) (h : aH) (x1 x2 x3 : Int32) (k : Nat), wS h → x1.toInt = m → x2.toInt = v → x3.toInt = (k : Int) → (k : Int) ≤ m → vw h = fd V 34 33 1 v k → Pt n X zM117 2 [some (.ref 33), some (.int x1), some (.int x2), some (.int x3)] [] h (qI (fun y h' => wS h' ∧ y = V 33 1 + m ∧ vw h' = fd V 34 33 1 v m.toNat)) := by
  intro n
  induction n with
  | zero => exact fun _ _ _ _ _ _ _ _ _ _ _ => pt_z
  | succ n ih =>
    intro h x1 x2 x3 k S h1 h2 h3 hk e
    have eL : vw h 33 1 = V 33 1 + (k : Int) := by rw [e]; exact fd_L k
    refine d117_2 S h1 h2 h3 ⟨fun e1 => ⟨S, by rw [eL]; omega, ?_⟩, fun e1 => ⟨fun e2 => by omega, fun e2 _ _ g S2 eg w3 g3 => ?_⟩⟩
    · rw [e]
      congr 1
      omega
    · replace g3 := w_1 g3 (by omega) (by omega)
      refine ih g x1 x2 w3 (k + 1) S2 h1 h2 (by omega) (by omega) ?_
      rw [eg, eL, e, w32_id (z := V 33 1 + (k : Int) + 1) (by omega) (by omega)]
      rfl
theorem c_117 {n : Nat} {X : aX} {h : aH} {x1 x2 : Int32} {a1 a2 : Int} (S : wS h) (z1 : x1.toInt = a1) (z2 : x2.toInt = a2) (hp : (0 ≤ vw h 33 1 ∧ vw h 33 1 + a1 ≤ 160) ∧ 0 ≤ a1) : Pt n X zM117 0 [some (.ref 33), some (.int x1), some (.int x2), none] [] h (qI (fun y h' => wS h' ∧ y = vw h 33 1 + a1 ∧ vw h' = fd (vw h) 34 33 1 a2 a1.toNat)) :=
  pt_d (d117_0 S z1 z2 (fun w3 g3 => l_117 hp.1 hp.2 n h x1 x2 w3 0 S z1 z2 g3 hp.2 rfl))
def isU (w : Int) : Prop := (0 ≤ w ∧ w ≤ 33) ∧ w % 10 ≤ 3
theorem c_143 {n : Nat} {X : aX} {h : aH} {x0 : Int32} {a0 : Int} (S : wS h) (z0 : x0.toInt = a0) : Pt n X zM143 0 [some (.int x0)] [] h (qI (fun y h' => h' = h ∧ y = bI (isU a0))) := by
  have r := iR x0
  rw [z0] at r
  refine pt_d (d143_0 S z0 ⟨fun e => ⟨rfl, (bI_f (fun z => by have := z.1; omega)).symm⟩, fun e => ?_⟩)
  rw [iDiv_pos e r.2 (by decide) (by decide), iRem_pos e r.2 (by decide) (by decide)]
  exact ⟨fun e2 => ⟨rfl, (bI_f (fun z => by have := z.1; omega)).symm⟩, fun e2 => ⟨fun e3 => ⟨rfl, (bI_f (fun z => by have := z.2; omega)).symm⟩, fun e3 => ⟨rfl, (bI_t ⟨by omega, by omega⟩).symm⟩⟩⟩

theorem d167_0 {n : Nat} {X : aX} {h : aH} {P : Int → aH → Prop} {x1 x2 : Int32} {a1 a2 : Int} (S : wS h) (z1 : x1.toInt = a1) (z2 : x2.toInt = a2) (H : (((1 ≤ a1 ∧ a1 ≤ 4) → ((w32 ((vw h 33 1) + a1) ≤ 160 → (((0 ≤ vw h 33 1 ∧ vw h 33 1 + a1 ≤ 160) ∧ 0 ≤ a1) ∧ ∀ (y11 : Int) (h_11 : aH), (wS h_11 ∧ y11 = vw h 33 1 + a1 ∧ vw h_11 = fd (vw h) 34 33 1 a2 (a1 : Int).toNat) → P y11 h_11)) ∧ (160 < w32 ((vw h 33 1) + a1) → P (-3) h))) ∧ (¬ (1 ≤ a1 ∧ a1 ≤ 4) → P (-1) h))) : Pt (n + 1) X zM167 0 [some (.ref 0), some (.int x1), some (.int x2)] [] h (qI P) := by
  refine pt_1 (fun n d => r_iloadn gx167_0 rfl) ?_
  refine pt_d (pt_iconst gx167_1 (fun v1 h1 => ?_))
  refine pt_d (pt_iconst gx167_2 (fun v2 h2 => ?_))
  refine pt_d (pt_stat (as := [.int x1, .int v1, .int v2]) (r := []) gx167_3 rfl (show zmt[137]? = some zM137 from rfl) rfl rfl rfl rfl (c_137 S z1 h1 h2) (kqP (fun v3 h3 => ?_)))
  show Pt _ _ _ 6 _ [.int v3] _ _
  refine pt_d (pt_ifB_ne gx167_6 h3 (fun e4 => ?_) (fun e4 => ?_))
  · have H := H.1 e4
    refine pt_d (pt_1 (fun n d => r_aloadn gx167_11 rfl) ?_)
    refine pt_d (pt_getR gx167_12 S tr_0_3 ?_)
    refine pt_d (pt_getI (B := 1) gx167_15 S (fun v6 h6 => ?_))
    refine pt_d (pt_1 (fun n d => r_iloadn gx167_18 rfl) ?_)
    refine pt_d (pt_iadd gx167_19 h6 z1 (fun v7 h7 => ?_))
    refine pt_d (pt_sipush gx167_20 (fun v8 h8 => ?_))
    refine pt_d (pt_icmp_le gx167_23 h7 h8 (fun e9 => ?_) (fun e9 => ?_))
    · have H := H.1 e9
      refine pt_d (pt_1 (fun n d => r_aloadn gx167_31 rfl) ?_)
      refine pt_d (pt_getR gx167_32 S tr_0_3 ?_)
      refine pt_d (pt_1 (fun n d => r_iloadn gx167_35 rfl) ?_)
      refine pt_d (pt_1 (fun n d => r_iloadn gx167_36 rfl) ?_)
      obtain ⟨pr11, H⟩ := H
      refine pt_d (pt_virt (as := [.int x1, .int x2]) (r := []) gx167_37 rfl (show zmt[117]? = some zM117 from rfl) rfl rfl rfl rfl (c_117 S z1 z2 pr11) (kqI (fun v11 y11 h_11 h11 P11 => ?_)))
      have S11 := P11.1
      have H := H y11 h_11 P11
      show Pt _ _ _ 40 _ [.int v11] _ _
      exact pt_d (pt_iret gx167_40 ⟨_, rfl, by rw [h11]; exact H⟩)
    · have H := H.2 e9
      refine pt_d (pt_bipush gx167_26 (fun v12 h12 => ?_))
      refine pt_d (pt_1 (fun n d => r_goto gx167_28) ?_)
      exact pt_d (pt_iret gx167_40 ⟨_, rfl, by rw [h12]; exact H⟩)
  · have H := H.2 e4
    refine pt_d (pt_iconst gx167_9 (fun v13 h13 => ?_))
    exact pt_d (pt_iret gx167_10 ⟨_, rfl, by rw [h13]; exact H⟩)
theorem d168_0 {n : Nat} {X : aX} {h : aH} {P : Int → aH → Prop} {x1 x2 : Int32} {a1 a2 : Int} (S : wS h) (z1 : x1.toInt = a1) (z2 : x2.toInt = a2) (H : ((¬ (isU a1) → P (-1) h) ∧ ((isU a1) → (((0 ≤ a2 ∧ a2 ≤ 9) → ((vw h 33 7 < 16 → ((pre118 (vw h)) ∧ ∀ (y13 : Int) (h_13 : aH), (wS h_13 ∧ R118 (vw h) a1 a2 (vw h 1 0) y13 (vw h_13)) → P y13 h_13)) ∧ (16 ≤ vw h 33 7 → P (-3) h))) ∧ (¬ (0 ≤ a2 ∧ a2 ≤ 9) → P (-1) h))))) : Pt (n + 1) X zM168 0 [some (.ref 0), some (.int x1), some (.int x2)] [] h (qI P) := by
  refine pt_1 (fun n d => r_iloadn gx168_0 rfl) ?_
  refine pt_d (pt_stat (as := [.int x1]) (r := []) gx168_1 rfl (show zmt[143]? = some zM143 from rfl) rfl rfl rfl rfl (c_143 S z1) (kqP (fun v1 h1 => ?_)))
  show Pt _ _ _ 4 _ [.int v1] _ _
  refine pt_d (pt_ifB_eq gx168_4 h1 (fun e2 => ?_) (fun e2 => ?_))
  · have H := H.1 e2
    refine pt_d (pt_iconst gx168_14 (fun v3 h3 => ?_))
    exact pt_d (pt_iret gx168_15 ⟨_, rfl, by rw [h3]; exact H⟩)
  · have H := H.2 e2
    refine pt_d (pt_1 (fun n d => r_iloadn gx168_7 rfl) ?_)
    refine pt_d (pt_stat (as := [.int x2]) (r := []) gx168_8 rfl (show zmt[139]? = some zM139 from rfl) rfl rfl rfl rfl (c_139 S z2) (kqP (fun v4 h4 => ?_)))
    show Pt _ _ _ 11 _ [.int v4] _ _
    refine pt_d (pt_ifB_ne gx168_11 h4 (fun e5 => ?_) (fun e5 => ?_))
    · have H := H.1 e5
      refine pt_d (pt_1 (fun n d => r_aloadn gx168_16 rfl) ?_)
      refine pt_d (pt_getR gx168_17 S tr_0_3 ?_)
      refine pt_d (pt_getI (B := 7) gx168_20 S (fun v7 h7 => ?_))
      refine pt_d (pt_bipush gx168_23 (fun v8 h8 => ?_))
      refine pt_d (pt_icmp_lt gx168_25 h7 h8 (fun e9 => ?_) (fun e9 => ?_))
      · have H := H.1 e9
        refine pt_d (pt_1 (fun n d => r_aloadn gx168_33 rfl) ?_)
        refine pt_d (pt_getR gx168_34 S tr_0_3 ?_)
        refine pt_d (pt_1 (fun n d => r_iloadn gx168_37 rfl) ?_)
        refine pt_d (pt_1 (fun n d => r_iloadn gx168_38 rfl) ?_)
        refine pt_d (pt_1 (fun n d => r_aloadn gx168_39 rfl) ?_)
        refine pt_d (pt_getR gx168_40 S tr_0_0 ?_)
        refine pt_d (pt_getI (B := 0) gx168_43 S (fun v12 h12 => ?_))
        obtain ⟨pr13, H⟩ := H
        refine pt_d (pt_virt (as := [.int x1, .int x2, .int v12]) (r := []) gx168_46 rfl (show zmt[118]? = some zM118 from rfl) rfl rfl rfl rfl (c_118 S z1 z2 h12 pr13) (kqI (fun v13 y13 h_13 h13 P13 => ?_)))
        have S13 := P13.1
        have H := H y13 h_13 P13
        show Pt _ _ _ 49 _ [.int v13] _ _
        exact pt_d (pt_iret gx168_49 ⟨_, rfl, by rw [h13]; exact H⟩)
      · have H := H.2 e9
        refine pt_d (pt_bipush gx168_28 (fun v14 h14 => ?_))
        refine pt_d (pt_1 (fun n d => r_goto gx168_30) ?_)
        exact pt_d (pt_iret gx168_49 ⟨_, rfl, by rw [h14]; exact H⟩)
    · have H := H.2 e5
      refine pt_d (pt_iconst gx168_14 (fun v15 h15 => ?_))
      exact pt_d (pt_iret gx168_15 ⟨_, rfl, by rw [h15]; exact H⟩)
def R167 (V : vS) (m v r : Int) (V' : vS) : Prop := (¬ (1 ≤ m ∧ m ≤ 4) ∧ r = -1 ∧ V' = V) ∨ ((1 ≤ m ∧ m ≤ 4) ∧ ((160 < V 33 1 + m ∧ r = -3 ∧ V' = V) ∨ (V 33 1 + m ≤ 160 ∧ r = V 33 1 + m ∧ V' = fd V 34 33 1 v m.toNat)))
theorem c_167 {n : Nat} {X : aX} {h : aH} {x1 x2 : Int32} {a1 a2 : Int} (S : wS h) (z1 : x1.toInt = a1) (z2 : x2.toInt = a2) (hp : 0 ≤ vw h 33 1 ∧ vw h 33 1 ≤ 160) : Pt n X zM167 0 [some (.ref 0), some (.int x1), some (.int x2)] [] h (qI (fun y h' => R167 (vw h) a1 a2 y (vw h'))) := by
  refine pt_d (d167_0 S z1 z2 ⟨fun e => ?_, fun e => Or.inl ⟨e, rfl, rfl⟩⟩)
  rw [w32_id (by omega) (by omega)]
  exact ⟨fun e2 => ⟨⟨⟨hp.1, e2⟩, by omega⟩, fun y h11 k => Or.inr ⟨e, Or.inr ⟨e2, k.2.1, k.2.2⟩⟩⟩, fun e2 => Or.inr ⟨e, Or.inl ⟨e2, rfl, rfl⟩⟩⟩
def R168 (V : vS) (w y r : Int) (V' : vS) : Prop := (¬ (isU w ∧ 0 ≤ y ∧ y ≤ 9) ∧ r = -1 ∧ V' = V) ∨ ((isU w ∧ 0 ≤ y ∧ y ≤ 9) ∧ R118 V w y (V 1 0) r V')
theorem c_168 {n : Nat} {X : aX} {h : aH} {x1 x2 : Int32} {a1 a2 : Int} (S : wS h) (z1 : x1.toInt = a1) (z2 : x2.toInt = a2) (hp : pre118 (vw h)) : Pt n X zM168 0 [some (.ref 0), some (.int x1), some (.int x2)] [] h (qI (fun y h' => R168 (vw h) a1 a2 y (vw h'))) :=
  pt_d (d168_0 S z1 z2 ⟨fun e => Or.inl ⟨fun z => e z.1, rfl, rfl⟩, fun e => ⟨fun e2 => ⟨fun _ => ⟨hp, fun y g k => Or.inr ⟨⟨e, e2⟩, k.2⟩⟩, fun e3 => Or.inr ⟨⟨e, e2⟩, Or.inl ⟨e3, rfl, rfl⟩⟩⟩, fun e2 => Or.inl ⟨fun z => e2 z.2, rfl, rfl⟩⟩⟩)
end

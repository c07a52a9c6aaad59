-- ===== what a field looks like =====
theorem tl_64 : tkL 64 0 48 = true := by decide +kernel
theorem tl_112 : tkL 112 0 48 = true := by decide +kernel
theorem tr_63_0 : tkR 63 0 64 = true := by decide +kernel
theorem tr_72_49 : tkR 72 49 112 = true := by decide +kernel
theorem gx43_0 : aF 0 zM43.2.2.2.2.2.2.2 = some (0, (.iconst 0), 1, 0, 0) := by decide +kernel
theorem gx43_1 : aF 1 zM43.2.2.2.2.2.2.2 = some (1, (.istore 4), 2, 0, 0) := by decide +kernel
theorem gx43_3 : aF 3 zM43.2.2.2.2.2.2.2 = some (3, (.iconst 0), 1, 0, 0) := by decide +kernel
theorem gx43_4 : aF 4 zM43.2.2.2.2.2.2.2 = some (4, (.istore 5), 2, 0, 0) := by decide +kernel
theorem gx43_6 : aF 6 zM43.2.2.2.2.2.2.2 = some (6, (.iconst 0), 1, 0, 0) := by decide +kernel
theorem gx43_7 : aF 7 zM43.2.2.2.2.2.2.2 = some (7, (.istore 6), 2, 0, 0) := by decide +kernel
theorem gx43_9 : aF 9 zM43.2.2.2.2.2.2.2 = some (9, (.iload 6), 2, 0, 0) := by decide +kernel
theorem gx43_11 : aF 11 zM43.2.2.2.2.2.2.2 = some (11, (.bipush 6), 2, 0, 0) := by decide +kernel
theorem gx43_13 : aF 13 zM43.2.2.2.2.2.2.2 = some (13, (.if_icmp .ge 54), 3, 67, 0) := by decide +kernel
theorem gx43_67 : aF 67 zM43.2.2.2.2.2.2.2 = some (67, (.iload 5), 2, 0, 0) := by decide +kernel
theorem gx43_69 : aF 69 zM43.2.2.2.2.2.2.2 = some (69, (.ifCond .ne 7), 3, 76, 0) := by decide +kernel
theorem gx43_76 : aF 76 zM43.2.2.2.2.2.2.2 = some (76, (.iload 4), 2, 0, 0) := by decide +kernel
theorem gx43_78 : aF 78 zM43.2.2.2.2.2.2.2 = some (78, .ireturn, 1, 0, 0) := by decide +kernel
theorem gx43_72 : aF 72 zM43.2.2.2.2.2.2.2 = some (72, (.iconst (-1)), 1, 0, 0) := by decide +kernel
theorem gx43_73 : aF 73 zM43.2.2.2.2.2.2.2 = some (73, (.goto 5), 3, 78, 0) := by decide +kernel
theorem gx43_16 : aF 16 zM43.2.2.2.2.2.2.2 = some (16, (.aload_n 2), 1, 0, 0) := by decide +kernel
theorem gx43_17 : aF 17 zM43.2.2.2.2.2.2.2 = some (17, (.iload_n 3), 1, 0, 0) := by decide +kernel
theorem gx43_18 : aF 18 zM43.2.2.2.2.2.2.2 = some (18, (.bipush 6), 2, 0, 0) := by decide +kernel
theorem gx43_20 : aF 20 zM43.2.2.2.2.2.2.2 = some (20, .imul, 1, 0, 0) := by decide +kernel
theorem gx43_21 : aF 21 zM43.2.2.2.2.2.2.2 = some (21, (.iload 6), 2, 0, 0) := by decide +kernel
theorem gx43_23 : aF 23 zM43.2.2.2.2.2.2.2 = some (23, .iadd, 1, 0, 0) := by decide +kernel
theorem gx43_24 : aF 24 zM43.2.2.2.2.2.2.2 = some (24, .iaload, 1, 0, 0) := by decide +kernel
theorem gx43_25 : aF 25 zM43.2.2.2.2.2.2.2 = some (25, (.istore 7), 2, 0, 0) := by decide +kernel
theorem gx43_27 : aF 27 zM43.2.2.2.2.2.2.2 = some (27, (.iload 7), 2, 0, 0) := by decide +kernel
theorem gx43_29 : aF 29 zM43.2.2.2.2.2.2.2 = some (29, (.sipush 1000), 3, 0, 0) := by decide +kernel
theorem gx43_32 : aF 32 zM43.2.2.2.2.2.2.2 = some (32, (.if_icmp .eq 29), 3, 61, 0) := by decide +kernel
theorem gx43_61 : aF 61 zM43.2.2.2.2.2.2.2 = some (61, (.iinc 6 1), 3, 0, 0) := by decide +kernel
theorem gx43_64 : aF 64 zM43.2.2.2.2.2.2.2 = some (64, (.goto (-55)), 3, 9, 0) := by decide +kernel
theorem gx43_35 : aF 35 zM43.2.2.2.2.2.2.2 = some (35, (.iload 4), 2, 0, 0) := by decide +kernel
theorem gx43_37 : aF 37 zM43.2.2.2.2.2.2.2 = some (37, (.iload 7), 2, 0, 0) := by decide +kernel
theorem gx43_39 : aF 39 zM43.2.2.2.2.2.2.2 = some (39, (.aload_n 0), 1, 0, 0) := by decide +kernel
theorem gx43_40 : aF 40 zM43.2.2.2.2.2.2.2 = some (40, (.getfield 9), 3, 3, 0) := by decide +kernel
theorem gx43_43 : aF 43 zM43.2.2.2.2.2.2.2 = some (43, (.iload_n 1), 1, 0, 0) := by decide +kernel
theorem gx43_44 : aF 44 zM43.2.2.2.2.2.2.2 = some (44, (.bipush 6), 2, 0, 0) := by decide +kernel
theorem gx43_46 : aF 46 zM43.2.2.2.2.2.2.2 = some (46, .imul, 1, 0, 0) := by decide +kernel
theorem gx43_47 : aF 47 zM43.2.2.2.2.2.2.2 = some (47, (.iload 6), 2, 0, 0) := by decide +kernel
theorem gx43_49 : aF 49 zM43.2.2.2.2.2.2.2 = some (49, .iadd, 1, 0, 0) := by decide +kernel
theorem gx43_50 : aF 50 zM43.2.2.2.2.2.2.2 = some (50, .iaload, 1, 0, 0) := by decide +kernel
theorem gx43_51 : aF 51 zM43.2.2.2.2.2.2.2 = some (51, .isub, 1, 0, 0) := by decide +kernel
theorem gx43_52 : aF 52 zM43.2.2.2.2.2.2.2 = some (52, (.invokestatic 53), 3, 1012, 0) := by decide +kernel
theorem gx43_55 : aF 55 zM43.2.2.2.2.2.2.2 = some (55, .iadd, 1, 0, 0) := by decide +kernel
theorem gx43_56 : aF 56 zM43.2.2.2.2.2.2.2 = some (56, (.istore 4), 2, 0, 0) := by decide +kernel
theorem gx43_58 : aF 58 zM43.2.2.2.2.2.2.2 = some (58, (.iinc 5 1), 3, 0, 0) := by decide +kernel
theorem gx248_0 : aF 0 zM248.2.2.2.2.2.2.2 = some (0, (.iconst 0), 1, 0, 0) := by decide +kernel
theorem gx248_1 : aF 1 zM248.2.2.2.2.2.2.2 = some (1, (.istore 4), 2, 0, 0) := by decide +kernel
theorem gx248_3 : aF 3 zM248.2.2.2.2.2.2.2 = some (3, (.iconst 0), 1, 0, 0) := by decide +kernel
theorem gx248_4 : aF 4 zM248.2.2.2.2.2.2.2 = some (4, (.istore 5), 2, 0, 0) := by decide +kernel
theorem gx248_6 : aF 6 zM248.2.2.2.2.2.2.2 = some (6, (.iload 5), 2, 0, 0) := by decide +kernel
theorem gx248_8 : aF 8 zM248.2.2.2.2.2.2.2 = some (8, (.bipush 6), 2, 0, 0) := by decide +kernel
theorem gx248_10 : aF 10 zM248.2.2.2.2.2.2.2 = some (10, (.if_icmp .ge 77), 3, 87, 0) := by decide +kernel
theorem gx248_87 : aF 87 zM248.2.2.2.2.2.2.2 = some (87, (.iload 4), 2, 0, 0) := by decide +kernel
theorem gx248_89 : aF 89 zM248.2.2.2.2.2.2.2 = some (89, .ireturn, 1, 0, 0) := by decide +kernel
theorem gx248_13 : aF 13 zM248.2.2.2.2.2.2.2 = some (13, (.bipush 60), 2, 0, 0) := by decide +kernel
theorem gx248_15 : aF 15 zM248.2.2.2.2.2.2.2 = some (15, (.iload_n 1), 1, 0, 0) := by decide +kernel
theorem gx248_16 : aF 16 zM248.2.2.2.2.2.2.2 = some (16, .imul, 1, 0, 0) := by decide +kernel
theorem gx248_17 : aF 17 zM248.2.2.2.2.2.2.2 = some (17, (.bipush 6), 2, 0, 0) := by decide +kernel
theorem gx248_19 : aF 19 zM248.2.2.2.2.2.2.2 = some (19, (.iload_n 2), 1, 0, 0) := by decide +kernel
theorem gx248_20 : aF 20 zM248.2.2.2.2.2.2.2 = some (20, .imul, 1, 0, 0) := by decide +kernel
theorem gx248_21 : aF 21 zM248.2.2.2.2.2.2.2 = some (21, .iadd, 1, 0, 0) := by decide +kernel
theorem gx248_22 : aF 22 zM248.2.2.2.2.2.2.2 = some (22, (.iload 5), 2, 0, 0) := by decide +kernel
theorem gx248_24 : aF 24 zM248.2.2.2.2.2.2.2 = some (24, .iadd, 1, 0, 0) := by decide +kernel
theorem gx248_25 : aF 25 zM248.2.2.2.2.2.2.2 = some (25, (.istore 6), 2, 0, 0) := by decide +kernel
theorem gx248_27 : aF 27 zM248.2.2.2.2.2.2.2 = some (27, (.aload_n 0), 1, 0, 0) := by decide +kernel
theorem gx248_28 : aF 28 zM248.2.2.2.2.2.2.2 = some (28, (.getfield 142), 3, 12, 51) := by decide +kernel
theorem gx248_31 : aF 31 zM248.2.2.2.2.2.2.2 = some (31, (.iload 6), 2, 0, 0) := by decide +kernel
theorem gx248_33 : aF 33 zM248.2.2.2.2.2.2.2 = some (33, .baload, 1, 0, 0) := by decide +kernel
theorem gx248_34 : aF 34 zM248.2.2.2.2.2.2.2 = some (34, (.ifCond .eq 26), 3, 60, 0) := by decide +kernel
theorem gx248_60 : aF 60 zM248.2.2.2.2.2.2.2 = some (60, (.iconst 0), 1, 0, 0) := by decide +kernel
theorem gx248_61 : aF 61 zM248.2.2.2.2.2.2.2 = some (61, (.istore 7), 2, 0, 0) := by decide +kernel
theorem gx248_63 : aF 63 zM248.2.2.2.2.2.2.2 = some (63, (.iload 4), 2, 0, 0) := by decide +kernel
theorem gx248_65 : aF 65 zM248.2.2.2.2.2.2.2 = some (65, (.iload 7), 2, 0, 0) := by decide +kernel
theorem gx248_67 : aF 67 zM248.2.2.2.2.2.2.2 = some (67, (.ifCond .ge 9), 3, 76, 0) := by decide +kernel
theorem gx248_76 : aF 76 zM248.2.2.2.2.2.2.2 = some (76, (.iload 7), 2, 0, 0) := by decide +kernel
theorem gx248_78 : aF 78 zM248.2.2.2.2.2.2.2 = some (78, .iadd, 1, 0, 0) := by decide +kernel
theorem gx248_79 : aF 79 zM248.2.2.2.2.2.2.2 = some (79, (.istore 4), 2, 0, 0) := by decide +kernel
theorem gx248_81 : aF 81 zM248.2.2.2.2.2.2.2 = some (81, (.iinc 5 1), 3, 0, 0) := by decide +kernel
theorem gx248_84 : aF 84 zM248.2.2.2.2.2.2.2 = some (84, (.goto (-78)), 3, 6, 0) := by decide +kernel
theorem gx248_37 : aF 37 zM248.2.2.2.2.2.2.2 = some (37, (.aload_n 0), 1, 0, 0) := by decide +kernel
theorem gx248_38 : aF 38 zM248.2.2.2.2.2.2.2 = some (38, (.getfield 139), 3, 12, 50) := by decide +kernel
theorem gx248_41 : aF 41 zM248.2.2.2.2.2.2.2 = some (41, (.iload 6), 2, 0, 0) := by decide +kernel
theorem gx248_43 : aF 43 zM248.2.2.2.2.2.2.2 = some (43, .iaload, 1, 0, 0) := by decide +kernel
theorem gx248_44 : aF 44 zM248.2.2.2.2.2.2.2 = some (44, (.aload_n 0), 1, 0, 0) := by decide +kernel
theorem gx248_45 : aF 45 zM248.2.2.2.2.2.2.2 = some (45, (.getfield 136), 3, 12, 49) := by decide +kernel
theorem gx248_48 : aF 48 zM248.2.2.2.2.2.2.2 = some (48, (.bipush 6), 2, 0, 0) := by decide +kernel
theorem gx248_50 : aF 50 zM248.2.2.2.2.2.2.2 = some (50, (.iload_n 3), 1, 0, 0) := by decide +kernel
theorem gx248_51 : aF 51 zM248.2.2.2.2.2.2.2 = some (51, .imul, 1, 0, 0) := by decide +kernel
theorem gx248_52 : aF 52 zM248.2.2.2.2.2.2.2 = some (52, (.iload 5), 2, 0, 0) := by decide +kernel
theorem gx248_54 : aF 54 zM248.2.2.2.2.2.2.2 = some (54, .iadd, 1, 0, 0) := by decide +kernel
theorem gx248_55 : aF 55 zM248.2.2.2.2.2.2.2 = some (55, .iaload, 1, 0, 0) := by decide +kernel
theorem gx248_56 : aF 56 zM248.2.2.2.2.2.2.2 = some (56, .isub, 1, 0, 0) := by decide +kernel
theorem gx248_57 : aF 57 zM248.2.2.2.2.2.2.2 = some (57, (.goto 4), 3, 61, 0) := by decide +kernel
theorem gx248_70 : aF 70 zM248.2.2.2.2.2.2.2 = some (70, (.iload 7), 2, 0, 0) := by decide +kernel
theorem gx248_72 : aF 72 zM248.2.2.2.2.2.2.2 = some (72, .ineg, 1, 0, 0) := by decide +kernel
theorem gx248_73 : aF 73 zM248.2.2.2.2.2.2.2 = some (73, (.goto 5), 3, 78, 0) := by decide +kernel
theorem gx42_0 : aF 0 zM42.2.2.2.2.2.2.2 = some (0, (.aload_n 0), 1, 0, 0) := by decide +kernel
theorem gx42_1 : aF 1 zM42.2.2.2.2.2.2.2 = some (1, (.getfield 20), 3, 3, 2) := by decide +kernel
theorem gx42_4 : aF 4 zM42.2.2.2.2.2.2.2 = some (4, (.iload_n 1), 1, 0, 0) := by decide +kernel
theorem gx42_5 : aF 5 zM42.2.2.2.2.2.2.2 = some (5, .aaload, 1, 0, 0) := by decide +kernel
theorem gx42_6 : aF 6 zM42.2.2.2.2.2.2.2 = some (6, (.astore 4), 2, 0, 0) := by decide +kernel
theorem gx42_8 : aF 8 zM42.2.2.2.2.2.2.2 = some (8, (.aload 4), 2, 0, 0) := by decide +kernel
theorem gx42_10 : aF 10 zM42.2.2.2.2.2.2.2 = some (10, (.ifnonnull 6), 3, 16, 0) := by decide +kernel
theorem gx42_13 : aF 13 zM42.2.2.2.2.2.2.2 = some (13, (.bipush (-2)), 2, 0, 0) := by decide +kernel
theorem gx42_15 : aF 15 zM42.2.2.2.2.2.2.2 = some (15, .ireturn, 1, 0, 0) := by decide +kernel
theorem gx42_16 : aF 16 zM42.2.2.2.2.2.2.2 = some (16, (.aload_n 0), 1, 0, 0) := by decide +kernel
theorem gx42_17 : aF 17 zM42.2.2.2.2.2.2.2 = some (17, (.iconst 0), 1, 0, 0) := by decide +kernel
theorem gx42_18 : aF 18 zM42.2.2.2.2.2.2.2 = some (18, (.aload 4), 2, 0, 0) := by decide +kernel
theorem gx42_20 : aF 20 zM42.2.2.2.2.2.2.2 = some (20, (.iload_n 2), 1, 0, 0) := by decide +kernel
theorem gx42_21 : aF 21 zM42.2.2.2.2.2.2.2 = some (21, (.invokevirtual 40), 3, 43, 0) := by decide +kernel
theorem gx42_24 : aF 24 zM42.2.2.2.2.2.2.2 = some (24, (.istore 5), 2, 0, 0) := by decide +kernel
theorem gx42_26 : aF 26 zM42.2.2.2.2.2.2.2 = some (26, (.iload 5), 2, 0, 0) := by decide +kernel
theorem gx42_28 : aF 28 zM42.2.2.2.2.2.2.2 = some (28, (.iconst (-1)), 1, 0, 0) := by decide +kernel
theorem gx42_29 : aF 29 zM42.2.2.2.2.2.2.2 = some (29, (.if_icmp .ne 6), 3, 35, 0) := by decide +kernel
theorem gx42_35 : aF 35 zM42.2.2.2.2.2.2.2 = some (35, (.iconst 0), 1, 0, 0) := by decide +kernel
theorem gx42_36 : aF 36 zM42.2.2.2.2.2.2.2 = some (36, (.istore 6), 2, 0, 0) := by decide +kernel
theorem gx42_38 : aF 38 zM42.2.2.2.2.2.2.2 = some (38, (.ldc 46), 2, 2147483647, 0) := by decide +kernel
theorem gx42_40 : aF 40 zM42.2.2.2.2.2.2.2 = some (40, (.istore 7), 2, 0, 0) := by decide +kernel
theorem gx42_42 : aF 42 zM42.2.2.2.2.2.2.2 = some (42, (.iconst 1), 1, 0, 0) := by decide +kernel
theorem gx42_43 : aF 43 zM42.2.2.2.2.2.2.2 = some (43, (.istore 8), 2, 0, 0) := by decide +kernel
theorem gx42_32 : aF 32 zM42.2.2.2.2.2.2.2 = some (32, (.bipush (-2)), 2, 0, 0) := by decide +kernel
theorem gx42_34 : aF 34 zM42.2.2.2.2.2.2.2 = some (34, .ireturn, 1, 0, 0) := by decide +kernel
theorem gx42_45 : aF 45 zM42.2.2.2.2.2.2.2 = some (45, (.iload 8), 2, 0, 0) := by decide +kernel
theorem gx42_47 : aF 47 zM42.2.2.2.2.2.2.2 = some (47, (.bipush 8), 2, 0, 0) := by decide +kernel
theorem gx42_49 : aF 49 zM42.2.2.2.2.2.2.2 = some (49, (.if_icmp .ge 51), 3, 100, 0) := by decide +kernel
theorem gx42_100 : aF 100 zM42.2.2.2.2.2.2.2 = some (100, (.iload_n 3), 1, 0, 0) := by decide +kernel
theorem gx42_101 : aF 101 zM42.2.2.2.2.2.2.2 = some (101, (.ifCond .ne 8), 3, 109, 0) := by decide +kernel
theorem gx42_109 : aF 109 zM42.2.2.2.2.2.2.2 = some (109, (.iload 7), 2, 0, 0) := by decide +kernel
theorem gx42_111 : aF 111 zM42.2.2.2.2.2.2.2 = some (111, (.iload 5), 2, 0, 0) := by decide +kernel
theorem gx42_113 : aF 113 zM42.2.2.2.2.2.2.2 = some (113, .isub, 1, 0, 0) := by decide +kernel
theorem gx42_114 : aF 114 zM42.2.2.2.2.2.2.2 = some (114, .ireturn, 1, 0, 0) := by decide +kernel
theorem gx42_104 : aF 104 zM42.2.2.2.2.2.2.2 = some (104, (.iload 6), 2, 0, 0) := by decide +kernel
theorem gx42_106 : aF 106 zM42.2.2.2.2.2.2.2 = some (106, (.goto 8), 3, 114, 0) := by decide +kernel
theorem gx42_52 : aF 52 zM42.2.2.2.2.2.2.2 = some (52, (.aload_n 0), 1, 0, 0) := by decide +kernel
theorem gx42_53 : aF 53 zM42.2.2.2.2.2.2.2 = some (53, (.iload 8), 2, 0, 0) := by decide +kernel
theorem gx42_55 : aF 55 zM42.2.2.2.2.2.2.2 = some (55, (.aload 4), 2, 0, 0) := by decide +kernel
theorem gx42_57 : aF 57 zM42.2.2.2.2.2.2.2 = some (57, (.iload_n 2), 1, 0, 0) := by decide +kernel
theorem gx42_58 : aF 58 zM42.2.2.2.2.2.2.2 = some (58, (.invokevirtual 40), 3, 43, 0) := by decide +kernel
theorem gx42_61 : aF 61 zM42.2.2.2.2.2.2.2 = some (61, (.istore 9), 2, 0, 0) := by decide +kernel
theorem gx42_63 : aF 63 zM42.2.2.2.2.2.2.2 = some (63, (.iload 9), 2, 0, 0) := by decide +kernel
theorem gx42_65 : aF 65 zM42.2.2.2.2.2.2.2 = some (65, (.iload 5), 2, 0, 0) := by decide +kernel
theorem gx42_67 : aF 67 zM42.2.2.2.2.2.2.2 = some (67, (.if_icmp .ge 18), 3, 85, 0) := by decide +kernel
theorem gx42_85 : aF 85 zM42.2.2.2.2.2.2.2 = some (85, (.iload 7), 2, 0, 0) := by decide +kernel
theorem gx42_87 : aF 87 zM42.2.2.2.2.2.2.2 = some (87, (.iload 9), 2, 0, 0) := by decide +kernel
theorem gx42_89 : aF 89 zM42.2.2.2.2.2.2.2 = some (89, (.invokestatic 47), 3, 1011, 0) := by decide +kernel
theorem gx42_92 : aF 92 zM42.2.2.2.2.2.2.2 = some (92, (.istore 7), 2, 0, 0) := by decide +kernel
theorem gx42_94 : aF 94 zM42.2.2.2.2.2.2.2 = some (94, (.iinc 8 1), 3, 0, 0) := by decide +kernel
theorem gx42_97 : aF 97 zM42.2.2.2.2.2.2.2 = some (97, (.goto (-52)), 3, 45, 0) := by decide +kernel
theorem gx42_70 : aF 70 zM42.2.2.2.2.2.2.2 = some (70, (.iload 5), 2, 0, 0) := by decide +kernel
theorem gx42_72 : aF 72 zM42.2.2.2.2.2.2.2 = some (72, (.istore 7), 2, 0, 0) := by decide +kernel
theorem gx42_74 : aF 74 zM42.2.2.2.2.2.2.2 = some (74, (.iload 9), 2, 0, 0) := by decide +kernel
theorem gx42_76 : aF 76 zM42.2.2.2.2.2.2.2 = some (76, (.istore 5), 2, 0, 0) := by decide +kernel
theorem gx42_78 : aF 78 zM42.2.2.2.2.2.2.2 = some (78, (.iload 8), 2, 0, 0) := by decide +kernel
theorem gx42_80 : aF 80 zM42.2.2.2.2.2.2.2 = some (80, (.istore 6), 2, 0, 0) := by decide +kernel
theorem gx42_82 : aF 82 zM42.2.2.2.2.2.2.2 = some (82, (.goto 12), 3, 94, 0) := by decide +kernel
theorem gx249_0 : aF 0 zM249.2.2.2.2.2.2.2 = some (0, (.aload_n 0), 1, 0, 0) := by decide +kernel
theorem gx249_1 : aF 1 zM249.2.2.2.2.2.2.2 = some (1, (.iload_n 1), 1, 0, 0) := by decide +kernel
theorem gx249_2 : aF 2 zM249.2.2.2.2.2.2.2 = some (2, (.invokevirtual 322), 3, 203, 0) := by decide +kernel
theorem gx249_5 : aF 5 zM249.2.2.2.2.2.2.2 = some (5, (.ifCond .eq 19), 3, 24, 0) := by decide +kernel
theorem gx249_24 : aF 24 zM249.2.2.2.2.2.2.2 = some (24, (.iconst (-1)), 1, 0, 0) := by decide +kernel
theorem gx249_25 : aF 25 zM249.2.2.2.2.2.2.2 = some (25, .ireturn, 1, 0, 0) := by decide +kernel
theorem gx249_8 : aF 8 zM249.2.2.2.2.2.2.2 = some (8, (.iload_n 2), 1, 0, 0) := by decide +kernel
theorem gx249_9 : aF 9 zM249.2.2.2.2.2.2.2 = some (9, (.invokestatic 372), 3, 198, 0) := by decide +kernel
theorem gx249_12 : aF 12 zM249.2.2.2.2.2.2.2 = some (12, (.ifCond .eq 12), 3, 24, 0) := by decide +kernel
theorem gx249_15 : aF 15 zM249.2.2.2.2.2.2.2 = some (15, (.iload_n 3), 1, 0, 0) := by decide +kernel
theorem gx249_16 : aF 16 zM249.2.2.2.2.2.2.2 = some (16, (.iconst 0), 1, 0, 0) := by decide +kernel
theorem gx249_17 : aF 17 zM249.2.2.2.2.2.2.2 = some (17, (.iconst 1), 1, 0, 0) := by decide +kernel
theorem gx249_18 : aF 18 zM249.2.2.2.2.2.2.2 = some (18, (.invokestatic 258), 3, 196, 0) := by decide +kernel
theorem gx249_21 : aF 21 zM249.2.2.2.2.2.2.2 = some (21, (.ifCond .ne 5), 3, 26, 0) := by decide +kernel
theorem gx249_26 : aF 26 zM249.2.2.2.2.2.2.2 = some (26, (.iconst 0), 1, 0, 0) := by decide +kernel
theorem gx249_27 : aF 27 zM249.2.2.2.2.2.2.2 = some (27, (.istore 4), 2, 0, 0) := by decide +kernel
theorem gx249_29 : aF 29 zM249.2.2.2.2.2.2.2 = some (29, (.iconst 0), 1, 0, 0) := by decide +kernel
theorem gx249_30 : aF 30 zM249.2.2.2.2.2.2.2 = some (30, (.istore 5), 2, 0, 0) := by decide +kernel
theorem gx249_32 : aF 32 zM249.2.2.2.2.2.2.2 = some (32, (.iload 5), 2, 0, 0) := by decide +kernel
theorem gx249_34 : aF 34 zM249.2.2.2.2.2.2.2 = some (34, (.bipush 6), 2, 0, 0) := by decide +kernel
theorem gx249_36 : aF 36 zM249.2.2.2.2.2.2.2 = some (36, (.if_icmp .ge 41), 3, 77, 0) := by decide +kernel
theorem gx249_77 : aF 77 zM249.2.2.2.2.2.2.2 = some (77, (.iload 4), 2, 0, 0) := by decide +kernel
theorem gx249_79 : aF 79 zM249.2.2.2.2.2.2.2 = some (79, (.ifCond .ne 6), 3, 85, 0) := by decide +kernel
theorem gx249_85 : aF 85 zM249.2.2.2.2.2.2.2 = some (85, (.iconst 0), 1, 0, 0) := by decide +kernel
theorem gx249_86 : aF 86 zM249.2.2.2.2.2.2.2 = some (86, (.istore 5), 2, 0, 0) := by decide +kernel
theorem gx249_88 : aF 88 zM249.2.2.2.2.2.2.2 = some (88, (.iconst 1), 1, 0, 0) := by decide +kernel
theorem gx249_89 : aF 89 zM249.2.2.2.2.2.2.2 = some (89, (.istore 6), 2, 0, 0) := by decide +kernel
theorem gx249_82 : aF 82 zM249.2.2.2.2.2.2.2 = some (82, (.bipush (-2)), 2, 0, 0) := by decide +kernel
theorem gx249_84 : aF 84 zM249.2.2.2.2.2.2.2 = some (84, .ireturn, 1, 0, 0) := by decide +kernel
theorem gx249_39 : aF 39 zM249.2.2.2.2.2.2.2 = some (39, (.iload 4), 2, 0, 0) := by decide +kernel
theorem gx249_41 : aF 41 zM249.2.2.2.2.2.2.2 = some (41, (.ifCond .ne 23), 3, 64, 0) := by decide +kernel
theorem gx249_64 : aF 64 zM249.2.2.2.2.2.2.2 = some (64, (.iconst 1), 1, 0, 0) := by decide +kernel
theorem gx249_65 : aF 65 zM249.2.2.2.2.2.2.2 = some (65, (.goto 4), 3, 69, 0) := by decide +kernel
theorem gx249_69 : aF 69 zM249.2.2.2.2.2.2.2 = some (69, (.istore 4), 2, 0, 0) := by decide +kernel
theorem gx249_71 : aF 71 zM249.2.2.2.2.2.2.2 = some (71, (.iinc 5 1), 3, 0, 0) := by decide +kernel
theorem gx249_74 : aF 74 zM249.2.2.2.2.2.2.2 = some (74, (.goto (-42)), 3, 32, 0) := by decide +kernel
theorem gx249_44 : aF 44 zM249.2.2.2.2.2.2.2 = some (44, (.aload_n 0), 1, 0, 0) := by decide +kernel
theorem gx249_45 : aF 45 zM249.2.2.2.2.2.2.2 = some (45, (.getfield 142), 3, 12, 51) := by decide +kernel
theorem gx249_48 : aF 48 zM249.2.2.2.2.2.2.2 = some (48, (.bipush 60), 2, 0, 0) := by decide +kernel
theorem gx249_50 : aF 50 zM249.2.2.2.2.2.2.2 = some (50, (.iload_n 1), 1, 0, 0) := by decide +kernel
theorem gx249_51 : aF 51 zM249.2.2.2.2.2.2.2 = some (51, .imul, 1, 0, 0) := by decide +kernel
theorem gx249_52 : aF 52 zM249.2.2.2.2.2.2.2 = some (52, (.bipush 6), 2, 0, 0) := by decide +kernel
theorem gx249_54 : aF 54 zM249.2.2.2.2.2.2.2 = some (54, (.iload_n 2), 1, 0, 0) := by decide +kernel
theorem gx249_55 : aF 55 zM249.2.2.2.2.2.2.2 = some (55, .imul, 1, 0, 0) := by decide +kernel
theorem gx249_56 : aF 56 zM249.2.2.2.2.2.2.2 = some (56, .iadd, 1, 0, 0) := by decide +kernel
theorem gx249_57 : aF 57 zM249.2.2.2.2.2.2.2 = some (57, (.iload 5), 2, 0, 0) := by decide +kernel
theorem gx249_59 : aF 59 zM249.2.2.2.2.2.2.2 = some (59, .iadd, 1, 0, 0) := by decide +kernel
theorem gx249_60 : aF 60 zM249.2.2.2.2.2.2.2 = some (60, .baload, 1, 0, 0) := by decide +kernel
theorem gx249_61 : aF 61 zM249.2.2.2.2.2.2.2 = some (61, (.ifCond .eq 7), 3, 68, 0) := by decide +kernel
theorem gx249_68 : aF 68 zM249.2.2.2.2.2.2.2 = some (68, (.iconst 0), 1, 0, 0) := by decide +kernel
theorem gx249_91 : aF 91 zM249.2.2.2.2.2.2.2 = some (91, (.iload 6), 2, 0, 0) := by decide +kernel
theorem gx249_93 : aF 93 zM249.2.2.2.2.2.2.2 = some (93, (.bipush 8), 2, 0, 0) := by decide +kernel
theorem gx249_95 : aF 95 zM249.2.2.2.2.2.2.2 = some (95, (.if_icmp .ge 32), 3, 127, 0) := by decide +kernel
theorem gx249_127 : aF 127 zM249.2.2.2.2.2.2.2 = some (127, (.iload_n 3), 1, 0, 0) := by decide +kernel
theorem gx249_128 : aF 128 zM249.2.2.2.2.2.2.2 = some (128, (.ifCond .ne 6), 3, 134, 0) := by decide +kernel
theorem gx249_134 : aF 134 zM249.2.2.2.2.2.2.2 = some (134, (.ldc_w 390), 3, 2147483647, 0) := by decide +kernel
theorem gx249_137 : aF 137 zM249.2.2.2.2.2.2.2 = some (137, (.istore 6), 2, 0, 0) := by decide +kernel
theorem gx249_139 : aF 139 zM249.2.2.2.2.2.2.2 = some (139, (.iconst 0), 1, 0, 0) := by decide +kernel
theorem gx249_140 : aF 140 zM249.2.2.2.2.2.2.2 = some (140, (.istore 7), 2, 0, 0) := by decide +kernel
theorem gx249_131 : aF 131 zM249.2.2.2.2.2.2.2 = some (131, (.iload 5), 2, 0, 0) := by decide +kernel
theorem gx249_133 : aF 133 zM249.2.2.2.2.2.2.2 = some (133, .ireturn, 1, 0, 0) := by decide +kernel
theorem gx249_98 : aF 98 zM249.2.2.2.2.2.2.2 = some (98, (.aload_n 0), 1, 0, 0) := by decide +kernel
theorem gx249_99 : aF 99 zM249.2.2.2.2.2.2.2 = some (99, (.iload_n 1), 1, 0, 0) := by decide +kernel
theorem gx249_100 : aF 100 zM249.2.2.2.2.2.2.2 = some (100, (.iload_n 2), 1, 0, 0) := by decide +kernel
theorem gx249_101 : aF 101 zM249.2.2.2.2.2.2.2 = some (101, (.iload 6), 2, 0, 0) := by decide +kernel
theorem gx249_103 : aF 103 zM249.2.2.2.2.2.2.2 = some (103, (.invokevirtual 385), 3, 248, 0) := by decide +kernel
theorem gx249_106 : aF 106 zM249.2.2.2.2.2.2.2 = some (106, (.aload_n 0), 1, 0, 0) := by decide +kernel
theorem gx249_107 : aF 107 zM249.2.2.2.2.2.2.2 = some (107, (.iload_n 1), 1, 0, 0) := by decide +kernel
theorem gx249_108 : aF 108 zM249.2.2.2.2.2.2.2 = some (108, (.iload_n 2), 1, 0, 0) := by decide +kernel
theorem gx249_109 : aF 109 zM249.2.2.2.2.2.2.2 = some (109, (.iload 5), 2, 0, 0) := by decide +kernel
theorem gx249_111 : aF 111 zM249.2.2.2.2.2.2.2 = some (111, (.invokevirtual 385), 3, 248, 0) := by decide +kernel
theorem gx249_114 : aF 114 zM249.2.2.2.2.2.2.2 = some (114, (.if_icmp .ge 7), 3, 121, 0) := by decide +kernel
theorem gx249_121 : aF 121 zM249.2.2.2.2.2.2.2 = some (121, (.iinc 6 1), 3, 0, 0) := by decide +kernel
theorem gx249_124 : aF 124 zM249.2.2.2.2.2.2.2 = some (124, (.goto (-33)), 3, 91, 0) := by decide +kernel
theorem gx249_117 : aF 117 zM249.2.2.2.2.2.2.2 = some (117, (.iload 6), 2, 0, 0) := by decide +kernel
theorem gx249_119 : aF 119 zM249.2.2.2.2.2.2.2 = some (119, (.istore 5), 2, 0, 0) := by decide +kernel
theorem gx249_142 : aF 142 zM249.2.2.2.2.2.2.2 = some (142, (.iload 7), 2, 0, 0) := by decide +kernel
theorem gx249_144 : aF 144 zM249.2.2.2.2.2.2.2 = some (144, (.bipush 8), 2, 0, 0) := by decide +kernel
theorem gx249_146 : aF 146 zM249.2.2.2.2.2.2.2 = some (146, (.if_icmp .ge 31), 3, 177, 0) := by decide +kernel
theorem gx249_177 : aF 177 zM249.2.2.2.2.2.2.2 = some (177, (.iload 6), 2, 0, 0) := by decide +kernel
theorem gx249_179 : aF 179 zM249.2.2.2.2.2.2.2 = some (179, (.aload_n 0), 1, 0, 0) := by decide +kernel
theorem gx249_180 : aF 180 zM249.2.2.2.2.2.2.2 = some (180, (.iload_n 1), 1, 0, 0) := by decide +kernel
theorem gx249_181 : aF 181 zM249.2.2.2.2.2.2.2 = some (181, (.iload_n 2), 1, 0, 0) := by decide +kernel
theorem gx249_182 : aF 182 zM249.2.2.2.2.2.2.2 = some (182, (.iload 5), 2, 0, 0) := by decide +kernel
theorem gx249_184 : aF 184 zM249.2.2.2.2.2.2.2 = some (184, (.invokevirtual 385), 3, 248, 0) := by decide +kernel
theorem gx249_187 : aF 187 zM249.2.2.2.2.2.2.2 = some (187, .isub, 1, 0, 0) := by decide +kernel
theorem gx249_188 : aF 188 zM249.2.2.2.2.2.2.2 = some (188, .ireturn, 1, 0, 0) := by decide +kernel
theorem gx249_149 : aF 149 zM249.2.2.2.2.2.2.2 = some (149, (.iload 7), 2, 0, 0) := by decide +kernel
theorem gx249_151 : aF 151 zM249.2.2.2.2.2.2.2 = some (151, (.iload 5), 2, 0, 0) := by decide +kernel
theorem gx249_153 : aF 153 zM249.2.2.2.2.2.2.2 = some (153, (.if_icmp .eq 18), 3, 171, 0) := by decide +kernel
theorem gx249_171 : aF 171 zM249.2.2.2.2.2.2.2 = some (171, (.iinc 7 1), 3, 0, 0) := by decide +kernel
theorem gx249_174 : aF 174 zM249.2.2.2.2.2.2.2 = some (174, (.goto (-32)), 3, 142, 0) := by decide +kernel
theorem gx249_156 : aF 156 zM249.2.2.2.2.2.2.2 = some (156, (.iload 6), 2, 0, 0) := by decide +kernel
theorem gx249_158 : aF 158 zM249.2.2.2.2.2.2.2 = some (158, (.aload_n 0), 1, 0, 0) := by decide +kernel
theorem gx249_159 : aF 159 zM249.2.2.2.2.2.2.2 = some (159, (.iload_n 1), 1, 0, 0) := by decide +kernel
theorem gx249_160 : aF 160 zM249.2.2.2.2.2.2.2 = some (160, (.iload_n 2), 1, 0, 0) := by decide +kernel
theorem gx249_161 : aF 161 zM249.2.2.2.2.2.2.2 = some (161, (.iload 7), 2, 0, 0) := by decide +kernel
theorem gx249_163 : aF 163 zM249.2.2.2.2.2.2.2 = some (163, (.invokevirtual 385), 3, 248, 0) := by decide +kernel
theorem gx249_166 : aF 166 zM249.2.2.2.2.2.2.2 = some (166, (.invokestatic 289), 3, 211, 0) := by decide +kernel
theorem gx249_169 : aF 169 zM249.2.2.2.2.2.2.2 = some (169, (.istore 6), 2, 0, 0) := by decide +kernel
theorem gx166_0 : aF 0 zM166.2.2.2.2.2.2.2 = some (0, (.aload_n 0), 1, 0, 0) := by decide +kernel
theorem gx166_1 : aF 1 zM166.2.2.2.2.2.2.2 = some (1, (.getfield 12), 3, 11, 0) := by decide +kernel
theorem gx166_4 : aF 4 zM166.2.2.2.2.2.2.2 = some (4, (.iload_n 1), 1, 0, 0) := by decide +kernel
theorem gx166_5 : aF 5 zM166.2.2.2.2.2.2.2 = some (5, (.invokevirtual 136), 3, 77, 0) := by decide +kernel
theorem gx166_8 : aF 8 zM166.2.2.2.2.2.2.2 = some (8, (.ifCond .eq 19), 3, 27, 0) := by decide +kernel
theorem gx166_27 : aF 27 zM166.2.2.2.2.2.2.2 = some (27, (.iconst (-1)), 1, 0, 0) := by decide +kernel
theorem gx166_28 : aF 28 zM166.2.2.2.2.2.2.2 = some (28, .ireturn, 1, 0, 0) := by decide +kernel
theorem gx166_11 : aF 11 zM166.2.2.2.2.2.2.2 = some (11, (.iload_n 2), 1, 0, 0) := by decide +kernel
theorem gx166_12 : aF 12 zM166.2.2.2.2.2.2.2 = some (12, (.invokestatic 187), 3, 139, 0) := by decide +kernel
theorem gx166_15 : aF 15 zM166.2.2.2.2.2.2.2 = some (15, (.ifCond .eq 12), 3, 27, 0) := by decide +kernel
theorem gx166_18 : aF 18 zM166.2.2.2.2.2.2.2 = some (18, (.iload_n 3), 1, 0, 0) := by decide +kernel
theorem gx166_19 : aF 19 zM166.2.2.2.2.2.2.2 = some (19, (.iconst 0), 1, 0, 0) := by decide +kernel
theorem gx166_20 : aF 20 zM166.2.2.2.2.2.2.2 = some (20, (.iconst 1), 1, 0, 0) := by decide +kernel
theorem gx166_21 : aF 21 zM166.2.2.2.2.2.2.2 = some (21, (.invokestatic 85), 3, 137, 0) := by decide +kernel
theorem gx166_24 : aF 24 zM166.2.2.2.2.2.2.2 = some (24, (.ifCond .ne 5), 3, 29, 0) := by decide +kernel
theorem gx166_29 : aF 29 zM166.2.2.2.2.2.2.2 = some (29, (.aload_n 0), 1, 0, 0) := by decide +kernel
theorem gx166_30 : aF 30 zM166.2.2.2.2.2.2.2 = some (30, (.getfield 67), 3, 11, 7) := by decide +kernel
theorem gx166_33 : aF 33 zM166.2.2.2.2.2.2.2 = some (33, (.iload_n 1), 1, 0, 0) := by decide +kernel
theorem gx166_34 : aF 34 zM166.2.2.2.2.2.2.2 = some (34, (.iload_n 2), 1, 0, 0) := by decide +kernel
theorem gx166_35 : aF 35 zM166.2.2.2.2.2.2.2 = some (35, (.iload_n 3), 1, 0, 0) := by decide +kernel
theorem gx166_36 : aF 36 zM166.2.2.2.2.2.2.2 = some (36, (.invokevirtual 248), 3, 42, 0) := by decide +kernel
theorem gx166_39 : aF 39 zM166.2.2.2.2.2.2.2 = some (39, .ireturn, 1, 0, 0) := by decide +kernel
theorem d43_0 {n : Nat} {X : aX} {h : aH} {P : Int → aH → Prop} {x1 x3 : Int32} {a1 a3 : Int} {q2 : Nat} (S : wS h) (z1 : x1.toInt = a1) (z3 : x3.toInt = a3) (H : (∀ (w4 : Int32) (w5 : Int32) (w6 : Int32) (u7_ : Option Value), w4.toInt = 0 → w5.toInt = 0 → w6.toInt = 0 → Pt n X zM43 9 [some (.ref 63), some (.int x1), some (.ref q2), some (.int x3), some (.int w4), some (.int w5), some (.int w6), u7_] [] h (qI P))) : Pt (n + 1) X zM43 0 [some (.ref 63), some (.int x1), some (.ref q2), some (.int x3), none, none, none, none] [] h (qI P) := by
  refine pt_iconst gx43_0 (fun v1 h1 => ?_)
  refine pt_d (pt_1 (fun n d => r_istore (L' := [some (.ref 63), some (.int x1), some (.ref q2), some (.int x3), some (.int v1), none, none, none]) gx43_1 rfl rfl) ?_)
  refine pt_d (pt_iconst gx43_3 (fun v2 h2 => ?_))
  refine pt_d (pt_1 (fun n d => r_istore (L' := [some (.ref 63), some (.int x1), some (.ref q2), some (.int x3), some (.int v1), some (.int v2), none, none]) gx43_4 rfl rfl) ?_)
  refine pt_d (pt_iconst gx43_6 (fun v3 h3 => ?_))
  refine pt_d (pt_1 (fun n d => r_istore (L' := [some (.ref 63), some (.int x1), some (.ref q2), some (.int x3), some (.int v1), some (.int v2), some (.int v3), none]) gx43_7 rfl rfl) ?_)
  exact H v1 v2 v3 _ h1 h2 h3
theorem d43_9 {n : Nat} {X : aX} {h : aH} {P : Int → aH → Prop} {x1 x3 x4 x5 x6 : Int32} {a1 a3 a4 a5 a6 : Int} {u7 : Option Value} {q2 : Nat} (S : wS h) (z1 : x1.toInt = a1) (z3 : x3.toInt = a3) (z4 : x4.toInt = a4) (z5 : x5.toInt = a5) (z6 : x6.toInt = a6) (H : ((6 ≤ a6 → ((a5 ≠ 0 → P a4 h) ∧ (a5 = 0 → P (-1) h))) ∧ (a6 < 6 → (0 ≤ w32 ((w32 (a3 * 6)) + a6) → ((vw h q2 (w32 ((w32 (a3 * 6)) + a6)) = 1000 → (∀ (w6 : Int32) (u7_ : Option Value), w6.toInt = w32 (a6 + 1) → Pt n X zM43 9 [some (.ref 63), some (.int x1), some (.ref q2), some (.int x3), some (.int x4), some (.int x5), some (.int w6), u7_] [] h (qI P))) ∧ (vw h q2 (w32 ((w32 (a3 * 6)) + a6)) ≠ 1000 → (0 ≤ w32 ((w32 (a1 * 6)) + a6) → w32 ((w32 (a1 * 6)) + a6) < 48 → (∀ (w4 : Int32) (w5 : Int32) (w6 : Int32) (u7_ : Option Value), w4.toInt = w32 (a4 + (iAbs (w32 ((vw h q2 (w32 ((w32 (a3 * 6)) + a6))) - (vw h 64 (w32 ((w32 (a1 * 6)) + a6))))))) → w5.toInt = w32 (a5 + 1) → w6.toInt = w32 (a6 + 1) → Pt n X zM43 9 [some (.ref 63), some (.int x1), some (.ref q2), some (.int x3), some (.int w4), some (.int w5), some (.int w6), u7_] [] h (qI P))))))))) : Pt (n + 1) X zM43 9 [some (.ref 63), some (.int x1), some (.ref q2), some (.int x3), some (.int x4), some (.int x5), some (.int x6), u7] [] h (qI P) := by
  refine pt_1 (fun n d => r_iload gx43_9 rfl) ?_
  refine pt_d (pt_bipush gx43_11 (fun v1 h1 => ?_))
  refine pt_d (pt_icmp_ge gx43_13 z6 h1 (fun e2 => ?_) (fun e2 => ?_))
  · have H := H.1 e2
    refine pt_d (pt_1 (fun n d => r_iload gx43_67 rfl) ?_)
    refine pt_d (pt_if_ne gx43_69 z5 (fun e3 => ?_) (fun e3 => ?_))
    · have H := H.1 e3
      refine pt_d (pt_1 (fun n d => r_iload gx43_76 rfl) ?_)
      exact pt_d (pt_iret gx43_78 ⟨_, rfl, by rw [z4]; exact H⟩)
    · have H := H.2 e3
      refine pt_d (pt_iconst gx43_72 (fun v4 h4 => ?_))
      refine pt_d (pt_1 (fun n d => r_goto gx43_73) ?_)
      exact pt_d (pt_iret gx43_78 ⟨_, rfl, by rw [h4]; exact H⟩)
  · have H := H.2 e2
    refine pt_d (pt_1 (fun n d => r_aloadn gx43_16 rfl) ?_)
    refine pt_d (pt_1 (fun n d => r_iloadn gx43_17 rfl) ?_)
    refine pt_d (pt_bipush gx43_18 (fun v5 h5 => ?_))
    refine pt_d (pt_imul gx43_20 z3 h5 (fun v6 h6 => ?_))
    refine pt_d (pt_1 (fun n d => r_iload gx43_21 rfl) ?_)
    refine pt_d (pt_iadd gx43_23 h6 z6 (fun v7 h7 => ?_))
    refine pt_d (pt_ialdD gx43_24 h7 (fun v8 p8 h8 => ?_))
    have H := H p8
    refine pt_d (pt_1 (fun n d => r_istore (L' := [some (.ref 63), some (.int x1), some (.ref q2), some (.int x3), some (.int x4), some (.int x5), some (.int x6), some (.int v8)]) gx43_25 rfl rfl) ?_)
    refine pt_d (pt_1 (fun n d => r_iload gx43_27 rfl) ?_)
    refine pt_d (pt_sipush gx43_29 (fun v9 h9 => ?_))
    refine pt_d (pt_icmp_eq gx43_32 h8 h9 (fun e10 => ?_) (fun e10 => ?_))
    · have H := H.1 e10
      refine pt_d (pt_iinc (c := 1) gx43_61 rfl z6 (fun v11 h11 => ?_))
      show Pt _ _ _ _ [some (.ref 63), some (.int x1), some (.ref q2), some (.int x3), some (.int x4), some (.int x5), some (.int v11), some (.int v8)] [] _ _
      refine pt_d (pt_1 (fun n d => r_goto gx43_64) ?_)
      exact H v11 _ h11
    · have H := H.2 e10
      refine pt_d (pt_1 (fun n d => r_iload gx43_35 rfl) ?_)
      refine pt_d (pt_1 (fun n d => r_iload gx43_37 rfl) ?_)
      refine pt_d (pt_1 (fun n d => r_aloadn gx43_39 rfl) ?_)
      refine pt_d (pt_getR gx43_40 S tr_63_0 ?_)
      refine pt_d (pt_1 (fun n d => r_iloadn gx43_43 rfl) ?_)
      refine pt_d (pt_bipush gx43_44 (fun v13 h13 => ?_))
      refine pt_d (pt_imul gx43_46 z1 h13 (fun v14 h14 => ?_))
      refine pt_d (pt_1 (fun n d => r_iload gx43_47 rfl) ?_)
      refine pt_d (pt_iadd gx43_49 h14 z6 (fun v15 h15 => ?_))
      refine pt_d (pt_iald (N' := 48) gx43_50 S tl_64 h15 (fun v16 p16 q16 h16 => ?_))
      have H := H p16 q16
      refine pt_d (pt_isub gx43_51 h8 h16 (fun v17 h17 => ?_))
      refine pt_d (pt_abs gx43_52 rfl h17 (fun v18 h18 => ?_))
      refine pt_d (pt_iadd gx43_55 z4 h18 (fun v19 h19 => ?_))
      refine pt_d (pt_1 (fun n d => r_istore (L' := [some (.ref 63), some (.int x1), some (.ref q2), some (.int x3), some (.int v19), some (.int x5), some (.int x6), some (.int v8)]) gx43_56 rfl rfl) ?_)
      refine pt_d (pt_iinc (c := 1) gx43_58 rfl z5 (fun v20 h20 => ?_))
      show Pt _ _ _ _ [some (.ref 63), some (.int x1), some (.ref q2), some (.int x3), some (.int v19), some (.int v20), some (.int x6), some (.int v8)] [] _ _
      refine pt_d (pt_iinc (c := 1) gx43_61 rfl z6 (fun v21 h21 => ?_))
      show Pt _ _ _ _ [some (.ref 63), some (.int x1), some (.ref q2), some (.int x3), some (.int v19), some (.int v20), some (.int v21), some (.int v8)] [] _ _
      refine pt_d (pt_1 (fun n d => r_goto gx43_64) ?_)
      exact H v19 v20 v21 _ h19 h20 h21
theorem d248_0 {n : Nat} {X : aX} {h : aH} {P : Int → aH → Prop} {x1 x2 x3 : Int32} {a1 a2 a3 : Int} (S : wS h) (z1 : x1.toInt = a1) (z2 : x2.toInt = a2) (z3 : x3.toInt = a3) (H : (∀ (w4 : Int32) (w5 : Int32) (u6_ : Option Value) (u7_ : Option Value), w4.toInt = 0 → w5.toInt = 0 → Pt n X zM248 6 [some (.ref 72), some (.int x1), some (.int x2), some (.int x3), some (.int w4), some (.int w5), u6_, u7_] [] h (qI P))) : Pt (n + 1) X zM248 0 [some (.ref 72), some (.int x1), some (.int x2), some (.int x3), none, none, none, none] [] h (qI P) := by
  refine pt_iconst gx248_0 (fun v1 h1 => ?_)
  refine pt_d (pt_1 (fun n d => r_istore (L' := [some (.ref 72), some (.int x1), some (.int x2), some (.int x3), some (.int v1), none, none, none]) gx248_1 rfl rfl) ?_)
  refine pt_d (pt_iconst gx248_3 (fun v2 h2 => ?_))
  refine pt_d (pt_1 (fun n d => r_istore (L' := [some (.ref 72), some (.int x1), some (.int x2), some (.int x3), some (.int v1), some (.int v2), none, none]) gx248_4 rfl rfl) ?_)
  exact H v1 v2 _ _ h1 h2
theorem d248_6 {n : Nat} {X : aX} {h : aH} {P : Int → aH → Prop} {x1 x2 x3 x4 x5 : Int32} {a1 a2 a3 a4 a5 : Int} {u6 u7 : Option Value} (S : wS h) (z1 : x1.toInt = a1) (z2 : x2.toInt = a2) (z3 : x3.toInt = a3) (z4 : x4.toInt = a4) (z5 : x5.toInt = a5) (H : ((6 ≤ a5 → P a4 h) ∧ (a5 < 6 → (0 ≤ w32 ((w32 ((w32 (60 * a1)) + (w32 (6 * a2)))) + a5) → w32 ((w32 ((w32 (60 * a1)) + (w32 (6 * a2)))) + a5) < 9000 → ((vw h 114 (w32 ((w32 ((w32 (60 * a1)) + (w32 (6 * a2)))) + a5)) = 0 → (∀ (w4 : Int32) (w5 : Int32) (u6_ : Option Value) (u7_ : Option Value), w4.toInt = w32 (a4 + 0) → w5.toInt = w32 (a5 + 1) → Pt n X zM248 6 [some (.ref 72), some (.int x1), some (.int x2), some (.int x3), some (.int w4), some (.int w5), u6_, u7_] [] h (qI P))) ∧ (vw h 114 (w32 ((w32 ((w32 (60 * a1)) + (w32 (6 * a2)))) + a5)) ≠ 0 → (0 ≤ w32 ((w32 (6 * a3)) + a5) → w32 ((w32 (6 * a3)) + a5) < 48 → ((0 ≤ w32 ((vw h 113 (w32 ((w32 ((w32 (60 * a1)) + (w32 (6 * a2)))) + a5))) - (vw h 112 (w32 ((w32 (6 * a3)) + a5)))) → (∀ (w4 : Int32) (w5 : Int32) (u6_ : Option Value) (u7_ : Option Value), w4.toInt = w32 (a4 + (w32 ((vw h 113 (w32 ((w32 ((w32 (60 * a1)) + (w32 (6 * a2)))) + a5))) - (vw h 112 (w32 ((w32 (6 * a3)) + a5)))))) → w5.toInt = w32 (a5 + 1) → Pt n X zM248 6 [some (.ref 72), some (.int x1), some (.int x2), some (.int x3), some (.int w4), some (.int w5), u6_, u7_] [] h (qI P))) ∧ (w32 ((vw h 113 (w32 ((w32 ((w32 (60 * a1)) + (w32 (6 * a2)))) + a5))) - (vw h 112 (w32 ((w32 (6 * a3)) + a5)))) < 0 → (∀ (w4 : Int32) (w5 : Int32) (u6_ : Option Value) (u7_ : Option Value), w4.toInt = w32 (a4 + (w32 (-(w32 ((vw h 113 (w32 ((w32 ((w32 (60 * a1)) + (w32 (6 * a2)))) + a5))) - (vw h 112 (w32 ((w32 (6 * a3)) + a5)))))))) → w5.toInt = w32 (a5 + 1) → Pt n X zM248 6 [some (.ref 72), some (.int x1), some (.int x2), some (.int x3), some (.int w4), some (.int w5), u6_, u7_] [] h (qI P))))))))))) : Pt (n + 1) X zM248 6 [some (.ref 72), some (.int x1), some (.int x2), some (.int x3), some (.int x4), some (.int x5), u6, u7] [] h (qI P) := by
  refine pt_1 (fun n d => r_iload gx248_6 rfl) ?_
  refine pt_d (pt_bipush gx248_8 (fun v1 h1 => ?_))
  refine pt_d (pt_icmp_ge gx248_10 z5 h1 (fun e2 => ?_) (fun e2 => ?_))
  · have H := H.1 e2
    refine pt_d (pt_1 (fun n d => r_iload gx248_87 rfl) ?_)
    exact pt_d (pt_iret gx248_89 ⟨_, rfl, by rw [z4]; exact H⟩)
  · have H := H.2 e2
    refine pt_d (pt_bipush gx248_13 (fun v3 h3 => ?_))
    refine pt_d (pt_1 (fun n d => r_iloadn gx248_15 rfl) ?_)
    refine pt_d (pt_imul gx248_16 h3 z1 (fun v4 h4 => ?_))
    refine pt_d (pt_bipush gx248_17 (fun v5 h5 => ?_))
    refine pt_d (pt_1 (fun n d => r_iloadn gx248_19 rfl) ?_)
    refine pt_d (pt_imul gx248_20 h5 z2 (fun v6 h6 => ?_))
    refine pt_d (pt_iadd gx248_21 h4 h6 (fun v7 h7 => ?_))
    refine pt_d (pt_1 (fun n d => r_iload gx248_22 rfl) ?_)
    refine pt_d (pt_iadd gx248_24 h7 z5 (fun v8 h8 => ?_))
    refine pt_d (pt_1 (fun n d => r_istore (L' := [some (.ref 72), some (.int x1), some (.int x2), some (.int x3), some (.int x4), some (.int x5), some (.int v8), u7]) gx248_25 rfl rfl) ?_)
    refine pt_d (pt_1 (fun n d => r_aloadn gx248_27 rfl) ?_)
    refine pt_d (pt_getR gx248_28 S tr_72_51 ?_)
    refine pt_d (pt_1 (fun n d => r_iload gx248_31 rfl) ?_)
    refine pt_d (pt_zald (N' := 9000) gx248_33 S tl_114 h8 (fun v10 p10 q10 h10 => ?_))
    have H := H p10 q10
    refine pt_d (pt_if_eq gx248_34 h10 (fun e11 => ?_) (fun e11 => ?_))
    · have H := H.1 e11
      refine pt_d (pt_iconst gx248_60 (fun v12 h12 => ?_))
      refine pt_d (pt_1 (fun n d => r_istore (L' := [some (.ref 72), some (.int x1), some (.int x2), some (.int x3), some (.int x4), some (.int x5), some (.int v8), some (.int v12)]) gx248_61 rfl rfl) ?_)
      refine pt_d (pt_1 (fun n d => r_iload gx248_63 rfl) ?_)
      refine pt_d (pt_1 (fun n d => r_iload gx248_65 rfl) ?_)
      refine pt_d (pt_if_ge gx248_67 h12 (fun e13 => ?_) (fun e13 => absurd e13 (by decide)))
      refine pt_d (pt_1 (fun n d => r_iload gx248_76 rfl) ?_)
      refine pt_d (pt_iadd gx248_78 z4 h12 (fun v14 h14 => ?_))
      refine pt_d (pt_1 (fun n d => r_istore (L' := [some (.ref 72), some (.int x1), some (.int x2), some (.int x3), some (.int v14), some (.int x5), some (.int v8), some (.int v12)]) gx248_79 rfl rfl) ?_)
      refine pt_d (pt_iinc (c := 1) gx248_81 rfl z5 (fun v15 h15 => ?_))
      show Pt _ _ _ _ [some (.ref 72), some (.int x1), some (.int x2), some (.int x3), some (.int v14), some (.int v15), some (.int v8), some (.int v12)] [] _ _
      refine pt_d (pt_1 (fun n d => r_goto gx248_84) ?_)
      exact H v14 v15 _ _ h14 h15
    · have H := H.2 e11
      refine pt_d (pt_1 (fun n d => r_aloadn gx248_37 rfl) ?_)
      refine pt_d (pt_getR gx248_38 S tr_72_50 ?_)
      refine pt_d (pt_1 (fun n d => r_iload gx248_41 rfl) ?_)
      refine pt_d (pt_iald (N' := 9000) gx248_43 S tl_113 h8 (fun v17 p17 q17 h17 => ?_))
      refine pt_d (pt_1 (fun n d => r_aloadn gx248_44 rfl) ?_)
      refine pt_d (pt_getR gx248_45 S tr_72_49 ?_)
      refine pt_d (pt_bipush gx248_48 (fun v19 h19 => ?_))
      refine pt_d (pt_1 (fun n d => r_iloadn gx248_50 rfl) ?_)
      refine pt_d (pt_imul gx248_51 h19 z3 (fun v20 h20 => ?_))
      refine pt_d (pt_1 (fun n d => r_iload gx248_52 rfl) ?_)
      refine pt_d (pt_iadd gx248_54 h20 z5 (fun v21 h21 => ?_))
      refine pt_d (pt_iald (N' := 48) gx248_55 S tl_112 h21 (fun v22 p22 q22 h22 => ?_))
      have H := H p22 q22
      refine pt_d (pt_isub gx248_56 h17 h22 (fun v23 h23 => ?_))
      refine pt_d (pt_1 (fun n d => r_goto gx248_57) ?_)
      refine pt_d (pt_1 (fun n d => r_istore (L' := [some (.ref 72), some (.int x1), some (.int x2), some (.int x3), some (.int x4), some (.int x5), some (.int v8), some (.int v23)]) gx248_61 rfl rfl) ?_)
      refine pt_d (pt_1 (fun n d => r_iload gx248_63 rfl) ?_)
      refine pt_d (pt_1 (fun n d => r_iload gx248_65 rfl) ?_)
      refine pt_d (pt_if_ge gx248_67 h23 (fun e24 => ?_) (fun e24 => ?_))
      · have H := H.1 e24
        refine pt_d (pt_1 (fun n d => r_iload gx248_76 rfl) ?_)
        refine pt_d (pt_iadd gx248_78 z4 h23 (fun v25 h25 => ?_))
        refine pt_d (pt_1 (fun n d => r_istore (L' := [some (.ref 72), some (.int x1), some (.int x2), some (.int x3), some (.int v25), some (.int x5), some (.int v8), some (.int v23)]) gx248_79 rfl rfl) ?_)
        refine pt_d (pt_iinc (c := 1) gx248_81 rfl z5 (fun v26 h26 => ?_))
        show Pt _ _ _ _ [some (.ref 72), some (.int x1), some (.int x2), some (.int x3), some (.int v25), some (.int v26), some (.int v8), some (.int v23)] [] _ _
        refine pt_d (pt_1 (fun n d => r_goto gx248_84) ?_)
        exact H v25 v26 _ _ h25 h26
      · have H := H.2 e24
        refine pt_d (pt_1 (fun n d => r_iload gx248_70 rfl) ?_)
        refine pt_d (pt_ineg gx248_72 h23 (fun v27 h27 => ?_))
        refine pt_d (pt_1 (fun n d => r_goto gx248_73) ?_)
        refine pt_d (pt_iadd gx248_78 z4 h27 (fun v28 h28 => ?_))
        refine pt_d (pt_1 (fun n d => r_istore (L' := [some (.ref 72), some (.int x1), some (.int x2), some (.int x3), some (.int v28), some (.int x5), some (.int v8), some (.int v23)]) gx248_79 rfl rfl) ?_)
        refine pt_d (pt_iinc (c := 1) gx248_81 rfl z5 (fun v29 h29 => ?_))
        show Pt _ _ _ _ [some (.ref 72), some (.int x1), some (.int x2), some (.int x3), some (.int v28), some (.int v29), some (.int v8), some (.int v23)] [] _ _
        refine pt_d (pt_1 (fun n d => r_goto gx248_84) ?_)
        exact H v28 v29 _ _ h28 h29
theorem vz' {c t n : Nat} (e : zH0.1[c]? = some (.inl (t, n, .inl (fun _ => 0)))) (j : Int) : vw zH0 c j = 0 := by
  unfold vw
  split
  · rfl
  · rw [e]; rfl
def dfA (z : Int) : Int := if 0 ≤ z then z else -z
theorem dfA_b {a b : Int} (h1 : -128 ≤ a ∧ a ≤ 127) (h2 : 0 ≤ b ∧ b ≤ 99) : 0 ≤ dfA (a - b) ∧ dfA (a - b) ≤ 227 := by unfold dfA; split <;> omega
theorem iAbs_w {a b : Int} (h1 : -128 ≤ a ∧ a ≤ 127) (h2 : 0 ≤ b ∧ b ≤ 99) : iAbs (w32 (a - b)) = dfA (a - b) := by
  rw [w32_id (by omega) (by omega)]
  unfold iAbs dfA
  split
  · rfl
  · exact w32_id (by omega) (by omega)
def aA (V : vS) (q : Nat) (y c : Int) : Nat → Int
  | 0 => 0
  | k + 1 => aA V q y c k + (if V q (6 * y + (k : Int)) = 1000 then 0 else dfA (V q (6 * y + (k : Int)) - V 64 (6 * c + (k : Int))))
def aW (V : vS) (q : Nat) (y : Int) : Nat → Int
  | 0 => 0
  | k + 1 => aW V q y k + (if V q (6 * y + (k : Int)) = 1000 then 0 else 1)
def cAp (V : vS) (q : Nat) (y c : Int) : Int := if aW V q y 6 = 0 then -1 else aA V q y c 6
def lkCl (V : vS) (q : Nat) (y c : Int) : Prop := (0 ≤ y ∧ y ≤ 9) ∧ (0 ≤ c ∧ c < 8) ∧ (∀ j, 0 ≤ j → j < 60 → V q j = 1000 ∨ (-128 ≤ V q j ∧ V q j ≤ 127)) ∧ ∀ j, 0 ≤ j → j < 48 → 0 ≤ V 64 j ∧ V 64 j ≤ 99
theorem aA_b {V : vS} {q : Nat} {y c : Int} (H : lkCl V q y c) : ∀ k : Nat, k ≤ 6 → (0 ≤ aA V q y c k ∧ aA V q y c k ≤ 227 * (k : Int)) ∧ 0 ≤ aW V q y k ∧ aW V q y k ≤ (k : Int)
  | 0, _ => ⟨⟨Int.le_refl _, Int.le_refl _⟩, Int.le_refl _, Int.le_refl _⟩
  | k + 1, hk => by
    obtain ⟨i1, i2⟩ := aA_b H k (by omega)
    obtain ⟨h1, h2, h3, h4⟩ := H
    unfold aA aW
    by_cases z : V q (6 * y + (k : Int)) = 1000
    · rw [if_pos z, if_pos z]; omega
    · rw [if_neg z, if_neg z]
      rcases h3 (6 * y + (k : Int)) (by omega) (by omega) with e | e
      · exact absurd e z
      · have := dfA_b e (h4 (6 * c + (k : Int)) (by omega) (by omega))
        omega
theorem l_43 {X : aX} {q : Nat} {y c : Int} {h : aH} (S : wS h) (H : lkCl (vw h) q y c) : ∀ (n : Nat) (x1 x3 x4 x5 x6 : Int32) (u7 : Option Value) (k : Nat), x1.toInt = c → x3.toInt = y → k ≤ 6 → x6.toInt = (k : Int) → x4.toInt = aA (vw h) q y c k → x5.toInt = aW (vw h) q y k → Pt n X zM43 9 [some (.ref 63), some (.int x1), some (.ref q), some (.int x3), some (.int x4), some (.int x5), some (.int x6), u7] [] h (qI (fun r h' => h' = h ∧ r = cAp (vw h) q y c)) := by
  intro n
  induction n with
  | zero => exact fun _ _ _ _ _ _ _ _ _ _ _ _ _ => pt_z
  | succ n ih =>
    intro x1 x3 x4 x5 x6 u7 k h1 h3 hk h6 h4 h5
    obtain ⟨b1, b2⟩ := aA_b H k hk
    have H' := H
    obtain ⟨hy, hc, hv, ht⟩ := H
    refine d43_9 S h1 h3 h4 h5 h6 ⟨fun e1 => ⟨fun e2 => ?_, fun e2 => ?_⟩, fun e1 p => ⟨fun e2 w6 u7 g6 => ?_, fun e2 p2 p3 w4 w5 w6 u7 g4 g5 g6 => ?_⟩⟩
    · obtain rfl : k = 6 := by omega
      exact ⟨rfl, by unfold cAp; rw [if_neg e2]⟩
    · obtain rfl : k = 6 := by omega
      exact ⟨rfl, by unfold cAp; rw [if_pos e2]⟩
    · replace g6 := w_1 g6 (by omega) (by omega)
      rw [sy6 hy.1 hy.2 (by omega) e1] at e2
      refine ih x1 x3 x4 x5 w6 u7 (k + 1) h1 h3 (by omega) (by omega) ?_ ?_
      · show _ = aA _ _ _ _ k + _
        rw [if_pos e2]; omega
      · show _ = aW _ _ _ k + _
        rw [if_pos e2]; omega
    · replace g6 := w_1 g6 (by omega) (by omega)
      replace g5 := w_1 g5 (by omega) (by omega)
      rw [sy6 hy.1 hy.2 (by omega) e1] at e2 g4
      rw [sy6 hc.1 (by omega) (by omega) e1] at g4
      have r1 : -128 ≤ vw h q (6 * y + (k : Int)) ∧ vw h q (6 * y + (k : Int)) ≤ 127 := by
        rcases hv (6 * y + (k : Int)) (by omega) (by omega) with e | e
        · exact absurd e e2
        · exact e
      have r2 := ht (6 * c + (k : Int)) (by omega) (by omega)
      have r3 := dfA_b r1 r2
      rw [iAbs_w r1 r2, w32_id (by omega) (by omega)] at g4
      refine ih x1 x3 w4 w5 w6 u7 (k + 1) h1 h3 (by omega) (by omega) ?_ ?_
      · show _ = aA _ _ _ _ k + _
        rw [if_neg e2]; exact g4
      · show _ = aW _ _ _ k + _
        rw [if_neg e2]; exact g5
theorem c_43 {n : Nat} {X : aX} {h : aH} {x1 x3 : Int32} {a1 a3 : Int} {q2 : Nat} (S : wS h) (z1 : x1.toInt = a1) (z3 : x3.toInt = a3) (H : lkCl (vw h) q2 a3 a1) : Pt n X zM43 0 [some (.ref 63), some (.int x1), some (.ref q2), some (.int x3), none, none, none, none] [] h (qI (fun y h' => h' = h ∧ y = cAp (vw h) q2 a3 a1)) :=
  pt_d (d43_0 S z1 z3 (fun w4 w5 w6 u7 g4 g5 g6 => l_43 S H n x1 x3 w4 w5 w6 u7 0 z1 z3 (by decide) g6 g4 g5))
-- the model's
def mA (V : vS) (b y c : Int) : Nat → Int
  | 0 => 0
  | k + 1 => mA V b y c k + (if V 114 (60 * b + 6 * y + (k : Int)) = 0 then 0 else dfA (V 113 (60 * b + 6 * y + (k : Int)) - V 112 (6 * c + (k : Int))))
def lkMo (V : vS) (b y c : Int) : Prop := (0 ≤ b ∧ b < 150) ∧ (0 ≤ y ∧ y ≤ 9) ∧ (0 ≤ c ∧ c < 8) ∧ (∀ j, 0 ≤ j → j < 60 → V 114 (60 * b + j) = 0 ∨ (-128 ≤ V 113 (60 * b + j) ∧ V 113 (60 * b + j) ≤ 127)) ∧ ∀ j, 0 ≤ j → j < 48 → 0 ≤ V 112 j ∧ V 112 j ≤ 99
theorem pM_r {V : vS} {b y c : Int} (H : lkMo V b y c) {k : Int} (h0 : 0 ≤ k) (h1 : k < 6) (e : V 114 (60 * b + 6 * y + k) ≠ 0) : -128 ≤ V 113 (60 * b + 6 * y + k) ∧ V 113 (60 * b + 6 * y + k) ≤ 127 := by
  obtain ⟨hb, hy, hc, hv, ht⟩ := H
  have := hv (6 * y + k) (by omega) (by omega)
  rw [show 60 * b + (6 * y + k) = 60 * b + 6 * y + k by omega] at this
  rcases this with z | z
  · exact absurd z e
  · exact z
theorem mA_b {V : vS} {b y c : Int} (H : lkMo V b y c) : ∀ k : Nat, k ≤ 6 → 0 ≤ mA V b y c k ∧ mA V b y c k ≤ 227 * (k : Int)
  | 0, _ => ⟨Int.le_refl _, Int.le_refl _⟩
  | k + 1, hk => by
    have i1 := mA_b H k (by omega)
    unfold mA
    by_cases z : V 114 (60 * b + 6 * y + (k : Int)) = 0
    · rw [if_pos z]; omega
    · rw [if_neg z]
      have r1 := pM_r H (by omega) (by omega) z
      obtain ⟨hb, hy, hc, hv, ht⟩ := H
      have := dfA_b r1 (ht (6 * c + (k : Int)) (by omega) (by omega))
      omega
theorem cx6 {c k : Int} (h0 : 0 ≤ c) (h1 : c < 8) (h2 : 0 ≤ k) (h3 : k < 6) : w32 (w32 (6 * c) + k) = 6 * c + k := by
  rw [w32_id (z := 6 * c) (by omega) (by omega), w32_id (by omega) (by omega)]
theorem l_248 {X : aX} {b y c : Int} {h : aH} (S : wS h) (H : lkMo (vw h) b y c) : ∀ (n : Nat) (x1 x2 x3 x4 x5 : Int32) (u6 u7 : Option Value) (k : Nat), x1.toInt = b → x2.toInt = y → x3.toInt = c → k ≤ 6 → x5.toInt = (k : Int) → x4.toInt = mA (vw h) b y c k → Pt n X zM248 6 [some (.ref 72), some (.int x1), some (.int x2), some (.int x3), some (.int x4), some (.int x5), u6, u7] [] h (qI (fun r h' => h' = h ∧ r = mA (vw h) b y c 6)) := by
  intro n
  induction n with
  | zero => exact fun _ _ _ _ _ _ _ _ _ _ _ _ _ _ => pt_z
  | succ n ih =>
    intro x1 x2 x3 x4 x5 u6 u7 k h1 h2 h3 hk h5 h4
    have b1 := mA_b H k hk
    have H' := H
    obtain ⟨hb, hy, hc, hv, ht⟩ := H
    refine d248_6 S h1 h2 h3 h4 h5 ⟨fun e1 => ?_, fun e1 p p' => ⟨fun e2 w4 w5 u6 u7 g4 g5 => ?_, fun e2 p2 p3 => ⟨fun e3 w4 w5 u6 u7 g4 g5 => ?_, fun e3 w4 w5 u6 u7 g4 g5 => ?_⟩⟩⟩
    · obtain rfl : k = 6 := by omega
      exact ⟨rfl, rfl⟩
    · replace g5 := w_1 g5 (by omega) (by omega)
      replace g4 := w_1 g4 (by omega) (by omega)
      rw [xi1 hb.1 hb.2 hy.1 hy.2 (by omega) e1] at e2
      refine ih x1 x2 x3 w4 w5 u6 u7 (k + 1) h1 h2 h3 (by omega) (by omega) ?_
      show _ = mA _ _ _ _ k + _
      rw [if_pos e2]; omega
    all_goals
      replace g5 := w_1 g5 (by omega) (by omega)
      rw [xi1 hb.1 hb.2 hy.1 hy.2 (by omega) e1] at e2 e3 g4
      rw [cx6 hc.1 hc.2 (by omega) e1] at e3 g4
      have r1 := pM_r H' (by omega) e1 e2
      have r2 := ht (6 * c + (k : Int)) (by omega) (by omega)
      have r3 := dfA_b r1 r2
      have ew : w32 (vw h 113 (60 * b + 6 * y + (k : Int)) - vw h 112 (6 * c + (k : Int))) = vw h 113 (60 * b + 6 * y + (k : Int)) - vw h 112 (6 * c + (k : Int)) := w32_id (by omega) (by omega)
      rw [ew] at e3 g4
      refine ih x1 x2 x3 w4 w5 u6 u7 (k + 1) h1 h2 h3 (by omega) (by omega) ?_
      show _ = mA _ _ _ _ k + _
      rw [if_neg e2]
    · have ed : dfA (vw h 113 (60 * b + 6 * y + (k : Int)) - vw h 112 (6 * c + (k : Int))) = vw h 113 (60 * b + 6 * y + (k : Int)) - vw h 112 (6 * c + (k : Int)) := if_pos e3
      rw [ed] at r3 ⊢
      rw [w32_id (by omega) (by omega)] at g4
      exact g4
    · have ed : dfA (vw h 113 (60 * b + 6 * y + (k : Int)) - vw h 112 (6 * c + (k : Int))) = -(vw h 113 (60 * b + 6 * y + (k : Int)) - vw h 112 (6 * c + (k : Int))) := if_neg (by omega)
      rw [ed] at r3 ⊢
      rw [w32_id (z := -(vw h 113 (60 * b + 6 * y + (k : Int)) - vw h 112 (6 * c + (k : Int)))) (by omega) (by omega), w32_id (by omega) (by omega)] at g4
      exact g4
theorem c_248 {n : Nat} {X : aX} {h : aH} {x1 x2 x3 : Int32} {a1 a2 a3 : Int} (S : wS h) (z1 : x1.toInt = a1) (z2 : x2.toInt = a2) (z3 : x3.toInt = a3) (H : lkMo (vw h) a1 a2 a3) : Pt n X zM248 0 [some (.ref 72), some (.int x1), some (.int x2), some (.int x3), none, none, none, none] [] h (qI (fun y h' => h' = h ∧ y = mA (vw h) a1 a2 a3 6)) :=
  pt_d (d248_0 S z1 z2 z3 (fun w4 w5 u6 u7 g4 g5 => l_248 S H n x1 x2 x3 w4 w5 u6 u7 0 z1 z2 z3 (by decide) g5 g4))


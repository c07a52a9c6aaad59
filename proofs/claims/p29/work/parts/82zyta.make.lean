-- ===== seasons: the class makes =====
theorem tl_42 : tkL 42 4 10 = true := by decide +kernel
theorem tl_22 : tkL 22 0 4 = true := by decide +kernel
theorem tr_41_0 : tkR 41 0 1 = true := by decide +kernel
theorem tr_41_1 : tkR 41 1 16 = true := by decide +kernel
theorem tr_41_3 : tkR 41 3 42 = true := by decide +kernel
theorem tr_16_9 : tkR 16 9 22 = true := by decide +kernel
theorem tr_0_4 : tkR 0 4 41 = true := by decide +kernel
theorem gx96_0 : aF 0 zM96.2.2.2.2.2.2.2 = some (0, (.aload_n 0), 1, 0, 0) := by decide +kernel
theorem gx96_1 : aF 1 zM96.2.2.2.2.2.2.2 = some (1, (.invokespecial 3), 3, 1000, 0) := by decide +kernel
theorem gx96_4 : aF 4 zM96.2.2.2.2.2.2.2 = some (4, (.aload_n 0), 1, 0, 0) := by decide +kernel
theorem gx96_5 : aF 5 zM96.2.2.2.2.2.2.2 = some (5, (.iconst (-1)), 1, 0, 0) := by decide +kernel
theorem gx96_6 : aF 6 zM96.2.2.2.2.2.2.2 = some (6, (.putfield 9), 3, 8, 3) := by decide +kernel
theorem gx96_9 : aF 9 zM96.2.2.2.2.2.2.2 = some (9, (.aload_n 0), 1, 0, 0) := by decide +kernel
theorem gx96_10 : aF 10 zM96.2.2.2.2.2.2.2 = some (10, (.iconst (-1)), 1, 0, 0) := by decide +kernel
theorem gx96_11 : aF 11 zM96.2.2.2.2.2.2.2 = some (11, (.putfield 15), 3, 8, 4) := by decide +kernel
theorem gx96_14 : aF 14 zM96.2.2.2.2.2.2.2 = some (14, (.aload_n 0), 1, 0, 0) := by decide +kernel
theorem gx96_15 : aF 15 zM96.2.2.2.2.2.2.2 = some (15, (.sipush 300), 3, 0, 0) := by decide +kernel
theorem gx96_18 : aF 18 zM96.2.2.2.2.2.2.2 = some (18, (.newarray .int), 2, 0, 0) := by decide +kernel
theorem gx96_20 : aF 20 zM96.2.2.2.2.2.2.2 = some (20, (.putfield 18), 3, 8, 6) := by decide +kernel
theorem gx96_23 : aF 23 zM96.2.2.2.2.2.2.2 = some (23, (.aload_n 0), 1, 0, 0) := by decide +kernel
theorem gx96_24 : aF 24 zM96.2.2.2.2.2.2.2 = some (24, (.sipush 300), 3, 0, 0) := by decide +kernel
theorem gx96_27 : aF 27 zM96.2.2.2.2.2.2.2 = some (27, (.newarray .int), 2, 0, 0) := by decide +kernel
theorem gx96_29 : aF 29 zM96.2.2.2.2.2.2.2 = some (29, (.putfield 22), 3, 8, 7) := by decide +kernel
theorem gx96_32 : aF 32 zM96.2.2.2.2.2.2.2 = some (32, (.aload_n 0), 1, 0, 0) := by decide +kernel
theorem gx96_33 : aF 33 zM96.2.2.2.2.2.2.2 = some (33, (.sipush 300), 3, 0, 0) := by decide +kernel
theorem gx96_36 : aF 36 zM96.2.2.2.2.2.2.2 = some (36, (.newarray .int), 2, 0, 0) := by decide +kernel
theorem gx96_38 : aF 38 zM96.2.2.2.2.2.2.2 = some (38, (.putfield 25), 3, 8, 8) := by decide +kernel
theorem gx96_41 : aF 41 zM96.2.2.2.2.2.2.2 = some (41, (.aload_n 0), 1, 0, 0) := by decide +kernel
theorem gx96_42 : aF 42 zM96.2.2.2.2.2.2.2 = some (42, (.bipush 24), 2, 0, 0) := by decide +kernel
theorem gx96_44 : aF 44 zM96.2.2.2.2.2.2.2 = some (44, (.newarray .int), 2, 0, 0) := by decide +kernel
theorem gx96_46 : aF 46 zM96.2.2.2.2.2.2.2 = some (46, (.putfield 28), 3, 8, 9) := by decide +kernel
theorem gx96_49 : aF 49 zM96.2.2.2.2.2.2.2 = some (49, (.aload_n 0), 1, 0, 0) := by decide +kernel
theorem gx96_50 : aF 50 zM96.2.2.2.2.2.2.2 = some (50, (.sipush 150), 3, 0, 0) := by decide +kernel
theorem gx96_53 : aF 53 zM96.2.2.2.2.2.2.2 = some (53, (.newarray .int), 2, 0, 0) := by decide +kernel
theorem gx96_55 : aF 55 zM96.2.2.2.2.2.2.2 = some (55, (.putfield 31), 3, 8, 10) := by decide +kernel
theorem gx96_58 : aF 58 zM96.2.2.2.2.2.2.2 = some (58, (.aload_n 0), 1, 0, 0) := by decide +kernel
theorem gx96_59 : aF 59 zM96.2.2.2.2.2.2.2 = some (59, (.sipush 150), 3, 0, 0) := by decide +kernel
theorem gx96_62 : aF 62 zM96.2.2.2.2.2.2.2 = some (62, (.newarray .int), 2, 0, 0) := by decide +kernel
theorem gx96_64 : aF 64 zM96.2.2.2.2.2.2.2 = some (64, (.putfield 34), 3, 8, 11) := by decide +kernel
theorem gx96_67 : aF 67 zM96.2.2.2.2.2.2.2 = some (67, (.aload_n 0), 1, 0, 0) := by decide +kernel
theorem gx96_68 : aF 68 zM96.2.2.2.2.2.2.2 = some (68, (.sipush 150), 3, 0, 0) := by decide +kernel
theorem gx96_71 : aF 71 zM96.2.2.2.2.2.2.2 = some (71, (.newarray .int), 2, 0, 0) := by decide +kernel
theorem gx96_73 : aF 73 zM96.2.2.2.2.2.2.2 = some (73, (.putfield 37), 3, 8, 12) := by decide +kernel
theorem gx96_76 : aF 76 zM96.2.2.2.2.2.2.2 = some (76, (.aload_n 0), 1, 0, 0) := by decide +kernel
theorem gx96_77 : aF 77 zM96.2.2.2.2.2.2.2 = some (77, (.aload_n 1), 1, 0, 0) := by decide +kernel
theorem gx96_78 : aF 78 zM96.2.2.2.2.2.2.2 = some (78, (.putfield 40), 3, 8, 0) := by decide +kernel
theorem gx96_81 : aF 81 zM96.2.2.2.2.2.2.2 = some (81, (.aload_n 0), 1, 0, 0) := by decide +kernel
theorem gx96_82 : aF 82 zM96.2.2.2.2.2.2.2 = some (82, (.aload_n 2), 1, 0, 0) := by decide +kernel
theorem gx96_83 : aF 83 zM96.2.2.2.2.2.2.2 = some (83, (.putfield 44), 3, 8, 1) := by decide +kernel
theorem gx96_86 : aF 86 zM96.2.2.2.2.2.2.2 = some (86, (.aload_n 0), 1, 0, 0) := by decide +kernel
theorem gx96_87 : aF 87 zM96.2.2.2.2.2.2.2 = some (87, (.iload_n 3), 1, 0, 0) := by decide +kernel
theorem gx96_88 : aF 88 zM96.2.2.2.2.2.2.2 = some (88, (.putfield 48), 3, 8, 2) := by decide +kernel
theorem gx96_91 : aF 91 zM96.2.2.2.2.2.2.2 = some (91, .return_, 1, 0, 0) := by decide +kernel
theorem gx1_0 : aF 0 zM1.2.2.2.2.2.2.2 = some (0, (.aload_n 0), 1, 0, 0) := by decide +kernel
theorem gx1_1 : aF 1 zM1.2.2.2.2.2.2.2 = some (1, (.getfield 33), 3, 0, 0) := by decide +kernel
theorem gx1_4 : aF 4 zM1.2.2.2.2.2.2.2 = some (4, (.getfield 45), 3, 6, 1) := by decide +kernel
theorem gx1_7 : aF 7 zM1.2.2.2.2.2.2.2 = some (7, (.aload_n 0), 1, 0, 0) := by decide +kernel
theorem gx1_8 : aF 8 zM1.2.2.2.2.2.2.2 = some (8, (.getfield 33), 3, 0, 0) := by decide +kernel
theorem gx1_11 : aF 11 zM1.2.2.2.2.2.2.2 = some (11, (.getfield 51), 3, 6, 5) := by decide +kernel
theorem gx1_14 : aF 14 zM1.2.2.2.2.2.2.2 = some (14, .iadd, 1, 0, 0) := by decide +kernel
theorem gx1_15 : aF 15 zM1.2.2.2.2.2.2.2 = some (15, (.aload_n 0), 1, 0, 0) := by decide +kernel
theorem gx1_16 : aF 16 zM1.2.2.2.2.2.2.2 = some (16, (.getfield 37), 3, 0, 1) := by decide +kernel
theorem gx1_19 : aF 19 zM1.2.2.2.2.2.2.2 = some (19, (.getfield 54), 3, 2, 1) := by decide +kernel
theorem gx1_22 : aF 22 zM1.2.2.2.2.2.2.2 = some (22, .iadd, 1, 0, 0) := by decide +kernel
theorem gx1_23 : aF 23 zM1.2.2.2.2.2.2.2 = some (23, (.aload_n 0), 1, 0, 0) := by decide +kernel
theorem gx1_24 : aF 24 zM1.2.2.2.2.2.2.2 = some (24, (.getfield 37), 3, 0, 1) := by decide +kernel
theorem gx1_27 : aF 27 zM1.2.2.2.2.2.2.2 = some (27, (.getfield 57), 3, 2, 2) := by decide +kernel
theorem gx1_30 : aF 30 zM1.2.2.2.2.2.2.2 = some (30, .iadd, 1, 0, 0) := by decide +kernel
theorem gx1_31 : aF 31 zM1.2.2.2.2.2.2.2 = some (31, (.aload_n 0), 1, 0, 0) := by decide +kernel
theorem gx1_32 : aF 32 zM1.2.2.2.2.2.2.2 = some (32, (.getfield 37), 3, 0, 1) := by decide +kernel
theorem gx1_35 : aF 35 zM1.2.2.2.2.2.2.2 = some (35, (.getfield 60), 3, 2, 3) := by decide +kernel
theorem gx1_38 : aF 38 zM1.2.2.2.2.2.2.2 = some (38, .iadd, 1, 0, 0) := by decide +kernel
theorem gx1_39 : aF 39 zM1.2.2.2.2.2.2.2 = some (39, (.istore_n 3), 1, 0, 0) := by decide +kernel
theorem gx1_40 : aF 40 zM1.2.2.2.2.2.2.2 = some (40, (.aload_n 0), 1, 0, 0) := by decide +kernel
theorem gx1_41 : aF 41 zM1.2.2.2.2.2.2.2 = some (41, (.getfield 11), 3, 0, 3) := by decide +kernel
theorem gx1_44 : aF 44 zM1.2.2.2.2.2.2.2 = some (44, (.iload_n 1), 1, 0, 0) := by decide +kernel
theorem gx1_45 : aF 45 zM1.2.2.2.2.2.2.2 = some (45, .aaload, 1, 0, 0) := by decide +kernel
theorem gx1_46 : aF 46 zM1.2.2.2.2.2.2.2 = some (46, (.astore 4), 2, 0, 0) := by decide +kernel
theorem gx1_48 : aF 48 zM1.2.2.2.2.2.2.2 = some (48, (.aload 4), 2, 0, 0) := by decide +kernel
theorem gx1_50 : aF 50 zM1.2.2.2.2.2.2.2 = some (50, (.ifnonnull 29), 3, 79, 0) := by decide +kernel
theorem gx1_53 : aF 53 zM1.2.2.2.2.2.2.2 = some (53, (.new 9), 3, 8, 0) := by decide +kernel
theorem gx1_56 : aF 56 zM1.2.2.2.2.2.2.2 = some (56, .dup, 1, 0, 0) := by decide +kernel
theorem gx1_57 : aF 57 zM1.2.2.2.2.2.2.2 = some (57, (.aload_n 0), 1, 0, 0) := by decide +kernel
theorem gx1_58 : aF 58 zM1.2.2.2.2.2.2.2 = some (58, (.getfield 33), 3, 0, 0) := by decide +kernel
theorem gx1_61 : aF 61 zM1.2.2.2.2.2.2.2 = some (61, (.aload_n 0), 1, 0, 0) := by decide +kernel
theorem gx1_62 : aF 62 zM1.2.2.2.2.2.2.2 = some (62, (.getfield 37), 3, 0, 1) := by decide +kernel
theorem gx1_65 : aF 65 zM1.2.2.2.2.2.2.2 = some (65, (.iload_n 1), 1, 0, 0) := by decide +kernel
theorem gx1_66 : aF 66 zM1.2.2.2.2.2.2.2 = some (66, (.invokespecial 63), 3, 96, 0) := by decide +kernel
theorem gx1_69 : aF 69 zM1.2.2.2.2.2.2.2 = some (69, (.astore 4), 2, 0, 0) := by decide +kernel
theorem gx1_71 : aF 71 zM1.2.2.2.2.2.2.2 = some (71, (.aload_n 0), 1, 0, 0) := by decide +kernel
theorem gx1_72 : aF 72 zM1.2.2.2.2.2.2.2 = some (72, (.getfield 11), 3, 0, 3) := by decide +kernel
theorem gx1_75 : aF 75 zM1.2.2.2.2.2.2.2 = some (75, (.iload_n 1), 1, 0, 0) := by decide +kernel
theorem gx1_76 : aF 76 zM1.2.2.2.2.2.2.2 = some (76, (.aload 4), 2, 0, 0) := by decide +kernel
theorem gx1_78 : aF 78 zM1.2.2.2.2.2.2.2 = some (78, .aastore, 1, 0, 0) := by decide +kernel
theorem gx1_79 : aF 79 zM1.2.2.2.2.2.2.2 = some (79, (.aload 4), 2, 0, 0) := by decide +kernel
theorem gx1_81 : aF 81 zM1.2.2.2.2.2.2.2 = some (81, (.getfield 66), 3, 8, 3) := by decide +kernel
theorem gx1_84 : aF 84 zM1.2.2.2.2.2.2.2 = some (84, (.iload_n 2), 1, 0, 0) := by decide +kernel
theorem gx1_85 : aF 85 zM1.2.2.2.2.2.2.2 = some (85, (.if_icmp .ne 12), 3, 97, 0) := by decide +kernel
theorem gx1_97 : aF 97 zM1.2.2.2.2.2.2.2 = some (97, (.aload 4), 2, 0, 0) := by decide +kernel
theorem gx1_99 : aF 99 zM1.2.2.2.2.2.2.2 = some (99, (.iload_n 2), 1, 0, 0) := by decide +kernel
theorem gx1_100 : aF 100 zM1.2.2.2.2.2.2.2 = some (100, (.iload_n 3), 1, 0, 0) := by decide +kernel
theorem gx1_101 : aF 101 zM1.2.2.2.2.2.2.2 = some (101, (.invokevirtual 72), 3, 97, 0) := by decide +kernel
theorem gx1_104 : aF 104 zM1.2.2.2.2.2.2.2 = some (104, (.aload 4), 2, 0, 0) := by decide +kernel
theorem gx1_106 : aF 106 zM1.2.2.2.2.2.2.2 = some (106, .areturn, 1, 0, 0) := by decide +kernel
theorem gx1_88 : aF 88 zM1.2.2.2.2.2.2.2 = some (88, (.aload 4), 2, 0, 0) := by decide +kernel
theorem gx1_90 : aF 90 zM1.2.2.2.2.2.2.2 = some (90, (.getfield 69), 3, 8, 4) := by decide +kernel
theorem gx1_93 : aF 93 zM1.2.2.2.2.2.2.2 = some (93, (.iload_n 3), 1, 0, 0) := by decide +kernel
theorem gx1_94 : aF 94 zM1.2.2.2.2.2.2.2 = some (94, (.if_icmp .eq 10), 3, 104, 0) := by decide +kernel
theorem gx98_0 : aF 0 zM98.2.2.2.2.2.2.2 = some (0, (.iconst 0), 1, 0, 0) := by decide +kernel
theorem gx98_1 : aF 1 zM98.2.2.2.2.2.2.2 = some (1, (.istore_n 3), 1, 0, 0) := by decide +kernel
theorem gx98_2 : aF 2 zM98.2.2.2.2.2.2.2 = some (2, (.iload_n 3), 1, 0, 0) := by decide +kernel
theorem gx98_3 : aF 3 zM98.2.2.2.2.2.2.2 = some (3, (.aload_n 0), 1, 0, 0) := by decide +kernel
theorem gx98_4 : aF 4 zM98.2.2.2.2.2.2.2 = some (4, (.getfield 51), 3, 8, 5) := by decide +kernel
theorem gx98_7 : aF 7 zM98.2.2.2.2.2.2.2 = some (7, (.if_icmp .ge 29), 3, 36, 0) := by decide +kernel
theorem gx98_36 : aF 36 zM98.2.2.2.2.2.2.2 = some (36, (.iconst (-1)), 1, 0, 0) := by decide +kernel
theorem gx98_37 : aF 37 zM98.2.2.2.2.2.2.2 = some (37, .ireturn, 1, 0, 0) := by decide +kernel
theorem gx98_10 : aF 10 zM98.2.2.2.2.2.2.2 = some (10, (.aload_n 0), 1, 0, 0) := by decide +kernel
theorem gx98_11 : aF 11 zM98.2.2.2.2.2.2.2 = some (11, (.iload_n 3), 1, 0, 0) := by decide +kernel
theorem gx98_12 : aF 12 zM98.2.2.2.2.2.2.2 = some (12, (.invokevirtual 81), 3, 100, 0) := by decide +kernel
theorem gx98_15 : aF 15 zM98.2.2.2.2.2.2.2 = some (15, (.iload_n 1), 1, 0, 0) := by decide +kernel
theorem gx98_16 : aF 16 zM98.2.2.2.2.2.2.2 = some (16, (.if_icmp .ne 14), 3, 30, 0) := by decide +kernel
theorem gx98_30 : aF 30 zM98.2.2.2.2.2.2.2 = some (30, (.iinc 3 1), 3, 0, 0) := by decide +kernel
theorem gx98_33 : aF 33 zM98.2.2.2.2.2.2.2 = some (33, (.goto (-31)), 3, 2, 0) := by decide +kernel
theorem gx98_19 : aF 19 zM98.2.2.2.2.2.2.2 = some (19, (.aload_n 0), 1, 0, 0) := by decide +kernel
theorem gx98_20 : aF 20 zM98.2.2.2.2.2.2.2 = some (20, (.iload_n 3), 1, 0, 0) := by decide +kernel
theorem gx98_21 : aF 21 zM98.2.2.2.2.2.2.2 = some (21, (.invokevirtual 84), 3, 101, 0) := by decide +kernel
theorem gx98_24 : aF 24 zM98.2.2.2.2.2.2.2 = some (24, (.iload_n 2), 1, 0, 0) := by decide +kernel
theorem gx98_25 : aF 25 zM98.2.2.2.2.2.2.2 = some (25, (.if_icmp .ne 5), 3, 30, 0) := by decide +kernel
theorem gx98_28 : aF 28 zM98.2.2.2.2.2.2.2 = some (28, (.iload_n 3), 1, 0, 0) := by decide +kernel
theorem gx98_29 : aF 29 zM98.2.2.2.2.2.2.2 = some (29, .ireturn, 1, 0, 0) := by decide +kernel
theorem gx31_0 : aF 0 zM31.2.2.2.2.2.2.2 = some (0, (.aload_n 0), 1, 0, 0) := by decide +kernel
theorem gx31_1 : aF 1 zM31.2.2.2.2.2.2.2 = some (1, (.getfield 60), 3, 2, 0) := by decide +kernel
theorem gx31_4 : aF 4 zM31.2.2.2.2.2.2.2 = some (4, (.getfield 83), 3, 6, 8) := by decide +kernel
theorem gx31_7 : aF 7 zM31.2.2.2.2.2.2.2 = some (7, (.aload_n 0), 1, 0, 0) := by decide +kernel
theorem gx31_8 : aF 8 zM31.2.2.2.2.2.2.2 = some (8, (.getfield 9), 3, 2, 4) := by decide +kernel
theorem gx31_11 : aF 11 zM31.2.2.2.2.2.2.2 = some (11, (.iload_n 1), 1, 0, 0) := by decide +kernel
theorem gx31_12 : aF 12 zM31.2.2.2.2.2.2.2 = some (12, .iaload, 1, 0, 0) := by decide +kernel
theorem gx31_13 : aF 13 zM31.2.2.2.2.2.2.2 = some (13, .iaload, 1, 0, 0) := by decide +kernel
theorem gx31_14 : aF 14 zM31.2.2.2.2.2.2.2 = some (14, (.istore_n 2), 1, 0, 0) := by decide +kernel
theorem gx31_15 : aF 15 zM31.2.2.2.2.2.2.2 = some (15, (.iload_n 2), 1, 0, 0) := by decide +kernel
theorem gx31_16 : aF 16 zM31.2.2.2.2.2.2.2 = some (16, (.invokestatic 86), 3, 140, 0) := by decide +kernel
theorem gx31_19 : aF 19 zM31.2.2.2.2.2.2.2 = some (19, (.ifCond .eq 27), 3, 46, 0) := by decide +kernel
theorem gx31_46 : aF 46 zM31.2.2.2.2.2.2.2 = some (46, (.iconst 0), 1, 0, 0) := by decide +kernel
theorem gx31_47 : aF 47 zM31.2.2.2.2.2.2.2 = some (47, .ireturn, 1, 0, 0) := by decide +kernel
theorem gx31_22 : aF 22 zM31.2.2.2.2.2.2.2 = some (22, (.iconst 0), 1, 0, 0) := by decide +kernel
theorem gx31_23 : aF 23 zM31.2.2.2.2.2.2.2 = some (23, (.aload_n 0), 1, 0, 0) := by decide +kernel
theorem gx31_24 : aF 24 zM31.2.2.2.2.2.2.2 = some (24, (.getfield 21), 3, 2, 7) := by decide +kernel
theorem gx31_27 : aF 27 zM31.2.2.2.2.2.2.2 = some (27, (.iload_n 1), 1, 0, 0) := by decide +kernel
theorem gx31_28 : aF 28 zM31.2.2.2.2.2.2.2 = some (28, .iaload, 1, 0, 0) := by decide +kernel
theorem gx31_29 : aF 29 zM31.2.2.2.2.2.2.2 = some (29, (.sipush 365), 3, 0, 0) := by decide +kernel
theorem gx31_32 : aF 32 zM31.2.2.2.2.2.2.2 = some (32, .irem, 1, 0, 0) := by decide +kernel
theorem gx31_33 : aF 33 zM31.2.2.2.2.2.2.2 = some (33, (.aload_n 0), 1, 0, 0) := by decide +kernel
theorem gx31_34 : aF 34 zM31.2.2.2.2.2.2.2 = some (34, (.getfield 27), 3, 2, 9) := by decide +kernel
theorem gx31_37 : aF 37 zM31.2.2.2.2.2.2.2 = some (37, (.iload_n 2), 1, 0, 0) := by decide +kernel
theorem gx31_38 : aF 38 zM31.2.2.2.2.2.2.2 = some (38, .iaload, 1, 0, 0) := by decide +kernel
theorem gx31_39 : aF 39 zM31.2.2.2.2.2.2.2 = some (39, .isub, 1, 0, 0) := by decide +kernel
theorem gx31_40 : aF 40 zM31.2.2.2.2.2.2.2 = some (40, (.invokestatic 90), 3, 1010, 0) := by decide +kernel
theorem gx31_43 : aF 43 zM31.2.2.2.2.2.2.2 = some (43, (.goto 4), 3, 47, 0) := by decide +kernel
theorem gx83_0 : aF 0 zM83.2.2.2.2.2.2.2 = some (0, (.iconst 0), 1, 0, 0) := by decide +kernel
theorem gx83_1 : aF 1 zM83.2.2.2.2.2.2.2 = some (1, (.istore_n 3), 1, 0, 0) := by decide +kernel
theorem gx83_2 : aF 2 zM83.2.2.2.2.2.2.2 = some (2, (.iconst 0), 1, 0, 0) := by decide +kernel
theorem gx83_3 : aF 3 zM83.2.2.2.2.2.2.2 = some (3, (.istore 4), 2, 0, 0) := by decide +kernel
theorem gx83_5 : aF 5 zM83.2.2.2.2.2.2.2 = some (5, (.iload 4), 2, 0, 0) := by decide +kernel
theorem gx83_7 : aF 7 zM83.2.2.2.2.2.2.2 = some (7, (.bipush 24), 2, 0, 0) := by decide +kernel
theorem gx83_9 : aF 9 zM83.2.2.2.2.2.2.2 = some (9, (.if_icmp .ge 27), 3, 36, 0) := by decide +kernel
theorem gx83_36 : aF 36 zM83.2.2.2.2.2.2.2 = some (36, (.iload_n 3), 1, 0, 0) := by decide +kernel
theorem gx83_37 : aF 37 zM83.2.2.2.2.2.2.2 = some (37, .ireturn, 1, 0, 0) := by decide +kernel
theorem gx83_12 : aF 12 zM83.2.2.2.2.2.2.2 = some (12, (.iload_n 3), 1, 0, 0) := by decide +kernel
theorem gx83_13 : aF 13 zM83.2.2.2.2.2.2.2 = some (13, (.aload_n 0), 1, 0, 0) := by decide +kernel
theorem gx83_14 : aF 14 zM83.2.2.2.2.2.2.2 = some (14, (.iload_n 1), 1, 0, 0) := by decide +kernel
theorem gx83_15 : aF 15 zM83.2.2.2.2.2.2.2 = some (15, (.iload 4), 2, 0, 0) := by decide +kernel
theorem gx83_17 : aF 17 zM83.2.2.2.2.2.2.2 = some (17, (.invokevirtual 92), 3, 82, 0) := by decide +kernel
theorem gx83_20 : aF 20 zM83.2.2.2.2.2.2.2 = some (20, (.aload_n 2), 1, 0, 0) := by decide +kernel
theorem gx83_21 : aF 21 zM83.2.2.2.2.2.2.2 = some (21, (.iload 4), 2, 0, 0) := by decide +kernel
theorem gx83_23 : aF 23 zM83.2.2.2.2.2.2.2 = some (23, .iaload, 1, 0, 0) := by decide +kernel
theorem gx83_24 : aF 24 zM83.2.2.2.2.2.2.2 = some (24, .iand, 1, 0, 0) := by decide +kernel
theorem gx83_25 : aF 25 zM83.2.2.2.2.2.2.2 = some (25, (.invokestatic 96), 3, 329, 0) := by decide +kernel
theorem gx83_28 : aF 28 zM83.2.2.2.2.2.2.2 = some (28, .iadd, 1, 0, 0) := by decide +kernel
theorem gx83_29 : aF 29 zM83.2.2.2.2.2.2.2 = some (29, (.istore_n 3), 1, 0, 0) := by decide +kernel
theorem gx83_30 : aF 30 zM83.2.2.2.2.2.2.2 = some (30, (.iinc 4 1), 3, 0, 0) := by decide +kernel
theorem gx83_33 : aF 33 zM83.2.2.2.2.2.2.2 = some (33, (.goto (-28)), 3, 5, 0) := by decide +kernel
theorem gx160_0 : aF 0 zM160.2.2.2.2.2.2.2 = some (0, (.aload_n 0), 1, 0, 0) := by decide +kernel
theorem gx160_1 : aF 1 zM160.2.2.2.2.2.2.2 = some (1, (.getfield 12), 3, 11, 0) := by decide +kernel
theorem gx160_4 : aF 4 zM160.2.2.2.2.2.2.2 = some (4, (.iload_n 1), 1, 0, 0) := by decide +kernel
theorem gx160_5 : aF 5 zM160.2.2.2.2.2.2.2 = some (5, (.invokevirtual 121), 3, 75, 0) := by decide +kernel
theorem gx160_8 : aF 8 zM160.2.2.2.2.2.2.2 = some (8, (.ifCond .eq 39), 3, 47, 0) := by decide +kernel
theorem gx160_47 : aF 47 zM160.2.2.2.2.2.2.2 = some (47, (.iconst (-1)), 1, 0, 0) := by decide +kernel
theorem gx160_48 : aF 48 zM160.2.2.2.2.2.2.2 = some (48, .ireturn, 1, 0, 0) := by decide +kernel
theorem gx160_11 : aF 11 zM160.2.2.2.2.2.2.2 = some (11, (.aload_n 0), 1, 0, 0) := by decide +kernel
theorem gx160_12 : aF 12 zM160.2.2.2.2.2.2.2 = some (12, (.getfield 12), 3, 11, 0) := by decide +kernel
theorem gx160_15 : aF 15 zM160.2.2.2.2.2.2.2 = some (15, (.iload_n 2), 1, 0, 0) := by decide +kernel
theorem gx160_16 : aF 16 zM160.2.2.2.2.2.2.2 = some (16, (.invokevirtual 136), 3, 77, 0) := by decide +kernel
theorem gx160_19 : aF 19 zM160.2.2.2.2.2.2.2 = some (19, (.ifCond .eq 28), 3, 47, 0) := by decide +kernel
theorem gx160_22 : aF 22 zM160.2.2.2.2.2.2.2 = some (22, (.iload_n 3), 1, 0, 0) := by decide +kernel
theorem gx160_23 : aF 23 zM160.2.2.2.2.2.2.2 = some (23, (.invokestatic 187), 3, 139, 0) := by decide +kernel
theorem gx160_26 : aF 26 zM160.2.2.2.2.2.2.2 = some (26, (.ifCond .eq 21), 3, 47, 0) := by decide +kernel
theorem gx160_29 : aF 29 zM160.2.2.2.2.2.2.2 = some (29, (.iload 4), 2, 0, 0) := by decide +kernel
theorem gx160_31 : aF 31 zM160.2.2.2.2.2.2.2 = some (31, (.invokestatic 164), 3, 138, 0) := by decide +kernel
theorem gx160_34 : aF 34 zM160.2.2.2.2.2.2.2 = some (34, (.ifCond .eq 13), 3, 47, 0) := by decide +kernel
theorem gx160_37 : aF 37 zM160.2.2.2.2.2.2.2 = some (37, (.iload 5), 2, 0, 0) := by decide +kernel
theorem gx160_39 : aF 39 zM160.2.2.2.2.2.2.2 = some (39, (.iconst 0), 1, 0, 0) := by decide +kernel
theorem gx160_40 : aF 40 zM160.2.2.2.2.2.2.2 = some (40, (.iconst 4), 1, 0, 0) := by decide +kernel
theorem gx160_41 : aF 41 zM160.2.2.2.2.2.2.2 = some (41, (.invokestatic 85), 3, 137, 0) := by decide +kernel
theorem gx160_44 : aF 44 zM160.2.2.2.2.2.2.2 = some (44, (.ifCond .ne 5), 3, 49, 0) := by decide +kernel
theorem gx160_49 : aF 49 zM160.2.2.2.2.2.2.2 = some (49, (.aload_n 0), 1, 0, 0) := by decide +kernel
theorem gx160_50 : aF 50 zM160.2.2.2.2.2.2.2 = some (50, (.getfield 44), 3, 11, 4) := by decide +kernel
theorem gx160_53 : aF 53 zM160.2.2.2.2.2.2.2 = some (53, (.iload_n 3), 1, 0, 0) := by decide +kernel
theorem gx160_54 : aF 54 zM160.2.2.2.2.2.2.2 = some (54, (.iload 4), 2, 0, 0) := by decide +kernel
theorem gx160_56 : aF 56 zM160.2.2.2.2.2.2.2 = some (56, (.invokevirtual 190), 3, 1, 0) := by decide +kernel
theorem gx160_59 : aF 59 zM160.2.2.2.2.2.2.2 = some (59, (.astore 6), 2, 0, 0) := by decide +kernel
theorem gx160_61 : aF 61 zM160.2.2.2.2.2.2.2 = some (61, (.aload 6), 2, 0, 0) := by decide +kernel
theorem gx160_63 : aF 63 zM160.2.2.2.2.2.2.2 = some (63, (.iload_n 1), 1, 0, 0) := by decide +kernel
theorem gx160_64 : aF 64 zM160.2.2.2.2.2.2.2 = some (64, (.iload_n 2), 1, 0, 0) := by decide +kernel
theorem gx160_65 : aF 65 zM160.2.2.2.2.2.2.2 = some (65, (.invokevirtual 194), 3, 98, 0) := by decide +kernel
theorem gx160_68 : aF 68 zM160.2.2.2.2.2.2.2 = some (68, (.istore 7), 2, 0, 0) := by decide +kernel
theorem gx160_70 : aF 70 zM160.2.2.2.2.2.2.2 = some (70, (.iload 7), 2, 0, 0) := by decide +kernel
theorem gx160_72 : aF 72 zM160.2.2.2.2.2.2.2 = some (72, (.iconst (-1)), 1, 0, 0) := by decide +kernel
theorem gx160_73 : aF 73 zM160.2.2.2.2.2.2.2 = some (73, (.if_icmp .ne 6), 3, 79, 0) := by decide +kernel
theorem gx160_79 : aF 79 zM160.2.2.2.2.2.2.2 = some (79, (.iload 5), 2, 0, 0) := by decide +kernel
theorem gx160_81 : aF 81 zM160.2.2.2.2.2.2.2 = some (81, (.tableswitch 89 0 3 #[31, 40, 58, 75]), 31, 0, 0) := by decide +kernel
theorem gx160_112 : aF 112 zM160.2.2.2.2.2.2.2 = some (112, (.aload 6), 2, 0, 0) := by decide +kernel
theorem gx160_114 : aF 114 zM160.2.2.2.2.2.2.2 = some (114, (.getfield 199), 3, 8, 7) := by decide +kernel
theorem gx160_117 : aF 117 zM160.2.2.2.2.2.2.2 = some (117, (.iload 7), 2, 0, 0) := by decide +kernel
theorem gx160_119 : aF 119 zM160.2.2.2.2.2.2.2 = some (119, .iaload, 1, 0, 0) := by decide +kernel
theorem gx160_120 : aF 120 zM160.2.2.2.2.2.2.2 = some (120, .ireturn, 1, 0, 0) := by decide +kernel
theorem gx160_121 : aF 121 zM160.2.2.2.2.2.2.2 = some (121, (.aload 6), 2, 0, 0) := by decide +kernel
theorem gx160_123 : aF 123 zM160.2.2.2.2.2.2.2 = some (123, (.getfield 199), 3, 8, 7) := by decide +kernel
theorem gx160_126 : aF 126 zM160.2.2.2.2.2.2.2 = some (126, (.iload 7), 2, 0, 0) := by decide +kernel
theorem gx160_128 : aF 128 zM160.2.2.2.2.2.2.2 = some (128, .iaload, 1, 0, 0) := by decide +kernel
theorem gx160_129 : aF 129 zM160.2.2.2.2.2.2.2 = some (129, (.aload 6), 2, 0, 0) := by decide +kernel
theorem gx160_131 : aF 131 zM160.2.2.2.2.2.2.2 = some (131, (.getfield 202), 3, 8, 8) := by decide +kernel
theorem gx160_134 : aF 134 zM160.2.2.2.2.2.2.2 = some (134, (.iload 7), 2, 0, 0) := by decide +kernel
theorem gx160_136 : aF 136 zM160.2.2.2.2.2.2.2 = some (136, .iaload, 1, 0, 0) := by decide +kernel
theorem gx160_137 : aF 137 zM160.2.2.2.2.2.2.2 = some (137, .isub, 1, 0, 0) := by decide +kernel
theorem gx160_138 : aF 138 zM160.2.2.2.2.2.2.2 = some (138, .ireturn, 1, 0, 0) := by decide +kernel
theorem gx160_139 : aF 139 zM160.2.2.2.2.2.2.2 = some (139, (.aload_n 0), 1, 0, 0) := by decide +kernel
theorem gx160_140 : aF 140 zM160.2.2.2.2.2.2.2 = some (140, (.getfield 28), 3, 11, 2) := by decide +kernel
theorem gx160_143 : aF 143 zM160.2.2.2.2.2.2.2 = some (143, (.getfield 205), 3, 2, 6) := by decide +kernel
theorem gx160_146 : aF 146 zM160.2.2.2.2.2.2.2 = some (146, (.aload 6), 2, 0, 0) := by decide +kernel
theorem gx160_148 : aF 148 zM160.2.2.2.2.2.2.2 = some (148, (.getfield 208), 3, 8, 6) := by decide +kernel
theorem gx160_151 : aF 151 zM160.2.2.2.2.2.2.2 = some (151, (.iload 7), 2, 0, 0) := by decide +kernel
theorem gx160_153 : aF 153 zM160.2.2.2.2.2.2.2 = some (153, .iaload, 1, 0, 0) := by decide +kernel
theorem gx160_154 : aF 154 zM160.2.2.2.2.2.2.2 = some (154, .iaload, 1, 0, 0) := by decide +kernel
theorem gx160_155 : aF 155 zM160.2.2.2.2.2.2.2 = some (155, .ireturn, 1, 0, 0) := by decide +kernel
theorem gx160_156 : aF 156 zM160.2.2.2.2.2.2.2 = some (156, (.aload_n 0), 1, 0, 0) := by decide +kernel
theorem gx160_157 : aF 157 zM160.2.2.2.2.2.2.2 = some (157, (.getfield 12), 3, 11, 0) := by decide +kernel
theorem gx160_160 : aF 160 zM160.2.2.2.2.2.2.2 = some (160, (.iload_n 2), 1, 0, 0) := by decide +kernel
theorem gx160_161 : aF 161 zM160.2.2.2.2.2.2.2 = some (161, (.aload 6), 2, 0, 0) := by decide +kernel
theorem gx160_163 : aF 163 zM160.2.2.2.2.2.2.2 = some (163, (.getfield 211), 3, 8, 9) := by decide +kernel
theorem gx160_166 : aF 166 zM160.2.2.2.2.2.2.2 = some (166, (.invokevirtual 214), 3, 83, 0) := by decide +kernel
theorem gx160_169 : aF 169 zM160.2.2.2.2.2.2.2 = some (169, .ireturn, 1, 0, 0) := by decide +kernel
theorem gx160_170 : aF 170 zM160.2.2.2.2.2.2.2 = some (170, (.aload_n 0), 1, 0, 0) := by decide +kernel
theorem gx160_171 : aF 171 zM160.2.2.2.2.2.2.2 = some (171, (.getfield 28), 3, 11, 2) := by decide +kernel
theorem gx160_174 : aF 174 zM160.2.2.2.2.2.2.2 = some (174, (.aload 6), 2, 0, 0) := by decide +kernel
theorem gx160_176 : aF 176 zM160.2.2.2.2.2.2.2 = some (176, (.getfield 208), 3, 8, 6) := by decide +kernel
theorem gx160_179 : aF 179 zM160.2.2.2.2.2.2.2 = some (179, (.iload 7), 2, 0, 0) := by decide +kernel
theorem gx160_181 : aF 181 zM160.2.2.2.2.2.2.2 = some (181, .iaload, 1, 0, 0) := by decide +kernel
theorem gx160_182 : aF 182 zM160.2.2.2.2.2.2.2 = some (182, (.invokevirtual 218), 3, 31, 0) := by decide +kernel
theorem gx160_185 : aF 185 zM160.2.2.2.2.2.2.2 = some (185, .ireturn, 1, 0, 0) := by decide +kernel
theorem gx160_76 : aF 76 zM160.2.2.2.2.2.2.2 = some (76, (.bipush (-2)), 2, 0, 0) := by decide +kernel
theorem gx160_78 : aF 78 zM160.2.2.2.2.2.2.2 = some (78, .ireturn, 1, 0, 0) := by decide +kernel
theorem gx161_0 : aF 0 zM161.2.2.2.2.2.2.2 = some (0, (.aload_n 0), 1, 0, 0) := by decide +kernel
theorem gx161_1 : aF 1 zM161.2.2.2.2.2.2.2 = some (1, (.getfield 12), 3, 11, 0) := by decide +kernel
theorem gx161_4 : aF 4 zM161.2.2.2.2.2.2.2 = some (4, (.iload_n 1), 1, 0, 0) := by decide +kernel
theorem gx161_5 : aF 5 zM161.2.2.2.2.2.2.2 = some (5, (.invokevirtual 121), 3, 75, 0) := by decide +kernel
theorem gx161_8 : aF 8 zM161.2.2.2.2.2.2.2 = some (8, (.ifCond .eq 33), 3, 41, 0) := by decide +kernel
theorem gx161_41 : aF 41 zM161.2.2.2.2.2.2.2 = some (41, (.iconst (-1)), 1, 0, 0) := by decide +kernel
theorem gx161_42 : aF 42 zM161.2.2.2.2.2.2.2 = some (42, .ireturn, 1, 0, 0) := by decide +kernel
theorem gx161_11 : aF 11 zM161.2.2.2.2.2.2.2 = some (11, (.aload_n 0), 1, 0, 0) := by decide +kernel
theorem gx161_12 : aF 12 zM161.2.2.2.2.2.2.2 = some (12, (.getfield 12), 3, 11, 0) := by decide +kernel
theorem gx161_15 : aF 15 zM161.2.2.2.2.2.2.2 = some (15, (.iload_n 2), 1, 0, 0) := by decide +kernel
theorem gx161_16 : aF 16 zM161.2.2.2.2.2.2.2 = some (16, (.invokevirtual 136), 3, 77, 0) := by decide +kernel
theorem gx161_19 : aF 19 zM161.2.2.2.2.2.2.2 = some (19, (.ifCond .eq 22), 3, 41, 0) := by decide +kernel
theorem gx161_22 : aF 22 zM161.2.2.2.2.2.2.2 = some (22, (.iload_n 3), 1, 0, 0) := by decide +kernel
theorem gx161_23 : aF 23 zM161.2.2.2.2.2.2.2 = some (23, (.invokestatic 187), 3, 139, 0) := by decide +kernel
theorem gx161_26 : aF 26 zM161.2.2.2.2.2.2.2 = some (26, (.ifCond .eq 15), 3, 41, 0) := by decide +kernel
theorem gx161_29 : aF 29 zM161.2.2.2.2.2.2.2 = some (29, (.iload 4), 2, 0, 0) := by decide +kernel
theorem gx161_31 : aF 31 zM161.2.2.2.2.2.2.2 = some (31, (.iconst 0), 1, 0, 0) := by decide +kernel
theorem gx161_32 : aF 32 zM161.2.2.2.2.2.2.2 = some (32, (.sipush 576), 3, 0, 0) := by decide +kernel
theorem gx161_35 : aF 35 zM161.2.2.2.2.2.2.2 = some (35, (.invokestatic 85), 3, 137, 0) := by decide +kernel
theorem gx161_38 : aF 38 zM161.2.2.2.2.2.2.2 = some (38, (.ifCond .ne 5), 3, 43, 0) := by decide +kernel
theorem gx161_43 : aF 43 zM161.2.2.2.2.2.2.2 = some (43, (.aload_n 0), 1, 0, 0) := by decide +kernel
theorem gx161_44 : aF 44 zM161.2.2.2.2.2.2.2 = some (44, (.getfield 44), 3, 11, 4) := by decide +kernel
theorem gx161_47 : aF 47 zM161.2.2.2.2.2.2.2 = some (47, (.iload_n 3), 1, 0, 0) := by decide +kernel
theorem gx161_48 : aF 48 zM161.2.2.2.2.2.2.2 = some (48, (.aload_n 0), 1, 0, 0) := by decide +kernel
theorem gx161_49 : aF 49 zM161.2.2.2.2.2.2.2 = some (49, (.getfield 12), 3, 11, 0) := by decide +kernel
theorem gx161_52 : aF 52 zM161.2.2.2.2.2.2.2 = some (52, (.getfield 93), 3, 6, 0) := by decide +kernel
theorem gx161_55 : aF 55 zM161.2.2.2.2.2.2.2 = some (55, (.invokevirtual 190), 3, 1, 0) := by decide +kernel
theorem gx161_58 : aF 58 zM161.2.2.2.2.2.2.2 = some (58, (.iload_n 1), 1, 0, 0) := by decide +kernel
theorem gx161_59 : aF 59 zM161.2.2.2.2.2.2.2 = some (59, (.iload_n 2), 1, 0, 0) := by decide +kernel
theorem gx161_60 : aF 60 zM161.2.2.2.2.2.2.2 = some (60, (.invokevirtual 194), 3, 98, 0) := by decide +kernel
theorem gx161_63 : aF 63 zM161.2.2.2.2.2.2.2 = some (63, (.iconst (-1)), 1, 0, 0) := by decide +kernel
theorem gx161_64 : aF 64 zM161.2.2.2.2.2.2.2 = some (64, (.if_icmp .ne 6), 3, 70, 0) := by decide +kernel
theorem gx161_70 : aF 70 zM161.2.2.2.2.2.2.2 = some (70, (.aload_n 0), 1, 0, 0) := by decide +kernel
theorem gx161_71 : aF 71 zM161.2.2.2.2.2.2.2 = some (71, (.getfield 28), 3, 11, 2) := by decide +kernel
theorem gx161_74 : aF 74 zM161.2.2.2.2.2.2.2 = some (74, (.getfield 221), 3, 2, 3) := by decide +kernel
theorem gx161_77 : aF 77 zM161.2.2.2.2.2.2.2 = some (77, (.sipush 200), 3, 0, 0) := by decide +kernel
theorem gx161_80 : aF 80 zM161.2.2.2.2.2.2.2 = some (80, (.if_icmp .lt 8), 3, 88, 0) := by decide +kernel
theorem gx161_88 : aF 88 zM161.2.2.2.2.2.2.2 = some (88, (.aload_n 0), 1, 0, 0) := by decide +kernel
theorem gx161_89 : aF 89 zM161.2.2.2.2.2.2.2 = some (89, (.getfield 28), 3, 11, 2) := by decide +kernel
theorem gx161_92 : aF 92 zM161.2.2.2.2.2.2.2 = some (92, (.iload_n 1), 1, 0, 0) := by decide +kernel
theorem gx161_93 : aF 93 zM161.2.2.2.2.2.2.2 = some (93, (.iload_n 2), 1, 0, 0) := by decide +kernel
theorem gx161_94 : aF 94 zM161.2.2.2.2.2.2.2 = some (94, (.iload_n 3), 1, 0, 0) := by decide +kernel
theorem gx161_95 : aF 95 zM161.2.2.2.2.2.2.2 = some (95, (.iload 4), 2, 0, 0) := by decide +kernel
theorem gx161_97 : aF 97 zM161.2.2.2.2.2.2.2 = some (97, (.invokevirtual 224), 3, 34, 0) := by decide +kernel
theorem gx161_100 : aF 100 zM161.2.2.2.2.2.2.2 = some (100, .ireturn, 1, 0, 0) := by decide +kernel
theorem gx161_83 : aF 83 zM161.2.2.2.2.2.2.2 = some (83, (.bipush (-3)), 2, 0, 0) := by decide +kernel
theorem gx161_85 : aF 85 zM161.2.2.2.2.2.2.2 = some (85, (.goto 15), 3, 100, 0) := by decide +kernel
theorem gx161_67 : aF 67 zM161.2.2.2.2.2.2.2 = some (67, (.bipush (-2)), 2, 0, 0) := by decide +kernel
theorem gx161_69 : aF 69 zM161.2.2.2.2.2.2.2 = some (69, .ireturn, 1, 0, 0) := by decide +kernel
def hs (h h' : aH) : Prop := h'.1.length = h.1.length ∧ hk h h'
theorem hs_t {a b c : aH} (p : hs a b) (q : hs b c) : hs a c := ⟨q.1.trans p.1, hk_t p.2 q.2⟩
def nwO (h : aH) (q : Nat) (h' : aH) : Prop := q = h.1.length ∧ (∀ c, c ≠ q → h'.1[c]? = h.1[c]?) ∧ h'.1.length = h.1.length + 1
theorem wS_new {h : aH} {ci s : Nat} {fs : List Value} (S : wS h) (hf : ∀ (i : Nat) v, fs[i]? = some v → aok (zY ci i) v = true) : wS (h.1 ++ [.inr (ci, fs)], s) := by
  obtain ⟨s1, s2, s3⟩ := S
  refine ⟨fun q ci' fs' i v e1 e2 => ?_, fun c i q e => ?_, fun c t' n' e => ?_⟩
  · by_cases z : q = h.1.length
    · subst z
      rw [show (h.1 ++ [Sum.inr (ci, fs)], s).1[h.1.length]? = some (Sum.inr (ci, fs)) from app_e] at e1
      cases e1
      exact hf i v e2
    · rw [show (h.1 ++ [Sum.inr (ci, fs)], s).1[q]? = h.1[q]? from app_r z] at e1
      exact s1 q ci' fs' i v e1 e2
  · obtain ⟨ci', fs', e1, e2⟩ := s2 c i q e
    exact ⟨ci', fs', app_l e1, e2⟩
  · have := s3 c t' n' e
    unfold tyA at this ⊢
    split at this
    · rename_i e1
      rw [show (h.1 ++ [Sum.inr (ci, fs)], s).1[c]? = _ from app_l e1]
      exact this
    · cases this
theorem dfl_ok {a : Nat} (hd : (List.range (zN a)).all (fun c => aok (zY a c) (defaultValue (zY a c))) = true) (i : Nat) (v : Value) (e : ((List.range (zN a)).map (fun c => defaultValue (zY a c)))[i]? = some v) : aok (zY a i) v = true := by
  rw [List.getElem?_map] at e
  cases hc : (List.range (zN a))[i]? with
  | none =>
    rw [hc] at e
    cases e
  | some c =>
    rw [hc] at e
    have e : some (defaultValue (zY a c)) = some v := e
    cases e
    obtain ⟨hl, hv⟩ := List.getElem?_eq_some_iff.mp hc
    rw [List.getElem_range] at hv
    subst hv
    rw [List.length_range] at hl
    exact List.all_eq_true.mp hd i (List.mem_range.mpr hl)
section PT8
variable {n : Nat} {X : aX} {M : aM} {Q : Option Value → aH → Prop} {pc len a b : Nat} {l : aL} {st r : List Value} {h : aH} {A B : Int}
theorem pt_putIs {ix o : Nat} {x : Int32} (hf : aF pc M.2.2.2.2.2.2.2 = some (pc, (.putfield ix), len, a, b)) (S : wS h) (ho : 146 ≤ o) (ha : x.toInt = A) (k : ∀ h', wS h' → vw h' = up (vw h) o B A → hs h h' → Pt n X M (pc + 3) l r h' Q) (hB : ((b : Nat) : Int) = B := by rfl) : Pt (n + 1) X M pc l (.int x :: .ref o :: r) h Q := pt_s fun m hm d v h2 e => by
  obtain ⟨fs, e1, e2, e3, e4⟩ := i_put hf e
  exact k _ (wS_obj S e1 e2 (tkR_o ho b)) (by rw [vw_obj e1 e3, ← hB, ← ha]; rfl) ⟨List.length_set, hk_obj e1⟩ m hm d v h2 e4
theorem pt_putRs {ix o x : Nat} (hf : aF pc M.2.2.2.2.2.2.2 = some (pc, (.putfield ix), len, a, b)) (S : wS h) (ho : 146 ≤ o) (k : ∀ h', wS h' → vw h' = up (vw h) o B ((x : Nat) : Int) → hs h h' → Pt n X M (pc + 3) l r h' Q) (hB : ((b : Nat) : Int) = B := by rfl) : Pt (n + 1) X M pc l (.ref x :: .ref o :: r) h Q := pt_s fun m hm d v h2 e => by
  obtain ⟨fs, e1, e2, e3, e4⟩ := i_put hf e
  exact k _ (wS_obj S e1 e2 (tkR_o ho b)) (by rw [vw_obj e1 e3, ← hB]; rfl) ⟨List.length_set, hk_obj e1⟩ m hm d v h2 e4
theorem pt_obj {ix o : Nat} (hf : aF pc M.2.2.2.2.2.2.2 = some (pc, (.invokespecial ix), len, a, b)) (ha : a = 1000) (k : Pt n X M (pc + 3) l r h Q) : Pt (n + 1) X M pc l (.ref o :: r) h Q := pt_s fun m hm d v h2 e => by
  unfold arun at e
  simp only [hf] at e
  subst ha
  simp only [show Nat.beq 1000 1000 = true from rfl, cond_true] at e
  obtain ⟨d', v1, h1, -, e1, e2⟩ := i_back e
  cases e1
  exact k m hm d v h2 e2
theorem pt_newO {ix : Nat} (hf : aF pc M.2.2.2.2.2.2.2 = some (pc, (.new ix), len, a, b)) (S : wS h) (k : ∀ (q : Nat) (h' : aH), wS h' → nwO h q h' → Pt n X M (pc + 3) l (.ref q :: r) h' Q) (hd : (List.range (zN a)).all (fun c => aok (zY a c) (defaultValue (zY a c))) = true := by decide +kernel) : Pt (n + 1) X M pc l r h Q := pt_s fun m hm d v h2 e => by
  rw [arun_p hf rfl] at e
  simp only [aX1] at e
  exact k _ _ (wS_new S (dfl_ok hd)) ⟨rfl, fun c hc => app_r hc, by rw [List.length_append]; rfl⟩ m hm d v h2 e
theorem pt_aastO {o q N : Nat} {N' : Int} {j : Int32} (hf : aF pc M.2.2.2.2.2.2.2 = some (pc, .aastore, len, a, b)) (S : wS h) (tk : tkL o 4 N = true) (ha : j.toInt = A) (k : ∀ h', wS h' → 0 ≤ A → A < N' → vw h' = up (vw h) o A (q : Int) → (∀ c, c ≠ o → h'.1[c]? = h.1[c]?) → Pt n X M (pc + 1) l r h' Q) (hN : ((N : Nat) : Int) = N' := by rfl) : Pt (n + 1) X M pc l (.ref q :: .int j :: .ref o :: r) h Q := pt_s fun m hm d v h2 e => by
  rw [arun_p hf rfl] at e
  simp only [aX1, aarR] at e
  split at e
  · rename_i t0 N0 g hc
    obtain ⟨rfl, rfl⟩ := tk_n S tk hc
    simp only [Nat.reduceBEq, show Nat.beq 4 4 = true from rfl, cond_true, aobj] at e
    split at e
    · rename_i ci1 fs1 hc1
      cases ht : Nat.beq ci1 8 with
      | false => simp only [ht, cond_false] at e; cases e
      | true =>
        simp only [ht, cond_true] at e
        split at e
        · cases e
        · rename_i hj
          obtain ⟨q1, q2⟩ := ix_in hj
          rw [← Int32.toNat_toInt] at e
          subst ha
          refine k _ (wS_arr S hc) (by omega) (by omega) (vw_arr hc (by omega) (fun i => ?_)) (fun c hcc => ?_) m hm d v h2 e
          · unfold vA va_up
            dsimp only
            by_cases z : i = j.toInt.toNat
            · rw [if_pos z, if_pos z]
            · rw [if_neg z, if_neg z]
          · exact List.getElem?_set_ne (Ne.symm hcc)
    · cases e
  · cases e
theorem pt_aaldB {o N : Nat} {N' : Int} {j : Int32} (hf : aF pc M.2.2.2.2.2.2.2 = some (pc, .aaload, len, a, b)) (S : wS h) (tk : tkL o 4 N = true) (ha : j.toInt = A) (k0 : 0 ≤ A → A < N' → vw h o A = -1 → Pt n X M (pc + 1) l (.null :: r) h Q) (k1 : ∀ q : Nat, 0 ≤ A → A < N' → (q : Int) = vw h o A → Pt n X M (pc + 1) l (.ref q :: r) h Q) (hN : ((N : Nat) : Int) = N' := by rfl) : Pt (n + 1) X M pc l (.int j :: .ref o :: r) h Q := pt_s fun m hm d v h2 e => by
  rw [arun_p hf rfl] at e
  simp only [aX1, aarR] at e
  split at e
  · rename_i t N0 g hc
    obtain ⟨-, rfl⟩ := tk_n S tk hc
    cases ht : (Nat.beq t 4 || Nat.beq t 5) with
    | false => simp only [ht, cond_false] at e; cases e
    | true =>
      simp only [ht, cond_true] at e
      split at e
      · cases e
      · rename_i hj
        obtain ⟨q1, q2⟩ := ix_in hj
        rw [← Int32.toNat_toInt] at e
        subst ha
        have ev := vw_a hc q1
        unfold vA at ev
        dsimp only at ev
        cases hg : g j.toInt.toNat with
        | none =>
          rw [hg] at e ev
          exact k0 q1 (by omega) ev m hm d v h2 e
        | some q =>
          rw [hg] at e ev
          exact k1 q q1 (by omega) ev.symm m hm d v h2 e
  · cases e
theorem pt_init {ix o : Nat} {Y : aM} {as : List Value} {L1 : aL} {Qc : Option Value → aH → Prop} (hf : aF pc M.2.2.2.2.2.2.2 = some (pc, (.invokespecial ix), len, a, b)) (ha : Nat.beq a 1000 = false) (hY : zmt[a]? = some Y) (hk : Y.2.2.2.2.2.2.1 = 2) (hst : st = as.reverse ++ .ref o :: r) (hn : as.length = Y.2.2.2.2.2.1) (hL : aE Y.2.2.2.1 (.ref o :: as) = L1) (c : Pt n X Y 0 L1 [] h Qc) (k : ∀ v h1, Qc v h1 → Pt n X M (pc + 3) l (v.toList ++ r) h1 Q) : Pt (n + 1) X M pc l st h Q := pt_s fun m hm d v h2 e => by
  unfold arun at e
  simp only [hf] at e
  subst hst
  subst hL
  simp only [ha, cond_false, hY, show Nat.beq Y.2.2.2.2.2.2.1 2 = true from by rw [hk]; rfl, cond_true, acut_eq hn, aent] at e
  cases hw : Nat.ble (aws (.ref o :: as)) Y.2.2.2.1 with
  | false => simp only [hw, cond_false] at e; cases e
  | true =>
    simp only [hw, cond_true] at e
    obtain ⟨d', v1, h1, -, e1, e2⟩ := i_back e
    exact k v1 h1 (c m hm d' v1 h1 e1) m hm d v h2 e2
end PT8
theorem nwI_len {h : aH} {q t N : Nat} {h' : aH} (w : nwI h q t N h') : h'.1.length = h.1.length + 1 := by
  obtain ⟨rfl, -, w2, a, w3, -⟩ := w
  obtain ⟨l1, -⟩ := List.getElem?_eq_some_iff.mp w3
  have : h'.1[h.1.length + 1]? = none := by
    rw [w2 _ (by omega)]
    exact List.getElem?_eq_none (by omega)
  have l2 := List.getElem?_eq_none_iff.mp this
  omega
theorem nwI_vw {h : aH} {q t N : Nat} {h' : aH} (w : nwI h q t N h') : vw h' = vw h := by
  obtain ⟨e, w1, w2, a, w3, w4⟩ := w
  funext c j
  by_cases z : c = q
  · subst z
    unfold vw
    rw [w1, w3]
    split
    · rfl
    · exact w4 _
  · unfold vw
    rw [w2 c z]
theorem nwI_hk {h : aH} {q t N : Nat} {h' : aH} (w : nwI h q t N h') : hk h h' := fun c t' N' y e => by
  obtain ⟨-, w1, w2, -⟩ := w
  by_cases z : c = q
  · rw [z, w1] at e
    cases e
  · exact ⟨y, (w2 c z).trans e⟩
theorem nwI_k {h : aH} {q t N : Nat} {h' : aH} (w : nwI h q t N h') : ∃ y, h'.1[q]? = some (.inl (t, N, y)) := by
  obtain ⟨-, -, -, a, w3, -⟩ := w
  exact ⟨a, w3⟩
theorem nwO_vw {h : aH} {q : Nat} {h' : aH} (w : nwO h q h') {c : Nat} {j : Int} (n : c ≠ q) : vw h' c j = vw h c j := by
  unfold vw
  rw [w.2.1 c n]
theorem nwO_hk {h : aH} {q : Nat} {h' : aH} (w : nwO h q h') : hk h h' := fun c t' N' y e => by
  by_cases z : c = q
  · rw [z, w.1, List.getElem?_eq_none (Nat.le_refl _)] at e
    cases e
  · exact ⟨y, (w.2.1 c z).trans e⟩


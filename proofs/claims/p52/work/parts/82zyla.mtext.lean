-- ===== the model makes and finds texts =====
theorem tl_119 : tkL 119 0 17 = true := by decide +kernel
theorem tl_120 : tkL 120 0 1530 = true := by decide +kernel
theorem tl_121 : tkL 121 0 1530 = true := by decide +kernel
theorem tl_116 : tkL 116 0 16 = true := by decide +kernel
theorem tl_117 : tkL 117 0 16 = true := by decide +kernel
theorem tl_118 : tkL 118 0 16 = true := by decide +kernel
theorem tr_72_59 : tkR 72 59 119 = true := by decide +kernel
theorem tr_72_60 : tkR 72 60 120 = true := by decide +kernel
theorem tr_72_61 : tkR 72 61 121 = true := by decide +kernel
theorem tr_72_56 : tkR 72 56 116 = true := by decide +kernel
theorem tr_72_57 : tkR 72 57 117 = true := by decide +kernel
theorem tr_72_58 : tkR 72 58 118 = true := by decide +kernel
theorem gx262_0 : aF 0 zM262.2.2.2.2.2.2.2 = some (0, (.bipush 90), 2, 0, 0) := by decide +kernel
theorem gx262_2 : aF 2 zM262.2.2.2.2.2.2.2 = some (2, (.aload_n 0), 1, 0, 0) := by decide +kernel
theorem gx262_3 : aF 3 zM262.2.2.2.2.2.2.2 = some (3, (.getfield 400), 3, 12, 67) := by decide +kernel
theorem gx262_6 : aF 6 zM262.2.2.2.2.2.2.2 = some (6, .imul, 1, 0, 0) := by decide +kernel
theorem gx262_7 : aF 7 zM262.2.2.2.2.2.2.2 = some (7, (.aload_n 0), 1, 0, 0) := by decide +kernel
theorem gx262_8 : aF 8 zM262.2.2.2.2.2.2.2 = some (8, (.getfield 161), 3, 12, 59) := by decide +kernel
theorem gx262_11 : aF 11 zM262.2.2.2.2.2.2.2 = some (11, (.aload_n 0), 1, 0, 0) := by decide +kernel
theorem gx262_12 : aF 12 zM262.2.2.2.2.2.2.2 = some (12, (.getfield 400), 3, 12, 67) := by decide +kernel
theorem gx262_15 : aF 15 zM262.2.2.2.2.2.2.2 = some (15, .iaload, 1, 0, 0) := by decide +kernel
theorem gx262_16 : aF 16 zM262.2.2.2.2.2.2.2 = some (16, .iadd, 1, 0, 0) := by decide +kernel
theorem gx262_17 : aF 17 zM262.2.2.2.2.2.2.2 = some (17, (.istore_n 1), 1, 0, 0) := by decide +kernel
theorem gx262_18 : aF 18 zM262.2.2.2.2.2.2.2 = some (18, (.aload_n 0), 1, 0, 0) := by decide +kernel
theorem gx262_19 : aF 19 zM262.2.2.2.2.2.2.2 = some (19, (.getfield 403), 3, 12, 68) := by decide +kernel
theorem gx262_22 : aF 22 zM262.2.2.2.2.2.2.2 = some (22, (.istore_n 2), 1, 0, 0) := by decide +kernel
theorem gx262_23 : aF 23 zM262.2.2.2.2.2.2.2 = some (23, (.aload_n 0), 1, 0, 0) := by decide +kernel
theorem gx262_24 : aF 24 zM262.2.2.2.2.2.2.2 = some (24, (.invokevirtual 427), 3, 261, 0) := by decide +kernel
theorem gx262_27 : aF 27 zM262.2.2.2.2.2.2.2 = some (27, (.aload_n 0), 1, 0, 0) := by decide +kernel
theorem gx262_28 : aF 28 zM262.2.2.2.2.2.2.2 = some (28, (.getfield 164), 3, 12, 60) := by decide +kernel
theorem gx262_31 : aF 31 zM262.2.2.2.2.2.2.2 = some (31, (.iload_n 1), 1, 0, 0) := by decide +kernel
theorem gx262_32 : aF 32 zM262.2.2.2.2.2.2.2 = some (32, (.iload_n 2), 1, 0, 0) := by decide +kernel
theorem gx262_33 : aF 33 zM262.2.2.2.2.2.2.2 = some (33, .iastore, 1, 0, 0) := by decide +kernel
theorem gx262_34 : aF 34 zM262.2.2.2.2.2.2.2 = some (34, (.aload_n 0), 1, 0, 0) := by decide +kernel
theorem gx262_35 : aF 35 zM262.2.2.2.2.2.2.2 = some (35, (.getfield 397), 3, 12, 65) := by decide +kernel
theorem gx262_38 : aF 38 zM262.2.2.2.2.2.2.2 = some (38, (.ifCond .ge 36), 3, 74, 0) := by decide +kernel
theorem gx262_74 : aF 74 zM262.2.2.2.2.2.2.2 = some (74, (.aload_n 0), 1, 0, 0) := by decide +kernel
theorem gx262_75 : aF 75 zM262.2.2.2.2.2.2.2 = some (75, (.getfield 167), 3, 12, 61) := by decide +kernel
theorem gx262_78 : aF 78 zM262.2.2.2.2.2.2.2 = some (78, (.iload_n 1), 1, 0, 0) := by decide +kernel
theorem gx262_79 : aF 79 zM262.2.2.2.2.2.2.2 = some (79, (.aload_n 0), 1, 0, 0) := by decide +kernel
theorem gx262_80 : aF 80 zM262.2.2.2.2.2.2.2 = some (80, (.getfield 403), 3, 12, 68) := by decide +kernel
theorem gx262_83 : aF 83 zM262.2.2.2.2.2.2.2 = some (83, .iastore, 1, 0, 0) := by decide +kernel
theorem gx262_84 : aF 84 zM262.2.2.2.2.2.2.2 = some (84, (.aload_n 0), 1, 0, 0) := by decide +kernel
theorem gx262_85 : aF 85 zM262.2.2.2.2.2.2.2 = some (85, (.getfield 161), 3, 12, 59) := by decide +kernel
theorem gx262_88 : aF 88 zM262.2.2.2.2.2.2.2 = some (88, (.aload_n 0), 1, 0, 0) := by decide +kernel
theorem gx262_89 : aF 89 zM262.2.2.2.2.2.2.2 = some (89, (.getfield 400), 3, 12, 67) := by decide +kernel
theorem gx262_92 : aF 92 zM262.2.2.2.2.2.2.2 = some (92, .dup2, 1, 0, 0) := by decide +kernel
theorem gx262_93 : aF 93 zM262.2.2.2.2.2.2.2 = some (93, .iaload, 1, 0, 0) := by decide +kernel
theorem gx262_94 : aF 94 zM262.2.2.2.2.2.2.2 = some (94, (.iconst 1), 1, 0, 0) := by decide +kernel
theorem gx262_95 : aF 95 zM262.2.2.2.2.2.2.2 = some (95, .iadd, 1, 0, 0) := by decide +kernel
theorem gx262_96 : aF 96 zM262.2.2.2.2.2.2.2 = some (96, .iastore, 1, 0, 0) := by decide +kernel
theorem gx262_97 : aF 97 zM262.2.2.2.2.2.2.2 = some (97, .return_, 1, 0, 0) := by decide +kernel
theorem gx262_41 : aF 41 zM262.2.2.2.2.2.2.2 = some (41, (.aload_n 0), 1, 0, 0) := by decide +kernel
theorem gx262_42 : aF 42 zM262.2.2.2.2.2.2.2 = some (42, (.invokevirtual 412), 3, 251, 0) := by decide +kernel
theorem gx262_45 : aF 45 zM262.2.2.2.2.2.2.2 = some (45, (.bipush 63), 2, 0, 0) := by decide +kernel
theorem gx262_47 : aF 47 zM262.2.2.2.2.2.2.2 = some (47, (.if_icmp .ne 27), 3, 74, 0) := by decide +kernel
theorem gx262_50 : aF 50 zM262.2.2.2.2.2.2.2 = some (50, (.aload_n 0), 1, 0, 0) := by decide +kernel
theorem gx262_51 : aF 51 zM262.2.2.2.2.2.2.2 = some (51, .dup, 1, 0, 0) := by decide +kernel
theorem gx262_52 : aF 52 zM262.2.2.2.2.2.2.2 = some (52, (.getfield 394), 3, 12, 64) := by decide +kernel
theorem gx262_55 : aF 55 zM262.2.2.2.2.2.2.2 = some (55, (.iconst 1), 1, 0, 0) := by decide +kernel
theorem gx262_56 : aF 56 zM262.2.2.2.2.2.2.2 = some (56, .iadd, 1, 0, 0) := by decide +kernel
theorem gx262_57 : aF 57 zM262.2.2.2.2.2.2.2 = some (57, (.putfield 394), 3, 12, 64) := by decide +kernel
theorem gx262_60 : aF 60 zM262.2.2.2.2.2.2.2 = some (60, (.aload_n 0), 1, 0, 0) := by decide +kernel
theorem gx262_61 : aF 61 zM262.2.2.2.2.2.2.2 = some (61, (.getfield 164), 3, 12, 60) := by decide +kernel
theorem gx262_64 : aF 64 zM262.2.2.2.2.2.2.2 = some (64, (.iload_n 1), 1, 0, 0) := by decide +kernel
theorem gx262_65 : aF 65 zM262.2.2.2.2.2.2.2 = some (65, (.aload_n 0), 1, 0, 0) := by decide +kernel
theorem gx262_66 : aF 66 zM262.2.2.2.2.2.2.2 = some (66, (.getfield 403), 3, 12, 68) := by decide +kernel
theorem gx262_69 : aF 69 zM262.2.2.2.2.2.2.2 = some (69, .iastore, 1, 0, 0) := by decide +kernel
theorem gx262_70 : aF 70 zM262.2.2.2.2.2.2.2 = some (70, (.aload_n 0), 1, 0, 0) := by decide +kernel
theorem gx262_71 : aF 71 zM262.2.2.2.2.2.2.2 = some (71, (.invokevirtual 427), 3, 261, 0) := by decide +kernel
theorem gx263_0 : aF 0 zM263.2.2.2.2.2.2.2 = some (0, (.iload_n 0), 1, 0, 0) := by decide +kernel
theorem gx263_1 : aF 1 zM263.2.2.2.2.2.2.2 = some (1, (.iconst 0), 1, 0, 0) := by decide +kernel
theorem gx263_2 : aF 2 zM263.2.2.2.2.2.2.2 = some (2, (.bipush 33), 2, 0, 0) := by decide +kernel
theorem gx263_4 : aF 4 zM263.2.2.2.2.2.2.2 = some (4, (.invokestatic 258), 3, 196, 0) := by decide +kernel
theorem gx263_7 : aF 7 zM263.2.2.2.2.2.2.2 = some (7, (.ifCond .eq 15), 3, 22, 0) := by decide +kernel
theorem gx263_22 : aF 22 zM263.2.2.2.2.2.2.2 = some (22, (.iconst 0), 1, 0, 0) := by decide +kernel
theorem gx263_23 : aF 23 zM263.2.2.2.2.2.2.2 = some (23, .ireturn, 1, 0, 0) := by decide +kernel
theorem gx263_10 : aF 10 zM263.2.2.2.2.2.2.2 = some (10, (.iload_n 0), 1, 0, 0) := by decide +kernel
theorem gx263_11 : aF 11 zM263.2.2.2.2.2.2.2 = some (11, (.bipush 10), 2, 0, 0) := by decide +kernel
theorem gx263_13 : aF 13 zM263.2.2.2.2.2.2.2 = some (13, .irem, 1, 0, 0) := by decide +kernel
theorem gx263_14 : aF 14 zM263.2.2.2.2.2.2.2 = some (14, (.iconst 3), 1, 0, 0) := by decide +kernel
theorem gx263_15 : aF 15 zM263.2.2.2.2.2.2.2 = some (15, (.if_icmp .gt 7), 3, 22, 0) := by decide +kernel
theorem gx263_18 : aF 18 zM263.2.2.2.2.2.2.2 = some (18, (.iconst 1), 1, 0, 0) := by decide +kernel
theorem gx263_19 : aF 19 zM263.2.2.2.2.2.2.2 = some (19, (.goto 4), 3, 23, 0) := by decide +kernel
theorem gx264_0 : aF 0 zM264.2.2.2.2.2.2.2 = some (0, (.iload_n 1), 1, 0, 0) := by decide +kernel
theorem gx264_1 : aF 1 zM264.2.2.2.2.2.2.2 = some (1, (.invokestatic 442), 3, 263, 0) := by decide +kernel
theorem gx264_4 : aF 4 zM264.2.2.2.2.2.2.2 = some (4, (.ifCond .eq 10), 3, 14, 0) := by decide +kernel
theorem gx264_14 : aF 14 zM264.2.2.2.2.2.2.2 = some (14, (.iconst (-1)), 1, 0, 0) := by decide +kernel
theorem gx264_15 : aF 15 zM264.2.2.2.2.2.2.2 = some (15, .ireturn, 1, 0, 0) := by decide +kernel
theorem gx264_7 : aF 7 zM264.2.2.2.2.2.2.2 = some (7, (.iload_n 2), 1, 0, 0) := by decide +kernel
theorem gx264_8 : aF 8 zM264.2.2.2.2.2.2.2 = some (8, (.invokestatic 372), 3, 198, 0) := by decide +kernel
theorem gx264_11 : aF 11 zM264.2.2.2.2.2.2.2 = some (11, (.ifCond .ne 5), 3, 16, 0) := by decide +kernel
theorem gx264_16 : aF 16 zM264.2.2.2.2.2.2.2 = some (16, (.aload_n 0), 1, 0, 0) := by decide +kernel
theorem gx264_17 : aF 17 zM264.2.2.2.2.2.2.2 = some (17, (.getfield 445), 3, 12, 55) := by decide +kernel
theorem gx264_20 : aF 20 zM264.2.2.2.2.2.2.2 = some (20, (.bipush 16), 2, 0, 0) := by decide +kernel
theorem gx264_22 : aF 22 zM264.2.2.2.2.2.2.2 = some (22, (.if_icmp .ne 6), 3, 28, 0) := by decide +kernel
theorem gx264_28 : aF 28 zM264.2.2.2.2.2.2.2 = some (28, (.aload_n 0), 1, 0, 0) := by decide +kernel
theorem gx264_29 : aF 29 zM264.2.2.2.2.2.2.2 = some (29, (.aload_n 0), 1, 0, 0) := by decide +kernel
theorem gx264_30 : aF 30 zM264.2.2.2.2.2.2.2 = some (30, (.getfield 445), 3, 12, 55) := by decide +kernel
theorem gx264_33 : aF 33 zM264.2.2.2.2.2.2.2 = some (33, (.putfield 400), 3, 12, 67) := by decide +kernel
theorem gx264_36 : aF 36 zM264.2.2.2.2.2.2.2 = some (36, (.aload_n 0), 1, 0, 0) := by decide +kernel
theorem gx264_37 : aF 37 zM264.2.2.2.2.2.2.2 = some (37, (.getfield 161), 3, 12, 59) := by decide +kernel
theorem gx264_40 : aF 40 zM264.2.2.2.2.2.2.2 = some (40, (.aload_n 0), 1, 0, 0) := by decide +kernel
theorem gx264_41 : aF 41 zM264.2.2.2.2.2.2.2 = some (41, (.getfield 400), 3, 12, 67) := by decide +kernel
theorem gx264_44 : aF 44 zM264.2.2.2.2.2.2.2 = some (44, (.iconst 0), 1, 0, 0) := by decide +kernel
theorem gx264_45 : aF 45 zM264.2.2.2.2.2.2.2 = some (45, .iastore, 1, 0, 0) := by decide +kernel
theorem gx264_46 : aF 46 zM264.2.2.2.2.2.2.2 = some (46, (.aload_n 0), 1, 0, 0) := by decide +kernel
theorem gx264_47 : aF 47 zM264.2.2.2.2.2.2.2 = some (47, (.iconst 0), 1, 0, 0) := by decide +kernel
theorem gx264_48 : aF 48 zM264.2.2.2.2.2.2.2 = some (48, (.putfield 403), 3, 12, 68) := by decide +kernel
theorem gx264_51 : aF 51 zM264.2.2.2.2.2.2.2 = some (51, (.aload_n 0), 1, 0, 0) := by decide +kernel
theorem gx264_52 : aF 52 zM264.2.2.2.2.2.2.2 = some (52, (.iconst 0), 1, 0, 0) := by decide +kernel
theorem gx264_53 : aF 53 zM264.2.2.2.2.2.2.2 = some (53, (.putfield 394), 3, 12, 64) := by decide +kernel
theorem gx264_56 : aF 56 zM264.2.2.2.2.2.2.2 = some (56, (.aload_n 0), 1, 0, 0) := by decide +kernel
theorem gx264_57 : aF 57 zM264.2.2.2.2.2.2.2 = some (57, (.iconst (-1)), 1, 0, 0) := by decide +kernel
theorem gx264_58 : aF 58 zM264.2.2.2.2.2.2.2 = some (58, (.putfield 397), 3, 12, 65) := by decide +kernel
theorem gx264_61 : aF 61 zM264.2.2.2.2.2.2.2 = some (61, (.aload_n 0), 1, 0, 0) := by decide +kernel
theorem gx264_62 : aF 62 zM264.2.2.2.2.2.2.2 = some (62, (.iconst 0), 1, 0, 0) := by decide +kernel
theorem gx264_63 : aF 63 zM264.2.2.2.2.2.2.2 = some (63, (.putfield 406), 3, 12, 66) := by decide +kernel
theorem gx264_66 : aF 66 zM264.2.2.2.2.2.2.2 = some (66, (.aload_n 0), 1, 0, 0) := by decide +kernel
theorem gx264_67 : aF 67 zM264.2.2.2.2.2.2.2 = some (67, (.invokevirtual 448), 3, 262, 0) := by decide +kernel
theorem gx264_25 : aF 25 zM264.2.2.2.2.2.2.2 = some (25, (.bipush (-3)), 2, 0, 0) := by decide +kernel
theorem gx264_27 : aF 27 zM264.2.2.2.2.2.2.2 = some (27, .ireturn, 1, 0, 0) := by decide +kernel
theorem gx264_70 : aF 70 zM264.2.2.2.2.2.2.2 = some (70, (.aload_n 0), 1, 0, 0) := by decide +kernel
theorem gx264_71 : aF 71 zM264.2.2.2.2.2.2.2 = some (71, (.getfield 397), 3, 12, 65) := by decide +kernel
theorem gx264_74 : aF 74 zM264.2.2.2.2.2.2.2 = some (74, (.ifCond .ge 29), 3, 103, 0) := by decide +kernel
theorem gx264_77 : aF 77 zM264.2.2.2.2.2.2.2 = some (77, (.aload_n 0), 1, 0, 0) := by decide +kernel
theorem gx264_78 : aF 78 zM264.2.2.2.2.2.2.2 = some (78, (.invokevirtual 412), 3, 251, 0) := by decide +kernel
theorem gx264_81 : aF 81 zM264.2.2.2.2.2.2.2 = some (81, (.bipush 59), 2, 0, 0) := by decide +kernel
theorem gx264_83 : aF 83 zM264.2.2.2.2.2.2.2 = some (83, (.if_icmp .ne 20), 3, 103, 0) := by decide +kernel
theorem gx264_86 : aF 86 zM264.2.2.2.2.2.2.2 = some (86, (.aload_n 0), 1, 0, 0) := by decide +kernel
theorem gx264_87 : aF 87 zM264.2.2.2.2.2.2.2 = some (87, .dup, 1, 0, 0) := by decide +kernel
theorem gx264_88 : aF 88 zM264.2.2.2.2.2.2.2 = some (88, (.getfield 394), 3, 12, 64) := by decide +kernel
theorem gx264_91 : aF 91 zM264.2.2.2.2.2.2.2 = some (91, (.iconst 1), 1, 0, 0) := by decide +kernel
theorem gx264_92 : aF 92 zM264.2.2.2.2.2.2.2 = some (92, .iadd, 1, 0, 0) := by decide +kernel
theorem gx264_93 : aF 93 zM264.2.2.2.2.2.2.2 = some (93, (.putfield 394), 3, 12, 64) := by decide +kernel
theorem gx264_96 : aF 96 zM264.2.2.2.2.2.2.2 = some (96, (.aload_n 0), 1, 0, 0) := by decide +kernel
theorem gx264_97 : aF 97 zM264.2.2.2.2.2.2.2 = some (97, (.invokevirtual 448), 3, 262, 0) := by decide +kernel
theorem gx264_100 : aF 100 zM264.2.2.2.2.2.2.2 = some (100, (.goto (-30)), 3, 70, 0) := by decide +kernel
theorem gx264_103 : aF 103 zM264.2.2.2.2.2.2.2 = some (103, (.aload_n 0), 1, 0, 0) := by decide +kernel
theorem gx264_104 : aF 104 zM264.2.2.2.2.2.2.2 = some (104, (.getfield 397), 3, 12, 65) := by decide +kernel
theorem gx264_107 : aF 107 zM264.2.2.2.2.2.2.2 = some (107, (.ifCond .ge 18), 3, 125, 0) := by decide +kernel
theorem gx264_110 : aF 110 zM264.2.2.2.2.2.2.2 = some (110, (.aload_n 0), 1, 0, 0) := by decide +kernel
theorem gx264_111 : aF 111 zM264.2.2.2.2.2.2.2 = some (111, (.getfield 394), 3, 12, 64) := by decide +kernel
theorem gx264_114 : aF 114 zM264.2.2.2.2.2.2.2 = some (114, (.aload_n 0), 1, 0, 0) := by decide +kernel
theorem gx264_115 : aF 115 zM264.2.2.2.2.2.2.2 = some (115, (.getfield 391), 3, 12, 54) := by decide +kernel
theorem gx264_118 : aF 118 zM264.2.2.2.2.2.2.2 = some (118, (.if_icmp .ge 7), 3, 125, 0) := by decide +kernel
theorem gx264_121 : aF 121 zM264.2.2.2.2.2.2.2 = some (121, (.aload_n 0), 1, 0, 0) := by decide +kernel
theorem gx264_122 : aF 122 zM264.2.2.2.2.2.2.2 = some (122, (.invokevirtual 409), 3, 252, 0) := by decide +kernel
theorem gx264_125 : aF 125 zM264.2.2.2.2.2.2.2 = some (125, (.aload_n 0), 1, 0, 0) := by decide +kernel
theorem gx264_126 : aF 126 zM264.2.2.2.2.2.2.2 = some (126, (.iconst 0), 1, 0, 0) := by decide +kernel
theorem gx264_127 : aF 127 zM264.2.2.2.2.2.2.2 = some (127, (.putfield 391), 3, 12, 54) := by decide +kernel
theorem gx264_130 : aF 130 zM264.2.2.2.2.2.2.2 = some (130, (.aload_n 0), 1, 0, 0) := by decide +kernel
theorem gx264_131 : aF 131 zM264.2.2.2.2.2.2.2 = some (131, (.getfield 397), 3, 12, 65) := by decide +kernel
theorem gx264_134 : aF 134 zM264.2.2.2.2.2.2.2 = some (134, (.ifCond .lt 11), 3, 145, 0) := by decide +kernel
theorem gx264_145 : aF 145 zM264.2.2.2.2.2.2.2 = some (145, (.aload_n 0), 1, 0, 0) := by decide +kernel
theorem gx264_146 : aF 146 zM264.2.2.2.2.2.2.2 = some (146, (.getfield 152), 3, 12, 56) := by decide +kernel
theorem gx264_149 : aF 149 zM264.2.2.2.2.2.2.2 = some (149, (.aload_n 0), 1, 0, 0) := by decide +kernel
theorem gx264_150 : aF 150 zM264.2.2.2.2.2.2.2 = some (150, (.getfield 445), 3, 12, 55) := by decide +kernel
theorem gx264_153 : aF 153 zM264.2.2.2.2.2.2.2 = some (153, (.iload_n 1), 1, 0, 0) := by decide +kernel
theorem gx264_154 : aF 154 zM264.2.2.2.2.2.2.2 = some (154, .iastore, 1, 0, 0) := by decide +kernel
theorem gx264_155 : aF 155 zM264.2.2.2.2.2.2.2 = some (155, (.aload_n 0), 1, 0, 0) := by decide +kernel
theorem gx264_156 : aF 156 zM264.2.2.2.2.2.2.2 = some (156, (.getfield 155), 3, 12, 57) := by decide +kernel
theorem gx264_159 : aF 159 zM264.2.2.2.2.2.2.2 = some (159, (.aload_n 0), 1, 0, 0) := by decide +kernel
theorem gx264_160 : aF 160 zM264.2.2.2.2.2.2.2 = some (160, (.getfield 445), 3, 12, 55) := by decide +kernel
theorem gx264_163 : aF 163 zM264.2.2.2.2.2.2.2 = some (163, (.aload_n 0), 1, 0, 0) := by decide +kernel
theorem gx264_164 : aF 164 zM264.2.2.2.2.2.2.2 = some (164, (.getfield 262), 3, 12, 1) := by decide +kernel
theorem gx264_167 : aF 167 zM264.2.2.2.2.2.2.2 = some (167, .iastore, 1, 0, 0) := by decide +kernel
theorem gx264_168 : aF 168 zM264.2.2.2.2.2.2.2 = some (168, (.aload_n 0), 1, 0, 0) := by decide +kernel
theorem gx264_169 : aF 169 zM264.2.2.2.2.2.2.2 = some (169, (.getfield 158), 3, 12, 58) := by decide +kernel
theorem gx264_172 : aF 172 zM264.2.2.2.2.2.2.2 = some (172, (.aload_n 0), 1, 0, 0) := by decide +kernel
theorem gx264_173 : aF 173 zM264.2.2.2.2.2.2.2 = some (173, (.getfield 445), 3, 12, 55) := by decide +kernel
theorem gx264_176 : aF 176 zM264.2.2.2.2.2.2.2 = some (176, (.iload_n 2), 1, 0, 0) := by decide +kernel
theorem gx264_177 : aF 177 zM264.2.2.2.2.2.2.2 = some (177, .iastore, 1, 0, 0) := by decide +kernel
theorem gx264_178 : aF 178 zM264.2.2.2.2.2.2.2 = some (178, (.aload_n 0), 1, 0, 0) := by decide +kernel
theorem gx264_179 : aF 179 zM264.2.2.2.2.2.2.2 = some (179, .dup, 1, 0, 0) := by decide +kernel
theorem gx264_180 : aF 180 zM264.2.2.2.2.2.2.2 = some (180, (.getfield 445), 3, 12, 55) := by decide +kernel
theorem gx264_183 : aF 183 zM264.2.2.2.2.2.2.2 = some (183, (.iconst 1), 1, 0, 0) := by decide +kernel
theorem gx264_184 : aF 184 zM264.2.2.2.2.2.2.2 = some (184, .iadd, 1, 0, 0) := by decide +kernel
theorem gx264_185 : aF 185 zM264.2.2.2.2.2.2.2 = some (185, (.putfield 445), 3, 12, 55) := by decide +kernel
theorem gx264_188 : aF 188 zM264.2.2.2.2.2.2.2 = some (188, (.aload_n 0), 1, 0, 0) := by decide +kernel
theorem gx264_189 : aF 189 zM264.2.2.2.2.2.2.2 = some (189, (.getfield 445), 3, 12, 55) := by decide +kernel
theorem gx264_192 : aF 192 zM264.2.2.2.2.2.2.2 = some (192, (.iconst 1), 1, 0, 0) := by decide +kernel
theorem gx264_193 : aF 193 zM264.2.2.2.2.2.2.2 = some (193, .isub, 1, 0, 0) := by decide +kernel
theorem gx264_194 : aF 194 zM264.2.2.2.2.2.2.2 = some (194, .ireturn, 1, 0, 0) := by decide +kernel
theorem gx264_137 : aF 137 zM264.2.2.2.2.2.2.2 = some (137, (.bipush (-100)), 2, 0, 0) := by decide +kernel
theorem gx264_139 : aF 139 zM264.2.2.2.2.2.2.2 = some (139, (.aload_n 0), 1, 0, 0) := by decide +kernel
theorem gx264_140 : aF 140 zM264.2.2.2.2.2.2.2 = some (140, (.getfield 397), 3, 12, 65) := by decide +kernel
theorem gx264_143 : aF 143 zM264.2.2.2.2.2.2.2 = some (143, .isub, 1, 0, 0) := by decide +kernel
theorem gx264_144 : aF 144 zM264.2.2.2.2.2.2.2 = some (144, .ireturn, 1, 0, 0) := by decide +kernel
theorem gx265_0 : aF 0 zM265.2.2.2.2.2.2.2 = some (0, (.aload_n 0), 1, 0, 0) := by decide +kernel
theorem gx265_1 : aF 1 zM265.2.2.2.2.2.2.2 = some (1, (.getfield 445), 3, 12, 55) := by decide +kernel
theorem gx265_4 : aF 4 zM265.2.2.2.2.2.2.2 = some (4, (.iconst 1), 1, 0, 0) := by decide +kernel
theorem gx265_5 : aF 5 zM265.2.2.2.2.2.2.2 = some (5, .isub, 1, 0, 0) := by decide +kernel
theorem gx265_6 : aF 6 zM265.2.2.2.2.2.2.2 = some (6, (.istore 4), 2, 0, 0) := by decide +kernel
theorem gx265_8 : aF 8 zM265.2.2.2.2.2.2.2 = some (8, (.iload 4), 2, 0, 0) := by decide +kernel
theorem gx265_10 : aF 10 zM265.2.2.2.2.2.2.2 = some (10, (.ifCond .lt 45), 3, 55, 0) := by decide +kernel
theorem gx265_55 : aF 55 zM265.2.2.2.2.2.2.2 = some (55, (.bipush (-2)), 2, 0, 0) := by decide +kernel
theorem gx265_57 : aF 57 zM265.2.2.2.2.2.2.2 = some (57, .ireturn, 1, 0, 0) := by decide +kernel
theorem gx265_13 : aF 13 zM265.2.2.2.2.2.2.2 = some (13, (.aload_n 0), 1, 0, 0) := by decide +kernel
theorem gx265_14 : aF 14 zM265.2.2.2.2.2.2.2 = some (14, (.getfield 152), 3, 12, 56) := by decide +kernel
theorem gx265_17 : aF 17 zM265.2.2.2.2.2.2.2 = some (17, (.iload 4), 2, 0, 0) := by decide +kernel
theorem gx265_19 : aF 19 zM265.2.2.2.2.2.2.2 = some (19, .iaload, 1, 0, 0) := by decide +kernel
theorem gx265_20 : aF 20 zM265.2.2.2.2.2.2.2 = some (20, (.iload_n 1), 1, 0, 0) := by decide +kernel
theorem gx265_21 : aF 21 zM265.2.2.2.2.2.2.2 = some (21, (.if_icmp .ne 28), 3, 49, 0) := by decide +kernel
theorem gx265_49 : aF 49 zM265.2.2.2.2.2.2.2 = some (49, (.iinc 4 (-1)), 3, 0, 0) := by decide +kernel
theorem gx265_52 : aF 52 zM265.2.2.2.2.2.2.2 = some (52, (.goto (-44)), 3, 8, 0) := by decide +kernel
theorem gx265_24 : aF 24 zM265.2.2.2.2.2.2.2 = some (24, (.aload_n 0), 1, 0, 0) := by decide +kernel
theorem gx265_25 : aF 25 zM265.2.2.2.2.2.2.2 = some (25, (.getfield 155), 3, 12, 57) := by decide +kernel
theorem gx265_28 : aF 28 zM265.2.2.2.2.2.2.2 = some (28, (.iload 4), 2, 0, 0) := by decide +kernel
theorem gx265_30 : aF 30 zM265.2.2.2.2.2.2.2 = some (30, .iaload, 1, 0, 0) := by decide +kernel
theorem gx265_31 : aF 31 zM265.2.2.2.2.2.2.2 = some (31, (.iload_n 3), 1, 0, 0) := by decide +kernel
theorem gx265_32 : aF 32 zM265.2.2.2.2.2.2.2 = some (32, (.if_icmp .gt 17), 3, 49, 0) := by decide +kernel
theorem gx265_35 : aF 35 zM265.2.2.2.2.2.2.2 = some (35, (.aload_n 0), 1, 0, 0) := by decide +kernel
theorem gx265_36 : aF 36 zM265.2.2.2.2.2.2.2 = some (36, (.getfield 158), 3, 12, 58) := by decide +kernel
theorem gx265_39 : aF 39 zM265.2.2.2.2.2.2.2 = some (39, (.iload 4), 2, 0, 0) := by decide +kernel
theorem gx265_41 : aF 41 zM265.2.2.2.2.2.2.2 = some (41, .iaload, 1, 0, 0) := by decide +kernel
theorem gx265_42 : aF 42 zM265.2.2.2.2.2.2.2 = some (42, (.iload_n 2), 1, 0, 0) := by decide +kernel
theorem gx265_43 : aF 43 zM265.2.2.2.2.2.2.2 = some (43, (.if_icmp .gt 6), 3, 49, 0) := by decide +kernel
theorem gx265_46 : aF 46 zM265.2.2.2.2.2.2.2 = some (46, (.iload 4), 2, 0, 0) := by decide +kernel
theorem gx265_48 : aF 48 zM265.2.2.2.2.2.2.2 = some (48, .ireturn, 1, 0, 0) := by decide +kernel
theorem gx250_0 : aF 0 zM250.2.2.2.2.2.2.2 = some (0, (.iload_n 1), 1, 0, 0) := by decide +kernel
theorem gx250_1 : aF 1 zM250.2.2.2.2.2.2.2 = some (1, (.iconst 1), 1, 0, 0) := by decide +kernel
theorem gx250_2 : aF 2 zM250.2.2.2.2.2.2.2 = some (2, (.iconst 4), 1, 0, 0) := by decide +kernel
theorem gx250_3 : aF 3 zM250.2.2.2.2.2.2.2 = some (3, (.invokestatic 258), 3, 196, 0) := by decide +kernel
theorem gx250_6 : aF 6 zM250.2.2.2.2.2.2.2 = some (6, (.ifCond .ne 5), 3, 11, 0) := by decide +kernel
theorem gx250_11 : aF 11 zM250.2.2.2.2.2.2.2 = some (11, (.aload_n 0), 1, 0, 0) := by decide +kernel
theorem gx250_12 : aF 12 zM250.2.2.2.2.2.2.2 = some (12, (.getfield 391), 3, 12, 54) := by decide +kernel
theorem gx250_15 : aF 15 zM250.2.2.2.2.2.2.2 = some (15, (.iload_n 1), 1, 0, 0) := by decide +kernel
theorem gx250_16 : aF 16 zM250.2.2.2.2.2.2.2 = some (16, .iadd, 1, 0, 0) := by decide +kernel
theorem gx250_17 : aF 17 zM250.2.2.2.2.2.2.2 = some (17, (.sipush 160), 3, 0, 0) := by decide +kernel
theorem gx250_20 : aF 20 zM250.2.2.2.2.2.2.2 = some (20, (.if_icmp .le 6), 3, 26, 0) := by decide +kernel
theorem gx250_26 : aF 26 zM250.2.2.2.2.2.2.2 = some (26, (.iconst 0), 1, 0, 0) := by decide +kernel
theorem gx250_27 : aF 27 zM250.2.2.2.2.2.2.2 = some (27, (.istore_n 3), 1, 0, 0) := by decide +kernel
theorem gx250_23 : aF 23 zM250.2.2.2.2.2.2.2 = some (23, (.bipush (-3)), 2, 0, 0) := by decide +kernel
theorem gx250_25 : aF 25 zM250.2.2.2.2.2.2.2 = some (25, .ireturn, 1, 0, 0) := by decide +kernel
theorem gx250_9 : aF 9 zM250.2.2.2.2.2.2.2 = some (9, (.iconst (-1)), 1, 0, 0) := by decide +kernel
theorem gx250_10 : aF 10 zM250.2.2.2.2.2.2.2 = some (10, .ireturn, 1, 0, 0) := by decide +kernel
theorem gx250_28 : aF 28 zM250.2.2.2.2.2.2.2 = some (28, (.iload_n 3), 1, 0, 0) := by decide +kernel
theorem gx250_29 : aF 29 zM250.2.2.2.2.2.2.2 = some (29, (.iload_n 1), 1, 0, 0) := by decide +kernel
theorem gx250_30 : aF 30 zM250.2.2.2.2.2.2.2 = some (30, (.if_icmp .ge 35), 3, 65, 0) := by decide +kernel
theorem gx250_65 : aF 65 zM250.2.2.2.2.2.2.2 = some (65, (.aload_n 0), 1, 0, 0) := by decide +kernel
theorem gx250_66 : aF 66 zM250.2.2.2.2.2.2.2 = some (66, (.getfield 391), 3, 12, 54) := by decide +kernel
theorem gx250_69 : aF 69 zM250.2.2.2.2.2.2.2 = some (69, .ireturn, 1, 0, 0) := by decide +kernel
theorem gx250_33 : aF 33 zM250.2.2.2.2.2.2.2 = some (33, (.aload_n 0), 1, 0, 0) := by decide +kernel
theorem gx250_34 : aF 34 zM250.2.2.2.2.2.2.2 = some (34, (.getfield 148), 3, 12, 53) := by decide +kernel
theorem gx250_37 : aF 37 zM250.2.2.2.2.2.2.2 = some (37, (.aload_n 0), 1, 0, 0) := by decide +kernel
theorem gx250_38 : aF 38 zM250.2.2.2.2.2.2.2 = some (38, (.getfield 391), 3, 12, 54) := by decide +kernel
theorem gx250_41 : aF 41 zM250.2.2.2.2.2.2.2 = some (41, (.iload_n 2), 1, 0, 0) := by decide +kernel
theorem gx250_42 : aF 42 zM250.2.2.2.2.2.2.2 = some (42, (.bipush 8), 2, 0, 0) := by decide +kernel
theorem gx250_44 : aF 44 zM250.2.2.2.2.2.2.2 = some (44, (.iload_n 3), 1, 0, 0) := by decide +kernel
theorem gx250_45 : aF 45 zM250.2.2.2.2.2.2.2 = some (45, .imul, 1, 0, 0) := by decide +kernel
theorem gx250_46 : aF 46 zM250.2.2.2.2.2.2.2 = some (46, .ishr, 1, 0, 0) := by decide +kernel
theorem gx250_47 : aF 47 zM250.2.2.2.2.2.2.2 = some (47, .i2b, 1, 0, 0) := by decide +kernel
theorem gx250_48 : aF 48 zM250.2.2.2.2.2.2.2 = some (48, .bastore, 1, 0, 0) := by decide +kernel
theorem gx250_49 : aF 49 zM250.2.2.2.2.2.2.2 = some (49, (.aload_n 0), 1, 0, 0) := by decide +kernel
theorem gx250_50 : aF 50 zM250.2.2.2.2.2.2.2 = some (50, .dup, 1, 0, 0) := by decide +kernel
theorem gx250_51 : aF 51 zM250.2.2.2.2.2.2.2 = some (51, (.getfield 391), 3, 12, 54) := by decide +kernel
theorem gx250_54 : aF 54 zM250.2.2.2.2.2.2.2 = some (54, (.iconst 1), 1, 0, 0) := by decide +kernel
theorem gx250_55 : aF 55 zM250.2.2.2.2.2.2.2 = some (55, .iadd, 1, 0, 0) := by decide +kernel
theorem gx250_56 : aF 56 zM250.2.2.2.2.2.2.2 = some (56, (.putfield 391), 3, 12, 54) := by decide +kernel
theorem gx250_59 : aF 59 zM250.2.2.2.2.2.2.2 = some (59, (.iinc 3 1), 3, 0, 0) := by decide +kernel
theorem gx250_62 : aF 62 zM250.2.2.2.2.2.2.2 = some (62, (.goto (-34)), 3, 28, 0) := by decide +kernel
theorem d262_0 {n : Nat} {X : aX} {h : aH} {P : aH → Prop} (S : wS h) (H : (0 ≤ vw h 72 67 → vw h 72 67 < 17 → ((mpre (vw h)) ∧ ∀ (h_9 : aH), (wS h_9 ∧ mRes 8 (vw h) (vw h_9)) → (0 ≤ w32 ((w32 (90 * (vw h 72 67))) + (vw h 119 (vw h 72 67))) → w32 ((w32 (90 * (vw h 72 67))) + (vw h 119 (vw h 72 67))) < 1530 → ((0 ≤ vw h_9 72 65 → (0 ≤ vw h_9 72 67 → vw h_9 72 67 < 17 → ∀ h_22 : aH, wS h_22 → vw h_22 = up (up (up (vw h_9) 120 (w32 ((w32 (90 * (vw h 72 67))) + (vw h 119 (vw h 72 67)))) (vw h 72 68)) 121 (w32 ((w32 (90 * (vw h 72 67))) + (vw h 119 (vw h 72 67)))) (vw h_9 72 68)) 119 (vw h_9 72 67) (w32 ((vw h_9 119 (vw h_9 72 67)) + 1)) → P h_22)) ∧ (vw h_9 72 65 < 0 → ∀ h_11 : aH, wS h_11 → vw h_11 = up (vw h_9) 120 (w32 ((w32 (90 * (vw h 72 67))) + (vw h 119 (vw h 72 67)))) (vw h 72 68) → ((mL (vw h_11) ≠ 63 → (0 ≤ vw h_11 72 67 → vw h_11 72 67 < 17 → ∀ h_34 : aH, wS h_34 → vw h_34 = up (up (vw h_11) 121 (w32 ((w32 (90 * (vw h 72 67))) + (vw h 119 (vw h 72 67)))) (vw h_11 72 68)) 119 (vw h_11 72 67) (w32 ((vw h_11 119 (vw h_11 72 67)) + 1)) → P h_34)) ∧ (mL (vw h_11) = 63 → ∀ h_41 : aH, wS h_41 → vw h_41 = up (up (vw h_11) 72 64 (w32 ((vw h_11 72 64) + 1))) 120 (w32 ((w32 (90 * (vw h 72 67))) + (vw h 119 (vw h 72 67)))) (vw h_11 72 68) → ((mpre (vw h_41)) ∧ ∀ (h_42 : aH), (wS h_42 ∧ mRes 8 (vw h_41) (vw h_42)) → (0 ≤ vw h_42 72 67 → vw h_42 72 67 < 17 → ∀ h_51 : aH, wS h_51 → vw h_51 = up (up (vw h_42) 121 (w32 ((w32 (90 * (vw h 72 67))) + (vw h 119 (vw h 72 67)))) (vw h_42 72 68)) 119 (vw h_42 72 67) (w32 ((vw h_42 119 (vw h_42 72 67)) + 1)) → P h_51)))))))))) : Pt (n + 1) X zM262 0 [some (.ref 72), none, none] [] h (qN P) := by
  refine pt_bipush gx262_0 (fun v1 h1 => ?_)
  refine pt_d (pt_1 (fun n d => r_aloadn gx262_2 rfl) ?_)
  refine pt_d (pt_getI (B := 67) gx262_3 S (fun v2 h2 => ?_))
  refine pt_d (pt_imul gx262_6 h1 h2 (fun v3 h3 => ?_))
  refine pt_d (pt_1 (fun n d => r_aloadn gx262_7 rfl) ?_)
  refine pt_d (pt_getR gx262_8 S tr_72_59 ?_)
  refine pt_d (pt_1 (fun n d => r_aloadn gx262_11 rfl) ?_)
  refine pt_d (pt_getI (B := 67) gx262_12 S (fun v5 h5 => ?_))
  refine pt_d (pt_iald (N' := 17) gx262_15 S tl_119 h5 (fun v6 p6 q6 h6 => ?_))
  have H := H p6 q6
  refine pt_d (pt_iadd gx262_16 h3 h6 (fun v7 h7 => ?_))
  refine pt_d (pt_1 (fun n d => r_istoren (L' := [some (.ref 72), some (.int v7), none]) gx262_17 rfl rfl) ?_)
  refine pt_d (pt_1 (fun n d => r_aloadn gx262_18 rfl) ?_)
  refine pt_d (pt_getI (B := 68) gx262_19 S (fun v8 h8 => ?_))
  refine pt_d (pt_1 (fun n d => r_istoren (L' := [some (.ref 72), some (.int v7), some (.int v8)]) gx262_22 rfl rfl) ?_)
  refine pt_d (pt_1 (fun n d => r_aloadn gx262_23 rfl) ?_)
  obtain ⟨pr9, H⟩ := H
  refine pt_d (pt_virt (as := []) (r := []) gx262_24 rfl (show zmt[261]? = some zM261 from rfl) rfl rfl rfl rfl ((m_gram X _).2.2.2.2.2.1 S pr9) (kqN (fun h_9 P9 => ?_)))
  have S9 := P9.1
  have H := H h_9 P9
  show Pt _ _ _ 27 _ [] _ _
  refine pt_d (pt_1 (fun n d => r_aloadn gx262_27 rfl) ?_)
  refine pt_d (pt_getR gx262_28 S9 tr_72_60 ?_)
  refine pt_d (pt_1 (fun n d => r_iloadn gx262_31 rfl) ?_)
  refine pt_d (pt_1 (fun n d => r_iloadn gx262_32 rfl) ?_)
  refine pt_d (pt_iast (N' := 1530) gx262_33 S9 tl_120 h7 h8 (fun h_11 S11 p11 q11 e11 => ?_))
  have H := H p11 q11
  refine pt_d (pt_1 (fun n d => r_aloadn gx262_34 rfl) ?_)
  refine pt_d (pt_getI (B := 65) gx262_35 S11 (fun v12 h12 => ?_))
  have h12 : v12.toInt = vw h_9 72 65 := by rw [h12, e11, up_c (by decide)]
  refine pt_d (pt_if_ge gx262_38 h12 (fun e13 => ?_) (fun e13 => ?_))
  · have H := H.1 e13
    refine pt_d (pt_1 (fun n d => r_aloadn gx262_74 rfl) ?_)
    refine pt_d (pt_getR gx262_75 S11 tr_72_61 ?_)
    refine pt_d (pt_1 (fun n d => r_iloadn gx262_78 rfl) ?_)
    refine pt_d (pt_1 (fun n d => r_aloadn gx262_79 rfl) ?_)
    refine pt_d (pt_getI (B := 68) gx262_80 S11 (fun v15 h15 => ?_))
    have h15 : v15.toInt = vw h_9 72 68 := by rw [h15, e11, up_c (by decide)]
    refine pt_d (pt_iast (N' := 1530) gx262_83 S11 tl_121 h7 h15 (fun h_16 S16 p16 q16 e16 => ?_))
    refine pt_d (pt_1 (fun n d => r_aloadn gx262_84 rfl) ?_)
    refine pt_d (pt_getR gx262_85 S16 tr_72_59 ?_)
    refine pt_d (pt_1 (fun n d => r_aloadn gx262_88 rfl) ?_)
    refine pt_d (pt_getI (B := 67) gx262_89 S16 (fun v18 h18 => ?_))
    have h18 : v18.toInt = vw h_9 72 67 := by rw [h18, e16, up_c (by decide), e11, up_c (by decide)]
    refine pt_d (pt_1 (fun n d => r_dup2 gx262_92 rfl) ?_)
    refine pt_d (pt_iald (N' := 17) gx262_93 S16 tl_119 h18 (fun v19 p19 q19 h19 => ?_))
    have H := H p19 q19
    have h19 : v19.toInt = vw h_9 119 (vw h_9 72 67) := by rw [h19, e16, up_c (by decide), e11, up_c (by decide)]
    refine pt_d (pt_iconst gx262_94 (fun v20 h20 => ?_))
    refine pt_d (pt_iadd gx262_95 h19 h20 (fun v21 h21 => ?_))
    refine pt_d (pt_iast (N' := 17) gx262_96 S16 tl_119 h18 h21 (fun h_22 S22 p22 q22 e22 => ?_))
    have H := H h_22 S22 (by rw [e22, e16, e11])
    exact pt_d (pt_vret gx262_97 ⟨rfl, H⟩)
  · have H := H.2 e13
    refine pt_d (pt_1 (fun n d => r_aloadn gx262_41 rfl) ?_)
    have H := H h_11 S11 (by rw [e11])
    refine pt_d (pt_virt (as := []) (r := []) gx262_42 rfl (show zmt[251]? = some zM251 from rfl) rfl rfl rfl rfl (c_251 S11) (kqP (fun v23 h23 => ?_)))
    show Pt _ _ _ 45 _ [.int v23] _ _
    refine pt_d (pt_bipush gx262_45 (fun v24 h24 => ?_))
    refine pt_d (pt_icmp_ne gx262_47 h23 h24 (fun e25 => ?_) (fun e25 => ?_))
    · have H := H.1 e25
      refine pt_d (pt_1 (fun n d => r_aloadn gx262_74 rfl) ?_)
      refine pt_d (pt_getR gx262_75 S11 tr_72_61 ?_)
      refine pt_d (pt_1 (fun n d => r_iloadn gx262_78 rfl) ?_)
      refine pt_d (pt_1 (fun n d => r_aloadn gx262_79 rfl) ?_)
      refine pt_d (pt_getI (B := 68) gx262_80 S11 (fun v27 h27 => ?_))
      refine pt_d (pt_iast (N' := 1530) gx262_83 S11 tl_121 h7 h27 (fun h_28 S28 p28 q28 e28 => ?_))
      refine pt_d (pt_1 (fun n d => r_aloadn gx262_84 rfl) ?_)
      refine pt_d (pt_getR gx262_85 S28 tr_72_59 ?_)
      refine pt_d (pt_1 (fun n d => r_aloadn gx262_88 rfl) ?_)
      refine pt_d (pt_getI (B := 67) gx262_89 S28 (fun v30 h30 => ?_))
      have h30 : v30.toInt = vw h_11 72 67 := by rw [h30, e28, up_c (by decide)]
      refine pt_d (pt_1 (fun n d => r_dup2 gx262_92 rfl) ?_)
      refine pt_d (pt_iald (N' := 17) gx262_93 S28 tl_119 h30 (fun v31 p31 q31 h31 => ?_))
      have H := H p31 q31
      have h31 : v31.toInt = vw h_11 119 (vw h_11 72 67) := by rw [h31, e28, up_c (by decide)]
      refine pt_d (pt_iconst gx262_94 (fun v32 h32 => ?_))
      refine pt_d (pt_iadd gx262_95 h31 h32 (fun v33 h33 => ?_))
      refine pt_d (pt_iast (N' := 17) gx262_96 S28 tl_119 h30 h33 (fun h_34 S34 p34 q34 e34 => ?_))
      have H := H h_34 S34 (by rw [e34, e28])
      exact pt_d (pt_vret gx262_97 ⟨rfl, H⟩)
    · have H := H.2 e25
      refine pt_d (pt_1 (fun n d => r_aloadn gx262_50 rfl) ?_)
      refine pt_d (pt_1 (fun n d => r_dup gx262_51 rfl) ?_)
      refine pt_d (pt_getI (B := 64) gx262_52 S11 (fun v35 h35 => ?_))
      refine pt_d (pt_iconst gx262_55 (fun v36 h36 => ?_))
      refine pt_d (pt_iadd gx262_56 h35 h36 (fun v37 h37 => ?_))
      refine pt_d (pt_putI (B := 64) gx262_57 S11 h37 (fun h_38 S38 e38 => ?_))
      refine pt_d (pt_1 (fun n d => r_aloadn gx262_60 rfl) ?_)
      refine pt_d (pt_getR gx262_61 S38 tr_72_60 ?_)
      refine pt_d (pt_1 (fun n d => r_iloadn gx262_64 rfl) ?_)
      refine pt_d (pt_1 (fun n d => r_aloadn gx262_65 rfl) ?_)
      refine pt_d (pt_getI (B := 68) gx262_66 S38 (fun v40 h40 => ?_))
      have h40 : v40.toInt = vw h_11 72 68 := by rw [h40, e38, up_j (by decide)]
      refine pt_d (pt_iast (N' := 1530) gx262_69 S38 tl_120 h7 h40 (fun h_41 S41 p41 q41 e41 => ?_))
      refine pt_d (pt_1 (fun n d => r_aloadn gx262_70 rfl) ?_)
      have H := H h_41 S41 (by rw [e41, e38])
      obtain ⟨pr42, H⟩ := H
      refine pt_d (pt_virt (as := []) (r := []) gx262_71 rfl (show zmt[261]? = some zM261 from rfl) rfl rfl rfl rfl ((m_gram X _).2.2.2.2.2.1 S41 pr42) (kqN (fun h_42 P42 => ?_)))
      have S42 := P42.1
      have H := H h_42 P42
      show Pt _ _ _ 74 _ [] _ _
      refine pt_d (pt_1 (fun n d => r_aloadn gx262_74 rfl) ?_)
      refine pt_d (pt_getR gx262_75 S42 tr_72_61 ?_)
      refine pt_d (pt_1 (fun n d => r_iloadn gx262_78 rfl) ?_)
      refine pt_d (pt_1 (fun n d => r_aloadn gx262_79 rfl) ?_)
      refine pt_d (pt_getI (B := 68) gx262_80 S42 (fun v44 h44 => ?_))
      refine pt_d (pt_iast (N' := 1530) gx262_83 S42 tl_121 h7 h44 (fun h_45 S45 p45 q45 e45 => ?_))
      refine pt_d (pt_1 (fun n d => r_aloadn gx262_84 rfl) ?_)
      refine pt_d (pt_getR gx262_85 S45 tr_72_59 ?_)
      refine pt_d (pt_1 (fun n d => r_aloadn gx262_88 rfl) ?_)
      refine pt_d (pt_getI (B := 67) gx262_89 S45 (fun v47 h47 => ?_))
      have h47 : v47.toInt = vw h_42 72 67 := by rw [h47, e45, up_c (by decide)]
      refine pt_d (pt_1 (fun n d => r_dup2 gx262_92 rfl) ?_)
      refine pt_d (pt_iald (N' := 17) gx262_93 S45 tl_119 h47 (fun v48 p48 q48 h48 => ?_))
      have H := H p48 q48
      have h48 : v48.toInt = vw h_42 119 (vw h_42 72 67) := by rw [h48, e45, up_c (by decide)]
      refine pt_d (pt_iconst gx262_94 (fun v49 h49 => ?_))
      refine pt_d (pt_iadd gx262_95 h48 h49 (fun v50 h50 => ?_))
      refine pt_d (pt_iast (N' := 17) gx262_96 S45 tl_119 h47 h50 (fun h_51 S51 p51 q51 e51 => ?_))
      have H := H h_51 S51 (by rw [e51, e45])
      exact pt_d (pt_vret gx262_97 ⟨rfl, H⟩)
theorem d263_0 {n : Nat} {X : aX} {h : aH} {P : Int → aH → Prop} {x0 : Int32} {a0 : Int} (S : wS h) (z0 : x0.toInt = a0) (H : ((¬ (0 ≤ a0 ∧ a0 ≤ 33) → P 0 h) ∧ ((0 ≤ a0 ∧ a0 ≤ 33) → ((3 < iRem a0 10 → P 0 h) ∧ (iRem a0 10 ≤ 3 → P 1 h))))) : Pt (n + 1) X zM263 0 [some (.int x0)] [] h (qI P) := by
  refine pt_1 (fun n d => r_iloadn gx263_0 rfl) ?_
  refine pt_d (pt_iconst gx263_1 (fun v1 h1 => ?_))
  refine pt_d (pt_bipush gx263_2 (fun v2 h2 => ?_))
  refine pt_d (pt_stat (as := [.int x0, .int v1, .int v2]) (r := []) gx263_4 rfl (show zmt[196]? = some zM196 from rfl) rfl rfl rfl rfl (c_196 S z0 h1 h2) (kqP (fun v3 h3 => ?_)))
  show Pt _ _ _ 7 _ [.int v3] _ _
  refine pt_d (pt_ifB_eq gx263_7 h3 (fun e4 => ?_) (fun e4 => ?_))
  · have H := H.1 e4
    refine pt_d (pt_iconst gx263_22 (fun v5 h5 => ?_))
    exact pt_d (pt_iret gx263_23 ⟨_, rfl, by rw [h5]; exact H⟩)
  · have H := H.2 e4
    refine pt_d (pt_1 (fun n d => r_iloadn gx263_10 rfl) ?_)
    refine pt_d (pt_bipush gx263_11 (fun v6 h6 => ?_))
    refine pt_d (pt_irem gx263_13 z0 h6 (fun v7 h7 => ?_))
    refine pt_d (pt_iconst gx263_14 (fun v8 h8 => ?_))
    refine pt_d (pt_icmp_gt gx263_15 h7 h8 (fun e9 => ?_) (fun e9 => ?_))
    · have H := H.1 e9
      refine pt_d (pt_iconst gx263_22 (fun v10 h10 => ?_))
      exact pt_d (pt_iret gx263_23 ⟨_, rfl, by rw [h10]; exact H⟩)
    · have H := H.2 e9
      refine pt_d (pt_iconst gx263_18 (fun v11 h11 => ?_))
      refine pt_d (pt_1 (fun n d => r_goto gx263_19) ?_)
      exact pt_d (pt_iret gx263_23 ⟨_, rfl, by rw [h11]; exact H⟩)
theorem mfr_a {V V' : vS} {c : Nat} {j v : Int} (a : mfr V V') (h : c = 119 ∨ c = 120 ∨ c = 121) : mfr V (up V' c j v) := by
  intro c' i h1 h2 h3 h4 h5 h6
  rw [up_c (by omega)]
  exact a c' i h1 h2 h3 h4 h5 h6
theorem mRes_b {t : Nat} {V V4 V' : vS} (F : mfr V V4) (e1 : V4 72 64 = V 72 64) (e3 : V4 72 66 = V 72 66) (c : mRes t V4 V') : mRes t V V' := by
  obtain ⟨F1, q, f, p, a1, a2, a3, b⟩ := c
  rw [mfr_T F, e3, e1] at p
  rw [mfr_54 F] at b
  rw [e3] at a3
  exact ⟨mfr_t F F1, q, f, p, a1, a2, a3, b⟩
theorem mL_b {V V4 : vS} (F : mfr V V4) (e1 : V4 72 64 = V 72 64) : mL V4 = mL V := by
  unfold mL
  rw [e1, mfr_54 F, F 115 _ (by decide) (by decide) (by decide) (by decide) (by decide) (fun e => absurd e (by decide))]
theorem c_262 {n : Nat} {X : aX} {h : aH} (S : wS h) (hp : mpre (vw h)) : Pt n X zM262 0 [some (.ref 72), none, none] [] h (qN (fun h' => wS h' ∧ mRes 10 (vw h) (vw h'))) := by
  refine pt_d (d262_0 S (fun _ _ => ⟨hp, fun h9 k9 _ _ => ?_⟩))
  have H := mRes_p hp k9.2
  have ar : ∀ (V V' : vS) (a b c d e g : Int), V' = up (up (up V 120 a b) 121 c d) 119 e g → mfr V V' ∧ V' 72 64 = V 72 64 ∧ V' 72 65 = V 72 65 ∧ V' 72 66 = V 72 66 := by
    intro V V' a b c d e g ev
    subst ev
    refine ⟨mfr_a (mfr_a (mfr_a (mfr_r V) (Or.inr (Or.inl rfl))) (Or.inr (Or.inr rfl))) (Or.inl rfl), ?_, ?_, ?_⟩ <;> rw [up_c (by decide), up_c (by decide), up_c (by decide)]
  have ar2 : ∀ (V V' : vS) (c d e g : Int), V' = up (up V 121 c d) 119 e g → mfr V V' ∧ V' 72 64 = V 72 64 ∧ V' 72 65 = V 72 65 ∧ V' 72 66 = V 72 66 := by
    intro V V' c d e g ev
    subst ev
    refine ⟨mfr_a (mfr_a (mfr_r V) (Or.inr (Or.inr rfl))) (Or.inl rfl), ?_, ?_, ?_⟩ <;> rw [up_c (by decide), up_c (by decide)]
  refine ⟨fun ge _ _ g S2 eg => ⟨S2, ?_⟩, fun lt h11 S11 e11 => ?_⟩
  · obtain ⟨a1, a2, a3, a4⟩ := ar _ _ _ _ _ _ _ _ eg
    exact mRes_l (m_seq gsq10 hp k9.2 ⟨fun z => by omega, fun _ => ⟨mfr_r _, rfl, rfl⟩⟩) a1 a2 a3 a4
  · have F11 : mfr (vw h9) (vw h11) := by rw [e11]; exact mfr_a (mfr_r _) (Or.inr (Or.inl rfl))
    have b1 : vw h11 72 64 = vw h9 72 64 := by rw [e11, up_c (by decide)]
    have b2 : vw h11 72 65 = vw h9 72 65 := by rw [e11, up_c (by decide)]
    have b3 : vw h11 72 66 = vw h9 72 66 := by rw [e11, up_c (by decide)]
    have m11 := mL_b F11 b1
    rw [m11]
    refine ⟨fun n63 _ _ g S2 eg => ⟨S2, ?_⟩, fun e63 h41 S41 e41 => ?_⟩
    · obtain ⟨a1, a2, a3, a4⟩ := ar2 _ _ _ _ _ _ eg
      refine mRes_l (m_seq gsq10 hp k9.2 (m_out (fun _ _ _ => ch_e gch13) H (fun _ => ?_))) (mfr_t F11 a1) (a2.trans b1) (a3.trans b2) (a4.trans b3)
      rw [← mL_T H.2.2.1.1]
      exact beq_false_of_ne n63
    · have k2 := m_here H lt (by decide) e63 (V4 := up (vw h9) 72 64 (w32 (vw h9 72 64 + 1))) rfl
      obtain ⟨k1, k2, k3, k4, k5, k6, k7, k8⟩ := k2
      have F41 : mfr (up (vw h9) 72 64 (w32 (vw h9 72 64 + 1))) (vw h41) := by
        intro c j h1 h2 h3 h4 h5 h6
        rw [e41, b1, up_c (by omega)]
        by_cases z : c = 72
        · have := h6 z
          rw [up_j (by omega), up_j (by omega), e11, up_c (by omega)]
        · rw [up_c z, up_c z, e11, up_c (by omega)]
      have c1 : vw h41 72 64 = up (vw h9) 72 64 (w32 (vw h9 72 64 + 1)) 72 64 := by rw [e41, up_c (by decide), b1, up_s, up_s]
      have c2 : vw h41 72 65 = vw h9 72 65 := by rw [e41, up_c (by decide), up_j (by decide)]; exact b2
      have c3 : vw h41 72 66 = vw h9 72 66 := by rw [e41, up_c (by decide), up_j (by decide)]; exact b3
      have c4 : up (vw h9) 72 64 (w32 (vw h9 72 64 + 1)) 72 66 = vw h9 72 66 := by rw [up_j (by decide)]
      have c5 := mfr_54 F41
      have c6 : up (vw h9) 72 64 (w32 (vw h9 72 64 + 1)) 72 65 = vw h9 72 65 := by rw [up_j (by decide)]
      refine ⟨⟨by rw [c2, ← c6]; exact k2.1, by rw [c3, ← c4]; exact k2.2.1, by rw [c1, c5]; exact k2.2.2.1, by rw [c5]; exact k2.2.2.2⟩, fun h42 k42 _ _ g S2 eg => ⟨S2, ?_⟩⟩
      obtain ⟨a1, a2, a3, a4⟩ := ar2 _ _ _ _ _ _ eg
      have c42 := mRes_b F41 c1 (c3.trans c4.symm) k42.2
      exact mRes_l (m_seq gsq10 hp k9.2 (m_cho gch13 H lt (by decide) e63 rfl rfl c42)) a1 a2 a3 a4
theorem c_263 {n : Nat} {X : aX} {h : aH} {x0 : Int32} {a0 : Int} (S : wS h) (z0 : x0.toInt = a0) : Pt n X zM263 0 [some (.int x0)] [] h (qI (fun y h' => h' = h ∧ y = bI (isU a0))) := by
  refine pt_d (d263_0 S z0 ⟨fun e => ⟨rfl, (bI_f (fun z => e z.1)).symm⟩, fun e => ?_⟩)
  rw [iRem_pos e.1 (by omega) (by decide) (by decide)]
  exact ⟨fun e3 => ⟨rfl, (bI_f (fun z => by have := z.2; omega)).symm⟩, fun e3 => ⟨rfl, (bI_t ⟨e, e3⟩).symm⟩⟩

theorem d264_0 {n : Nat} {X : aX} {h : aH} {P : Int → aH → Prop} {x1 x2 : Int32} {a1 a2 : Int} (S : wS h) (z1 : x1.toInt = a1) (z2 : x2.toInt = a2) (H : ((¬ (isU a1) → P (-1) h) ∧ ((isU a1) → (((0 ≤ a2 ∧ a2 ≤ 9) → ((vw h 72 55 ≠ 16 → (0 ≤ vw h 72 55 → vw h 72 55 < 17 → ∀ h_22 : aH, wS h_22 → vw h_22 = up (up (up (up (up (up (vw h) 72 67 (vw h 72 55)) 119 (vw h 72 55) 0) 72 68 0) 72 64 0) 72 65 (-1)) 72 66 0 → ((mpre (vw h_22)) ∧ ∀ (h_23 : aH), (wS h_23 ∧ mRes 10 (vw h_22) (vw h_23)) → Pt n X zM264 70 [some (.ref 72), some (.int x1), some (.int x2)] [] h_23 (qI P)))) ∧ (vw h 72 55 = 16 → P (-3) h))) ∧ (¬ (0 ≤ a2 ∧ a2 ≤ 9) → P (-1) h))))) : Pt (n + 1) X zM264 0 [some (.ref 72), some (.int x1), some (.int x2)] [] h (qI P) := by
  refine pt_1 (fun n d => r_iloadn gx264_0 rfl) ?_
  refine pt_d (pt_stat (as := [.int x1]) (r := []) gx264_1 rfl (show zmt[263]? = some zM263 from rfl) rfl rfl rfl rfl (c_263 S z1) (kqP (fun v1 h1 => ?_)))
  show Pt _ _ _ 4 _ [.int v1] _ _
  refine pt_d (pt_ifB_eq gx264_4 h1 (fun e2 => ?_) (fun e2 => ?_))
  · have H := H.1 e2
    refine pt_d (pt_iconst gx264_14 (fun v3 h3 => ?_))
    exact pt_d (pt_iret gx264_15 ⟨_, rfl, by rw [h3]; exact H⟩)
  · have H := H.2 e2
    refine pt_d (pt_1 (fun n d => r_iloadn gx264_7 rfl) ?_)
    refine pt_d (pt_stat (as := [.int x2]) (r := []) gx264_8 rfl (show zmt[198]? = some zM198 from rfl) rfl rfl rfl rfl (c_198 S z2) (kqP (fun v4 h4 => ?_)))
    show Pt _ _ _ 11 _ [.int v4] _ _
    refine pt_d (pt_ifB_ne gx264_11 h4 (fun e5 => ?_) (fun e5 => ?_))
    · have H := H.1 e5
      refine pt_d (pt_1 (fun n d => r_aloadn gx264_16 rfl) ?_)
      refine pt_d (pt_getI (B := 55) gx264_17 S (fun v6 h6 => ?_))
      refine pt_d (pt_bipush gx264_20 (fun v7 h7 => ?_))
      refine pt_d (pt_icmp_ne gx264_22 h6 h7 (fun e8 => ?_) (fun e8 => ?_))
      · have H := H.1 e8
        refine pt_d (pt_1 (fun n d => r_aloadn gx264_28 rfl) ?_)
        refine pt_d (pt_1 (fun n d => r_aloadn gx264_29 rfl) ?_)
        refine pt_d (pt_getI (B := 55) gx264_30 S (fun v9 h9 => ?_))
        refine pt_d (pt_putI (B := 67) gx264_33 S h9 (fun h_10 S10 e10 => ?_))
        refine pt_d (pt_1 (fun n d => r_aloadn gx264_36 rfl) ?_)
        refine pt_d (pt_getR gx264_37 S10 tr_72_59 ?_)
        refine pt_d (pt_1 (fun n d => r_aloadn gx264_40 rfl) ?_)
        refine pt_d (pt_getI (B := 67) gx264_41 S10 (fun v12 h12 => ?_))
        have h12 : v12.toInt = vw h 72 55 := by rw [h12, e10, up_s]
        refine pt_d (pt_iconst gx264_44 (fun v13 h13 => ?_))
        refine pt_d (pt_iast (N' := 17) gx264_45 S10 tl_119 h12 h13 (fun h_14 S14 p14 q14 e14 => ?_))
        have H := H p14 q14
        refine pt_d (pt_1 (fun n d => r_aloadn gx264_46 rfl) ?_)
        refine pt_d (pt_iconst gx264_47 (fun v15 h15 => ?_))
        refine pt_d (pt_putI (B := 68) gx264_48 S14 h15 (fun h_16 S16 e16 => ?_))
        refine pt_d (pt_1 (fun n d => r_aloadn gx264_51 rfl) ?_)
        refine pt_d (pt_iconst gx264_52 (fun v17 h17 => ?_))
        refine pt_d (pt_putI (B := 64) gx264_53 S16 h17 (fun h_18 S18 e18 => ?_))
        refine pt_d (pt_1 (fun n d => r_aloadn gx264_56 rfl) ?_)
        refine pt_d (pt_iconst gx264_57 (fun v19 h19 => ?_))
        refine pt_d (pt_putI (B := 65) gx264_58 S18 h19 (fun h_20 S20 e20 => ?_))
        refine pt_d (pt_1 (fun n d => r_aloadn gx264_61 rfl) ?_)
        refine pt_d (pt_iconst gx264_62 (fun v21 h21 => ?_))
        refine pt_d (pt_putI (B := 66) gx264_63 S20 h21 (fun h_22 S22 e22 => ?_))
        refine pt_d (pt_1 (fun n d => r_aloadn gx264_66 rfl) ?_)
        have H := H h_22 S22 (by rw [e22, e20, e18, e16, e14, e10])
        obtain ⟨pr23, H⟩ := H
        refine pt_d (pt_virt (as := []) (r := []) gx264_67 rfl (show zmt[262]? = some zM262 from rfl) rfl rfl rfl rfl (c_262 S22 pr23) (kqN (fun h_23 P23 => ?_)))
        have S23 := P23.1
        have H := H h_23 P23
        show Pt _ _ _ 70 _ [] _ _
        exact H
      · have H := H.2 e8
        refine pt_d (pt_bipush gx264_25 (fun v24 h24 => ?_))
        exact pt_d (pt_iret gx264_27 ⟨_, rfl, by rw [h24]; exact H⟩)
    · have H := H.2 e5
      refine pt_d (pt_iconst gx264_14 (fun v25 h25 => ?_))
      exact pt_d (pt_iret gx264_15 ⟨_, rfl, by rw [h25]; exact H⟩)
theorem d264_70 {n : Nat} {X : aX} {h : aH} {P : Int → aH → Prop} {x1 x2 : Int32} {a1 a2 : Int} (S : wS h) (z1 : x1.toInt = a1) (z2 : x2.toInt = a2) (H : ((0 ≤ vw h 72 65 → Pt n X zM264 103 [some (.ref 72), some (.int x1), some (.int x2)] [] h (qI P)) ∧ (vw h 72 65 < 0 → ((mL (vw h) ≠ 59 → Pt n X zM264 103 [some (.ref 72), some (.int x1), some (.int x2)] [] h (qI P)) ∧ (mL (vw h) = 59 → ∀ h_9 : aH, wS h_9 → vw h_9 = up (vw h) 72 64 (w32 ((vw h 72 64) + 1)) → ((mpre (vw h_9)) ∧ ∀ (h_10 : aH), (wS h_10 ∧ mRes 10 (vw h_9) (vw h_10)) → Pt n X zM264 70 [some (.ref 72), some (.int x1), some (.int x2)] [] h_10 (qI P))))))) : Pt (n + 1) X zM264 70 [some (.ref 72), some (.int x1), some (.int x2)] [] h (qI P) := by
  refine pt_1 (fun n d => r_aloadn gx264_70 rfl) ?_
  refine pt_d (pt_getI (B := 65) gx264_71 S (fun v1 h1 => ?_))
  refine pt_d (pt_if_ge gx264_74 h1 (fun e2 => ?_) (fun e2 => ?_))
  · have H := H.1 e2
    exact H
  · have H := H.2 e2
    refine pt_d (pt_1 (fun n d => r_aloadn gx264_77 rfl) ?_)
    refine pt_d (pt_virt (as := []) (r := []) gx264_78 rfl (show zmt[251]? = some zM251 from rfl) rfl rfl rfl rfl (c_251 S) (kqP (fun v3 h3 => ?_)))
    show Pt _ _ _ 81 _ [.int v3] _ _
    refine pt_d (pt_bipush gx264_81 (fun v4 h4 => ?_))
    refine pt_d (pt_icmp_ne gx264_83 h3 h4 (fun e5 => ?_) (fun e5 => ?_))
    · have H := H.1 e5
      exact H
    · have H := H.2 e5
      refine pt_d (pt_1 (fun n d => r_aloadn gx264_86 rfl) ?_)
      refine pt_d (pt_1 (fun n d => r_dup gx264_87 rfl) ?_)
      refine pt_d (pt_getI (B := 64) gx264_88 S (fun v6 h6 => ?_))
      refine pt_d (pt_iconst gx264_91 (fun v7 h7 => ?_))
      refine pt_d (pt_iadd gx264_92 h6 h7 (fun v8 h8 => ?_))
      refine pt_d (pt_putI (B := 64) gx264_93 S h8 (fun h_9 S9 e9 => ?_))
      refine pt_d (pt_1 (fun n d => r_aloadn gx264_96 rfl) ?_)
      have H := H h_9 S9 (by rw [e9])
      obtain ⟨pr10, H⟩ := H
      refine pt_d (pt_virt (as := []) (r := []) gx264_97 rfl (show zmt[262]? = some zM262 from rfl) rfl rfl rfl rfl (c_262 S9 pr10) (kqN (fun h_10 P10 => ?_)))
      have S10 := P10.1
      have H := H h_10 P10
      show Pt _ _ _ 100 _ [] _ _
      refine pt_d (pt_1 (fun n d => r_goto gx264_100) ?_)
      exact H
theorem d264_103 {n : Nat} {X : aX} {h : aH} {P : Int → aH → Prop} {x1 x2 : Int32} {a1 a2 : Int} (S : wS h) (z1 : x1.toInt = a1) (z2 : x2.toInt = a2) (H : ((0 ≤ vw h 72 65 → Pt n X zM264 125 [some (.ref 72), some (.int x1), some (.int x2)] [] h (qI P)) ∧ (vw h 72 65 < 0 → ((vw h 72 54 ≤ vw h 72 64 → Pt n X zM264 125 [some (.ref 72), some (.int x1), some (.int x2)] [] h (qI P)) ∧ (vw h 72 64 < vw h 72 54 → ∀ (h_6 : aH), (wS h_6 ∧ R252 (vw h) (vw h_6)) → Pt n X zM264 125 [some (.ref 72), some (.int x1), some (.int x2)] [] h_6 (qI P)))))) : Pt (n + 1) X zM264 103 [some (.ref 72), some (.int x1), some (.int x2)] [] h (qI P) := by
  refine pt_1 (fun n d => r_aloadn gx264_103 rfl) ?_
  refine pt_d (pt_getI (B := 65) gx264_104 S (fun v1 h1 => ?_))
  refine pt_d (pt_if_ge gx264_107 h1 (fun e2 => ?_) (fun e2 => ?_))
  · have H := H.1 e2
    exact H
  · have H := H.2 e2
    refine pt_d (pt_1 (fun n d => r_aloadn gx264_110 rfl) ?_)
    refine pt_d (pt_getI (B := 64) gx264_111 S (fun v3 h3 => ?_))
    refine pt_d (pt_1 (fun n d => r_aloadn gx264_114 rfl) ?_)
    refine pt_d (pt_getI (B := 54) gx264_115 S (fun v4 h4 => ?_))
    refine pt_d (pt_icmp_ge gx264_118 h3 h4 (fun e5 => ?_) (fun e5 => ?_))
    · have H := H.1 e5
      exact H
    · have H := H.2 e5
      refine pt_d (pt_1 (fun n d => r_aloadn gx264_121 rfl) ?_)
      refine pt_d (pt_virt (as := []) (r := []) gx264_122 rfl (show zmt[252]? = some zM252 from rfl) rfl rfl rfl rfl (c_252 S) (kqN (fun h_6 P6 => ?_)))
      have S6 := P6.1
      have H := H h_6 P6
      show Pt _ _ _ 125 _ [] _ _
      exact H
theorem d264_125 {n : Nat} {X : aX} {h : aH} {P : Int → aH → Prop} {x1 x2 : Int32} {a1 a2 : Int} (S : wS h) (z1 : x1.toInt = a1) (z2 : x2.toInt = a2) (H : ((vw h 72 65 < 0 → (0 ≤ vw h 72 55 → vw h 72 55 < 16 → ∀ h_18 : aH, wS h_18 → vw h_18 = up (up (up (up (up (vw h) 72 54 0) 116 (vw h 72 55) a1) 117 (vw h 72 55) (vw h 72 1)) 118 (vw h 72 55) a2) 72 55 (w32 ((vw h 72 55) + 1)) → P (w32 ((w32 ((vw h 72 55) + 1)) - 1)) h_18)) ∧ (0 ≤ vw h 72 65 → ∀ h_2 : aH, wS h_2 → vw h_2 = up (vw h) 72 54 0 → P (w32 ((-100) - (vw h 72 65))) h_2))) : Pt (n + 1) X zM264 125 [some (.ref 72), some (.int x1), some (.int x2)] [] h (qI P) := by
  refine pt_1 (fun n d => r_aloadn gx264_125 rfl) ?_
  refine pt_d (pt_iconst gx264_126 (fun v1 h1 => ?_))
  refine pt_d (pt_putI (B := 54) gx264_127 S h1 (fun h_2 S2 e2 => ?_))
  refine pt_d (pt_1 (fun n d => r_aloadn gx264_130 rfl) ?_)
  refine pt_d (pt_getI (B := 65) gx264_131 S2 (fun v3 h3 => ?_))
  have h3 : v3.toInt = vw h 72 65 := by rw [h3, e2, up_j (by decide)]
  refine pt_d (pt_if_lt gx264_134 h3 (fun e4 => ?_) (fun e4 => ?_))
  · have H := H.1 e4
    refine pt_d (pt_1 (fun n d => r_aloadn gx264_145 rfl) ?_)
    refine pt_d (pt_getR gx264_146 S2 tr_72_56 ?_)
    refine pt_d (pt_1 (fun n d => r_aloadn gx264_149 rfl) ?_)
    refine pt_d (pt_getI (B := 55) gx264_150 S2 (fun v6 h6 => ?_))
    have h6 : v6.toInt = vw h 72 55 := by rw [h6, e2, up_j (by decide)]
    refine pt_d (pt_1 (fun n d => r_iloadn gx264_153 rfl) ?_)
    refine pt_d (pt_iast (N' := 16) gx264_154 S2 tl_116 h6 z1 (fun h_7 S7 p7 q7 e7 => ?_))
    have H := H p7 q7
    refine pt_d (pt_1 (fun n d => r_aloadn gx264_155 rfl) ?_)
    refine pt_d (pt_getR gx264_156 S7 tr_72_57 ?_)
    refine pt_d (pt_1 (fun n d => r_aloadn gx264_159 rfl) ?_)
    refine pt_d (pt_getI (B := 55) gx264_160 S7 (fun v9 h9 => ?_))
    have h9 : v9.toInt = vw h 72 55 := by rw [h9, e7, up_c (by decide), e2, up_j (by decide)]
    refine pt_d (pt_1 (fun n d => r_aloadn gx264_163 rfl) ?_)
    refine pt_d (pt_getI (B := 1) gx264_164 S7 (fun v10 h10 => ?_))
    have h10 : v10.toInt = vw h 72 1 := by rw [h10, e7, up_c (by decide), e2, up_j (by decide)]
    refine pt_d (pt_iast (N' := 16) gx264_167 S7 tl_117 h9 h10 (fun h_11 S11 p11 q11 e11 => ?_))
    refine pt_d (pt_1 (fun n d => r_aloadn gx264_168 rfl) ?_)
    refine pt_d (pt_getR gx264_169 S11 tr_72_58 ?_)
    refine pt_d (pt_1 (fun n d => r_aloadn gx264_172 rfl) ?_)
    refine pt_d (pt_getI (B := 55) gx264_173 S11 (fun v13 h13 => ?_))
    have h13 : v13.toInt = vw h 72 55 := by rw [h13, e11, up_c (by decide), e7, up_c (by decide), e2, up_j (by decide)]
    refine pt_d (pt_1 (fun n d => r_iloadn gx264_176 rfl) ?_)
    refine pt_d (pt_iast (N' := 16) gx264_177 S11 tl_118 h13 z2 (fun h_14 S14 p14 q14 e14 => ?_))
    refine pt_d (pt_1 (fun n d => r_aloadn gx264_178 rfl) ?_)
    refine pt_d (pt_1 (fun n d => r_dup gx264_179 rfl) ?_)
    refine pt_d (pt_getI (B := 55) gx264_180 S14 (fun v15 h15 => ?_))
    have h15 : v15.toInt = vw h 72 55 := by rw [h15, e14, up_c (by decide), e11, up_c (by decide), e7, up_c (by decide), e2, up_j (by decide)]
    refine pt_d (pt_iconst gx264_183 (fun v16 h16 => ?_))
    refine pt_d (pt_iadd gx264_184 h15 h16 (fun v17 h17 => ?_))
    refine pt_d (pt_putI (B := 55) gx264_185 S14 h17 (fun h_18 S18 e18 => ?_))
    refine pt_d (pt_1 (fun n d => r_aloadn gx264_188 rfl) ?_)
    refine pt_d (pt_getI (B := 55) gx264_189 S18 (fun v19 h19 => ?_))
    have h19 : v19.toInt = w32 ((vw h 72 55) + 1) := by rw [h19, e18, up_s]
    refine pt_d (pt_iconst gx264_192 (fun v20 h20 => ?_))
    refine pt_d (pt_isub gx264_193 h19 h20 (fun v21 h21 => ?_))
    have H := H h_18 S18 (by rw [e18, e14, e11, e7, e2])
    exact pt_d (pt_iret gx264_194 ⟨_, rfl, by rw [h21]; exact H⟩)
  · have H := H.2 e4
    refine pt_d (pt_bipush gx264_137 (fun v22 h22 => ?_))
    refine pt_d (pt_1 (fun n d => r_aloadn gx264_139 rfl) ?_)
    refine pt_d (pt_getI (B := 65) gx264_140 S2 (fun v23 h23 => ?_))
    have h23 : v23.toInt = vw h 72 65 := by rw [h23, e2, up_j (by decide)]
    refine pt_d (pt_isub gx264_143 h22 h23 (fun v24 h24 => ?_))
    have H := H h_2 S2 (by rw [e2])
    exact pt_d (pt_iret gx264_144 ⟨_, rfl, by rw [h24]; exact H⟩)
def mfin (V : vS) (F w y r : Int) (V' : vS) : Prop := (F = -1 ∧ r = V 72 55 ∧ mfr (up (up (up (up (up V 72 54 0) 116 (V 72 55) w) 117 (V 72 55) (V 72 1)) 118 (V 72 55) y) 72 55 (V 72 55 + 1)) V') ∨ (F ≠ -1 ∧ r = w32 (-100 - F) ∧ mfr (up V 72 54 0) V')
theorem mfr_up {V V4 : vS} {c : Nat} {j v : Int} (F : mfr V V4) : mfr (up V c j v) (up V4 c j v) := by
  intro c' i h1 h2 h3 h4 h5 h6
  unfold up
  rw [F c' i h1 h2 h3 h4 h5 h6]
theorem mfin_b {V V4 V' : vS} {F w y r : Int} (M : mfr V V4) (c : mfin V4 F w y r V') : mfin V F w y r V' := by
  have e55 : V4 72 55 = V 72 55 := M 72 55 (by decide) (by decide) (by decide) (by decide) (by decide) (fun _ => by decide)
  have e1 : V4 72 1 = V 72 1 := M 72 1 (by decide) (by decide) (by decide) (by decide) (by decide) (fun _ => by decide)
  unfold mfin at c
  rw [e55, e1] at c
  rcases c with ⟨a, b, d⟩ | ⟨a, b, d⟩
  · exact Or.inl ⟨a, b, mfr_t (mfr_up (mfr_up (mfr_up (mfr_up (mfr_up M))))) d⟩
  · exact Or.inr ⟨a, b, mfr_t (mfr_up M) d⟩
theorem m_125 {n : Nat} {X : aX} {h : aH} {x1 x2 : Int32} {w y : Int} (S : wS h) (h1 : x1.toInt = w) (h2 : x2.toInt = y) (hf : vw h 72 65 = -1 ∨ 0 ≤ vw h 72 65) (h55 : 0 ≤ vw h 72 55 ∧ vw h 72 55 < 16) : Pt n X zM264 125 [some (.ref 72), some (.int x1), some (.int x2)] [] h (qI (fun r h' => wS h' ∧ mfin (vw h) (vw h 72 65) w y r (vw h'))) := by
  have w1 : w32 (vw h 72 55 + 1) = vw h 72 55 + 1 := w32_id (by omega) (by omega)
  refine pt_d (d264_125 S h1 h2 ⟨fun lt p q g S2 eg => ⟨S2, Or.inl ⟨by omega, ?_, ?_⟩⟩, fun ge g S2 eg => ⟨S2, Or.inr ⟨by omega, rfl, by rw [eg]; exact mfr_r _⟩⟩⟩)
  · rw [w1, w32_id (by omega) (by omega)]
    omega
  · rw [w1] at eg
    rw [eg]
    exact mfr_r _
theorem m_103 {n : Nat} {X : aX} {h : aH} {x1 x2 : Int32} {w y : Int} (S : wS h) (h1 : x1.toInt = w) (h2 : x2.toInt = y) (H : mlp (vw h)) (h55 : 0 ≤ vw h 72 55 ∧ vw h 72 55 < 16) : Pt n X zM264 103 [some (.ref 72), some (.int x1), some (.int x2)] [] h (qI (fun r h' => wS h' ∧ mfin (vw h) (rsF (vw h 72 54) (vw h 72 64) (vw h 72 65)) w y r (vw h'))) := by
  have H1 := H.1
  have h0 := H.2.2.1
  refine pt_d (d264_103 S h1 h2 ⟨fun ge => ?_, fun lt => ⟨fun ge => ?_, fun l2 g k => ?_⟩⟩)
  · have e : rsF (vw h 72 54) (vw h 72 64) (vw h 72 65) = vw h 72 65 := if_pos ge
    rw [e]
    exact m_125 S h1 h2 H1 h55
  · have e : rsF (vw h 72 54) (vw h 72 64) (vw h 72 65) = vw h 72 65 := by
      unfold rsF
      rw [if_neg (by omega), if_neg (by omega)]
      omega
    rw [e]
    exact m_125 S h1 h2 H1 h55
  · have e : rsF (vw h 72 54) (vw h 72 64) (vw h 72 65) = vw h 72 64 := by
      unfold rsF
      rw [if_neg (by omega), if_pos l2]
    rcases k.2 with ⟨z, -⟩ | ⟨-, z⟩
    · omega
    · have F : mfr (vw h) (vw g) := by rw [z]; exact mfr_u (mfr_r _) (Or.inr (Or.inl rfl))
      have e65 : vw g 72 65 = vw h 72 64 := by rw [z, up_s]
      have e55 : vw g 72 55 = vw h 72 55 := by rw [z, up_j (by decide)]
      refine pt_q (m_125 k.1 h1 h2 (Or.inr (by omega)) (by rw [e55]; exact h55)) ?_
      rintro v h' ⟨x, ex, p1, p2⟩
      rw [e65] at p2
      refine ⟨x, ex, p1, ?_⟩
      rw [e]
      exact mfin_b F p2
theorem l_264 {X : aX} {w y : Int} : ∀ (n : Nat) (h : aH) (x1 x2 : Int32), wS h → x1.toInt = w → x2.toInt = y → mlp (vw h) → 0 ≤ vw h 72 55 ∧ vw h 72 55 < 16 → Pt n X zM264 70 [some (.ref 72), some (.int x1), some (.int x2)] [] h (qI (fun r h' => wS h' ∧ ∃ q f : Int, ((vw h 72 65 < 0 → Pr (mT (vw h)) 14 (vw h 72 66) (vw h 72 64) q f) ∧ (0 ≤ vw h 72 65 → f = vw h 72 65)) ∧ mfin (vw h) (rsF (vw h 72 54) q f) w y r (vw h'))) := by
  intro n
  induction n with
  | zero => exact fun _ _ _ _ _ _ _ _ => pt_z
  | succ n ih =>
    intro h x1 x2 S h1 h2 H h55
    have H1 := H.1
    refine d264_70 S h1 h2 ⟨fun ge => ?_, fun lt => ⟨fun ne => ?_, fun e59 h65 S65 e65 => ?_⟩⟩
    · refine pt_q (m_103 S h1 h2 H h55) ?_
      rintro v h' ⟨x, ex, p1, p2⟩
      exact ⟨x, ex, p1, _, _, ⟨fun z => by omega, fun _ => rfl⟩, p2⟩
    · refine pt_q (m_103 S h1 h2 H h55) ?_
      rintro v h' ⟨x, ex, p1, p2⟩
      have e : vw h 72 65 = -1 := by omega
      rw [e] at p2
      refine ⟨x, ex, p1, _, _, ⟨fun _ => ch_e gch14 ?_, fun z => by omega⟩, p2⟩
      rw [← mL_T H.2.2.1.1]
      exact beq_false_of_ne ne
    · obtain ⟨k1, k2, k3, k4, k5, k6, k7, k8⟩ := m_here H lt (by decide) e59 e65
      refine ⟨k2, fun h66 k66 => ?_⟩
      have H6 := mRes_p k2 k66.2
      have c := k66.2
      obtain ⟨F1, q1, f1, p1, b1, b2, b3, b4⟩ := c
      have pb := pr_b k2.2.2.1.1 p1
      rw [k6, k5, k4] at p1
      rw [k5] at b3
      have F : mfr (vw h) (vw h66) := mfr_t k8 F1
      have e55 : vw h66 72 55 = vw h 72 55 := F 72 55 (by decide) (by decide) (by decide) (by decide) (by decide) (fun _ => by decide)
      refine pt_q (ih h66 x1 x2 k66.1 h1 h2 H6 (by rw [e55]; exact h55)) ?_
      rintro v h' ⟨x, ex, z1, q, f, ⟨z2, z3⟩, z4⟩
      have ho : opB 14 (mT (vw h) (vw h 72 64)) = true := by rw [k1]; rfl
      rw [mfr_54 F] at z4
      rcases pb.1 with rfl | d
      · have z2 := z2 (by rw [b2]; decide)
        rw [mfr_T F, b3 (by decide), b1] at z2
        exact ⟨x, ex, z1, q, f, ⟨fun _ => ch_y gch14 ho (sq_n gsq11 p1 z2), fun z => by omega⟩, mfin_b F z4⟩
      · have z3 := z3 (by omega)
        rw [b2] at z3
        refine ⟨x, ex, z1, q1, f, ⟨fun _ => ?_, fun z => by omega⟩, ?_⟩
        · rw [z3]
          exact ch_y gch14 ho (sq_f gsq11 p1 d)
        · have e : ∀ E q q', rsF E q f = rsF E q' f := fun E q q' => by unfold rsF; rw [if_pos (by omega), if_pos (by omega)]
          rw [e _ q1 q]
          exact mfin_b F z4
def R264 (V : vS) (w y r : Int) (V' : vS) : Prop := (¬ (isU w ∧ 0 ≤ y ∧ y ≤ 9) ∧ r = -1 ∧ V' = V) ∨ ((isU w ∧ 0 ≤ y ∧ y ≤ 9) ∧ ((V 72 55 = 16 ∧ r = -3 ∧ V' = V) ∨ (V 72 55 ≠ 16 ∧ ∃ q f : Int, Pr (mT V) 11 0 0 q f ∧ mfin V (rsF (V 72 54) q f) w y r V')))
theorem c_264 {n : Nat} {X : aX} {h : aH} {x1 x2 : Int32} {a1 a2 : Int} (S : wS h) (z1 : x1.toInt = a1) (z2 : x2.toInt = a2) (hp : (0 ≤ vw h 72 54 ∧ vw h 72 54 ≤ 160) ∧ 0 ≤ vw h 72 55 ∧ vw h 72 55 ≤ 16) : Pt n X zM264 0 [some (.ref 72), some (.int x1), some (.int x2)] [] h (qI (fun y h' => R264 (vw h) a1 a2 y (vw h'))) := by
  refine pt_d (d264_0 S z1 z2 ⟨fun e => Or.inl ⟨fun z => e z.1, rfl, rfl⟩, fun e => ⟨fun e2 => ⟨fun ne _ _ g S2 eg => ?_, fun e3 => Or.inr ⟨⟨e, e2⟩, Or.inl ⟨e3, rfl, rfl⟩⟩⟩, fun e2 => Or.inl ⟨fun z => e2 z.2, rfl, rfl⟩⟩⟩)
  have s64 : vw g 72 64 = 0 := by rw [eg, up_j (by decide), up_j (by decide), up_s]
  have s65 : vw g 72 65 = -1 := by rw [eg, up_j (by decide), up_s]
  have s66 : vw g 72 66 = 0 := by rw [eg, up_s]
  have F : mfr (vw h) (vw g) := by rw [eg]; exact mfr_u (mfr_u (mfr_u (mfr_u (mfr_a (mfr_u (mfr_r _) (by decide)) (by decide)) (by decide)) (by decide)) (by decide)) (by decide)
  have e54 := mfr_54 F
  have e55 : vw g 72 55 = vw h 72 55 := F 72 55 (by decide) (by decide) (by decide) (by decide) (by decide) (fun _ => by decide)
  have eT := mfr_T F
  have H0 : mpre (vw g) := ⟨s65, by rw [s66]; decide, by rw [s64, e54]; exact ⟨Int.le_refl _, hp.1.1⟩, by rw [e54]; exact hp.1.2⟩
  refine ⟨H0, fun h23 k23 => ?_⟩
  have c := k23.2
  have H6 := mRes_p H0 c
  obtain ⟨F1, q1, f1, p1, b1, b2, b3, b4⟩ := c
  have pb := pr_b H0.2.2.1.1 p1
  rw [eT, s66, s64] at p1
  rw [s66] at b3
  have g55 : vw h23 72 55 = vw h 72 55 := (F1 72 55 (by decide) (by decide) (by decide) (by decide) (by decide) (fun _ => by decide)).trans e55
  refine pt_q (l_264 n h23 x1 x2 k23.1 z1 z2 H6 (by rw [g55]; omega)) ?_
  rintro v h' ⟨x, ex, y1, q, f, ⟨y2, y3⟩, y4⟩
  have y5 := mfin_b (mfr_t F F1) y4
  rw [mfr_54 F1, e54] at y5
  refine ⟨x, ex, Or.inr ⟨⟨e, e2⟩, Or.inr ⟨ne, ?_⟩⟩⟩
  rcases pb.1 with rfl | d
  · have y2 := y2 (by rw [b2]; decide)
    rw [mfr_T F1, eT, b3 (by decide), b1] at y2
    exact ⟨q, f, sq_n gsq11 p1 y2, y5⟩
  · have y3 := y3 (by omega)
    rw [b2] at y3
    refine ⟨q1, f, by rw [y3]; exact sq_f gsq11 p1 d, ?_⟩
    have e : ∀ E q q', rsF E q f = rsF E q' f := fun E q q' => by unfold rsF; rw [if_pos (by omega), if_pos (by omega)]
    rw [e _ q1 q]
    exact y5
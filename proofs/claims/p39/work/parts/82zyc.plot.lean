-- ===== plots, and what mix leaves =====
theorem tl_61 : tkL 61 0 8 = true := by decide +kernel
theorem tl_60 : tkL 60 0 8 = true := by decide +kernel
theorem tl_57 : tkL 57 0 8 = true := by decide +kernel
theorem tl_56 : tkL 56 0 6 = true := by decide +kernel
theorem tl_62 : tkL 62 0 6 = true := by decide +kernel
theorem tl_140 : tkL 140 0 8 = true := by decide +kernel
theorem tl_138 : tkL 138 0 6 = true := by decide +kernel
theorem tl_139 : tkL 139 0 6 = true := by decide +kernel
theorem tl_136 : tkL 136 0 6 = true := by decide +kernel
theorem tl_137 : tkL 137 0 8 = true := by decide +kernel
theorem tr_55_6 : tkR 55 6 60 = true := by decide +kernel
theorem tr_55_2 : tkR 55 2 57 = true := by decide +kernel
theorem tr_55_7 : tkR 55 7 61 = true := by decide +kernel
theorem tr_55_8 : tkR 55 8 62 = true := by decide +kernel
theorem tr_55_3 : tkR 55 3 58 = true := by decide +kernel
theorem tr_55_0 : tkR 55 0 56 = true := by decide +kernel
theorem tr_55_5 : tkR 55 5 59 = true := by decide +kernel
theorem tr_0_6 : tkR 0 6 55 = true := by decide +kernel
theorem tr_72_92 : tkR 72 92 140 = true := by decide +kernel
theorem tr_72_91 : tkR 72 91 139 = true := by decide +kernel
theorem tr_72_90 : tkR 72 90 138 = true := by decide +kernel
theorem tr_72_88 : tkR 72 88 136 = true := by decide +kernel
theorem tr_72_89 : tkR 72 89 137 = true := by decide +kernel
theorem gx332_0 : aF 0 zM332.2.2.2.2.2.2.2 = some (0, (.iconst 0), 1, 0, 0) := by decide +kernel
theorem gx332_1 : aF 1 zM332.2.2.2.2.2.2.2 = some (1, (.istore_n 2), 1, 0, 0) := by decide +kernel
theorem gx332_2 : aF 2 zM332.2.2.2.2.2.2.2 = some (2, (.aload_n 0), 1, 0, 0) := by decide +kernel
theorem gx332_3 : aF 3 zM332.2.2.2.2.2.2.2 = some (3, .arraylength, 1, 0, 0) := by decide +kernel
theorem gx332_4 : aF 4 zM332.2.2.2.2.2.2.2 = some (4, (.istore_n 3), 1, 0, 0) := by decide +kernel
theorem gx332_5 : aF 5 zM332.2.2.2.2.2.2.2 = some (5, (.iload_n 2), 1, 0, 0) := by decide +kernel
theorem gx332_6 : aF 6 zM332.2.2.2.2.2.2.2 = some (6, (.iload_n 3), 1, 0, 0) := by decide +kernel
theorem gx332_7 : aF 7 zM332.2.2.2.2.2.2.2 = some (7, (.if_icmp .ge 13), 3, 20, 0) := by decide +kernel
theorem gx332_20 : aF 20 zM332.2.2.2.2.2.2.2 = some (20, .return_, 1, 0, 0) := by decide +kernel
theorem gx332_10 : aF 10 zM332.2.2.2.2.2.2.2 = some (10, (.aload_n 0), 1, 0, 0) := by decide +kernel
theorem gx332_11 : aF 11 zM332.2.2.2.2.2.2.2 = some (11, (.iload_n 2), 1, 0, 0) := by decide +kernel
theorem gx332_12 : aF 12 zM332.2.2.2.2.2.2.2 = some (12, (.iload_n 1), 1, 0, 0) := by decide +kernel
theorem gx332_13 : aF 13 zM332.2.2.2.2.2.2.2 = some (13, .iastore, 1, 0, 0) := by decide +kernel
theorem gx332_14 : aF 14 zM332.2.2.2.2.2.2.2 = some (14, (.iinc 2 1), 3, 0, 0) := by decide +kernel
theorem gx332_17 : aF 17 zM332.2.2.2.2.2.2.2 = some (17, (.goto (-12)), 3, 5, 0) := by decide +kernel
theorem gx48_0 : aF 0 zM48.2.2.2.2.2.2.2 = some (0, (.iconst 0), 1, 0, 0) := by decide +kernel
theorem gx48_1 : aF 1 zM48.2.2.2.2.2.2.2 = some (1, (.istore_n 1), 1, 0, 0) := by decide +kernel
theorem gx48_2 : aF 2 zM48.2.2.2.2.2.2.2 = some (2, (.iload_n 1), 1, 0, 0) := by decide +kernel
theorem gx48_3 : aF 3 zM48.2.2.2.2.2.2.2 = some (3, (.bipush 8), 2, 0, 0) := by decide +kernel
theorem gx48_5 : aF 5 zM48.2.2.2.2.2.2.2 = some (5, (.if_icmp .ge 64), 3, 69, 0) := by decide +kernel
theorem gx48_69 : aF 69 zM48.2.2.2.2.2.2.2 = some (69, .return_, 1, 0, 0) := by decide +kernel
theorem gx48_8 : aF 8 zM48.2.2.2.2.2.2.2 = some (8, (.iload_n 1), 1, 0, 0) := by decide +kernel
theorem gx48_9 : aF 9 zM48.2.2.2.2.2.2.2 = some (9, (.istore_n 2), 1, 0, 0) := by decide +kernel
theorem gx48_10 : aF 10 zM48.2.2.2.2.2.2.2 = some (10, (.iload_n 2), 1, 0, 0) := by decide +kernel
theorem gx48_11 : aF 11 zM48.2.2.2.2.2.2.2 = some (11, (.ifCond .le 45), 3, 56, 0) := by decide +kernel
theorem gx48_56 : aF 56 zM48.2.2.2.2.2.2.2 = some (56, (.aload_n 0), 1, 0, 0) := by decide +kernel
theorem gx48_57 : aF 57 zM48.2.2.2.2.2.2.2 = some (57, (.getfield 24), 3, 4, 6) := by decide +kernel
theorem gx48_60 : aF 60 zM48.2.2.2.2.2.2.2 = some (60, (.iload_n 2), 1, 0, 0) := by decide +kernel
theorem gx48_61 : aF 61 zM48.2.2.2.2.2.2.2 = some (61, (.iload_n 1), 1, 0, 0) := by decide +kernel
theorem gx48_62 : aF 62 zM48.2.2.2.2.2.2.2 = some (62, .iastore, 1, 0, 0) := by decide +kernel
theorem gx48_63 : aF 63 zM48.2.2.2.2.2.2.2 = some (63, (.iinc 1 1), 3, 0, 0) := by decide +kernel
theorem gx48_66 : aF 66 zM48.2.2.2.2.2.2.2 = some (66, (.goto (-64)), 3, 2, 0) := by decide +kernel
theorem gx48_14 : aF 14 zM48.2.2.2.2.2.2.2 = some (14, (.aload_n 0), 1, 0, 0) := by decide +kernel
theorem gx48_15 : aF 15 zM48.2.2.2.2.2.2.2 = some (15, (.getfield 15), 3, 4, 2) := by decide +kernel
theorem gx48_18 : aF 18 zM48.2.2.2.2.2.2.2 = some (18, (.aload_n 0), 1, 0, 0) := by decide +kernel
theorem gx48_19 : aF 19 zM48.2.2.2.2.2.2.2 = some (19, (.getfield 24), 3, 4, 6) := by decide +kernel
theorem gx48_22 : aF 22 zM48.2.2.2.2.2.2.2 = some (22, (.iload_n 2), 1, 0, 0) := by decide +kernel
theorem gx48_23 : aF 23 zM48.2.2.2.2.2.2.2 = some (23, (.iconst 1), 1, 0, 0) := by decide +kernel
theorem gx48_24 : aF 24 zM48.2.2.2.2.2.2.2 = some (24, .isub, 1, 0, 0) := by decide +kernel
theorem gx48_25 : aF 25 zM48.2.2.2.2.2.2.2 = some (25, .iaload, 1, 0, 0) := by decide +kernel
theorem gx48_26 : aF 26 zM48.2.2.2.2.2.2.2 = some (26, .iaload, 1, 0, 0) := by decide +kernel
theorem gx48_27 : aF 27 zM48.2.2.2.2.2.2.2 = some (27, (.aload_n 0), 1, 0, 0) := by decide +kernel
theorem gx48_28 : aF 28 zM48.2.2.2.2.2.2.2 = some (28, (.getfield 15), 3, 4, 2) := by decide +kernel
theorem gx48_31 : aF 31 zM48.2.2.2.2.2.2.2 = some (31, (.iload_n 1), 1, 0, 0) := by decide +kernel
theorem gx48_32 : aF 32 zM48.2.2.2.2.2.2.2 = some (32, .iaload, 1, 0, 0) := by decide +kernel
theorem gx48_33 : aF 33 zM48.2.2.2.2.2.2.2 = some (33, (.if_icmp .ge 23), 3, 56, 0) := by decide +kernel
theorem gx48_36 : aF 36 zM48.2.2.2.2.2.2.2 = some (36, (.aload_n 0), 1, 0, 0) := by decide +kernel
theorem gx48_37 : aF 37 zM48.2.2.2.2.2.2.2 = some (37, (.getfield 24), 3, 4, 6) := by decide +kernel
theorem gx48_40 : aF 40 zM48.2.2.2.2.2.2.2 = some (40, (.iload_n 2), 1, 0, 0) := by decide +kernel
theorem gx48_41 : aF 41 zM48.2.2.2.2.2.2.2 = some (41, (.aload_n 0), 1, 0, 0) := by decide +kernel
theorem gx48_42 : aF 42 zM48.2.2.2.2.2.2.2 = some (42, (.getfield 24), 3, 4, 6) := by decide +kernel
theorem gx48_45 : aF 45 zM48.2.2.2.2.2.2.2 = some (45, (.iload_n 2), 1, 0, 0) := by decide +kernel
theorem gx48_46 : aF 46 zM48.2.2.2.2.2.2.2 = some (46, (.iconst 1), 1, 0, 0) := by decide +kernel
theorem gx48_47 : aF 47 zM48.2.2.2.2.2.2.2 = some (47, .isub, 1, 0, 0) := by decide +kernel
theorem gx48_48 : aF 48 zM48.2.2.2.2.2.2.2 = some (48, .iaload, 1, 0, 0) := by decide +kernel
theorem gx48_49 : aF 49 zM48.2.2.2.2.2.2.2 = some (49, .iastore, 1, 0, 0) := by decide +kernel
theorem gx48_50 : aF 50 zM48.2.2.2.2.2.2.2 = some (50, (.iinc 2 (-1)), 3, 0, 0) := by decide +kernel
theorem gx48_53 : aF 53 zM48.2.2.2.2.2.2.2 = some (53, (.goto (-43)), 3, 10, 0) := by decide +kernel
theorem gx51_0 : aF 0 zM51.2.2.2.2.2.2.2 = some (0, (.iload_n 2), 1, 0, 0) := by decide +kernel
theorem gx51_1 : aF 1 zM51.2.2.2.2.2.2.2 = some (1, (.istore_n 3), 1, 0, 0) := by decide +kernel
theorem gx51_2 : aF 2 zM51.2.2.2.2.2.2.2 = some (2, (.iload_n 1), 1, 0, 0) := by decide +kernel
theorem gx51_3 : aF 3 zM51.2.2.2.2.2.2.2 = some (3, (.istore 4), 2, 0, 0) := by decide +kernel
theorem gx51_5 : aF 5 zM51.2.2.2.2.2.2.2 = some (5, (.iconst 0), 1, 0, 0) := by decide +kernel
theorem gx51_6 : aF 6 zM51.2.2.2.2.2.2.2 = some (6, (.istore 5), 2, 0, 0) := by decide +kernel
theorem gx51_8 : aF 8 zM51.2.2.2.2.2.2.2 = some (8, (.iload 5), 2, 0, 0) := by decide +kernel
theorem gx51_10 : aF 10 zM51.2.2.2.2.2.2.2 = some (10, (.bipush 8), 2, 0, 0) := by decide +kernel
theorem gx51_12 : aF 12 zM51.2.2.2.2.2.2.2 = some (12, (.if_icmp .ge 63), 3, 75, 0) := by decide +kernel
theorem gx51_75 : aF 75 zM51.2.2.2.2.2.2.2 = some (75, (.iload 4), 2, 0, 0) := by decide +kernel
theorem gx51_77 : aF 77 zM51.2.2.2.2.2.2.2 = some (77, (.ifCond .le 7), 3, 84, 0) := by decide +kernel
theorem gx51_84 : aF 84 zM51.2.2.2.2.2.2.2 = some (84, (.iload_n 3), 1, 0, 0) := by decide +kernel
theorem gx51_85 : aF 85 zM51.2.2.2.2.2.2.2 = some (85, .ireturn, 1, 0, 0) := by decide +kernel
theorem gx51_80 : aF 80 zM51.2.2.2.2.2.2.2 = some (80, (.iconst (-1)), 1, 0, 0) := by decide +kernel
theorem gx51_81 : aF 81 zM51.2.2.2.2.2.2.2 = some (81, (.goto 4), 3, 85, 0) := by decide +kernel
theorem gx51_15 : aF 15 zM51.2.2.2.2.2.2.2 = some (15, (.iload 4), 2, 0, 0) := by decide +kernel
theorem gx51_17 : aF 17 zM51.2.2.2.2.2.2.2 = some (17, (.ifCond .le 58), 3, 75, 0) := by decide +kernel
theorem gx51_20 : aF 20 zM51.2.2.2.2.2.2.2 = some (20, (.iload 4), 2, 0, 0) := by decide +kernel
theorem gx51_22 : aF 22 zM51.2.2.2.2.2.2.2 = some (22, (.aload_n 0), 1, 0, 0) := by decide +kernel
theorem gx51_23 : aF 23 zM51.2.2.2.2.2.2.2 = some (23, (.getfield 43), 3, 4, 9) := by decide +kernel
theorem gx51_26 : aF 26 zM51.2.2.2.2.2.2.2 = some (26, (.aload_n 0), 1, 0, 0) := by decide +kernel
theorem gx51_27 : aF 27 zM51.2.2.2.2.2.2.2 = some (27, (.getfield 27), 3, 4, 7) := by decide +kernel
theorem gx51_30 : aF 30 zM51.2.2.2.2.2.2.2 = some (30, (.aload_n 0), 1, 0, 0) := by decide +kernel
theorem gx51_31 : aF 31 zM51.2.2.2.2.2.2.2 = some (31, (.getfield 24), 3, 4, 6) := by decide +kernel
theorem gx51_34 : aF 34 zM51.2.2.2.2.2.2.2 = some (34, (.iload 5), 2, 0, 0) := by decide +kernel
theorem gx51_36 : aF 36 zM51.2.2.2.2.2.2.2 = some (36, .iaload, 1, 0, 0) := by decide +kernel
theorem gx51_37 : aF 37 zM51.2.2.2.2.2.2.2 = some (37, .iaload, 1, 0, 0) := by decide +kernel
theorem gx51_38 : aF 38 zM51.2.2.2.2.2.2.2 = some (38, .isub, 1, 0, 0) := by decide +kernel
theorem gx51_39 : aF 39 zM51.2.2.2.2.2.2.2 = some (39, (.invokestatic 85), 3, 1011, 0) := by decide +kernel
theorem gx51_42 : aF 42 zM51.2.2.2.2.2.2.2 = some (42, (.istore 6), 2, 0, 0) := by decide +kernel
theorem gx51_44 : aF 44 zM51.2.2.2.2.2.2.2 = some (44, (.iload_n 3), 1, 0, 0) := by decide +kernel
theorem gx51_45 : aF 45 zM51.2.2.2.2.2.2.2 = some (45, (.iload 6), 2, 0, 0) := by decide +kernel
theorem gx51_47 : aF 47 zM51.2.2.2.2.2.2.2 = some (47, (.aload_n 0), 1, 0, 0) := by decide +kernel
theorem gx51_48 : aF 48 zM51.2.2.2.2.2.2.2 = some (48, (.getfield 15), 3, 4, 2) := by decide +kernel
theorem gx51_51 : aF 51 zM51.2.2.2.2.2.2.2 = some (51, (.aload_n 0), 1, 0, 0) := by decide +kernel
theorem gx51_52 : aF 52 zM51.2.2.2.2.2.2.2 = some (52, (.getfield 24), 3, 4, 6) := by decide +kernel
theorem gx51_55 : aF 55 zM51.2.2.2.2.2.2.2 = some (55, (.iload 5), 2, 0, 0) := by decide +kernel
theorem gx51_57 : aF 57 zM51.2.2.2.2.2.2.2 = some (57, .iaload, 1, 0, 0) := by decide +kernel
theorem gx51_58 : aF 58 zM51.2.2.2.2.2.2.2 = some (58, .iaload, 1, 0, 0) := by decide +kernel
theorem gx51_59 : aF 59 zM51.2.2.2.2.2.2.2 = some (59, .imul, 1, 0, 0) := by decide +kernel
theorem gx51_60 : aF 60 zM51.2.2.2.2.2.2.2 = some (60, .iadd, 1, 0, 0) := by decide +kernel
theorem gx51_61 : aF 61 zM51.2.2.2.2.2.2.2 = some (61, (.istore_n 3), 1, 0, 0) := by decide +kernel
theorem gx51_62 : aF 62 zM51.2.2.2.2.2.2.2 = some (62, (.iload 4), 2, 0, 0) := by decide +kernel
theorem gx51_64 : aF 64 zM51.2.2.2.2.2.2.2 = some (64, (.iload 6), 2, 0, 0) := by decide +kernel
theorem gx51_66 : aF 66 zM51.2.2.2.2.2.2.2 = some (66, .isub, 1, 0, 0) := by decide +kernel
theorem gx51_67 : aF 67 zM51.2.2.2.2.2.2.2 = some (67, (.istore 4), 2, 0, 0) := by decide +kernel
theorem gx51_69 : aF 69 zM51.2.2.2.2.2.2.2 = some (69, (.iinc 5 1), 3, 0, 0) := by decide +kernel
theorem gx51_72 : aF 72 zM51.2.2.2.2.2.2.2 = some (72, (.goto (-64)), 3, 8, 0) := by decide +kernel
theorem gx50_0 : aF 0 zM50.2.2.2.2.2.2.2 = some (0, (.iconst 0), 1, 0, 0) := by decide +kernel
theorem gx50_1 : aF 1 zM50.2.2.2.2.2.2.2 = some (1, (.istore_n 3), 1, 0, 0) := by decide +kernel
theorem gx50_2 : aF 2 zM50.2.2.2.2.2.2.2 = some (2, (.iload_n 3), 1, 0, 0) := by decide +kernel
theorem gx50_3 : aF 3 zM50.2.2.2.2.2.2.2 = some (3, (.iload_n 1), 1, 0, 0) := by decide +kernel
theorem gx50_4 : aF 4 zM50.2.2.2.2.2.2.2 = some (4, (.if_icmp .ge 41), 3, 45, 0) := by decide +kernel
theorem gx50_45 : aF 45 zM50.2.2.2.2.2.2.2 = some (45, (.iconst 1), 1, 0, 0) := by decide +kernel
theorem gx50_46 : aF 46 zM50.2.2.2.2.2.2.2 = some (46, .ireturn, 1, 0, 0) := by decide +kernel
theorem gx50_7 : aF 7 zM50.2.2.2.2.2.2.2 = some (7, (.aload_n 0), 1, 0, 0) := by decide +kernel
theorem gx50_8 : aF 8 zM50.2.2.2.2.2.2.2 = some (8, (.getfield 27), 3, 4, 7) := by decide +kernel
theorem gx50_11 : aF 11 zM50.2.2.2.2.2.2.2 = some (11, (.aload_n 2), 1, 0, 0) := by decide +kernel
theorem gx50_12 : aF 12 zM50.2.2.2.2.2.2.2 = some (12, (.iload_n 3), 1, 0, 0) := by decide +kernel
theorem gx50_13 : aF 13 zM50.2.2.2.2.2.2.2 = some (13, .iaload, 1, 0, 0) := by decide +kernel
theorem gx50_14 : aF 14 zM50.2.2.2.2.2.2.2 = some (14, .iaload, 1, 0, 0) := by decide +kernel
theorem gx50_15 : aF 15 zM50.2.2.2.2.2.2.2 = some (15, (.ifCond .ne 24), 3, 39, 0) := by decide +kernel
theorem gx50_39 : aF 39 zM50.2.2.2.2.2.2.2 = some (39, (.iinc 3 1), 3, 0, 0) := by decide +kernel
theorem gx50_42 : aF 42 zM50.2.2.2.2.2.2.2 = some (42, (.goto (-40)), 3, 2, 0) := by decide +kernel
theorem gx50_18 : aF 18 zM50.2.2.2.2.2.2.2 = some (18, (.aload_n 0), 1, 0, 0) := by decide +kernel
theorem gx50_19 : aF 19 zM50.2.2.2.2.2.2.2 = some (19, (.getfield 15), 3, 4, 2) := by decide +kernel
theorem gx50_22 : aF 22 zM50.2.2.2.2.2.2.2 = some (22, (.aload_n 2), 1, 0, 0) := by decide +kernel
theorem gx50_23 : aF 23 zM50.2.2.2.2.2.2.2 = some (23, (.iload_n 3), 1, 0, 0) := by decide +kernel
theorem gx50_24 : aF 24 zM50.2.2.2.2.2.2.2 = some (24, .iaload, 1, 0, 0) := by decide +kernel
theorem gx50_25 : aF 25 zM50.2.2.2.2.2.2.2 = some (25, .iaload, 1, 0, 0) := by decide +kernel
theorem gx50_26 : aF 26 zM50.2.2.2.2.2.2.2 = some (26, (.aload_n 0), 1, 0, 0) := by decide +kernel
theorem gx50_27 : aF 27 zM50.2.2.2.2.2.2.2 = some (27, (.getfield 15), 3, 4, 2) := by decide +kernel
theorem gx50_30 : aF 30 zM50.2.2.2.2.2.2.2 = some (30, (.aload_n 2), 1, 0, 0) := by decide +kernel
theorem gx50_31 : aF 31 zM50.2.2.2.2.2.2.2 = some (31, (.iload_n 1), 1, 0, 0) := by decide +kernel
theorem gx50_32 : aF 32 zM50.2.2.2.2.2.2.2 = some (32, .iaload, 1, 0, 0) := by decide +kernel
theorem gx50_33 : aF 33 zM50.2.2.2.2.2.2.2 = some (33, .iaload, 1, 0, 0) := by decide +kernel
theorem gx50_34 : aF 34 zM50.2.2.2.2.2.2.2 = some (34, (.if_icmp .ne 5), 3, 39, 0) := by decide +kernel
theorem gx50_37 : aF 37 zM50.2.2.2.2.2.2.2 = some (37, (.iconst 0), 1, 0, 0) := by decide +kernel
theorem gx50_38 : aF 38 zM50.2.2.2.2.2.2.2 = some (38, .ireturn, 1, 0, 0) := by decide +kernel
theorem gx49_0 : aF 0 zM49.2.2.2.2.2.2.2 = some (0, (.iload 5), 2, 0, 0) := by decide +kernel
theorem gx49_2 : aF 2 zM49.2.2.2.2.2.2.2 = some (2, (.aload_n 0), 1, 0, 0) := by decide +kernel
theorem gx49_3 : aF 3 zM49.2.2.2.2.2.2.2 = some (3, (.getfield 33), 3, 4, 1) := by decide +kernel
theorem gx49_6 : aF 6 zM49.2.2.2.2.2.2.2 = some (6, .iadd, 1, 0, 0) := by decide +kernel
theorem gx49_7 : aF 7 zM49.2.2.2.2.2.2.2 = some (7, (.iload_n 1), 1, 0, 0) := by decide +kernel
theorem gx49_8 : aF 8 zM49.2.2.2.2.2.2.2 = some (8, .isub, 1, 0, 0) := by decide +kernel
theorem gx49_9 : aF 9 zM49.2.2.2.2.2.2.2 = some (9, (.aload_n 0), 1, 0, 0) := by decide +kernel
theorem gx49_10 : aF 10 zM49.2.2.2.2.2.2.2 = some (10, (.getfield 46), 3, 4, 10) := by decide +kernel
theorem gx49_13 : aF 13 zM49.2.2.2.2.2.2.2 = some (13, (.if_icmp .lt 17), 3, 30, 0) := by decide +kernel
theorem gx49_30 : aF 30 zM49.2.2.2.2.2.2.2 = some (30, .return_, 1, 0, 0) := by decide +kernel
theorem gx49_16 : aF 16 zM49.2.2.2.2.2.2.2 = some (16, (.aload_n 0), 1, 0, 0) := by decide +kernel
theorem gx49_17 : aF 17 zM49.2.2.2.2.2.2.2 = some (17, (.iload_n 3), 1, 0, 0) := by decide +kernel
theorem gx49_18 : aF 18 zM49.2.2.2.2.2.2.2 = some (18, (.iload 4), 2, 0, 0) := by decide +kernel
theorem gx49_20 : aF 20 zM49.2.2.2.2.2.2.2 = some (20, (.invokevirtual 72), 3, 51, 0) := by decide +kernel
theorem gx49_23 : aF 23 zM49.2.2.2.2.2.2.2 = some (23, (.aload_n 0), 1, 0, 0) := by decide +kernel
theorem gx49_24 : aF 24 zM49.2.2.2.2.2.2.2 = some (24, (.getfield 65), 3, 4, 11) := by decide +kernel
theorem gx49_27 : aF 27 zM49.2.2.2.2.2.2.2 = some (27, (.if_icmp .gt 4), 3, 31, 0) := by decide +kernel
theorem gx49_31 : aF 31 zM49.2.2.2.2.2.2.2 = some (31, (.iload_n 1), 1, 0, 0) := by decide +kernel
theorem gx49_32 : aF 32 zM49.2.2.2.2.2.2.2 = some (32, (.aload_n 0), 1, 0, 0) := by decide +kernel
theorem gx49_33 : aF 33 zM49.2.2.2.2.2.2.2 = some (33, (.getfield 33), 3, 4, 1) := by decide +kernel
theorem gx49_36 : aF 36 zM49.2.2.2.2.2.2.2 = some (36, (.if_icmp .ge 9), 3, 45, 0) := by decide +kernel
theorem gx49_45 : aF 45 zM49.2.2.2.2.2.2.2 = some (45, (.aload_n 0), 1, 0, 0) := by decide +kernel
theorem gx49_46 : aF 46 zM49.2.2.2.2.2.2.2 = some (46, (.iload 4), 2, 0, 0) := by decide +kernel
theorem gx49_48 : aF 48 zM49.2.2.2.2.2.2.2 = some (48, (.putfield 65), 3, 4, 11) := by decide +kernel
theorem gx49_51 : aF 51 zM49.2.2.2.2.2.2.2 = some (51, (.aload_n 0), 1, 0, 0) := by decide +kernel
theorem gx49_52 : aF 52 zM49.2.2.2.2.2.2.2 = some (52, (.getfield 30), 3, 4, 8) := by decide +kernel
theorem gx49_55 : aF 55 zM49.2.2.2.2.2.2.2 = some (55, (.iconst 0), 1, 0, 0) := by decide +kernel
theorem gx49_56 : aF 56 zM49.2.2.2.2.2.2.2 = some (56, (.aload_n 0), 1, 0, 0) := by decide +kernel
theorem gx49_57 : aF 57 zM49.2.2.2.2.2.2.2 = some (57, (.getfield 18), 3, 4, 3) := by decide +kernel
theorem gx49_60 : aF 60 zM49.2.2.2.2.2.2.2 = some (60, (.iconst 0), 1, 0, 0) := by decide +kernel
theorem gx49_61 : aF 61 zM49.2.2.2.2.2.2.2 = some (61, (.aload_n 0), 1, 0, 0) := by decide +kernel
theorem gx49_62 : aF 62 zM49.2.2.2.2.2.2.2 = some (62, (.getfield 33), 3, 4, 1) := by decide +kernel
theorem gx49_65 : aF 65 zM49.2.2.2.2.2.2.2 = some (65, (.invokestatic 75), 3, 1002, 0) := by decide +kernel
theorem gx49_68 : aF 68 zM49.2.2.2.2.2.2.2 = some (68, .return_, 1, 0, 0) := by decide +kernel
theorem gx49_39 : aF 39 zM49.2.2.2.2.2.2.2 = some (39, (.iload_n 1), 1, 0, 0) := by decide +kernel
theorem gx49_40 : aF 40 zM49.2.2.2.2.2.2.2 = some (40, (.bipush 6), 2, 0, 0) := by decide +kernel
theorem gx49_42 : aF 42 zM49.2.2.2.2.2.2.2 = some (42, (.if_icmp .lt 27), 3, 69, 0) := by decide +kernel
theorem gx49_69 : aF 69 zM49.2.2.2.2.2.2.2 = some (69, (.aload_n 0), 1, 0, 0) := by decide +kernel
theorem gx49_70 : aF 70 zM49.2.2.2.2.2.2.2 = some (70, (.getfield 9), 3, 4, 0) := by decide +kernel
theorem gx49_73 : aF 73 zM49.2.2.2.2.2.2.2 = some (73, (.iload_n 1), 1, 0, 0) := by decide +kernel
theorem gx49_74 : aF 74 zM49.2.2.2.2.2.2.2 = some (74, .iaload, 1, 0, 0) := by decide +kernel
theorem gx49_75 : aF 75 zM49.2.2.2.2.2.2.2 = some (75, (.istore 6), 2, 0, 0) := by decide +kernel
theorem gx49_77 : aF 77 zM49.2.2.2.2.2.2.2 = some (77, (.iconst 0), 1, 0, 0) := by decide +kernel
theorem gx49_78 : aF 78 zM49.2.2.2.2.2.2.2 = some (78, (.istore 7), 2, 0, 0) := by decide +kernel
theorem gx49_80 : aF 80 zM49.2.2.2.2.2.2.2 = some (80, (.iload 7), 2, 0, 0) := by decide +kernel
theorem gx49_82 : aF 82 zM49.2.2.2.2.2.2.2 = some (82, (.bipush 8), 2, 0, 0) := by decide +kernel
theorem gx49_84 : aF 84 zM49.2.2.2.2.2.2.2 = some (84, (.if_icmp .ge 131), 3, 215, 0) := by decide +kernel
theorem gx49_215 : aF 215 zM49.2.2.2.2.2.2.2 = some (215, .return_, 1, 0, 0) := by decide +kernel
theorem gx49_87 : aF 87 zM49.2.2.2.2.2.2.2 = some (87, (.aload_n 2), 1, 0, 0) := by decide +kernel
theorem gx49_88 : aF 88 zM49.2.2.2.2.2.2.2 = some (88, (.iload 7), 2, 0, 0) := by decide +kernel
theorem gx49_90 : aF 90 zM49.2.2.2.2.2.2.2 = some (90, .iaload, 1, 0, 0) := by decide +kernel
theorem gx49_91 : aF 91 zM49.2.2.2.2.2.2.2 = some (91, (.istore 8), 2, 0, 0) := by decide +kernel
theorem gx49_93 : aF 93 zM49.2.2.2.2.2.2.2 = some (93, (.aload_n 0), 1, 0, 0) := by decide +kernel
theorem gx49_94 : aF 94 zM49.2.2.2.2.2.2.2 = some (94, (.getfield 27), 3, 4, 7) := by decide +kernel
theorem gx49_97 : aF 97 zM49.2.2.2.2.2.2.2 = some (97, (.iload 8), 2, 0, 0) := by decide +kernel
theorem gx49_99 : aF 99 zM49.2.2.2.2.2.2.2 = some (99, .iaload, 1, 0, 0) := by decide +kernel
theorem gx49_100 : aF 100 zM49.2.2.2.2.2.2.2 = some (100, (.iload 6), 2, 0, 0) := by decide +kernel
theorem gx49_102 : aF 102 zM49.2.2.2.2.2.2.2 = some (102, .iadd, 1, 0, 0) := by decide +kernel
theorem gx49_103 : aF 103 zM49.2.2.2.2.2.2.2 = some (103, (.aload_n 0), 1, 0, 0) := by decide +kernel
theorem gx49_104 : aF 104 zM49.2.2.2.2.2.2.2 = some (104, (.getfield 43), 3, 4, 9) := by decide +kernel
theorem gx49_107 : aF 107 zM49.2.2.2.2.2.2.2 = some (107, (.if_icmp .gt 102), 3, 209, 0) := by decide +kernel
theorem gx49_209 : aF 209 zM49.2.2.2.2.2.2.2 = some (209, (.iinc 7 1), 3, 0, 0) := by decide +kernel
theorem gx49_212 : aF 212 zM49.2.2.2.2.2.2.2 = some (212, (.goto (-132)), 3, 80, 0) := by decide +kernel
theorem gx49_110 : aF 110 zM49.2.2.2.2.2.2.2 = some (110, (.aload_n 0), 1, 0, 0) := by decide +kernel
theorem gx49_111 : aF 111 zM49.2.2.2.2.2.2.2 = some (111, (.getfield 27), 3, 4, 7) := by decide +kernel
theorem gx49_114 : aF 114 zM49.2.2.2.2.2.2.2 = some (114, (.iload 8), 2, 0, 0) := by decide +kernel
theorem gx49_116 : aF 116 zM49.2.2.2.2.2.2.2 = some (116, .iaload, 1, 0, 0) := by decide +kernel
theorem gx49_117 : aF 117 zM49.2.2.2.2.2.2.2 = some (117, (.ifCond .gt 13), 3, 130, 0) := by decide +kernel
theorem gx49_130 : aF 130 zM49.2.2.2.2.2.2.2 = some (130, (.aload_n 0), 1, 0, 0) := by decide +kernel
theorem gx49_131 : aF 131 zM49.2.2.2.2.2.2.2 = some (131, (.getfield 27), 3, 4, 7) := by decide +kernel
theorem gx49_134 : aF 134 zM49.2.2.2.2.2.2.2 = some (134, (.iload 8), 2, 0, 0) := by decide +kernel
theorem gx49_136 : aF 136 zM49.2.2.2.2.2.2.2 = some (136, .iaload, 1, 0, 0) := by decide +kernel
theorem gx49_137 : aF 137 zM49.2.2.2.2.2.2.2 = some (137, (.ifCond .ne 7), 3, 144, 0) := by decide +kernel
theorem gx49_144 : aF 144 zM49.2.2.2.2.2.2.2 = some (144, (.iconst 0), 1, 0, 0) := by decide +kernel
theorem gx49_145 : aF 145 zM49.2.2.2.2.2.2.2 = some (145, (.istore 9), 2, 0, 0) := by decide +kernel
theorem gx49_147 : aF 147 zM49.2.2.2.2.2.2.2 = some (147, (.aload_n 0), 1, 0, 0) := by decide +kernel
theorem gx49_148 : aF 148 zM49.2.2.2.2.2.2.2 = some (148, (.getfield 27), 3, 4, 7) := by decide +kernel
theorem gx49_151 : aF 151 zM49.2.2.2.2.2.2.2 = some (151, (.iload 8), 2, 0, 0) := by decide +kernel
theorem gx49_153 : aF 153 zM49.2.2.2.2.2.2.2 = some (153, .dup2, 1, 0, 0) := by decide +kernel
theorem gx49_154 : aF 154 zM49.2.2.2.2.2.2.2 = some (154, .iaload, 1, 0, 0) := by decide +kernel
theorem gx49_155 : aF 155 zM49.2.2.2.2.2.2.2 = some (155, (.iload 6), 2, 0, 0) := by decide +kernel
theorem gx49_157 : aF 157 zM49.2.2.2.2.2.2.2 = some (157, .iadd, 1, 0, 0) := by decide +kernel
theorem gx49_158 : aF 158 zM49.2.2.2.2.2.2.2 = some (158, .iastore, 1, 0, 0) := by decide +kernel
theorem gx49_159 : aF 159 zM49.2.2.2.2.2.2.2 = some (159, (.aload_n 0), 1, 0, 0) := by decide +kernel
theorem gx49_160 : aF 160 zM49.2.2.2.2.2.2.2 = some (160, (.getfield 30), 3, 4, 8) := by decide +kernel
theorem gx49_163 : aF 163 zM49.2.2.2.2.2.2.2 = some (163, (.iload_n 1), 1, 0, 0) := by decide +kernel
theorem gx49_164 : aF 164 zM49.2.2.2.2.2.2.2 = some (164, (.iload 8), 2, 0, 0) := by decide +kernel
theorem gx49_166 : aF 166 zM49.2.2.2.2.2.2.2 = some (166, .iastore, 1, 0, 0) := by decide +kernel
theorem gx49_167 : aF 167 zM49.2.2.2.2.2.2.2 = some (167, (.aload_n 0), 1, 0, 0) := by decide +kernel
theorem gx49_168 : aF 168 zM49.2.2.2.2.2.2.2 = some (168, (.iload_n 1), 1, 0, 0) := by decide +kernel
theorem gx49_169 : aF 169 zM49.2.2.2.2.2.2.2 = some (169, (.iconst 1), 1, 0, 0) := by decide +kernel
theorem gx49_170 : aF 170 zM49.2.2.2.2.2.2.2 = some (170, .iadd, 1, 0, 0) := by decide +kernel
theorem gx49_171 : aF 171 zM49.2.2.2.2.2.2.2 = some (171, (.aload_n 2), 1, 0, 0) := by decide +kernel
theorem gx49_172 : aF 172 zM49.2.2.2.2.2.2.2 = some (172, (.iload_n 3), 1, 0, 0) := by decide +kernel
theorem gx49_173 : aF 173 zM49.2.2.2.2.2.2.2 = some (173, (.iload 6), 2, 0, 0) := by decide +kernel
theorem gx49_175 : aF 175 zM49.2.2.2.2.2.2.2 = some (175, .isub, 1, 0, 0) := by decide +kernel
theorem gx49_176 : aF 176 zM49.2.2.2.2.2.2.2 = some (176, (.iload 4), 2, 0, 0) := by decide +kernel
theorem gx49_178 : aF 178 zM49.2.2.2.2.2.2.2 = some (178, (.iload 6), 2, 0, 0) := by decide +kernel
theorem gx49_180 : aF 180 zM49.2.2.2.2.2.2.2 = some (180, (.aload_n 0), 1, 0, 0) := by decide +kernel
theorem gx49_181 : aF 181 zM49.2.2.2.2.2.2.2 = some (181, (.getfield 15), 3, 4, 2) := by decide +kernel
theorem gx49_184 : aF 184 zM49.2.2.2.2.2.2.2 = some (184, (.iload 8), 2, 0, 0) := by decide +kernel
theorem gx49_186 : aF 186 zM49.2.2.2.2.2.2.2 = some (186, .iaload, 1, 0, 0) := by decide +kernel
theorem gx49_187 : aF 187 zM49.2.2.2.2.2.2.2 = some (187, .imul, 1, 0, 0) := by decide +kernel
theorem gx49_188 : aF 188 zM49.2.2.2.2.2.2.2 = some (188, .iadd, 1, 0, 0) := by decide +kernel
theorem gx49_189 : aF 189 zM49.2.2.2.2.2.2.2 = some (189, (.iload 5), 2, 0, 0) := by decide +kernel
theorem gx49_191 : aF 191 zM49.2.2.2.2.2.2.2 = some (191, (.iload 9), 2, 0, 0) := by decide +kernel
theorem gx49_193 : aF 193 zM49.2.2.2.2.2.2.2 = some (193, .iadd, 1, 0, 0) := by decide +kernel
theorem gx49_194 : aF 194 zM49.2.2.2.2.2.2.2 = some (194, (.invokevirtual 68), 3, 49, 0) := by decide +kernel
theorem gx49_197 : aF 197 zM49.2.2.2.2.2.2.2 = some (197, (.aload_n 0), 1, 0, 0) := by decide +kernel
theorem gx49_198 : aF 198 zM49.2.2.2.2.2.2.2 = some (198, (.getfield 27), 3, 4, 7) := by decide +kernel
theorem gx49_201 : aF 201 zM49.2.2.2.2.2.2.2 = some (201, (.iload 8), 2, 0, 0) := by decide +kernel
theorem gx49_203 : aF 203 zM49.2.2.2.2.2.2.2 = some (203, .dup2, 1, 0, 0) := by decide +kernel
theorem gx49_204 : aF 204 zM49.2.2.2.2.2.2.2 = some (204, .iaload, 1, 0, 0) := by decide +kernel
theorem gx49_205 : aF 205 zM49.2.2.2.2.2.2.2 = some (205, (.iload 6), 2, 0, 0) := by decide +kernel
theorem gx49_207 : aF 207 zM49.2.2.2.2.2.2.2 = some (207, .isub, 1, 0, 0) := by decide +kernel
theorem gx49_208 : aF 208 zM49.2.2.2.2.2.2.2 = some (208, .iastore, 1, 0, 0) := by decide +kernel
theorem gx49_140 : aF 140 zM49.2.2.2.2.2.2.2 = some (140, (.iconst 1), 1, 0, 0) := by decide +kernel
theorem gx49_141 : aF 141 zM49.2.2.2.2.2.2.2 = some (141, (.goto 4), 3, 145, 0) := by decide +kernel
theorem gx49_120 : aF 120 zM49.2.2.2.2.2.2.2 = some (120, (.aload_n 0), 1, 0, 0) := by decide +kernel
theorem gx49_121 : aF 121 zM49.2.2.2.2.2.2.2 = some (121, (.iload 7), 2, 0, 0) := by decide +kernel
theorem gx49_123 : aF 123 zM49.2.2.2.2.2.2.2 = some (123, (.aload_n 2), 1, 0, 0) := by decide +kernel
theorem gx49_124 : aF 124 zM49.2.2.2.2.2.2.2 = some (124, (.invokevirtual 81), 3, 50, 0) := by decide +kernel
theorem gx49_127 : aF 127 zM49.2.2.2.2.2.2.2 = some (127, (.ifCond .eq 82), 3, 209, 0) := by decide +kernel
theorem gx47_0 : aF 0 zM47.2.2.2.2.2.2.2 = some (0, (.aload_n 0), 1, 0, 0) := by decide +kernel
theorem gx47_1 : aF 1 zM47.2.2.2.2.2.2.2 = some (1, (.getfield 27), 3, 4, 7) := by decide +kernel
theorem gx47_4 : aF 4 zM47.2.2.2.2.2.2.2 = some (4, (.iconst 0), 1, 0, 0) := by decide +kernel
theorem gx47_5 : aF 5 zM47.2.2.2.2.2.2.2 = some (5, (.invokestatic 53), 3, 332, 0) := by decide +kernel
theorem gx47_8 : aF 8 zM47.2.2.2.2.2.2.2 = some (8, (.aload_n 0), 1, 0, 0) := by decide +kernel
theorem gx47_9 : aF 9 zM47.2.2.2.2.2.2.2 = some (9, (.invokevirtual 59), 3, 48, 0) := by decide +kernel
theorem gx47_12 : aF 12 zM47.2.2.2.2.2.2.2 = some (12, (.aload_n 0), 1, 0, 0) := by decide +kernel
theorem gx47_13 : aF 13 zM47.2.2.2.2.2.2.2 = some (13, (.aload_n 0), 1, 0, 0) := by decide +kernel
theorem gx47_14 : aF 14 zM47.2.2.2.2.2.2.2 = some (14, (.getfield 33), 3, 4, 1) := by decide +kernel
theorem gx47_17 : aF 17 zM47.2.2.2.2.2.2.2 = some (17, (.putfield 62), 3, 4, 4) := by decide +kernel
theorem gx47_20 : aF 20 zM47.2.2.2.2.2.2.2 = some (20, (.aload_n 0), 1, 0, 0) := by decide +kernel
theorem gx47_21 : aF 21 zM47.2.2.2.2.2.2.2 = some (21, (.iconst (-1)), 1, 0, 0) := by decide +kernel
theorem gx47_22 : aF 22 zM47.2.2.2.2.2.2.2 = some (22, (.putfield 65), 3, 4, 11) := by decide +kernel
theorem gx47_25 : aF 25 zM47.2.2.2.2.2.2.2 = some (25, (.aload_n 0), 1, 0, 0) := by decide +kernel
theorem gx47_26 : aF 26 zM47.2.2.2.2.2.2.2 = some (26, (.iconst 0), 1, 0, 0) := by decide +kernel
theorem gx47_27 : aF 27 zM47.2.2.2.2.2.2.2 = some (27, (.aload_n 0), 1, 0, 0) := by decide +kernel
theorem gx47_28 : aF 28 zM47.2.2.2.2.2.2.2 = some (28, (.getfield 24), 3, 4, 6) := by decide +kernel
theorem gx47_31 : aF 31 zM47.2.2.2.2.2.2.2 = some (31, (.iload_n 1), 1, 0, 0) := by decide +kernel
theorem gx47_32 : aF 32 zM47.2.2.2.2.2.2.2 = some (32, (.iconst 0), 1, 0, 0) := by decide +kernel
theorem gx47_33 : aF 33 zM47.2.2.2.2.2.2.2 = some (33, (.iconst 0), 1, 0, 0) := by decide +kernel
theorem gx47_34 : aF 34 zM47.2.2.2.2.2.2.2 = some (34, (.invokevirtual 68), 3, 49, 0) := by decide +kernel
theorem gx47_37 : aF 37 zM47.2.2.2.2.2.2.2 = some (37, (.aload_n 0), 1, 0, 0) := by decide +kernel
theorem gx47_38 : aF 38 zM47.2.2.2.2.2.2.2 = some (38, .dup, 1, 0, 0) := by decide +kernel
theorem gx47_39 : aF 39 zM47.2.2.2.2.2.2.2 = some (39, (.getfield 65), 3, 4, 11) := by decide +kernel
theorem gx47_42 : aF 42 zM47.2.2.2.2.2.2.2 = some (42, (.iconst 1), 1, 0, 0) := by decide +kernel
theorem gx47_43 : aF 43 zM47.2.2.2.2.2.2.2 = some (43, .isub, 1, 0, 0) := by decide +kernel
theorem gx47_44 : aF 44 zM47.2.2.2.2.2.2.2 = some (44, (.putfield 65), 3, 4, 11) := by decide +kernel
theorem gx47_47 : aF 47 zM47.2.2.2.2.2.2.2 = some (47, (.aload_n 0), 1, 0, 0) := by decide +kernel
theorem gx47_48 : aF 48 zM47.2.2.2.2.2.2.2 = some (48, (.iconst 0), 1, 0, 0) := by decide +kernel
theorem gx47_49 : aF 49 zM47.2.2.2.2.2.2.2 = some (49, (.aload_n 0), 1, 0, 0) := by decide +kernel
theorem gx47_50 : aF 50 zM47.2.2.2.2.2.2.2 = some (50, (.getfield 21), 3, 4, 5) := by decide +kernel
theorem gx47_53 : aF 53 zM47.2.2.2.2.2.2.2 = some (53, (.iload_n 1), 1, 0, 0) := by decide +kernel
theorem gx47_54 : aF 54 zM47.2.2.2.2.2.2.2 = some (54, (.iconst 0), 1, 0, 0) := by decide +kernel
theorem gx47_55 : aF 55 zM47.2.2.2.2.2.2.2 = some (55, (.iconst 0), 1, 0, 0) := by decide +kernel
theorem gx47_56 : aF 56 zM47.2.2.2.2.2.2.2 = some (56, (.invokevirtual 68), 3, 49, 0) := by decide +kernel
theorem gx47_59 : aF 59 zM47.2.2.2.2.2.2.2 = some (59, (.aload_n 0), 1, 0, 0) := by decide +kernel
theorem gx47_60 : aF 60 zM47.2.2.2.2.2.2.2 = some (60, (.getfield 65), 3, 4, 11) := by decide +kernel
theorem gx47_63 : aF 63 zM47.2.2.2.2.2.2.2 = some (63, .ireturn, 1, 0, 0) := by decide +kernel
theorem gx46_0 : aF 0 zM46.2.2.2.2.2.2.2 = some (0, (.iconst 0), 1, 0, 0) := by decide +kernel
theorem gx46_1 : aF 1 zM46.2.2.2.2.2.2.2 = some (1, (.istore_n 3), 1, 0, 0) := by decide +kernel
theorem gx46_2 : aF 2 zM46.2.2.2.2.2.2.2 = some (2, (.iconst 0), 1, 0, 0) := by decide +kernel
theorem gx46_3 : aF 3 zM46.2.2.2.2.2.2.2 = some (3, (.istore 4), 2, 0, 0) := by decide +kernel
theorem gx46_5 : aF 5 zM46.2.2.2.2.2.2.2 = some (5, (.iconst 0), 1, 0, 0) := by decide +kernel
theorem gx46_6 : aF 6 zM46.2.2.2.2.2.2.2 = some (6, (.istore 5), 2, 0, 0) := by decide +kernel
theorem gx46_8 : aF 8 zM46.2.2.2.2.2.2.2 = some (8, (.iload 5), 2, 0, 0) := by decide +kernel
theorem gx46_10 : aF 10 zM46.2.2.2.2.2.2.2 = some (10, (.aload_n 0), 1, 0, 0) := by decide +kernel
theorem gx46_11 : aF 11 zM46.2.2.2.2.2.2.2 = some (11, (.getfield 33), 3, 4, 1) := by decide +kernel
theorem gx46_14 : aF 14 zM46.2.2.2.2.2.2.2 = some (14, (.if_icmp .ge 33), 3, 47, 0) := by decide +kernel
theorem gx46_47 : aF 47 zM46.2.2.2.2.2.2.2 = some (47, (.aload_n 0), 1, 0, 0) := by decide +kernel
theorem gx46_48 : aF 48 zM46.2.2.2.2.2.2.2 = some (48, (.iload_n 3), 1, 0, 0) := by decide +kernel
theorem gx46_49 : aF 49 zM46.2.2.2.2.2.2.2 = some (49, (.iload_n 1), 1, 0, 0) := by decide +kernel
theorem gx46_50 : aF 50 zM46.2.2.2.2.2.2.2 = some (50, .imul, 1, 0, 0) := by decide +kernel
theorem gx46_51 : aF 51 zM46.2.2.2.2.2.2.2 = some (51, (.bipush 100), 2, 0, 0) := by decide +kernel
theorem gx46_53 : aF 53 zM46.2.2.2.2.2.2.2 = some (53, .idiv, 1, 0, 0) := by decide +kernel
theorem gx46_54 : aF 54 zM46.2.2.2.2.2.2.2 = some (54, (.putfield 43), 3, 4, 9) := by decide +kernel
theorem gx46_57 : aF 57 zM46.2.2.2.2.2.2.2 = some (57, (.aload_n 0), 1, 0, 0) := by decide +kernel
theorem gx46_58 : aF 58 zM46.2.2.2.2.2.2.2 = some (58, (.iload_n 2), 1, 0, 0) := by decide +kernel
theorem gx46_59 : aF 59 zM46.2.2.2.2.2.2.2 = some (59, (.putfield 46), 3, 4, 10) := by decide +kernel
theorem gx46_62 : aF 62 zM46.2.2.2.2.2.2.2 = some (62, (.bipush (-2)), 2, 0, 0) := by decide +kernel
theorem gx46_64 : aF 64 zM46.2.2.2.2.2.2.2 = some (64, (.istore 5), 2, 0, 0) := by decide +kernel
theorem gx46_66 : aF 66 zM46.2.2.2.2.2.2.2 = some (66, (.iload 4), 2, 0, 0) := by decide +kernel
theorem gx46_68 : aF 68 zM46.2.2.2.2.2.2.2 = some (68, (.aload_n 0), 1, 0, 0) := by decide +kernel
theorem gx46_69 : aF 69 zM46.2.2.2.2.2.2.2 = some (69, (.getfield 43), 3, 4, 9) := by decide +kernel
theorem gx46_72 : aF 72 zM46.2.2.2.2.2.2.2 = some (72, (.if_icmp .gt 18), 3, 90, 0) := by decide +kernel
theorem gx46_90 : aF 90 zM46.2.2.2.2.2.2.2 = some (90, (.aload_n 0), 1, 0, 0) := by decide +kernel
theorem gx46_91 : aF 91 zM46.2.2.2.2.2.2.2 = some (91, (.iconst 0), 1, 0, 0) := by decide +kernel
theorem gx46_92 : aF 92 zM46.2.2.2.2.2.2.2 = some (92, (.putfield 33), 3, 4, 1) := by decide +kernel
theorem gx46_95 : aF 95 zM46.2.2.2.2.2.2.2 = some (95, (.iload 5), 2, 0, 0) := by decide +kernel
theorem gx46_97 : aF 97 zM46.2.2.2.2.2.2.2 = some (97, .ireturn, 1, 0, 0) := by decide +kernel
theorem gx46_75 : aF 75 zM46.2.2.2.2.2.2.2 = some (75, (.aload_n 0), 1, 0, 0) := by decide +kernel
theorem gx46_76 : aF 76 zM46.2.2.2.2.2.2.2 = some (76, (.getfield 33), 3, 4, 1) := by decide +kernel
theorem gx46_79 : aF 79 zM46.2.2.2.2.2.2.2 = some (79, (.iload_n 2), 1, 0, 0) := by decide +kernel
theorem gx46_80 : aF 80 zM46.2.2.2.2.2.2.2 = some (80, (.if_icmp .lt 10), 3, 90, 0) := by decide +kernel
theorem gx46_83 : aF 83 zM46.2.2.2.2.2.2.2 = some (83, (.aload_n 0), 1, 0, 0) := by decide +kernel
theorem gx46_84 : aF 84 zM46.2.2.2.2.2.2.2 = some (84, (.iload_n 3), 1, 0, 0) := by decide +kernel
theorem gx46_85 : aF 85 zM46.2.2.2.2.2.2.2 = some (85, (.invokevirtual 49), 3, 47, 0) := by decide +kernel
theorem gx46_88 : aF 88 zM46.2.2.2.2.2.2.2 = some (88, (.istore 5), 2, 0, 0) := by decide +kernel
theorem gx46_17 : aF 17 zM46.2.2.2.2.2.2.2 = some (17, (.iload_n 3), 1, 0, 0) := by decide +kernel
theorem gx46_18 : aF 18 zM46.2.2.2.2.2.2.2 = some (18, (.aload_n 0), 1, 0, 0) := by decide +kernel
theorem gx46_19 : aF 19 zM46.2.2.2.2.2.2.2 = some (19, (.getfield 9), 3, 4, 0) := by decide +kernel
theorem gx46_22 : aF 22 zM46.2.2.2.2.2.2.2 = some (22, (.iload 5), 2, 0, 0) := by decide +kernel
theorem gx46_24 : aF 24 zM46.2.2.2.2.2.2.2 = some (24, .iaload, 1, 0, 0) := by decide +kernel
theorem gx46_25 : aF 25 zM46.2.2.2.2.2.2.2 = some (25, .iadd, 1, 0, 0) := by decide +kernel
theorem gx46_26 : aF 26 zM46.2.2.2.2.2.2.2 = some (26, (.istore_n 3), 1, 0, 0) := by decide +kernel
theorem gx46_27 : aF 27 zM46.2.2.2.2.2.2.2 = some (27, (.iload 4), 2, 0, 0) := by decide +kernel
theorem gx46_29 : aF 29 zM46.2.2.2.2.2.2.2 = some (29, (.aload_n 0), 1, 0, 0) := by decide +kernel
theorem gx46_30 : aF 30 zM46.2.2.2.2.2.2.2 = some (30, (.getfield 9), 3, 4, 0) := by decide +kernel
theorem gx46_33 : aF 33 zM46.2.2.2.2.2.2.2 = some (33, (.iload 5), 2, 0, 0) := by decide +kernel
theorem gx46_35 : aF 35 zM46.2.2.2.2.2.2.2 = some (35, .iaload, 1, 0, 0) := by decide +kernel
theorem gx46_36 : aF 36 zM46.2.2.2.2.2.2.2 = some (36, (.invokestatic 37), 3, 1010, 0) := by decide +kernel
theorem gx46_39 : aF 39 zM46.2.2.2.2.2.2.2 = some (39, (.istore 4), 2, 0, 0) := by decide +kernel
theorem gx46_41 : aF 41 zM46.2.2.2.2.2.2.2 = some (41, (.iinc 5 1), 3, 0, 0) := by decide +kernel
theorem gx46_44 : aF 44 zM46.2.2.2.2.2.2.2 = some (44, (.goto (-36)), 3, 8, 0) := by decide +kernel
theorem gx183_0 : aF 0 zM183.2.2.2.2.2.2.2 = some (0, (.iload_n 1), 1, 0, 0) := by decide +kernel
theorem gx183_1 : aF 1 zM183.2.2.2.2.2.2.2 = some (1, (.iconst 1), 1, 0, 0) := by decide +kernel
theorem gx183_2 : aF 2 zM183.2.2.2.2.2.2.2 = some (2, (.bipush 100), 2, 0, 0) := by decide +kernel
theorem gx183_4 : aF 4 zM183.2.2.2.2.2.2.2 = some (4, (.invokestatic 85), 3, 137, 0) := by decide +kernel
theorem gx183_7 : aF 7 zM183.2.2.2.2.2.2.2 = some (7, (.ifCond .eq 22), 3, 29, 0) := by decide +kernel
theorem gx183_29 : aF 29 zM183.2.2.2.2.2.2.2 = some (29, (.iconst (-1)), 1, 0, 0) := by decide +kernel
theorem gx183_30 : aF 30 zM183.2.2.2.2.2.2.2 = some (30, .ireturn, 1, 0, 0) := by decide +kernel
theorem gx183_10 : aF 10 zM183.2.2.2.2.2.2.2 = some (10, (.iload_n 2), 1, 0, 0) := by decide +kernel
theorem gx183_11 : aF 11 zM183.2.2.2.2.2.2.2 = some (11, (.iconst 1), 1, 0, 0) := by decide +kernel
theorem gx183_12 : aF 12 zM183.2.2.2.2.2.2.2 = some (12, (.iconst 3), 1, 0, 0) := by decide +kernel
theorem gx183_13 : aF 13 zM183.2.2.2.2.2.2.2 = some (13, (.invokestatic 85), 3, 137, 0) := by decide +kernel
theorem gx183_16 : aF 16 zM183.2.2.2.2.2.2.2 = some (16, (.ifCond .eq 13), 3, 29, 0) := by decide +kernel
theorem gx183_19 : aF 19 zM183.2.2.2.2.2.2.2 = some (19, (.aload_n 0), 1, 0, 0) := by decide +kernel
theorem gx183_20 : aF 20 zM183.2.2.2.2.2.2.2 = some (20, (.getfield 60), 3, 11, 6) := by decide +kernel
theorem gx183_23 : aF 23 zM183.2.2.2.2.2.2.2 = some (23, (.getfield 327), 3, 4, 1) := by decide +kernel
theorem gx183_26 : aF 26 zM183.2.2.2.2.2.2.2 = some (26, (.ifCond .ne 5), 3, 31, 0) := by decide +kernel
theorem gx183_31 : aF 31 zM183.2.2.2.2.2.2.2 = some (31, (.aload_n 0), 1, 0, 0) := by decide +kernel
theorem gx183_32 : aF 32 zM183.2.2.2.2.2.2.2 = some (32, (.getfield 60), 3, 11, 6) := by decide +kernel
theorem gx183_35 : aF 35 zM183.2.2.2.2.2.2.2 = some (35, (.iload_n 1), 1, 0, 0) := by decide +kernel
theorem gx183_36 : aF 36 zM183.2.2.2.2.2.2.2 = some (36, (.iload_n 2), 1, 0, 0) := by decide +kernel
theorem gx183_37 : aF 37 zM183.2.2.2.2.2.2.2 = some (37, (.invokevirtual 333), 3, 46, 0) := by decide +kernel
theorem gx183_40 : aF 40 zM183.2.2.2.2.2.2.2 = some (40, .ireturn, 1, 0, 0) := by decide +kernel
theorem gx301_0 : aF 0 zM301.2.2.2.2.2.2.2 = some (0, (.iload_n 1), 1, 0, 0) := by decide +kernel
theorem gx301_1 : aF 1 zM301.2.2.2.2.2.2.2 = some (1, (.aload_n 0), 1, 0, 0) := by decide +kernel
theorem gx301_2 : aF 2 zM301.2.2.2.2.2.2.2 = some (2, (.getfield 546), 3, 12, 87) := by decide +kernel
theorem gx301_5 : aF 5 zM301.2.2.2.2.2.2.2 = some (5, (.if_icmp .ne 96), 3, 101, 0) := by decide +kernel
theorem gx301_101 : aF 101 zM301.2.2.2.2.2.2.2 = some (101, (.iconst 0), 1, 0, 0) := by decide +kernel
theorem gx301_102 : aF 102 zM301.2.2.2.2.2.2.2 = some (102, (.istore 5), 2, 0, 0) := by decide +kernel
theorem gx301_8 : aF 8 zM301.2.2.2.2.2.2.2 = some (8, (.iconst 0), 1, 0, 0) := by decide +kernel
theorem gx301_9 : aF 9 zM301.2.2.2.2.2.2.2 = some (9, (.istore 5), 2, 0, 0) := by decide +kernel
theorem gx301_11 : aF 11 zM301.2.2.2.2.2.2.2 = some (11, (.iconst 0), 1, 0, 0) := by decide +kernel
theorem gx301_12 : aF 12 zM301.2.2.2.2.2.2.2 = some (12, (.istore 6), 2, 0, 0) := by decide +kernel
theorem gx301_14 : aF 14 zM301.2.2.2.2.2.2.2 = some (14, (.iload 6), 2, 0, 0) := by decide +kernel
theorem gx301_16 : aF 16 zM301.2.2.2.2.2.2.2 = some (16, (.bipush 8), 2, 0, 0) := by decide +kernel
theorem gx301_18 : aF 18 zM301.2.2.2.2.2.2.2 = some (18, (.if_icmp .ge 29), 3, 47, 0) := by decide +kernel
theorem gx301_47 : aF 47 zM301.2.2.2.2.2.2.2 = some (47, (.iload 5), 2, 0, 0) := by decide +kernel
theorem gx301_49 : aF 49 zM301.2.2.2.2.2.2.2 = some (49, (.iload 4), 2, 0, 0) := by decide +kernel
theorem gx301_51 : aF 51 zM301.2.2.2.2.2.2.2 = some (51, (.if_icmp .lt 11), 3, 62, 0) := by decide +kernel
theorem gx301_62 : aF 62 zM301.2.2.2.2.2.2.2 = some (62, .return_, 1, 0, 0) := by decide +kernel
theorem gx301_54 : aF 54 zM301.2.2.2.2.2.2.2 = some (54, (.iload_n 2), 1, 0, 0) := by decide +kernel
theorem gx301_55 : aF 55 zM301.2.2.2.2.2.2.2 = some (55, (.aload_n 0), 1, 0, 0) := by decide +kernel
theorem gx301_56 : aF 56 zM301.2.2.2.2.2.2.2 = some (56, (.getfield 549), 3, 12, 94) := by decide +kernel
theorem gx301_59 : aF 59 zM301.2.2.2.2.2.2.2 = some (59, (.if_icmp .gt 4), 3, 63, 0) := by decide +kernel
theorem gx301_63 : aF 63 zM301.2.2.2.2.2.2.2 = some (63, (.aload_n 0), 1, 0, 0) := by decide +kernel
theorem gx301_64 : aF 64 zM301.2.2.2.2.2.2.2 = some (64, (.iload_n 2), 1, 0, 0) := by decide +kernel
theorem gx301_65 : aF 65 zM301.2.2.2.2.2.2.2 = some (65, (.putfield 549), 3, 12, 94) := by decide +kernel
theorem gx301_68 : aF 68 zM301.2.2.2.2.2.2.2 = some (68, (.iconst 0), 1, 0, 0) := by decide +kernel
theorem gx301_69 : aF 69 zM301.2.2.2.2.2.2.2 = some (69, (.istore 6), 2, 0, 0) := by decide +kernel
theorem gx301_21 : aF 21 zM301.2.2.2.2.2.2.2 = some (21, (.iload 5), 2, 0, 0) := by decide +kernel
theorem gx301_23 : aF 23 zM301.2.2.2.2.2.2.2 = some (23, (.aload_n 0), 1, 0, 0) := by decide +kernel
theorem gx301_24 : aF 24 zM301.2.2.2.2.2.2.2 = some (24, (.getfield 234), 3, 12, 92) := by decide +kernel
theorem gx301_27 : aF 27 zM301.2.2.2.2.2.2.2 = some (27, (.iload 6), 2, 0, 0) := by decide +kernel
theorem gx301_29 : aF 29 zM301.2.2.2.2.2.2.2 = some (29, .iaload, 1, 0, 0) := by decide +kernel
theorem gx301_30 : aF 30 zM301.2.2.2.2.2.2.2 = some (30, (.ifCond .le 7), 3, 37, 0) := by decide +kernel
theorem gx301_37 : aF 37 zM301.2.2.2.2.2.2.2 = some (37, (.iconst 0), 1, 0, 0) := by decide +kernel
theorem gx301_38 : aF 38 zM301.2.2.2.2.2.2.2 = some (38, .iadd, 1, 0, 0) := by decide +kernel
theorem gx301_39 : aF 39 zM301.2.2.2.2.2.2.2 = some (39, (.istore 5), 2, 0, 0) := by decide +kernel
theorem gx301_41 : aF 41 zM301.2.2.2.2.2.2.2 = some (41, (.iinc 6 1), 3, 0, 0) := by decide +kernel
theorem gx301_44 : aF 44 zM301.2.2.2.2.2.2.2 = some (44, (.goto (-30)), 3, 14, 0) := by decide +kernel
theorem gx301_33 : aF 33 zM301.2.2.2.2.2.2.2 = some (33, (.iconst 1), 1, 0, 0) := by decide +kernel
theorem gx301_34 : aF 34 zM301.2.2.2.2.2.2.2 = some (34, (.goto 4), 3, 38, 0) := by decide +kernel
theorem gx301_71 : aF 71 zM301.2.2.2.2.2.2.2 = some (71, (.iload 6), 2, 0, 0) := by decide +kernel
theorem gx301_73 : aF 73 zM301.2.2.2.2.2.2.2 = some (73, (.aload_n 0), 1, 0, 0) := by decide +kernel
theorem gx301_74 : aF 74 zM301.2.2.2.2.2.2.2 = some (74, (.getfield 546), 3, 12, 87) := by decide +kernel
theorem gx301_77 : aF 77 zM301.2.2.2.2.2.2.2 = some (77, (.if_icmp .ge 23), 3, 100, 0) := by decide +kernel
theorem gx301_100 : aF 100 zM301.2.2.2.2.2.2.2 = some (100, .return_, 1, 0, 0) := by decide +kernel
theorem gx301_80 : aF 80 zM301.2.2.2.2.2.2.2 = some (80, (.aload_n 0), 1, 0, 0) := by decide +kernel
theorem gx301_81 : aF 81 zM301.2.2.2.2.2.2.2 = some (81, (.getfield 231), 3, 12, 91) := by decide +kernel
theorem gx301_84 : aF 84 zM301.2.2.2.2.2.2.2 = some (84, (.iload 6), 2, 0, 0) := by decide +kernel
theorem gx301_86 : aF 86 zM301.2.2.2.2.2.2.2 = some (86, (.aload_n 0), 1, 0, 0) := by decide +kernel
theorem gx301_87 : aF 87 zM301.2.2.2.2.2.2.2 = some (87, (.getfield 228), 3, 12, 90) := by decide +kernel
theorem gx301_90 : aF 90 zM301.2.2.2.2.2.2.2 = some (90, (.iload 6), 2, 0, 0) := by decide +kernel
theorem gx301_92 : aF 92 zM301.2.2.2.2.2.2.2 = some (92, .iaload, 1, 0, 0) := by decide +kernel
theorem gx301_93 : aF 93 zM301.2.2.2.2.2.2.2 = some (93, .iastore, 1, 0, 0) := by decide +kernel
theorem gx301_94 : aF 94 zM301.2.2.2.2.2.2.2 = some (94, (.iinc 6 1), 3, 0, 0) := by decide +kernel
theorem gx301_97 : aF 97 zM301.2.2.2.2.2.2.2 = some (97, (.goto (-26)), 3, 71, 0) := by decide +kernel
theorem gx301_104 : aF 104 zM301.2.2.2.2.2.2.2 = some (104, (.iload 5), 2, 0, 0) := by decide +kernel
theorem gx301_106 : aF 106 zM301.2.2.2.2.2.2.2 = some (106, (.bipush 8), 2, 0, 0) := by decide +kernel
theorem gx301_108 : aF 108 zM301.2.2.2.2.2.2.2 = some (108, (.if_icmp .ge 99), 3, 207, 0) := by decide +kernel
theorem gx301_207 : aF 207 zM301.2.2.2.2.2.2.2 = some (207, .return_, 1, 0, 0) := by decide +kernel
theorem gx301_111 : aF 111 zM301.2.2.2.2.2.2.2 = some (111, (.bipush 100), 2, 0, 0) := by decide +kernel
theorem gx301_113 : aF 113 zM301.2.2.2.2.2.2.2 = some (113, (.aload_n 0), 1, 0, 0) := by decide +kernel
theorem gx301_114 : aF 114 zM301.2.2.2.2.2.2.2 = some (114, (.getfield 234), 3, 12, 92) := by decide +kernel
theorem gx301_117 : aF 117 zM301.2.2.2.2.2.2.2 = some (117, (.iload 5), 2, 0, 0) := by decide +kernel
theorem gx301_119 : aF 119 zM301.2.2.2.2.2.2.2 = some (119, .iaload, 1, 0, 0) := by decide +kernel
theorem gx301_120 : aF 120 zM301.2.2.2.2.2.2.2 = some (120, (.aload_n 0), 1, 0, 0) := by decide +kernel
theorem gx301_121 : aF 121 zM301.2.2.2.2.2.2.2 = some (121, (.getfield 222), 3, 12, 88) := by decide +kernel
theorem gx301_124 : aF 124 zM301.2.2.2.2.2.2.2 = some (124, (.iload_n 1), 1, 0, 0) := by decide +kernel
theorem gx301_125 : aF 125 zM301.2.2.2.2.2.2.2 = some (125, .iaload, 1, 0, 0) := by decide +kernel
theorem gx301_126 : aF 126 zM301.2.2.2.2.2.2.2 = some (126, .iadd, 1, 0, 0) := by decide +kernel
theorem gx301_127 : aF 127 zM301.2.2.2.2.2.2.2 = some (127, .imul, 1, 0, 0) := by decide +kernel
theorem gx301_128 : aF 128 zM301.2.2.2.2.2.2.2 = some (128, (.iload_n 3), 1, 0, 0) := by decide +kernel
theorem gx301_129 : aF 129 zM301.2.2.2.2.2.2.2 = some (129, (.if_icmp .le 6), 3, 135, 0) := by decide +kernel
theorem gx301_135 : aF 135 zM301.2.2.2.2.2.2.2 = some (135, (.aload_n 0), 1, 0, 0) := by decide +kernel
theorem gx301_136 : aF 136 zM301.2.2.2.2.2.2.2 = some (136, (.getfield 228), 3, 12, 90) := by decide +kernel
theorem gx301_139 : aF 139 zM301.2.2.2.2.2.2.2 = some (139, (.iload_n 1), 1, 0, 0) := by decide +kernel
theorem gx301_140 : aF 140 zM301.2.2.2.2.2.2.2 = some (140, (.iload 5), 2, 0, 0) := by decide +kernel
theorem gx301_142 : aF 142 zM301.2.2.2.2.2.2.2 = some (142, .iastore, 1, 0, 0) := by decide +kernel
theorem gx301_143 : aF 143 zM301.2.2.2.2.2.2.2 = some (143, (.aload_n 0), 1, 0, 0) := by decide +kernel
theorem gx301_144 : aF 144 zM301.2.2.2.2.2.2.2 = some (144, (.getfield 234), 3, 12, 92) := by decide +kernel
theorem gx301_147 : aF 147 zM301.2.2.2.2.2.2.2 = some (147, (.iload 5), 2, 0, 0) := by decide +kernel
theorem gx301_149 : aF 149 zM301.2.2.2.2.2.2.2 = some (149, .dup2, 1, 0, 0) := by decide +kernel
theorem gx301_150 : aF 150 zM301.2.2.2.2.2.2.2 = some (150, .iaload, 1, 0, 0) := by decide +kernel
theorem gx301_151 : aF 151 zM301.2.2.2.2.2.2.2 = some (151, (.aload_n 0), 1, 0, 0) := by decide +kernel
theorem gx301_152 : aF 152 zM301.2.2.2.2.2.2.2 = some (152, (.getfield 222), 3, 12, 88) := by decide +kernel
theorem gx301_155 : aF 155 zM301.2.2.2.2.2.2.2 = some (155, (.iload_n 1), 1, 0, 0) := by decide +kernel
theorem gx301_156 : aF 156 zM301.2.2.2.2.2.2.2 = some (156, .iaload, 1, 0, 0) := by decide +kernel
theorem gx301_157 : aF 157 zM301.2.2.2.2.2.2.2 = some (157, .iadd, 1, 0, 0) := by decide +kernel
theorem gx301_158 : aF 158 zM301.2.2.2.2.2.2.2 = some (158, .iastore, 1, 0, 0) := by decide +kernel
theorem gx301_159 : aF 159 zM301.2.2.2.2.2.2.2 = some (159, (.aload_n 0), 1, 0, 0) := by decide +kernel
theorem gx301_160 : aF 160 zM301.2.2.2.2.2.2.2 = some (160, (.iload_n 1), 1, 0, 0) := by decide +kernel
theorem gx301_161 : aF 161 zM301.2.2.2.2.2.2.2 = some (161, (.iconst 1), 1, 0, 0) := by decide +kernel
theorem gx301_162 : aF 162 zM301.2.2.2.2.2.2.2 = some (162, .iadd, 1, 0, 0) := by decide +kernel
theorem gx301_163 : aF 163 zM301.2.2.2.2.2.2.2 = some (163, (.iload_n 2), 1, 0, 0) := by decide +kernel
theorem gx301_164 : aF 164 zM301.2.2.2.2.2.2.2 = some (164, (.aload_n 0), 1, 0, 0) := by decide +kernel
theorem gx301_165 : aF 165 zM301.2.2.2.2.2.2.2 = some (165, (.getfield 222), 3, 12, 88) := by decide +kernel
theorem gx301_168 : aF 168 zM301.2.2.2.2.2.2.2 = some (168, (.iload_n 1), 1, 0, 0) := by decide +kernel
theorem gx301_169 : aF 169 zM301.2.2.2.2.2.2.2 = some (169, .iaload, 1, 0, 0) := by decide +kernel
theorem gx301_170 : aF 170 zM301.2.2.2.2.2.2.2 = some (170, (.aload_n 0), 1, 0, 0) := by decide +kernel
theorem gx301_171 : aF 171 zM301.2.2.2.2.2.2.2 = some (171, (.getfield 225), 3, 12, 89) := by decide +kernel
theorem gx301_174 : aF 174 zM301.2.2.2.2.2.2.2 = some (174, (.iload 5), 2, 0, 0) := by decide +kernel
theorem gx301_176 : aF 176 zM301.2.2.2.2.2.2.2 = some (176, .iaload, 1, 0, 0) := by decide +kernel
theorem gx301_177 : aF 177 zM301.2.2.2.2.2.2.2 = some (177, .imul, 1, 0, 0) := by decide +kernel
theorem gx301_178 : aF 178 zM301.2.2.2.2.2.2.2 = some (178, .iadd, 1, 0, 0) := by decide +kernel
theorem gx301_179 : aF 179 zM301.2.2.2.2.2.2.2 = some (179, (.iload_n 3), 1, 0, 0) := by decide +kernel
theorem gx301_180 : aF 180 zM301.2.2.2.2.2.2.2 = some (180, (.iload 4), 2, 0, 0) := by decide +kernel
theorem gx301_182 : aF 182 zM301.2.2.2.2.2.2.2 = some (182, (.invokevirtual 552), 3, 301, 0) := by decide +kernel
theorem gx301_185 : aF 185 zM301.2.2.2.2.2.2.2 = some (185, (.aload_n 0), 1, 0, 0) := by decide +kernel
theorem gx301_186 : aF 186 zM301.2.2.2.2.2.2.2 = some (186, (.getfield 234), 3, 12, 92) := by decide +kernel
theorem gx301_189 : aF 189 zM301.2.2.2.2.2.2.2 = some (189, (.iload 5), 2, 0, 0) := by decide +kernel
theorem gx301_191 : aF 191 zM301.2.2.2.2.2.2.2 = some (191, .dup2, 1, 0, 0) := by decide +kernel
theorem gx301_192 : aF 192 zM301.2.2.2.2.2.2.2 = some (192, .iaload, 1, 0, 0) := by decide +kernel
theorem gx301_193 : aF 193 zM301.2.2.2.2.2.2.2 = some (193, (.aload_n 0), 1, 0, 0) := by decide +kernel
theorem gx301_194 : aF 194 zM301.2.2.2.2.2.2.2 = some (194, (.getfield 222), 3, 12, 88) := by decide +kernel
theorem gx301_197 : aF 197 zM301.2.2.2.2.2.2.2 = some (197, (.iload_n 1), 1, 0, 0) := by decide +kernel
theorem gx301_198 : aF 198 zM301.2.2.2.2.2.2.2 = some (198, .iaload, 1, 0, 0) := by decide +kernel
theorem gx301_199 : aF 199 zM301.2.2.2.2.2.2.2 = some (199, .isub, 1, 0, 0) := by decide +kernel
theorem gx301_200 : aF 200 zM301.2.2.2.2.2.2.2 = some (200, .iastore, 1, 0, 0) := by decide +kernel
theorem gx301_201 : aF 201 zM301.2.2.2.2.2.2.2 = some (201, (.iinc 5 1), 3, 0, 0) := by decide +kernel
theorem gx301_204 : aF 204 zM301.2.2.2.2.2.2.2 = some (204, (.goto (-100)), 3, 104, 0) := by decide +kernel
theorem gx301_132 : aF 132 zM301.2.2.2.2.2.2.2 = some (132, (.goto 69), 3, 201, 0) := by decide +kernel
theorem gx302_0 : aF 0 zM302.2.2.2.2.2.2.2 = some (0, (.aload_n 0), 1, 0, 0) := by decide +kernel
theorem gx302_1 : aF 1 zM302.2.2.2.2.2.2.2 = some (1, (.getfield 546), 3, 12, 87) := by decide +kernel
theorem gx302_4 : aF 4 zM302.2.2.2.2.2.2.2 = some (4, (.ifCond .eq 22), 3, 26, 0) := by decide +kernel
theorem gx302_26 : aF 26 zM302.2.2.2.2.2.2.2 = some (26, (.iconst (-1)), 1, 0, 0) := by decide +kernel
theorem gx302_27 : aF 27 zM302.2.2.2.2.2.2.2 = some (27, .ireturn, 1, 0, 0) := by decide +kernel
theorem gx302_7 : aF 7 zM302.2.2.2.2.2.2.2 = some (7, (.iload_n 1), 1, 0, 0) := by decide +kernel
theorem gx302_8 : aF 8 zM302.2.2.2.2.2.2.2 = some (8, (.iconst 1), 1, 0, 0) := by decide +kernel
theorem gx302_9 : aF 9 zM302.2.2.2.2.2.2.2 = some (9, (.bipush 100), 2, 0, 0) := by decide +kernel
theorem gx302_11 : aF 11 zM302.2.2.2.2.2.2.2 = some (11, (.invokestatic 258), 3, 196, 0) := by decide +kernel
theorem gx302_14 : aF 14 zM302.2.2.2.2.2.2.2 = some (14, (.ifCond .eq 12), 3, 26, 0) := by decide +kernel
theorem gx302_17 : aF 17 zM302.2.2.2.2.2.2.2 = some (17, (.iload_n 2), 1, 0, 0) := by decide +kernel
theorem gx302_18 : aF 18 zM302.2.2.2.2.2.2.2 = some (18, (.iconst 1), 1, 0, 0) := by decide +kernel
theorem gx302_19 : aF 19 zM302.2.2.2.2.2.2.2 = some (19, (.iconst 3), 1, 0, 0) := by decide +kernel
theorem gx302_20 : aF 20 zM302.2.2.2.2.2.2.2 = some (20, (.invokestatic 258), 3, 196, 0) := by decide +kernel
theorem gx302_23 : aF 23 zM302.2.2.2.2.2.2.2 = some (23, (.ifCond .ne 5), 3, 28, 0) := by decide +kernel
theorem gx302_28 : aF 28 zM302.2.2.2.2.2.2.2 = some (28, (.iconst 0), 1, 0, 0) := by decide +kernel
theorem gx302_29 : aF 29 zM302.2.2.2.2.2.2.2 = some (29, (.istore_n 3), 1, 0, 0) := by decide +kernel
theorem gx302_30 : aF 30 zM302.2.2.2.2.2.2.2 = some (30, (.iconst 0), 1, 0, 0) := by decide +kernel
theorem gx302_31 : aF 31 zM302.2.2.2.2.2.2.2 = some (31, (.istore 4), 2, 0, 0) := by decide +kernel
theorem gx302_33 : aF 33 zM302.2.2.2.2.2.2.2 = some (33, (.iload 4), 2, 0, 0) := by decide +kernel
theorem gx302_35 : aF 35 zM302.2.2.2.2.2.2.2 = some (35, (.aload_n 0), 1, 0, 0) := by decide +kernel
theorem gx302_36 : aF 36 zM302.2.2.2.2.2.2.2 = some (36, (.getfield 546), 3, 12, 87) := by decide +kernel
theorem gx302_39 : aF 39 zM302.2.2.2.2.2.2.2 = some (39, (.if_icmp .ge 19), 3, 58, 0) := by decide +kernel
theorem gx302_58 : aF 58 zM302.2.2.2.2.2.2.2 = some (58, (.iconst 0), 1, 0, 0) := by decide +kernel
theorem gx302_59 : aF 59 zM302.2.2.2.2.2.2.2 = some (59, (.istore 4), 2, 0, 0) := by decide +kernel
theorem gx302_42 : aF 42 zM302.2.2.2.2.2.2.2 = some (42, (.iload_n 3), 1, 0, 0) := by decide +kernel
theorem gx302_43 : aF 43 zM302.2.2.2.2.2.2.2 = some (43, (.aload_n 0), 1, 0, 0) := by decide +kernel
theorem gx302_44 : aF 44 zM302.2.2.2.2.2.2.2 = some (44, (.getfield 222), 3, 12, 88) := by decide +kernel
theorem gx302_47 : aF 47 zM302.2.2.2.2.2.2.2 = some (47, (.iload 4), 2, 0, 0) := by decide +kernel
theorem gx302_49 : aF 49 zM302.2.2.2.2.2.2.2 = some (49, .iaload, 1, 0, 0) := by decide +kernel
theorem gx302_50 : aF 50 zM302.2.2.2.2.2.2.2 = some (50, .iadd, 1, 0, 0) := by decide +kernel
theorem gx302_51 : aF 51 zM302.2.2.2.2.2.2.2 = some (51, (.istore_n 3), 1, 0, 0) := by decide +kernel
theorem gx302_52 : aF 52 zM302.2.2.2.2.2.2.2 = some (52, (.iinc 4 1), 3, 0, 0) := by decide +kernel
theorem gx302_55 : aF 55 zM302.2.2.2.2.2.2.2 = some (55, (.goto (-22)), 3, 33, 0) := by decide +kernel
theorem gx302_61 : aF 61 zM302.2.2.2.2.2.2.2 = some (61, (.iload 4), 2, 0, 0) := by decide +kernel
theorem gx302_63 : aF 63 zM302.2.2.2.2.2.2.2 = some (63, (.bipush 8), 2, 0, 0) := by decide +kernel
theorem gx302_65 : aF 65 zM302.2.2.2.2.2.2.2 = some (65, (.if_icmp .ge 17), 3, 82, 0) := by decide +kernel
theorem gx302_82 : aF 82 zM302.2.2.2.2.2.2.2 = some (82, (.aload_n 0), 1, 0, 0) := by decide +kernel
theorem gx302_83 : aF 83 zM302.2.2.2.2.2.2.2 = some (83, (.iconst (-1)), 1, 0, 0) := by decide +kernel
theorem gx302_84 : aF 84 zM302.2.2.2.2.2.2.2 = some (84, (.putfield 549), 3, 12, 94) := by decide +kernel
theorem gx302_87 : aF 87 zM302.2.2.2.2.2.2.2 = some (87, (.aload_n 0), 1, 0, 0) := by decide +kernel
theorem gx302_88 : aF 88 zM302.2.2.2.2.2.2.2 = some (88, (.iconst 0), 1, 0, 0) := by decide +kernel
theorem gx302_89 : aF 89 zM302.2.2.2.2.2.2.2 = some (89, (.iconst 0), 1, 0, 0) := by decide +kernel
theorem gx302_90 : aF 90 zM302.2.2.2.2.2.2.2 = some (90, (.iload_n 1), 1, 0, 0) := by decide +kernel
theorem gx302_91 : aF 91 zM302.2.2.2.2.2.2.2 = some (91, (.iload_n 3), 1, 0, 0) := by decide +kernel
theorem gx302_92 : aF 92 zM302.2.2.2.2.2.2.2 = some (92, .imul, 1, 0, 0) := by decide +kernel
theorem gx302_93 : aF 93 zM302.2.2.2.2.2.2.2 = some (93, (.iload_n 2), 1, 0, 0) := by decide +kernel
theorem gx302_94 : aF 94 zM302.2.2.2.2.2.2.2 = some (94, (.invokevirtual 552), 3, 301, 0) := by decide +kernel
theorem gx302_97 : aF 97 zM302.2.2.2.2.2.2.2 = some (97, (.aload_n 0), 1, 0, 0) := by decide +kernel
theorem gx302_98 : aF 98 zM302.2.2.2.2.2.2.2 = some (98, (.getfield 546), 3, 12, 87) := by decide +kernel
theorem gx302_101 : aF 101 zM302.2.2.2.2.2.2.2 = some (101, (.istore 4), 2, 0, 0) := by decide +kernel
theorem gx302_103 : aF 103 zM302.2.2.2.2.2.2.2 = some (103, (.aload_n 0), 1, 0, 0) := by decide +kernel
theorem gx302_104 : aF 104 zM302.2.2.2.2.2.2.2 = some (104, (.iconst 0), 1, 0, 0) := by decide +kernel
theorem gx302_105 : aF 105 zM302.2.2.2.2.2.2.2 = some (105, (.putfield 546), 3, 12, 87) := by decide +kernel
theorem gx302_108 : aF 108 zM302.2.2.2.2.2.2.2 = some (108, (.aload_n 0), 1, 0, 0) := by decide +kernel
theorem gx302_109 : aF 109 zM302.2.2.2.2.2.2.2 = some (109, (.getfield 549), 3, 12, 94) := by decide +kernel
theorem gx302_112 : aF 112 zM302.2.2.2.2.2.2.2 = some (112, (.ifCond .ge 6), 3, 118, 0) := by decide +kernel
theorem gx302_118 : aF 118 zM302.2.2.2.2.2.2.2 = some (118, (.aload_n 0), 1, 0, 0) := by decide +kernel
theorem gx302_119 : aF 119 zM302.2.2.2.2.2.2.2 = some (119, (.iload 4), 2, 0, 0) := by decide +kernel
theorem gx302_121 : aF 121 zM302.2.2.2.2.2.2.2 = some (121, (.putfield 237), 3, 12, 93) := by decide +kernel
theorem gx302_124 : aF 124 zM302.2.2.2.2.2.2.2 = some (124, (.aload_n 0), 1, 0, 0) := by decide +kernel
theorem gx302_125 : aF 125 zM302.2.2.2.2.2.2.2 = some (125, (.getfield 549), 3, 12, 94) := by decide +kernel
theorem gx302_128 : aF 128 zM302.2.2.2.2.2.2.2 = some (128, .ireturn, 1, 0, 0) := by decide +kernel
theorem gx302_115 : aF 115 zM302.2.2.2.2.2.2.2 = some (115, (.bipush (-2)), 2, 0, 0) := by decide +kernel
theorem gx302_117 : aF 117 zM302.2.2.2.2.2.2.2 = some (117, .ireturn, 1, 0, 0) := by decide +kernel
theorem gx302_68 : aF 68 zM302.2.2.2.2.2.2.2 = some (68, (.aload_n 0), 1, 0, 0) := by decide +kernel
theorem gx302_69 : aF 69 zM302.2.2.2.2.2.2.2 = some (69, (.getfield 234), 3, 12, 92) := by decide +kernel
theorem gx302_72 : aF 72 zM302.2.2.2.2.2.2.2 = some (72, (.iload 4), 2, 0, 0) := by decide +kernel
theorem gx302_74 : aF 74 zM302.2.2.2.2.2.2.2 = some (74, (.iconst 0), 1, 0, 0) := by decide +kernel
theorem gx302_75 : aF 75 zM302.2.2.2.2.2.2.2 = some (75, .iastore, 1, 0, 0) := by decide +kernel
theorem gx302_76 : aF 76 zM302.2.2.2.2.2.2.2 = some (76, (.iinc 4 1), 3, 0, 0) := by decide +kernel
theorem gx302_79 : aF 79 zM302.2.2.2.2.2.2.2 = some (79, (.goto (-18)), 3, 61, 0) := by decide +kernel
theorem gx45_0 : aF 0 zM45.2.2.2.2.2.2.2 = some (0, (.aload_n 0), 1, 0, 0) := by decide +kernel
theorem gx45_1 : aF 1 zM45.2.2.2.2.2.2.2 = some (1, (.getfield 33), 3, 4, 1) := by decide +kernel
theorem gx45_4 : aF 4 zM45.2.2.2.2.2.2.2 = some (4, (.bipush 6), 2, 0, 0) := by decide +kernel
theorem gx45_6 : aF 6 zM45.2.2.2.2.2.2.2 = some (6, (.if_icmp .ge 23), 3, 29, 0) := by decide +kernel
theorem gx45_29 : aF 29 zM45.2.2.2.2.2.2.2 = some (29, (.aload_n 0), 1, 0, 0) := by decide +kernel
theorem gx45_30 : aF 30 zM45.2.2.2.2.2.2.2 = some (30, (.getfield 33), 3, 4, 1) := by decide +kernel
theorem gx45_33 : aF 33 zM45.2.2.2.2.2.2.2 = some (33, .ireturn, 1, 0, 0) := by decide +kernel
theorem gx45_9 : aF 9 zM45.2.2.2.2.2.2.2 = some (9, (.aload_n 0), 1, 0, 0) := by decide +kernel
theorem gx45_10 : aF 10 zM45.2.2.2.2.2.2.2 = some (10, (.getfield 9), 3, 4, 0) := by decide +kernel
theorem gx45_13 : aF 13 zM45.2.2.2.2.2.2.2 = some (13, (.aload_n 0), 1, 0, 0) := by decide +kernel
theorem gx45_14 : aF 14 zM45.2.2.2.2.2.2.2 = some (14, (.getfield 33), 3, 4, 1) := by decide +kernel
theorem gx45_17 : aF 17 zM45.2.2.2.2.2.2.2 = some (17, (.iload_n 1), 1, 0, 0) := by decide +kernel
theorem gx45_18 : aF 18 zM45.2.2.2.2.2.2.2 = some (18, .iastore, 1, 0, 0) := by decide +kernel
theorem gx45_19 : aF 19 zM45.2.2.2.2.2.2.2 = some (19, (.aload_n 0), 1, 0, 0) := by decide +kernel
theorem gx45_20 : aF 20 zM45.2.2.2.2.2.2.2 = some (20, .dup, 1, 0, 0) := by decide +kernel
theorem gx45_21 : aF 21 zM45.2.2.2.2.2.2.2 = some (21, (.getfield 33), 3, 4, 1) := by decide +kernel
theorem gx45_24 : aF 24 zM45.2.2.2.2.2.2.2 = some (24, (.iconst 1), 1, 0, 0) := by decide +kernel
theorem gx45_25 : aF 25 zM45.2.2.2.2.2.2.2 = some (25, .iadd, 1, 0, 0) := by decide +kernel
theorem gx45_26 : aF 26 zM45.2.2.2.2.2.2.2 = some (26, (.putfield 33), 3, 4, 1) := by decide +kernel
theorem gx181_0 : aF 0 zM181.2.2.2.2.2.2.2 = some (0, (.iload_n 1), 1, 0, 0) := by decide +kernel
theorem gx181_1 : aF 1 zM181.2.2.2.2.2.2.2 = some (1, (.iconst 1), 1, 0, 0) := by decide +kernel
theorem gx181_2 : aF 2 zM181.2.2.2.2.2.2.2 = some (2, (.sipush 576), 3, 0, 0) := by decide +kernel
theorem gx181_5 : aF 5 zM181.2.2.2.2.2.2.2 = some (5, (.invokestatic 85), 3, 137, 0) := by decide +kernel
theorem gx181_8 : aF 8 zM181.2.2.2.2.2.2.2 = some (8, (.ifCond .ne 5), 3, 13, 0) := by decide +kernel
theorem gx181_13 : aF 13 zM181.2.2.2.2.2.2.2 = some (13, (.aload_n 0), 1, 0, 0) := by decide +kernel
theorem gx181_14 : aF 14 zM181.2.2.2.2.2.2.2 = some (14, (.getfield 60), 3, 11, 6) := by decide +kernel
theorem gx181_17 : aF 17 zM181.2.2.2.2.2.2.2 = some (17, (.getfield 327), 3, 4, 1) := by decide +kernel
theorem gx181_20 : aF 20 zM181.2.2.2.2.2.2.2 = some (20, (.bipush 6), 2, 0, 0) := by decide +kernel
theorem gx181_22 : aF 22 zM181.2.2.2.2.2.2.2 = some (22, (.if_icmp .lt 8), 3, 30, 0) := by decide +kernel
theorem gx181_30 : aF 30 zM181.2.2.2.2.2.2.2 = some (30, (.aload_n 0), 1, 0, 0) := by decide +kernel
theorem gx181_31 : aF 31 zM181.2.2.2.2.2.2.2 = some (31, (.getfield 60), 3, 11, 6) := by decide +kernel
theorem gx181_34 : aF 34 zM181.2.2.2.2.2.2.2 = some (34, (.iload_n 1), 1, 0, 0) := by decide +kernel
theorem gx181_35 : aF 35 zM181.2.2.2.2.2.2.2 = some (35, (.invokevirtual 328), 3, 45, 0) := by decide +kernel
theorem gx181_38 : aF 38 zM181.2.2.2.2.2.2.2 = some (38, .ireturn, 1, 0, 0) := by decide +kernel
theorem gx181_25 : aF 25 zM181.2.2.2.2.2.2.2 = some (25, (.bipush (-3)), 2, 0, 0) := by decide +kernel
theorem gx181_27 : aF 27 zM181.2.2.2.2.2.2.2 = some (27, (.goto 11), 3, 38, 0) := by decide +kernel
theorem gx181_11 : aF 11 zM181.2.2.2.2.2.2.2 = some (11, (.iconst (-1)), 1, 0, 0) := by decide +kernel
theorem gx181_12 : aF 12 zM181.2.2.2.2.2.2.2 = some (12, .ireturn, 1, 0, 0) := by decide +kernel
theorem gx299_0 : aF 0 zM299.2.2.2.2.2.2.2 = some (0, (.iload_n 1), 1, 0, 0) := by decide +kernel
theorem gx299_1 : aF 1 zM299.2.2.2.2.2.2.2 = some (1, (.iconst 1), 1, 0, 0) := by decide +kernel
theorem gx299_2 : aF 2 zM299.2.2.2.2.2.2.2 = some (2, (.sipush 576), 3, 0, 0) := by decide +kernel
theorem gx299_5 : aF 5 zM299.2.2.2.2.2.2.2 = some (5, (.invokestatic 258), 3, 196, 0) := by decide +kernel
theorem gx299_8 : aF 8 zM299.2.2.2.2.2.2.2 = some (8, (.ifCond .ne 5), 3, 13, 0) := by decide +kernel
theorem gx299_13 : aF 13 zM299.2.2.2.2.2.2.2 = some (13, (.aload_n 0), 1, 0, 0) := by decide +kernel
theorem gx299_14 : aF 14 zM299.2.2.2.2.2.2.2 = some (14, (.getfield 546), 3, 12, 87) := by decide +kernel
theorem gx299_17 : aF 17 zM299.2.2.2.2.2.2.2 = some (17, (.bipush 6), 2, 0, 0) := by decide +kernel
theorem gx299_19 : aF 19 zM299.2.2.2.2.2.2.2 = some (19, (.if_icmp .ne 6), 3, 25, 0) := by decide +kernel
theorem gx299_25 : aF 25 zM299.2.2.2.2.2.2.2 = some (25, (.aload_n 0), 1, 0, 0) := by decide +kernel
theorem gx299_26 : aF 26 zM299.2.2.2.2.2.2.2 = some (26, (.getfield 222), 3, 12, 88) := by decide +kernel
theorem gx299_29 : aF 29 zM299.2.2.2.2.2.2.2 = some (29, (.aload_n 0), 1, 0, 0) := by decide +kernel
theorem gx299_30 : aF 30 zM299.2.2.2.2.2.2.2 = some (30, (.getfield 546), 3, 12, 87) := by decide +kernel
theorem gx299_33 : aF 33 zM299.2.2.2.2.2.2.2 = some (33, (.iload_n 1), 1, 0, 0) := by decide +kernel
theorem gx299_34 : aF 34 zM299.2.2.2.2.2.2.2 = some (34, .iastore, 1, 0, 0) := by decide +kernel
theorem gx299_35 : aF 35 zM299.2.2.2.2.2.2.2 = some (35, (.aload_n 0), 1, 0, 0) := by decide +kernel
theorem gx299_36 : aF 36 zM299.2.2.2.2.2.2.2 = some (36, .dup, 1, 0, 0) := by decide +kernel
theorem gx299_37 : aF 37 zM299.2.2.2.2.2.2.2 = some (37, (.getfield 546), 3, 12, 87) := by decide +kernel
theorem gx299_40 : aF 40 zM299.2.2.2.2.2.2.2 = some (40, (.iconst 1), 1, 0, 0) := by decide +kernel
theorem gx299_41 : aF 41 zM299.2.2.2.2.2.2.2 = some (41, .iadd, 1, 0, 0) := by decide +kernel
theorem gx299_42 : aF 42 zM299.2.2.2.2.2.2.2 = some (42, (.putfield 546), 3, 12, 87) := by decide +kernel
theorem gx299_45 : aF 45 zM299.2.2.2.2.2.2.2 = some (45, (.aload_n 0), 1, 0, 0) := by decide +kernel
theorem gx299_46 : aF 46 zM299.2.2.2.2.2.2.2 = some (46, (.getfield 546), 3, 12, 87) := by decide +kernel
theorem gx299_49 : aF 49 zM299.2.2.2.2.2.2.2 = some (49, .ireturn, 1, 0, 0) := by decide +kernel
theorem gx299_22 : aF 22 zM299.2.2.2.2.2.2.2 = some (22, (.bipush (-3)), 2, 0, 0) := by decide +kernel
theorem gx299_24 : aF 24 zM299.2.2.2.2.2.2.2 = some (24, .ireturn, 1, 0, 0) := by decide +kernel
theorem gx299_11 : aF 11 zM299.2.2.2.2.2.2.2 = some (11, (.iconst (-1)), 1, 0, 0) := by decide +kernel
theorem gx299_12 : aF 12 zM299.2.2.2.2.2.2.2 = some (12, .ireturn, 1, 0, 0) := by decide +kernel
theorem d332_0 {n : Nat} {X : aX} {h : aH} {P : aH → Prop} {x1 : Int32} {a1 : Int} (S : wS h) (z1 : x1.toInt = a1) (H : (∀ (w2 : Int32) (w3 : Int32), w2.toInt = 0 → w3.toInt = 8 → Pt n X zM332 5 [some (.ref 61), some (.int x1), some (.int w2), some (.int w3)] [] h (qN P))) : Pt (n + 1) X zM332 0 [some (.ref 61), some (.int x1), none, none] [] h (qN P) := by
  refine pt_iconst gx332_0 (fun v1 h1 => ?_)
  refine pt_d (pt_1 (fun n d => r_istoren (L' := [some (.ref 61), some (.int x1), some (.int v1), none]) gx332_1 rfl rfl) ?_)
  refine pt_d (pt_1 (fun n d => r_aloadn gx332_2 rfl) ?_)
  refine pt_d (pt_alen (N' := 8) gx332_3 S tl_61 (fun v2 h2 => ?_))
  refine pt_d (pt_1 (fun n d => r_istoren (L' := [some (.ref 61), some (.int x1), some (.int v1), some (.int v2)]) gx332_4 rfl rfl) ?_)
  exact H v1 v2 h1 h2
theorem d332_5 {n : Nat} {X : aX} {h : aH} {P : aH → Prop} {x1 x2 x3 : Int32} {a1 a2 a3 : Int} (S : wS h) (z1 : x1.toInt = a1) (z2 : x2.toInt = a2) (z3 : x3.toInt = a3) (H : ((a3 ≤ a2 → P h) ∧ (a2 < a3 → (0 ≤ a2 → a2 < 8 → ∀ h_2 : aH, wS h_2 → vw h_2 = up (vw h) 61 a2 a1 → (∀ (w2 : Int32), w2.toInt = w32 (a2 + 1) → Pt n X zM332 5 [some (.ref 61), some (.int x1), some (.int w2), some (.int x3)] [] h_2 (qN P)))))) : Pt (n + 1) X zM332 5 [some (.ref 61), some (.int x1), some (.int x2), some (.int x3)] [] h (qN P) := by
  refine pt_1 (fun n d => r_iloadn gx332_5 rfl) ?_
  refine pt_d (pt_1 (fun n d => r_iloadn gx332_6 rfl) ?_)
  refine pt_d (pt_icmp_ge gx332_7 z2 z3 (fun e1 => ?_) (fun e1 => ?_))
  · have H := H.1 e1
    exact pt_d (pt_vret gx332_20 ⟨rfl, H⟩)
  · have H := H.2 e1
    refine pt_d (pt_1 (fun n d => r_aloadn gx332_10 rfl) ?_)
    refine pt_d (pt_1 (fun n d => r_iloadn gx332_11 rfl) ?_)
    refine pt_d (pt_1 (fun n d => r_iloadn gx332_12 rfl) ?_)
    refine pt_d (pt_iast (N' := 8) gx332_13 S tl_61 z2 z1 (fun h_2 S2 p2 q2 e2 => ?_))
    have H := H p2 q2
    refine pt_d (pt_iinc (c := 1) gx332_14 rfl z2 (fun v3 h3 => ?_))
    show Pt _ _ _ _ [some (.ref 61), some (.int x1), some (.int v3), some (.int x3)] [] _ _
    refine pt_d (pt_1 (fun n d => r_goto gx332_17) ?_)
    have H := H h_2 S2 (by rw [e2])
    exact H v3 h3
theorem l_332 {X : aX} : ∀ (n : Nat) (h : aH) (x1 x2 x3 : Int32), wS h → Pt n X zM332 5 [some (.ref 61), some (.int x1), some (.int x2), some (.int x3)] [] h (qN (fun h' => wS h' ∧ True)) := by
  intro n
  induction n with
  | zero => exact fun _ _ _ _ _ => pt_z
  | succ n ih =>
    intro h x1 x2 x3 S
    exact d332_5 S rfl rfl rfl ⟨fun _ => ⟨S, trivial⟩, fun _ _ _ g S1 _ w2 _ => ih g x1 w2 x3 S1⟩
theorem c_332 {n : Nat} {X : aX} {h : aH} {x1 : Int32} {a1 : Int} (S : wS h) (z1 : x1.toInt = a1) : Pt n X zM332 0 [some (.ref 61), some (.int x1), none, none] [] h (qN (fun h' => wS h' ∧ True)) := by
  exact pt_d (d332_0 S z1 (fun w2 w3 _ _ => l_332 n h x1 w2 w3 S))

theorem d48_0 {n : Nat} {X : aX} {h : aH} {P : aH → Prop} (S : wS h) (H : (∀ (w1 : Int32) (u2_ : Option Value), w1.toInt = 0 → Pt n X zM48 2 [some (.ref 55), some (.int w1), u2_] [] h (qN P))) : Pt (n + 1) X zM48 0 [some (.ref 55), none, none] [] h (qN P) := by
  refine pt_iconst gx48_0 (fun v1 h1 => ?_)
  refine pt_d (pt_1 (fun n d => r_istoren (L' := [some (.ref 55), some (.int v1), none]) gx48_1 rfl rfl) ?_)
  exact H v1 _ h1
theorem d48_2 {n : Nat} {X : aX} {h : aH} {P : aH → Prop} {x1 : Int32} {a1 : Int} {u2 : Option Value} (S : wS h) (z1 : x1.toInt = a1) (H : ((8 ≤ a1 → P h) ∧ (a1 < 8 → Pt n X zM48 10 [some (.ref 55), some (.int x1), some (.int x1)] [] h (qN P)))) : Pt (n + 1) X zM48 2 [some (.ref 55), some (.int x1), u2] [] h (qN P) := by
  refine pt_1 (fun n d => r_iloadn gx48_2 rfl) ?_
  refine pt_d (pt_bipush gx48_3 (fun v1 h1 => ?_))
  refine pt_d (pt_icmp_ge gx48_5 z1 h1 (fun e2 => ?_) (fun e2 => ?_))
  · have H := H.1 e2
    exact pt_d (pt_vret gx48_69 ⟨rfl, H⟩)
  · have H := H.2 e2
    refine pt_d (pt_1 (fun n d => r_iloadn gx48_8 rfl) ?_)
    refine pt_d (pt_1 (fun n d => r_istoren (L' := [some (.ref 55), some (.int x1), some (.int x1)]) gx48_9 rfl rfl) ?_)
    exact H
theorem d48_10 {n : Nat} {X : aX} {h : aH} {P : aH → Prop} {x1 x2 : Int32} {a1 a2 : Int} (S : wS h) (z1 : x1.toInt = a1) (z2 : x2.toInt = a2) (H : ((a2 ≤ 0 → (0 ≤ a2 → a2 < 8 → ∀ h_3 : aH, wS h_3 → vw h_3 = up (vw h) 60 a2 a1 → (∀ (w1 : Int32) (u2_ : Option Value), w1.toInt = w32 (a1 + 1) → Pt n X zM48 2 [some (.ref 55), some (.int w1), u2_] [] h_3 (qN P)))) ∧ (0 < a2 → (0 ≤ w32 (a2 - 1) → w32 (a2 - 1) < 8 → (0 ≤ vw h 60 (w32 (a2 - 1)) → vw h 60 (w32 (a2 - 1)) < 8 → (0 ≤ a1 → a1 < 8 → ((vw h 57 a1 ≤ vw h 57 (vw h 60 (w32 (a2 - 1))) → (0 ≤ a2 → a2 < 8 → ∀ h_15 : aH, wS h_15 → vw h_15 = up (vw h) 60 a2 a1 → (∀ (w1 : Int32) (u2_ : Option Value), w1.toInt = w32 (a1 + 1) → Pt n X zM48 2 [some (.ref 55), some (.int w1), u2_] [] h_15 (qN P)))) ∧ (vw h 57 (vw h 60 (w32 (a2 - 1))) < vw h 57 a1 → (0 ≤ a2 → a2 < 8 → ∀ h_22 : aH, wS h_22 → vw h_22 = up (vw h) 60 a2 (vw h 60 (w32 (a2 - 1))) → (∀ (w2 : Int32), w2.toInt = w32 (a2 + (-1)) → Pt n X zM48 10 [some (.ref 55), some (.int x1), some (.int w2)] [] h_22 (qN P))))))))))) : Pt (n + 1) X zM48 10 [some (.ref 55), some (.int x1), some (.int x2)] [] h (qN P) := by
  refine pt_1 (fun n d => r_iloadn gx48_10 rfl) ?_
  refine pt_d (pt_if_le gx48_11 z2 (fun e1 => ?_) (fun e1 => ?_))
  · have H := H.1 e1
    refine pt_d (pt_1 (fun n d => r_aloadn gx48_56 rfl) ?_)
    refine pt_d (pt_getR gx48_57 S tr_55_6 ?_)
    refine pt_d (pt_1 (fun n d => r_iloadn gx48_60 rfl) ?_)
    refine pt_d (pt_1 (fun n d => r_iloadn gx48_61 rfl) ?_)
    refine pt_d (pt_iast (N' := 8) gx48_62 S tl_60 z2 z1 (fun h_3 S3 p3 q3 e3 => ?_))
    have H := H p3 q3
    refine pt_d (pt_iinc (c := 1) gx48_63 rfl z1 (fun v4 h4 => ?_))
    show Pt _ _ _ _ [some (.ref 55), some (.int v4), some (.int x2)] [] _ _
    refine pt_d (pt_1 (fun n d => r_goto gx48_66) ?_)
    have H := H h_3 S3 (by rw [e3])
    exact H v4 _ h4
  · have H := H.2 e1
    refine pt_d (pt_1 (fun n d => r_aloadn gx48_14 rfl) ?_)
    refine pt_d (pt_getR gx48_15 S tr_55_2 ?_)
    refine pt_d (pt_1 (fun n d => r_aloadn gx48_18 rfl) ?_)
    refine pt_d (pt_getR gx48_19 S tr_55_6 ?_)
    refine pt_d (pt_1 (fun n d => r_iloadn gx48_22 rfl) ?_)
    refine pt_d (pt_iconst gx48_23 (fun v7 h7 => ?_))
    refine pt_d (pt_isub gx48_24 z2 h7 (fun v8 h8 => ?_))
    refine pt_d (pt_iald (N' := 8) gx48_25 S tl_60 h8 (fun v9 p9 q9 h9 => ?_))
    have H := H p9 q9
    refine pt_d (pt_iald (N' := 8) gx48_26 S tl_57 h9 (fun v10 p10 q10 h10 => ?_))
    have H := H p10 q10
    refine pt_d (pt_1 (fun n d => r_aloadn gx48_27 rfl) ?_)
    refine pt_d (pt_getR gx48_28 S tr_55_2 ?_)
    refine pt_d (pt_1 (fun n d => r_iloadn gx48_31 rfl) ?_)
    refine pt_d (pt_iald (N' := 8) gx48_32 S tl_57 z1 (fun v12 p12 q12 h12 => ?_))
    have H := H p12 q12
    refine pt_d (pt_icmp_ge gx48_33 h10 h12 (fun e13 => ?_) (fun e13 => ?_))
    · have H := H.1 e13
      refine pt_d (pt_1 (fun n d => r_aloadn gx48_56 rfl) ?_)
      refine pt_d (pt_getR gx48_57 S tr_55_6 ?_)
      refine pt_d (pt_1 (fun n d => r_iloadn gx48_60 rfl) ?_)
      refine pt_d (pt_1 (fun n d => r_iloadn gx48_61 rfl) ?_)
      refine pt_d (pt_iast (N' := 8) gx48_62 S tl_60 z2 z1 (fun h_15 S15 p15 q15 e15 => ?_))
      have H := H p15 q15
      refine pt_d (pt_iinc (c := 1) gx48_63 rfl z1 (fun v16 h16 => ?_))
      show Pt _ _ _ _ [some (.ref 55), some (.int v16), some (.int x2)] [] _ _
      refine pt_d (pt_1 (fun n d => r_goto gx48_66) ?_)
      have H := H h_15 S15 (by rw [e15])
      exact H v16 _ h16
    · have H := H.2 e13
      refine pt_d (pt_1 (fun n d => r_aloadn gx48_36 rfl) ?_)
      refine pt_d (pt_getR gx48_37 S tr_55_6 ?_)
      refine pt_d (pt_1 (fun n d => r_iloadn gx48_40 rfl) ?_)
      refine pt_d (pt_1 (fun n d => r_aloadn gx48_41 rfl) ?_)
      refine pt_d (pt_getR gx48_42 S tr_55_6 ?_)
      refine pt_d (pt_1 (fun n d => r_iloadn gx48_45 rfl) ?_)
      refine pt_d (pt_iconst gx48_46 (fun v19 h19 => ?_))
      refine pt_d (pt_isub gx48_47 z2 h19 (fun v20 h20 => ?_))
      refine pt_d (pt_iald (N' := 8) gx48_48 S tl_60 h20 (fun v21 p21 q21 h21 => ?_))
      refine pt_d (pt_iast (N' := 8) gx48_49 S tl_60 z2 h21 (fun h_22 S22 p22 q22 e22 => ?_))
      have H := H p22 q22
      refine pt_d (pt_iinc (c := (-1)) gx48_50 rfl z2 (fun v23 h23 => ?_))
      show Pt _ _ _ _ [some (.ref 55), some (.int x1), some (.int v23)] [] _ _
      refine pt_d (pt_1 (fun n d => r_goto gx48_53) ?_)
      have H := H h_22 S22 (by rw [e22])
      exact H v23 h23
theorem l_48 {X : aX} : ∀ n : Nat, (∀ (h : aH) (x1 : Int32) (u2 : Option Value), wS h → Pt n X zM48 2 [some (.ref 55), some (.int x1), u2] [] h (qN (fun h' => wS h' ∧ True))) ∧ (∀ (h : aH) (x1 x2 : Int32), wS h → Pt n X zM48 10 [some (.ref 55), some (.int x1), some (.int x2)] [] h (qN (fun h' => wS h' ∧ True))) := by
  intro n
  induction n with
  | zero => exact ⟨fun _ _ _ _ => pt_z, fun _ _ _ _ => pt_z⟩
  | succ n ih =>
    obtain ⟨ih2, ih10⟩ := ih
    refine And.intro ?_ ?_
    · intro h x1 u2 S
      exact d48_2 S rfl ⟨fun _ => ⟨S, trivial⟩, fun _ => ih10 h x1 x1 S⟩
    · intro h x1 x2 S
      exact d48_10 S rfl rfl ⟨fun _ _ _ g S1 _ w1 u2 _ => ih2 g w1 u2 S1, fun _ _ _ _ _ _ _ => ⟨fun _ _ _ g S1 _ w1 u2 _ => ih2 g w1 u2 S1, fun _ _ _ g S1 _ w2 _ => ih10 g x1 w2 S1⟩⟩
theorem c_48 {n : Nat} {X : aX} {h : aH} (S : wS h) : Pt n X zM48 0 [some (.ref 55), none, none] [] h (qN (fun h' => wS h' ∧ True)) := by
  exact pt_d (d48_0 S (fun w1 u2 _ => (l_48 n).1 h w1 u2 S))

theorem d51_0 {n : Nat} {X : aX} {h : aH} {P : Int → aH → Prop} {x1 x2 : Int32} {a1 a2 : Int} (S : wS h) (z1 : x1.toInt = a1) (z2 : x2.toInt = a2) (H : (∀ (w5 : Int32) (u6_ : Option Value), w5.toInt = 0 → Pt n X zM51 8 [some (.ref 55), some (.int x1), some (.int x2), some (.int x2), some (.int x1), some (.int w5), u6_] [] h (qI P))) : Pt (n + 1) X zM51 0 [some (.ref 55), some (.int x1), some (.int x2), none, none, none, none] [] h (qI P) := by
  refine pt_1 (fun n d => r_iloadn gx51_0 rfl) ?_
  refine pt_d (pt_1 (fun n d => r_istoren (L' := [some (.ref 55), some (.int x1), some (.int x2), some (.int x2), none, none, none]) gx51_1 rfl rfl) ?_)
  refine pt_d (pt_1 (fun n d => r_iloadn gx51_2 rfl) ?_)
  refine pt_d (pt_1 (fun n d => r_istore (L' := [some (.ref 55), some (.int x1), some (.int x2), some (.int x2), some (.int x1), none, none]) gx51_3 rfl rfl) ?_)
  refine pt_d (pt_iconst gx51_5 (fun v1 h1 => ?_))
  refine pt_d (pt_1 (fun n d => r_istore (L' := [some (.ref 55), some (.int x1), some (.int x2), some (.int x2), some (.int x1), some (.int v1), none]) gx51_6 rfl rfl) ?_)
  exact H v1 _ h1
theorem d51_8 {n : Nat} {X : aX} {h : aH} {P : Int → aH → Prop} {x1 x2 x3 x4 x5 : Int32} {a1 a2 a3 a4 a5 : Int} {u6 : Option Value} (S : wS h) (z1 : x1.toInt = a1) (z2 : x2.toInt = a2) (z3 : x3.toInt = a3) (z4 : x4.toInt = a4) (z5 : x5.toInt = a5) (H : ((8 ≤ a5 → ((a4 ≤ 0 → P a3 h) ∧ (0 < a4 → P (-1) h))) ∧ (a5 < 8 → ((a4 ≤ 0 → ((a4 ≤ 0 → P a3 h) ∧ (0 < a4 → P (-1) h))) ∧ (0 < a4 → (0 ≤ a5 → a5 < 8 → (0 ≤ vw h 60 a5 → vw h 60 a5 < 8 → (∀ (w3 : Int32) (w4 : Int32) (w5 : Int32) (u6_ : Option Value), w3.toInt = w32 (a3 + (w32 ((min a4 (w32 ((vw h 55 9) - (vw h 61 (vw h 60 a5))))) * (vw h 57 (vw h 60 a5))))) → w4.toInt = w32 (a4 - (min a4 (w32 ((vw h 55 9) - (vw h 61 (vw h 60 a5)))))) → w5.toInt = w32 (a5 + 1) → Pt n X zM51 8 [some (.ref 55), some (.int x1), some (.int x2), some (.int w3), some (.int w4), some (.int w5), u6_] [] h (qI P))))))))) : Pt (n + 1) X zM51 8 [some (.ref 55), some (.int x1), some (.int x2), some (.int x3), some (.int x4), some (.int x5), u6] [] h (qI P) := by
  refine pt_1 (fun n d => r_iload gx51_8 rfl) ?_
  refine pt_d (pt_bipush gx51_10 (fun v1 h1 => ?_))
  refine pt_d (pt_icmp_ge gx51_12 z5 h1 (fun e2 => ?_) (fun e2 => ?_))
  · have H := H.1 e2
    refine pt_d (pt_1 (fun n d => r_iload gx51_75 rfl) ?_)
    refine pt_d (pt_if_le gx51_77 z4 (fun e3 => ?_) (fun e3 => ?_))
    · have H := H.1 e3
      refine pt_d (pt_1 (fun n d => r_iloadn gx51_84 rfl) ?_)
      exact pt_d (pt_iret gx51_85 ⟨_, rfl, by rw [z3]; exact H⟩)
    · have H := H.2 e3
      refine pt_d (pt_iconst gx51_80 (fun v4 h4 => ?_))
      refine pt_d (pt_1 (fun n d => r_goto gx51_81) ?_)
      exact pt_d (pt_iret gx51_85 ⟨_, rfl, by rw [h4]; exact H⟩)
  · have H := H.2 e2
    refine pt_d (pt_1 (fun n d => r_iload gx51_15 rfl) ?_)
    refine pt_d (pt_if_le gx51_17 z4 (fun e5 => ?_) (fun e5 => ?_))
    · have H := H.1 e5
      refine pt_d (pt_1 (fun n d => r_iload gx51_75 rfl) ?_)
      refine pt_d (pt_if_le gx51_77 z4 (fun e6 => ?_) (fun e6 => ?_))
      · have H := H.1 e6
        refine pt_d (pt_1 (fun n d => r_iloadn gx51_84 rfl) ?_)
        exact pt_d (pt_iret gx51_85 ⟨_, rfl, by rw [z3]; exact H⟩)
      · have H := H.2 e6
        refine pt_d (pt_iconst gx51_80 (fun v7 h7 => ?_))
        refine pt_d (pt_1 (fun n d => r_goto gx51_81) ?_)
        exact pt_d (pt_iret gx51_85 ⟨_, rfl, by rw [h7]; exact H⟩)
    · have H := H.2 e5
      refine pt_d (pt_1 (fun n d => r_iload gx51_20 rfl) ?_)
      refine pt_d (pt_1 (fun n d => r_aloadn gx51_22 rfl) ?_)
      refine pt_d (pt_getI (B := 9) gx51_23 S (fun v8 h8 => ?_))
      refine pt_d (pt_1 (fun n d => r_aloadn gx51_26 rfl) ?_)
      refine pt_d (pt_getR gx51_27 S tr_55_7 ?_)
      refine pt_d (pt_1 (fun n d => r_aloadn gx51_30 rfl) ?_)
      refine pt_d (pt_getR gx51_31 S tr_55_6 ?_)
      refine pt_d (pt_1 (fun n d => r_iload gx51_34 rfl) ?_)
      refine pt_d (pt_iald (N' := 8) gx51_36 S tl_60 z5 (fun v11 p11 q11 h11 => ?_))
      have H := H p11 q11
      refine pt_d (pt_iald (N' := 8) gx51_37 S tl_61 h11 (fun v12 p12 q12 h12 => ?_))
      have H := H p12 q12
      refine pt_d (pt_isub gx51_38 h8 h12 (fun v13 h13 => ?_))
      refine pt_d (pt_min gx51_39 rfl z4 h13 (fun v14 h14 => ?_))
      refine pt_d (pt_1 (fun n d => r_istore (L' := [some (.ref 55), some (.int x1), some (.int x2), some (.int x3), some (.int x4), some (.int x5), some (.int v14)]) gx51_42 rfl rfl) ?_)
      refine pt_d (pt_1 (fun n d => r_iloadn gx51_44 rfl) ?_)
      refine pt_d (pt_1 (fun n d => r_iload gx51_45 rfl) ?_)
      refine pt_d (pt_1 (fun n d => r_aloadn gx51_47 rfl) ?_)
      refine pt_d (pt_getR gx51_48 S tr_55_2 ?_)
      refine pt_d (pt_1 (fun n d => r_aloadn gx51_51 rfl) ?_)
      refine pt_d (pt_getR gx51_52 S tr_55_6 ?_)
      refine pt_d (pt_1 (fun n d => r_iload gx51_55 rfl) ?_)
      refine pt_d (pt_iald (N' := 8) gx51_57 S tl_60 z5 (fun v17 p17 q17 h17 => ?_))
      refine pt_d (pt_iald (N' := 8) gx51_58 S tl_57 h17 (fun v18 p18 q18 h18 => ?_))
      refine pt_d (pt_imul gx51_59 h14 h18 (fun v19 h19 => ?_))
      refine pt_d (pt_iadd gx51_60 z3 h19 (fun v20 h20 => ?_))
      refine pt_d (pt_1 (fun n d => r_istoren (L' := [some (.ref 55), some (.int x1), some (.int x2), some (.int v20), some (.int x4), some (.int x5), some (.int v14)]) gx51_61 rfl rfl) ?_)
      refine pt_d (pt_1 (fun n d => r_iload gx51_62 rfl) ?_)
      refine pt_d (pt_1 (fun n d => r_iload gx51_64 rfl) ?_)
      refine pt_d (pt_isub gx51_66 z4 h14 (fun v21 h21 => ?_))
      refine pt_d (pt_1 (fun n d => r_istore (L' := [some (.ref 55), some (.int x1), some (.int x2), some (.int v20), some (.int v21), some (.int x5), some (.int v14)]) gx51_67 rfl rfl) ?_)
      refine pt_d (pt_iinc (c := 1) gx51_69 rfl z5 (fun v22 h22 => ?_))
      show Pt _ _ _ _ [some (.ref 55), some (.int x1), some (.int x2), some (.int v20), some (.int v21), some (.int v22), some (.int v14)] [] _ _
      refine pt_d (pt_1 (fun n d => r_goto gx51_72) ?_)
      exact H v20 v21 v22 _ h20 h21 h22
theorem d50_0 {n : Nat} {X : aX} {h : aH} {P : Int → aH → Prop} {x1 : Int32} {a1 : Int} {q2 : Nat} (S : wS h) (z1 : x1.toInt = a1) (H : (∀ (w3 : Int32), w3.toInt = 0 → Pt n X zM50 2 [some (.ref 55), some (.int x1), some (.ref q2), some (.int w3)] [] h (qI P))) : Pt (n + 1) X zM50 0 [some (.ref 55), some (.int x1), some (.ref q2), none] [] h (qI P) := by
  refine pt_iconst gx50_0 (fun v1 h1 => ?_)
  refine pt_d (pt_1 (fun n d => r_istoren (L' := [some (.ref 55), some (.int x1), some (.ref q2), some (.int v1)]) gx50_1 rfl rfl) ?_)
  exact H v1 h1
theorem d50_2 {n : Nat} {X : aX} {h : aH} {P : Int → aH → Prop} {x1 x3 : Int32} {a1 a3 : Int} {q2 : Nat} (S : wS h) (z1 : x1.toInt = a1) (z3 : x3.toInt = a3) (H : ((a1 ≤ a3 → P 1 h) ∧ (a3 < a1 → (0 ≤ a3 → (0 ≤ vw h q2 a3 → vw h q2 a3 < 8 → ((vw h 61 (vw h q2 a3) ≠ 0 → (∀ (w3 : Int32), w3.toInt = w32 (a3 + 1) → Pt n X zM50 2 [some (.ref 55), some (.int x1), some (.ref q2), some (.int w3)] [] h (qI P))) ∧ (vw h 61 (vw h q2 a3) = 0 → (0 ≤ a3 → (0 ≤ a1 → (0 ≤ vw h q2 a1 → vw h q2 a1 < 8 → ((vw h 57 (vw h q2 a3) ≠ vw h 57 (vw h q2 a1) → (∀ (w3 : Int32), w3.toInt = w32 (a3 + 1) → Pt n X zM50 2 [some (.ref 55), some (.int x1), some (.ref q2), some (.int w3)] [] h (qI P))) ∧ (vw h 57 (vw h q2 a3) = vw h 57 (vw h q2 a1) → P 0 h)))))))))))) : Pt (n + 1) X zM50 2 [some (.ref 55), some (.int x1), some (.ref q2), some (.int x3)] [] h (qI P) := by
  refine pt_1 (fun n d => r_iloadn gx50_2 rfl) ?_
  refine pt_d (pt_1 (fun n d => r_iloadn gx50_3 rfl) ?_)
  refine pt_d (pt_icmp_ge gx50_4 z3 z1 (fun e1 => ?_) (fun e1 => ?_))
  · have H := H.1 e1
    refine pt_d (pt_iconst gx50_45 (fun v2 h2 => ?_))
    exact pt_d (pt_iret gx50_46 ⟨_, rfl, by rw [h2]; exact H⟩)
  · have H := H.2 e1
    refine pt_d (pt_1 (fun n d => r_aloadn gx50_7 rfl) ?_)
    refine pt_d (pt_getR gx50_8 S tr_55_7 ?_)
    refine pt_d (pt_1 (fun n d => r_aloadn gx50_11 rfl) ?_)
    refine pt_d (pt_1 (fun n d => r_iloadn gx50_12 rfl) ?_)
    refine pt_d (pt_ialdD gx50_13 z3 (fun v4 p4 h4 => ?_))
    have H := H p4
    refine pt_d (pt_iald (N' := 8) gx50_14 S tl_61 h4 (fun v5 p5 q5 h5 => ?_))
    have H := H p5 q5
    refine pt_d (pt_if_ne gx50_15 h5 (fun e6 => ?_) (fun e6 => ?_))
    · have H := H.1 e6
      refine pt_d (pt_iinc (c := 1) gx50_39 rfl z3 (fun v7 h7 => ?_))
      show Pt _ _ _ _ [some (.ref 55), some (.int x1), some (.ref q2), some (.int v7)] [] _ _
      refine pt_d (pt_1 (fun n d => r_goto gx50_42) ?_)
      exact H v7 h7
    · have H := H.2 e6
      refine pt_d (pt_1 (fun n d => r_aloadn gx50_18 rfl) ?_)
      refine pt_d (pt_getR gx50_19 S tr_55_2 ?_)
      refine pt_d (pt_1 (fun n d => r_aloadn gx50_22 rfl) ?_)
      refine pt_d (pt_1 (fun n d => r_iloadn gx50_23 rfl) ?_)
      refine pt_d (pt_ialdD gx50_24 z3 (fun v9 p9 h9 => ?_))
      have H := H p9
      refine pt_d (pt_iald (N' := 8) gx50_25 S tl_57 h9 (fun v10 p10 q10 h10 => ?_))
      refine pt_d (pt_1 (fun n d => r_aloadn gx50_26 rfl) ?_)
      refine pt_d (pt_getR gx50_27 S tr_55_2 ?_)
      refine pt_d (pt_1 (fun n d => r_aloadn gx50_30 rfl) ?_)
      refine pt_d (pt_1 (fun n d => r_iloadn gx50_31 rfl) ?_)
      refine pt_d (pt_ialdD gx50_32 z1 (fun v12 p12 h12 => ?_))
      have H := H p12
      refine pt_d (pt_iald (N' := 8) gx50_33 S tl_57 h12 (fun v13 p13 q13 h13 => ?_))
      have H := H p13 q13
      refine pt_d (pt_icmp_ne gx50_34 h10 h13 (fun e14 => ?_) (fun e14 => ?_))
      · have H := H.1 e14
        refine pt_d (pt_iinc (c := 1) gx50_39 rfl z3 (fun v15 h15 => ?_))
        show Pt _ _ _ _ [some (.ref 55), some (.int x1), some (.ref q2), some (.int v15)] [] _ _
        refine pt_d (pt_1 (fun n d => r_goto gx50_42) ?_)
        exact H v15 h15
      · have H := H.2 e14
        refine pt_d (pt_iconst gx50_37 (fun v16 h16 => ?_))
        exact pt_d (pt_iret gx50_38 ⟨_, rfl, by rw [h16]; exact H⟩)
theorem l_51 {X : aX} : ∀ (n : Nat) (h : aH) (x1 x2 x3 x4 x5 : Int32) (u6 : Option Value), wS h → Pt n X zM51 8 [some (.ref 55), some (.int x1), some (.int x2), some (.int x3), some (.int x4), some (.int x5), u6] [] h (qI (fun y h' => wS h' ∧ h' = h)) := by
  intro n
  induction n with
  | zero => exact fun _ _ _ _ _ _ _ _ => pt_z
  | succ n ih =>
    intro h x1 x2 x3 x4 x5 u6 S
    exact d51_8 S rfl rfl rfl rfl rfl ⟨fun _ => ⟨fun _ => ⟨S, rfl⟩, fun _ => ⟨S, rfl⟩⟩, fun _ => ⟨fun _ => ⟨fun _ => ⟨S, rfl⟩, fun _ => ⟨S, rfl⟩⟩, fun _ _ _ _ _ w3 w4 w5 u6 _ _ _ => ih h x1 x2 w3 w4 w5 u6 S⟩⟩
theorem c_51 {n : Nat} {X : aX} {h : aH} {x1 x2 : Int32} {a1 a2 : Int} (S : wS h) (z1 : x1.toInt = a1) (z2 : x2.toInt = a2) : Pt n X zM51 0 [some (.ref 55), some (.int x1), some (.int x2), none, none, none, none] [] h (qI (fun y h' => wS h' ∧ h' = h)) := by
  exact pt_d (d51_0 S z1 z2 (fun w5 u6 _ => l_51 n h x1 x2 x2 x1 w5 u6 S))
theorem l_50 {X : aX} : ∀ (n : Nat) (h : aH) (x1 x3 : Int32) (q2 : Nat), wS h → Pt n X zM50 2 [some (.ref 55), some (.int x1), some (.ref q2), some (.int x3)] [] h (qI (fun y h' => wS h' ∧ h' = h)) := by
  intro n
  induction n with
  | zero => exact fun _ _ _ _ _ => pt_z
  | succ n ih =>
    intro h x1 x3 q2 S
    exact d50_2 S rfl rfl ⟨fun _ => ⟨S, rfl⟩, fun _ _ _ _ => ⟨fun _ w3 _ => ih h x1 w3 q2 S, fun _ _ _ _ _ => ⟨fun _ w3 _ => ih h x1 w3 q2 S, fun _ => ⟨S, rfl⟩⟩⟩⟩
theorem c_50 {n : Nat} {X : aX} {h : aH} {x1 : Int32} {a1 : Int} {q2 : Nat} (S : wS h) (z1 : x1.toInt = a1) : Pt n X zM50 0 [some (.ref 55), some (.int x1), some (.ref q2), none] [] h (qI (fun y h' => wS h' ∧ h' = h)) := by
  exact pt_d (d50_0 S z1 (fun w3 _ => l_50 n h x1 w3 q2 S))

theorem d49_0 {n : Nat} {X : aX} {h : aH} {P : aH → Prop} {x1 x3 x4 x5 : Int32} {a1 a3 a4 a5 : Int} {q2 : Nat} (S : wS h) (z1 : x1.toInt = a1) (z3 : x3.toInt = a3) (z4 : x4.toInt = a4) (z5 : x5.toInt = a5) (H : ((w32 ((w32 (a5 + (vw h 55 1))) - a1) < vw h 55 10 → P h) ∧ (vw h 55 10 ≤ w32 ((w32 (a5 + (vw h 55 1))) - a1) → ∀ (y6 : Int) (h_6 : aH), (wS h_6 ∧ h_6 = h) → ((vw h_6 55 11 < y6 → ((vw h_6 55 1 ≤ a1 → ((0 : Int) ≤ 0 → (0 : Int) ≤ 0 → (0 : Int) ≤ vw h_6 55 1 → ∀ h_17 : aH, wS h_17 → vw h_17 = cpy (up (vw h_6) 55 11 a4) 62 0 58 0 (vw h_6 55 1) → P h_17)) ∧ (a1 < vw h_6 55 1 → ((a1 < 6 → (0 ≤ a1 → a1 < 6 → (∀ (w6 : Int32) (w7 : Int32) (u8_ : Option Value) (u9_ : Option Value), w6.toInt = vw h_6 56 a1 → w7.toInt = 0 → Pt n X zM49 80 [some (.ref 55), some (.int x1), some (.ref q2), some (.int x3), some (.int x4), some (.int x5), some (.int w6), some (.int w7), u8_, u9_] [] h_6 (qN P)))) ∧ (6 ≤ a1 → ((0 : Int) ≤ 0 → (0 : Int) ≤ 0 → (0 : Int) ≤ vw h_6 55 1 → ∀ h_29 : aH, wS h_29 → vw h_29 = cpy (up (vw h_6) 55 11 a4) 62 0 58 0 (vw h_6 55 1) → P h_29)))))) ∧ (y6 ≤ vw h_6 55 11 → P h_6))))) : Pt (n + 1) X zM49 0 [some (.ref 55), some (.int x1), some (.ref q2), some (.int x3), some (.int x4), some (.int x5), none, none, none, none] [] h (qN P) := by
  refine pt_1 (fun n d => r_iload gx49_0 rfl) ?_
  refine pt_d (pt_1 (fun n d => r_aloadn gx49_2 rfl) ?_)
  refine pt_d (pt_getI (B := 1) gx49_3 S (fun v1 h1 => ?_))
  refine pt_d (pt_iadd gx49_6 z5 h1 (fun v2 h2 => ?_))
  refine pt_d (pt_1 (fun n d => r_iloadn gx49_7 rfl) ?_)
  refine pt_d (pt_isub gx49_8 h2 z1 (fun v3 h3 => ?_))
  refine pt_d (pt_1 (fun n d => r_aloadn gx49_9 rfl) ?_)
  refine pt_d (pt_getI (B := 10) gx49_10 S (fun v4 h4 => ?_))
  refine pt_d (pt_icmp_lt gx49_13 h3 h4 (fun e5 => ?_) (fun e5 => ?_))
  · have H := H.1 e5
    exact pt_d (pt_vret gx49_30 ⟨rfl, H⟩)
  · have H := H.2 e5
    refine pt_d (pt_1 (fun n d => r_aloadn gx49_16 rfl) ?_)
    refine pt_d (pt_1 (fun n d => r_iloadn gx49_17 rfl) ?_)
    refine pt_d (pt_1 (fun n d => r_iload gx49_18 rfl) ?_)
    refine pt_d (pt_virt (as := [.int x3, .int x4]) (r := []) gx49_20 rfl (show zmt[51]? = some zM51 from rfl) rfl rfl rfl rfl (c_51 S z3 z4) (kqI (fun v6 y6 h_6 h6 P6 => ?_)))
    have S6 := P6.1
    have H := H y6 h_6 P6
    show Pt _ _ _ 23 _ [.int v6] _ _
    refine pt_d (pt_1 (fun n d => r_aloadn gx49_23 rfl) ?_)
    refine pt_d (pt_getI (B := 11) gx49_24 S6 (fun v7 h7 => ?_))
    refine pt_d (pt_icmp_gt gx49_27 h6 h7 (fun e8 => ?_) (fun e8 => ?_))
    · have H := H.1 e8
      refine pt_d (pt_1 (fun n d => r_iloadn gx49_31 rfl) ?_)
      refine pt_d (pt_1 (fun n d => r_aloadn gx49_32 rfl) ?_)
      refine pt_d (pt_getI (B := 1) gx49_33 S6 (fun v9 h9 => ?_))
      refine pt_d (pt_icmp_ge gx49_36 z1 h9 (fun e10 => ?_) (fun e10 => ?_))
      · have H := H.1 e10
        refine pt_d (pt_1 (fun n d => r_aloadn gx49_45 rfl) ?_)
        refine pt_d (pt_1 (fun n d => r_iload gx49_46 rfl) ?_)
        refine pt_d (pt_putI (B := 11) gx49_48 S6 z4 (fun h_11 S11 e11 => ?_))
        refine pt_d (pt_1 (fun n d => r_aloadn gx49_51 rfl) ?_)
        refine pt_d (pt_getR gx49_52 S11 tr_55_8 ?_)
        refine pt_d (pt_iconst gx49_55 (fun v13 h13 => ?_))
        refine pt_d (pt_1 (fun n d => r_aloadn gx49_56 rfl) ?_)
        refine pt_d (pt_getR gx49_57 S11 tr_55_3 ?_)
        refine pt_d (pt_iconst gx49_60 (fun v15 h15 => ?_))
        refine pt_d (pt_1 (fun n d => r_aloadn gx49_61 rfl) ?_)
        refine pt_d (pt_getI (B := 1) gx49_62 S11 (fun v16 h16 => ?_))
        have h16 : v16.toInt = vw h_6 55 1 := by rw [h16, e11, up_j (by decide)]
        refine pt_d (pt_copy gx49_65 rfl S11 h13 h15 h16 (fun h_17 S17 p17 q17 r17 e17 => ?_))
        have H := H p17 q17 r17
        have H := H h_17 S17 (by rw [e17, e11])
        exact pt_d (pt_vret gx49_68 ⟨rfl, H⟩)
      · have H := H.2 e10
        refine pt_d (pt_1 (fun n d => r_iloadn gx49_39 rfl) ?_)
        refine pt_d (pt_bipush gx49_40 (fun v18 h18 => ?_))
        refine pt_d (pt_icmp_lt gx49_42 z1 h18 (fun e19 => ?_) (fun e19 => ?_))
        · have H := H.1 e19
          refine pt_d (pt_1 (fun n d => r_aloadn gx49_69 rfl) ?_)
          refine pt_d (pt_getR gx49_70 S6 tr_55_0 ?_)
          refine pt_d (pt_1 (fun n d => r_iloadn gx49_73 rfl) ?_)
          refine pt_d (pt_iald (N' := 6) gx49_74 S6 tl_56 z1 (fun v21 p21 q21 h21 => ?_))
          have H := H p21 q21
          refine pt_d (pt_1 (fun n d => r_istore (L' := [some (.ref 55), some (.int x1), some (.ref q2), some (.int x3), some (.int x4), some (.int x5), some (.int v21), none, none, none]) gx49_75 rfl rfl) ?_)
          refine pt_d (pt_iconst gx49_77 (fun v22 h22 => ?_))
          refine pt_d (pt_1 (fun n d => r_istore (L' := [some (.ref 55), some (.int x1), some (.ref q2), some (.int x3), some (.int x4), some (.int x5), some (.int v21), some (.int v22), none, none]) gx49_78 rfl rfl) ?_)
          exact H v21 v22 _ _ h21 h22
        · have H := H.2 e19
          refine pt_d (pt_1 (fun n d => r_aloadn gx49_45 rfl) ?_)
          refine pt_d (pt_1 (fun n d => r_iload gx49_46 rfl) ?_)
          refine pt_d (pt_putI (B := 11) gx49_48 S6 z4 (fun h_23 S23 e23 => ?_))
          refine pt_d (pt_1 (fun n d => r_aloadn gx49_51 rfl) ?_)
          refine pt_d (pt_getR gx49_52 S23 tr_55_8 ?_)
          refine pt_d (pt_iconst gx49_55 (fun v25 h25 => ?_))
          refine pt_d (pt_1 (fun n d => r_aloadn gx49_56 rfl) ?_)
          refine pt_d (pt_getR gx49_57 S23 tr_55_3 ?_)
          refine pt_d (pt_iconst gx49_60 (fun v27 h27 => ?_))
          refine pt_d (pt_1 (fun n d => r_aloadn gx49_61 rfl) ?_)
          refine pt_d (pt_getI (B := 1) gx49_62 S23 (fun v28 h28 => ?_))
          have h28 : v28.toInt = vw h_6 55 1 := by rw [h28, e23, up_j (by decide)]
          refine pt_d (pt_copy gx49_65 rfl S23 h25 h27 h28 (fun h_29 S29 p29 q29 r29 e29 => ?_))
          have H := H p29 q29 r29
          have H := H h_29 S29 (by rw [e29, e23])
          exact pt_d (pt_vret gx49_68 ⟨rfl, H⟩)
    · have H := H.2 e8
      exact pt_d (pt_vret gx49_30 ⟨rfl, H⟩)
theorem d49_80 {n : Nat} {X : aX} {h : aH} {P : aH → Prop} {x1 x3 x4 x5 x6 x7 : Int32} {a1 a3 a4 a5 a6 a7 : Int} {u8 u9 : Option Value} {q2 : Nat} (S : wS h) (z1 : x1.toInt = a1) (z3 : x3.toInt = a3) (z4 : x4.toInt = a4) (z5 : x5.toInt = a5) (z6 : x6.toInt = a6) (z7 : x7.toInt = a7) (K49 : ∀ {h : aH} {x1 x3 x4 x5 : Int32} {q2 : Nat} {a1 a3 a4 a5 : Int}, wS h → x1.toInt = a1 → x3.toInt = a3 → x4.toInt = a4 → x5.toInt = a5 → Pt n X zM49 0 [some (.ref 55), some (.int x1), some (.ref q2), some (.int x3), some (.int x4), some (.int x5), none, none, none, none] [] h (qN (fun h' => wS h' ∧ True))) (H : ((8 ≤ a7 → P h) ∧ (a7 < 8 → (0 ≤ a7 → (0 ≤ vw h q2 a7 → vw h q2 a7 < 8 → ((vw h 55 9 < w32 ((vw h 61 (vw h q2 a7)) + a6) → (∀ (w7 : Int32) (u8_ : Option Value) (u9_ : Option Value), w7.toInt = w32 (a7 + 1) → Pt n X zM49 80 [some (.ref 55), some (.int x1), some (.ref q2), some (.int x3), some (.int x4), some (.int x5), some (.int x6), some (.int w7), u8_, u9_] [] h (qN P))) ∧ (w32 ((vw h 61 (vw h q2 a7)) + a6) ≤ vw h 55 9 → ((0 < vw h 61 (vw h q2 a7) → ((vw h 61 (vw h q2 a7) ≠ 0 → (0 ≤ a1 → a1 < 6 → ∀ h_22 : aH, wS h_22 → vw h_22 = up (up (vw h) 61 (vw h q2 a7) (w32 ((vw h 61 (vw h q2 a7)) + a6))) 62 a1 (vw h q2 a7) → ∀ (h_31 : aH), (wS h_31 ∧ True) → ∀ h_35 : aH, wS h_35 → vw h_35 = up (vw h_31) 61 (vw h q2 a7) (w32 ((vw h_31 61 (vw h q2 a7)) - a6)) → (∀ (w7 : Int32) (u8_ : Option Value) (u9_ : Option Value), w7.toInt = w32 (a7 + 1) → Pt n X zM49 80 [some (.ref 55), some (.int x1), some (.ref q2), some (.int x3), some (.int x4), some (.int x5), some (.int x6), some (.int w7), u8_, u9_] [] h_35 (qN P)))) ∧ (vw h 61 (vw h q2 a7) = 0 → (0 ≤ a1 → a1 < 6 → ∀ h_43 : aH, wS h_43 → vw h_43 = up (up (vw h) 61 (vw h q2 a7) (w32 ((vw h 61 (vw h q2 a7)) + a6))) 62 a1 (vw h q2 a7) → ∀ (h_52 : aH), (wS h_52 ∧ True) → ∀ h_56 : aH, wS h_56 → vw h_56 = up (vw h_52) 61 (vw h q2 a7) (w32 ((vw h_52 61 (vw h q2 a7)) - a6)) → (∀ (w7 : Int32) (u8_ : Option Value) (u9_ : Option Value), w7.toInt = w32 (a7 + 1) → Pt n X zM49 80 [some (.ref 55), some (.int x1), some (.ref q2), some (.int x3), some (.int x4), some (.int x5), some (.int x6), some (.int w7), u8_, u9_] [] h_56 (qN P)))))) ∧ (vw h 61 (vw h q2 a7) ≤ 0 → ∀ (y58 : Int) (h_58 : aH), (wS h_58 ∧ h_58 = h) → ((y58 = 0 → (∀ (w7 : Int32) (u8_ : Option Value) (u9_ : Option Value), w7.toInt = w32 (a7 + 1) → Pt n X zM49 80 [some (.ref 55), some (.int x1), some (.ref q2), some (.int x3), some (.int x4), some (.int x5), some (.int x6), some (.int w7), u8_, u9_] [] h_58 (qN P))) ∧ (y58 ≠ 0 → ((vw h_58 61 (vw h q2 a7) ≠ 0 → (0 ≤ a1 → a1 < 6 → ∀ h_70 : aH, wS h_70 → vw h_70 = up (up (vw h_58) 61 (vw h q2 a7) (w32 ((vw h_58 61 (vw h q2 a7)) + a6))) 62 a1 (vw h q2 a7) → ∀ (h_79 : aH), (wS h_79 ∧ True) → ∀ h_83 : aH, wS h_83 → vw h_83 = up (vw h_79) 61 (vw h q2 a7) (w32 ((vw h_79 61 (vw h q2 a7)) - a6)) → (∀ (w7 : Int32) (u8_ : Option Value) (u9_ : Option Value), w7.toInt = w32 (a7 + 1) → Pt n X zM49 80 [some (.ref 55), some (.int x1), some (.ref q2), some (.int x3), some (.int x4), some (.int x5), some (.int x6), some (.int w7), u8_, u9_] [] h_83 (qN P)))) ∧ (vw h_58 61 (vw h q2 a7) = 0 → (0 ≤ a1 → a1 < 6 → ∀ h_91 : aH, wS h_91 → vw h_91 = up (up (vw h_58) 61 (vw h q2 a7) (w32 ((vw h_58 61 (vw h q2 a7)) + a6))) 62 a1 (vw h q2 a7) → ∀ (h_100 : aH), (wS h_100 ∧ True) → ∀ h_104 : aH, wS h_104 → vw h_104 = up (vw h_100) 61 (vw h q2 a7) (w32 ((vw h_100 61 (vw h q2 a7)) - a6)) → (∀ (w7 : Int32) (u8_ : Option Value) (u9_ : Option Value), w7.toInt = w32 (a7 + 1) → Pt n X zM49 80 [some (.ref 55), some (.int x1), some (.ref q2), some (.int x3), some (.int x4), some (.int x5), some (.int x6), some (.int w7), u8_, u9_] [] h_104 (qN P)))))))))))))))) : Pt (n + 1) X zM49 80 [some (.ref 55), some (.int x1), some (.ref q2), some (.int x3), some (.int x4), some (.int x5), some (.int x6), some (.int x7), u8, u9] [] h (qN P) := by
  refine pt_1 (fun n d => r_iload gx49_80 rfl) ?_
  refine pt_d (pt_bipush gx49_82 (fun v1 h1 => ?_))
  refine pt_d (pt_icmp_ge gx49_84 z7 h1 (fun e2 => ?_) (fun e2 => ?_))
  · have H := H.1 e2
    exact pt_d (pt_vret gx49_215 ⟨rfl, H⟩)
  · have H := H.2 e2
    refine pt_d (pt_1 (fun n d => r_aloadn gx49_87 rfl) ?_)
    refine pt_d (pt_1 (fun n d => r_iload gx49_88 rfl) ?_)
    refine pt_d (pt_ialdD gx49_90 z7 (fun v3 p3 h3 => ?_))
    have H := H p3
    refine pt_d (pt_1 (fun n d => r_istore (L' := [some (.ref 55), some (.int x1), some (.ref q2), some (.int x3), some (.int x4), some (.int x5), some (.int x6), some (.int x7), some (.int v3), u9]) gx49_91 rfl rfl) ?_)
    refine pt_d (pt_1 (fun n d => r_aloadn gx49_93 rfl) ?_)
    refine pt_d (pt_getR gx49_94 S tr_55_7 ?_)
    refine pt_d (pt_1 (fun n d => r_iload gx49_97 rfl) ?_)
    refine pt_d (pt_iald (N' := 8) gx49_99 S tl_61 h3 (fun v5 p5 q5 h5 => ?_))
    have H := H p5 q5
    refine pt_d (pt_1 (fun n d => r_iload gx49_100 rfl) ?_)
    refine pt_d (pt_iadd gx49_102 h5 z6 (fun v6 h6 => ?_))
    refine pt_d (pt_1 (fun n d => r_aloadn gx49_103 rfl) ?_)
    refine pt_d (pt_getI (B := 9) gx49_104 S (fun v7 h7 => ?_))
    refine pt_d (pt_icmp_gt gx49_107 h6 h7 (fun e8 => ?_) (fun e8 => ?_))
    · have H := H.1 e8
      refine pt_d (pt_iinc (c := 1) gx49_209 rfl z7 (fun v9 h9 => ?_))
      show Pt _ _ _ _ [some (.ref 55), some (.int x1), some (.ref q2), some (.int x3), some (.int x4), some (.int x5), some (.int x6), some (.int v9), some (.int v3), u9] [] _ _
      refine pt_d (pt_1 (fun n d => r_goto gx49_212) ?_)
      exact H v9 _ _ h9
    · have H := H.2 e8
      refine pt_d (pt_1 (fun n d => r_aloadn gx49_110 rfl) ?_)
      refine pt_d (pt_getR gx49_111 S tr_55_7 ?_)
      refine pt_d (pt_1 (fun n d => r_iload gx49_114 rfl) ?_)
      refine pt_d (pt_iald (N' := 8) gx49_116 S tl_61 h3 (fun v11 p11 q11 h11 => ?_))
      refine pt_d (pt_if_gt gx49_117 h11 (fun e12 => ?_) (fun e12 => ?_))
      · have H := H.1 e12
        refine pt_d (pt_1 (fun n d => r_aloadn gx49_130 rfl) ?_)
        refine pt_d (pt_getR gx49_131 S tr_55_7 ?_)
        refine pt_d (pt_1 (fun n d => r_iload gx49_134 rfl) ?_)
        refine pt_d (pt_iald (N' := 8) gx49_136 S tl_61 h3 (fun v14 p14 q14 h14 => ?_))
        refine pt_d (pt_if_ne gx49_137 h14 (fun e15 => ?_) (fun e15 => ?_))
        · have H := H.1 e15
          refine pt_d (pt_iconst gx49_144 (fun v16 h16 => ?_))
          refine pt_d (pt_1 (fun n d => r_istore (L' := [some (.ref 55), some (.int x1), some (.ref q2), some (.int x3), some (.int x4), some (.int x5), some (.int x6), some (.int x7), some (.int v3), some (.int v16)]) gx49_145 rfl rfl) ?_)
          refine pt_d (pt_1 (fun n d => r_aloadn gx49_147 rfl) ?_)
          refine pt_d (pt_getR gx49_148 S tr_55_7 ?_)
          refine pt_d (pt_1 (fun n d => r_iload gx49_151 rfl) ?_)
          refine pt_d (pt_1 (fun n d => r_dup2 gx49_153 rfl) ?_)
          refine pt_d (pt_iald (N' := 8) gx49_154 S tl_61 h3 (fun v18 p18 q18 h18 => ?_))
          refine pt_d (pt_1 (fun n d => r_iload gx49_155 rfl) ?_)
          refine pt_d (pt_iadd gx49_157 h18 z6 (fun v19 h19 => ?_))
          refine pt_d (pt_iast (N' := 8) gx49_158 S tl_61 h3 h19 (fun h_20 S20 p20 q20 e20 => ?_))
          refine pt_d (pt_1 (fun n d => r_aloadn gx49_159 rfl) ?_)
          refine pt_d (pt_getR gx49_160 S20 tr_55_8 ?_)
          refine pt_d (pt_1 (fun n d => r_iloadn gx49_163 rfl) ?_)
          refine pt_d (pt_1 (fun n d => r_iload gx49_164 rfl) ?_)
          refine pt_d (pt_iast (N' := 6) gx49_166 S20 tl_62 z1 h3 (fun h_22 S22 p22 q22 e22 => ?_))
          have H := H p22 q22
          refine pt_d (pt_1 (fun n d => r_aloadn gx49_167 rfl) ?_)
          refine pt_d (pt_1 (fun n d => r_iloadn gx49_168 rfl) ?_)
          refine pt_d (pt_iconst gx49_169 (fun v23 h23 => ?_))
          refine pt_d (pt_iadd gx49_170 z1 h23 (fun v24 h24 => ?_))
          refine pt_d (pt_1 (fun n d => r_aloadn gx49_171 rfl) ?_)
          refine pt_d (pt_1 (fun n d => r_iloadn gx49_172 rfl) ?_)
          refine pt_d (pt_1 (fun n d => r_iload gx49_173 rfl) ?_)
          refine pt_d (pt_isub gx49_175 z3 z6 (fun v25 h25 => ?_))
          refine pt_d (pt_1 (fun n d => r_iload gx49_176 rfl) ?_)
          refine pt_d (pt_1 (fun n d => r_iload gx49_178 rfl) ?_)
          refine pt_d (pt_1 (fun n d => r_aloadn gx49_180 rfl) ?_)
          refine pt_d (pt_getR gx49_181 S22 tr_55_2 ?_)
          refine pt_d (pt_1 (fun n d => r_iload gx49_184 rfl) ?_)
          refine pt_d (pt_iald (N' := 8) gx49_186 S22 tl_57 h3 (fun v27 p27 q27 h27 => ?_))
          have h27 : v27.toInt = vw h 57 (vw h q2 a7) := by rw [h27, e22, up_c (by decide), e20, up_c (by decide)]
          refine pt_d (pt_imul gx49_187 z6 h27 (fun v28 h28 => ?_))
          refine pt_d (pt_iadd gx49_188 z4 h28 (fun v29 h29 => ?_))
          refine pt_d (pt_1 (fun n d => r_iload gx49_189 rfl) ?_)
          refine pt_d (pt_1 (fun n d => r_iload gx49_191 rfl) ?_)
          refine pt_d (pt_iadd gx49_193 z5 h16 (fun v30 h30 => ?_))
          have H := H h_22 S22 (by rw [e22, e20])
          refine pt_d (pt_virt (as := [.int v24, .ref q2, .int v25, .int v29, .int v30]) (r := []) gx49_194 rfl (show zmt[49]? = some zM49 from rfl) rfl rfl rfl rfl (K49 S22 h24 h25 h29 h30) (kqN (fun h_31 P31 => ?_)))
          have S31 := P31.1
          have H := H h_31 P31
          show Pt _ _ _ 197 _ [] _ _
          refine pt_d (pt_1 (fun n d => r_aloadn gx49_197 rfl) ?_)
          refine pt_d (pt_getR gx49_198 S31 tr_55_7 ?_)
          refine pt_d (pt_1 (fun n d => r_iload gx49_201 rfl) ?_)
          refine pt_d (pt_1 (fun n d => r_dup2 gx49_203 rfl) ?_)
          refine pt_d (pt_iald (N' := 8) gx49_204 S31 tl_61 h3 (fun v33 p33 q33 h33 => ?_))
          refine pt_d (pt_1 (fun n d => r_iload gx49_205 rfl) ?_)
          refine pt_d (pt_isub gx49_207 h33 z6 (fun v34 h34 => ?_))
          refine pt_d (pt_iast (N' := 8) gx49_208 S31 tl_61 h3 h34 (fun h_35 S35 p35 q35 e35 => ?_))
          refine pt_d (pt_iinc (c := 1) gx49_209 rfl z7 (fun v36 h36 => ?_))
          show Pt _ _ _ _ [some (.ref 55), some (.int x1), some (.ref q2), some (.int x3), some (.int x4), some (.int x5), some (.int x6), some (.int v36), some (.int v3), some (.int v16)] [] _ _
          refine pt_d (pt_1 (fun n d => r_goto gx49_212) ?_)
          have H := H h_35 S35 (by rw [e35])
          exact H v36 _ _ h36
        · have H := H.2 e15
          refine pt_d (pt_iconst gx49_140 (fun v37 h37 => ?_))
          refine pt_d (pt_1 (fun n d => r_goto gx49_141) ?_)
          refine pt_d (pt_1 (fun n d => r_istore (L' := [some (.ref 55), some (.int x1), some (.ref q2), some (.int x3), some (.int x4), some (.int x5), some (.int x6), some (.int x7), some (.int v3), some (.int v37)]) gx49_145 rfl rfl) ?_)
          refine pt_d (pt_1 (fun n d => r_aloadn gx49_147 rfl) ?_)
          refine pt_d (pt_getR gx49_148 S tr_55_7 ?_)
          refine pt_d (pt_1 (fun n d => r_iload gx49_151 rfl) ?_)
          refine pt_d (pt_1 (fun n d => r_dup2 gx49_153 rfl) ?_)
          refine pt_d (pt_iald (N' := 8) gx49_154 S tl_61 h3 (fun v39 p39 q39 h39 => ?_))
          refine pt_d (pt_1 (fun n d => r_iload gx49_155 rfl) ?_)
          refine pt_d (pt_iadd gx49_157 h39 z6 (fun v40 h40 => ?_))
          refine pt_d (pt_iast (N' := 8) gx49_158 S tl_61 h3 h40 (fun h_41 S41 p41 q41 e41 => ?_))
          refine pt_d (pt_1 (fun n d => r_aloadn gx49_159 rfl) ?_)
          refine pt_d (pt_getR gx49_160 S41 tr_55_8 ?_)
          refine pt_d (pt_1 (fun n d => r_iloadn gx49_163 rfl) ?_)
          refine pt_d (pt_1 (fun n d => r_iload gx49_164 rfl) ?_)
          refine pt_d (pt_iast (N' := 6) gx49_166 S41 tl_62 z1 h3 (fun h_43 S43 p43 q43 e43 => ?_))
          have H := H p43 q43
          refine pt_d (pt_1 (fun n d => r_aloadn gx49_167 rfl) ?_)
          refine pt_d (pt_1 (fun n d => r_iloadn gx49_168 rfl) ?_)
          refine pt_d (pt_iconst gx49_169 (fun v44 h44 => ?_))
          refine pt_d (pt_iadd gx49_170 z1 h44 (fun v45 h45 => ?_))
          refine pt_d (pt_1 (fun n d => r_aloadn gx49_171 rfl) ?_)
          refine pt_d (pt_1 (fun n d => r_iloadn gx49_172 rfl) ?_)
          refine pt_d (pt_1 (fun n d => r_iload gx49_173 rfl) ?_)
          refine pt_d (pt_isub gx49_175 z3 z6 (fun v46 h46 => ?_))
          refine pt_d (pt_1 (fun n d => r_iload gx49_176 rfl) ?_)
          refine pt_d (pt_1 (fun n d => r_iload gx49_178 rfl) ?_)
          refine pt_d (pt_1 (fun n d => r_aloadn gx49_180 rfl) ?_)
          refine pt_d (pt_getR gx49_181 S43 tr_55_2 ?_)
          refine pt_d (pt_1 (fun n d => r_iload gx49_184 rfl) ?_)
          refine pt_d (pt_iald (N' := 8) gx49_186 S43 tl_57 h3 (fun v48 p48 q48 h48 => ?_))
          have h48 : v48.toInt = vw h 57 (vw h q2 a7) := by rw [h48, e43, up_c (by decide), e41, up_c (by decide)]
          refine pt_d (pt_imul gx49_187 z6 h48 (fun v49 h49 => ?_))
          refine pt_d (pt_iadd gx49_188 z4 h49 (fun v50 h50 => ?_))
          refine pt_d (pt_1 (fun n d => r_iload gx49_189 rfl) ?_)
          refine pt_d (pt_1 (fun n d => r_iload gx49_191 rfl) ?_)
          refine pt_d (pt_iadd gx49_193 z5 h37 (fun v51 h51 => ?_))
          have H := H h_43 S43 (by rw [e43, e41])
          refine pt_d (pt_virt (as := [.int v45, .ref q2, .int v46, .int v50, .int v51]) (r := []) gx49_194 rfl (show zmt[49]? = some zM49 from rfl) rfl rfl rfl rfl (K49 S43 h45 h46 h50 h51) (kqN (fun h_52 P52 => ?_)))
          have S52 := P52.1
          have H := H h_52 P52
          show Pt _ _ _ 197 _ [] _ _
          refine pt_d (pt_1 (fun n d => r_aloadn gx49_197 rfl) ?_)
          refine pt_d (pt_getR gx49_198 S52 tr_55_7 ?_)
          refine pt_d (pt_1 (fun n d => r_iload gx49_201 rfl) ?_)
          refine pt_d (pt_1 (fun n d => r_dup2 gx49_203 rfl) ?_)
          refine pt_d (pt_iald (N' := 8) gx49_204 S52 tl_61 h3 (fun v54 p54 q54 h54 => ?_))
          refine pt_d (pt_1 (fun n d => r_iload gx49_205 rfl) ?_)
          refine pt_d (pt_isub gx49_207 h54 z6 (fun v55 h55 => ?_))
          refine pt_d (pt_iast (N' := 8) gx49_208 S52 tl_61 h3 h55 (fun h_56 S56 p56 q56 e56 => ?_))
          refine pt_d (pt_iinc (c := 1) gx49_209 rfl z7 (fun v57 h57 => ?_))
          show Pt _ _ _ _ [some (.ref 55), some (.int x1), some (.ref q2), some (.int x3), some (.int x4), some (.int x5), some (.int x6), some (.int v57), some (.int v3), some (.int v37)] [] _ _
          refine pt_d (pt_1 (fun n d => r_goto gx49_212) ?_)
          have H := H h_56 S56 (by rw [e56])
          exact H v57 _ _ h57
      · have H := H.2 e12
        refine pt_d (pt_1 (fun n d => r_aloadn gx49_120 rfl) ?_)
        refine pt_d (pt_1 (fun n d => r_iload gx49_121 rfl) ?_)
        refine pt_d (pt_1 (fun n d => r_aloadn gx49_123 rfl) ?_)
        refine pt_d (pt_virt (as := [.int x7, .ref q2]) (r := []) gx49_124 rfl (show zmt[50]? = some zM50 from rfl) rfl rfl rfl rfl (c_50 S z7) (kqI (fun v58 y58 h_58 h58 P58 => ?_)))
        have S58 := P58.1
        have H := H y58 h_58 P58
        show Pt _ _ _ 127 _ [.int v58] _ _
        refine pt_d (pt_if_eq gx49_127 h58 (fun e59 => ?_) (fun e59 => ?_))
        · have H := H.1 e59
          refine pt_d (pt_iinc (c := 1) gx49_209 rfl z7 (fun v60 h60 => ?_))
          show Pt _ _ _ _ [some (.ref 55), some (.int x1), some (.ref q2), some (.int x3), some (.int x4), some (.int x5), some (.int x6), some (.int v60), some (.int v3), u9] [] _ _
          refine pt_d (pt_1 (fun n d => r_goto gx49_212) ?_)
          exact H v60 _ _ h60
        · have H := H.2 e59
          refine pt_d (pt_1 (fun n d => r_aloadn gx49_130 rfl) ?_)
          refine pt_d (pt_getR gx49_131 S58 tr_55_7 ?_)
          refine pt_d (pt_1 (fun n d => r_iload gx49_134 rfl) ?_)
          refine pt_d (pt_iald (N' := 8) gx49_136 S58 tl_61 h3 (fun v62 p62 q62 h62 => ?_))
          refine pt_d (pt_if_ne gx49_137 h62 (fun e63 => ?_) (fun e63 => ?_))
          · have H := H.1 e63
            refine pt_d (pt_iconst gx49_144 (fun v64 h64 => ?_))
            refine pt_d (pt_1 (fun n d => r_istore (L' := [some (.ref 55), some (.int x1), some (.ref q2), some (.int x3), some (.int x4), some (.int x5), some (.int x6), some (.int x7), some (.int v3), some (.int v64)]) gx49_145 rfl rfl) ?_)
            refine pt_d (pt_1 (fun n d => r_aloadn gx49_147 rfl) ?_)
            refine pt_d (pt_getR gx49_148 S58 tr_55_7 ?_)
            refine pt_d (pt_1 (fun n d => r_iload gx49_151 rfl) ?_)
            refine pt_d (pt_1 (fun n d => r_dup2 gx49_153 rfl) ?_)
            refine pt_d (pt_iald (N' := 8) gx49_154 S58 tl_61 h3 (fun v66 p66 q66 h66 => ?_))
            refine pt_d (pt_1 (fun n d => r_iload gx49_155 rfl) ?_)
            refine pt_d (pt_iadd gx49_157 h66 z6 (fun v67 h67 => ?_))
            refine pt_d (pt_iast (N' := 8) gx49_158 S58 tl_61 h3 h67 (fun h_68 S68 p68 q68 e68 => ?_))
            refine pt_d (pt_1 (fun n d => r_aloadn gx49_159 rfl) ?_)
            refine pt_d (pt_getR gx49_160 S68 tr_55_8 ?_)
            refine pt_d (pt_1 (fun n d => r_iloadn gx49_163 rfl) ?_)
            refine pt_d (pt_1 (fun n d => r_iload gx49_164 rfl) ?_)
            refine pt_d (pt_iast (N' := 6) gx49_166 S68 tl_62 z1 h3 (fun h_70 S70 p70 q70 e70 => ?_))
            have H := H p70 q70
            refine pt_d (pt_1 (fun n d => r_aloadn gx49_167 rfl) ?_)
            refine pt_d (pt_1 (fun n d => r_iloadn gx49_168 rfl) ?_)
            refine pt_d (pt_iconst gx49_169 (fun v71 h71 => ?_))
            refine pt_d (pt_iadd gx49_170 z1 h71 (fun v72 h72 => ?_))
            refine pt_d (pt_1 (fun n d => r_aloadn gx49_171 rfl) ?_)
            refine pt_d (pt_1 (fun n d => r_iloadn gx49_172 rfl) ?_)
            refine pt_d (pt_1 (fun n d => r_iload gx49_173 rfl) ?_)
            refine pt_d (pt_isub gx49_175 z3 z6 (fun v73 h73 => ?_))
            refine pt_d (pt_1 (fun n d => r_iload gx49_176 rfl) ?_)
            refine pt_d (pt_1 (fun n d => r_iload gx49_178 rfl) ?_)
            refine pt_d (pt_1 (fun n d => r_aloadn gx49_180 rfl) ?_)
            refine pt_d (pt_getR gx49_181 S70 tr_55_2 ?_)
            refine pt_d (pt_1 (fun n d => r_iload gx49_184 rfl) ?_)
            refine pt_d (pt_iald (N' := 8) gx49_186 S70 tl_57 h3 (fun v75 p75 q75 h75 => ?_))
            have h75 : v75.toInt = vw h_58 57 (vw h q2 a7) := by rw [h75, e70, up_c (by decide), e68, up_c (by decide)]
            refine pt_d (pt_imul gx49_187 z6 h75 (fun v76 h76 => ?_))
            refine pt_d (pt_iadd gx49_188 z4 h76 (fun v77 h77 => ?_))
            refine pt_d (pt_1 (fun n d => r_iload gx49_189 rfl) ?_)
            refine pt_d (pt_1 (fun n d => r_iload gx49_191 rfl) ?_)
            refine pt_d (pt_iadd gx49_193 z5 h64 (fun v78 h78 => ?_))
            have H := H h_70 S70 (by rw [e70, e68])
            refine pt_d (pt_virt (as := [.int v72, .ref q2, .int v73, .int v77, .int v78]) (r := []) gx49_194 rfl (show zmt[49]? = some zM49 from rfl) rfl rfl rfl rfl (K49 S70 h72 h73 h77 h78) (kqN (fun h_79 P79 => ?_)))
            have S79 := P79.1
            have H := H h_79 P79
            show Pt _ _ _ 197 _ [] _ _
            refine pt_d (pt_1 (fun n d => r_aloadn gx49_197 rfl) ?_)
            refine pt_d (pt_getR gx49_198 S79 tr_55_7 ?_)
            refine pt_d (pt_1 (fun n d => r_iload gx49_201 rfl) ?_)
            refine pt_d (pt_1 (fun n d => r_dup2 gx49_203 rfl) ?_)
            refine pt_d (pt_iald (N' := 8) gx49_204 S79 tl_61 h3 (fun v81 p81 q81 h81 => ?_))
            refine pt_d (pt_1 (fun n d => r_iload gx49_205 rfl) ?_)
            refine pt_d (pt_isub gx49_207 h81 z6 (fun v82 h82 => ?_))
            refine pt_d (pt_iast (N' := 8) gx49_208 S79 tl_61 h3 h82 (fun h_83 S83 p83 q83 e83 => ?_))
            refine pt_d (pt_iinc (c := 1) gx49_209 rfl z7 (fun v84 h84 => ?_))
            show Pt _ _ _ _ [some (.ref 55), some (.int x1), some (.ref q2), some (.int x3), some (.int x4), some (.int x5), some (.int x6), some (.int v84), some (.int v3), some (.int v64)] [] _ _
            refine pt_d (pt_1 (fun n d => r_goto gx49_212) ?_)
            have H := H h_83 S83 (by rw [e83])
            exact H v84 _ _ h84
          · have H := H.2 e63
            refine pt_d (pt_iconst gx49_140 (fun v85 h85 => ?_))
            refine pt_d (pt_1 (fun n d => r_goto gx49_141) ?_)
            refine pt_d (pt_1 (fun n d => r_istore (L' := [some (.ref 55), some (.int x1), some (.ref q2), some (.int x3), some (.int x4), some (.int x5), some (.int x6), some (.int x7), some (.int v3), some (.int v85)]) gx49_145 rfl rfl) ?_)
            refine pt_d (pt_1 (fun n d => r_aloadn gx49_147 rfl) ?_)
            refine pt_d (pt_getR gx49_148 S58 tr_55_7 ?_)
            refine pt_d (pt_1 (fun n d => r_iload gx49_151 rfl) ?_)
            refine pt_d (pt_1 (fun n d => r_dup2 gx49_153 rfl) ?_)
            refine pt_d (pt_iald (N' := 8) gx49_154 S58 tl_61 h3 (fun v87 p87 q87 h87 => ?_))
            refine pt_d (pt_1 (fun n d => r_iload gx49_155 rfl) ?_)
            refine pt_d (pt_iadd gx49_157 h87 z6 (fun v88 h88 => ?_))
            refine pt_d (pt_iast (N' := 8) gx49_158 S58 tl_61 h3 h88 (fun h_89 S89 p89 q89 e89 => ?_))
            refine pt_d (pt_1 (fun n d => r_aloadn gx49_159 rfl) ?_)
            refine pt_d (pt_getR gx49_160 S89 tr_55_8 ?_)
            refine pt_d (pt_1 (fun n d => r_iloadn gx49_163 rfl) ?_)
            refine pt_d (pt_1 (fun n d => r_iload gx49_164 rfl) ?_)
            refine pt_d (pt_iast (N' := 6) gx49_166 S89 tl_62 z1 h3 (fun h_91 S91 p91 q91 e91 => ?_))
            have H := H p91 q91
            refine pt_d (pt_1 (fun n d => r_aloadn gx49_167 rfl) ?_)
            refine pt_d (pt_1 (fun n d => r_iloadn gx49_168 rfl) ?_)
            refine pt_d (pt_iconst gx49_169 (fun v92 h92 => ?_))
            refine pt_d (pt_iadd gx49_170 z1 h92 (fun v93 h93 => ?_))
            refine pt_d (pt_1 (fun n d => r_aloadn gx49_171 rfl) ?_)
            refine pt_d (pt_1 (fun n d => r_iloadn gx49_172 rfl) ?_)
            refine pt_d (pt_1 (fun n d => r_iload gx49_173 rfl) ?_)
            refine pt_d (pt_isub gx49_175 z3 z6 (fun v94 h94 => ?_))
            refine pt_d (pt_1 (fun n d => r_iload gx49_176 rfl) ?_)
            refine pt_d (pt_1 (fun n d => r_iload gx49_178 rfl) ?_)
            refine pt_d (pt_1 (fun n d => r_aloadn gx49_180 rfl) ?_)
            refine pt_d (pt_getR gx49_181 S91 tr_55_2 ?_)
            refine pt_d (pt_1 (fun n d => r_iload gx49_184 rfl) ?_)
            refine pt_d (pt_iald (N' := 8) gx49_186 S91 tl_57 h3 (fun v96 p96 q96 h96 => ?_))
            have h96 : v96.toInt = vw h_58 57 (vw h q2 a7) := by rw [h96, e91, up_c (by decide), e89, up_c (by decide)]
            refine pt_d (pt_imul gx49_187 z6 h96 (fun v97 h97 => ?_))
            refine pt_d (pt_iadd gx49_188 z4 h97 (fun v98 h98 => ?_))
            refine pt_d (pt_1 (fun n d => r_iload gx49_189 rfl) ?_)
            refine pt_d (pt_1 (fun n d => r_iload gx49_191 rfl) ?_)
            refine pt_d (pt_iadd gx49_193 z5 h85 (fun v99 h99 => ?_))
            have H := H h_91 S91 (by rw [e91, e89])
            refine pt_d (pt_virt (as := [.int v93, .ref q2, .int v94, .int v98, .int v99]) (r := []) gx49_194 rfl (show zmt[49]? = some zM49 from rfl) rfl rfl rfl rfl (K49 S91 h93 h94 h98 h99) (kqN (fun h_100 P100 => ?_)))
            have S100 := P100.1
            have H := H h_100 P100
            show Pt _ _ _ 197 _ [] _ _
            refine pt_d (pt_1 (fun n d => r_aloadn gx49_197 rfl) ?_)
            refine pt_d (pt_getR gx49_198 S100 tr_55_7 ?_)
            refine pt_d (pt_1 (fun n d => r_iload gx49_201 rfl) ?_)
            refine pt_d (pt_1 (fun n d => r_dup2 gx49_203 rfl) ?_)
            refine pt_d (pt_iald (N' := 8) gx49_204 S100 tl_61 h3 (fun v102 p102 q102 h102 => ?_))
            refine pt_d (pt_1 (fun n d => r_iload gx49_205 rfl) ?_)
            refine pt_d (pt_isub gx49_207 h102 z6 (fun v103 h103 => ?_))
            refine pt_d (pt_iast (N' := 8) gx49_208 S100 tl_61 h3 h103 (fun h_104 S104 p104 q104 e104 => ?_))
            refine pt_d (pt_iinc (c := 1) gx49_209 rfl z7 (fun v105 h105 => ?_))
            show Pt _ _ _ _ [some (.ref 55), some (.int x1), some (.ref q2), some (.int x3), some (.int x4), some (.int x5), some (.int x6), some (.int v105), some (.int v3), some (.int v85)] [] _ _
            refine pt_d (pt_1 (fun n d => r_goto gx49_212) ?_)
            have H := H h_104 S104 (by rw [e104])
            exact H v105 _ _ h105
theorem l_49 {X : aX} : ∀ n : Nat, (∀ {h : aH} {x1 x3 x4 x5 : Int32} {q2 : Nat} {a1 a3 a4 a5 : Int}, wS h → x1.toInt = a1 → x3.toInt = a3 → x4.toInt = a4 → x5.toInt = a5 → Pt n X zM49 0 [some (.ref 55), some (.int x1), some (.ref q2), some (.int x3), some (.int x4), some (.int x5), none, none, none, none] [] h (qN (fun h' => wS h' ∧ True))) ∧ (∀ (h : aH) (x1 x3 x4 x5 x6 x7 : Int32) (q2 : Nat) (u8 u9 : Option Value), wS h → Pt n X zM49 80 [some (.ref 55), some (.int x1), some (.ref q2), some (.int x3), some (.int x4), some (.int x5), some (.int x6), some (.int x7), u8, u9] [] h (qN (fun h' => wS h' ∧ True))) := by
  intro n
  induction n with
  | zero => exact ⟨fun _ _ _ _ _ => pt_z, fun _ _ _ _ _ _ _ _ _ _ _ => pt_z⟩
  | succ n ih =>
    obtain ⟨K, ih⟩ := ih
    refine And.intro ?_ ?_
    · intro h x1 x3 x4 x5 q2 a1 a3 a4 a5 S z1 z3 z4 z5
      exact d49_0 S z1 z3 z4 z5 ⟨fun _ => ⟨S, trivial⟩, fun _ y g p => ⟨fun _ => ⟨fun _ _ _ _ g2 S2 _ => ⟨S2, trivial⟩, fun _ => ⟨fun _ _ _ w6 w7 u8 u9 _ _ => ih g x1 x3 x4 x5 w6 w7 q2 u8 u9 p.1, fun _ _ _ _ g2 S2 _ => ⟨S2, trivial⟩⟩⟩, fun _ => ⟨p.1, trivial⟩⟩⟩
    · intro h x1 x3 x4 x5 x6 x7 q2 u8 u9 S
      exact d49_80 S rfl rfl rfl rfl rfl rfl K ⟨fun _ => ⟨S, trivial⟩, fun _ _ _ _ => ⟨fun _ w7 u8 u9 _ => ih h x1 x3 x4 x5 x6 w7 q2 u8 u9 S, fun _ => ⟨fun _ => ⟨fun _ _ _ g S1 _ g2 _ g3 S3 _ w7 u8 u9 _ => ih g3 x1 x3 x4 x5 x6 w7 q2 u8 u9 S3, fun _ _ _ g S1 _ g2 _ g3 S3 _ w7 u8 u9 _ => ih g3 x1 x3 x4 x5 x6 w7 q2 u8 u9 S3⟩, fun _ y g p => ⟨fun _ w7 u8 u9 _ => ih g x1 x3 x4 x5 x6 w7 q2 u8 u9 p.1, fun _ => ⟨fun _ _ _ g S1 _ g2 _ g3 S3 _ w7 u8 u9 _ => ih g3 x1 x3 x4 x5 x6 w7 q2 u8 u9 S3, fun _ _ _ g S1 _ g2 _ g3 S3 _ w7 u8 u9 _ => ih g3 x1 x3 x4 x5 x6 w7 q2 u8 u9 S3⟩⟩⟩⟩⟩
theorem c_49 {n : Nat} {X : aX} {h : aH} {x1 x3 x4 x5 : Int32} {q2 : Nat} {a1 a3 a4 a5 : Int} (S : wS h) (z1 : x1.toInt = a1) (z3 : x3.toInt = a3) (z4 : x4.toInt = a4) (z5 : x5.toInt = a5) : Pt n X zM49 0 [some (.ref 55), some (.int x1), some (.ref q2), some (.int x3), some (.int x4), some (.int x5), none, none, none, none] [] h (qN (fun h' => wS h' ∧ True)) := (l_49 n).1 S z1 z3 z4 z5

theorem d47_0 {n : Nat} {X : aX} {h : aH} {P : Int → aH → Prop} {x1 : Int32} {a1 : Int} (S : wS h) (z1 : x1.toInt = a1) (H : ∀ (h_3 : aH), (wS h_3 ∧ True) → ∀ (h_4 : aH), (wS h_4 ∧ True) → ∀ h_8 : aH, wS h_8 → vw h_8 = up (up (vw h_4) 55 4 (vw h_4 55 1)) 55 11 (-1) → ∀ (h_13 : aH), (wS h_13 ∧ True) → ∀ h_17 : aH, wS h_17 → vw h_17 = up (vw h_13) 55 11 (w32 ((vw h_13 55 11) - 1)) → ∀ (h_22 : aH), (wS h_22 ∧ True) → P (vw h_22 55 11) h_22) : Pt (n + 1) X zM47 0 [some (.ref 55), some (.int x1)] [] h (qI P) := by
  refine pt_1 (fun n d => r_aloadn gx47_0 rfl) ?_
  refine pt_d (pt_getR gx47_1 S tr_55_7 ?_)
  refine pt_d (pt_iconst gx47_4 (fun v2 h2 => ?_))
  refine pt_d (pt_stat (as := [.ref 61, .int v2]) (r := []) gx47_5 rfl (show zmt[332]? = some zM332 from rfl) rfl rfl rfl rfl (c_332 S h2) (kqN (fun h_3 P3 => ?_)))
  have S3 := P3.1
  have H := H h_3 P3
  show Pt _ _ _ 8 _ [] _ _
  refine pt_d (pt_1 (fun n d => r_aloadn gx47_8 rfl) ?_)
  refine pt_d (pt_virt (as := []) (r := []) gx47_9 rfl (show zmt[48]? = some zM48 from rfl) rfl rfl rfl rfl (c_48 S3) (kqN (fun h_4 P4 => ?_)))
  have S4 := P4.1
  have H := H h_4 P4
  show Pt _ _ _ 12 _ [] _ _
  refine pt_d (pt_1 (fun n d => r_aloadn gx47_12 rfl) ?_)
  refine pt_d (pt_1 (fun n d => r_aloadn gx47_13 rfl) ?_)
  refine pt_d (pt_getI (B := 1) gx47_14 S4 (fun v5 h5 => ?_))
  refine pt_d (pt_putI (B := 4) gx47_17 S4 h5 (fun h_6 S6 e6 => ?_))
  refine pt_d (pt_1 (fun n d => r_aloadn gx47_20 rfl) ?_)
  refine pt_d (pt_iconst gx47_21 (fun v7 h7 => ?_))
  refine pt_d (pt_putI (B := 11) gx47_22 S6 h7 (fun h_8 S8 e8 => ?_))
  refine pt_d (pt_1 (fun n d => r_aloadn gx47_25 rfl) ?_)
  refine pt_d (pt_iconst gx47_26 (fun v9 h9 => ?_))
  refine pt_d (pt_1 (fun n d => r_aloadn gx47_27 rfl) ?_)
  refine pt_d (pt_getR gx47_28 S8 tr_55_6 ?_)
  refine pt_d (pt_1 (fun n d => r_iloadn gx47_31 rfl) ?_)
  refine pt_d (pt_iconst gx47_32 (fun v11 h11 => ?_))
  refine pt_d (pt_iconst gx47_33 (fun v12 h12 => ?_))
  have H := H h_8 S8 (by rw [e8, e6])
  refine pt_d (pt_virt (as := [.int v9, .ref 60, .int x1, .int v11, .int v12]) (r := []) gx47_34 rfl (show zmt[49]? = some zM49 from rfl) rfl rfl rfl rfl (c_49 S8 h9 z1 h11 h12) (kqN (fun h_13 P13 => ?_)))
  have S13 := P13.1
  have H := H h_13 P13
  show Pt _ _ _ 37 _ [] _ _
  refine pt_d (pt_1 (fun n d => r_aloadn gx47_37 rfl) ?_)
  refine pt_d (pt_1 (fun n d => r_dup gx47_38 rfl) ?_)
  refine pt_d (pt_getI (B := 11) gx47_39 S13 (fun v14 h14 => ?_))
  refine pt_d (pt_iconst gx47_42 (fun v15 h15 => ?_))
  refine pt_d (pt_isub gx47_43 h14 h15 (fun v16 h16 => ?_))
  refine pt_d (pt_putI (B := 11) gx47_44 S13 h16 (fun h_17 S17 e17 => ?_))
  refine pt_d (pt_1 (fun n d => r_aloadn gx47_47 rfl) ?_)
  refine pt_d (pt_iconst gx47_48 (fun v18 h18 => ?_))
  refine pt_d (pt_1 (fun n d => r_aloadn gx47_49 rfl) ?_)
  refine pt_d (pt_getR gx47_50 S17 tr_55_5 ?_)
  refine pt_d (pt_1 (fun n d => r_iloadn gx47_53 rfl) ?_)
  refine pt_d (pt_iconst gx47_54 (fun v20 h20 => ?_))
  refine pt_d (pt_iconst gx47_55 (fun v21 h21 => ?_))
  have H := H h_17 S17 (by rw [e17])
  refine pt_d (pt_virt (as := [.int v18, .ref 59, .int x1, .int v20, .int v21]) (r := []) gx47_56 rfl (show zmt[49]? = some zM49 from rfl) rfl rfl rfl rfl (c_49 S17 h18 z1 h20 h21) (kqN (fun h_22 P22 => ?_)))
  have S22 := P22.1
  have H := H h_22 P22
  show Pt _ _ _ 59 _ [] _ _
  refine pt_d (pt_1 (fun n d => r_aloadn gx47_59 rfl) ?_)
  refine pt_d (pt_getI (B := 11) gx47_60 S22 (fun v23 h23 => ?_))
  exact pt_d (pt_iret gx47_63 ⟨_, rfl, by rw [h23]; exact H⟩)
theorem c_47 {n : Nat} {X : aX} {h : aH} {x1 : Int32} {a1 : Int} (S : wS h) (z1 : x1.toInt = a1) : Pt n X zM47 0 [some (.ref 55), some (.int x1)] [] h (qI (fun y h' => wS h' ∧ True)) := by
  exact pt_d (d47_0 S z1 (fun g p g2 p2 g3 S3 _ g4 p4 g5 S5 _ g6 p6 => ⟨p6.1, trivial⟩))

theorem d46_0 {n : Nat} {X : aX} {h : aH} {P : Int → aH → Prop} {x1 x2 : Int32} {a1 a2 : Int} (S : wS h) (z1 : x1.toInt = a1) (z2 : x2.toInt = a2) (H : (∀ (w3 : Int32) (w4 : Int32) (w5 : Int32), w3.toInt = 0 → w4.toInt = 0 → w5.toInt = 0 → Pt n X zM46 8 [some (.ref 55), some (.int x1), some (.int x2), some (.int w3), some (.int w4), some (.int w5)] [] h (qI P))) : Pt (n + 1) X zM46 0 [some (.ref 55), some (.int x1), some (.int x2), none, none, none] [] h (qI P) := by
  refine pt_iconst gx46_0 (fun v1 h1 => ?_)
  refine pt_d (pt_1 (fun n d => r_istoren (L' := [some (.ref 55), some (.int x1), some (.int x2), some (.int v1), none, none]) gx46_1 rfl rfl) ?_)
  refine pt_d (pt_iconst gx46_2 (fun v2 h2 => ?_))
  refine pt_d (pt_1 (fun n d => r_istore (L' := [some (.ref 55), some (.int x1), some (.int x2), some (.int v1), some (.int v2), none]) gx46_3 rfl rfl) ?_)
  refine pt_d (pt_iconst gx46_5 (fun v3 h3 => ?_))
  refine pt_d (pt_1 (fun n d => r_istore (L' := [some (.ref 55), some (.int x1), some (.int x2), some (.int v1), some (.int v2), some (.int v3)]) gx46_6 rfl rfl) ?_)
  exact H v1 v2 v3 h1 h2 h3
theorem d46_8 {n : Nat} {X : aX} {h : aH} {P : Int → aH → Prop} {x1 x2 x3 x4 x5 : Int32} {a1 a2 a3 a4 a5 : Int} (S : wS h) (z1 : x1.toInt = a1) (z2 : x2.toInt = a2) (z3 : x3.toInt = a3) (z4 : x4.toInt = a4) (z5 : x5.toInt = a5) (H : ((vw h 55 1 ≤ a5 → ((iDiv (w32 (a3 * a1)) 100 < a4 → ∀ h_12 : aH, wS h_12 → vw h_12 = up (up (up (vw h) 55 9 (iDiv (w32 (a3 * a1)) 100)) 55 10 a2) 55 1 0 → P (-2) h_12) ∧ (a4 ≤ iDiv (w32 (a3 * a1)) 100 → ((vw h 55 1 < a2 → ∀ h_16 : aH, wS h_16 → vw h_16 = up (up (up (vw h) 55 9 (iDiv (w32 (a3 * a1)) 100)) 55 10 a2) 55 1 0 → P (-2) h_16) ∧ (a2 ≤ vw h 55 1 → ∀ h_7 : aH, wS h_7 → vw h_7 = up (up (vw h) 55 9 (iDiv (w32 (a3 * a1)) 100)) 55 10 a2 → ∀ (y17 : Int) (h_17 : aH), (wS h_17 ∧ True) → ∀ h_19 : aH, wS h_19 → vw h_19 = up (vw h_17) 55 1 0 → P y17 h_19))))) ∧ (a5 < vw h 55 1 → (0 ≤ a5 → a5 < 6 → (∀ (w3 : Int32) (w4 : Int32) (w5 : Int32), w3.toInt = w32 (a3 + (vw h 56 a5)) → w4.toInt = max a4 (vw h 56 a5) → w5.toInt = w32 (a5 + 1) → Pt n X zM46 8 [some (.ref 55), some (.int x1), some (.int x2), some (.int w3), some (.int w4), some (.int w5)] [] h (qI P)))))) : Pt (n + 1) X zM46 8 [some (.ref 55), some (.int x1), some (.int x2), some (.int x3), some (.int x4), some (.int x5)] [] h (qI P) := by
  refine pt_1 (fun n d => r_iload gx46_8 rfl) ?_
  refine pt_d (pt_1 (fun n d => r_aloadn gx46_10 rfl) ?_)
  refine pt_d (pt_getI (B := 1) gx46_11 S (fun v1 h1 => ?_))
  refine pt_d (pt_icmp_ge gx46_14 z5 h1 (fun e2 => ?_) (fun e2 => ?_))
  · have H := H.1 e2
    refine pt_d (pt_1 (fun n d => r_aloadn gx46_47 rfl) ?_)
    refine pt_d (pt_1 (fun n d => r_iloadn gx46_48 rfl) ?_)
    refine pt_d (pt_1 (fun n d => r_iloadn gx46_49 rfl) ?_)
    refine pt_d (pt_imul gx46_50 z3 z1 (fun v3 h3 => ?_))
    refine pt_d (pt_bipush gx46_51 (fun v4 h4 => ?_))
    refine pt_d (pt_idiv gx46_53 h3 h4 (fun v5 h5 => ?_))
    refine pt_d (pt_putI (B := 9) gx46_54 S h5 (fun h_6 S6 e6 => ?_))
    refine pt_d (pt_1 (fun n d => r_aloadn gx46_57 rfl) ?_)
    refine pt_d (pt_1 (fun n d => r_iloadn gx46_58 rfl) ?_)
    refine pt_d (pt_putI (B := 10) gx46_59 S6 z2 (fun h_7 S7 e7 => ?_))
    refine pt_d (pt_bipush gx46_62 (fun v8 h8 => ?_))
    refine pt_d (pt_1 (fun n d => r_istore (L' := [some (.ref 55), some (.int x1), some (.int x2), some (.int x3), some (.int x4), some (.int v8)]) gx46_64 rfl rfl) ?_)
    refine pt_d (pt_1 (fun n d => r_iload gx46_66 rfl) ?_)
    refine pt_d (pt_1 (fun n d => r_aloadn gx46_68 rfl) ?_)
    refine pt_d (pt_getI (B := 9) gx46_69 S7 (fun v9 h9 => ?_))
    have h9 : v9.toInt = iDiv (w32 (a3 * a1)) 100 := by rw [h9, e7, up_j (by decide), e6, up_s]
    refine pt_d (pt_icmp_gt gx46_72 z4 h9 (fun e10 => ?_) (fun e10 => ?_))
    · have H := H.1 e10
      refine pt_d (pt_1 (fun n d => r_aloadn gx46_90 rfl) ?_)
      refine pt_d (pt_iconst gx46_91 (fun v11 h11 => ?_))
      refine pt_d (pt_putI (B := 1) gx46_92 S7 h11 (fun h_12 S12 e12 => ?_))
      refine pt_d (pt_1 (fun n d => r_iload gx46_95 rfl) ?_)
      have H := H h_12 S12 (by rw [e12, e7, e6])
      exact pt_d (pt_iret gx46_97 ⟨_, rfl, by rw [h8]; exact H⟩)
    · have H := H.2 e10
      refine pt_d (pt_1 (fun n d => r_aloadn gx46_75 rfl) ?_)
      refine pt_d (pt_getI (B := 1) gx46_76 S7 (fun v13 h13 => ?_))
      have h13 : v13.toInt = vw h 55 1 := by rw [h13, e7, up_j (by decide), e6, up_j (by decide)]
      refine pt_d (pt_1 (fun n d => r_iloadn gx46_79 rfl) ?_)
      refine pt_d (pt_icmp_lt gx46_80 h13 z2 (fun e14 => ?_) (fun e14 => ?_))
      · have H := H.1 e14
        refine pt_d (pt_1 (fun n d => r_aloadn gx46_90 rfl) ?_)
        refine pt_d (pt_iconst gx46_91 (fun v15 h15 => ?_))
        refine pt_d (pt_putI (B := 1) gx46_92 S7 h15 (fun h_16 S16 e16 => ?_))
        refine pt_d (pt_1 (fun n d => r_iload gx46_95 rfl) ?_)
        have H := H h_16 S16 (by rw [e16, e7, e6])
        exact pt_d (pt_iret gx46_97 ⟨_, rfl, by rw [h8]; exact H⟩)
      · have H := H.2 e14
        refine pt_d (pt_1 (fun n d => r_aloadn gx46_83 rfl) ?_)
        refine pt_d (pt_1 (fun n d => r_iloadn gx46_84 rfl) ?_)
        have H := H h_7 S7 (by rw [e7, e6])
        refine pt_d (pt_virt (as := [.int x3]) (r := []) gx46_85 rfl (show zmt[47]? = some zM47 from rfl) rfl rfl rfl rfl (c_47 S7 z3) (kqI (fun v17 y17 h_17 h17 P17 => ?_)))
        have S17 := P17.1
        have H := H y17 h_17 P17
        show Pt _ _ _ 88 _ [.int v17] _ _
        refine pt_d (pt_1 (fun n d => r_istore (L' := [some (.ref 55), some (.int x1), some (.int x2), some (.int x3), some (.int x4), some (.int v17)]) gx46_88 rfl rfl) ?_)
        refine pt_d (pt_1 (fun n d => r_aloadn gx46_90 rfl) ?_)
        refine pt_d (pt_iconst gx46_91 (fun v18 h18 => ?_))
        refine pt_d (pt_putI (B := 1) gx46_92 S17 h18 (fun h_19 S19 e19 => ?_))
        refine pt_d (pt_1 (fun n d => r_iload gx46_95 rfl) ?_)
        have H := H h_19 S19 (by rw [e19])
        exact pt_d (pt_iret gx46_97 ⟨_, rfl, by rw [h17]; exact H⟩)
  · have H := H.2 e2
    refine pt_d (pt_1 (fun n d => r_iloadn gx46_17 rfl) ?_)
    refine pt_d (pt_1 (fun n d => r_aloadn gx46_18 rfl) ?_)
    refine pt_d (pt_getR gx46_19 S tr_55_0 ?_)
    refine pt_d (pt_1 (fun n d => r_iload gx46_22 rfl) ?_)
    refine pt_d (pt_iald (N' := 6) gx46_24 S tl_56 z5 (fun v21 p21 q21 h21 => ?_))
    have H := H p21 q21
    refine pt_d (pt_iadd gx46_25 z3 h21 (fun v22 h22 => ?_))
    refine pt_d (pt_1 (fun n d => r_istoren (L' := [some (.ref 55), some (.int x1), some (.int x2), some (.int v22), some (.int x4), some (.int x5)]) gx46_26 rfl rfl) ?_)
    refine pt_d (pt_1 (fun n d => r_iload gx46_27 rfl) ?_)
    refine pt_d (pt_1 (fun n d => r_aloadn gx46_29 rfl) ?_)
    refine pt_d (pt_getR gx46_30 S tr_55_0 ?_)
    refine pt_d (pt_1 (fun n d => r_iload gx46_33 rfl) ?_)
    refine pt_d (pt_iald (N' := 6) gx46_35 S tl_56 z5 (fun v24 p24 q24 h24 => ?_))
    refine pt_d (pt_max gx46_36 rfl z4 h24 (fun v25 h25 => ?_))
    refine pt_d (pt_1 (fun n d => r_istore (L' := [some (.ref 55), some (.int x1), some (.int x2), some (.int v22), some (.int v25), some (.int x5)]) gx46_39 rfl rfl) ?_)
    refine pt_d (pt_iinc (c := 1) gx46_41 rfl z5 (fun v26 h26 => ?_))
    show Pt _ _ _ _ [some (.ref 55), some (.int x1), some (.int x2), some (.int v22), some (.int v25), some (.int v26)] [] _ _
    refine pt_d (pt_1 (fun n d => r_goto gx46_44) ?_)
    exact H v22 v25 v26 h22 h25 h26
theorem l_46 {X : aX} : ∀ (n : Nat) (h : aH) (x1 x2 x3 x4 x5 : Int32), wS h → Pt n X zM46 8 [some (.ref 55), some (.int x1), some (.int x2), some (.int x3), some (.int x4), some (.int x5)] [] h (qI (fun y h' => wS h' ∧ vw h' 55 1 = 0)) := by
  intro n
  induction n with
  | zero => exact fun _ _ _ _ _ _ _ => pt_z
  | succ n ih =>
    intro h x1 x2 x3 x4 x5 S
    exact d46_8 S rfl rfl rfl rfl rfl ⟨fun _ => ⟨fun _ g S1 e => ⟨S1, by rw [e, up_s]⟩, fun _ => ⟨fun _ g S1 e => ⟨S1, by rw [e, up_s]⟩, fun _ g S1 e y g2 p g3 S3 e3 => ⟨S3, by rw [e3, up_s]⟩⟩⟩, fun _ _ _ w3 w4 w5 _ _ _ => ih h x1 x2 w3 w4 w5 S⟩
theorem c_46 {n : Nat} {X : aX} {h : aH} {x1 x2 : Int32} {a1 a2 : Int} (S : wS h) (z1 : x1.toInt = a1) (z2 : x2.toInt = a2) : Pt n X zM46 0 [some (.ref 55), some (.int x1), some (.int x2), none, none, none] [] h (qI (fun y h' => wS h' ∧ vw h' 55 1 = 0)) := by
  exact pt_d (d46_0 S z1 z2 (fun w3 w4 w5 _ _ _ => l_46 n h x1 x2 w3 w4 w5 S))

theorem d183_0 {n : Nat} {X : aX} {h : aH} {P : Int → aH → Prop} {x1 x2 : Int32} {a1 a2 : Int} (S : wS h) (z1 : x1.toInt = a1) (z2 : x2.toInt = a2) (H : ((¬ (1 ≤ a1 ∧ a1 ≤ 100) → P (-1) h) ∧ ((1 ≤ a1 ∧ a1 ≤ 100) → ((¬ (1 ≤ a2 ∧ a2 ≤ 3) → P (-1) h) ∧ ((1 ≤ a2 ∧ a2 ≤ 3) → ((vw h 55 1 ≠ 0 → ∀ (y15 : Int) (h_15 : aH), (wS h_15 ∧ vw h_15 55 1 = 0) → P y15 h_15) ∧ (vw h 55 1 = 0 → P (-1) h))))))) : Pt (n + 1) X zM183 0 [some (.ref 0), some (.int x1), some (.int x2)] [] h (qI P) := by
  refine pt_1 (fun n d => r_iloadn gx183_0 rfl) ?_
  refine pt_d (pt_iconst gx183_1 (fun v1 h1 => ?_))
  refine pt_d (pt_bipush gx183_2 (fun v2 h2 => ?_))
  refine pt_d (pt_stat (as := [.int x1, .int v1, .int v2]) (r := []) gx183_4 rfl (show zmt[137]? = some zM137 from rfl) rfl rfl rfl rfl (c_137 S z1 h1 h2) (kqP (fun v3 h3 => ?_)))
  show Pt _ _ _ 7 _ [.int v3] _ _
  refine pt_d (pt_ifB_eq gx183_7 h3 (fun e4 => ?_) (fun e4 => ?_))
  · have H := H.1 e4
    refine pt_d (pt_iconst gx183_29 (fun v5 h5 => ?_))
    exact pt_d (pt_iret gx183_30 ⟨_, rfl, by rw [h5]; exact H⟩)
  · have H := H.2 e4
    refine pt_d (pt_1 (fun n d => r_iloadn gx183_10 rfl) ?_)
    refine pt_d (pt_iconst gx183_11 (fun v6 h6 => ?_))
    refine pt_d (pt_iconst gx183_12 (fun v7 h7 => ?_))
    refine pt_d (pt_stat (as := [.int x2, .int v6, .int v7]) (r := []) gx183_13 rfl (show zmt[137]? = some zM137 from rfl) rfl rfl rfl rfl (c_137 S z2 h6 h7) (kqP (fun v8 h8 => ?_)))
    show Pt _ _ _ 16 _ [.int v8] _ _
    refine pt_d (pt_ifB_eq gx183_16 h8 (fun e9 => ?_) (fun e9 => ?_))
    · have H := H.1 e9
      refine pt_d (pt_iconst gx183_29 (fun v10 h10 => ?_))
      exact pt_d (pt_iret gx183_30 ⟨_, rfl, by rw [h10]; exact H⟩)
    · have H := H.2 e9
      refine pt_d (pt_1 (fun n d => r_aloadn gx183_19 rfl) ?_)
      refine pt_d (pt_getR gx183_20 S tr_0_6 ?_)
      refine pt_d (pt_getI (B := 1) gx183_23 S (fun v12 h12 => ?_))
      refine pt_d (pt_if_ne gx183_26 h12 (fun e13 => ?_) (fun e13 => ?_))
      · have H := H.1 e13
        refine pt_d (pt_1 (fun n d => r_aloadn gx183_31 rfl) ?_)
        refine pt_d (pt_getR gx183_32 S tr_0_6 ?_)
        refine pt_d (pt_1 (fun n d => r_iloadn gx183_35 rfl) ?_)
        refine pt_d (pt_1 (fun n d => r_iloadn gx183_36 rfl) ?_)
        refine pt_d (pt_virt (as := [.int x1, .int x2]) (r := []) gx183_37 rfl (show zmt[46]? = some zM46 from rfl) rfl rfl rfl rfl (c_46 S z1 z2) (kqI (fun v15 y15 h_15 h15 P15 => ?_)))
        have S15 := P15.1
        have H := H y15 h_15 P15
        show Pt _ _ _ 40 _ [.int v15] _ _
        exact pt_d (pt_iret gx183_40 ⟨_, rfl, by rw [h15]; exact H⟩)
      · have H := H.2 e13
        refine pt_d (pt_iconst gx183_29 (fun v16 h16 => ?_))
        exact pt_d (pt_iret gx183_30 ⟨_, rfl, by rw [h16]; exact H⟩)
theorem d301_0 {n : Nat} {X : aX} {h : aH} {P : aH → Prop} {x1 x2 x3 x4 : Int32} {a1 a2 a3 a4 : Int} (S : wS h) (z1 : x1.toInt = a1) (z2 : x2.toInt = a2) (z3 : x3.toInt = a3) (z4 : x4.toInt = a4) (H : ((a1 ≠ vw h 72 87 → (∀ (w5 : Int32), w5.toInt = 0 → Pt n X zM301 104 [some (.ref 72), some (.int x1), some (.int x2), some (.int x3), some (.int x4), some (.int w5), none] [] h (qN P))) ∧ (a1 = vw h 72 87 → (∀ (w5 : Int32) (w6 : Int32), w5.toInt = 0 → w6.toInt = 0 → Pt n X zM301 14 [some (.ref 72), some (.int x1), some (.int x2), some (.int x3), some (.int x4), some (.int w5), some (.int w6)] [] h (qN P))))) : Pt (n + 1) X zM301 0 [some (.ref 72), some (.int x1), some (.int x2), some (.int x3), some (.int x4), none, none] [] h (qN P) := by
  refine pt_1 (fun n d => r_iloadn gx301_0 rfl) ?_
  refine pt_d (pt_1 (fun n d => r_aloadn gx301_1 rfl) ?_)
  refine pt_d (pt_getI (B := 87) gx301_2 S (fun v1 h1 => ?_))
  refine pt_d (pt_icmp_ne gx301_5 z1 h1 (fun e2 => ?_) (fun e2 => ?_))
  · have H := H.1 e2
    refine pt_d (pt_iconst gx301_101 (fun v3 h3 => ?_))
    refine pt_d (pt_1 (fun n d => r_istore (L' := [some (.ref 72), some (.int x1), some (.int x2), some (.int x3), some (.int x4), some (.int v3), none]) gx301_102 rfl rfl) ?_)
    exact H v3 h3
  · have H := H.2 e2
    refine pt_d (pt_iconst gx301_8 (fun v4 h4 => ?_))
    refine pt_d (pt_1 (fun n d => r_istore (L' := [some (.ref 72), some (.int x1), some (.int x2), some (.int x3), some (.int x4), some (.int v4), none]) gx301_9 rfl rfl) ?_)
    refine pt_d (pt_iconst gx301_11 (fun v5 h5 => ?_))
    refine pt_d (pt_1 (fun n d => r_istore (L' := [some (.ref 72), some (.int x1), some (.int x2), some (.int x3), some (.int x4), some (.int v4), some (.int v5)]) gx301_12 rfl rfl) ?_)
    exact H v4 v5 h4 h5
theorem d301_14 {n : Nat} {X : aX} {h : aH} {P : aH → Prop} {x1 x2 x3 x4 x5 x6 : Int32} {a1 a2 a3 a4 a5 a6 : Int} (S : wS h) (z1 : x1.toInt = a1) (z2 : x2.toInt = a2) (z3 : x3.toInt = a3) (z4 : x4.toInt = a4) (z5 : x5.toInt = a5) (z6 : x6.toInt = a6) (H : ((8 ≤ a6 → ((a5 < a4 → P h) ∧ (a4 ≤ a5 → ((vw h 72 94 < a2 → ∀ h_6 : aH, wS h_6 → vw h_6 = up (vw h) 72 94 a2 → (∀ (w6 : Int32), w6.toInt = 0 → Pt n X zM301 71 [some (.ref 72), some (.int x1), some (.int x2), some (.int x3), some (.int x4), some (.int x5), some (.int w6)] [] h_6 (qN P))) ∧ (a2 ≤ vw h 72 94 → P h))))) ∧ (a6 < 8 → (0 ≤ a6 → a6 < 8 → ((vw h 140 a6 ≤ 0 → (∀ (w5 : Int32) (w6 : Int32), w5.toInt = w32 (a5 + 0) → w6.toInt = w32 (a6 + 1) → Pt n X zM301 14 [some (.ref 72), some (.int x1), some (.int x2), some (.int x3), some (.int x4), some (.int w5), some (.int w6)] [] h (qN P))) ∧ (0 < vw h 140 a6 → (∀ (w5 : Int32) (w6 : Int32), w5.toInt = w32 (a5 + 1) → w6.toInt = w32 (a6 + 1) → Pt n X zM301 14 [some (.ref 72), some (.int x1), some (.int x2), some (.int x3), some (.int x4), some (.int w5), some (.int w6)] [] h (qN P)))))))) : Pt (n + 1) X zM301 14 [some (.ref 72), some (.int x1), some (.int x2), some (.int x3), some (.int x4), some (.int x5), some (.int x6)] [] h (qN P) := by
  refine pt_1 (fun n d => r_iload gx301_14 rfl) ?_
  refine pt_d (pt_bipush gx301_16 (fun v1 h1 => ?_))
  refine pt_d (pt_icmp_ge gx301_18 z6 h1 (fun e2 => ?_) (fun e2 => ?_))
  · have H := H.1 e2
    refine pt_d (pt_1 (fun n d => r_iload gx301_47 rfl) ?_)
    refine pt_d (pt_1 (fun n d => r_iload gx301_49 rfl) ?_)
    refine pt_d (pt_icmp_lt gx301_51 z5 z4 (fun e3 => ?_) (fun e3 => ?_))
    · have H := H.1 e3
      exact pt_d (pt_vret gx301_62 ⟨rfl, H⟩)
    · have H := H.2 e3
      refine pt_d (pt_1 (fun n d => r_iloadn gx301_54 rfl) ?_)
      refine pt_d (pt_1 (fun n d => r_aloadn gx301_55 rfl) ?_)
      refine pt_d (pt_getI (B := 94) gx301_56 S (fun v4 h4 => ?_))
      refine pt_d (pt_icmp_gt gx301_59 z2 h4 (fun e5 => ?_) (fun e5 => ?_))
      · have H := H.1 e5
        refine pt_d (pt_1 (fun n d => r_aloadn gx301_63 rfl) ?_)
        refine pt_d (pt_1 (fun n d => r_iloadn gx301_64 rfl) ?_)
        refine pt_d (pt_putI (B := 94) gx301_65 S z2 (fun h_6 S6 e6 => ?_))
        refine pt_d (pt_iconst gx301_68 (fun v7 h7 => ?_))
        refine pt_d (pt_1 (fun n d => r_istore (L' := [some (.ref 72), some (.int x1), some (.int x2), some (.int x3), some (.int x4), some (.int x5), some (.int v7)]) gx301_69 rfl rfl) ?_)
        have H := H h_6 S6 (by rw [e6])
        exact H v7 h7
      · have H := H.2 e5
        exact pt_d (pt_vret gx301_62 ⟨rfl, H⟩)
  · have H := H.2 e2
    refine pt_d (pt_1 (fun n d => r_iload gx301_21 rfl) ?_)
    refine pt_d (pt_1 (fun n d => r_aloadn gx301_23 rfl) ?_)
    refine pt_d (pt_getR gx301_24 S tr_72_92 ?_)
    refine pt_d (pt_1 (fun n d => r_iload gx301_27 rfl) ?_)
    refine pt_d (pt_iald (N' := 8) gx301_29 S tl_140 z6 (fun v9 p9 q9 h9 => ?_))
    have H := H p9 q9
    refine pt_d (pt_if_le gx301_30 h9 (fun e10 => ?_) (fun e10 => ?_))
    · have H := H.1 e10
      refine pt_d (pt_iconst gx301_37 (fun v11 h11 => ?_))
      refine pt_d (pt_iadd gx301_38 z5 h11 (fun v12 h12 => ?_))
      refine pt_d (pt_1 (fun n d => r_istore (L' := [some (.ref 72), some (.int x1), some (.int x2), some (.int x3), some (.int x4), some (.int v12), some (.int x6)]) gx301_39 rfl rfl) ?_)
      refine pt_d (pt_iinc (c := 1) gx301_41 rfl z6 (fun v13 h13 => ?_))
      show Pt _ _ _ _ [some (.ref 72), some (.int x1), some (.int x2), some (.int x3), some (.int x4), some (.int v12), some (.int v13)] [] _ _
      refine pt_d (pt_1 (fun n d => r_goto gx301_44) ?_)
      exact H v12 v13 h12 h13
    · have H := H.2 e10
      refine pt_d (pt_iconst gx301_33 (fun v14 h14 => ?_))
      refine pt_d (pt_1 (fun n d => r_goto gx301_34) ?_)
      refine pt_d (pt_iadd gx301_38 z5 h14 (fun v15 h15 => ?_))
      refine pt_d (pt_1 (fun n d => r_istore (L' := [some (.ref 72), some (.int x1), some (.int x2), some (.int x3), some (.int x4), some (.int v15), some (.int x6)]) gx301_39 rfl rfl) ?_)
      refine pt_d (pt_iinc (c := 1) gx301_41 rfl z6 (fun v16 h16 => ?_))
      show Pt _ _ _ _ [some (.ref 72), some (.int x1), some (.int x2), some (.int x3), some (.int x4), some (.int v15), some (.int v16)] [] _ _
      refine pt_d (pt_1 (fun n d => r_goto gx301_44) ?_)
      exact H v15 v16 h15 h16
theorem d301_71 {n : Nat} {X : aX} {h : aH} {P : aH → Prop} {x1 x2 x3 x4 x5 x6 : Int32} {a1 a2 a3 a4 a5 a6 : Int} (S : wS h) (z1 : x1.toInt = a1) (z2 : x2.toInt = a2) (z3 : x3.toInt = a3) (z4 : x4.toInt = a4) (z5 : x5.toInt = a5) (z6 : x6.toInt = a6) (H : ((vw h 72 87 ≤ a6 → P h) ∧ (a6 < vw h 72 87 → (0 ≤ a6 → a6 < 6 → ∀ h_6 : aH, wS h_6 → vw h_6 = up (vw h) 139 a6 (vw h 138 a6) → (∀ (w6 : Int32), w6.toInt = w32 (a6 + 1) → Pt n X zM301 71 [some (.ref 72), some (.int x1), some (.int x2), some (.int x3), some (.int x4), some (.int x5), some (.int w6)] [] h_6 (qN P)))))) : Pt (n + 1) X zM301 71 [some (.ref 72), some (.int x1), some (.int x2), some (.int x3), some (.int x4), some (.int x5), some (.int x6)] [] h (qN P) := by
  refine pt_1 (fun n d => r_iload gx301_71 rfl) ?_
  refine pt_d (pt_1 (fun n d => r_aloadn gx301_73 rfl) ?_)
  refine pt_d (pt_getI (B := 87) gx301_74 S (fun v1 h1 => ?_))
  refine pt_d (pt_icmp_ge gx301_77 z6 h1 (fun e2 => ?_) (fun e2 => ?_))
  · have H := H.1 e2
    exact pt_d (pt_vret gx301_100 ⟨rfl, H⟩)
  · have H := H.2 e2
    refine pt_d (pt_1 (fun n d => r_aloadn gx301_80 rfl) ?_)
    refine pt_d (pt_getR gx301_81 S tr_72_91 ?_)
    refine pt_d (pt_1 (fun n d => r_iload gx301_84 rfl) ?_)
    refine pt_d (pt_1 (fun n d => r_aloadn gx301_86 rfl) ?_)
    refine pt_d (pt_getR gx301_87 S tr_72_90 ?_)
    refine pt_d (pt_1 (fun n d => r_iload gx301_90 rfl) ?_)
    refine pt_d (pt_iald (N' := 6) gx301_92 S tl_138 z6 (fun v5 p5 q5 h5 => ?_))
    have H := H p5 q5
    refine pt_d (pt_iast (N' := 6) gx301_93 S tl_139 z6 h5 (fun h_6 S6 p6 q6 e6 => ?_))
    refine pt_d (pt_iinc (c := 1) gx301_94 rfl z6 (fun v7 h7 => ?_))
    show Pt _ _ _ _ [some (.ref 72), some (.int x1), some (.int x2), some (.int x3), some (.int x4), some (.int x5), some (.int v7)] [] _ _
    refine pt_d (pt_1 (fun n d => r_goto gx301_97) ?_)
    have H := H h_6 S6 (by rw [e6])
    exact H v7 h7
theorem d301_104 {n : Nat} {X : aX} {h : aH} {P : aH → Prop} {x1 x2 x3 x4 x5 : Int32} {a1 a2 a3 a4 a5 : Int} (S : wS h) (z1 : x1.toInt = a1) (z2 : x2.toInt = a2) (z3 : x3.toInt = a3) (z4 : x4.toInt = a4) (z5 : x5.toInt = a5) (K301 : ∀ {h : aH} {x1 x2 x3 x4 : Int32} {a1 a2 a3 a4 : Int}, wS h → x1.toInt = a1 → x2.toInt = a2 → x3.toInt = a3 → x4.toInt = a4 → Pt n X zM301 0 [some (.ref 72), some (.int x1), some (.int x2), some (.int x3), some (.int x4), none, none] [] h (qN (fun h' => wS h' ∧ True))) (H : ((8 ≤ a5 → P h) ∧ (a5 < 8 → (0 ≤ a5 → a5 < 8 → (0 ≤ a1 → a1 < 6 → ((w32 (100 * (w32 ((vw h 140 a5) + (vw h 136 a1)))) ≤ a3 → ∀ h_18 : aH, wS h_18 → vw h_18 = up (up (vw h) 138 a1 a5) 140 a5 (w32 ((vw h 140 a5) + (vw h 136 a1))) → ∀ (h_27 : aH), (wS h_27 ∧ True) → ∀ h_33 : aH, wS h_33 → vw h_33 = up (vw h_27) 140 a5 (w32 ((vw h_27 140 a5) - (vw h_27 136 a1))) → (∀ (w5 : Int32), w5.toInt = w32 (a5 + 1) → Pt n X zM301 104 [some (.ref 72), some (.int x1), some (.int x2), some (.int x3), some (.int x4), some (.int w5), none] [] h_33 (qN P))) ∧ (a3 < w32 (100 * (w32 ((vw h 140 a5) + (vw h 136 a1)))) → (∀ (w5 : Int32), w5.toInt = w32 (a5 + 1) → Pt n X zM301 104 [some (.ref 72), some (.int x1), some (.int x2), some (.int x3), some (.int x4), some (.int w5), none] [] h (qN P))))))))) : Pt (n + 1) X zM301 104 [some (.ref 72), some (.int x1), some (.int x2), some (.int x3), some (.int x4), some (.int x5), none] [] h (qN P) := by
  refine pt_1 (fun n d => r_iload gx301_104 rfl) ?_
  refine pt_d (pt_bipush gx301_106 (fun v1 h1 => ?_))
  refine pt_d (pt_icmp_ge gx301_108 z5 h1 (fun e2 => ?_) (fun e2 => ?_))
  · have H := H.1 e2
    exact pt_d (pt_vret gx301_207 ⟨rfl, H⟩)
  · have H := H.2 e2
    refine pt_d (pt_bipush gx301_111 (fun v3 h3 => ?_))
    refine pt_d (pt_1 (fun n d => r_aloadn gx301_113 rfl) ?_)
    refine pt_d (pt_getR gx301_114 S tr_72_92 ?_)
    refine pt_d (pt_1 (fun n d => r_iload gx301_117 rfl) ?_)
    refine pt_d (pt_iald (N' := 8) gx301_119 S tl_140 z5 (fun v5 p5 q5 h5 => ?_))
    have H := H p5 q5
    refine pt_d (pt_1 (fun n d => r_aloadn gx301_120 rfl) ?_)
    refine pt_d (pt_getR gx301_121 S tr_72_88 ?_)
    refine pt_d (pt_1 (fun n d => r_iloadn gx301_124 rfl) ?_)
    refine pt_d (pt_iald (N' := 6) gx301_125 S tl_136 z1 (fun v7 p7 q7 h7 => ?_))
    have H := H p7 q7
    refine pt_d (pt_iadd gx301_126 h5 h7 (fun v8 h8 => ?_))
    refine pt_d (pt_imul gx301_127 h3 h8 (fun v9 h9 => ?_))
    refine pt_d (pt_1 (fun n d => r_iloadn gx301_128 rfl) ?_)
    refine pt_d (pt_icmp_le gx301_129 h9 z3 (fun e10 => ?_) (fun e10 => ?_))
    · have H := H.1 e10
      refine pt_d (pt_1 (fun n d => r_aloadn gx301_135 rfl) ?_)
      refine pt_d (pt_getR gx301_136 S tr_72_90 ?_)
      refine pt_d (pt_1 (fun n d => r_iloadn gx301_139 rfl) ?_)
      refine pt_d (pt_1 (fun n d => r_iload gx301_140 rfl) ?_)
      refine pt_d (pt_iast (N' := 6) gx301_142 S tl_138 z1 z5 (fun h_12 S12 p12 q12 e12 => ?_))
      refine pt_d (pt_1 (fun n d => r_aloadn gx301_143 rfl) ?_)
      refine pt_d (pt_getR gx301_144 S12 tr_72_92 ?_)
      refine pt_d (pt_1 (fun n d => r_iload gx301_147 rfl) ?_)
      refine pt_d (pt_1 (fun n d => r_dup2 gx301_149 rfl) ?_)
      refine pt_d (pt_iald (N' := 8) gx301_150 S12 tl_140 z5 (fun v14 p14 q14 h14 => ?_))
      have h14 : v14.toInt = vw h 140 a5 := by rw [h14, e12, up_c (by decide)]
      refine pt_d (pt_1 (fun n d => r_aloadn gx301_151 rfl) ?_)
      refine pt_d (pt_getR gx301_152 S12 tr_72_88 ?_)
      refine pt_d (pt_1 (fun n d => r_iloadn gx301_155 rfl) ?_)
      refine pt_d (pt_iald (N' := 6) gx301_156 S12 tl_136 z1 (fun v16 p16 q16 h16 => ?_))
      have h16 : v16.toInt = vw h 136 a1 := by rw [h16, e12, up_c (by decide)]
      refine pt_d (pt_iadd gx301_157 h14 h16 (fun v17 h17 => ?_))
      refine pt_d (pt_iast (N' := 8) gx301_158 S12 tl_140 z5 h17 (fun h_18 S18 p18 q18 e18 => ?_))
      refine pt_d (pt_1 (fun n d => r_aloadn gx301_159 rfl) ?_)
      refine pt_d (pt_1 (fun n d => r_iloadn gx301_160 rfl) ?_)
      refine pt_d (pt_iconst gx301_161 (fun v19 h19 => ?_))
      refine pt_d (pt_iadd gx301_162 z1 h19 (fun v20 h20 => ?_))
      refine pt_d (pt_1 (fun n d => r_iloadn gx301_163 rfl) ?_)
      refine pt_d (pt_1 (fun n d => r_aloadn gx301_164 rfl) ?_)
      refine pt_d (pt_getR gx301_165 S18 tr_72_88 ?_)
      refine pt_d (pt_1 (fun n d => r_iloadn gx301_168 rfl) ?_)
      refine pt_d (pt_iald (N' := 6) gx301_169 S18 tl_136 z1 (fun v22 p22 q22 h22 => ?_))
      have h22 : v22.toInt = vw h 136 a1 := by rw [h22, e18, up_c (by decide), e12, up_c (by decide)]
      refine pt_d (pt_1 (fun n d => r_aloadn gx301_170 rfl) ?_)
      refine pt_d (pt_getR gx301_171 S18 tr_72_89 ?_)
      refine pt_d (pt_1 (fun n d => r_iload gx301_174 rfl) ?_)
      refine pt_d (pt_iald (N' := 8) gx301_176 S18 tl_137 z5 (fun v24 p24 q24 h24 => ?_))
      have h24 : v24.toInt = vw h 137 a5 := by rw [h24, e18, up_c (by decide), e12, up_c (by decide)]
      refine pt_d (pt_imul gx301_177 h22 h24 (fun v25 h25 => ?_))
      refine pt_d (pt_iadd gx301_178 z2 h25 (fun v26 h26 => ?_))
      refine pt_d (pt_1 (fun n d => r_iloadn gx301_179 rfl) ?_)
      refine pt_d (pt_1 (fun n d => r_iload gx301_180 rfl) ?_)
      have H := H h_18 S18 (by rw [e18, e12])
      refine pt_d (pt_virt (as := [.int v20, .int v26, .int x3, .int x4]) (r := []) gx301_182 rfl (show zmt[301]? = some zM301 from rfl) rfl rfl rfl rfl (K301 S18 h20 h26 z3 z4) (kqN (fun h_27 P27 => ?_)))
      have S27 := P27.1
      have H := H h_27 P27
      show Pt _ _ _ 185 _ [] _ _
      refine pt_d (pt_1 (fun n d => r_aloadn gx301_185 rfl) ?_)
      refine pt_d (pt_getR gx301_186 S27 tr_72_92 ?_)
      refine pt_d (pt_1 (fun n d => r_iload gx301_189 rfl) ?_)
      refine pt_d (pt_1 (fun n d => r_dup2 gx301_191 rfl) ?_)
      refine pt_d (pt_iald (N' := 8) gx301_192 S27 tl_140 z5 (fun v29 p29 q29 h29 => ?_))
      refine pt_d (pt_1 (fun n d => r_aloadn gx301_193 rfl) ?_)
      refine pt_d (pt_getR gx301_194 S27 tr_72_88 ?_)
      refine pt_d (pt_1 (fun n d => r_iloadn gx301_197 rfl) ?_)
      refine pt_d (pt_iald (N' := 6) gx301_198 S27 tl_136 z1 (fun v31 p31 q31 h31 => ?_))
      refine pt_d (pt_isub gx301_199 h29 h31 (fun v32 h32 => ?_))
      refine pt_d (pt_iast (N' := 8) gx301_200 S27 tl_140 z5 h32 (fun h_33 S33 p33 q33 e33 => ?_))
      refine pt_d (pt_iinc (c := 1) gx301_201 rfl z5 (fun v34 h34 => ?_))
      show Pt _ _ _ _ [some (.ref 72), some (.int x1), some (.int x2), some (.int x3), some (.int x4), some (.int v34), none] [] _ _
      refine pt_d (pt_1 (fun n d => r_goto gx301_204) ?_)
      have H := H h_33 S33 (by rw [e33])
      exact H v34 h34
    · have H := H.2 e10
      refine pt_d (pt_1 (fun n d => r_goto gx301_132) ?_)
      refine pt_d (pt_iinc (c := 1) gx301_201 rfl z5 (fun v35 h35 => ?_))
      show Pt _ _ _ _ [some (.ref 72), some (.int x1), some (.int x2), some (.int x3), some (.int x4), some (.int v35), none] [] _ _
      refine pt_d (pt_1 (fun n d => r_goto gx301_204) ?_)
      exact H v35 h35
theorem l_301 {X : aX} : ∀ n : Nat, (∀ {h : aH} {x1 x2 x3 x4 : Int32} {a1 a2 a3 a4 : Int}, wS h → x1.toInt = a1 → x2.toInt = a2 → x3.toInt = a3 → x4.toInt = a4 → Pt n X zM301 0 [some (.ref 72), some (.int x1), some (.int x2), some (.int x3), some (.int x4), none, none] [] h (qN (fun h' => wS h' ∧ True))) ∧ (∀ (h : aH) (x1 x2 x3 x4 x5 x6 : Int32), wS h → Pt n X zM301 14 [some (.ref 72), some (.int x1), some (.int x2), some (.int x3), some (.int x4), some (.int x5), some (.int x6)] [] h (qN (fun h' => wS h' ∧ True))) ∧ (∀ (h : aH) (x1 x2 x3 x4 x5 x6 : Int32), wS h → Pt n X zM301 71 [some (.ref 72), some (.int x1), some (.int x2), some (.int x3), some (.int x4), some (.int x5), some (.int x6)] [] h (qN (fun h' => wS h' ∧ True))) ∧ (∀ (h : aH) (x1 x2 x3 x4 x5 : Int32), wS h → Pt n X zM301 104 [some (.ref 72), some (.int x1), some (.int x2), some (.int x3), some (.int x4), some (.int x5), none] [] h (qN (fun h' => wS h' ∧ True))) := by
  intro n
  induction n with
  | zero => exact ⟨fun _ _ _ _ _ => pt_z, fun _ _ _ _ _ _ _ _ => pt_z, fun _ _ _ _ _ _ _ _ => pt_z, fun _ _ _ _ _ _ _ => pt_z⟩
  | succ n ih =>
    obtain ⟨K, i14, i71, i104⟩ := ih
    refine And.intro ?_ (And.intro ?_ (And.intro ?_ ?_))
    · intro h x1 x2 x3 x4 a1 a2 a3 a4 S z1 z2 z3 z4
      exact d301_0 S z1 z2 z3 z4 ⟨fun _ w5 _ => i104 h x1 x2 x3 x4 w5 S, fun _ w5 w6 _ _ => i14 h x1 x2 x3 x4 w5 w6 S⟩
    · intro h x1 x2 x3 x4 x5 x6 S
      exact d301_14 S rfl rfl rfl rfl rfl rfl ⟨fun _ => ⟨fun _ => ⟨S, trivial⟩, fun _ => ⟨fun _ g S1 _ w6 _ => i71 g x1 x2 x3 x4 x5 w6 S1, fun _ => ⟨S, trivial⟩⟩⟩, fun _ _ _ => ⟨fun _ w5 w6 _ _ => i14 h x1 x2 x3 x4 w5 w6 S, fun _ w5 w6 _ _ => i14 h x1 x2 x3 x4 w5 w6 S⟩⟩
    · intro h x1 x2 x3 x4 x5 x6 S
      exact d301_71 S rfl rfl rfl rfl rfl rfl ⟨fun _ => ⟨S, trivial⟩, fun _ _ _ g S1 _ w6 _ => i71 g x1 x2 x3 x4 x5 w6 S1⟩
    · intro h x1 x2 x3 x4 x5 S
      exact d301_104 S rfl rfl rfl rfl rfl K ⟨fun _ => ⟨S, trivial⟩, fun _ _ _ _ _ => ⟨fun _ g S1 _ g2 _ g3 S3 _ w5 _ => i104 g3 x1 x2 x3 x4 w5 S3, fun _ w5 _ => i104 h x1 x2 x3 x4 w5 S⟩⟩
theorem c_301 {n : Nat} {X : aX} {h : aH} {x1 x2 x3 x4 : Int32} {a1 a2 a3 a4 : Int} (S : wS h) (z1 : x1.toInt = a1) (z2 : x2.toInt = a2) (z3 : x3.toInt = a3) (z4 : x4.toInt = a4) : Pt n X zM301 0 [some (.ref 72), some (.int x1), some (.int x2), some (.int x3), some (.int x4), none, none] [] h (qN (fun h' => wS h' ∧ True)) := (l_301 n).1 S z1 z2 z3 z4

theorem d302_0 {n : Nat} {X : aX} {h : aH} {P : Int → aH → Prop} {x1 x2 : Int32} {a1 a2 : Int} (S : wS h) (z1 : x1.toInt = a1) (z2 : x2.toInt = a2) (H : ((vw h 72 87 = 0 → P (-1) h) ∧ (vw h 72 87 ≠ 0 → ((¬ (1 ≤ a1 ∧ a1 ≤ 100) → P (-1) h) ∧ ((1 ≤ a1 ∧ a1 ≤ 100) → (((1 ≤ a2 ∧ a2 ≤ 3) → (∀ (w3 : Int32) (w4 : Int32), w3.toInt = 0 → w4.toInt = 0 → Pt n X zM302 33 [some (.ref 72), some (.int x1), some (.int x2), some (.int w3), some (.int w4)] [] h (qI P))) ∧ (¬ (1 ≤ a2 ∧ a2 ≤ 3) → P (-1) h))))))) : Pt (n + 1) X zM302 0 [some (.ref 72), some (.int x1), some (.int x2), none, none] [] h (qI P) := by
  refine pt_1 (fun n d => r_aloadn gx302_0 rfl) ?_
  refine pt_d (pt_getI (B := 87) gx302_1 S (fun v1 h1 => ?_))
  refine pt_d (pt_if_eq gx302_4 h1 (fun e2 => ?_) (fun e2 => ?_))
  · have H := H.1 e2
    refine pt_d (pt_iconst gx302_26 (fun v3 h3 => ?_))
    exact pt_d (pt_iret gx302_27 ⟨_, rfl, by rw [h3]; exact H⟩)
  · have H := H.2 e2
    refine pt_d (pt_1 (fun n d => r_iloadn gx302_7 rfl) ?_)
    refine pt_d (pt_iconst gx302_8 (fun v4 h4 => ?_))
    refine pt_d (pt_bipush gx302_9 (fun v5 h5 => ?_))
    refine pt_d (pt_stat (as := [.int x1, .int v4, .int v5]) (r := []) gx302_11 rfl (show zmt[196]? = some zM196 from rfl) rfl rfl rfl rfl (c_196 S z1 h4 h5) (kqP (fun v6 h6 => ?_)))
    show Pt _ _ _ 14 _ [.int v6] _ _
    refine pt_d (pt_ifB_eq gx302_14 h6 (fun e7 => ?_) (fun e7 => ?_))
    · have H := H.1 e7
      refine pt_d (pt_iconst gx302_26 (fun v8 h8 => ?_))
      exact pt_d (pt_iret gx302_27 ⟨_, rfl, by rw [h8]; exact H⟩)
    · have H := H.2 e7
      refine pt_d (pt_1 (fun n d => r_iloadn gx302_17 rfl) ?_)
      refine pt_d (pt_iconst gx302_18 (fun v9 h9 => ?_))
      refine pt_d (pt_iconst gx302_19 (fun v10 h10 => ?_))
      refine pt_d (pt_stat (as := [.int x2, .int v9, .int v10]) (r := []) gx302_20 rfl (show zmt[196]? = some zM196 from rfl) rfl rfl rfl rfl (c_196 S z2 h9 h10) (kqP (fun v11 h11 => ?_)))
      show Pt _ _ _ 23 _ [.int v11] _ _
      refine pt_d (pt_ifB_ne gx302_23 h11 (fun e12 => ?_) (fun e12 => ?_))
      · have H := H.1 e12
        refine pt_d (pt_iconst gx302_28 (fun v13 h13 => ?_))
        refine pt_d (pt_1 (fun n d => r_istoren (L' := [some (.ref 72), some (.int x1), some (.int x2), some (.int v13), none]) gx302_29 rfl rfl) ?_)
        refine pt_d (pt_iconst gx302_30 (fun v14 h14 => ?_))
        refine pt_d (pt_1 (fun n d => r_istore (L' := [some (.ref 72), some (.int x1), some (.int x2), some (.int v13), some (.int v14)]) gx302_31 rfl rfl) ?_)
        exact H v13 v14 h13 h14
      · have H := H.2 e12
        refine pt_d (pt_iconst gx302_26 (fun v15 h15 => ?_))
        exact pt_d (pt_iret gx302_27 ⟨_, rfl, by rw [h15]; exact H⟩)
theorem d302_33 {n : Nat} {X : aX} {h : aH} {P : Int → aH → Prop} {x1 x2 x3 x4 : Int32} {a1 a2 a3 a4 : Int} (S : wS h) (z1 : x1.toInt = a1) (z2 : x2.toInt = a2) (z3 : x3.toInt = a3) (z4 : x4.toInt = a4) (H : ((vw h 72 87 ≤ a4 → (∀ (w4 : Int32), w4.toInt = 0 → Pt n X zM302 61 [some (.ref 72), some (.int x1), some (.int x2), some (.int x3), some (.int w4)] [] h (qI P))) ∧ (a4 < vw h 72 87 → (0 ≤ a4 → a4 < 6 → (∀ (w3 : Int32) (w4 : Int32), w3.toInt = w32 (a3 + (vw h 136 a4)) → w4.toInt = w32 (a4 + 1) → Pt n X zM302 33 [some (.ref 72), some (.int x1), some (.int x2), some (.int w3), some (.int w4)] [] h (qI P)))))) : Pt (n + 1) X zM302 33 [some (.ref 72), some (.int x1), some (.int x2), some (.int x3), some (.int x4)] [] h (qI P) := by
  refine pt_1 (fun n d => r_iload gx302_33 rfl) ?_
  refine pt_d (pt_1 (fun n d => r_aloadn gx302_35 rfl) ?_)
  refine pt_d (pt_getI (B := 87) gx302_36 S (fun v1 h1 => ?_))
  refine pt_d (pt_icmp_ge gx302_39 z4 h1 (fun e2 => ?_) (fun e2 => ?_))
  · have H := H.1 e2
    refine pt_d (pt_iconst gx302_58 (fun v3 h3 => ?_))
    refine pt_d (pt_1 (fun n d => r_istore (L' := [some (.ref 72), some (.int x1), some (.int x2), some (.int x3), some (.int v3)]) gx302_59 rfl rfl) ?_)
    exact H v3 h3
  · have H := H.2 e2
    refine pt_d (pt_1 (fun n d => r_iloadn gx302_42 rfl) ?_)
    refine pt_d (pt_1 (fun n d => r_aloadn gx302_43 rfl) ?_)
    refine pt_d (pt_getR gx302_44 S tr_72_88 ?_)
    refine pt_d (pt_1 (fun n d => r_iload gx302_47 rfl) ?_)
    refine pt_d (pt_iald (N' := 6) gx302_49 S tl_136 z4 (fun v5 p5 q5 h5 => ?_))
    have H := H p5 q5
    refine pt_d (pt_iadd gx302_50 z3 h5 (fun v6 h6 => ?_))
    refine pt_d (pt_1 (fun n d => r_istoren (L' := [some (.ref 72), some (.int x1), some (.int x2), some (.int v6), some (.int x4)]) gx302_51 rfl rfl) ?_)
    refine pt_d (pt_iinc (c := 1) gx302_52 rfl z4 (fun v7 h7 => ?_))
    show Pt _ _ _ _ [some (.ref 72), some (.int x1), some (.int x2), some (.int v6), some (.int v7)] [] _ _
    refine pt_d (pt_1 (fun n d => r_goto gx302_55) ?_)
    exact H v6 v7 h6 h7
theorem d302_61 {n : Nat} {X : aX} {h : aH} {P : Int → aH → Prop} {x1 x2 x3 x4 : Int32} {a1 a2 a3 a4 : Int} (S : wS h) (z1 : x1.toInt = a1) (z2 : x2.toInt = a2) (z3 : x3.toInt = a3) (z4 : x4.toInt = a4) (H : ((8 ≤ a4 → ∀ h_4 : aH, wS h_4 → vw h_4 = up (vw h) 72 94 (-1) → ∀ (h_8 : aH), (wS h_8 ∧ True) → ((0 ≤ vw h_8 72 94 → ∀ h_14 : aH, wS h_14 → vw h_14 = up (up (vw h_8) 72 87 0) 72 93 (vw h_8 72 87) → P (vw h_8 72 94) h_14) ∧ (vw h_8 72 94 < 0 → ∀ h_11 : aH, wS h_11 → vw h_11 = up (vw h_8) 72 87 0 → P (-2) h_11))) ∧ (a4 < 8 → (0 ≤ a4 → a4 < 8 → ∀ h_19 : aH, wS h_19 → vw h_19 = up (vw h) 140 a4 0 → (∀ (w4 : Int32), w4.toInt = w32 (a4 + 1) → Pt n X zM302 61 [some (.ref 72), some (.int x1), some (.int x2), some (.int x3), some (.int w4)] [] h_19 (qI P)))))) : Pt (n + 1) X zM302 61 [some (.ref 72), some (.int x1), some (.int x2), some (.int x3), some (.int x4)] [] h (qI P) := by
  refine pt_1 (fun n d => r_iload gx302_61 rfl) ?_
  refine pt_d (pt_bipush gx302_63 (fun v1 h1 => ?_))
  refine pt_d (pt_icmp_ge gx302_65 z4 h1 (fun e2 => ?_) (fun e2 => ?_))
  · have H := H.1 e2
    refine pt_d (pt_1 (fun n d => r_aloadn gx302_82 rfl) ?_)
    refine pt_d (pt_iconst gx302_83 (fun v3 h3 => ?_))
    refine pt_d (pt_putI (B := 94) gx302_84 S h3 (fun h_4 S4 e4 => ?_))
    refine pt_d (pt_1 (fun n d => r_aloadn gx302_87 rfl) ?_)
    refine pt_d (pt_iconst gx302_88 (fun v5 h5 => ?_))
    refine pt_d (pt_iconst gx302_89 (fun v6 h6 => ?_))
    refine pt_d (pt_1 (fun n d => r_iloadn gx302_90 rfl) ?_)
    refine pt_d (pt_1 (fun n d => r_iloadn gx302_91 rfl) ?_)
    refine pt_d (pt_imul gx302_92 z1 z3 (fun v7 h7 => ?_))
    refine pt_d (pt_1 (fun n d => r_iloadn gx302_93 rfl) ?_)
    have H := H h_4 S4 (by rw [e4])
    refine pt_d (pt_virt (as := [.int v5, .int v6, .int v7, .int x2]) (r := []) gx302_94 rfl (show zmt[301]? = some zM301 from rfl) rfl rfl rfl rfl (c_301 S4 h5 h6 h7 z2) (kqN (fun h_8 P8 => ?_)))
    have S8 := P8.1
    have H := H h_8 P8
    show Pt _ _ _ 97 _ [] _ _
    refine pt_d (pt_1 (fun n d => r_aloadn gx302_97 rfl) ?_)
    refine pt_d (pt_getI (B := 87) gx302_98 S8 (fun v9 h9 => ?_))
    refine pt_d (pt_1 (fun n d => r_istore (L' := [some (.ref 72), some (.int x1), some (.int x2), some (.int x3), some (.int v9)]) gx302_101 rfl rfl) ?_)
    refine pt_d (pt_1 (fun n d => r_aloadn gx302_103 rfl) ?_)
    refine pt_d (pt_iconst gx302_104 (fun v10 h10 => ?_))
    refine pt_d (pt_putI (B := 87) gx302_105 S8 h10 (fun h_11 S11 e11 => ?_))
    refine pt_d (pt_1 (fun n d => r_aloadn gx302_108 rfl) ?_)
    refine pt_d (pt_getI (B := 94) gx302_109 S11 (fun v12 h12 => ?_))
    have h12 : v12.toInt = vw h_8 72 94 := by rw [h12, e11, up_j (by decide)]
    refine pt_d (pt_if_ge gx302_112 h12 (fun e13 => ?_) (fun e13 => ?_))
    · have H := H.1 e13
      refine pt_d (pt_1 (fun n d => r_aloadn gx302_118 rfl) ?_)
      refine pt_d (pt_1 (fun n d => r_iload gx302_119 rfl) ?_)
      refine pt_d (pt_putI (B := 93) gx302_121 S11 h9 (fun h_14 S14 e14 => ?_))
      refine pt_d (pt_1 (fun n d => r_aloadn gx302_124 rfl) ?_)
      refine pt_d (pt_getI (B := 94) gx302_125 S14 (fun v15 h15 => ?_))
      have h15 : v15.toInt = vw h_8 72 94 := by rw [h15, e14, up_j (by decide), e11, up_j (by decide)]
      have H := H h_14 S14 (by rw [e14, e11])
      exact pt_d (pt_iret gx302_128 ⟨_, rfl, by rw [h15]; exact H⟩)
    · have H := H.2 e13
      refine pt_d (pt_bipush gx302_115 (fun v16 h16 => ?_))
      have H := H h_11 S11 (by rw [e11])
      exact pt_d (pt_iret gx302_117 ⟨_, rfl, by rw [h16]; exact H⟩)
  · have H := H.2 e2
    refine pt_d (pt_1 (fun n d => r_aloadn gx302_68 rfl) ?_)
    refine pt_d (pt_getR gx302_69 S tr_72_92 ?_)
    refine pt_d (pt_1 (fun n d => r_iload gx302_72 rfl) ?_)
    refine pt_d (pt_iconst gx302_74 (fun v18 h18 => ?_))
    refine pt_d (pt_iast (N' := 8) gx302_75 S tl_140 z4 h18 (fun h_19 S19 p19 q19 e19 => ?_))
    have H := H p19 q19
    refine pt_d (pt_iinc (c := 1) gx302_76 rfl z4 (fun v20 h20 => ?_))
    show Pt _ _ _ _ [some (.ref 72), some (.int x1), some (.int x2), some (.int x3), some (.int v20)] [] _ _
    refine pt_d (pt_1 (fun n d => r_goto gx302_79) ?_)
    have H := H h_19 S19 (by rw [e19])
    exact H v20 h20
def bad183 (V : vS) (a b : Int) : Prop := ¬ (1 ≤ a ∧ a ≤ 100) ∨ ¬ (1 ≤ b ∧ b ≤ 3) ∨ V 55 1 = 0
def R183 (V : vS) (a b r : Int) (V' : vS) : Prop := (bad183 V a b ∧ V' = V) ∨ (¬ bad183 V a b ∧ V' 55 1 = 0)
theorem c_183 {n : Nat} {X : aX} {h : aH} {x1 x2 : Int32} {a1 a2 : Int} (S : wS h) (z1 : x1.toInt = a1) (z2 : x2.toInt = a2) : Pt n X zM183 0 [some (.ref 0), some (.int x1), some (.int x2)] [] h (qI (fun y h' => R183 (vw h) a1 a2 y (vw h'))) := by
  refine pt_d (d183_0 S z1 z2 ⟨fun e => Or.inl ⟨Or.inl e, rfl⟩, fun e => ⟨fun e2 => Or.inl ⟨Or.inr (Or.inl e2), rfl⟩, fun e2 => ⟨fun e3 y g p => Or.inr ⟨fun z => z.elim (fun z => z e) (fun z => z.elim (fun z => z e2) e3), p.2⟩, fun e3 => Or.inl ⟨Or.inr (Or.inr e3), rfl⟩⟩⟩⟩)
def bad302 (V : vS) (a b : Int) : Prop := ¬ (1 ≤ a ∧ a ≤ 100) ∨ ¬ (1 ≤ b ∧ b ≤ 3) ∨ V 72 87 = 0
def R302 (V : vS) (a b r : Int) (V' : vS) : Prop := (bad302 V a b ∧ V' = V) ∨ (¬ bad302 V a b ∧ V' 72 87 = 0)
theorem l_302 {X : aX} : ∀ n : Nat, (∀ (h : aH) (x1 x2 x3 x4 : Int32), wS h → Pt n X zM302 33 [some (.ref 72), some (.int x1), some (.int x2), some (.int x3), some (.int x4)] [] h (qI (fun y h' => vw h' 72 87 = 0))) ∧ (∀ (h : aH) (x1 x2 x3 x4 : Int32), wS h → Pt n X zM302 61 [some (.ref 72), some (.int x1), some (.int x2), some (.int x3), some (.int x4)] [] h (qI (fun y h' => vw h' 72 87 = 0))) := by
  intro n
  induction n with
  | zero => exact ⟨fun _ _ _ _ _ _ => pt_z, fun _ _ _ _ _ _ => pt_z⟩
  | succ n ih =>
    obtain ⟨i33, i61⟩ := ih
    refine And.intro ?_ ?_
    · intro h x1 x2 x3 x4 S
      exact d302_33 S rfl rfl rfl rfl ⟨fun _ w4 _ => i61 h x1 x2 x3 w4 S, fun _ _ _ w3 w4 _ _ => i33 h x1 x2 w3 w4 S⟩
    · intro h x1 x2 x3 x4 S
      exact d302_61 S rfl rfl rfl rfl ⟨fun _ g S1 _ g2 p => ⟨fun _ g3 S3 e3 => by rw [e3, up_j (by decide), up_s], fun _ g3 S3 e3 => by rw [e3, up_s]⟩, fun _ _ _ g S1 _ w4 _ => i61 g x1 x2 x3 w4 S1⟩
theorem c_302 {n : Nat} {X : aX} {h : aH} {x1 x2 : Int32} {a1 a2 : Int} (S : wS h) (z1 : x1.toInt = a1) (z2 : x2.toInt = a2) : Pt n X zM302 0 [some (.ref 72), some (.int x1), some (.int x2), none, none] [] h (qI (fun y h' => R302 (vw h) a1 a2 y (vw h'))) := by
  refine pt_d (d302_0 S z1 z2 ⟨fun e => Or.inl ⟨Or.inr (Or.inr e), rfl⟩, fun e => ⟨fun e2 => Or.inl ⟨Or.inl e2, rfl⟩, fun e2 => ⟨fun e3 w3 w4 _ _ => ?_, fun e3 => Or.inl ⟨Or.inr (Or.inl e3), rfl⟩⟩⟩⟩)
  refine pt_q ((l_302 n).1 h x1 x2 w3 w4 S) ?_
  rintro v h' ⟨x, rfl, r⟩
  exact ⟨x, rfl, Or.inr ⟨fun z => z.elim (fun z => z e2) (fun z => z.elim (fun z => z e3) e), r⟩⟩

theorem d45_0 {n : Nat} {X : aX} {h : aH} {P : Int → aH → Prop} {x1 : Int32} {a1 : Int} (S : wS h) (z1 : x1.toInt = a1) (H : ((6 ≤ vw h 55 1 → P (vw h 55 1) h) ∧ (vw h 55 1 < 6 → (0 ≤ vw h 55 1 → vw h 55 1 < 6 → ∀ h_11 : aH, wS h_11 → vw h_11 = up (up (vw h) 56 (vw h 55 1) a1) 55 1 (w32 ((vw h 55 1) + 1)) → P (w32 ((vw h 55 1) + 1)) h_11)))) : Pt (n + 1) X zM45 0 [some (.ref 55), some (.int x1)] [] h (qI P) := by
  refine pt_1 (fun n d => r_aloadn gx45_0 rfl) ?_
  refine pt_d (pt_getI (B := 1) gx45_1 S (fun v1 h1 => ?_))
  refine pt_d (pt_bipush gx45_4 (fun v2 h2 => ?_))
  refine pt_d (pt_icmp_ge gx45_6 h1 h2 (fun e3 => ?_) (fun e3 => ?_))
  · have H := H.1 e3
    refine pt_d (pt_1 (fun n d => r_aloadn gx45_29 rfl) ?_)
    refine pt_d (pt_getI (B := 1) gx45_30 S (fun v4 h4 => ?_))
    exact pt_d (pt_iret gx45_33 ⟨_, rfl, by rw [h4]; exact H⟩)
  · have H := H.2 e3
    refine pt_d (pt_1 (fun n d => r_aloadn gx45_9 rfl) ?_)
    refine pt_d (pt_getR gx45_10 S tr_55_0 ?_)
    refine pt_d (pt_1 (fun n d => r_aloadn gx45_13 rfl) ?_)
    refine pt_d (pt_getI (B := 1) gx45_14 S (fun v6 h6 => ?_))
    refine pt_d (pt_1 (fun n d => r_iloadn gx45_17 rfl) ?_)
    refine pt_d (pt_iast (N' := 6) gx45_18 S tl_56 h6 z1 (fun h_7 S7 p7 q7 e7 => ?_))
    have H := H p7 q7
    refine pt_d (pt_1 (fun n d => r_aloadn gx45_19 rfl) ?_)
    refine pt_d (pt_1 (fun n d => r_dup gx45_20 rfl) ?_)
    refine pt_d (pt_getI (B := 1) gx45_21 S7 (fun v8 h8 => ?_))
    have h8 : v8.toInt = vw h 55 1 := by rw [h8, e7, up_c (by decide)]
    refine pt_d (pt_iconst gx45_24 (fun v9 h9 => ?_))
    refine pt_d (pt_iadd gx45_25 h8 h9 (fun v10 h10 => ?_))
    refine pt_d (pt_putI (B := 1) gx45_26 S7 h10 (fun h_11 S11 e11 => ?_))
    refine pt_d (pt_1 (fun n d => r_aloadn gx45_29 rfl) ?_)
    refine pt_d (pt_getI (B := 1) gx45_30 S11 (fun v12 h12 => ?_))
    have h12 : v12.toInt = w32 ((vw h 55 1) + 1) := by rw [h12, e11, up_s]
    have H := H h_11 S11 (by rw [e11, e7])
    exact pt_d (pt_iret gx45_33 ⟨_, rfl, by rw [h12]; exact H⟩)
def R45 (V : vS) (s r : Int) (V' : vS) : Prop := (6 ≤ V 55 1 ∧ r = V 55 1 ∧ V' = V) ∨ (V 55 1 < 6 ∧ 0 ≤ V 55 1 ∧ r = w32 (V 55 1 + 1) ∧ V' = up (up V 56 (V 55 1) s) 55 1 (w32 (V 55 1 + 1)))
theorem c_45 {n : Nat} {X : aX} {h : aH} {x1 : Int32} {a1 : Int} (S : wS h) (z1 : x1.toInt = a1) : Pt n X zM45 0 [some (.ref 55), some (.int x1)] [] h (qI (fun y h' => wS h' ∧ R45 (vw h) a1 y (vw h'))) := by
  refine pt_d (d45_0 S z1 ⟨fun e => ⟨S, Or.inl ⟨e, rfl, rfl⟩⟩, fun e p q g S2 eg => ⟨S2, Or.inr ⟨e, p, rfl, eg⟩⟩⟩)

theorem d181_0 {n : Nat} {X : aX} {h : aH} {P : Int → aH → Prop} {x1 : Int32} {a1 : Int} (S : wS h) (z1 : x1.toInt = a1) (H : (((1 ≤ a1 ∧ a1 ≤ 576) → ((vw h 55 1 < 6 → ∀ (y10 : Int) (h_10 : aH), (wS h_10 ∧ R45 (vw h) a1 y10 (vw h_10)) → P y10 h_10) ∧ (6 ≤ vw h 55 1 → P (-3) h))) ∧ (¬ (1 ≤ a1 ∧ a1 ≤ 576) → P (-1) h))) : Pt (n + 1) X zM181 0 [some (.ref 0), some (.int x1)] [] h (qI P) := by
  refine pt_1 (fun n d => r_iloadn gx181_0 rfl) ?_
  refine pt_d (pt_iconst gx181_1 (fun v1 h1 => ?_))
  refine pt_d (pt_sipush gx181_2 (fun v2 h2 => ?_))
  refine pt_d (pt_stat (as := [.int x1, .int v1, .int v2]) (r := []) gx181_5 rfl (show zmt[137]? = some zM137 from rfl) rfl rfl rfl rfl (c_137 S z1 h1 h2) (kqP (fun v3 h3 => ?_)))
  show Pt _ _ _ 8 _ [.int v3] _ _
  refine pt_d (pt_ifB_ne gx181_8 h3 (fun e4 => ?_) (fun e4 => ?_))
  · have H := H.1 e4
    refine pt_d (pt_1 (fun n d => r_aloadn gx181_13 rfl) ?_)
    refine pt_d (pt_getR gx181_14 S tr_0_6 ?_)
    refine pt_d (pt_getI (B := 1) gx181_17 S (fun v6 h6 => ?_))
    refine pt_d (pt_bipush gx181_20 (fun v7 h7 => ?_))
    refine pt_d (pt_icmp_lt gx181_22 h6 h7 (fun e8 => ?_) (fun e8 => ?_))
    · have H := H.1 e8
      refine pt_d (pt_1 (fun n d => r_aloadn gx181_30 rfl) ?_)
      refine pt_d (pt_getR gx181_31 S tr_0_6 ?_)
      refine pt_d (pt_1 (fun n d => r_iloadn gx181_34 rfl) ?_)
      refine pt_d (pt_virt (as := [.int x1]) (r := []) gx181_35 rfl (show zmt[45]? = some zM45 from rfl) rfl rfl rfl rfl (c_45 S z1) (kqI (fun v10 y10 h_10 h10 P10 => ?_)))
      have S10 := P10.1
      have H := H y10 h_10 P10
      show Pt _ _ _ 38 _ [.int v10] _ _
      exact pt_d (pt_iret gx181_38 ⟨_, rfl, by rw [h10]; exact H⟩)
    · have H := H.2 e8
      refine pt_d (pt_bipush gx181_25 (fun v11 h11 => ?_))
      refine pt_d (pt_1 (fun n d => r_goto gx181_27) ?_)
      exact pt_d (pt_iret gx181_38 ⟨_, rfl, by rw [h11]; exact H⟩)
  · have H := H.2 e4
    refine pt_d (pt_iconst gx181_11 (fun v12 h12 => ?_))
    exact pt_d (pt_iret gx181_12 ⟨_, rfl, by rw [h12]; exact H⟩)
theorem d299_0 {n : Nat} {X : aX} {h : aH} {P : Int → aH → Prop} {x1 : Int32} {a1 : Int} (S : wS h) (z1 : x1.toInt = a1) (H : (((1 ≤ a1 ∧ a1 ≤ 576) → ((vw h 72 87 ≠ 6 → (0 ≤ vw h 72 87 → vw h 72 87 < 6 → ∀ h_14 : aH, wS h_14 → vw h_14 = up (up (vw h) 136 (vw h 72 87) a1) 72 87 (w32 ((vw h 72 87) + 1)) → P (w32 ((vw h 72 87) + 1)) h_14)) ∧ (vw h 72 87 = 6 → P (-3) h))) ∧ (¬ (1 ≤ a1 ∧ a1 ≤ 576) → P (-1) h))) : Pt (n + 1) X zM299 0 [some (.ref 72), some (.int x1)] [] h (qI P) := by
  refine pt_1 (fun n d => r_iloadn gx299_0 rfl) ?_
  refine pt_d (pt_iconst gx299_1 (fun v1 h1 => ?_))
  refine pt_d (pt_sipush gx299_2 (fun v2 h2 => ?_))
  refine pt_d (pt_stat (as := [.int x1, .int v1, .int v2]) (r := []) gx299_5 rfl (show zmt[196]? = some zM196 from rfl) rfl rfl rfl rfl (c_196 S z1 h1 h2) (kqP (fun v3 h3 => ?_)))
  show Pt _ _ _ 8 _ [.int v3] _ _
  refine pt_d (pt_ifB_ne gx299_8 h3 (fun e4 => ?_) (fun e4 => ?_))
  · have H := H.1 e4
    refine pt_d (pt_1 (fun n d => r_aloadn gx299_13 rfl) ?_)
    refine pt_d (pt_getI (B := 87) gx299_14 S (fun v5 h5 => ?_))
    refine pt_d (pt_bipush gx299_17 (fun v6 h6 => ?_))
    refine pt_d (pt_icmp_ne gx299_19 h5 h6 (fun e7 => ?_) (fun e7 => ?_))
    · have H := H.1 e7
      refine pt_d (pt_1 (fun n d => r_aloadn gx299_25 rfl) ?_)
      refine pt_d (pt_getR gx299_26 S tr_72_88 ?_)
      refine pt_d (pt_1 (fun n d => r_aloadn gx299_29 rfl) ?_)
      refine pt_d (pt_getI (B := 87) gx299_30 S (fun v9 h9 => ?_))
      refine pt_d (pt_1 (fun n d => r_iloadn gx299_33 rfl) ?_)
      refine pt_d (pt_iast (N' := 6) gx299_34 S tl_136 h9 z1 (fun h_10 S10 p10 q10 e10 => ?_))
      have H := H p10 q10
      refine pt_d (pt_1 (fun n d => r_aloadn gx299_35 rfl) ?_)
      refine pt_d (pt_1 (fun n d => r_dup gx299_36 rfl) ?_)
      refine pt_d (pt_getI (B := 87) gx299_37 S10 (fun v11 h11 => ?_))
      have h11 : v11.toInt = vw h 72 87 := by rw [h11, e10, up_c (by decide)]
      refine pt_d (pt_iconst gx299_40 (fun v12 h12 => ?_))
      refine pt_d (pt_iadd gx299_41 h11 h12 (fun v13 h13 => ?_))
      refine pt_d (pt_putI (B := 87) gx299_42 S10 h13 (fun h_14 S14 e14 => ?_))
      refine pt_d (pt_1 (fun n d => r_aloadn gx299_45 rfl) ?_)
      refine pt_d (pt_getI (B := 87) gx299_46 S14 (fun v15 h15 => ?_))
      have h15 : v15.toInt = w32 ((vw h 72 87) + 1) := by rw [h15, e14, up_s]
      have H := H h_14 S14 (by rw [e14, e10])
      exact pt_d (pt_iret gx299_49 ⟨_, rfl, by rw [h15]; exact H⟩)
    · have H := H.2 e7
      refine pt_d (pt_bipush gx299_22 (fun v16 h16 => ?_))
      exact pt_d (pt_iret gx299_24 ⟨_, rfl, by rw [h16]; exact H⟩)
  · have H := H.2 e4
    refine pt_d (pt_iconst gx299_11 (fun v17 h17 => ?_))
    exact pt_d (pt_iret gx299_12 ⟨_, rfl, by rw [h17]; exact H⟩)
def R181 (V : vS) (s r : Int) (V' : vS) : Prop := (¬ (1 ≤ s ∧ s ≤ 576) ∧ r = -1 ∧ V' = V) ∨ ((1 ≤ s ∧ s ≤ 576) ∧ 6 ≤ V 55 1 ∧ r = -3 ∧ V' = V) ∨ ((1 ≤ s ∧ s ≤ 576) ∧ V 55 1 < 6 ∧ R45 V s r V')
theorem c_181 {n : Nat} {X : aX} {h : aH} {x1 : Int32} {a1 : Int} (S : wS h) (z1 : x1.toInt = a1) : Pt n X zM181 0 [some (.ref 0), some (.int x1)] [] h (qI (fun y h' => R181 (vw h) a1 y (vw h'))) := by
  refine pt_d (d181_0 S z1 ?_)
  first
    | exact ⟨fun e => Or.inl ⟨e, rfl, rfl⟩, fun e => ⟨fun e2 => Or.inr (Or.inl ⟨e, e2, rfl, rfl⟩), fun e2 y g p => Or.inr (Or.inr ⟨e, e2, p.2⟩)⟩⟩
    | exact ⟨fun e => ⟨fun e2 => Or.inr (Or.inl ⟨e, e2, rfl, rfl⟩), fun e2 y g p => Or.inr (Or.inr ⟨e, e2, p.2⟩)⟩, fun e => Or.inl ⟨e, rfl, rfl⟩⟩
    | exact ⟨fun e => ⟨fun e2 y g p => Or.inr (Or.inr ⟨e, e2, p.2⟩), fun e2 => Or.inr (Or.inl ⟨e, e2, rfl, rfl⟩)⟩, fun e => Or.inl ⟨e, rfl, rfl⟩⟩
    | exact ⟨fun e => Or.inl ⟨e, rfl, rfl⟩, fun e => ⟨fun e2 y g p => Or.inr (Or.inr ⟨e, e2, p.2⟩), fun e2 => Or.inr (Or.inl ⟨e, e2, rfl, rfl⟩)⟩⟩
def R299 (V : vS) (s r : Int) (V' : vS) : Prop := (¬ (1 ≤ s ∧ s ≤ 576) ∧ r = -1 ∧ V' = V) ∨ ((1 ≤ s ∧ s ≤ 576) ∧ V 72 87 = 6 ∧ r = -3 ∧ V' = V) ∨ ((1 ≤ s ∧ s ≤ 576) ∧ V 72 87 ≠ 6 ∧ r = w32 (V 72 87 + 1) ∧ V' = up (up V 136 (V 72 87) s) 72 87 (w32 (V 72 87 + 1)))
theorem c_299 {n : Nat} {X : aX} {h : aH} {x1 : Int32} {a1 : Int} (S : wS h) (z1 : x1.toInt = a1) : Pt n X zM299 0 [some (.ref 72), some (.int x1)] [] h (qI (fun y h' => R299 (vw h) a1 y (vw h'))) := by
  refine pt_d (d299_0 S z1 ⟨fun e => ⟨fun e2 p q g S2 eg => Or.inr (Or.inr ⟨e, e2, rfl, eg⟩), fun e2 => Or.inr (Or.inl ⟨e, e2, rfl, rfl⟩)⟩, fun e => Or.inl ⟨e, rfl, rfl⟩⟩)
def JPlot (V : vS) : Prop := V 55 1 = V 72 87 ∧ 0 ≤ V 55 1 ∧ V 55 1 ≤ 6 ∧ ∀ j, 0 ≤ j → j < V 55 1 → V 56 j = V 136 j
theorem jx_37 {V V1 V2 : vS} {s r1 r2 : Int} (L : JPlot V) (c : R181 V s r1 V1) (m : R299 V1 s r2 V2) : JPlot V2 ∧ r1 = r2 := by
  have L0 := L
  obtain ⟨l1, l2, l3, l4⟩ := L0
  rcases c with ⟨a, rfl, rfl⟩ | ⟨a, a1, rfl, rfl⟩ | ⟨a, a1, ⟨a2, -, -⟩ | ⟨a2, a3, hr, rfl⟩⟩
  · rcases m with ⟨b, rfl, rfl⟩ | ⟨b, -⟩ | ⟨b, -⟩
    · exact ⟨L, rfl⟩
    · exact absurd b a
    · exact absurd b a
  · rcases m with ⟨b, rfl, rfl⟩ | ⟨b, b1, rfl, rfl⟩ | ⟨b, b1, -⟩
    · exact absurd a b
    · exact ⟨L, rfl⟩
    · omega
  · omega
  · have w1 : w32 (V 55 1 + 1) = V 55 1 + 1 := w32_id (by omega) (by omega)
    have e : up (up V 56 (V 55 1) s) 55 1 (w32 (V 55 1 + 1)) 72 87 = V 72 87 := by rw [up_c (by decide), up_c (by decide)]
    rcases m with ⟨b, -⟩ | ⟨b, b1, -⟩ | ⟨b, b1, hr2, rfl⟩
    · exact absurd a b
    · omega
    · rw [e] at hr2 ⊢
      refine ⟨⟨?_, ?_, ?_, fun j j0 j1 => ?_⟩, by rw [hr, hr2, l1]⟩
      · rw [up_c (by decide), up_c (by decide), up_s, up_s, l1]
      · rw [up_c (by decide), up_c (by decide), up_s]; omega
      · rw [up_c (by decide), up_c (by decide), up_s]; omega
      · rw [up_c (by decide), up_c (by decide), up_s] at j1
        rw [up_c (by decide), up_c (by decide), up_c (by decide), up_p, up_c (by decide), up_p, up_c (by decide), up_c (by decide), ← l1]
        by_cases z : j = V 55 1
        · rw [if_pos z, if_pos z]
        · rw [if_neg z, if_neg z]; exact l4 j j0 (by omega)
theorem jx_39 {V V1 V2 : vS} {a b r1 r2 : Int} (L : JPlot V) (f1 : V1 72 87 = V 72 87) (f2 : V2 55 1 = V1 55 1) (c : R183 V a b r1 V1) (m : R302 V1 a b r2 V2) : JPlot V2 := by
  have L0 := L
  obtain ⟨l1, l2, l3, l4⟩ := L0
  rcases c with ⟨k, rfl⟩ | ⟨k, k1⟩
  · rcases m with ⟨-, rfl⟩ | ⟨q, -⟩
    · exact L
    · unfold bad183 at k; unfold bad302 at q; omega
  · rcases m with ⟨q, -⟩ | ⟨-, q⟩
    · unfold bad183 at k; unfold bad302 at q; omega
    · exact ⟨by omega, by omega, by omega, fun j j0 j1 => by omega⟩
def LPlot : List (Nat × Option Nat) := [(55, some 1), (72, some 87), (56, none), (136, none)]
theorem JPlot_ag {V V' : vS} (J : JPlot V) (A : ag LPlot V V') : JPlot V' := by
  obtain ⟨a1, a2, a3, a4, -⟩ := A
  have a1 : V' 55 1 = V 55 1 := a1
  have a2 : V' 72 87 = V 72 87 := a2
  unfold JPlot
  simp only [a1, a2, a3, a4]
  exact J
theorem JPlot_dG {W : List (Nat × Nat)} {σ σ1 : List Nat} {h h1 : aH} (J : JPlot (vw h)) (I : dI σ h) (G : dG W σ h σ1 h1) (k : frL W LPlot = true) : JPlot (vw h1) := JPlot_ag J (ag_dG I.1 G _ k)
theorem zJPlot0 : JPlot (vw zH0) := by
  have e1 : vw zH0 55 1 = 0 := vzf (i := 1) (x := 0) zh55 rfl
  have e2 : vw zH0 72 87 = 0 := vzf (i := 87) (x := 0) zh72 rfl
  exact ⟨by rw [e1, e2], by rw [e1]; decide, by rw [e1]; decide, fun j j0 j1 => by rw [e1] at j1; omega⟩


-- ===== rings =====
theorem tl_15 : tkL 15 0 12 = true := by decide +kernel
theorem tl_14 : tkL 14 0 12 = true := by decide +kernel
theorem tl_81 : tkL 81 0 12 = true := by decide +kernel
theorem tl_82 : tkL 82 0 12 = true := by decide +kernel
theorem tr_13_1 : tkR 13 1 15 = true := by decide +kernel
theorem tr_13_0 : tkR 13 0 14 = true := by decide +kernel
theorem tr_72_12 : tkR 72 12 81 = true := by decide +kernel
theorem tr_72_13 : tkR 72 13 82 = true := by decide +kernel
theorem gx92_0 : aF 0 zM92.2.2.2.2.2.2.2 = some (0, (.iload_n 1), 1, 0, 0) := by decide +kernel
theorem gx92_1 : aF 1 zM92.2.2.2.2.2.2.2 = some (1, (.iconst 1), 1, 0, 0) := by decide +kernel
theorem gx92_2 : aF 2 zM92.2.2.2.2.2.2.2 = some (2, .iadd, 1, 0, 0) := by decide +kernel
theorem gx92_3 : aF 3 zM92.2.2.2.2.2.2.2 = some (3, (.aload_n 0), 1, 0, 0) := by decide +kernel
theorem gx92_4 : aF 4 zM92.2.2.2.2.2.2.2 = some (4, (.getfield 18), 3, 7, 2) := by decide +kernel
theorem gx92_7 : aF 7 zM92.2.2.2.2.2.2.2 = some (7, (.if_icmp .ge 9), 3, 16, 0) := by decide +kernel
theorem gx92_16 : aF 16 zM92.2.2.2.2.2.2.2 = some (16, (.iconst 0), 1, 0, 0) := by decide +kernel
theorem gx92_17 : aF 17 zM92.2.2.2.2.2.2.2 = some (17, .ireturn, 1, 0, 0) := by decide +kernel
theorem gx92_10 : aF 10 zM92.2.2.2.2.2.2.2 = some (10, (.iload_n 1), 1, 0, 0) := by decide +kernel
theorem gx92_11 : aF 11 zM92.2.2.2.2.2.2.2 = some (11, (.iconst 1), 1, 0, 0) := by decide +kernel
theorem gx92_12 : aF 12 zM92.2.2.2.2.2.2.2 = some (12, .iadd, 1, 0, 0) := by decide +kernel
theorem gx92_13 : aF 13 zM92.2.2.2.2.2.2.2 = some (13, (.goto 4), 3, 17, 0) := by decide +kernel
theorem gx213_0 : aF 0 zM213.2.2.2.2.2.2.2 = some (0, (.iload_n 1), 1, 0, 0) := by decide +kernel
theorem gx213_1 : aF 1 zM213.2.2.2.2.2.2.2 = some (1, (.iconst 1), 1, 0, 0) := by decide +kernel
theorem gx213_2 : aF 2 zM213.2.2.2.2.2.2.2 = some (2, .iadd, 1, 0, 0) := by decide +kernel
theorem gx213_3 : aF 3 zM213.2.2.2.2.2.2.2 = some (3, (.aload_n 0), 1, 0, 0) := by decide +kernel
theorem gx213_4 : aF 4 zM213.2.2.2.2.2.2.2 = some (4, (.getfield 283), 3, 12, 11) := by decide +kernel
theorem gx213_7 : aF 7 zM213.2.2.2.2.2.2.2 = some (7, .irem, 1, 0, 0) := by decide +kernel
theorem gx213_8 : aF 8 zM213.2.2.2.2.2.2.2 = some (8, .ireturn, 1, 0, 0) := by decide +kernel
theorem gx95_0 : aF 0 zM95.2.2.2.2.2.2.2 = some (0, (.iload_n 0), 1, 0, 0) := by decide +kernel
theorem gx95_1 : aF 1 zM95.2.2.2.2.2.2.2 = some (1, (.iload_n 1), 1, 0, 0) := by decide +kernel
theorem gx95_2 : aF 2 zM95.2.2.2.2.2.2.2 = some (2, (.invokestatic 39), 3, 1011, 0) := by decide +kernel
theorem gx95_5 : aF 5 zM95.2.2.2.2.2.2.2 = some (5, (.iload_n 2), 1, 0, 0) := by decide +kernel
theorem gx95_6 : aF 6 zM95.2.2.2.2.2.2.2 = some (6, (.iload_n 3), 1, 0, 0) := by decide +kernel
theorem gx95_7 : aF 7 zM95.2.2.2.2.2.2.2 = some (7, (.invokestatic 39), 3, 1011, 0) := by decide +kernel
theorem gx95_10 : aF 10 zM95.2.2.2.2.2.2.2 = some (10, (.invokestatic 43), 3, 1010, 0) := by decide +kernel
theorem gx95_13 : aF 13 zM95.2.2.2.2.2.2.2 = some (13, (.iload_n 0), 1, 0, 0) := by decide +kernel
theorem gx95_14 : aF 14 zM95.2.2.2.2.2.2.2 = some (14, (.iload_n 1), 1, 0, 0) := by decide +kernel
theorem gx95_15 : aF 15 zM95.2.2.2.2.2.2.2 = some (15, (.invokestatic 43), 3, 1010, 0) := by decide +kernel
theorem gx95_18 : aF 18 zM95.2.2.2.2.2.2.2 = some (18, (.iload_n 2), 1, 0, 0) := by decide +kernel
theorem gx95_19 : aF 19 zM95.2.2.2.2.2.2.2 = some (19, (.iload_n 3), 1, 0, 0) := by decide +kernel
theorem gx95_20 : aF 20 zM95.2.2.2.2.2.2.2 = some (20, (.invokestatic 43), 3, 1010, 0) := by decide +kernel
theorem gx95_23 : aF 23 zM95.2.2.2.2.2.2.2 = some (23, (.invokestatic 39), 3, 1011, 0) := by decide +kernel
theorem gx95_26 : aF 26 zM95.2.2.2.2.2.2.2 = some (26, (.if_icmp .gt 7), 3, 33, 0) := by decide +kernel
theorem gx95_33 : aF 33 zM95.2.2.2.2.2.2.2 = some (33, (.iconst 0), 1, 0, 0) := by decide +kernel
theorem gx95_34 : aF 34 zM95.2.2.2.2.2.2.2 = some (34, .ireturn, 1, 0, 0) := by decide +kernel
theorem gx95_29 : aF 29 zM95.2.2.2.2.2.2.2 = some (29, (.iconst 1), 1, 0, 0) := by decide +kernel
theorem gx95_30 : aF 30 zM95.2.2.2.2.2.2.2 = some (30, (.goto 4), 3, 34, 0) := by decide +kernel
theorem gx93_0 : aF 0 zM93.2.2.2.2.2.2.2 = some (0, (.aload_n 0), 1, 0, 0) := by decide +kernel
theorem gx93_1 : aF 1 zM93.2.2.2.2.2.2.2 = some (1, (.iload_n 1), 1, 0, 0) := by decide +kernel
theorem gx93_2 : aF 2 zM93.2.2.2.2.2.2.2 = some (2, (.invokevirtual 26), 3, 92, 0) := by decide +kernel
theorem gx93_5 : aF 5 zM93.2.2.2.2.2.2.2 = some (5, (.istore_n 2), 1, 0, 0) := by decide +kernel
theorem gx93_6 : aF 6 zM93.2.2.2.2.2.2.2 = some (6, (.aload_n 0), 1, 0, 0) := by decide +kernel
theorem gx93_7 : aF 7 zM93.2.2.2.2.2.2.2 = some (7, (.getfield 15), 3, 7, 1) := by decide +kernel
theorem gx93_10 : aF 10 zM93.2.2.2.2.2.2.2 = some (10, (.iload_n 1), 1, 0, 0) := by decide +kernel
theorem gx93_11 : aF 11 zM93.2.2.2.2.2.2.2 = some (11, .iaload, 1, 0, 0) := by decide +kernel
theorem gx93_12 : aF 12 zM93.2.2.2.2.2.2.2 = some (12, (.aload_n 0), 1, 0, 0) := by decide +kernel
theorem gx93_13 : aF 13 zM93.2.2.2.2.2.2.2 = some (13, (.getfield 15), 3, 7, 1) := by decide +kernel
theorem gx93_16 : aF 16 zM93.2.2.2.2.2.2.2 = some (16, (.iload_n 2), 1, 0, 0) := by decide +kernel
theorem gx93_17 : aF 17 zM93.2.2.2.2.2.2.2 = some (17, .iaload, 1, 0, 0) := by decide +kernel
theorem gx93_18 : aF 18 zM93.2.2.2.2.2.2.2 = some (18, (.if_icmp .ne 7), 3, 25, 0) := by decide +kernel
theorem gx93_25 : aF 25 zM93.2.2.2.2.2.2.2 = some (25, (.iconst 0), 1, 0, 0) := by decide +kernel
theorem gx93_26 : aF 26 zM93.2.2.2.2.2.2.2 = some (26, (.istore_n 3), 1, 0, 0) := by decide +kernel
theorem gx93_27 : aF 27 zM93.2.2.2.2.2.2.2 = some (27, (.aload_n 0), 1, 0, 0) := by decide +kernel
theorem gx93_28 : aF 28 zM93.2.2.2.2.2.2.2 = some (28, (.getfield 9), 3, 7, 0) := by decide +kernel
theorem gx93_31 : aF 31 zM93.2.2.2.2.2.2.2 = some (31, (.iload_n 1), 1, 0, 0) := by decide +kernel
theorem gx93_32 : aF 32 zM93.2.2.2.2.2.2.2 = some (32, .iaload, 1, 0, 0) := by decide +kernel
theorem gx93_33 : aF 33 zM93.2.2.2.2.2.2.2 = some (33, (.aload_n 0), 1, 0, 0) := by decide +kernel
theorem gx93_34 : aF 34 zM93.2.2.2.2.2.2.2 = some (34, (.getfield 9), 3, 7, 0) := by decide +kernel
theorem gx93_37 : aF 37 zM93.2.2.2.2.2.2.2 = some (37, (.iload_n 2), 1, 0, 0) := by decide +kernel
theorem gx93_38 : aF 38 zM93.2.2.2.2.2.2.2 = some (38, .iaload, 1, 0, 0) := by decide +kernel
theorem gx93_39 : aF 39 zM93.2.2.2.2.2.2.2 = some (39, (.if_icmp .ne 7), 3, 46, 0) := by decide +kernel
theorem gx93_46 : aF 46 zM93.2.2.2.2.2.2.2 = some (46, (.iconst 0), 1, 0, 0) := by decide +kernel
theorem gx93_47 : aF 47 zM93.2.2.2.2.2.2.2 = some (47, (.istore 4), 2, 0, 0) := by decide +kernel
theorem gx93_49 : aF 49 zM93.2.2.2.2.2.2.2 = some (49, (.iload_n 1), 1, 0, 0) := by decide +kernel
theorem gx93_50 : aF 50 zM93.2.2.2.2.2.2.2 = some (50, (.iconst 2), 1, 0, 0) := by decide +kernel
theorem gx93_51 : aF 51 zM93.2.2.2.2.2.2.2 = some (51, .irem, 1, 0, 0) := by decide +kernel
theorem gx93_52 : aF 52 zM93.2.2.2.2.2.2.2 = some (52, (.ifCond .ne 20), 3, 72, 0) := by decide +kernel
theorem gx93_72 : aF 72 zM93.2.2.2.2.2.2.2 = some (72, (.iload 4), 2, 0, 0) := by decide +kernel
theorem gx93_74 : aF 74 zM93.2.2.2.2.2.2.2 = some (74, (.ifCond .eq 11), 3, 85, 0) := by decide +kernel
theorem gx93_85 : aF 85 zM93.2.2.2.2.2.2.2 = some (85, (.iconst 0), 1, 0, 0) := by decide +kernel
theorem gx93_86 : aF 86 zM93.2.2.2.2.2.2.2 = some (86, .ireturn, 1, 0, 0) := by decide +kernel
theorem gx93_55 : aF 55 zM93.2.2.2.2.2.2.2 = some (55, (.iload_n 3), 1, 0, 0) := by decide +kernel
theorem gx93_56 : aF 56 zM93.2.2.2.2.2.2.2 = some (56, (.ifCond .eq 12), 3, 68, 0) := by decide +kernel
theorem gx93_68 : aF 68 zM93.2.2.2.2.2.2.2 = some (68, (.iconst 0), 1, 0, 0) := by decide +kernel
theorem gx93_69 : aF 69 zM93.2.2.2.2.2.2.2 = some (69, (.goto 17), 3, 86, 0) := by decide +kernel
theorem gx93_42 : aF 42 zM93.2.2.2.2.2.2.2 = some (42, (.iconst 1), 1, 0, 0) := by decide +kernel
theorem gx93_43 : aF 43 zM93.2.2.2.2.2.2.2 = some (43, (.goto 4), 3, 47, 0) := by decide +kernel
theorem gx93_77 : aF 77 zM93.2.2.2.2.2.2.2 = some (77, (.iload_n 3), 1, 0, 0) := by decide +kernel
theorem gx93_78 : aF 78 zM93.2.2.2.2.2.2.2 = some (78, (.ifCond .ne 7), 3, 85, 0) := by decide +kernel
theorem gx93_81 : aF 81 zM93.2.2.2.2.2.2.2 = some (81, (.iconst 1), 1, 0, 0) := by decide +kernel
theorem gx93_82 : aF 82 zM93.2.2.2.2.2.2.2 = some (82, (.goto 4), 3, 86, 0) := by decide +kernel
theorem gx93_21 : aF 21 zM93.2.2.2.2.2.2.2 = some (21, (.iconst 1), 1, 0, 0) := by decide +kernel
theorem gx93_22 : aF 22 zM93.2.2.2.2.2.2.2 = some (22, (.goto 4), 3, 26, 0) := by decide +kernel
theorem gx93_59 : aF 59 zM93.2.2.2.2.2.2.2 = some (59, (.iload 4), 2, 0, 0) := by decide +kernel
theorem gx93_61 : aF 61 zM93.2.2.2.2.2.2.2 = some (61, (.ifCond .ne 7), 3, 68, 0) := by decide +kernel
theorem gx93_64 : aF 64 zM93.2.2.2.2.2.2.2 = some (64, (.iconst 1), 1, 0, 0) := by decide +kernel
theorem gx93_65 : aF 65 zM93.2.2.2.2.2.2.2 = some (65, (.goto 21), 3, 86, 0) := by decide +kernel
theorem gx94_0 : aF 0 zM94.2.2.2.2.2.2.2 = some (0, (.aload_n 0), 1, 0, 0) := by decide +kernel
theorem gx94_1 : aF 1 zM94.2.2.2.2.2.2.2 = some (1, (.getfield 9), 3, 7, 0) := by decide +kernel
theorem gx94_4 : aF 4 zM94.2.2.2.2.2.2.2 = some (4, (.iload_n 1), 1, 0, 0) := by decide +kernel
theorem gx94_5 : aF 5 zM94.2.2.2.2.2.2.2 = some (5, .iaload, 1, 0, 0) := by decide +kernel
theorem gx94_6 : aF 6 zM94.2.2.2.2.2.2.2 = some (6, (.aload_n 0), 1, 0, 0) := by decide +kernel
theorem gx94_7 : aF 7 zM94.2.2.2.2.2.2.2 = some (7, (.getfield 9), 3, 7, 0) := by decide +kernel
theorem gx94_10 : aF 10 zM94.2.2.2.2.2.2.2 = some (10, (.aload_n 0), 1, 0, 0) := by decide +kernel
theorem gx94_11 : aF 11 zM94.2.2.2.2.2.2.2 = some (11, (.iload_n 1), 1, 0, 0) := by decide +kernel
theorem gx94_12 : aF 12 zM94.2.2.2.2.2.2.2 = some (12, (.invokevirtual 26), 3, 92, 0) := by decide +kernel
theorem gx94_15 : aF 15 zM94.2.2.2.2.2.2.2 = some (15, .iaload, 1, 0, 0) := by decide +kernel
theorem gx94_16 : aF 16 zM94.2.2.2.2.2.2.2 = some (16, (.aload_n 0), 1, 0, 0) := by decide +kernel
theorem gx94_17 : aF 17 zM94.2.2.2.2.2.2.2 = some (17, (.getfield 9), 3, 7, 0) := by decide +kernel
theorem gx94_20 : aF 20 zM94.2.2.2.2.2.2.2 = some (20, (.iload_n 2), 1, 0, 0) := by decide +kernel
theorem gx94_21 : aF 21 zM94.2.2.2.2.2.2.2 = some (21, .iaload, 1, 0, 0) := by decide +kernel
theorem gx94_22 : aF 22 zM94.2.2.2.2.2.2.2 = some (22, (.aload_n 0), 1, 0, 0) := by decide +kernel
theorem gx94_23 : aF 23 zM94.2.2.2.2.2.2.2 = some (23, (.getfield 9), 3, 7, 0) := by decide +kernel
theorem gx94_26 : aF 26 zM94.2.2.2.2.2.2.2 = some (26, (.aload_n 0), 1, 0, 0) := by decide +kernel
theorem gx94_27 : aF 27 zM94.2.2.2.2.2.2.2 = some (27, (.iload_n 2), 1, 0, 0) := by decide +kernel
theorem gx94_28 : aF 28 zM94.2.2.2.2.2.2.2 = some (28, (.invokevirtual 26), 3, 92, 0) := by decide +kernel
theorem gx94_31 : aF 31 zM94.2.2.2.2.2.2.2 = some (31, .iaload, 1, 0, 0) := by decide +kernel
theorem gx94_32 : aF 32 zM94.2.2.2.2.2.2.2 = some (32, (.invokestatic 47), 3, 95, 0) := by decide +kernel
theorem gx94_35 : aF 35 zM94.2.2.2.2.2.2.2 = some (35, (.ifCond .eq 45), 3, 80, 0) := by decide +kernel
theorem gx94_80 : aF 80 zM94.2.2.2.2.2.2.2 = some (80, (.iconst 0), 1, 0, 0) := by decide +kernel
theorem gx94_81 : aF 81 zM94.2.2.2.2.2.2.2 = some (81, .ireturn, 1, 0, 0) := by decide +kernel
theorem gx94_38 : aF 38 zM94.2.2.2.2.2.2.2 = some (38, (.aload_n 0), 1, 0, 0) := by decide +kernel
theorem gx94_39 : aF 39 zM94.2.2.2.2.2.2.2 = some (39, (.getfield 15), 3, 7, 1) := by decide +kernel
theorem gx94_42 : aF 42 zM94.2.2.2.2.2.2.2 = some (42, (.iload_n 1), 1, 0, 0) := by decide +kernel
theorem gx94_43 : aF 43 zM94.2.2.2.2.2.2.2 = some (43, .iaload, 1, 0, 0) := by decide +kernel
theorem gx94_44 : aF 44 zM94.2.2.2.2.2.2.2 = some (44, (.aload_n 0), 1, 0, 0) := by decide +kernel
theorem gx94_45 : aF 45 zM94.2.2.2.2.2.2.2 = some (45, (.getfield 15), 3, 7, 1) := by decide +kernel
theorem gx94_48 : aF 48 zM94.2.2.2.2.2.2.2 = some (48, (.aload_n 0), 1, 0, 0) := by decide +kernel
theorem gx94_49 : aF 49 zM94.2.2.2.2.2.2.2 = some (49, (.iload_n 1), 1, 0, 0) := by decide +kernel
theorem gx94_50 : aF 50 zM94.2.2.2.2.2.2.2 = some (50, (.invokevirtual 26), 3, 92, 0) := by decide +kernel
theorem gx94_53 : aF 53 zM94.2.2.2.2.2.2.2 = some (53, .iaload, 1, 0, 0) := by decide +kernel
theorem gx94_54 : aF 54 zM94.2.2.2.2.2.2.2 = some (54, (.aload_n 0), 1, 0, 0) := by decide +kernel
theorem gx94_55 : aF 55 zM94.2.2.2.2.2.2.2 = some (55, (.getfield 15), 3, 7, 1) := by decide +kernel
theorem gx94_58 : aF 58 zM94.2.2.2.2.2.2.2 = some (58, (.iload_n 2), 1, 0, 0) := by decide +kernel
theorem gx94_59 : aF 59 zM94.2.2.2.2.2.2.2 = some (59, .iaload, 1, 0, 0) := by decide +kernel
theorem gx94_60 : aF 60 zM94.2.2.2.2.2.2.2 = some (60, (.aload_n 0), 1, 0, 0) := by decide +kernel
theorem gx94_61 : aF 61 zM94.2.2.2.2.2.2.2 = some (61, (.getfield 15), 3, 7, 1) := by decide +kernel
theorem gx94_64 : aF 64 zM94.2.2.2.2.2.2.2 = some (64, (.aload_n 0), 1, 0, 0) := by decide +kernel
theorem gx94_65 : aF 65 zM94.2.2.2.2.2.2.2 = some (65, (.iload_n 2), 1, 0, 0) := by decide +kernel
theorem gx94_66 : aF 66 zM94.2.2.2.2.2.2.2 = some (66, (.invokevirtual 26), 3, 92, 0) := by decide +kernel
theorem gx94_69 : aF 69 zM94.2.2.2.2.2.2.2 = some (69, .iaload, 1, 0, 0) := by decide +kernel
theorem gx94_70 : aF 70 zM94.2.2.2.2.2.2.2 = some (70, (.invokestatic 47), 3, 95, 0) := by decide +kernel
theorem gx94_73 : aF 73 zM94.2.2.2.2.2.2.2 = some (73, (.ifCond .eq 7), 3, 80, 0) := by decide +kernel
theorem gx94_76 : aF 76 zM94.2.2.2.2.2.2.2 = some (76, (.iconst 1), 1, 0, 0) := by decide +kernel
theorem gx94_77 : aF 77 zM94.2.2.2.2.2.2.2 = some (77, (.goto 4), 3, 81, 0) := by decide +kernel
theorem gx214_0 : aF 0 zM214.2.2.2.2.2.2.2 = some (0, (.aload_n 0), 1, 0, 0) := by decide +kernel
theorem gx214_1 : aF 1 zM214.2.2.2.2.2.2.2 = some (1, (.getfield 34), 3, 12, 12) := by decide +kernel
theorem gx214_4 : aF 4 zM214.2.2.2.2.2.2.2 = some (4, (.iload_n 1), 1, 0, 0) := by decide +kernel
theorem gx214_5 : aF 5 zM214.2.2.2.2.2.2.2 = some (5, .iaload, 1, 0, 0) := by decide +kernel
theorem gx214_6 : aF 6 zM214.2.2.2.2.2.2.2 = some (6, (.aload_n 0), 1, 0, 0) := by decide +kernel
theorem gx214_7 : aF 7 zM214.2.2.2.2.2.2.2 = some (7, (.getfield 34), 3, 12, 12) := by decide +kernel
theorem gx214_10 : aF 10 zM214.2.2.2.2.2.2.2 = some (10, (.aload_n 0), 1, 0, 0) := by decide +kernel
theorem gx214_11 : aF 11 zM214.2.2.2.2.2.2.2 = some (11, (.iload_n 1), 1, 0, 0) := by decide +kernel
theorem gx214_12 : aF 12 zM214.2.2.2.2.2.2.2 = some (12, (.invokevirtual 286), 3, 213, 0) := by decide +kernel
theorem gx214_15 : aF 15 zM214.2.2.2.2.2.2.2 = some (15, .iaload, 1, 0, 0) := by decide +kernel
theorem gx214_16 : aF 16 zM214.2.2.2.2.2.2.2 = some (16, (.invokestatic 289), 3, 211, 0) := by decide +kernel
theorem gx214_19 : aF 19 zM214.2.2.2.2.2.2.2 = some (19, .ireturn, 1, 0, 0) := by decide +kernel
theorem gx215_0 : aF 0 zM215.2.2.2.2.2.2.2 = some (0, (.aload_n 0), 1, 0, 0) := by decide +kernel
theorem gx215_1 : aF 1 zM215.2.2.2.2.2.2.2 = some (1, (.getfield 34), 3, 12, 12) := by decide +kernel
theorem gx215_4 : aF 4 zM215.2.2.2.2.2.2.2 = some (4, (.iload_n 1), 1, 0, 0) := by decide +kernel
theorem gx215_5 : aF 5 zM215.2.2.2.2.2.2.2 = some (5, .iaload, 1, 0, 0) := by decide +kernel
theorem gx215_6 : aF 6 zM215.2.2.2.2.2.2.2 = some (6, (.aload_n 0), 1, 0, 0) := by decide +kernel
theorem gx215_7 : aF 7 zM215.2.2.2.2.2.2.2 = some (7, (.getfield 34), 3, 12, 12) := by decide +kernel
theorem gx215_10 : aF 10 zM215.2.2.2.2.2.2.2 = some (10, (.aload_n 0), 1, 0, 0) := by decide +kernel
theorem gx215_11 : aF 11 zM215.2.2.2.2.2.2.2 = some (11, (.iload_n 1), 1, 0, 0) := by decide +kernel
theorem gx215_12 : aF 12 zM215.2.2.2.2.2.2.2 = some (12, (.invokevirtual 286), 3, 213, 0) := by decide +kernel
theorem gx215_15 : aF 15 zM215.2.2.2.2.2.2.2 = some (15, .iaload, 1, 0, 0) := by decide +kernel
theorem gx215_16 : aF 16 zM215.2.2.2.2.2.2.2 = some (16, (.invokestatic 293), 3, 212, 0) := by decide +kernel
theorem gx215_19 : aF 19 zM215.2.2.2.2.2.2.2 = some (19, .ireturn, 1, 0, 0) := by decide +kernel
theorem gx216_0 : aF 0 zM216.2.2.2.2.2.2.2 = some (0, (.aload_n 0), 1, 0, 0) := by decide +kernel
theorem gx216_1 : aF 1 zM216.2.2.2.2.2.2.2 = some (1, (.getfield 37), 3, 12, 13) := by decide +kernel
theorem gx216_4 : aF 4 zM216.2.2.2.2.2.2.2 = some (4, (.iload_n 1), 1, 0, 0) := by decide +kernel
theorem gx216_5 : aF 5 zM216.2.2.2.2.2.2.2 = some (5, .iaload, 1, 0, 0) := by decide +kernel
theorem gx216_6 : aF 6 zM216.2.2.2.2.2.2.2 = some (6, (.aload_n 0), 1, 0, 0) := by decide +kernel
theorem gx216_7 : aF 7 zM216.2.2.2.2.2.2.2 = some (7, (.getfield 37), 3, 12, 13) := by decide +kernel
theorem gx216_10 : aF 10 zM216.2.2.2.2.2.2.2 = some (10, (.aload_n 0), 1, 0, 0) := by decide +kernel
theorem gx216_11 : aF 11 zM216.2.2.2.2.2.2.2 = some (11, (.iload_n 1), 1, 0, 0) := by decide +kernel
theorem gx216_12 : aF 12 zM216.2.2.2.2.2.2.2 = some (12, (.invokevirtual 286), 3, 213, 0) := by decide +kernel
theorem gx216_15 : aF 15 zM216.2.2.2.2.2.2.2 = some (15, .iaload, 1, 0, 0) := by decide +kernel
theorem gx216_16 : aF 16 zM216.2.2.2.2.2.2.2 = some (16, (.invokestatic 289), 3, 211, 0) := by decide +kernel
theorem gx216_19 : aF 19 zM216.2.2.2.2.2.2.2 = some (19, .ireturn, 1, 0, 0) := by decide +kernel
theorem gx217_0 : aF 0 zM217.2.2.2.2.2.2.2 = some (0, (.aload_n 0), 1, 0, 0) := by decide +kernel
theorem gx217_1 : aF 1 zM217.2.2.2.2.2.2.2 = some (1, (.getfield 37), 3, 12, 13) := by decide +kernel
theorem gx217_4 : aF 4 zM217.2.2.2.2.2.2.2 = some (4, (.iload_n 1), 1, 0, 0) := by decide +kernel
theorem gx217_5 : aF 5 zM217.2.2.2.2.2.2.2 = some (5, .iaload, 1, 0, 0) := by decide +kernel
theorem gx217_6 : aF 6 zM217.2.2.2.2.2.2.2 = some (6, (.aload_n 0), 1, 0, 0) := by decide +kernel
theorem gx217_7 : aF 7 zM217.2.2.2.2.2.2.2 = some (7, (.getfield 37), 3, 12, 13) := by decide +kernel
theorem gx217_10 : aF 10 zM217.2.2.2.2.2.2.2 = some (10, (.aload_n 0), 1, 0, 0) := by decide +kernel
theorem gx217_11 : aF 11 zM217.2.2.2.2.2.2.2 = some (11, (.iload_n 1), 1, 0, 0) := by decide +kernel
theorem gx217_12 : aF 12 zM217.2.2.2.2.2.2.2 = some (12, (.invokevirtual 286), 3, 213, 0) := by decide +kernel
theorem gx217_15 : aF 15 zM217.2.2.2.2.2.2.2 = some (15, .iaload, 1, 0, 0) := by decide +kernel
theorem gx217_16 : aF 16 zM217.2.2.2.2.2.2.2 = some (16, (.invokestatic 293), 3, 212, 0) := by decide +kernel
theorem gx217_19 : aF 19 zM217.2.2.2.2.2.2.2 = some (19, .ireturn, 1, 0, 0) := by decide +kernel
theorem gx89_0 : aF 0 zM89.2.2.2.2.2.2.2 = some (0, (.aload_n 0), 1, 0, 0) := by decide +kernel
theorem gx89_1 : aF 1 zM89.2.2.2.2.2.2.2 = some (1, (.getfield 18), 3, 7, 2) := by decide +kernel
theorem gx89_4 : aF 4 zM89.2.2.2.2.2.2.2 = some (4, (.iconst 4), 1, 0, 0) := by decide +kernel
theorem gx89_5 : aF 5 zM89.2.2.2.2.2.2.2 = some (5, (.if_icmp .lt 12), 3, 17, 0) := by decide +kernel
theorem gx89_17 : aF 17 zM89.2.2.2.2.2.2.2 = some (17, (.iconst 0), 1, 0, 0) := by decide +kernel
theorem gx89_18 : aF 18 zM89.2.2.2.2.2.2.2 = some (18, .ireturn, 1, 0, 0) := by decide +kernel
theorem gx89_8 : aF 8 zM89.2.2.2.2.2.2.2 = some (8, (.aload_n 0), 1, 0, 0) := by decide +kernel
theorem gx89_9 : aF 9 zM89.2.2.2.2.2.2.2 = some (9, (.getfield 18), 3, 7, 2) := by decide +kernel
theorem gx89_12 : aF 12 zM89.2.2.2.2.2.2.2 = some (12, (.iconst 2), 1, 0, 0) := by decide +kernel
theorem gx89_13 : aF 13 zM89.2.2.2.2.2.2.2 = some (13, .irem, 1, 0, 0) := by decide +kernel
theorem gx89_14 : aF 14 zM89.2.2.2.2.2.2.2 = some (14, (.ifCond .eq 5), 3, 19, 0) := by decide +kernel
theorem gx89_19 : aF 19 zM89.2.2.2.2.2.2.2 = some (19, (.iconst 0), 1, 0, 0) := by decide +kernel
theorem gx89_20 : aF 20 zM89.2.2.2.2.2.2.2 = some (20, (.istore_n 1), 1, 0, 0) := by decide +kernel
theorem gx89_21 : aF 21 zM89.2.2.2.2.2.2.2 = some (21, (.iload_n 1), 1, 0, 0) := by decide +kernel
theorem gx89_22 : aF 22 zM89.2.2.2.2.2.2.2 = some (22, (.aload_n 0), 1, 0, 0) := by decide +kernel
theorem gx89_23 : aF 23 zM89.2.2.2.2.2.2.2 = some (23, (.getfield 18), 3, 7, 2) := by decide +kernel
theorem gx89_26 : aF 26 zM89.2.2.2.2.2.2.2 = some (26, (.if_icmp .ge 66), 3, 92, 0) := by decide +kernel
theorem gx89_92 : aF 92 zM89.2.2.2.2.2.2.2 = some (92, (.iconst 1), 1, 0, 0) := by decide +kernel
theorem gx89_93 : aF 93 zM89.2.2.2.2.2.2.2 = some (93, .ireturn, 1, 0, 0) := by decide +kernel
theorem gx89_29 : aF 29 zM89.2.2.2.2.2.2.2 = some (29, (.aload_n 0), 1, 0, 0) := by decide +kernel
theorem gx89_30 : aF 30 zM89.2.2.2.2.2.2.2 = some (30, (.iload_n 1), 1, 0, 0) := by decide +kernel
theorem gx89_31 : aF 31 zM89.2.2.2.2.2.2.2 = some (31, (.invokevirtual 22), 3, 93, 0) := by decide +kernel
theorem gx89_34 : aF 34 zM89.2.2.2.2.2.2.2 = some (34, (.ifCond .ne 5), 3, 39, 0) := by decide +kernel
theorem gx89_39 : aF 39 zM89.2.2.2.2.2.2.2 = some (39, (.iload_n 1), 1, 0, 0) := by decide +kernel
theorem gx89_40 : aF 40 zM89.2.2.2.2.2.2.2 = some (40, (.iconst 1), 1, 0, 0) := by decide +kernel
theorem gx89_41 : aF 41 zM89.2.2.2.2.2.2.2 = some (41, .iadd, 1, 0, 0) := by decide +kernel
theorem gx89_42 : aF 42 zM89.2.2.2.2.2.2.2 = some (42, (.istore_n 2), 1, 0, 0) := by decide +kernel
theorem gx89_37 : aF 37 zM89.2.2.2.2.2.2.2 = some (37, (.iconst 0), 1, 0, 0) := by decide +kernel
theorem gx89_38 : aF 38 zM89.2.2.2.2.2.2.2 = some (38, .ireturn, 1, 0, 0) := by decide +kernel
theorem gx89_43 : aF 43 zM89.2.2.2.2.2.2.2 = some (43, (.iload_n 2), 1, 0, 0) := by decide +kernel
theorem gx89_44 : aF 44 zM89.2.2.2.2.2.2.2 = some (44, (.aload_n 0), 1, 0, 0) := by decide +kernel
theorem gx89_45 : aF 45 zM89.2.2.2.2.2.2.2 = some (45, (.getfield 18), 3, 7, 2) := by decide +kernel
theorem gx89_48 : aF 48 zM89.2.2.2.2.2.2.2 = some (48, (.if_icmp .ge 38), 3, 86, 0) := by decide +kernel
theorem gx89_86 : aF 86 zM89.2.2.2.2.2.2.2 = some (86, (.iinc 1 1), 3, 0, 0) := by decide +kernel
theorem gx89_89 : aF 89 zM89.2.2.2.2.2.2.2 = some (89, (.goto (-68)), 3, 21, 0) := by decide +kernel
theorem gx89_51 : aF 51 zM89.2.2.2.2.2.2.2 = some (51, (.aload_n 0), 1, 0, 0) := by decide +kernel
theorem gx89_52 : aF 52 zM89.2.2.2.2.2.2.2 = some (52, (.iload_n 1), 1, 0, 0) := by decide +kernel
theorem gx89_53 : aF 53 zM89.2.2.2.2.2.2.2 = some (53, (.invokevirtual 26), 3, 92, 0) := by decide +kernel
theorem gx89_56 : aF 56 zM89.2.2.2.2.2.2.2 = some (56, (.iload_n 2), 1, 0, 0) := by decide +kernel
theorem gx89_57 : aF 57 zM89.2.2.2.2.2.2.2 = some (57, (.if_icmp .eq 23), 3, 80, 0) := by decide +kernel
theorem gx89_80 : aF 80 zM89.2.2.2.2.2.2.2 = some (80, (.iinc 2 1), 3, 0, 0) := by decide +kernel
theorem gx89_83 : aF 83 zM89.2.2.2.2.2.2.2 = some (83, (.goto (-40)), 3, 43, 0) := by decide +kernel
theorem gx89_60 : aF 60 zM89.2.2.2.2.2.2.2 = some (60, (.aload_n 0), 1, 0, 0) := by decide +kernel
theorem gx89_61 : aF 61 zM89.2.2.2.2.2.2.2 = some (61, (.iload_n 2), 1, 0, 0) := by decide +kernel
theorem gx89_62 : aF 62 zM89.2.2.2.2.2.2.2 = some (62, (.invokevirtual 26), 3, 92, 0) := by decide +kernel
theorem gx89_65 : aF 65 zM89.2.2.2.2.2.2.2 = some (65, (.iload_n 1), 1, 0, 0) := by decide +kernel
theorem gx89_66 : aF 66 zM89.2.2.2.2.2.2.2 = some (66, (.if_icmp .eq 14), 3, 80, 0) := by decide +kernel
theorem gx89_69 : aF 69 zM89.2.2.2.2.2.2.2 = some (69, (.aload_n 0), 1, 0, 0) := by decide +kernel
theorem gx89_70 : aF 70 zM89.2.2.2.2.2.2.2 = some (70, (.iload_n 1), 1, 0, 0) := by decide +kernel
theorem gx89_71 : aF 71 zM89.2.2.2.2.2.2.2 = some (71, (.iload_n 2), 1, 0, 0) := by decide +kernel
theorem gx89_72 : aF 72 zM89.2.2.2.2.2.2.2 = some (72, (.invokevirtual 30), 3, 94, 0) := by decide +kernel
theorem gx89_75 : aF 75 zM89.2.2.2.2.2.2.2 = some (75, (.ifCond .eq 5), 3, 80, 0) := by decide +kernel
theorem gx89_78 : aF 78 zM89.2.2.2.2.2.2.2 = some (78, (.iconst 0), 1, 0, 0) := by decide +kernel
theorem gx89_79 : aF 79 zM89.2.2.2.2.2.2.2 = some (79, .ireturn, 1, 0, 0) := by decide +kernel
theorem gx218_0 : aF 0 zM218.2.2.2.2.2.2.2 = some (0, (.aload_n 0), 1, 0, 0) := by decide +kernel
theorem gx218_1 : aF 1 zM218.2.2.2.2.2.2.2 = some (1, (.getfield 283), 3, 12, 11) := by decide +kernel
theorem gx218_4 : aF 4 zM218.2.2.2.2.2.2.2 = some (4, (.iconst 4), 1, 0, 0) := by decide +kernel
theorem gx218_5 : aF 5 zM218.2.2.2.2.2.2.2 = some (5, (.if_icmp .lt 13), 3, 18, 0) := by decide +kernel
theorem gx218_18 : aF 18 zM218.2.2.2.2.2.2.2 = some (18, (.iconst 0), 1, 0, 0) := by decide +kernel
theorem gx218_19 : aF 19 zM218.2.2.2.2.2.2.2 = some (19, .ireturn, 1, 0, 0) := by decide +kernel
theorem gx218_8 : aF 8 zM218.2.2.2.2.2.2.2 = some (8, (.aload_n 0), 1, 0, 0) := by decide +kernel
theorem gx218_9 : aF 9 zM218.2.2.2.2.2.2.2 = some (9, (.getfield 283), 3, 12, 11) := by decide +kernel
theorem gx218_12 : aF 12 zM218.2.2.2.2.2.2.2 = some (12, (.iconst 2), 1, 0, 0) := by decide +kernel
theorem gx218_13 : aF 13 zM218.2.2.2.2.2.2.2 = some (13, .irem, 1, 0, 0) := by decide +kernel
theorem gx218_14 : aF 14 zM218.2.2.2.2.2.2.2 = some (14, (.iconst 1), 1, 0, 0) := by decide +kernel
theorem gx218_15 : aF 15 zM218.2.2.2.2.2.2.2 = some (15, (.if_icmp .ne 5), 3, 20, 0) := by decide +kernel
theorem gx218_20 : aF 20 zM218.2.2.2.2.2.2.2 = some (20, (.iconst 0), 1, 0, 0) := by decide +kernel
theorem gx218_21 : aF 21 zM218.2.2.2.2.2.2.2 = some (21, (.istore_n 1), 1, 0, 0) := by decide +kernel
theorem gx218_22 : aF 22 zM218.2.2.2.2.2.2.2 = some (22, (.iload_n 1), 1, 0, 0) := by decide +kernel
theorem gx218_23 : aF 23 zM218.2.2.2.2.2.2.2 = some (23, (.aload_n 0), 1, 0, 0) := by decide +kernel
theorem gx218_24 : aF 24 zM218.2.2.2.2.2.2.2 = some (24, (.getfield 283), 3, 12, 11) := by decide +kernel
theorem gx218_27 : aF 27 zM218.2.2.2.2.2.2.2 = some (27, (.if_icmp .ge 92), 3, 119, 0) := by decide +kernel
theorem gx218_119 : aF 119 zM218.2.2.2.2.2.2.2 = some (119, (.iconst 0), 1, 0, 0) := by decide +kernel
theorem gx218_120 : aF 120 zM218.2.2.2.2.2.2.2 = some (120, (.istore_n 1), 1, 0, 0) := by decide +kernel
theorem gx218_30 : aF 30 zM218.2.2.2.2.2.2.2 = some (30, (.aload_n 0), 1, 0, 0) := by decide +kernel
theorem gx218_31 : aF 31 zM218.2.2.2.2.2.2.2 = some (31, (.iload_n 1), 1, 0, 0) := by decide +kernel
theorem gx218_32 : aF 32 zM218.2.2.2.2.2.2.2 = some (32, (.invokevirtual 296), 3, 216, 0) := by decide +kernel
theorem gx218_35 : aF 35 zM218.2.2.2.2.2.2.2 = some (35, (.aload_n 0), 1, 0, 0) := by decide +kernel
theorem gx218_36 : aF 36 zM218.2.2.2.2.2.2.2 = some (36, (.iload_n 1), 1, 0, 0) := by decide +kernel
theorem gx218_37 : aF 37 zM218.2.2.2.2.2.2.2 = some (37, (.invokevirtual 299), 3, 217, 0) := by decide +kernel
theorem gx218_40 : aF 40 zM218.2.2.2.2.2.2.2 = some (40, (.if_icmp .ne 20), 3, 60, 0) := by decide +kernel
theorem gx218_60 : aF 60 zM218.2.2.2.2.2.2.2 = some (60, (.iconst 0), 1, 0, 0) := by decide +kernel
theorem gx218_61 : aF 61 zM218.2.2.2.2.2.2.2 = some (61, (.istore_n 2), 1, 0, 0) := by decide +kernel
theorem gx218_62 : aF 62 zM218.2.2.2.2.2.2.2 = some (62, (.aload_n 0), 1, 0, 0) := by decide +kernel
theorem gx218_63 : aF 63 zM218.2.2.2.2.2.2.2 = some (63, (.iload_n 1), 1, 0, 0) := by decide +kernel
theorem gx218_64 : aF 64 zM218.2.2.2.2.2.2.2 = some (64, (.invokevirtual 302), 3, 214, 0) := by decide +kernel
theorem gx218_67 : aF 67 zM218.2.2.2.2.2.2.2 = some (67, (.aload_n 0), 1, 0, 0) := by decide +kernel
theorem gx218_68 : aF 68 zM218.2.2.2.2.2.2.2 = some (68, (.iload_n 1), 1, 0, 0) := by decide +kernel
theorem gx218_69 : aF 69 zM218.2.2.2.2.2.2.2 = some (69, (.invokevirtual 305), 3, 215, 0) := by decide +kernel
theorem gx218_72 : aF 72 zM218.2.2.2.2.2.2.2 = some (72, (.if_icmp .ne 20), 3, 92, 0) := by decide +kernel
theorem gx218_92 : aF 92 zM218.2.2.2.2.2.2.2 = some (92, (.iconst 0), 1, 0, 0) := by decide +kernel
theorem gx218_93 : aF 93 zM218.2.2.2.2.2.2.2 = some (93, (.istore_n 3), 1, 0, 0) := by decide +kernel
theorem gx218_94 : aF 94 zM218.2.2.2.2.2.2.2 = some (94, (.iload_n 1), 1, 0, 0) := by decide +kernel
theorem gx218_95 : aF 95 zM218.2.2.2.2.2.2.2 = some (95, (.iconst 2), 1, 0, 0) := by decide +kernel
theorem gx218_96 : aF 96 zM218.2.2.2.2.2.2.2 = some (96, .irem, 1, 0, 0) := by decide +kernel
theorem gx218_97 : aF 97 zM218.2.2.2.2.2.2.2 = some (97, (.ifCond .ne 10), 3, 107, 0) := by decide +kernel
theorem gx218_107 : aF 107 zM218.2.2.2.2.2.2.2 = some (107, (.iload_n 3), 1, 0, 0) := by decide +kernel
theorem gx218_108 : aF 108 zM218.2.2.2.2.2.2.2 = some (108, (.ifCond .ne 5), 3, 113, 0) := by decide +kernel
theorem gx218_111 : aF 111 zM218.2.2.2.2.2.2.2 = some (111, (.iconst 0), 1, 0, 0) := by decide +kernel
theorem gx218_112 : aF 112 zM218.2.2.2.2.2.2.2 = some (112, .ireturn, 1, 0, 0) := by decide +kernel
theorem gx218_100 : aF 100 zM218.2.2.2.2.2.2.2 = some (100, (.iload_n 2), 1, 0, 0) := by decide +kernel
theorem gx218_101 : aF 101 zM218.2.2.2.2.2.2.2 = some (101, (.ifCond .ne 12), 3, 113, 0) := by decide +kernel
theorem gx218_104 : aF 104 zM218.2.2.2.2.2.2.2 = some (104, (.goto 7), 3, 111, 0) := by decide +kernel
theorem gx218_75 : aF 75 zM218.2.2.2.2.2.2.2 = some (75, (.aload_n 0), 1, 0, 0) := by decide +kernel
theorem gx218_76 : aF 76 zM218.2.2.2.2.2.2.2 = some (76, (.iload_n 1), 1, 0, 0) := by decide +kernel
theorem gx218_77 : aF 77 zM218.2.2.2.2.2.2.2 = some (77, (.invokevirtual 296), 3, 216, 0) := by decide +kernel
theorem gx218_80 : aF 80 zM218.2.2.2.2.2.2.2 = some (80, (.aload_n 0), 1, 0, 0) := by decide +kernel
theorem gx218_81 : aF 81 zM218.2.2.2.2.2.2.2 = some (81, (.iload_n 1), 1, 0, 0) := by decide +kernel
theorem gx218_82 : aF 82 zM218.2.2.2.2.2.2.2 = some (82, (.invokevirtual 299), 3, 217, 0) := by decide +kernel
theorem gx218_85 : aF 85 zM218.2.2.2.2.2.2.2 = some (85, (.if_icmp .ge 7), 3, 92, 0) := by decide +kernel
theorem gx218_88 : aF 88 zM218.2.2.2.2.2.2.2 = some (88, (.iconst 1), 1, 0, 0) := by decide +kernel
theorem gx218_89 : aF 89 zM218.2.2.2.2.2.2.2 = some (89, (.goto 4), 3, 93, 0) := by decide +kernel
theorem gx218_113 : aF 113 zM218.2.2.2.2.2.2.2 = some (113, (.iinc 1 1), 3, 0, 0) := by decide +kernel
theorem gx218_116 : aF 116 zM218.2.2.2.2.2.2.2 = some (116, (.goto (-94)), 3, 22, 0) := by decide +kernel
theorem gx218_43 : aF 43 zM218.2.2.2.2.2.2.2 = some (43, (.aload_n 0), 1, 0, 0) := by decide +kernel
theorem gx218_44 : aF 44 zM218.2.2.2.2.2.2.2 = some (44, (.iload_n 1), 1, 0, 0) := by decide +kernel
theorem gx218_45 : aF 45 zM218.2.2.2.2.2.2.2 = some (45, (.invokevirtual 302), 3, 214, 0) := by decide +kernel
theorem gx218_48 : aF 48 zM218.2.2.2.2.2.2.2 = some (48, (.aload_n 0), 1, 0, 0) := by decide +kernel
theorem gx218_49 : aF 49 zM218.2.2.2.2.2.2.2 = some (49, (.iload_n 1), 1, 0, 0) := by decide +kernel
theorem gx218_50 : aF 50 zM218.2.2.2.2.2.2.2 = some (50, (.invokevirtual 305), 3, 215, 0) := by decide +kernel
theorem gx218_53 : aF 53 zM218.2.2.2.2.2.2.2 = some (53, (.if_icmp .ge 7), 3, 60, 0) := by decide +kernel
theorem gx218_56 : aF 56 zM218.2.2.2.2.2.2.2 = some (56, (.iconst 1), 1, 0, 0) := by decide +kernel
theorem gx218_57 : aF 57 zM218.2.2.2.2.2.2.2 = some (57, (.goto 4), 3, 61, 0) := by decide +kernel
theorem gx218_121 : aF 121 zM218.2.2.2.2.2.2.2 = some (121, (.iload_n 1), 1, 0, 0) := by decide +kernel
theorem gx218_122 : aF 122 zM218.2.2.2.2.2.2.2 = some (122, (.aload_n 0), 1, 0, 0) := by decide +kernel
theorem gx218_123 : aF 123 zM218.2.2.2.2.2.2.2 = some (123, (.getfield 283), 3, 12, 11) := by decide +kernel
theorem gx218_126 : aF 126 zM218.2.2.2.2.2.2.2 = some (126, (.if_icmp .ge 98), 3, 224, 0) := by decide +kernel
theorem gx218_224 : aF 224 zM218.2.2.2.2.2.2.2 = some (224, (.iconst 1), 1, 0, 0) := by decide +kernel
theorem gx218_225 : aF 225 zM218.2.2.2.2.2.2.2 = some (225, .ireturn, 1, 0, 0) := by decide +kernel
theorem gx218_129 : aF 129 zM218.2.2.2.2.2.2.2 = some (129, (.iload_n 1), 1, 0, 0) := by decide +kernel
theorem gx218_130 : aF 130 zM218.2.2.2.2.2.2.2 = some (130, (.iconst 2), 1, 0, 0) := by decide +kernel
theorem gx218_131 : aF 131 zM218.2.2.2.2.2.2.2 = some (131, .iadd, 1, 0, 0) := by decide +kernel
theorem gx218_132 : aF 132 zM218.2.2.2.2.2.2.2 = some (132, (.istore_n 2), 1, 0, 0) := by decide +kernel
theorem gx218_133 : aF 133 zM218.2.2.2.2.2.2.2 = some (133, (.iload_n 2), 1, 0, 0) := by decide +kernel
theorem gx218_134 : aF 134 zM218.2.2.2.2.2.2.2 = some (134, (.aload_n 0), 1, 0, 0) := by decide +kernel
theorem gx218_135 : aF 135 zM218.2.2.2.2.2.2.2 = some (135, (.getfield 283), 3, 12, 11) := by decide +kernel
theorem gx218_138 : aF 138 zM218.2.2.2.2.2.2.2 = some (138, (.if_icmp .ge 80), 3, 218, 0) := by decide +kernel
theorem gx218_218 : aF 218 zM218.2.2.2.2.2.2.2 = some (218, (.iinc 1 1), 3, 0, 0) := by decide +kernel
theorem gx218_221 : aF 221 zM218.2.2.2.2.2.2.2 = some (221, (.goto (-100)), 3, 121, 0) := by decide +kernel
theorem gx218_141 : aF 141 zM218.2.2.2.2.2.2.2 = some (141, (.iload_n 1), 1, 0, 0) := by decide +kernel
theorem gx218_142 : aF 142 zM218.2.2.2.2.2.2.2 = some (142, (.ifCond .ne 16), 3, 158, 0) := by decide +kernel
theorem gx218_158 : aF 158 zM218.2.2.2.2.2.2.2 = some (158, (.aload_n 0), 1, 0, 0) := by decide +kernel
theorem gx218_159 : aF 159 zM218.2.2.2.2.2.2.2 = some (159, (.iload_n 1), 1, 0, 0) := by decide +kernel
theorem gx218_160 : aF 160 zM218.2.2.2.2.2.2.2 = some (160, (.invokevirtual 302), 3, 214, 0) := by decide +kernel
theorem gx218_163 : aF 163 zM218.2.2.2.2.2.2.2 = some (163, (.aload_n 0), 1, 0, 0) := by decide +kernel
theorem gx218_164 : aF 164 zM218.2.2.2.2.2.2.2 = some (164, (.iload_n 2), 1, 0, 0) := by decide +kernel
theorem gx218_165 : aF 165 zM218.2.2.2.2.2.2.2 = some (165, (.invokevirtual 305), 3, 215, 0) := by decide +kernel
theorem gx218_168 : aF 168 zM218.2.2.2.2.2.2.2 = some (168, (.if_icmp .gt 44), 3, 212, 0) := by decide +kernel
theorem gx218_212 : aF 212 zM218.2.2.2.2.2.2.2 = some (212, (.iinc 2 1), 3, 0, 0) := by decide +kernel
theorem gx218_215 : aF 215 zM218.2.2.2.2.2.2.2 = some (215, (.goto (-82)), 3, 133, 0) := by decide +kernel
theorem gx218_171 : aF 171 zM218.2.2.2.2.2.2.2 = some (171, (.aload_n 0), 1, 0, 0) := by decide +kernel
theorem gx218_172 : aF 172 zM218.2.2.2.2.2.2.2 = some (172, (.iload_n 2), 1, 0, 0) := by decide +kernel
theorem gx218_173 : aF 173 zM218.2.2.2.2.2.2.2 = some (173, (.invokevirtual 302), 3, 214, 0) := by decide +kernel
theorem gx218_176 : aF 176 zM218.2.2.2.2.2.2.2 = some (176, (.aload_n 0), 1, 0, 0) := by decide +kernel
theorem gx218_177 : aF 177 zM218.2.2.2.2.2.2.2 = some (177, (.iload_n 1), 1, 0, 0) := by decide +kernel
theorem gx218_178 : aF 178 zM218.2.2.2.2.2.2.2 = some (178, (.invokevirtual 305), 3, 215, 0) := by decide +kernel
theorem gx218_181 : aF 181 zM218.2.2.2.2.2.2.2 = some (181, (.if_icmp .gt 31), 3, 212, 0) := by decide +kernel
theorem gx218_184 : aF 184 zM218.2.2.2.2.2.2.2 = some (184, (.aload_n 0), 1, 0, 0) := by decide +kernel
theorem gx218_185 : aF 185 zM218.2.2.2.2.2.2.2 = some (185, (.iload_n 1), 1, 0, 0) := by decide +kernel
theorem gx218_186 : aF 186 zM218.2.2.2.2.2.2.2 = some (186, (.invokevirtual 296), 3, 216, 0) := by decide +kernel
theorem gx218_189 : aF 189 zM218.2.2.2.2.2.2.2 = some (189, (.aload_n 0), 1, 0, 0) := by decide +kernel
theorem gx218_190 : aF 190 zM218.2.2.2.2.2.2.2 = some (190, (.iload_n 2), 1, 0, 0) := by decide +kernel
theorem gx218_191 : aF 191 zM218.2.2.2.2.2.2.2 = some (191, (.invokevirtual 299), 3, 217, 0) := by decide +kernel
theorem gx218_194 : aF 194 zM218.2.2.2.2.2.2.2 = some (194, (.if_icmp .gt 18), 3, 212, 0) := by decide +kernel
theorem gx218_197 : aF 197 zM218.2.2.2.2.2.2.2 = some (197, (.aload_n 0), 1, 0, 0) := by decide +kernel
theorem gx218_198 : aF 198 zM218.2.2.2.2.2.2.2 = some (198, (.iload_n 2), 1, 0, 0) := by decide +kernel
theorem gx218_199 : aF 199 zM218.2.2.2.2.2.2.2 = some (199, (.invokevirtual 296), 3, 216, 0) := by decide +kernel
theorem gx218_202 : aF 202 zM218.2.2.2.2.2.2.2 = some (202, (.aload_n 0), 1, 0, 0) := by decide +kernel
theorem gx218_203 : aF 203 zM218.2.2.2.2.2.2.2 = some (203, (.iload_n 1), 1, 0, 0) := by decide +kernel
theorem gx218_204 : aF 204 zM218.2.2.2.2.2.2.2 = some (204, (.invokevirtual 299), 3, 217, 0) := by decide +kernel
theorem gx218_207 : aF 207 zM218.2.2.2.2.2.2.2 = some (207, (.if_icmp .gt 5), 3, 212, 0) := by decide +kernel
theorem gx218_210 : aF 210 zM218.2.2.2.2.2.2.2 = some (210, (.iconst 0), 1, 0, 0) := by decide +kernel
theorem gx218_211 : aF 211 zM218.2.2.2.2.2.2.2 = some (211, .ireturn, 1, 0, 0) := by decide +kernel
theorem gx218_145 : aF 145 zM218.2.2.2.2.2.2.2 = some (145, (.iload_n 2), 1, 0, 0) := by decide +kernel
theorem gx218_146 : aF 146 zM218.2.2.2.2.2.2.2 = some (146, (.aload_n 0), 1, 0, 0) := by decide +kernel
theorem gx218_147 : aF 147 zM218.2.2.2.2.2.2.2 = some (147, (.getfield 283), 3, 12, 11) := by decide +kernel
theorem gx218_150 : aF 150 zM218.2.2.2.2.2.2.2 = some (150, (.iconst 1), 1, 0, 0) := by decide +kernel
theorem gx218_151 : aF 151 zM218.2.2.2.2.2.2.2 = some (151, .isub, 1, 0, 0) := by decide +kernel
theorem gx218_152 : aF 152 zM218.2.2.2.2.2.2.2 = some (152, (.if_icmp .ne 6), 3, 158, 0) := by decide +kernel
theorem gx218_155 : aF 155 zM218.2.2.2.2.2.2.2 = some (155, (.goto 57), 3, 212, 0) := by decide +kernel
def cNxt (V : vS) (i : Int) : Int := if w32 (i + 1) < V 13 2 then w32 (i + 1) else 0
def mNxt (V : vS) (i : Int) : Int := iRem (w32 (i + 1)) (V 72 11)
def ovl (a b c d : Int) : Prop := max (min a b) (min c d) ≤ min (max a b) (max c d)
def cWay (V : vS) (i : Int) : Prop := (iRem i 2 = 0 → V 15 i = V 15 (cNxt V i) ∧ V 14 i ≠ V 14 (cNxt V i)) ∧ (iRem i 2 ≠ 0 → V 14 i = V 14 (cNxt V i) ∧ V 15 i ≠ V 15 (cNxt V i))
def cMeet (V : vS) (i j : Int) : Prop := ovl (V 14 i) (V 14 (cNxt V i)) (V 14 j) (V 14 (cNxt V j)) ∧ ovl (V 15 i) (V 15 (cNxt V i)) (V 15 j) (V 15 (cNxt V j))
theorem d92_0 {n : Nat} {X : aX} {h : aH} {P : Int → aH → Prop} {x1 : Int32} {a1 : Int} (S : wS h) (z1 : x1.toInt = a1) (H : ((vw h 13 2 ≤ w32 (a1 + 1) → P 0 h) ∧ (w32 (a1 + 1) < vw h 13 2 → P (w32 (a1 + 1)) h))) : Pt (n + 1) X zM92 0 [some (.ref 13), some (.int x1)] [] h (qI P) := by
  refine pt_1 (fun n d => r_iloadn gx92_0 rfl) ?_
  refine pt_d (pt_iconst gx92_1 (fun v1 h1 => ?_))
  refine pt_d (pt_iadd gx92_2 z1 h1 (fun v2 h2 => ?_))
  refine pt_d (pt_1 (fun n d => r_aloadn gx92_3 rfl) ?_)
  refine pt_d (pt_getI (B := 2) gx92_4 S (fun v3 h3 => ?_))
  refine pt_d (pt_icmp_ge gx92_7 h2 h3 (fun e4 => ?_) (fun e4 => ?_))
  · have H := H.1 e4
    refine pt_d (pt_iconst gx92_16 (fun v5 h5 => ?_))
    exact pt_d (pt_iret gx92_17 ⟨_, rfl, by rw [h5]; exact H⟩)
  · have H := H.2 e4
    refine pt_d (pt_1 (fun n d => r_iloadn gx92_10 rfl) ?_)
    refine pt_d (pt_iconst gx92_11 (fun v6 h6 => ?_))
    refine pt_d (pt_iadd gx92_12 z1 h6 (fun v7 h7 => ?_))
    refine pt_d (pt_1 (fun n d => r_goto gx92_13) ?_)
    exact pt_d (pt_iret gx92_17 ⟨_, rfl, by rw [h7]; exact H⟩)
theorem c_92 {n : Nat} {X : aX} {h : aH} {x1 : Int32} {a1 : Int} (S : wS h) (z1 : x1.toInt = a1) : Pt n X zM92 0 [some (.ref 13), some (.int x1)] [] h (qI (fun y h' => h' = h ∧ y = cNxt (vw h) a1)) := by
  refine pt_d (d92_0 S z1 ?_)
  repeat' (first | (refine And.intro ?_ ?_) | intro _)
  all_goals first
    | rfl
    | exact (bI_t (by omega)).symm
    | exact (bI_f (by omega)).symm
    | exact bI_c (by omega)
    | exact (bI_t (by unfold cNxt; omega)).symm
    | exact (bI_f (by unfold cNxt; omega)).symm
    | exact bI_c (by unfold cNxt; omega)
    | exact (bI_t (by unfold cNxt; grind)).symm
    | exact (bI_f (by unfold cNxt; grind)).symm
    | exact bI_c (by unfold cNxt; grind)
    | (unfold cNxt; split <;> first | rfl | omega)
theorem d213_0 {n : Nat} {X : aX} {h : aH} {P : Int → aH → Prop} {x1 : Int32} {a1 : Int} (S : wS h) (z1 : x1.toInt = a1) (H : P (iRem (w32 (a1 + 1)) (vw h 72 11)) h) : Pt (n + 1) X zM213 0 [some (.ref 72), some (.int x1)] [] h (qI P) := by
  refine pt_1 (fun n d => r_iloadn gx213_0 rfl) ?_
  refine pt_d (pt_iconst gx213_1 (fun v1 h1 => ?_))
  refine pt_d (pt_iadd gx213_2 z1 h1 (fun v2 h2 => ?_))
  refine pt_d (pt_1 (fun n d => r_aloadn gx213_3 rfl) ?_)
  refine pt_d (pt_getI (B := 11) gx213_4 S (fun v3 h3 => ?_))
  refine pt_d (pt_irem gx213_7 h2 h3 (fun v4 h4 => ?_))
  exact pt_d (pt_iret gx213_8 ⟨_, rfl, by rw [h4]; exact H⟩)
theorem c_213 {n : Nat} {X : aX} {h : aH} {x1 : Int32} {a1 : Int} (S : wS h) (z1 : x1.toInt = a1) : Pt n X zM213 0 [some (.ref 72), some (.int x1)] [] h (qI (fun y h' => h' = h ∧ y = mNxt (vw h) a1)) := by
  refine pt_d (d213_0 S z1 ?_)
  repeat' (first | (refine And.intro ?_ ?_) | intro _)
  all_goals first
    | rfl
    | exact (bI_t (by omega)).symm
    | exact (bI_f (by omega)).symm
    | exact bI_c (by omega)
    | omega
theorem d95_0 {n : Nat} {X : aX} {h : aH} {P : Int → aH → Prop} {x0 x1 x2 x3 : Int32} {a0 a1 a2 a3 : Int} (S : wS h) (z0 : x0.toInt = a0) (z1 : x1.toInt = a1) (z2 : x2.toInt = a2) (z3 : x3.toInt = a3) (H : ((min (max a0 a1) (max a2 a3) < max (min a0 a1) (min a2 a3) → P 0 h) ∧ (max (min a0 a1) (min a2 a3) ≤ min (max a0 a1) (max a2 a3) → P 1 h))) : Pt (n + 1) X zM95 0 [some (.int x0), some (.int x1), some (.int x2), some (.int x3)] [] h (qI P) := by
  refine pt_1 (fun n d => r_iloadn gx95_0 rfl) ?_
  refine pt_d (pt_1 (fun n d => r_iloadn gx95_1 rfl) ?_)
  refine pt_d (pt_min gx95_2 rfl z0 z1 (fun v1 h1 => ?_))
  refine pt_d (pt_1 (fun n d => r_iloadn gx95_5 rfl) ?_)
  refine pt_d (pt_1 (fun n d => r_iloadn gx95_6 rfl) ?_)
  refine pt_d (pt_min gx95_7 rfl z2 z3 (fun v2 h2 => ?_))
  refine pt_d (pt_max gx95_10 rfl h1 h2 (fun v3 h3 => ?_))
  refine pt_d (pt_1 (fun n d => r_iloadn gx95_13 rfl) ?_)
  refine pt_d (pt_1 (fun n d => r_iloadn gx95_14 rfl) ?_)
  refine pt_d (pt_max gx95_15 rfl z0 z1 (fun v4 h4 => ?_))
  refine pt_d (pt_1 (fun n d => r_iloadn gx95_18 rfl) ?_)
  refine pt_d (pt_1 (fun n d => r_iloadn gx95_19 rfl) ?_)
  refine pt_d (pt_max gx95_20 rfl z2 z3 (fun v5 h5 => ?_))
  refine pt_d (pt_min gx95_23 rfl h4 h5 (fun v6 h6 => ?_))
  refine pt_d (pt_icmp_gt gx95_26 h3 h6 (fun e7 => ?_) (fun e7 => ?_))
  · have H := H.1 e7
    refine pt_d (pt_iconst gx95_33 (fun v8 h8 => ?_))
    exact pt_d (pt_iret gx95_34 ⟨_, rfl, by rw [h8]; exact H⟩)
  · have H := H.2 e7
    refine pt_d (pt_iconst gx95_29 (fun v9 h9 => ?_))
    refine pt_d (pt_1 (fun n d => r_goto gx95_30) ?_)
    exact pt_d (pt_iret gx95_34 ⟨_, rfl, by rw [h9]; exact H⟩)
theorem c_95 {n : Nat} {X : aX} {h : aH} {x0 x1 x2 x3 : Int32} {a0 a1 a2 a3 : Int} (S : wS h) (z0 : x0.toInt = a0) (z1 : x1.toInt = a1) (z2 : x2.toInt = a2) (z3 : x3.toInt = a3) : Pt n X zM95 0 [some (.int x0), some (.int x1), some (.int x2), some (.int x3)] [] h (qI (fun y h' => h' = h ∧ y = bI (ovl a0 a1 a2 a3))) := by
  refine pt_d (d95_0 S z0 z1 z2 z3 ?_)
  repeat' (first | (refine And.intro ?_ ?_) | intro _)
  all_goals first
    | rfl
    | exact (bI_t (by omega)).symm
    | exact (bI_f (by omega)).symm
    | exact bI_c (by omega)
    | exact (bI_t (by unfold ovl; omega)).symm
    | exact (bI_f (by unfold ovl; omega)).symm
    | exact bI_c (by unfold ovl; omega)
    | exact (bI_t (by unfold ovl; grind)).symm
    | exact (bI_f (by unfold ovl; grind)).symm
    | exact bI_c (by unfold ovl; grind)
    | (unfold ovl; split <;> first | rfl | omega)
theorem d93_0 {n : Nat} {X : aX} {h : aH} {P : Int → aH → Prop} {x1 : Int32} {a1 : Int} (S : wS h) (z1 : x1.toInt = a1) (H : (0 ≤ a1 → a1 < 12 → (0 ≤ cNxt (vw h) a1 → cNxt (vw h) a1 < 12 → ((vw h 15 a1 ≠ vw h 15 (cNxt (vw h) a1) → ((vw h 14 a1 ≠ vw h 14 (cNxt (vw h) a1) → ((iRem a1 2 ≠ 0 → P 0 h) ∧ (iRem a1 2 = 0 → P 0 h))) ∧ (vw h 14 a1 = vw h 14 (cNxt (vw h) a1) → ((iRem a1 2 ≠ 0 → P 1 h) ∧ (iRem a1 2 = 0 → P 0 h))))) ∧ (vw h 15 a1 = vw h 15 (cNxt (vw h) a1) → ((vw h 14 a1 ≠ vw h 14 (cNxt (vw h) a1) → ((iRem a1 2 ≠ 0 → P 0 h) ∧ (iRem a1 2 = 0 → P 1 h))) ∧ (vw h 14 a1 = vw h 14 (cNxt (vw h) a1) → ((iRem a1 2 ≠ 0 → P 0 h) ∧ (iRem a1 2 = 0 → P 0 h))))))))) : Pt (n + 1) X zM93 0 [some (.ref 13), some (.int x1), none, none, none] [] h (qI P) := by
  refine pt_1 (fun n d => r_aloadn gx93_0 rfl) ?_
  refine pt_d (pt_1 (fun n d => r_iloadn gx93_1 rfl) ?_)
  refine pt_d (pt_virt (as := [.int x1]) (r := []) gx93_2 rfl (show zmt[92]? = some zM92 from rfl) rfl rfl rfl rfl (c_92 S z1) (kqP (fun v1 h1 => ?_)))
  show Pt _ _ _ 5 _ [.int v1] _ _
  refine pt_d (pt_1 (fun n d => r_istoren (L' := [some (.ref 13), some (.int x1), some (.int v1), none, none]) gx93_5 rfl rfl) ?_)
  refine pt_d (pt_1 (fun n d => r_aloadn gx93_6 rfl) ?_)
  refine pt_d (pt_getR gx93_7 S tr_13_1 ?_)
  refine pt_d (pt_1 (fun n d => r_iloadn gx93_10 rfl) ?_)
  refine pt_d (pt_iald (N' := 12) gx93_11 S tl_15 z1 (fun v3 p3 q3 h3 => ?_))
  have H := H p3 q3
  refine pt_d (pt_1 (fun n d => r_aloadn gx93_12 rfl) ?_)
  refine pt_d (pt_getR gx93_13 S tr_13_1 ?_)
  refine pt_d (pt_1 (fun n d => r_iloadn gx93_16 rfl) ?_)
  refine pt_d (pt_iald (N' := 12) gx93_17 S tl_15 h1 (fun v5 p5 q5 h5 => ?_))
  have H := H p5 q5
  refine pt_d (pt_icmp_ne gx93_18 h3 h5 (fun e6 => ?_) (fun e6 => ?_))
  · have H := H.1 e6
    refine pt_d (pt_iconst gx93_25 (fun v7 h7 => ?_))
    refine pt_d (pt_1 (fun n d => r_istoren (L' := [some (.ref 13), some (.int x1), some (.int v1), some (.int v7), none]) gx93_26 rfl rfl) ?_)
    refine pt_d (pt_1 (fun n d => r_aloadn gx93_27 rfl) ?_)
    refine pt_d (pt_getR gx93_28 S tr_13_0 ?_)
    refine pt_d (pt_1 (fun n d => r_iloadn gx93_31 rfl) ?_)
    refine pt_d (pt_iald (N' := 12) gx93_32 S tl_14 z1 (fun v9 p9 q9 h9 => ?_))
    refine pt_d (pt_1 (fun n d => r_aloadn gx93_33 rfl) ?_)
    refine pt_d (pt_getR gx93_34 S tr_13_0 ?_)
    refine pt_d (pt_1 (fun n d => r_iloadn gx93_37 rfl) ?_)
    refine pt_d (pt_iald (N' := 12) gx93_38 S tl_14 h1 (fun v11 p11 q11 h11 => ?_))
    refine pt_d (pt_icmp_ne gx93_39 h9 h11 (fun e12 => ?_) (fun e12 => ?_))
    · have H := H.1 e12
      refine pt_d (pt_iconst gx93_46 (fun v13 h13 => ?_))
      refine pt_d (pt_1 (fun n d => r_istore (L' := [some (.ref 13), some (.int x1), some (.int v1), some (.int v7), some (.int v13)]) gx93_47 rfl rfl) ?_)
      refine pt_d (pt_1 (fun n d => r_iloadn gx93_49 rfl) ?_)
      refine pt_d (pt_iconst gx93_50 (fun v14 h14 => ?_))
      refine pt_d (pt_irem gx93_51 z1 h14 (fun v15 h15 => ?_))
      refine pt_d (pt_if_ne gx93_52 h15 (fun e16 => ?_) (fun e16 => ?_))
      · have H := H.1 e16
        refine pt_d (pt_1 (fun n d => r_iload gx93_72 rfl) ?_)
        refine pt_d (pt_if_eq gx93_74 h13 (fun e17 => ?_) (fun e17 => absurd e17 (by decide)))
        refine pt_d (pt_iconst gx93_85 (fun v18 h18 => ?_))
        exact pt_d (pt_iret gx93_86 ⟨_, rfl, by rw [h18]; exact H⟩)
      · have H := H.2 e16
        refine pt_d (pt_1 (fun n d => r_iloadn gx93_55 rfl) ?_)
        refine pt_d (pt_if_eq gx93_56 h7 (fun e19 => ?_) (fun e19 => absurd e19 (by decide)))
        refine pt_d (pt_iconst gx93_68 (fun v20 h20 => ?_))
        refine pt_d (pt_1 (fun n d => r_goto gx93_69) ?_)
        exact pt_d (pt_iret gx93_86 ⟨_, rfl, by rw [h20]; exact H⟩)
    · have H := H.2 e12
      refine pt_d (pt_iconst gx93_42 (fun v21 h21 => ?_))
      refine pt_d (pt_1 (fun n d => r_goto gx93_43) ?_)
      refine pt_d (pt_1 (fun n d => r_istore (L' := [some (.ref 13), some (.int x1), some (.int v1), some (.int v7), some (.int v21)]) gx93_47 rfl rfl) ?_)
      refine pt_d (pt_1 (fun n d => r_iloadn gx93_49 rfl) ?_)
      refine pt_d (pt_iconst gx93_50 (fun v22 h22 => ?_))
      refine pt_d (pt_irem gx93_51 z1 h22 (fun v23 h23 => ?_))
      refine pt_d (pt_if_ne gx93_52 h23 (fun e24 => ?_) (fun e24 => ?_))
      · have H := H.1 e24
        refine pt_d (pt_1 (fun n d => r_iload gx93_72 rfl) ?_)
        refine pt_d (pt_if_eq gx93_74 h21 (fun e25 => absurd e25 (by decide)) (fun e25 => ?_))
        refine pt_d (pt_1 (fun n d => r_iloadn gx93_77 rfl) ?_)
        refine pt_d (pt_if_ne gx93_78 h7 (fun e26 => absurd e26 (by decide)) (fun e26 => ?_))
        refine pt_d (pt_iconst gx93_81 (fun v27 h27 => ?_))
        refine pt_d (pt_1 (fun n d => r_goto gx93_82) ?_)
        exact pt_d (pt_iret gx93_86 ⟨_, rfl, by rw [h27]; exact H⟩)
      · have H := H.2 e24
        refine pt_d (pt_1 (fun n d => r_iloadn gx93_55 rfl) ?_)
        refine pt_d (pt_if_eq gx93_56 h7 (fun e28 => ?_) (fun e28 => absurd e28 (by decide)))
        refine pt_d (pt_iconst gx93_68 (fun v29 h29 => ?_))
        refine pt_d (pt_1 (fun n d => r_goto gx93_69) ?_)
        exact pt_d (pt_iret gx93_86 ⟨_, rfl, by rw [h29]; exact H⟩)
  · have H := H.2 e6
    refine pt_d (pt_iconst gx93_21 (fun v30 h30 => ?_))
    refine pt_d (pt_1 (fun n d => r_goto gx93_22) ?_)
    refine pt_d (pt_1 (fun n d => r_istoren (L' := [some (.ref 13), some (.int x1), some (.int v1), some (.int v30), none]) gx93_26 rfl rfl) ?_)
    refine pt_d (pt_1 (fun n d => r_aloadn gx93_27 rfl) ?_)
    refine pt_d (pt_getR gx93_28 S tr_13_0 ?_)
    refine pt_d (pt_1 (fun n d => r_iloadn gx93_31 rfl) ?_)
    refine pt_d (pt_iald (N' := 12) gx93_32 S tl_14 z1 (fun v32 p32 q32 h32 => ?_))
    refine pt_d (pt_1 (fun n d => r_aloadn gx93_33 rfl) ?_)
    refine pt_d (pt_getR gx93_34 S tr_13_0 ?_)
    refine pt_d (pt_1 (fun n d => r_iloadn gx93_37 rfl) ?_)
    refine pt_d (pt_iald (N' := 12) gx93_38 S tl_14 h1 (fun v34 p34 q34 h34 => ?_))
    refine pt_d (pt_icmp_ne gx93_39 h32 h34 (fun e35 => ?_) (fun e35 => ?_))
    · have H := H.1 e35
      refine pt_d (pt_iconst gx93_46 (fun v36 h36 => ?_))
      refine pt_d (pt_1 (fun n d => r_istore (L' := [some (.ref 13), some (.int x1), some (.int v1), some (.int v30), some (.int v36)]) gx93_47 rfl rfl) ?_)
      refine pt_d (pt_1 (fun n d => r_iloadn gx93_49 rfl) ?_)
      refine pt_d (pt_iconst gx93_50 (fun v37 h37 => ?_))
      refine pt_d (pt_irem gx93_51 z1 h37 (fun v38 h38 => ?_))
      refine pt_d (pt_if_ne gx93_52 h38 (fun e39 => ?_) (fun e39 => ?_))
      · have H := H.1 e39
        refine pt_d (pt_1 (fun n d => r_iload gx93_72 rfl) ?_)
        refine pt_d (pt_if_eq gx93_74 h36 (fun e40 => ?_) (fun e40 => absurd e40 (by decide)))
        refine pt_d (pt_iconst gx93_85 (fun v41 h41 => ?_))
        exact pt_d (pt_iret gx93_86 ⟨_, rfl, by rw [h41]; exact H⟩)
      · have H := H.2 e39
        refine pt_d (pt_1 (fun n d => r_iloadn gx93_55 rfl) ?_)
        refine pt_d (pt_if_eq gx93_56 h30 (fun e42 => absurd e42 (by decide)) (fun e42 => ?_))
        refine pt_d (pt_1 (fun n d => r_iload gx93_59 rfl) ?_)
        refine pt_d (pt_if_ne gx93_61 h36 (fun e43 => absurd e43 (by decide)) (fun e43 => ?_))
        refine pt_d (pt_iconst gx93_64 (fun v44 h44 => ?_))
        refine pt_d (pt_1 (fun n d => r_goto gx93_65) ?_)
        exact pt_d (pt_iret gx93_86 ⟨_, rfl, by rw [h44]; exact H⟩)
    · have H := H.2 e35
      refine pt_d (pt_iconst gx93_42 (fun v45 h45 => ?_))
      refine pt_d (pt_1 (fun n d => r_goto gx93_43) ?_)
      refine pt_d (pt_1 (fun n d => r_istore (L' := [some (.ref 13), some (.int x1), some (.int v1), some (.int v30), some (.int v45)]) gx93_47 rfl rfl) ?_)
      refine pt_d (pt_1 (fun n d => r_iloadn gx93_49 rfl) ?_)
      refine pt_d (pt_iconst gx93_50 (fun v46 h46 => ?_))
      refine pt_d (pt_irem gx93_51 z1 h46 (fun v47 h47 => ?_))
      refine pt_d (pt_if_ne gx93_52 h47 (fun e48 => ?_) (fun e48 => ?_))
      · have H := H.1 e48
        refine pt_d (pt_1 (fun n d => r_iload gx93_72 rfl) ?_)
        refine pt_d (pt_if_eq gx93_74 h45 (fun e49 => absurd e49 (by decide)) (fun e49 => ?_))
        refine pt_d (pt_1 (fun n d => r_iloadn gx93_77 rfl) ?_)
        refine pt_d (pt_if_ne gx93_78 h30 (fun e50 => ?_) (fun e50 => absurd e50 (by decide)))
        refine pt_d (pt_iconst gx93_85 (fun v51 h51 => ?_))
        exact pt_d (pt_iret gx93_86 ⟨_, rfl, by rw [h51]; exact H⟩)
      · have H := H.2 e48
        refine pt_d (pt_1 (fun n d => r_iloadn gx93_55 rfl) ?_)
        refine pt_d (pt_if_eq gx93_56 h30 (fun e52 => absurd e52 (by decide)) (fun e52 => ?_))
        refine pt_d (pt_1 (fun n d => r_iload gx93_59 rfl) ?_)
        refine pt_d (pt_if_ne gx93_61 h45 (fun e53 => ?_) (fun e53 => absurd e53 (by decide)))
        refine pt_d (pt_iconst gx93_68 (fun v54 h54 => ?_))
        refine pt_d (pt_1 (fun n d => r_goto gx93_69) ?_)
        exact pt_d (pt_iret gx93_86 ⟨_, rfl, by rw [h54]; exact H⟩)
theorem c_93 {n : Nat} {X : aX} {h : aH} {x1 : Int32} {a1 : Int} (S : wS h) (z1 : x1.toInt = a1) : Pt n X zM93 0 [some (.ref 13), some (.int x1), none, none, none] [] h (qI (fun y h' => h' = h ∧ y = bI (cWay (vw h) a1))) := by
  refine pt_d (d93_0 S z1 ?_)
  repeat' (first | (refine And.intro ?_ ?_) | intro _)
  all_goals first
    | rfl
    | exact (bI_t (by omega)).symm
    | exact (bI_f (by omega)).symm
    | exact bI_c (by omega)
    | exact (bI_t (by unfold cWay; omega)).symm
    | exact (bI_f (by unfold cWay; omega)).symm
    | exact bI_c (by unfold cWay; omega)
    | exact (bI_t (by unfold cWay; grind)).symm
    | exact (bI_f (by unfold cWay; grind)).symm
    | exact bI_c (by unfold cWay; grind)
    | (unfold cWay; split <;> first | rfl | omega)
theorem d94_0 {n : Nat} {X : aX} {h : aH} {P : Int → aH → Prop} {x1 x2 : Int32} {a1 a2 : Int} (S : wS h) (z1 : x1.toInt = a1) (z2 : x2.toInt = a2) (H : (0 ≤ a1 → a1 < 12 → (0 ≤ cNxt (vw h) a1 → cNxt (vw h) a1 < 12 → (0 ≤ a2 → a2 < 12 → (0 ≤ cNxt (vw h) a2 → cNxt (vw h) a2 < 12 → ((¬ (ovl (vw h 14 a1) (vw h 14 (cNxt (vw h) a1)) (vw h 14 a2) (vw h 14 (cNxt (vw h) a2))) → P 0 h) ∧ ((ovl (vw h 14 a1) (vw h 14 (cNxt (vw h) a1)) (vw h 14 a2) (vw h 14 (cNxt (vw h) a2))) → ((¬ (ovl (vw h 15 a1) (vw h 15 (cNxt (vw h) a1)) (vw h 15 a2) (vw h 15 (cNxt (vw h) a2))) → P 0 h) ∧ ((ovl (vw h 15 a1) (vw h 15 (cNxt (vw h) a1)) (vw h 15 a2) (vw h 15 (cNxt (vw h) a2))) → P 1 h))))))))) : Pt (n + 1) X zM94 0 [some (.ref 13), some (.int x1), some (.int x2)] [] h (qI P) := by
  refine pt_1 (fun n d => r_aloadn gx94_0 rfl) ?_
  refine pt_d (pt_getR gx94_1 S tr_13_0 ?_)
  refine pt_d (pt_1 (fun n d => r_iloadn gx94_4 rfl) ?_)
  refine pt_d (pt_iald (N' := 12) gx94_5 S tl_14 z1 (fun v2 p2 q2 h2 => ?_))
  have H := H p2 q2
  refine pt_d (pt_1 (fun n d => r_aloadn gx94_6 rfl) ?_)
  refine pt_d (pt_getR gx94_7 S tr_13_0 ?_)
  refine pt_d (pt_1 (fun n d => r_aloadn gx94_10 rfl) ?_)
  refine pt_d (pt_1 (fun n d => r_iloadn gx94_11 rfl) ?_)
  refine pt_d (pt_virt (as := [.int x1]) (r := [.ref 14, .int v2]) gx94_12 rfl (show zmt[92]? = some zM92 from rfl) rfl rfl rfl rfl (c_92 S z1) (kqP (fun v4 h4 => ?_)))
  show Pt _ _ _ 15 _ [.int v4, .ref 14, .int v2] _ _
  refine pt_d (pt_iald (N' := 12) gx94_15 S tl_14 h4 (fun v5 p5 q5 h5 => ?_))
  have H := H p5 q5
  refine pt_d (pt_1 (fun n d => r_aloadn gx94_16 rfl) ?_)
  refine pt_d (pt_getR gx94_17 S tr_13_0 ?_)
  refine pt_d (pt_1 (fun n d => r_iloadn gx94_20 rfl) ?_)
  refine pt_d (pt_iald (N' := 12) gx94_21 S tl_14 z2 (fun v7 p7 q7 h7 => ?_))
  have H := H p7 q7
  refine pt_d (pt_1 (fun n d => r_aloadn gx94_22 rfl) ?_)
  refine pt_d (pt_getR gx94_23 S tr_13_0 ?_)
  refine pt_d (pt_1 (fun n d => r_aloadn gx94_26 rfl) ?_)
  refine pt_d (pt_1 (fun n d => r_iloadn gx94_27 rfl) ?_)
  refine pt_d (pt_virt (as := [.int x2]) (r := [.ref 14, .int v7, .int v5, .int v2]) gx94_28 rfl (show zmt[92]? = some zM92 from rfl) rfl rfl rfl rfl (c_92 S z2) (kqP (fun v9 h9 => ?_)))
  show Pt _ _ _ 31 _ [.int v9, .ref 14, .int v7, .int v5, .int v2] _ _
  refine pt_d (pt_iald (N' := 12) gx94_31 S tl_14 h9 (fun v10 p10 q10 h10 => ?_))
  have H := H p10 q10
  refine pt_d (pt_stat (as := [.int v2, .int v5, .int v7, .int v10]) (r := []) gx94_32 rfl (show zmt[95]? = some zM95 from rfl) rfl rfl rfl rfl (c_95 S h2 h5 h7 h10) (kqP (fun v11 h11 => ?_)))
  show Pt _ _ _ 35 _ [.int v11] _ _
  refine pt_d (pt_ifB_eq gx94_35 h11 (fun e12 => ?_) (fun e12 => ?_))
  · have H := H.1 e12
    refine pt_d (pt_iconst gx94_80 (fun v13 h13 => ?_))
    exact pt_d (pt_iret gx94_81 ⟨_, rfl, by rw [h13]; exact H⟩)
  · have H := H.2 e12
    refine pt_d (pt_1 (fun n d => r_aloadn gx94_38 rfl) ?_)
    refine pt_d (pt_getR gx94_39 S tr_13_1 ?_)
    refine pt_d (pt_1 (fun n d => r_iloadn gx94_42 rfl) ?_)
    refine pt_d (pt_iald (N' := 12) gx94_43 S tl_15 z1 (fun v15 p15 q15 h15 => ?_))
    refine pt_d (pt_1 (fun n d => r_aloadn gx94_44 rfl) ?_)
    refine pt_d (pt_getR gx94_45 S tr_13_1 ?_)
    refine pt_d (pt_1 (fun n d => r_aloadn gx94_48 rfl) ?_)
    refine pt_d (pt_1 (fun n d => r_iloadn gx94_49 rfl) ?_)
    refine pt_d (pt_virt (as := [.int x1]) (r := [.ref 15, .int v15]) gx94_50 rfl (show zmt[92]? = some zM92 from rfl) rfl rfl rfl rfl (c_92 S z1) (kqP (fun v17 h17 => ?_)))
    show Pt _ _ _ 53 _ [.int v17, .ref 15, .int v15] _ _
    refine pt_d (pt_iald (N' := 12) gx94_53 S tl_15 h17 (fun v18 p18 q18 h18 => ?_))
    refine pt_d (pt_1 (fun n d => r_aloadn gx94_54 rfl) ?_)
    refine pt_d (pt_getR gx94_55 S tr_13_1 ?_)
    refine pt_d (pt_1 (fun n d => r_iloadn gx94_58 rfl) ?_)
    refine pt_d (pt_iald (N' := 12) gx94_59 S tl_15 z2 (fun v20 p20 q20 h20 => ?_))
    refine pt_d (pt_1 (fun n d => r_aloadn gx94_60 rfl) ?_)
    refine pt_d (pt_getR gx94_61 S tr_13_1 ?_)
    refine pt_d (pt_1 (fun n d => r_aloadn gx94_64 rfl) ?_)
    refine pt_d (pt_1 (fun n d => r_iloadn gx94_65 rfl) ?_)
    refine pt_d (pt_virt (as := [.int x2]) (r := [.ref 15, .int v20, .int v18, .int v15]) gx94_66 rfl (show zmt[92]? = some zM92 from rfl) rfl rfl rfl rfl (c_92 S z2) (kqP (fun v22 h22 => ?_)))
    show Pt _ _ _ 69 _ [.int v22, .ref 15, .int v20, .int v18, .int v15] _ _
    refine pt_d (pt_iald (N' := 12) gx94_69 S tl_15 h22 (fun v23 p23 q23 h23 => ?_))
    refine pt_d (pt_stat (as := [.int v15, .int v18, .int v20, .int v23]) (r := []) gx94_70 rfl (show zmt[95]? = some zM95 from rfl) rfl rfl rfl rfl (c_95 S h15 h18 h20 h23) (kqP (fun v24 h24 => ?_)))
    show Pt _ _ _ 73 _ [.int v24] _ _
    refine pt_d (pt_ifB_eq gx94_73 h24 (fun e25 => ?_) (fun e25 => ?_))
    · have H := H.1 e25
      refine pt_d (pt_iconst gx94_80 (fun v26 h26 => ?_))
      exact pt_d (pt_iret gx94_81 ⟨_, rfl, by rw [h26]; exact H⟩)
    · have H := H.2 e25
      refine pt_d (pt_iconst gx94_76 (fun v27 h27 => ?_))
      refine pt_d (pt_1 (fun n d => r_goto gx94_77) ?_)
      exact pt_d (pt_iret gx94_81 ⟨_, rfl, by rw [h27]; exact H⟩)
theorem c_94 {n : Nat} {X : aX} {h : aH} {x1 x2 : Int32} {a1 a2 : Int} (S : wS h) (z1 : x1.toInt = a1) (z2 : x2.toInt = a2) : Pt n X zM94 0 [some (.ref 13), some (.int x1), some (.int x2)] [] h (qI (fun y h' => h' = h ∧ y = bI (cMeet (vw h) a1 a2))) := by
  refine pt_d (d94_0 S z1 z2 ?_)
  repeat' (first | (refine And.intro ?_ ?_) | intro _)
  all_goals first
    | rfl
    | exact (bI_t (by omega)).symm
    | exact (bI_f (by omega)).symm
    | exact bI_c (by omega)
    | exact (bI_t (by unfold cMeet; omega)).symm
    | exact (bI_f (by unfold cMeet; omega)).symm
    | exact bI_c (by unfold cMeet; omega)
    | exact (bI_t (by unfold cMeet; grind)).symm
    | exact (bI_f (by unfold cMeet; grind)).symm
    | exact bI_c (by unfold cMeet; grind)
    | (unfold cMeet; split <;> first | rfl | omega)
theorem d214_0 {n : Nat} {X : aX} {h : aH} {P : Int → aH → Prop} {x1 : Int32} {a1 : Int} (S : wS h) (z1 : x1.toInt = a1) (H : (0 ≤ a1 → a1 < 12 → (0 ≤ mNxt (vw h) a1 → mNxt (vw h) a1 < 12 → P (min (vw h 81 a1) (vw h 81 (mNxt (vw h) a1))) h))) : Pt (n + 1) X zM214 0 [some (.ref 72), some (.int x1)] [] h (qI P) := by
  refine pt_1 (fun n d => r_aloadn gx214_0 rfl) ?_
  refine pt_d (pt_getR gx214_1 S tr_72_12 ?_)
  refine pt_d (pt_1 (fun n d => r_iloadn gx214_4 rfl) ?_)
  refine pt_d (pt_iald (N' := 12) gx214_5 S tl_81 z1 (fun v2 p2 q2 h2 => ?_))
  have H := H p2 q2
  refine pt_d (pt_1 (fun n d => r_aloadn gx214_6 rfl) ?_)
  refine pt_d (pt_getR gx214_7 S tr_72_12 ?_)
  refine pt_d (pt_1 (fun n d => r_aloadn gx214_10 rfl) ?_)
  refine pt_d (pt_1 (fun n d => r_iloadn gx214_11 rfl) ?_)
  refine pt_d (pt_virt (as := [.int x1]) (r := [.ref 81, .int v2]) gx214_12 rfl (show zmt[213]? = some zM213 from rfl) rfl rfl rfl rfl (c_213 S z1) (kqP (fun v4 h4 => ?_)))
  show Pt _ _ _ 15 _ [.int v4, .ref 81, .int v2] _ _
  refine pt_d (pt_iald (N' := 12) gx214_15 S tl_81 h4 (fun v5 p5 q5 h5 => ?_))
  have H := H p5 q5
  refine pt_d (pt_stat (as := [.int v2, .int v5]) (r := []) gx214_16 rfl (show zmt[211]? = some zM211 from rfl) rfl rfl rfl rfl (c_211 S h2 h5) (kqP (fun v6 h6 => ?_)))
  show Pt _ _ _ 19 _ [.int v6] _ _
  exact pt_d (pt_iret gx214_19 ⟨_, rfl, by rw [h6]; exact H⟩)
theorem c_214 {n : Nat} {X : aX} {h : aH} {x1 : Int32} {a1 : Int} (S : wS h) (z1 : x1.toInt = a1) : Pt n X zM214 0 [some (.ref 72), some (.int x1)] [] h (qI (fun y h' => h' = h ∧ y = min ((vw h) 81 a1) ((vw h) 81 (mNxt (vw h) a1)))) := by
  refine pt_d (d214_0 S z1 ?_)
  repeat' (first | (refine And.intro ?_ ?_) | intro _)
  all_goals first
    | rfl
    | exact (bI_t (by omega)).symm
    | exact (bI_f (by omega)).symm
    | exact bI_c (by omega)
    | omega
theorem d215_0 {n : Nat} {X : aX} {h : aH} {P : Int → aH → Prop} {x1 : Int32} {a1 : Int} (S : wS h) (z1 : x1.toInt = a1) (H : (0 ≤ a1 → a1 < 12 → (0 ≤ mNxt (vw h) a1 → mNxt (vw h) a1 < 12 → P (max (vw h 81 a1) (vw h 81 (mNxt (vw h) a1))) h))) : Pt (n + 1) X zM215 0 [some (.ref 72), some (.int x1)] [] h (qI P) := by
  refine pt_1 (fun n d => r_aloadn gx215_0 rfl) ?_
  refine pt_d (pt_getR gx215_1 S tr_72_12 ?_)
  refine pt_d (pt_1 (fun n d => r_iloadn gx215_4 rfl) ?_)
  refine pt_d (pt_iald (N' := 12) gx215_5 S tl_81 z1 (fun v2 p2 q2 h2 => ?_))
  have H := H p2 q2
  refine pt_d (pt_1 (fun n d => r_aloadn gx215_6 rfl) ?_)
  refine pt_d (pt_getR gx215_7 S tr_72_12 ?_)
  refine pt_d (pt_1 (fun n d => r_aloadn gx215_10 rfl) ?_)
  refine pt_d (pt_1 (fun n d => r_iloadn gx215_11 rfl) ?_)
  refine pt_d (pt_virt (as := [.int x1]) (r := [.ref 81, .int v2]) gx215_12 rfl (show zmt[213]? = some zM213 from rfl) rfl rfl rfl rfl (c_213 S z1) (kqP (fun v4 h4 => ?_)))
  show Pt _ _ _ 15 _ [.int v4, .ref 81, .int v2] _ _
  refine pt_d (pt_iald (N' := 12) gx215_15 S tl_81 h4 (fun v5 p5 q5 h5 => ?_))
  have H := H p5 q5
  refine pt_d (pt_stat (as := [.int v2, .int v5]) (r := []) gx215_16 rfl (show zmt[212]? = some zM212 from rfl) rfl rfl rfl rfl (c_212 S h2 h5) (kqP (fun v6 h6 => ?_)))
  show Pt _ _ _ 19 _ [.int v6] _ _
  exact pt_d (pt_iret gx215_19 ⟨_, rfl, by rw [h6]; exact H⟩)
theorem c_215 {n : Nat} {X : aX} {h : aH} {x1 : Int32} {a1 : Int} (S : wS h) (z1 : x1.toInt = a1) : Pt n X zM215 0 [some (.ref 72), some (.int x1)] [] h (qI (fun y h' => h' = h ∧ y = max ((vw h) 81 a1) ((vw h) 81 (mNxt (vw h) a1)))) := by
  refine pt_d (d215_0 S z1 ?_)
  repeat' (first | (refine And.intro ?_ ?_) | intro _)
  all_goals first
    | rfl
    | exact (bI_t (by omega)).symm
    | exact (bI_f (by omega)).symm
    | exact bI_c (by omega)
    | omega
theorem d216_0 {n : Nat} {X : aX} {h : aH} {P : Int → aH → Prop} {x1 : Int32} {a1 : Int} (S : wS h) (z1 : x1.toInt = a1) (H : (0 ≤ a1 → a1 < 12 → (0 ≤ mNxt (vw h) a1 → mNxt (vw h) a1 < 12 → P (min (vw h 82 a1) (vw h 82 (mNxt (vw h) a1))) h))) : Pt (n + 1) X zM216 0 [some (.ref 72), some (.int x1)] [] h (qI P) := by
  refine pt_1 (fun n d => r_aloadn gx216_0 rfl) ?_
  refine pt_d (pt_getR gx216_1 S tr_72_13 ?_)
  refine pt_d (pt_1 (fun n d => r_iloadn gx216_4 rfl) ?_)
  refine pt_d (pt_iald (N' := 12) gx216_5 S tl_82 z1 (fun v2 p2 q2 h2 => ?_))
  have H := H p2 q2
  refine pt_d (pt_1 (fun n d => r_aloadn gx216_6 rfl) ?_)
  refine pt_d (pt_getR gx216_7 S tr_72_13 ?_)
  refine pt_d (pt_1 (fun n d => r_aloadn gx216_10 rfl) ?_)
  refine pt_d (pt_1 (fun n d => r_iloadn gx216_11 rfl) ?_)
  refine pt_d (pt_virt (as := [.int x1]) (r := [.ref 82, .int v2]) gx216_12 rfl (show zmt[213]? = some zM213 from rfl) rfl rfl rfl rfl (c_213 S z1) (kqP (fun v4 h4 => ?_)))
  show Pt _ _ _ 15 _ [.int v4, .ref 82, .int v2] _ _
  refine pt_d (pt_iald (N' := 12) gx216_15 S tl_82 h4 (fun v5 p5 q5 h5 => ?_))
  have H := H p5 q5
  refine pt_d (pt_stat (as := [.int v2, .int v5]) (r := []) gx216_16 rfl (show zmt[211]? = some zM211 from rfl) rfl rfl rfl rfl (c_211 S h2 h5) (kqP (fun v6 h6 => ?_)))
  show Pt _ _ _ 19 _ [.int v6] _ _
  exact pt_d (pt_iret gx216_19 ⟨_, rfl, by rw [h6]; exact H⟩)
theorem c_216 {n : Nat} {X : aX} {h : aH} {x1 : Int32} {a1 : Int} (S : wS h) (z1 : x1.toInt = a1) : Pt n X zM216 0 [some (.ref 72), some (.int x1)] [] h (qI (fun y h' => h' = h ∧ y = min ((vw h) 82 a1) ((vw h) 82 (mNxt (vw h) a1)))) := by
  refine pt_d (d216_0 S z1 ?_)
  repeat' (first | (refine And.intro ?_ ?_) | intro _)
  all_goals first
    | rfl
    | exact (bI_t (by omega)).symm
    | exact (bI_f (by omega)).symm
    | exact bI_c (by omega)
    | omega
theorem d217_0 {n : Nat} {X : aX} {h : aH} {P : Int → aH → Prop} {x1 : Int32} {a1 : Int} (S : wS h) (z1 : x1.toInt = a1) (H : (0 ≤ a1 → a1 < 12 → (0 ≤ mNxt (vw h) a1 → mNxt (vw h) a1 < 12 → P (max (vw h 82 a1) (vw h 82 (mNxt (vw h) a1))) h))) : Pt (n + 1) X zM217 0 [some (.ref 72), some (.int x1)] [] h (qI P) := by
  refine pt_1 (fun n d => r_aloadn gx217_0 rfl) ?_
  refine pt_d (pt_getR gx217_1 S tr_72_13 ?_)
  refine pt_d (pt_1 (fun n d => r_iloadn gx217_4 rfl) ?_)
  refine pt_d (pt_iald (N' := 12) gx217_5 S tl_82 z1 (fun v2 p2 q2 h2 => ?_))
  have H := H p2 q2
  refine pt_d (pt_1 (fun n d => r_aloadn gx217_6 rfl) ?_)
  refine pt_d (pt_getR gx217_7 S tr_72_13 ?_)
  refine pt_d (pt_1 (fun n d => r_aloadn gx217_10 rfl) ?_)
  refine pt_d (pt_1 (fun n d => r_iloadn gx217_11 rfl) ?_)
  refine pt_d (pt_virt (as := [.int x1]) (r := [.ref 82, .int v2]) gx217_12 rfl (show zmt[213]? = some zM213 from rfl) rfl rfl rfl rfl (c_213 S z1) (kqP (fun v4 h4 => ?_)))
  show Pt _ _ _ 15 _ [.int v4, .ref 82, .int v2] _ _
  refine pt_d (pt_iald (N' := 12) gx217_15 S tl_82 h4 (fun v5 p5 q5 h5 => ?_))
  have H := H p5 q5
  refine pt_d (pt_stat (as := [.int v2, .int v5]) (r := []) gx217_16 rfl (show zmt[212]? = some zM212 from rfl) rfl rfl rfl rfl (c_212 S h2 h5) (kqP (fun v6 h6 => ?_)))
  show Pt _ _ _ 19 _ [.int v6] _ _
  exact pt_d (pt_iret gx217_19 ⟨_, rfl, by rw [h6]; exact H⟩)
theorem c_217 {n : Nat} {X : aX} {h : aH} {x1 : Int32} {a1 : Int} (S : wS h) (z1 : x1.toInt = a1) : Pt n X zM217 0 [some (.ref 72), some (.int x1)] [] h (qI (fun y h' => h' = h ∧ y = max ((vw h) 82 a1) ((vw h) 82 (mNxt (vw h) a1)))) := by
  refine pt_d (d217_0 S z1 ?_)
  repeat' (first | (refine And.intro ?_ ?_) | intro _)
  all_goals first
    | rfl
    | exact (bI_t (by omega)).symm
    | exact (bI_f (by omega)).symm
    | exact bI_c (by omega)
    | omega
theorem d89_0 {n : Nat} {X : aX} {h : aH} {P : Int → aH → Prop} (S : wS h) (H : ((vw h 13 2 < 4 → P 0 h) ∧ (4 ≤ vw h 13 2 → ((iRem (vw h 13 2) 2 = 0 → (∀ (w1 : Int32) (u2_ : Option Value), w1.toInt = 0 → Pt n X zM89 21 [some (.ref 13), some (.int w1), u2_] [] h (qI P))) ∧ (iRem (vw h 13 2) 2 ≠ 0 → P 0 h))))) : Pt (n + 1) X zM89 0 [some (.ref 13), none, none] [] h (qI P) := by
  refine pt_1 (fun n d => r_aloadn gx89_0 rfl) ?_
  refine pt_d (pt_getI (B := 2) gx89_1 S (fun v1 h1 => ?_))
  refine pt_d (pt_iconst gx89_4 (fun v2 h2 => ?_))
  refine pt_d (pt_icmp_lt gx89_5 h1 h2 (fun e3 => ?_) (fun e3 => ?_))
  · have H := H.1 e3
    refine pt_d (pt_iconst gx89_17 (fun v4 h4 => ?_))
    exact pt_d (pt_iret gx89_18 ⟨_, rfl, by rw [h4]; exact H⟩)
  · have H := H.2 e3
    refine pt_d (pt_1 (fun n d => r_aloadn gx89_8 rfl) ?_)
    refine pt_d (pt_getI (B := 2) gx89_9 S (fun v5 h5 => ?_))
    refine pt_d (pt_iconst gx89_12 (fun v6 h6 => ?_))
    refine pt_d (pt_irem gx89_13 h5 h6 (fun v7 h7 => ?_))
    refine pt_d (pt_if_eq gx89_14 h7 (fun e8 => ?_) (fun e8 => ?_))
    · have H := H.1 e8
      refine pt_d (pt_iconst gx89_19 (fun v9 h9 => ?_))
      refine pt_d (pt_1 (fun n d => r_istoren (L' := [some (.ref 13), some (.int v9), none]) gx89_20 rfl rfl) ?_)
      exact H v9 _ h9
    · have H := H.2 e8
      refine pt_d (pt_iconst gx89_17 (fun v10 h10 => ?_))
      exact pt_d (pt_iret gx89_18 ⟨_, rfl, by rw [h10]; exact H⟩)
theorem d89_21 {n : Nat} {X : aX} {h : aH} {P : Int → aH → Prop} {x1 : Int32} {a1 : Int} {u2 : Option Value} (S : wS h) (z1 : x1.toInt = a1) (H : ((vw h 13 2 ≤ a1 → P 1 h) ∧ (a1 < vw h 13 2 → (((cWay (vw h) a1) → (∀ (w2 : Int32), w2.toInt = w32 (a1 + 1) → Pt n X zM89 43 [some (.ref 13), some (.int x1), some (.int w2)] [] h (qI P))) ∧ (¬ (cWay (vw h) a1) → P 0 h))))) : Pt (n + 1) X zM89 21 [some (.ref 13), some (.int x1), u2] [] h (qI P) := by
  refine pt_1 (fun n d => r_iloadn gx89_21 rfl) ?_
  refine pt_d (pt_1 (fun n d => r_aloadn gx89_22 rfl) ?_)
  refine pt_d (pt_getI (B := 2) gx89_23 S (fun v1 h1 => ?_))
  refine pt_d (pt_icmp_ge gx89_26 z1 h1 (fun e2 => ?_) (fun e2 => ?_))
  · have H := H.1 e2
    refine pt_d (pt_iconst gx89_92 (fun v3 h3 => ?_))
    exact pt_d (pt_iret gx89_93 ⟨_, rfl, by rw [h3]; exact H⟩)
  · have H := H.2 e2
    refine pt_d (pt_1 (fun n d => r_aloadn gx89_29 rfl) ?_)
    refine pt_d (pt_1 (fun n d => r_iloadn gx89_30 rfl) ?_)
    refine pt_d (pt_virt (as := [.int x1]) (r := []) gx89_31 rfl (show zmt[93]? = some zM93 from rfl) rfl rfl rfl rfl (c_93 S z1) (kqP (fun v4 h4 => ?_)))
    show Pt _ _ _ 34 _ [.int v4] _ _
    refine pt_d (pt_ifB_ne gx89_34 h4 (fun e5 => ?_) (fun e5 => ?_))
    · have H := H.1 e5
      refine pt_d (pt_1 (fun n d => r_iloadn gx89_39 rfl) ?_)
      refine pt_d (pt_iconst gx89_40 (fun v6 h6 => ?_))
      refine pt_d (pt_iadd gx89_41 z1 h6 (fun v7 h7 => ?_))
      refine pt_d (pt_1 (fun n d => r_istoren (L' := [some (.ref 13), some (.int x1), some (.int v7)]) gx89_42 rfl rfl) ?_)
      exact H v7 h7
    · have H := H.2 e5
      refine pt_d (pt_iconst gx89_37 (fun v8 h8 => ?_))
      exact pt_d (pt_iret gx89_38 ⟨_, rfl, by rw [h8]; exact H⟩)
theorem d89_43 {n : Nat} {X : aX} {h : aH} {P : Int → aH → Prop} {x1 x2 : Int32} {a1 a2 : Int} (S : wS h) (z1 : x1.toInt = a1) (z2 : x2.toInt = a2) (H : ((vw h 13 2 ≤ a2 → (∀ (w1 : Int32) (u2_ : Option Value), w1.toInt = w32 (a1 + 1) → Pt n X zM89 21 [some (.ref 13), some (.int w1), u2_] [] h (qI P))) ∧ (a2 < vw h 13 2 → ((cNxt (vw h) a1 = a2 → (∀ (w2 : Int32), w2.toInt = w32 (a2 + 1) → Pt n X zM89 43 [some (.ref 13), some (.int x1), some (.int w2)] [] h (qI P))) ∧ (cNxt (vw h) a1 ≠ a2 → ((cNxt (vw h) a2 = a1 → (∀ (w2 : Int32), w2.toInt = w32 (a2 + 1) → Pt n X zM89 43 [some (.ref 13), some (.int x1), some (.int w2)] [] h (qI P))) ∧ (cNxt (vw h) a2 ≠ a1 → ((¬ (cMeet (vw h) a1 a2) → (∀ (w2 : Int32), w2.toInt = w32 (a2 + 1) → Pt n X zM89 43 [some (.ref 13), some (.int x1), some (.int w2)] [] h (qI P))) ∧ ((cMeet (vw h) a1 a2) → P 0 h))))))))) : Pt (n + 1) X zM89 43 [some (.ref 13), some (.int x1), some (.int x2)] [] h (qI P) := by
  refine pt_1 (fun n d => r_iloadn gx89_43 rfl) ?_
  refine pt_d (pt_1 (fun n d => r_aloadn gx89_44 rfl) ?_)
  refine pt_d (pt_getI (B := 2) gx89_45 S (fun v1 h1 => ?_))
  refine pt_d (pt_icmp_ge gx89_48 z2 h1 (fun e2 => ?_) (fun e2 => ?_))
  · have H := H.1 e2
    refine pt_d (pt_iinc (c := 1) gx89_86 rfl z1 (fun v3 h3 => ?_))
    show Pt _ _ _ _ [some (.ref 13), some (.int v3), some (.int x2)] [] _ _
    refine pt_d (pt_1 (fun n d => r_goto gx89_89) ?_)
    exact H v3 _ h3
  · have H := H.2 e2
    refine pt_d (pt_1 (fun n d => r_aloadn gx89_51 rfl) ?_)
    refine pt_d (pt_1 (fun n d => r_iloadn gx89_52 rfl) ?_)
    refine pt_d (pt_virt (as := [.int x1]) (r := []) gx89_53 rfl (show zmt[92]? = some zM92 from rfl) rfl rfl rfl rfl (c_92 S z1) (kqP (fun v4 h4 => ?_)))
    show Pt _ _ _ 56 _ [.int v4] _ _
    refine pt_d (pt_1 (fun n d => r_iloadn gx89_56 rfl) ?_)
    refine pt_d (pt_icmp_eq gx89_57 h4 z2 (fun e5 => ?_) (fun e5 => ?_))
    · have H := H.1 e5
      refine pt_d (pt_iinc (c := 1) gx89_80 rfl z2 (fun v6 h6 => ?_))
      show Pt _ _ _ _ [some (.ref 13), some (.int x1), some (.int v6)] [] _ _
      refine pt_d (pt_1 (fun n d => r_goto gx89_83) ?_)
      exact H v6 h6
    · have H := H.2 e5
      refine pt_d (pt_1 (fun n d => r_aloadn gx89_60 rfl) ?_)
      refine pt_d (pt_1 (fun n d => r_iloadn gx89_61 rfl) ?_)
      refine pt_d (pt_virt (as := [.int x2]) (r := []) gx89_62 rfl (show zmt[92]? = some zM92 from rfl) rfl rfl rfl rfl (c_92 S z2) (kqP (fun v7 h7 => ?_)))
      show Pt _ _ _ 65 _ [.int v7] _ _
      refine pt_d (pt_1 (fun n d => r_iloadn gx89_65 rfl) ?_)
      refine pt_d (pt_icmp_eq gx89_66 h7 z1 (fun e8 => ?_) (fun e8 => ?_))
      · have H := H.1 e8
        refine pt_d (pt_iinc (c := 1) gx89_80 rfl z2 (fun v9 h9 => ?_))
        show Pt _ _ _ _ [some (.ref 13), some (.int x1), some (.int v9)] [] _ _
        refine pt_d (pt_1 (fun n d => r_goto gx89_83) ?_)
        exact H v9 h9
      · have H := H.2 e8
        refine pt_d (pt_1 (fun n d => r_aloadn gx89_69 rfl) ?_)
        refine pt_d (pt_1 (fun n d => r_iloadn gx89_70 rfl) ?_)
        refine pt_d (pt_1 (fun n d => r_iloadn gx89_71 rfl) ?_)
        refine pt_d (pt_virt (as := [.int x1, .int x2]) (r := []) gx89_72 rfl (show zmt[94]? = some zM94 from rfl) rfl rfl rfl rfl (c_94 S z1 z2) (kqP (fun v10 h10 => ?_)))
        show Pt _ _ _ 75 _ [.int v10] _ _
        refine pt_d (pt_ifB_eq gx89_75 h10 (fun e11 => ?_) (fun e11 => ?_))
        · have H := H.1 e11
          refine pt_d (pt_iinc (c := 1) gx89_80 rfl z2 (fun v12 h12 => ?_))
          show Pt _ _ _ _ [some (.ref 13), some (.int x1), some (.int v12)] [] _ _
          refine pt_d (pt_1 (fun n d => r_goto gx89_83) ?_)
          exact H v12 h12
        · have H := H.2 e11
          refine pt_d (pt_iconst gx89_78 (fun v13 h13 => ?_))
          exact pt_d (pt_iret gx89_79 ⟨_, rfl, by rw [h13]; exact H⟩)
theorem d218_0 {n : Nat} {X : aX} {h : aH} {P : Int → aH → Prop} (S : wS h) (H : ((vw h 72 11 < 4 → P 0 h) ∧ (4 ≤ vw h 72 11 → ((iRem (vw h 72 11) 2 ≠ 1 → (∀ (w1 : Int32) (u2_ : Option Value) (u3_ : Option Value), w1.toInt = 0 → Pt n X zM218 22 [some (.ref 72), some (.int w1), u2_, u3_] [] h (qI P))) ∧ (iRem (vw h 72 11) 2 = 1 → P 0 h))))) : Pt (n + 1) X zM218 0 [some (.ref 72), none, none, none] [] h (qI P) := by
  refine pt_1 (fun n d => r_aloadn gx218_0 rfl) ?_
  refine pt_d (pt_getI (B := 11) gx218_1 S (fun v1 h1 => ?_))
  refine pt_d (pt_iconst gx218_4 (fun v2 h2 => ?_))
  refine pt_d (pt_icmp_lt gx218_5 h1 h2 (fun e3 => ?_) (fun e3 => ?_))
  · have H := H.1 e3
    refine pt_d (pt_iconst gx218_18 (fun v4 h4 => ?_))
    exact pt_d (pt_iret gx218_19 ⟨_, rfl, by rw [h4]; exact H⟩)
  · have H := H.2 e3
    refine pt_d (pt_1 (fun n d => r_aloadn gx218_8 rfl) ?_)
    refine pt_d (pt_getI (B := 11) gx218_9 S (fun v5 h5 => ?_))
    refine pt_d (pt_iconst gx218_12 (fun v6 h6 => ?_))
    refine pt_d (pt_irem gx218_13 h5 h6 (fun v7 h7 => ?_))
    refine pt_d (pt_iconst gx218_14 (fun v8 h8 => ?_))
    refine pt_d (pt_icmp_ne gx218_15 h7 h8 (fun e9 => ?_) (fun e9 => ?_))
    · have H := H.1 e9
      refine pt_d (pt_iconst gx218_20 (fun v10 h10 => ?_))
      refine pt_d (pt_1 (fun n d => r_istoren (L' := [some (.ref 72), some (.int v10), none, none]) gx218_21 rfl rfl) ?_)
      exact H v10 _ _ h10
    · have H := H.2 e9
      refine pt_d (pt_iconst gx218_18 (fun v11 h11 => ?_))
      exact pt_d (pt_iret gx218_19 ⟨_, rfl, by rw [h11]; exact H⟩)
theorem d218_22 {n : Nat} {X : aX} {h : aH} {P : Int → aH → Prop} {x1 : Int32} {a1 : Int} {u2 u3 : Option Value} (S : wS h) (z1 : x1.toInt = a1) (H : ((vw h 72 11 ≤ a1 → (∀ (w1 : Int32) (u2_ : Option Value) (u3_ : Option Value), w1.toInt = 0 → Pt n X zM218 121 [some (.ref 72), some (.int w1), u2_, u3_] [] h (qI P))) ∧ (a1 < vw h 72 11 → ((min ((vw h) 82 a1) ((vw h) 82 (mNxt (vw h) a1)) ≠ max ((vw h) 82 a1) ((vw h) 82 (mNxt (vw h) a1)) → ((min ((vw h) 81 a1) ((vw h) 81 (mNxt (vw h) a1)) ≠ max ((vw h) 81 a1) ((vw h) 81 (mNxt (vw h) a1)) → ((iRem a1 2 ≠ 0 → P 0 h) ∧ (iRem a1 2 = 0 → P 0 h))) ∧ (min ((vw h) 81 a1) ((vw h) 81 (mNxt (vw h) a1)) = max ((vw h) 81 a1) ((vw h) 81 (mNxt (vw h) a1)) → ((max ((vw h) 82 a1) ((vw h) 82 (mNxt (vw h) a1)) ≤ min ((vw h) 82 a1) ((vw h) 82 (mNxt (vw h) a1)) → ((iRem a1 2 ≠ 0 → P 0 h) ∧ (iRem a1 2 = 0 → P 0 h))) ∧ (min ((vw h) 82 a1) ((vw h) 82 (mNxt (vw h) a1)) < max ((vw h) 82 a1) ((vw h) 82 (mNxt (vw h) a1)) → ((iRem a1 2 ≠ 0 → (∀ (w1 : Int32) (u2_ : Option Value) (u3_ : Option Value), w1.toInt = w32 (a1 + 1) → Pt n X zM218 22 [some (.ref 72), some (.int w1), u2_, u3_] [] h (qI P))) ∧ (iRem a1 2 = 0 → P 0 h))))))) ∧ (min ((vw h) 82 a1) ((vw h) 82 (mNxt (vw h) a1)) = max ((vw h) 82 a1) ((vw h) 82 (mNxt (vw h) a1)) → ((max ((vw h) 81 a1) ((vw h) 81 (mNxt (vw h) a1)) ≤ min ((vw h) 81 a1) ((vw h) 81 (mNxt (vw h) a1)) → ((min ((vw h) 81 a1) ((vw h) 81 (mNxt (vw h) a1)) ≠ max ((vw h) 81 a1) ((vw h) 81 (mNxt (vw h) a1)) → ((iRem a1 2 ≠ 0 → P 0 h) ∧ (iRem a1 2 = 0 → P 0 h))) ∧ (min ((vw h) 81 a1) ((vw h) 81 (mNxt (vw h) a1)) = max ((vw h) 81 a1) ((vw h) 81 (mNxt (vw h) a1)) → ((max ((vw h) 82 a1) ((vw h) 82 (mNxt (vw h) a1)) ≤ min ((vw h) 82 a1) ((vw h) 82 (mNxt (vw h) a1)) → ((iRem a1 2 ≠ 0 → P 0 h) ∧ (iRem a1 2 = 0 → P 0 h))) ∧ (min ((vw h) 82 a1) ((vw h) 82 (mNxt (vw h) a1)) < max ((vw h) 82 a1) ((vw h) 82 (mNxt (vw h) a1)) → ((iRem a1 2 ≠ 0 → (∀ (w1 : Int32) (u2_ : Option Value) (u3_ : Option Value), w1.toInt = w32 (a1 + 1) → Pt n X zM218 22 [some (.ref 72), some (.int w1), u2_, u3_] [] h (qI P))) ∧ (iRem a1 2 = 0 → P 0 h))))))) ∧ (min ((vw h) 81 a1) ((vw h) 81 (mNxt (vw h) a1)) < max ((vw h) 81 a1) ((vw h) 81 (mNxt (vw h) a1)) → ((min ((vw h) 81 a1) ((vw h) 81 (mNxt (vw h) a1)) ≠ max ((vw h) 81 a1) ((vw h) 81 (mNxt (vw h) a1)) → ((iRem a1 2 ≠ 0 → P 0 h) ∧ (iRem a1 2 = 0 → (∀ (w1 : Int32) (u2_ : Option Value) (u3_ : Option Value), w1.toInt = w32 (a1 + 1) → Pt n X zM218 22 [some (.ref 72), some (.int w1), u2_, u3_] [] h (qI P))))) ∧ (min ((vw h) 81 a1) ((vw h) 81 (mNxt (vw h) a1)) = max ((vw h) 81 a1) ((vw h) 81 (mNxt (vw h) a1)) → ((max ((vw h) 82 a1) ((vw h) 82 (mNxt (vw h) a1)) ≤ min ((vw h) 82 a1) ((vw h) 82 (mNxt (vw h) a1)) → ((iRem a1 2 ≠ 0 → P 0 h) ∧ (iRem a1 2 = 0 → (∀ (w1 : Int32) (u2_ : Option Value) (u3_ : Option Value), w1.toInt = w32 (a1 + 1) → Pt n X zM218 22 [some (.ref 72), some (.int w1), u2_, u3_] [] h (qI P))))) ∧ (min ((vw h) 82 a1) ((vw h) 82 (mNxt (vw h) a1)) < max ((vw h) 82 a1) ((vw h) 82 (mNxt (vw h) a1)) → ((iRem a1 2 ≠ 0 → (∀ (w1 : Int32) (u2_ : Option Value) (u3_ : Option Value), w1.toInt = w32 (a1 + 1) → Pt n X zM218 22 [some (.ref 72), some (.int w1), u2_, u3_] [] h (qI P))) ∧ (iRem a1 2 = 0 → (∀ (w1 : Int32) (u2_ : Option Value) (u3_ : Option Value), w1.toInt = w32 (a1 + 1) → Pt n X zM218 22 [some (.ref 72), some (.int w1), u2_, u3_] [] h (qI P))))))))))))))) : Pt (n + 1) X zM218 22 [some (.ref 72), some (.int x1), u2, u3] [] h (qI P) := by
  refine pt_1 (fun n d => r_iloadn gx218_22 rfl) ?_
  refine pt_d (pt_1 (fun n d => r_aloadn gx218_23 rfl) ?_)
  refine pt_d (pt_getI (B := 11) gx218_24 S (fun v1 h1 => ?_))
  refine pt_d (pt_icmp_ge gx218_27 z1 h1 (fun e2 => ?_) (fun e2 => ?_))
  · have H := H.1 e2
    refine pt_d (pt_iconst gx218_119 (fun v3 h3 => ?_))
    refine pt_d (pt_1 (fun n d => r_istoren (L' := [some (.ref 72), some (.int v3), u2, u3]) gx218_120 rfl rfl) ?_)
    exact H v3 _ _ h3
  · have H := H.2 e2
    refine pt_d (pt_1 (fun n d => r_aloadn gx218_30 rfl) ?_)
    refine pt_d (pt_1 (fun n d => r_iloadn gx218_31 rfl) ?_)
    refine pt_d (pt_virt (as := [.int x1]) (r := []) gx218_32 rfl (show zmt[216]? = some zM216 from rfl) rfl rfl rfl rfl (c_216 S z1) (kqP (fun v4 h4 => ?_)))
    show Pt _ _ _ 35 _ [.int v4] _ _
    refine pt_d (pt_1 (fun n d => r_aloadn gx218_35 rfl) ?_)
    refine pt_d (pt_1 (fun n d => r_iloadn gx218_36 rfl) ?_)
    refine pt_d (pt_virt (as := [.int x1]) (r := [.int v4]) gx218_37 rfl (show zmt[217]? = some zM217 from rfl) rfl rfl rfl rfl (c_217 S z1) (kqP (fun v5 h5 => ?_)))
    show Pt _ _ _ 40 _ [.int v5, .int v4] _ _
    refine pt_d (pt_icmp_ne gx218_40 h4 h5 (fun e6 => ?_) (fun e6 => ?_))
    · have H := H.1 e6
      refine pt_d (pt_iconst gx218_60 (fun v7 h7 => ?_))
      refine pt_d (pt_1 (fun n d => r_istoren (L' := [some (.ref 72), some (.int x1), some (.int v7), u3]) gx218_61 rfl rfl) ?_)
      refine pt_d (pt_1 (fun n d => r_aloadn gx218_62 rfl) ?_)
      refine pt_d (pt_1 (fun n d => r_iloadn gx218_63 rfl) ?_)
      refine pt_d (pt_virt (as := [.int x1]) (r := []) gx218_64 rfl (show zmt[214]? = some zM214 from rfl) rfl rfl rfl rfl (c_214 S z1) (kqP (fun v8 h8 => ?_)))
      show Pt _ _ _ 67 _ [.int v8] _ _
      refine pt_d (pt_1 (fun n d => r_aloadn gx218_67 rfl) ?_)
      refine pt_d (pt_1 (fun n d => r_iloadn gx218_68 rfl) ?_)
      refine pt_d (pt_virt (as := [.int x1]) (r := [.int v8]) gx218_69 rfl (show zmt[215]? = some zM215 from rfl) rfl rfl rfl rfl (c_215 S z1) (kqP (fun v9 h9 => ?_)))
      show Pt _ _ _ 72 _ [.int v9, .int v8] _ _
      refine pt_d (pt_icmp_ne gx218_72 h8 h9 (fun e10 => ?_) (fun e10 => ?_))
      · have H := H.1 e10
        refine pt_d (pt_iconst gx218_92 (fun v11 h11 => ?_))
        refine pt_d (pt_1 (fun n d => r_istoren (L' := [some (.ref 72), some (.int x1), some (.int v7), some (.int v11)]) gx218_93 rfl rfl) ?_)
        refine pt_d (pt_1 (fun n d => r_iloadn gx218_94 rfl) ?_)
        refine pt_d (pt_iconst gx218_95 (fun v12 h12 => ?_))
        refine pt_d (pt_irem gx218_96 z1 h12 (fun v13 h13 => ?_))
        refine pt_d (pt_if_ne gx218_97 h13 (fun e14 => ?_) (fun e14 => ?_))
        · have H := H.1 e14
          refine pt_d (pt_1 (fun n d => r_iloadn gx218_107 rfl) ?_)
          refine pt_d (pt_if_ne gx218_108 h11 (fun e15 => absurd e15 (by decide)) (fun e15 => ?_))
          refine pt_d (pt_iconst gx218_111 (fun v16 h16 => ?_))
          exact pt_d (pt_iret gx218_112 ⟨_, rfl, by rw [h16]; exact H⟩)
        · have H := H.2 e14
          refine pt_d (pt_1 (fun n d => r_iloadn gx218_100 rfl) ?_)
          refine pt_d (pt_if_ne gx218_101 h7 (fun e17 => absurd e17 (by decide)) (fun e17 => ?_))
          refine pt_d (pt_1 (fun n d => r_goto gx218_104) ?_)
          refine pt_d (pt_iconst gx218_111 (fun v18 h18 => ?_))
          exact pt_d (pt_iret gx218_112 ⟨_, rfl, by rw [h18]; exact H⟩)
      · have H := H.2 e10
        refine pt_d (pt_1 (fun n d => r_aloadn gx218_75 rfl) ?_)
        refine pt_d (pt_1 (fun n d => r_iloadn gx218_76 rfl) ?_)
        refine pt_d (pt_virt (as := [.int x1]) (r := []) gx218_77 rfl (show zmt[216]? = some zM216 from rfl) rfl rfl rfl rfl (c_216 S z1) (kqP (fun v19 h19 => ?_)))
        show Pt _ _ _ 80 _ [.int v19] _ _
        refine pt_d (pt_1 (fun n d => r_aloadn gx218_80 rfl) ?_)
        refine pt_d (pt_1 (fun n d => r_iloadn gx218_81 rfl) ?_)
        refine pt_d (pt_virt (as := [.int x1]) (r := [.int v19]) gx218_82 rfl (show zmt[217]? = some zM217 from rfl) rfl rfl rfl rfl (c_217 S z1) (kqP (fun v20 h20 => ?_)))
        show Pt _ _ _ 85 _ [.int v20, .int v19] _ _
        refine pt_d (pt_icmp_ge gx218_85 h19 h20 (fun e21 => ?_) (fun e21 => ?_))
        · have H := H.1 e21
          refine pt_d (pt_iconst gx218_92 (fun v22 h22 => ?_))
          refine pt_d (pt_1 (fun n d => r_istoren (L' := [some (.ref 72), some (.int x1), some (.int v7), some (.int v22)]) gx218_93 rfl rfl) ?_)
          refine pt_d (pt_1 (fun n d => r_iloadn gx218_94 rfl) ?_)
          refine pt_d (pt_iconst gx218_95 (fun v23 h23 => ?_))
          refine pt_d (pt_irem gx218_96 z1 h23 (fun v24 h24 => ?_))
          refine pt_d (pt_if_ne gx218_97 h24 (fun e25 => ?_) (fun e25 => ?_))
          · have H := H.1 e25
            refine pt_d (pt_1 (fun n d => r_iloadn gx218_107 rfl) ?_)
            refine pt_d (pt_if_ne gx218_108 h22 (fun e26 => absurd e26 (by decide)) (fun e26 => ?_))
            refine pt_d (pt_iconst gx218_111 (fun v27 h27 => ?_))
            exact pt_d (pt_iret gx218_112 ⟨_, rfl, by rw [h27]; exact H⟩)
          · have H := H.2 e25
            refine pt_d (pt_1 (fun n d => r_iloadn gx218_100 rfl) ?_)
            refine pt_d (pt_if_ne gx218_101 h7 (fun e28 => absurd e28 (by decide)) (fun e28 => ?_))
            refine pt_d (pt_1 (fun n d => r_goto gx218_104) ?_)
            refine pt_d (pt_iconst gx218_111 (fun v29 h29 => ?_))
            exact pt_d (pt_iret gx218_112 ⟨_, rfl, by rw [h29]; exact H⟩)
        · have H := H.2 e21
          refine pt_d (pt_iconst gx218_88 (fun v30 h30 => ?_))
          refine pt_d (pt_1 (fun n d => r_goto gx218_89) ?_)
          refine pt_d (pt_1 (fun n d => r_istoren (L' := [some (.ref 72), some (.int x1), some (.int v7), some (.int v30)]) gx218_93 rfl rfl) ?_)
          refine pt_d (pt_1 (fun n d => r_iloadn gx218_94 rfl) ?_)
          refine pt_d (pt_iconst gx218_95 (fun v31 h31 => ?_))
          refine pt_d (pt_irem gx218_96 z1 h31 (fun v32 h32 => ?_))
          refine pt_d (pt_if_ne gx218_97 h32 (fun e33 => ?_) (fun e33 => ?_))
          · have H := H.1 e33
            refine pt_d (pt_1 (fun n d => r_iloadn gx218_107 rfl) ?_)
            refine pt_d (pt_if_ne gx218_108 h30 (fun e34 => ?_) (fun e34 => absurd e34 (by decide)))
            refine pt_d (pt_iinc (c := 1) gx218_113 rfl z1 (fun v35 h35 => ?_))
            show Pt _ _ _ _ [some (.ref 72), some (.int v35), some (.int v7), some (.int v30)] [] _ _
            refine pt_d (pt_1 (fun n d => r_goto gx218_116) ?_)
            exact H v35 _ _ h35
          · have H := H.2 e33
            refine pt_d (pt_1 (fun n d => r_iloadn gx218_100 rfl) ?_)
            refine pt_d (pt_if_ne gx218_101 h7 (fun e36 => absurd e36 (by decide)) (fun e36 => ?_))
            refine pt_d (pt_1 (fun n d => r_goto gx218_104) ?_)
            refine pt_d (pt_iconst gx218_111 (fun v37 h37 => ?_))
            exact pt_d (pt_iret gx218_112 ⟨_, rfl, by rw [h37]; exact H⟩)
    · have H := H.2 e6
      refine pt_d (pt_1 (fun n d => r_aloadn gx218_43 rfl) ?_)
      refine pt_d (pt_1 (fun n d => r_iloadn gx218_44 rfl) ?_)
      refine pt_d (pt_virt (as := [.int x1]) (r := []) gx218_45 rfl (show zmt[214]? = some zM214 from rfl) rfl rfl rfl rfl (c_214 S z1) (kqP (fun v38 h38 => ?_)))
      show Pt _ _ _ 48 _ [.int v38] _ _
      refine pt_d (pt_1 (fun n d => r_aloadn gx218_48 rfl) ?_)
      refine pt_d (pt_1 (fun n d => r_iloadn gx218_49 rfl) ?_)
      refine pt_d (pt_virt (as := [.int x1]) (r := [.int v38]) gx218_50 rfl (show zmt[215]? = some zM215 from rfl) rfl rfl rfl rfl (c_215 S z1) (kqP (fun v39 h39 => ?_)))
      show Pt _ _ _ 53 _ [.int v39, .int v38] _ _
      refine pt_d (pt_icmp_ge gx218_53 h38 h39 (fun e40 => ?_) (fun e40 => ?_))
      · have H := H.1 e40
        refine pt_d (pt_iconst gx218_60 (fun v41 h41 => ?_))
        refine pt_d (pt_1 (fun n d => r_istoren (L' := [some (.ref 72), some (.int x1), some (.int v41), u3]) gx218_61 rfl rfl) ?_)
        refine pt_d (pt_1 (fun n d => r_aloadn gx218_62 rfl) ?_)
        refine pt_d (pt_1 (fun n d => r_iloadn gx218_63 rfl) ?_)
        refine pt_d (pt_virt (as := [.int x1]) (r := []) gx218_64 rfl (show zmt[214]? = some zM214 from rfl) rfl rfl rfl rfl (c_214 S z1) (kqP (fun v42 h42 => ?_)))
        show Pt _ _ _ 67 _ [.int v42] _ _
        refine pt_d (pt_1 (fun n d => r_aloadn gx218_67 rfl) ?_)
        refine pt_d (pt_1 (fun n d => r_iloadn gx218_68 rfl) ?_)
        refine pt_d (pt_virt (as := [.int x1]) (r := [.int v42]) gx218_69 rfl (show zmt[215]? = some zM215 from rfl) rfl rfl rfl rfl (c_215 S z1) (kqP (fun v43 h43 => ?_)))
        show Pt _ _ _ 72 _ [.int v43, .int v42] _ _
        refine pt_d (pt_icmp_ne gx218_72 h42 h43 (fun e44 => ?_) (fun e44 => ?_))
        · have H := H.1 e44
          refine pt_d (pt_iconst gx218_92 (fun v45 h45 => ?_))
          refine pt_d (pt_1 (fun n d => r_istoren (L' := [some (.ref 72), some (.int x1), some (.int v41), some (.int v45)]) gx218_93 rfl rfl) ?_)
          refine pt_d (pt_1 (fun n d => r_iloadn gx218_94 rfl) ?_)
          refine pt_d (pt_iconst gx218_95 (fun v46 h46 => ?_))
          refine pt_d (pt_irem gx218_96 z1 h46 (fun v47 h47 => ?_))
          refine pt_d (pt_if_ne gx218_97 h47 (fun e48 => ?_) (fun e48 => ?_))
          · have H := H.1 e48
            refine pt_d (pt_1 (fun n d => r_iloadn gx218_107 rfl) ?_)
            refine pt_d (pt_if_ne gx218_108 h45 (fun e49 => absurd e49 (by decide)) (fun e49 => ?_))
            refine pt_d (pt_iconst gx218_111 (fun v50 h50 => ?_))
            exact pt_d (pt_iret gx218_112 ⟨_, rfl, by rw [h50]; exact H⟩)
          · have H := H.2 e48
            refine pt_d (pt_1 (fun n d => r_iloadn gx218_100 rfl) ?_)
            refine pt_d (pt_if_ne gx218_101 h41 (fun e51 => absurd e51 (by decide)) (fun e51 => ?_))
            refine pt_d (pt_1 (fun n d => r_goto gx218_104) ?_)
            refine pt_d (pt_iconst gx218_111 (fun v52 h52 => ?_))
            exact pt_d (pt_iret gx218_112 ⟨_, rfl, by rw [h52]; exact H⟩)
        · have H := H.2 e44
          refine pt_d (pt_1 (fun n d => r_aloadn gx218_75 rfl) ?_)
          refine pt_d (pt_1 (fun n d => r_iloadn gx218_76 rfl) ?_)
          refine pt_d (pt_virt (as := [.int x1]) (r := []) gx218_77 rfl (show zmt[216]? = some zM216 from rfl) rfl rfl rfl rfl (c_216 S z1) (kqP (fun v53 h53 => ?_)))
          show Pt _ _ _ 80 _ [.int v53] _ _
          refine pt_d (pt_1 (fun n d => r_aloadn gx218_80 rfl) ?_)
          refine pt_d (pt_1 (fun n d => r_iloadn gx218_81 rfl) ?_)
          refine pt_d (pt_virt (as := [.int x1]) (r := [.int v53]) gx218_82 rfl (show zmt[217]? = some zM217 from rfl) rfl rfl rfl rfl (c_217 S z1) (kqP (fun v54 h54 => ?_)))
          show Pt _ _ _ 85 _ [.int v54, .int v53] _ _
          refine pt_d (pt_icmp_ge gx218_85 h53 h54 (fun e55 => ?_) (fun e55 => ?_))
          · have H := H.1 e55
            refine pt_d (pt_iconst gx218_92 (fun v56 h56 => ?_))
            refine pt_d (pt_1 (fun n d => r_istoren (L' := [some (.ref 72), some (.int x1), some (.int v41), some (.int v56)]) gx218_93 rfl rfl) ?_)
            refine pt_d (pt_1 (fun n d => r_iloadn gx218_94 rfl) ?_)
            refine pt_d (pt_iconst gx218_95 (fun v57 h57 => ?_))
            refine pt_d (pt_irem gx218_96 z1 h57 (fun v58 h58 => ?_))
            refine pt_d (pt_if_ne gx218_97 h58 (fun e59 => ?_) (fun e59 => ?_))
            · have H := H.1 e59
              refine pt_d (pt_1 (fun n d => r_iloadn gx218_107 rfl) ?_)
              refine pt_d (pt_if_ne gx218_108 h56 (fun e60 => absurd e60 (by decide)) (fun e60 => ?_))
              refine pt_d (pt_iconst gx218_111 (fun v61 h61 => ?_))
              exact pt_d (pt_iret gx218_112 ⟨_, rfl, by rw [h61]; exact H⟩)
            · have H := H.2 e59
              refine pt_d (pt_1 (fun n d => r_iloadn gx218_100 rfl) ?_)
              refine pt_d (pt_if_ne gx218_101 h41 (fun e62 => absurd e62 (by decide)) (fun e62 => ?_))
              refine pt_d (pt_1 (fun n d => r_goto gx218_104) ?_)
              refine pt_d (pt_iconst gx218_111 (fun v63 h63 => ?_))
              exact pt_d (pt_iret gx218_112 ⟨_, rfl, by rw [h63]; exact H⟩)
          · have H := H.2 e55
            refine pt_d (pt_iconst gx218_88 (fun v64 h64 => ?_))
            refine pt_d (pt_1 (fun n d => r_goto gx218_89) ?_)
            refine pt_d (pt_1 (fun n d => r_istoren (L' := [some (.ref 72), some (.int x1), some (.int v41), some (.int v64)]) gx218_93 rfl rfl) ?_)
            refine pt_d (pt_1 (fun n d => r_iloadn gx218_94 rfl) ?_)
            refine pt_d (pt_iconst gx218_95 (fun v65 h65 => ?_))
            refine pt_d (pt_irem gx218_96 z1 h65 (fun v66 h66 => ?_))
            refine pt_d (pt_if_ne gx218_97 h66 (fun e67 => ?_) (fun e67 => ?_))
            · have H := H.1 e67
              refine pt_d (pt_1 (fun n d => r_iloadn gx218_107 rfl) ?_)
              refine pt_d (pt_if_ne gx218_108 h64 (fun e68 => ?_) (fun e68 => absurd e68 (by decide)))
              refine pt_d (pt_iinc (c := 1) gx218_113 rfl z1 (fun v69 h69 => ?_))
              show Pt _ _ _ _ [some (.ref 72), some (.int v69), some (.int v41), some (.int v64)] [] _ _
              refine pt_d (pt_1 (fun n d => r_goto gx218_116) ?_)
              exact H v69 _ _ h69
            · have H := H.2 e67
              refine pt_d (pt_1 (fun n d => r_iloadn gx218_100 rfl) ?_)
              refine pt_d (pt_if_ne gx218_101 h41 (fun e70 => absurd e70 (by decide)) (fun e70 => ?_))
              refine pt_d (pt_1 (fun n d => r_goto gx218_104) ?_)
              refine pt_d (pt_iconst gx218_111 (fun v71 h71 => ?_))
              exact pt_d (pt_iret gx218_112 ⟨_, rfl, by rw [h71]; exact H⟩)
      · have H := H.2 e40
        refine pt_d (pt_iconst gx218_56 (fun v72 h72 => ?_))
        refine pt_d (pt_1 (fun n d => r_goto gx218_57) ?_)
        refine pt_d (pt_1 (fun n d => r_istoren (L' := [some (.ref 72), some (.int x1), some (.int v72), u3]) gx218_61 rfl rfl) ?_)
        refine pt_d (pt_1 (fun n d => r_aloadn gx218_62 rfl) ?_)
        refine pt_d (pt_1 (fun n d => r_iloadn gx218_63 rfl) ?_)
        refine pt_d (pt_virt (as := [.int x1]) (r := []) gx218_64 rfl (show zmt[214]? = some zM214 from rfl) rfl rfl rfl rfl (c_214 S z1) (kqP (fun v73 h73 => ?_)))
        show Pt _ _ _ 67 _ [.int v73] _ _
        refine pt_d (pt_1 (fun n d => r_aloadn gx218_67 rfl) ?_)
        refine pt_d (pt_1 (fun n d => r_iloadn gx218_68 rfl) ?_)
        refine pt_d (pt_virt (as := [.int x1]) (r := [.int v73]) gx218_69 rfl (show zmt[215]? = some zM215 from rfl) rfl rfl rfl rfl (c_215 S z1) (kqP (fun v74 h74 => ?_)))
        show Pt _ _ _ 72 _ [.int v74, .int v73] _ _
        refine pt_d (pt_icmp_ne gx218_72 h73 h74 (fun e75 => ?_) (fun e75 => ?_))
        · have H := H.1 e75
          refine pt_d (pt_iconst gx218_92 (fun v76 h76 => ?_))
          refine pt_d (pt_1 (fun n d => r_istoren (L' := [some (.ref 72), some (.int x1), some (.int v72), some (.int v76)]) gx218_93 rfl rfl) ?_)
          refine pt_d (pt_1 (fun n d => r_iloadn gx218_94 rfl) ?_)
          refine pt_d (pt_iconst gx218_95 (fun v77 h77 => ?_))
          refine pt_d (pt_irem gx218_96 z1 h77 (fun v78 h78 => ?_))
          refine pt_d (pt_if_ne gx218_97 h78 (fun e79 => ?_) (fun e79 => ?_))
          · have H := H.1 e79
            refine pt_d (pt_1 (fun n d => r_iloadn gx218_107 rfl) ?_)
            refine pt_d (pt_if_ne gx218_108 h76 (fun e80 => absurd e80 (by decide)) (fun e80 => ?_))
            refine pt_d (pt_iconst gx218_111 (fun v81 h81 => ?_))
            exact pt_d (pt_iret gx218_112 ⟨_, rfl, by rw [h81]; exact H⟩)
          · have H := H.2 e79
            refine pt_d (pt_1 (fun n d => r_iloadn gx218_100 rfl) ?_)
            refine pt_d (pt_if_ne gx218_101 h72 (fun e82 => ?_) (fun e82 => absurd e82 (by decide)))
            refine pt_d (pt_iinc (c := 1) gx218_113 rfl z1 (fun v83 h83 => ?_))
            show Pt _ _ _ _ [some (.ref 72), some (.int v83), some (.int v72), some (.int v76)] [] _ _
            refine pt_d (pt_1 (fun n d => r_goto gx218_116) ?_)
            exact H v83 _ _ h83
        · have H := H.2 e75
          refine pt_d (pt_1 (fun n d => r_aloadn gx218_75 rfl) ?_)
          refine pt_d (pt_1 (fun n d => r_iloadn gx218_76 rfl) ?_)
          refine pt_d (pt_virt (as := [.int x1]) (r := []) gx218_77 rfl (show zmt[216]? = some zM216 from rfl) rfl rfl rfl rfl (c_216 S z1) (kqP (fun v84 h84 => ?_)))
          show Pt _ _ _ 80 _ [.int v84] _ _
          refine pt_d (pt_1 (fun n d => r_aloadn gx218_80 rfl) ?_)
          refine pt_d (pt_1 (fun n d => r_iloadn gx218_81 rfl) ?_)
          refine pt_d (pt_virt (as := [.int x1]) (r := [.int v84]) gx218_82 rfl (show zmt[217]? = some zM217 from rfl) rfl rfl rfl rfl (c_217 S z1) (kqP (fun v85 h85 => ?_)))
          show Pt _ _ _ 85 _ [.int v85, .int v84] _ _
          refine pt_d (pt_icmp_ge gx218_85 h84 h85 (fun e86 => ?_) (fun e86 => ?_))
          · have H := H.1 e86
            refine pt_d (pt_iconst gx218_92 (fun v87 h87 => ?_))
            refine pt_d (pt_1 (fun n d => r_istoren (L' := [some (.ref 72), some (.int x1), some (.int v72), some (.int v87)]) gx218_93 rfl rfl) ?_)
            refine pt_d (pt_1 (fun n d => r_iloadn gx218_94 rfl) ?_)
            refine pt_d (pt_iconst gx218_95 (fun v88 h88 => ?_))
            refine pt_d (pt_irem gx218_96 z1 h88 (fun v89 h89 => ?_))
            refine pt_d (pt_if_ne gx218_97 h89 (fun e90 => ?_) (fun e90 => ?_))
            · have H := H.1 e90
              refine pt_d (pt_1 (fun n d => r_iloadn gx218_107 rfl) ?_)
              refine pt_d (pt_if_ne gx218_108 h87 (fun e91 => absurd e91 (by decide)) (fun e91 => ?_))
              refine pt_d (pt_iconst gx218_111 (fun v92 h92 => ?_))
              exact pt_d (pt_iret gx218_112 ⟨_, rfl, by rw [h92]; exact H⟩)
            · have H := H.2 e90
              refine pt_d (pt_1 (fun n d => r_iloadn gx218_100 rfl) ?_)
              refine pt_d (pt_if_ne gx218_101 h72 (fun e93 => ?_) (fun e93 => absurd e93 (by decide)))
              refine pt_d (pt_iinc (c := 1) gx218_113 rfl z1 (fun v94 h94 => ?_))
              show Pt _ _ _ _ [some (.ref 72), some (.int v94), some (.int v72), some (.int v87)] [] _ _
              refine pt_d (pt_1 (fun n d => r_goto gx218_116) ?_)
              exact H v94 _ _ h94
          · have H := H.2 e86
            refine pt_d (pt_iconst gx218_88 (fun v95 h95 => ?_))
            refine pt_d (pt_1 (fun n d => r_goto gx218_89) ?_)
            refine pt_d (pt_1 (fun n d => r_istoren (L' := [some (.ref 72), some (.int x1), some (.int v72), some (.int v95)]) gx218_93 rfl rfl) ?_)
            refine pt_d (pt_1 (fun n d => r_iloadn gx218_94 rfl) ?_)
            refine pt_d (pt_iconst gx218_95 (fun v96 h96 => ?_))
            refine pt_d (pt_irem gx218_96 z1 h96 (fun v97 h97 => ?_))
            refine pt_d (pt_if_ne gx218_97 h97 (fun e98 => ?_) (fun e98 => ?_))
            · have H := H.1 e98
              refine pt_d (pt_1 (fun n d => r_iloadn gx218_107 rfl) ?_)
              refine pt_d (pt_if_ne gx218_108 h95 (fun e99 => ?_) (fun e99 => absurd e99 (by decide)))
              refine pt_d (pt_iinc (c := 1) gx218_113 rfl z1 (fun v100 h100 => ?_))
              show Pt _ _ _ _ [some (.ref 72), some (.int v100), some (.int v72), some (.int v95)] [] _ _
              refine pt_d (pt_1 (fun n d => r_goto gx218_116) ?_)
              exact H v100 _ _ h100
            · have H := H.2 e98
              refine pt_d (pt_1 (fun n d => r_iloadn gx218_100 rfl) ?_)
              refine pt_d (pt_if_ne gx218_101 h72 (fun e101 => ?_) (fun e101 => absurd e101 (by decide)))
              refine pt_d (pt_iinc (c := 1) gx218_113 rfl z1 (fun v102 h102 => ?_))
              show Pt _ _ _ _ [some (.ref 72), some (.int v102), some (.int v72), some (.int v95)] [] _ _
              refine pt_d (pt_1 (fun n d => r_goto gx218_116) ?_)
              exact H v102 _ _ h102
theorem d218_121 {n : Nat} {X : aX} {h : aH} {P : Int → aH → Prop} {x1 : Int32} {a1 : Int} {u2 u3 : Option Value} (S : wS h) (z1 : x1.toInt = a1) (H : ((vw h 72 11 ≤ a1 → P 1 h) ∧ (a1 < vw h 72 11 → (∀ (w2 : Int32) (u3_ : Option Value), w2.toInt = w32 (a1 + 2) → Pt n X zM218 133 [some (.ref 72), some (.int x1), some (.int w2), u3_] [] h (qI P))))) : Pt (n + 1) X zM218 121 [some (.ref 72), some (.int x1), u2, u3] [] h (qI P) := by
  refine pt_1 (fun n d => r_iloadn gx218_121 rfl) ?_
  refine pt_d (pt_1 (fun n d => r_aloadn gx218_122 rfl) ?_)
  refine pt_d (pt_getI (B := 11) gx218_123 S (fun v1 h1 => ?_))
  refine pt_d (pt_icmp_ge gx218_126 z1 h1 (fun e2 => ?_) (fun e2 => ?_))
  · have H := H.1 e2
    refine pt_d (pt_iconst gx218_224 (fun v3 h3 => ?_))
    exact pt_d (pt_iret gx218_225 ⟨_, rfl, by rw [h3]; exact H⟩)
  · have H := H.2 e2
    refine pt_d (pt_1 (fun n d => r_iloadn gx218_129 rfl) ?_)
    refine pt_d (pt_iconst gx218_130 (fun v4 h4 => ?_))
    refine pt_d (pt_iadd gx218_131 z1 h4 (fun v5 h5 => ?_))
    refine pt_d (pt_1 (fun n d => r_istoren (L' := [some (.ref 72), some (.int x1), some (.int v5), u3]) gx218_132 rfl rfl) ?_)
    exact H v5 _ h5
theorem d218_133 {n : Nat} {X : aX} {h : aH} {P : Int → aH → Prop} {x1 x2 : Int32} {a1 a2 : Int} {u3 : Option Value} (S : wS h) (z1 : x1.toInt = a1) (z2 : x2.toInt = a2) (H : ((vw h 72 11 ≤ a2 → (∀ (w1 : Int32) (u2_ : Option Value) (u3_ : Option Value), w1.toInt = w32 (a1 + 1) → Pt n X zM218 121 [some (.ref 72), some (.int w1), u2_, u3_] [] h (qI P))) ∧ (a2 < vw h 72 11 → ((a1 ≠ 0 → ((max ((vw h) 81 a2) ((vw h) 81 (mNxt (vw h) a2)) < min ((vw h) 81 a1) ((vw h) 81 (mNxt (vw h) a1)) → (∀ (w2 : Int32) (u3_ : Option Value), w2.toInt = w32 (a2 + 1) → Pt n X zM218 133 [some (.ref 72), some (.int x1), some (.int w2), u3_] [] h (qI P))) ∧ (min ((vw h) 81 a1) ((vw h) 81 (mNxt (vw h) a1)) ≤ max ((vw h) 81 a2) ((vw h) 81 (mNxt (vw h) a2)) → ((max ((vw h) 81 a1) ((vw h) 81 (mNxt (vw h) a1)) < min ((vw h) 81 a2) ((vw h) 81 (mNxt (vw h) a2)) → (∀ (w2 : Int32) (u3_ : Option Value), w2.toInt = w32 (a2 + 1) → Pt n X zM218 133 [some (.ref 72), some (.int x1), some (.int w2), u3_] [] h (qI P))) ∧ (min ((vw h) 81 a2) ((vw h) 81 (mNxt (vw h) a2)) ≤ max ((vw h) 81 a1) ((vw h) 81 (mNxt (vw h) a1)) → ((max ((vw h) 82 a2) ((vw h) 82 (mNxt (vw h) a2)) < min ((vw h) 82 a1) ((vw h) 82 (mNxt (vw h) a1)) → (∀ (w2 : Int32) (u3_ : Option Value), w2.toInt = w32 (a2 + 1) → Pt n X zM218 133 [some (.ref 72), some (.int x1), some (.int w2), u3_] [] h (qI P))) ∧ (min ((vw h) 82 a1) ((vw h) 82 (mNxt (vw h) a1)) ≤ max ((vw h) 82 a2) ((vw h) 82 (mNxt (vw h) a2)) → ((max ((vw h) 82 a1) ((vw h) 82 (mNxt (vw h) a1)) < min ((vw h) 82 a2) ((vw h) 82 (mNxt (vw h) a2)) → (∀ (w2 : Int32) (u3_ : Option Value), w2.toInt = w32 (a2 + 1) → Pt n X zM218 133 [some (.ref 72), some (.int x1), some (.int w2), u3_] [] h (qI P))) ∧ (min ((vw h) 82 a2) ((vw h) 82 (mNxt (vw h) a2)) ≤ max ((vw h) 82 a1) ((vw h) 82 (mNxt (vw h) a1)) → P 0 h))))))))) ∧ (a1 = 0 → ((a2 ≠ w32 ((vw h 72 11) - 1) → ((max ((vw h) 81 a2) ((vw h) 81 (mNxt (vw h) a2)) < min ((vw h) 81 a1) ((vw h) 81 (mNxt (vw h) a1)) → (∀ (w2 : Int32) (u3_ : Option Value), w2.toInt = w32 (a2 + 1) → Pt n X zM218 133 [some (.ref 72), some (.int x1), some (.int w2), u3_] [] h (qI P))) ∧ (min ((vw h) 81 a1) ((vw h) 81 (mNxt (vw h) a1)) ≤ max ((vw h) 81 a2) ((vw h) 81 (mNxt (vw h) a2)) → ((max ((vw h) 81 a1) ((vw h) 81 (mNxt (vw h) a1)) < min ((vw h) 81 a2) ((vw h) 81 (mNxt (vw h) a2)) → (∀ (w2 : Int32) (u3_ : Option Value), w2.toInt = w32 (a2 + 1) → Pt n X zM218 133 [some (.ref 72), some (.int x1), some (.int w2), u3_] [] h (qI P))) ∧ (min ((vw h) 81 a2) ((vw h) 81 (mNxt (vw h) a2)) ≤ max ((vw h) 81 a1) ((vw h) 81 (mNxt (vw h) a1)) → ((max ((vw h) 82 a2) ((vw h) 82 (mNxt (vw h) a2)) < min ((vw h) 82 a1) ((vw h) 82 (mNxt (vw h) a1)) → (∀ (w2 : Int32) (u3_ : Option Value), w2.toInt = w32 (a2 + 1) → Pt n X zM218 133 [some (.ref 72), some (.int x1), some (.int w2), u3_] [] h (qI P))) ∧ (min ((vw h) 82 a1) ((vw h) 82 (mNxt (vw h) a1)) ≤ max ((vw h) 82 a2) ((vw h) 82 (mNxt (vw h) a2)) → ((max ((vw h) 82 a1) ((vw h) 82 (mNxt (vw h) a1)) < min ((vw h) 82 a2) ((vw h) 82 (mNxt (vw h) a2)) → (∀ (w2 : Int32) (u3_ : Option Value), w2.toInt = w32 (a2 + 1) → Pt n X zM218 133 [some (.ref 72), some (.int x1), some (.int w2), u3_] [] h (qI P))) ∧ (min ((vw h) 82 a2) ((vw h) 82 (mNxt (vw h) a2)) ≤ max ((vw h) 82 a1) ((vw h) 82 (mNxt (vw h) a1)) → P 0 h))))))))) ∧ (a2 = w32 ((vw h 72 11) - 1) → (∀ (w2 : Int32) (u3_ : Option Value), w2.toInt = w32 (a2 + 1) → Pt n X zM218 133 [some (.ref 72), some (.int x1), some (.int w2), u3_] [] h (qI P))))))))) : Pt (n + 1) X zM218 133 [some (.ref 72), some (.int x1), some (.int x2), u3] [] h (qI P) := by
  refine pt_1 (fun n d => r_iloadn gx218_133 rfl) ?_
  refine pt_d (pt_1 (fun n d => r_aloadn gx218_134 rfl) ?_)
  refine pt_d (pt_getI (B := 11) gx218_135 S (fun v1 h1 => ?_))
  refine pt_d (pt_icmp_ge gx218_138 z2 h1 (fun e2 => ?_) (fun e2 => ?_))
  · have H := H.1 e2
    refine pt_d (pt_iinc (c := 1) gx218_218 rfl z1 (fun v3 h3 => ?_))
    show Pt _ _ _ _ [some (.ref 72), some (.int v3), some (.int x2), u3] [] _ _
    refine pt_d (pt_1 (fun n d => r_goto gx218_221) ?_)
    exact H v3 _ _ h3
  · have H := H.2 e2
    refine pt_d (pt_1 (fun n d => r_iloadn gx218_141 rfl) ?_)
    refine pt_d (pt_if_ne gx218_142 z1 (fun e4 => ?_) (fun e4 => ?_))
    · have H := H.1 e4
      refine pt_d (pt_1 (fun n d => r_aloadn gx218_158 rfl) ?_)
      refine pt_d (pt_1 (fun n d => r_iloadn gx218_159 rfl) ?_)
      refine pt_d (pt_virt (as := [.int x1]) (r := []) gx218_160 rfl (show zmt[214]? = some zM214 from rfl) rfl rfl rfl rfl (c_214 S z1) (kqP (fun v5 h5 => ?_)))
      show Pt _ _ _ 163 _ [.int v5] _ _
      refine pt_d (pt_1 (fun n d => r_aloadn gx218_163 rfl) ?_)
      refine pt_d (pt_1 (fun n d => r_iloadn gx218_164 rfl) ?_)
      refine pt_d (pt_virt (as := [.int x2]) (r := [.int v5]) gx218_165 rfl (show zmt[215]? = some zM215 from rfl) rfl rfl rfl rfl (c_215 S z2) (kqP (fun v6 h6 => ?_)))
      show Pt _ _ _ 168 _ [.int v6, .int v5] _ _
      refine pt_d (pt_icmp_gt gx218_168 h5 h6 (fun e7 => ?_) (fun e7 => ?_))
      · have H := H.1 e7
        refine pt_d (pt_iinc (c := 1) gx218_212 rfl z2 (fun v8 h8 => ?_))
        show Pt _ _ _ _ [some (.ref 72), some (.int x1), some (.int v8), u3] [] _ _
        refine pt_d (pt_1 (fun n d => r_goto gx218_215) ?_)
        exact H v8 _ h8
      · have H := H.2 e7
        refine pt_d (pt_1 (fun n d => r_aloadn gx218_171 rfl) ?_)
        refine pt_d (pt_1 (fun n d => r_iloadn gx218_172 rfl) ?_)
        refine pt_d (pt_virt (as := [.int x2]) (r := []) gx218_173 rfl (show zmt[214]? = some zM214 from rfl) rfl rfl rfl rfl (c_214 S z2) (kqP (fun v9 h9 => ?_)))
        show Pt _ _ _ 176 _ [.int v9] _ _
        refine pt_d (pt_1 (fun n d => r_aloadn gx218_176 rfl) ?_)
        refine pt_d (pt_1 (fun n d => r_iloadn gx218_177 rfl) ?_)
        refine pt_d (pt_virt (as := [.int x1]) (r := [.int v9]) gx218_178 rfl (show zmt[215]? = some zM215 from rfl) rfl rfl rfl rfl (c_215 S z1) (kqP (fun v10 h10 => ?_)))
        show Pt _ _ _ 181 _ [.int v10, .int v9] _ _
        refine pt_d (pt_icmp_gt gx218_181 h9 h10 (fun e11 => ?_) (fun e11 => ?_))
        · have H := H.1 e11
          refine pt_d (pt_iinc (c := 1) gx218_212 rfl z2 (fun v12 h12 => ?_))
          show Pt _ _ _ _ [some (.ref 72), some (.int x1), some (.int v12), u3] [] _ _
          refine pt_d (pt_1 (fun n d => r_goto gx218_215) ?_)
          exact H v12 _ h12
        · have H := H.2 e11
          refine pt_d (pt_1 (fun n d => r_aloadn gx218_184 rfl) ?_)
          refine pt_d (pt_1 (fun n d => r_iloadn gx218_185 rfl) ?_)
          refine pt_d (pt_virt (as := [.int x1]) (r := []) gx218_186 rfl (show zmt[216]? = some zM216 from rfl) rfl rfl rfl rfl (c_216 S z1) (kqP (fun v13 h13 => ?_)))
          show Pt _ _ _ 189 _ [.int v13] _ _
          refine pt_d (pt_1 (fun n d => r_aloadn gx218_189 rfl) ?_)
          refine pt_d (pt_1 (fun n d => r_iloadn gx218_190 rfl) ?_)
          refine pt_d (pt_virt (as := [.int x2]) (r := [.int v13]) gx218_191 rfl (show zmt[217]? = some zM217 from rfl) rfl rfl rfl rfl (c_217 S z2) (kqP (fun v14 h14 => ?_)))
          show Pt _ _ _ 194 _ [.int v14, .int v13] _ _
          refine pt_d (pt_icmp_gt gx218_194 h13 h14 (fun e15 => ?_) (fun e15 => ?_))
          · have H := H.1 e15
            refine pt_d (pt_iinc (c := 1) gx218_212 rfl z2 (fun v16 h16 => ?_))
            show Pt _ _ _ _ [some (.ref 72), some (.int x1), some (.int v16), u3] [] _ _
            refine pt_d (pt_1 (fun n d => r_goto gx218_215) ?_)
            exact H v16 _ h16
          · have H := H.2 e15
            refine pt_d (pt_1 (fun n d => r_aloadn gx218_197 rfl) ?_)
            refine pt_d (pt_1 (fun n d => r_iloadn gx218_198 rfl) ?_)
            refine pt_d (pt_virt (as := [.int x2]) (r := []) gx218_199 rfl (show zmt[216]? = some zM216 from rfl) rfl rfl rfl rfl (c_216 S z2) (kqP (fun v17 h17 => ?_)))
            show Pt _ _ _ 202 _ [.int v17] _ _
            refine pt_d (pt_1 (fun n d => r_aloadn gx218_202 rfl) ?_)
            refine pt_d (pt_1 (fun n d => r_iloadn gx218_203 rfl) ?_)
            refine pt_d (pt_virt (as := [.int x1]) (r := [.int v17]) gx218_204 rfl (show zmt[217]? = some zM217 from rfl) rfl rfl rfl rfl (c_217 S z1) (kqP (fun v18 h18 => ?_)))
            show Pt _ _ _ 207 _ [.int v18, .int v17] _ _
            refine pt_d (pt_icmp_gt gx218_207 h17 h18 (fun e19 => ?_) (fun e19 => ?_))
            · have H := H.1 e19
              refine pt_d (pt_iinc (c := 1) gx218_212 rfl z2 (fun v20 h20 => ?_))
              show Pt _ _ _ _ [some (.ref 72), some (.int x1), some (.int v20), u3] [] _ _
              refine pt_d (pt_1 (fun n d => r_goto gx218_215) ?_)
              exact H v20 _ h20
            · have H := H.2 e19
              refine pt_d (pt_iconst gx218_210 (fun v21 h21 => ?_))
              exact pt_d (pt_iret gx218_211 ⟨_, rfl, by rw [h21]; exact H⟩)
    · have H := H.2 e4
      refine pt_d (pt_1 (fun n d => r_iloadn gx218_145 rfl) ?_)
      refine pt_d (pt_1 (fun n d => r_aloadn gx218_146 rfl) ?_)
      refine pt_d (pt_getI (B := 11) gx218_147 S (fun v22 h22 => ?_))
      refine pt_d (pt_iconst gx218_150 (fun v23 h23 => ?_))
      refine pt_d (pt_isub gx218_151 h22 h23 (fun v24 h24 => ?_))
      refine pt_d (pt_icmp_ne gx218_152 z2 h24 (fun e25 => ?_) (fun e25 => ?_))
      · have H := H.1 e25
        refine pt_d (pt_1 (fun n d => r_aloadn gx218_158 rfl) ?_)
        refine pt_d (pt_1 (fun n d => r_iloadn gx218_159 rfl) ?_)
        refine pt_d (pt_virt (as := [.int x1]) (r := []) gx218_160 rfl (show zmt[214]? = some zM214 from rfl) rfl rfl rfl rfl (c_214 S z1) (kqP (fun v26 h26 => ?_)))
        show Pt _ _ _ 163 _ [.int v26] _ _
        refine pt_d (pt_1 (fun n d => r_aloadn gx218_163 rfl) ?_)
        refine pt_d (pt_1 (fun n d => r_iloadn gx218_164 rfl) ?_)
        refine pt_d (pt_virt (as := [.int x2]) (r := [.int v26]) gx218_165 rfl (show zmt[215]? = some zM215 from rfl) rfl rfl rfl rfl (c_215 S z2) (kqP (fun v27 h27 => ?_)))
        show Pt _ _ _ 168 _ [.int v27, .int v26] _ _
        refine pt_d (pt_icmp_gt gx218_168 h26 h27 (fun e28 => ?_) (fun e28 => ?_))
        · have H := H.1 e28
          refine pt_d (pt_iinc (c := 1) gx218_212 rfl z2 (fun v29 h29 => ?_))
          show Pt _ _ _ _ [some (.ref 72), some (.int x1), some (.int v29), u3] [] _ _
          refine pt_d (pt_1 (fun n d => r_goto gx218_215) ?_)
          exact H v29 _ h29
        · have H := H.2 e28
          refine pt_d (pt_1 (fun n d => r_aloadn gx218_171 rfl) ?_)
          refine pt_d (pt_1 (fun n d => r_iloadn gx218_172 rfl) ?_)
          refine pt_d (pt_virt (as := [.int x2]) (r := []) gx218_173 rfl (show zmt[214]? = some zM214 from rfl) rfl rfl rfl rfl (c_214 S z2) (kqP (fun v30 h30 => ?_)))
          show Pt _ _ _ 176 _ [.int v30] _ _
          refine pt_d (pt_1 (fun n d => r_aloadn gx218_176 rfl) ?_)
          refine pt_d (pt_1 (fun n d => r_iloadn gx218_177 rfl) ?_)
          refine pt_d (pt_virt (as := [.int x1]) (r := [.int v30]) gx218_178 rfl (show zmt[215]? = some zM215 from rfl) rfl rfl rfl rfl (c_215 S z1) (kqP (fun v31 h31 => ?_)))
          show Pt _ _ _ 181 _ [.int v31, .int v30] _ _
          refine pt_d (pt_icmp_gt gx218_181 h30 h31 (fun e32 => ?_) (fun e32 => ?_))
          · have H := H.1 e32
            refine pt_d (pt_iinc (c := 1) gx218_212 rfl z2 (fun v33 h33 => ?_))
            show Pt _ _ _ _ [some (.ref 72), some (.int x1), some (.int v33), u3] [] _ _
            refine pt_d (pt_1 (fun n d => r_goto gx218_215) ?_)
            exact H v33 _ h33
          · have H := H.2 e32
            refine pt_d (pt_1 (fun n d => r_aloadn gx218_184 rfl) ?_)
            refine pt_d (pt_1 (fun n d => r_iloadn gx218_185 rfl) ?_)
            refine pt_d (pt_virt (as := [.int x1]) (r := []) gx218_186 rfl (show zmt[216]? = some zM216 from rfl) rfl rfl rfl rfl (c_216 S z1) (kqP (fun v34 h34 => ?_)))
            show Pt _ _ _ 189 _ [.int v34] _ _
            refine pt_d (pt_1 (fun n d => r_aloadn gx218_189 rfl) ?_)
            refine pt_d (pt_1 (fun n d => r_iloadn gx218_190 rfl) ?_)
            refine pt_d (pt_virt (as := [.int x2]) (r := [.int v34]) gx218_191 rfl (show zmt[217]? = some zM217 from rfl) rfl rfl rfl rfl (c_217 S z2) (kqP (fun v35 h35 => ?_)))
            show Pt _ _ _ 194 _ [.int v35, .int v34] _ _
            refine pt_d (pt_icmp_gt gx218_194 h34 h35 (fun e36 => ?_) (fun e36 => ?_))
            · have H := H.1 e36
              refine pt_d (pt_iinc (c := 1) gx218_212 rfl z2 (fun v37 h37 => ?_))
              show Pt _ _ _ _ [some (.ref 72), some (.int x1), some (.int v37), u3] [] _ _
              refine pt_d (pt_1 (fun n d => r_goto gx218_215) ?_)
              exact H v37 _ h37
            · have H := H.2 e36
              refine pt_d (pt_1 (fun n d => r_aloadn gx218_197 rfl) ?_)
              refine pt_d (pt_1 (fun n d => r_iloadn gx218_198 rfl) ?_)
              refine pt_d (pt_virt (as := [.int x2]) (r := []) gx218_199 rfl (show zmt[216]? = some zM216 from rfl) rfl rfl rfl rfl (c_216 S z2) (kqP (fun v38 h38 => ?_)))
              show Pt _ _ _ 202 _ [.int v38] _ _
              refine pt_d (pt_1 (fun n d => r_aloadn gx218_202 rfl) ?_)
              refine pt_d (pt_1 (fun n d => r_iloadn gx218_203 rfl) ?_)
              refine pt_d (pt_virt (as := [.int x1]) (r := [.int v38]) gx218_204 rfl (show zmt[217]? = some zM217 from rfl) rfl rfl rfl rfl (c_217 S z1) (kqP (fun v39 h39 => ?_)))
              show Pt _ _ _ 207 _ [.int v39, .int v38] _ _
              refine pt_d (pt_icmp_gt gx218_207 h38 h39 (fun e40 => ?_) (fun e40 => ?_))
              · have H := H.1 e40
                refine pt_d (pt_iinc (c := 1) gx218_212 rfl z2 (fun v41 h41 => ?_))
                show Pt _ _ _ _ [some (.ref 72), some (.int x1), some (.int v41), u3] [] _ _
                refine pt_d (pt_1 (fun n d => r_goto gx218_215) ?_)
                exact H v41 _ h41
              · have H := H.2 e40
                refine pt_d (pt_iconst gx218_210 (fun v42 h42 => ?_))
                exact pt_d (pt_iret gx218_211 ⟨_, rfl, by rw [h42]; exact H⟩)
      · have H := H.2 e25
        refine pt_d (pt_1 (fun n d => r_goto gx218_155) ?_)
        refine pt_d (pt_iinc (c := 1) gx218_212 rfl z2 (fun v43 h43 => ?_))
        show Pt _ _ _ _ [some (.ref 72), some (.int x1), some (.int v43), u3] [] _ _
        refine pt_d (pt_1 (fun n d => r_goto gx218_215) ?_)
        exact H v43 _ h43
def cSound (V : vS) : Prop := 4 ≤ V 13 2 ∧ iRem (V 13 2) 2 = 0 ∧ (∀ i, 0 ≤ i → i < V 13 2 → cWay V i) ∧ ∀ i j, 0 ≤ i → i < j → j < V 13 2 → cNxt V i ≠ j → cNxt V j ≠ i → ¬ cMeet V i j
def mlx (V : vS) (i : Int) : Int := min (V 81 i) (V 81 (mNxt V i))
def mhx (V : vS) (i : Int) : Int := max (V 81 i) (V 81 (mNxt V i))
def mly (V : vS) (i : Int) : Int := min (V 82 i) (V 82 (mNxt V i))
def mhy (V : vS) (i : Int) : Int := max (V 82 i) (V 82 (mNxt V i))
def mWay (V : vS) (i : Int) : Prop := (iRem i 2 = 0 → mly V i = mhy V i ∧ mlx V i < mhx V i) ∧ (iRem i 2 ≠ 0 → mlx V i = mhx V i ∧ mly V i < mhy V i)
def mMeet (V : vS) (i k : Int) : Prop := mlx V i ≤ mhx V k ∧ mlx V k ≤ mhx V i ∧ mly V i ≤ mhy V k ∧ mly V k ≤ mhy V i
def mSound (V : vS) : Prop := 4 ≤ V 72 11 ∧ iRem (V 72 11) 2 ≠ 1 ∧ (∀ i, 0 ≤ i → i < V 72 11 → mWay V i) ∧ ∀ i k, 0 ≤ i → i + 2 ≤ k → k < V 72 11 → ¬ (i = 0 ∧ k = V 72 11 - 1) → ¬ mMeet V i k
theorem w_1 {a : Int} {y : Int32} {k : Int} (h : y.toInt = w32 (a + k)) (h1 : -2147483648 ≤ a + k) (h2 : a + k ≤ 2147483647) : y.toInt = a + k := h.trans (w32_id h1 h2)
theorem l_89 {X : aX} {h : aH} (S : wS h) (hn : vw h 13 2 ≤ 12) (b1 : 4 ≤ vw h 13 2) (b2 : iRem (vw h 13 2) 2 = 0) : ∀ n : Nat, (∀ (x1 : Int32) (u2 : Option Value), 0 ≤ x1.toInt → (∀ k, 0 ≤ k → k < x1.toInt → cWay (vw h) k) → (∀ i j, 0 ≤ i → i < x1.toInt → i < j → j < vw h 13 2 → cNxt (vw h) i ≠ j → cNxt (vw h) j ≠ i → ¬ cMeet (vw h) i j) → Pt n X zM89 21 [some (.ref 13), some (.int x1), u2] [] h (qI (fun y h' => h' = h ∧ y = bI (cSound (vw h))))) ∧ (∀ (x1 x2 : Int32), 0 ≤ x1.toInt → x1.toInt < vw h 13 2 → x1.toInt < x2.toInt → x2.toInt ≤ 13 → (∀ k, 0 ≤ k → k < x1.toInt + 1 → cWay (vw h) k) → (∀ i j, 0 ≤ i → i < x1.toInt → i < j → j < vw h 13 2 → cNxt (vw h) i ≠ j → cNxt (vw h) j ≠ i → ¬ cMeet (vw h) i j) → (∀ j, x1.toInt < j → j < x2.toInt → cNxt (vw h) x1.toInt ≠ j → cNxt (vw h) j ≠ x1.toInt → ¬ cMeet (vw h) x1.toInt j) → Pt n X zM89 43 [some (.ref 13), some (.int x1), some (.int x2)] [] h (qI (fun y h' => h' = h ∧ y = bI (cSound (vw h))))) := by
  intro n
  induction n with
  | zero => exact ⟨fun _ _ _ _ _ => pt_z, fun _ _ _ _ _ _ _ _ _ => pt_z⟩
  | succ n ih =>
    obtain ⟨ih1, ih2⟩ := ih
    constructor
    · intro x1 u2 p w m
      refine d89_21 S rfl ⟨fun e => ⟨rfl, (bI_t ⟨b1, b2, fun i hi hj => w i hi (by omega), fun i j hi hij hj => m i j hi (by omega) hij hj⟩).symm⟩, fun e => ⟨fun e2 y2 h2 => ?_, fun e2 => ⟨rfl, (bI_f (fun q => e2 (q.2.2.1 _ p e))).symm⟩⟩⟩
      have h2 := w_1 h2 (by omega) (by omega)
      refine ih2 x1 y2 p e (by omega) (by omega) (fun k k1 k2 => ?_) m (fun j j1 j2 => by omega)
      by_cases q : k = x1.toInt
      · rw [q]; exact e2
      · exact w k k1 (by omega)
    · intro x1 x2 p e0 p2 p3 w m m2
      have next : ∀ y2 : Int32, y2.toInt = w32 (x2.toInt + 1) → x2.toInt < vw h 13 2 → (cNxt (vw h) x1.toInt ≠ x2.toInt → cNxt (vw h) x2.toInt ≠ x1.toInt → ¬ cMeet (vw h) x1.toInt x2.toInt) → Pt n X zM89 43 [some (.ref 13), some (.int x1), some (.int y2)] [] h (qI (fun y h' => h' = h ∧ y = bI (cSound (vw h)))) := by
        intro y2 h2 e mm
        have h2 := w_1 h2 (by omega) (by omega)
        refine ih2 x1 y2 p e0 (by omega) (by omega) w m (fun j j1 j2 => ?_)
        by_cases q : j = x2.toInt
        · rw [q]; exact mm
        · exact m2 j j1 (by omega)
      refine d89_43 S rfl rfl ⟨fun e y1 u2 h1 => ?_, fun e => ⟨fun e2 y2 h2 => next y2 h2 e (fun q => absurd e2 q), fun e2 => ⟨fun e3 y2 h2 => next y2 h2 e (fun _ q => absurd e3 q), fun e3 => ⟨fun e4 y2 h2 => next y2 h2 e (fun _ _ => e4), fun e4 => ⟨rfl, (bI_f (fun q => q.2.2.2 _ _ p p2 e e2 e3 e4)).symm⟩⟩⟩⟩⟩
      have h1 := w_1 h1 (by omega) (by omega)
      refine ih1 y1 u2 (by omega) (fun k k1 k2 => w k k1 (by omega)) (fun i j i1 i2 => ?_)
      by_cases q : i = x1.toInt
      · rw [q]; exact fun j1 j2 => m2 j j1 (by omega)
      · exact m i j i1 (by omega)
theorem c_89 {n : Nat} {X : aX} {h : aH} (S : wS h) (hn : vw h 13 2 ≤ 12) : Pt n X zM89 0 [some (.ref 13), none, none] [] h (qI (fun y h' => h' = h ∧ y = bI (cSound (vw h)))) := by
  refine pt_d (d89_0 S ⟨fun e => ⟨rfl, (bI_f (fun q => absurd q.1 (by omega))).symm⟩, fun e => ⟨fun e2 y1 u2 h1 => ?_, fun e2 => ⟨rfl, (bI_f (fun q => e2 q.2.1)).symm⟩⟩⟩)
  exact (l_89 S hn e e2 n).1 y1 u2 (by omega) (fun k k1 k2 => by omega) (fun i j i1 i2 => by omega)
theorem l_218a {X : aX} {h : aH} (S : wS h) (hn : vw h 72 11 ≤ 12) (b1 : 4 ≤ vw h 72 11) (b2 : iRem (vw h 72 11) 2 ≠ 1) (w : ∀ k, 0 ≤ k → k < vw h 72 11 → mWay (vw h) k) : ∀ n : Nat, (∀ (x1 : Int32) (u2 u3 : Option Value), 0 ≤ x1.toInt → (∀ i j, 0 ≤ i → i < x1.toInt → i + 2 ≤ j → j < vw h 72 11 → ¬ (i = 0 ∧ j = vw h 72 11 - 1) → ¬ mMeet (vw h) i j) → Pt n X zM218 121 [some (.ref 72), some (.int x1), u2, u3] [] h (qI (fun y h' => h' = h ∧ y = bI (mSound (vw h))))) ∧ (∀ (x1 x2 : Int32) (u3 : Option Value), 0 ≤ x1.toInt → x1.toInt < vw h 72 11 → x1.toInt + 2 ≤ x2.toInt → x2.toInt ≤ 14 → (∀ i j, 0 ≤ i → i < x1.toInt → i + 2 ≤ j → j < vw h 72 11 → ¬ (i = 0 ∧ j = vw h 72 11 - 1) → ¬ mMeet (vw h) i j) → (∀ j, x1.toInt + 2 ≤ j → j < x2.toInt → ¬ (x1.toInt = 0 ∧ j = vw h 72 11 - 1) → ¬ mMeet (vw h) x1.toInt j) → Pt n X zM218 133 [some (.ref 72), some (.int x1), some (.int x2), u3] [] h (qI (fun y h' => h' = h ∧ y = bI (mSound (vw h))))) := by
  intro n
  induction n with
  | zero => exact ⟨fun _ _ _ _ _ => pt_z, fun _ _ _ _ _ _ _ _ _ => pt_z⟩
  | succ n ih =>
    obtain ⟨ih1, ih2⟩ := ih
    constructor
    · intro x1 u2 u3 p m
      refine d218_121 S rfl ⟨fun e => ⟨rfl, (bI_t ⟨b1, b2, w, fun i j hi hij hj => m i j hi (by omega) hij hj⟩).symm⟩, fun e y2 u3' h2 => ?_⟩
      have h2 := w_1 h2 (by omega) (by omega)
      exact ih2 x1 y2 u3' p e (by omega) (by omega) m (fun j j1 j2 => by omega)
    · intro x1 x2 u3 p e0 p2 p3 m m2
      have next : ∀ (y2 : Int32) (u3_ : Option Value), y2.toInt = w32 (x2.toInt + 1) → x2.toInt < vw h 72 11 → (¬ (x1.toInt = 0 ∧ x2.toInt = vw h 72 11 - 1) → ¬ mMeet (vw h) x1.toInt x2.toInt) → Pt n X zM218 133 [some (.ref 72), some (.int x1), some (.int y2), u3_] [] h (qI (fun y h' => h' = h ∧ y = bI (mSound (vw h)))) := by
        intro y2 u3_ h2 e mm
        have h2 := w_1 h2 (by omega) (by omega)
        refine ih2 x1 y2 u3_ p e0 (by omega) (by omega) m (fun j j1 j2 => ?_)
        by_cases q : j = x2.toInt
        · rw [q]; exact mm
        · exact m2 j j1 (by omega)
      have en : w32 ((vw h 72 11) - 1) = vw h 72 11 - 1 := w32_id (by omega) (by omega)
      have no : ∀ {c : Prop}, (c → False) → c → False := fun f c => f c
      refine d218_133 S rfl rfl ⟨fun e y1 u2 u3' h1 => ?_, fun e => ⟨fun e2 => ?_, fun e2 => ⟨fun e3 => ?_, fun e3 y2 u3' h2 => next y2 u3' h2 e (fun q => absurd ⟨e2, by rw [← en]; exact e3⟩ q)⟩⟩⟩
      · have h1 := w_1 h1 (by omega) (by omega)
        refine ih1 y1 u2 u3' (by omega) (fun i j i1 i2 => ?_)
        by_cases q : i = x1.toInt
        · rw [q]; exact fun j1 j2 => m2 j j1 (by omega)
        · exact m i j i1 (by omega)
      all_goals
        refine ⟨fun e4 y2 u3' h2 => next y2 u3' h2 e (fun _ q => ?_), fun e4 => ⟨fun e5 y2 u3' h2 => next y2 u3' h2 e (fun _ q => ?_), fun e5 => ⟨fun e6 y2 u3' h2 => next y2 u3' h2 e (fun _ q => ?_), fun e6 => ⟨fun e7 y2 u3' h2 => next y2 u3' h2 e (fun _ q => ?_), fun e7 => ⟨rfl, (bI_f (fun q => q.2.2.2 x1.toInt x2.toInt p p2 e ?_ ?_)).symm⟩⟩⟩⟩⟩
        · unfold mMeet mlx mhx mly mhy at q; omega
        · unfold mMeet mlx mhx mly mhy at q; omega
        · unfold mMeet mlx mhx mly mhy at q; omega
        · unfold mMeet mlx mhx mly mhy at q; omega
        · omega
        · unfold mMeet mlx mhx mly mhy; omega
theorem l_218b {X : aX} {h : aH} (S : wS h) (hn : vw h 72 11 ≤ 12) (b1 : 4 ≤ vw h 72 11) (b2 : iRem (vw h 72 11) 2 ≠ 1) : ∀ (n : Nat) (x1 : Int32) (u2 u3 : Option Value), 0 ≤ x1.toInt → (∀ k, 0 ≤ k → k < x1.toInt → mWay (vw h) k) → Pt n X zM218 22 [some (.ref 72), some (.int x1), u2, u3] [] h (qI (fun y h' => h' = h ∧ y = bI (mSound (vw h)))) := by
  intro n
  induction n with
  | zero => exact fun _ _ _ _ _ => pt_z
  | succ n ih =>
    intro x1 u2 u3 p w
    have bad : x1.toInt < vw h 72 11 → ¬ mWay (vw h) x1.toInt → (fun (y : Int) (h' : aH) => h' = h ∧ y = bI (mSound (vw h))) 0 h := fun e q => ⟨rfl, (bI_f (fun r => q (r.2.2.1 _ p e))).symm⟩
    have good : ∀ (y1 : Int32) (u2_ u3_ : Option Value), x1.toInt < vw h 72 11 → mWay (vw h) x1.toInt → y1.toInt = w32 (x1.toInt + 1) → Pt n X zM218 22 [some (.ref 72), some (.int y1), u2_, u3_] [] h (qI (fun y h' => h' = h ∧ y = bI (mSound (vw h)))) := by
      intro y1 u2_ u3_ e q h1
      have h1 := w_1 h1 (by omega) (by omega)
      refine ih y1 u2_ u3_ (by omega) (fun k k1 k2 => ?_)
      by_cases r : k = x1.toInt
      · rw [r]; exact q
      · exact w k k1 (by omega)
    refine d218_22 S rfl ⟨fun e y1 u2_ u3_ h1 => ?_, fun e => ?_⟩
    · exact (l_218a S hn b1 b2 (fun k k1 k2 => w k k1 (by omega)) n).1 y1 u2_ u3_ (by omega) (fun i j i1 i2 => by omega)
    repeat' (first
      | exact bad e (by unfold mWay mlx mhx mly mhy; omega)
      | exact good _ _ _ e (by unfold mWay mlx mhx mly mhy; omega) (by assumption)
      | (refine And.intro ?_ ?_ <;> intros))
theorem c_218 {n : Nat} {X : aX} {h : aH} (S : wS h) (hn : vw h 72 11 ≤ 12) : Pt n X zM218 0 [some (.ref 72), none, none, none] [] h (qI (fun y h' => h' = h ∧ y = bI (mSound (vw h)))) := by
  refine pt_d (d218_0 S ⟨fun e => ⟨rfl, (bI_f (fun q => absurd q.1 (by omega))).symm⟩, fun e => ⟨fun e2 y1 u2 u3 h1 => ?_, fun e2 => ⟨rfl, (bI_f (fun q => q.2.1 e2)).symm⟩⟩⟩)
  exact l_218b S hn e e2 n y1 u2 u3 (by omega) (fun k k1 k2 => by omega)
-- the two sides' rings
def JRing (V : vS) : Prop := V 13 2 = V 72 11 ∧ (∀ j, V 14 j = V 81 j) ∧ (∀ j, V 15 j = V 82 j) ∧ 0 ≤ V 13 2 ∧ V 13 2 ≤ 12
theorem nxt_c {V : vS} {i : Int} (hn : V 13 2 ≤ 12) (h0 : 0 ≤ i) (h1 : i < V 13 2) : cNxt V i = if i + 1 < V 13 2 then i + 1 else 0 := by
  unfold cNxt
  rw [w32_id (by omega) (by omega)]
theorem nxt_m {V : vS} {i : Int} (hn : V 72 11 ≤ 12) (h0 : 0 ≤ i) (h1 : i < V 72 11) : mNxt V i = if i + 1 < V 72 11 then i + 1 else 0 := by
  unfold mNxt
  rw [w32_id (by omega) (by omega), iRem_pos (by omega) (by omega) (by omega) (by omega)]
  split
  · exact Int.emod_eq_of_lt (by omega) (by omega)
  · rw [show i + 1 = V 72 11 by omega, Int.emod_self]
theorem nxt_j {V : vS} (J : JRing V) {i : Int} (h0 : 0 ≤ i) (h1 : i < V 13 2) : cNxt V i = mNxt V i := by
  obtain ⟨j1, -, -, j4, j5⟩ := J
  rw [nxt_c j5 h0 h1, nxt_m (by omega) h0 (by omega), j1]
theorem way_j {V : vS} (J : JRing V) {i : Int} (h0 : 0 ≤ i) (h1 : i < V 13 2) : cWay V i ↔ mWay V i := by
  unfold cWay mWay mlx mhx mly mhy
  rw [nxt_j J h0 h1, J.2.1, J.2.1, J.2.2.1, J.2.2.1]
  omega
theorem meet_j {V : vS} (J : JRing V) {i j : Int} (h0 : 0 ≤ i) (h1 : i < V 13 2) (h2 : 0 ≤ j) (h3 : j < V 13 2) : cMeet V i j ↔ mMeet V i j := by
  unfold cMeet mMeet mlx mhx mly mhy ovl
  rw [nxt_j J h0 h1, nxt_j J h2 h3, J.2.1, J.2.1, J.2.1, J.2.1, J.2.2.1, J.2.2.1, J.2.2.1, J.2.2.1]
  omega
theorem sound_j {V : vS} (J : JRing V) : cSound V ↔ mSound V := by
  have J' := J
  obtain ⟨j1, j2, j3, j4, j5⟩ := J'
  unfold cSound mSound
  rw [← j1]
  have er : ∀ k : Int, 4 ≤ k → k ≤ 12 → (iRem k 2 = 0 ↔ iRem k 2 ≠ 1) := by
    intro k k1 k2
    rw [iRem_pos (by omega) (by omega) (by omega) (by omega)]
    omega
  constructor
  · rintro ⟨a, b, c, d⟩
    refine ⟨a, (er _ a j5).mp b, fun i i1 i2 => (way_j J i1 i2).mp (c i i1 i2), fun i k i1 i2 i3 i4 i5 => ?_⟩
    refine d i k i1 (by omega) i3 ?_ ?_ ((meet_j J i1 (by omega) (by omega) i3).mpr i5)
    · rw [nxt_c j5 i1 (by omega)]; split <;> omega
    · rw [nxt_c j5 (by omega) i3]; split <;> omega
  · rintro ⟨a, b, c, d⟩
    refine ⟨a, (er _ a j5).mpr b, fun i i1 i2 => (way_j J i1 i2).mpr (c i i1 i2), fun i k i1 i2 i3 i4 i5 i6 => ?_⟩
    rw [nxt_c j5 i1 (by omega)] at i4
    rw [nxt_c j5 (by omega) i3] at i5
    refine d i k i1 ?_ i3 ?_ ((meet_j J i1 (by omega) (by omega) i3).mp i6)
    · split at i4 <;> omega
    · rintro ⟨q1, q2⟩
      split at i5 <;> omega


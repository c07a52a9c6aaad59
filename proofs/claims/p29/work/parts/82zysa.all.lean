-- ===== seasons: the model reckons all =====
theorem gx241_0 : aF 0 zM241.2.2.2.2.2.2.2 = some (0, (.aload_n 0), 1, 0, 0) := by decide +kernel
theorem gx241_1 : aF 1 zM241.2.2.2.2.2.2.2 = some (1, (.iload 4), 2, 0, 0) := by decide +kernel
theorem gx241_3 : aF 3 zM241.2.2.2.2.2.2.2 = some (3, (.invokevirtual 368), 3, 239, 0) := by decide +kernel
theorem gx241_6 : aF 6 zM241.2.2.2.2.2.2.2 = some (6, (.iconst 0), 1, 0, 0) := by decide +kernel
theorem gx241_7 : aF 7 zM241.2.2.2.2.2.2.2 = some (7, (.istore 5), 2, 0, 0) := by decide +kernel
theorem gx241_9 : aF 9 zM241.2.2.2.2.2.2.2 = some (9, (.iload 5), 2, 0, 0) := by decide +kernel
theorem gx241_11 : aF 11 zM241.2.2.2.2.2.2.2 = some (11, (.aload_n 0), 1, 0, 0) := by decide +kernel
theorem gx241_12 : aF 12 zM241.2.2.2.2.2.2.2 = some (12, (.getfield 336), 3, 12, 19) := by decide +kernel
theorem gx241_15 : aF 15 zM241.2.2.2.2.2.2.2 = some (15, (.if_icmp .ge 54), 3, 69, 0) := by decide +kernel
theorem gx241_69 : aF 69 zM241.2.2.2.2.2.2.2 = some (69, (.iconst (-1)), 1, 0, 0) := by decide +kernel
theorem gx241_70 : aF 70 zM241.2.2.2.2.2.2.2 = some (70, .ireturn, 1, 0, 0) := by decide +kernel
theorem gx241_18 : aF 18 zM241.2.2.2.2.2.2.2 = some (18, (.aload_n 0), 1, 0, 0) := by decide +kernel
theorem gx241_19 : aF 19 zM241.2.2.2.2.2.2.2 = some (19, (.getfield 108), 3, 12, 40) := by decide +kernel
theorem gx241_22 : aF 22 zM241.2.2.2.2.2.2.2 = some (22, (.iload 5), 2, 0, 0) := by decide +kernel
theorem gx241_24 : aF 24 zM241.2.2.2.2.2.2.2 = some (24, .baload, 1, 0, 0) := by decide +kernel
theorem gx241_25 : aF 25 zM241.2.2.2.2.2.2.2 = some (25, (.ifCond .eq 38), 3, 63, 0) := by decide +kernel
theorem gx241_63 : aF 63 zM241.2.2.2.2.2.2.2 = some (63, (.iinc 5 1), 3, 0, 0) := by decide +kernel
theorem gx241_66 : aF 66 zM241.2.2.2.2.2.2.2 = some (66, (.goto (-57)), 3, 9, 0) := by decide +kernel
theorem gx241_28 : aF 28 zM241.2.2.2.2.2.2.2 = some (28, (.aload_n 0), 1, 0, 0) := by decide +kernel
theorem gx241_29 : aF 29 zM241.2.2.2.2.2.2.2 = some (29, (.getfield 52), 3, 12, 20) := by decide +kernel
theorem gx241_32 : aF 32 zM241.2.2.2.2.2.2.2 = some (32, (.iload 5), 2, 0, 0) := by decide +kernel
theorem gx241_34 : aF 34 zM241.2.2.2.2.2.2.2 = some (34, .iaload, 1, 0, 0) := by decide +kernel
theorem gx241_35 : aF 35 zM241.2.2.2.2.2.2.2 = some (35, (.iload_n 1), 1, 0, 0) := by decide +kernel
theorem gx241_36 : aF 36 zM241.2.2.2.2.2.2.2 = some (36, (.if_icmp .ne 27), 3, 63, 0) := by decide +kernel
theorem gx241_39 : aF 39 zM241.2.2.2.2.2.2.2 = some (39, (.aload_n 0), 1, 0, 0) := by decide +kernel
theorem gx241_40 : aF 40 zM241.2.2.2.2.2.2.2 = some (40, (.getfield 55), 3, 12, 21) := by decide +kernel
theorem gx241_43 : aF 43 zM241.2.2.2.2.2.2.2 = some (43, (.iload 5), 2, 0, 0) := by decide +kernel
theorem gx241_45 : aF 45 zM241.2.2.2.2.2.2.2 = some (45, .iaload, 1, 0, 0) := by decide +kernel
theorem gx241_46 : aF 46 zM241.2.2.2.2.2.2.2 = some (46, (.iload_n 2), 1, 0, 0) := by decide +kernel
theorem gx241_47 : aF 47 zM241.2.2.2.2.2.2.2 = some (47, (.if_icmp .ne 16), 3, 63, 0) := by decide +kernel
theorem gx241_50 : aF 50 zM241.2.2.2.2.2.2.2 = some (50, (.aload_n 0), 1, 0, 0) := by decide +kernel
theorem gx241_51 : aF 51 zM241.2.2.2.2.2.2.2 = some (51, (.iload 5), 2, 0, 0) := by decide +kernel
theorem gx241_53 : aF 53 zM241.2.2.2.2.2.2.2 = some (53, (.invokevirtual 342), 3, 229, 0) := by decide +kernel
theorem gx241_56 : aF 56 zM241.2.2.2.2.2.2.2 = some (56, (.iload_n 3), 1, 0, 0) := by decide +kernel
theorem gx241_57 : aF 57 zM241.2.2.2.2.2.2.2 = some (57, (.if_icmp .ne 6), 3, 63, 0) := by decide +kernel
theorem gx241_60 : aF 60 zM241.2.2.2.2.2.2.2 = some (60, (.iload 5), 2, 0, 0) := by decide +kernel
theorem gx241_62 : aF 62 zM241.2.2.2.2.2.2.2 = some (62, .ireturn, 1, 0, 0) := by decide +kernel
theorem gx242_0 : aF 0 zM242.2.2.2.2.2.2.2 = some (0, (.aload_n 0), 1, 0, 0) := by decide +kernel
theorem gx242_1 : aF 1 zM242.2.2.2.2.2.2.2 = some (1, (.iload_n 1), 1, 0, 0) := by decide +kernel
theorem gx242_2 : aF 2 zM242.2.2.2.2.2.2.2 = some (2, (.invokevirtual 316), 3, 202, 0) := by decide +kernel
theorem gx242_5 : aF 5 zM242.2.2.2.2.2.2.2 = some (5, (.ifCond .eq 36), 3, 41, 0) := by decide +kernel
theorem gx242_41 : aF 41 zM242.2.2.2.2.2.2.2 = some (41, (.iconst (-1)), 1, 0, 0) := by decide +kernel
theorem gx242_42 : aF 42 zM242.2.2.2.2.2.2.2 = some (42, .ireturn, 1, 0, 0) := by decide +kernel
theorem gx242_8 : aF 8 zM242.2.2.2.2.2.2.2 = some (8, (.aload_n 0), 1, 0, 0) := by decide +kernel
theorem gx242_9 : aF 9 zM242.2.2.2.2.2.2.2 = some (9, (.iload_n 2), 1, 0, 0) := by decide +kernel
theorem gx242_10 : aF 10 zM242.2.2.2.2.2.2.2 = some (10, (.invokevirtual 322), 3, 203, 0) := by decide +kernel
theorem gx242_13 : aF 13 zM242.2.2.2.2.2.2.2 = some (13, (.ifCond .eq 28), 3, 41, 0) := by decide +kernel
theorem gx242_16 : aF 16 zM242.2.2.2.2.2.2.2 = some (16, (.iload_n 3), 1, 0, 0) := by decide +kernel
theorem gx242_17 : aF 17 zM242.2.2.2.2.2.2.2 = some (17, (.invokestatic 372), 3, 198, 0) := by decide +kernel
theorem gx242_20 : aF 20 zM242.2.2.2.2.2.2.2 = some (20, (.ifCond .eq 21), 3, 41, 0) := by decide +kernel
theorem gx242_23 : aF 23 zM242.2.2.2.2.2.2.2 = some (23, (.iload 4), 2, 0, 0) := by decide +kernel
theorem gx242_25 : aF 25 zM242.2.2.2.2.2.2.2 = some (25, (.invokestatic 325), 3, 197, 0) := by decide +kernel
theorem gx242_28 : aF 28 zM242.2.2.2.2.2.2.2 = some (28, (.ifCond .eq 13), 3, 41, 0) := by decide +kernel
theorem gx242_31 : aF 31 zM242.2.2.2.2.2.2.2 = some (31, (.iload 5), 2, 0, 0) := by decide +kernel
theorem gx242_33 : aF 33 zM242.2.2.2.2.2.2.2 = some (33, (.iconst 0), 1, 0, 0) := by decide +kernel
theorem gx242_34 : aF 34 zM242.2.2.2.2.2.2.2 = some (34, (.iconst 4), 1, 0, 0) := by decide +kernel
theorem gx242_35 : aF 35 zM242.2.2.2.2.2.2.2 = some (35, (.invokestatic 258), 3, 196, 0) := by decide +kernel
theorem gx242_38 : aF 38 zM242.2.2.2.2.2.2.2 = some (38, (.ifCond .ne 5), 3, 43, 0) := by decide +kernel
theorem gx242_43 : aF 43 zM242.2.2.2.2.2.2.2 = some (43, (.aload_n 0), 1, 0, 0) := by decide +kernel
theorem gx242_44 : aF 44 zM242.2.2.2.2.2.2.2 = some (44, (.iload_n 1), 1, 0, 0) := by decide +kernel
theorem gx242_45 : aF 45 zM242.2.2.2.2.2.2.2 = some (45, (.iload_n 2), 1, 0, 0) := by decide +kernel
theorem gx242_46 : aF 46 zM242.2.2.2.2.2.2.2 = some (46, (.iload_n 3), 1, 0, 0) := by decide +kernel
theorem gx242_47 : aF 47 zM242.2.2.2.2.2.2.2 = some (47, (.iload 4), 2, 0, 0) := by decide +kernel
theorem gx242_49 : aF 49 zM242.2.2.2.2.2.2.2 = some (49, (.invokevirtual 375), 3, 241, 0) := by decide +kernel
theorem gx242_52 : aF 52 zM242.2.2.2.2.2.2.2 = some (52, (.istore 6), 2, 0, 0) := by decide +kernel
theorem gx242_54 : aF 54 zM242.2.2.2.2.2.2.2 = some (54, (.iload 6), 2, 0, 0) := by decide +kernel
theorem gx242_56 : aF 56 zM242.2.2.2.2.2.2.2 = some (56, (.ifCond .ge 6), 3, 62, 0) := by decide +kernel
theorem gx242_62 : aF 62 zM242.2.2.2.2.2.2.2 = some (62, (.iload 5), 2, 0, 0) := by decide +kernel
theorem gx242_64 : aF 64 zM242.2.2.2.2.2.2.2 = some (64, (.ifCond .ne 13), 3, 77, 0) := by decide +kernel
theorem gx242_77 : aF 77 zM242.2.2.2.2.2.2.2 = some (77, (.iload 5), 2, 0, 0) := by decide +kernel
theorem gx242_79 : aF 79 zM242.2.2.2.2.2.2.2 = some (79, (.iconst 1), 1, 0, 0) := by decide +kernel
theorem gx242_80 : aF 80 zM242.2.2.2.2.2.2.2 = some (80, (.if_icmp .ne 13), 3, 93, 0) := by decide +kernel
theorem gx242_93 : aF 93 zM242.2.2.2.2.2.2.2 = some (93, (.iload 5), 2, 0, 0) := by decide +kernel
theorem gx242_95 : aF 95 zM242.2.2.2.2.2.2.2 = some (95, (.iconst 2), 1, 0, 0) := by decide +kernel
theorem gx242_96 : aF 96 zM242.2.2.2.2.2.2.2 = some (96, (.if_icmp .ne 13), 3, 109, 0) := by decide +kernel
theorem gx242_109 : aF 109 zM242.2.2.2.2.2.2.2 = some (109, (.iload 5), 2, 0, 0) := by decide +kernel
theorem gx242_111 : aF 111 zM242.2.2.2.2.2.2.2 = some (111, (.iconst 3), 1, 0, 0) := by decide +kernel
theorem gx242_112 : aF 112 zM242.2.2.2.2.2.2.2 = some (112, (.if_icmp .ne 13), 3, 125, 0) := by decide +kernel
theorem gx242_125 : aF 125 zM242.2.2.2.2.2.2.2 = some (125, (.aload_n 0), 1, 0, 0) := by decide +kernel
theorem gx242_126 : aF 126 zM242.2.2.2.2.2.2.2 = some (126, (.iload 6), 2, 0, 0) := by decide +kernel
theorem gx242_128 : aF 128 zM242.2.2.2.2.2.2.2 = some (128, (.invokevirtual 379), 3, 240, 0) := by decide +kernel
theorem gx242_131 : aF 131 zM242.2.2.2.2.2.2.2 = some (131, .ireturn, 1, 0, 0) := by decide +kernel
theorem gx242_115 : aF 115 zM242.2.2.2.2.2.2.2 = some (115, (.aload_n 0), 1, 0, 0) := by decide +kernel
theorem gx242_116 : aF 116 zM242.2.2.2.2.2.2.2 = some (116, (.getfield 118), 3, 12, 43) := by decide +kernel
theorem gx242_119 : aF 119 zM242.2.2.2.2.2.2.2 = some (119, (.iload 6), 2, 0, 0) := by decide +kernel
theorem gx242_121 : aF 121 zM242.2.2.2.2.2.2.2 = some (121, .iaload, 1, 0, 0) := by decide +kernel
theorem gx242_122 : aF 122 zM242.2.2.2.2.2.2.2 = some (122, (.goto 9), 3, 131, 0) := by decide +kernel
theorem gx242_99 : aF 99 zM242.2.2.2.2.2.2.2 = some (99, (.aload_n 0), 1, 0, 0) := by decide +kernel
theorem gx242_100 : aF 100 zM242.2.2.2.2.2.2.2 = some (100, (.getfield 58), 3, 12, 22) := by decide +kernel
theorem gx242_103 : aF 103 zM242.2.2.2.2.2.2.2 = some (103, (.iload 6), 2, 0, 0) := by decide +kernel
theorem gx242_105 : aF 105 zM242.2.2.2.2.2.2.2 = some (105, .iaload, 1, 0, 0) := by decide +kernel
theorem gx242_106 : aF 106 zM242.2.2.2.2.2.2.2 = some (106, (.goto 25), 3, 131, 0) := by decide +kernel
theorem gx242_83 : aF 83 zM242.2.2.2.2.2.2.2 = some (83, (.aload_n 0), 1, 0, 0) := by decide +kernel
theorem gx242_84 : aF 84 zM242.2.2.2.2.2.2.2 = some (84, (.getfield 115), 3, 12, 42) := by decide +kernel
theorem gx242_87 : aF 87 zM242.2.2.2.2.2.2.2 = some (87, (.iload 6), 2, 0, 0) := by decide +kernel
theorem gx242_89 : aF 89 zM242.2.2.2.2.2.2.2 = some (89, .iaload, 1, 0, 0) := by decide +kernel
theorem gx242_90 : aF 90 zM242.2.2.2.2.2.2.2 = some (90, (.goto 41), 3, 131, 0) := by decide +kernel
theorem gx242_67 : aF 67 zM242.2.2.2.2.2.2.2 = some (67, (.aload_n 0), 1, 0, 0) := by decide +kernel
theorem gx242_68 : aF 68 zM242.2.2.2.2.2.2.2 = some (68, (.getfield 112), 3, 12, 41) := by decide +kernel
theorem gx242_71 : aF 71 zM242.2.2.2.2.2.2.2 = some (71, (.iload 6), 2, 0, 0) := by decide +kernel
theorem gx242_73 : aF 73 zM242.2.2.2.2.2.2.2 = some (73, .iaload, 1, 0, 0) := by decide +kernel
theorem gx242_74 : aF 74 zM242.2.2.2.2.2.2.2 = some (74, (.goto 57), 3, 131, 0) := by decide +kernel
theorem gx242_59 : aF 59 zM242.2.2.2.2.2.2.2 = some (59, (.bipush (-2)), 2, 0, 0) := by decide +kernel
theorem gx242_61 : aF 61 zM242.2.2.2.2.2.2.2 = some (61, .ireturn, 1, 0, 0) := by decide +kernel
theorem gx243_0 : aF 0 zM243.2.2.2.2.2.2.2 = some (0, (.aload_n 0), 1, 0, 0) := by decide +kernel
theorem gx243_1 : aF 1 zM243.2.2.2.2.2.2.2 = some (1, (.iload_n 1), 1, 0, 0) := by decide +kernel
theorem gx243_2 : aF 2 zM243.2.2.2.2.2.2.2 = some (2, (.invokevirtual 316), 3, 202, 0) := by decide +kernel
theorem gx243_5 : aF 5 zM243.2.2.2.2.2.2.2 = some (5, (.ifCond .eq 30), 3, 35, 0) := by decide +kernel
theorem gx243_35 : aF 35 zM243.2.2.2.2.2.2.2 = some (35, (.iconst (-1)), 1, 0, 0) := by decide +kernel
theorem gx243_36 : aF 36 zM243.2.2.2.2.2.2.2 = some (36, .ireturn, 1, 0, 0) := by decide +kernel
theorem gx243_8 : aF 8 zM243.2.2.2.2.2.2.2 = some (8, (.aload_n 0), 1, 0, 0) := by decide +kernel
theorem gx243_9 : aF 9 zM243.2.2.2.2.2.2.2 = some (9, (.iload_n 2), 1, 0, 0) := by decide +kernel
theorem gx243_10 : aF 10 zM243.2.2.2.2.2.2.2 = some (10, (.invokevirtual 322), 3, 203, 0) := by decide +kernel
theorem gx243_13 : aF 13 zM243.2.2.2.2.2.2.2 = some (13, (.ifCond .eq 22), 3, 35, 0) := by decide +kernel
theorem gx243_16 : aF 16 zM243.2.2.2.2.2.2.2 = some (16, (.iload_n 3), 1, 0, 0) := by decide +kernel
theorem gx243_17 : aF 17 zM243.2.2.2.2.2.2.2 = some (17, (.invokestatic 372), 3, 198, 0) := by decide +kernel
theorem gx243_20 : aF 20 zM243.2.2.2.2.2.2.2 = some (20, (.ifCond .eq 15), 3, 35, 0) := by decide +kernel
theorem gx243_23 : aF 23 zM243.2.2.2.2.2.2.2 = some (23, (.iload 4), 2, 0, 0) := by decide +kernel
theorem gx243_25 : aF 25 zM243.2.2.2.2.2.2.2 = some (25, (.iconst 0), 1, 0, 0) := by decide +kernel
theorem gx243_26 : aF 26 zM243.2.2.2.2.2.2.2 = some (26, (.sipush 576), 3, 0, 0) := by decide +kernel
theorem gx243_29 : aF 29 zM243.2.2.2.2.2.2.2 = some (29, (.invokestatic 258), 3, 196, 0) := by decide +kernel
theorem gx243_32 : aF 32 zM243.2.2.2.2.2.2.2 = some (32, (.ifCond .ne 5), 3, 37, 0) := by decide +kernel
theorem gx243_37 : aF 37 zM243.2.2.2.2.2.2.2 = some (37, (.aload_n 0), 1, 0, 0) := by decide +kernel
theorem gx243_38 : aF 38 zM243.2.2.2.2.2.2.2 = some (38, (.iload_n 1), 1, 0, 0) := by decide +kernel
theorem gx243_39 : aF 39 zM243.2.2.2.2.2.2.2 = some (39, (.iload_n 2), 1, 0, 0) := by decide +kernel
theorem gx243_40 : aF 40 zM243.2.2.2.2.2.2.2 = some (40, (.iload_n 3), 1, 0, 0) := by decide +kernel
theorem gx243_41 : aF 41 zM243.2.2.2.2.2.2.2 = some (41, (.aload_n 0), 1, 0, 0) := by decide +kernel
theorem gx243_42 : aF 42 zM243.2.2.2.2.2.2.2 = some (42, (.getfield 262), 3, 12, 1) := by decide +kernel
theorem gx243_45 : aF 45 zM243.2.2.2.2.2.2.2 = some (45, (.invokevirtual 375), 3, 241, 0) := by decide +kernel
theorem gx243_48 : aF 48 zM243.2.2.2.2.2.2.2 = some (48, (.ifCond .ge 6), 3, 54, 0) := by decide +kernel
theorem gx243_54 : aF 54 zM243.2.2.2.2.2.2.2 = some (54, (.aload_n 0), 1, 0, 0) := by decide +kernel
theorem gx243_55 : aF 55 zM243.2.2.2.2.2.2.2 = some (55, (.getfield 352), 3, 12, 32) := by decide +kernel
theorem gx243_58 : aF 58 zM243.2.2.2.2.2.2.2 = some (58, (.sipush 200), 3, 0, 0) := by decide +kernel
theorem gx243_61 : aF 61 zM243.2.2.2.2.2.2.2 = some (61, (.if_icmp .ne 6), 3, 67, 0) := by decide +kernel
theorem gx243_67 : aF 67 zM243.2.2.2.2.2.2.2 = some (67, (.aload_n 0), 1, 0, 0) := by decide +kernel
theorem gx243_68 : aF 68 zM243.2.2.2.2.2.2.2 = some (68, (.getfield 85), 3, 12, 33) := by decide +kernel
theorem gx243_71 : aF 71 zM243.2.2.2.2.2.2.2 = some (71, (.aload_n 0), 1, 0, 0) := by decide +kernel
theorem gx243_72 : aF 72 zM243.2.2.2.2.2.2.2 = some (72, (.getfield 352), 3, 12, 32) := by decide +kernel
theorem gx243_75 : aF 75 zM243.2.2.2.2.2.2.2 = some (75, (.iload_n 1), 1, 0, 0) := by decide +kernel
theorem gx243_76 : aF 76 zM243.2.2.2.2.2.2.2 = some (76, .iastore, 1, 0, 0) := by decide +kernel
theorem gx243_77 : aF 77 zM243.2.2.2.2.2.2.2 = some (77, (.aload_n 0), 1, 0, 0) := by decide +kernel
theorem gx243_78 : aF 78 zM243.2.2.2.2.2.2.2 = some (78, (.getfield 88), 3, 12, 34) := by decide +kernel
theorem gx243_81 : aF 81 zM243.2.2.2.2.2.2.2 = some (81, (.aload_n 0), 1, 0, 0) := by decide +kernel
theorem gx243_82 : aF 82 zM243.2.2.2.2.2.2.2 = some (82, (.getfield 352), 3, 12, 32) := by decide +kernel
theorem gx243_85 : aF 85 zM243.2.2.2.2.2.2.2 = some (85, (.iload_n 2), 1, 0, 0) := by decide +kernel
theorem gx243_86 : aF 86 zM243.2.2.2.2.2.2.2 = some (86, .iastore, 1, 0, 0) := by decide +kernel
theorem gx243_87 : aF 87 zM243.2.2.2.2.2.2.2 = some (87, (.aload_n 0), 1, 0, 0) := by decide +kernel
theorem gx243_88 : aF 88 zM243.2.2.2.2.2.2.2 = some (88, (.getfield 91), 3, 12, 35) := by decide +kernel
theorem gx243_91 : aF 91 zM243.2.2.2.2.2.2.2 = some (91, (.aload_n 0), 1, 0, 0) := by decide +kernel
theorem gx243_92 : aF 92 zM243.2.2.2.2.2.2.2 = some (92, (.getfield 352), 3, 12, 32) := by decide +kernel
theorem gx243_95 : aF 95 zM243.2.2.2.2.2.2.2 = some (95, (.iload_n 3), 1, 0, 0) := by decide +kernel
theorem gx243_96 : aF 96 zM243.2.2.2.2.2.2.2 = some (96, .iastore, 1, 0, 0) := by decide +kernel
theorem gx243_97 : aF 97 zM243.2.2.2.2.2.2.2 = some (97, (.aload_n 0), 1, 0, 0) := by decide +kernel
theorem gx243_98 : aF 98 zM243.2.2.2.2.2.2.2 = some (98, (.getfield 94), 3, 12, 36) := by decide +kernel
theorem gx243_101 : aF 101 zM243.2.2.2.2.2.2.2 = some (101, (.aload_n 0), 1, 0, 0) := by decide +kernel
theorem gx243_102 : aF 102 zM243.2.2.2.2.2.2.2 = some (102, (.getfield 352), 3, 12, 32) := by decide +kernel
theorem gx243_105 : aF 105 zM243.2.2.2.2.2.2.2 = some (105, (.iload 4), 2, 0, 0) := by decide +kernel
theorem gx243_107 : aF 107 zM243.2.2.2.2.2.2.2 = some (107, .iastore, 1, 0, 0) := by decide +kernel
theorem gx243_108 : aF 108 zM243.2.2.2.2.2.2.2 = some (108, (.aload_n 0), 1, 0, 0) := by decide +kernel
theorem gx243_109 : aF 109 zM243.2.2.2.2.2.2.2 = some (109, (.getfield 97), 3, 12, 37) := by decide +kernel
theorem gx243_112 : aF 112 zM243.2.2.2.2.2.2.2 = some (112, (.aload_n 0), 1, 0, 0) := by decide +kernel
theorem gx243_113 : aF 113 zM243.2.2.2.2.2.2.2 = some (113, (.getfield 352), 3, 12, 32) := by decide +kernel
theorem gx243_116 : aF 116 zM243.2.2.2.2.2.2.2 = some (116, (.aload_n 0), 1, 0, 0) := by decide +kernel
theorem gx243_117 : aF 117 zM243.2.2.2.2.2.2.2 = some (117, (.getfield 262), 3, 12, 1) := by decide +kernel
theorem gx243_120 : aF 120 zM243.2.2.2.2.2.2.2 = some (120, .iastore, 1, 0, 0) := by decide +kernel
theorem gx243_121 : aF 121 zM243.2.2.2.2.2.2.2 = some (121, (.aload_n 0), 1, 0, 0) := by decide +kernel
theorem gx243_122 : aF 122 zM243.2.2.2.2.2.2.2 = some (122, .dup, 1, 0, 0) := by decide +kernel
theorem gx243_123 : aF 123 zM243.2.2.2.2.2.2.2 = some (123, (.getfield 352), 3, 12, 32) := by decide +kernel
theorem gx243_126 : aF 126 zM243.2.2.2.2.2.2.2 = some (126, (.iconst 1), 1, 0, 0) := by decide +kernel
theorem gx243_127 : aF 127 zM243.2.2.2.2.2.2.2 = some (127, .iadd, 1, 0, 0) := by decide +kernel
theorem gx243_128 : aF 128 zM243.2.2.2.2.2.2.2 = some (128, (.putfield 352), 3, 12, 32) := by decide +kernel
theorem gx243_131 : aF 131 zM243.2.2.2.2.2.2.2 = some (131, (.aload_n 0), 1, 0, 0) := by decide +kernel
theorem gx243_132 : aF 132 zM243.2.2.2.2.2.2.2 = some (132, (.iconst 1), 1, 0, 0) := by decide +kernel
theorem gx243_133 : aF 133 zM243.2.2.2.2.2.2.2 = some (133, (.putfield 100), 3, 12, 38) := by decide +kernel
theorem gx243_136 : aF 136 zM243.2.2.2.2.2.2.2 = some (136, (.aload_n 0), 1, 0, 0) := by decide +kernel
theorem gx243_137 : aF 137 zM243.2.2.2.2.2.2.2 = some (137, (.getfield 352), 3, 12, 32) := by decide +kernel
theorem gx243_140 : aF 140 zM243.2.2.2.2.2.2.2 = some (140, .ireturn, 1, 0, 0) := by decide +kernel
theorem gx243_64 : aF 64 zM243.2.2.2.2.2.2.2 = some (64, (.bipush (-3)), 2, 0, 0) := by decide +kernel
theorem gx243_66 : aF 66 zM243.2.2.2.2.2.2.2 = some (66, .ireturn, 1, 0, 0) := by decide +kernel
theorem gx243_51 : aF 51 zM243.2.2.2.2.2.2.2 = some (51, (.bipush (-2)), 2, 0, 0) := by decide +kernel
theorem gx243_53 : aF 53 zM243.2.2.2.2.2.2.2 = some (53, .ireturn, 1, 0, 0) := by decide +kernel
def agR (V W : vS) : Prop := ∀ (c : Nat) j, (c < 103 ∨ 110 < c) → (c ≠ 72 ∨ j ≠ 38 ∧ j ≠ 39) → W c j = V c j
theorem agR_r (V : vS) : agR V V := fun _ _ _ _ => rfl
theorem agR_x {V W : vS} (A : agR V W) (c : Nat) (j : Int) (h : c < 103) (h2 : c ≠ 72) : W c j = V c j := A c j (Or.inl h) (Or.inl h2)
theorem agR_y {V W : vS} (A : agR V W) {j : Int} (h1 : j ≠ 38) (h2 : j ≠ 39) : W 72 j = V 72 j := A 72 j (Or.inl (by decide)) (Or.inr ⟨h1, h2⟩)
def agM (V W : vS) : Prop := (∀ (c : Nat) j, 72 < c → c < 103 → W c j = V c j) ∧ W 72 19 = V 72 19 ∧ W 72 25 = V 72 25 ∧ W 72 32 = V 72 32
theorem agM_x {V W : vS} (A : agM V W) (c : Nat) (j : Int) (h : 72 < c) (h2 : c < 103) : W c j = V c j := A.1 c j h h2
theorem agM_19 {V W : vS} (A : agM V W) : W 72 19 = V 72 19 := A.2.1
theorem agM_25 {V W : vS} (A : agM V W) : W 72 25 = V 72 25 := A.2.2.1
theorem agM_32 {V W : vS} (A : agM V W) : W 72 32 = V 72 32 := A.2.2.2
theorem agR_m {V W : vS} (A : agR V W) : agM V W := ⟨fun c j h h2 => agR_x A c j h2 (by omega), agR_y A (by decide) (by decide), agR_y A (by decide) (by decide), agR_y A (by decide) (by decide)⟩
theorem lat_m {V W : vS} (A : agM V W) (c o k : Int) : lat W c o k ↔ lat V c o k := by
  unfold lat
  rw [agM_x A 90 o (by decide) (by decide), agM_x A 87 o (by decide) (by decide), agM_x A 87 c (by decide) (by decide), agM_x A 88 o (by decide) (by decide), agM_x A 88 c (by decide) (by decide), agM_x A 90 c (by decide) (by decide)]
theorem lat_r {V W : vS} (A : agR V W) (c o k : Int) : lat W c o k ↔ lat V c o k := lat_m (agR_m A) c o k
theorem mcn_m {V W : vS} (A : agM V W) (c k : Int) : mcn W c k ↔ mcn V c k := by
  have e77 : ∀ j, W 77 j = V 77 j := fun j => agM_x A 77 j (by decide) (by decide)
  unfold mcn
  simp only [lat_m A, agM_x A 90 c (by decide) (by decide), agM_x A 88 c (by decide) (by decide), e77, agM_19 A]
theorem mcn_r {V W : vS} (A : agR V W) (c k : Int) : mcn W c k ↔ mcn V c k := mcn_m (agR_m A) c k
theorem mmg_s (V : vS) (c k : Int) (i : Nat) : mmg V c k (i + 1) = if V 98 (i : Nat) = V 87 c ∧ V 99 (i : Nat) = V 88 c ∧ V 100 (i : Nat) = iDiv (V 90 c) 365 ∧ V 102 (i : Nat) ≤ k then V 101 (i : Nat) else mmg V c k i := rfl
theorem mmg_m {V W : vS} (A : agM V W) (c k : Int) (i : Nat) : mmg W c k i = mmg V c k i := by
  induction i with
  | zero => rfl
  | succ i ih =>
    rw [mmg_s, mmg_s, ih, agM_x A 98 _ (by decide) (by decide), agM_x A 99 _ (by decide) (by decide), agM_x A 100 _ (by decide) (by decide), agM_x A 101 _ (by decide) (by decide), agM_x A 102 _ (by decide) (by decide), agM_x A 87 c (by decide) (by decide), agM_x A 88 c (by decide) (by decide), agM_x A 90 c (by decide) (by decide)]
theorem mmg_r {V W : vS} (A : agR V W) (c k : Int) (i : Nat) : mmg W c k i = mmg V c k i := mmg_m (agR_m A) c k i
theorem isO_m {V W : vS} (A : agM V W) (x y yr k : Int) : isO W x y yr k ↔ isO V x y yr k := by
  have e : ∀ i, oHm W x y yr k i ↔ oHm V x y yr k i := fun i => by
    unfold oHm
    rw [agM_x A 97 i (by decide) (by decide), agM_x A 96 i (by decide) (by decide), agM_x A 92 i (by decide) (by decide), agM_x A 93 i (by decide) (by decide), agM_x A 94 i (by decide) (by decide), agM_x A 95 i (by decide) (by decide)]
  unfold isO
  simp only [e, agM_25 A]
theorem isO_r {V W : vS} (A : agR V W) (x y yr k : Int) : isO W x y yr k ↔ isO V x y yr k := isO_m (agR_m A) x y yr k
theorem InM_m {V W : vS} (A : agM V W) (c q : Int) : InM W c q ↔ InM V c q := by
  unfold InM
  rw [agM_x A 88 c (by decide) (by decide)]
  exact isI_c (fun j => agM_x A 80 j (by decide) (by decide)) _ _
theorem InM_r {V W : vS} (A : agR V W) (c q : Int) : InM W c q ↔ InM V c q := InM_m (agR_m A) c q
def LkM (V : vS) (k yr c : Int) : Prop := mcn V c k ∧ iDiv (V 90 c) 365 = yr
def DB (V : vS) (k yr q : Int) : Prop := ∃ c1 c2, ((0 ≤ c1 ∧ c1 < V 72 19) ∧ LkM V k yr c1 ∧ InM V c1 q) ∧ ((0 ≤ c2 ∧ c2 < V 72 19) ∧ LkM V k yr c2 ∧ InM V c2 q) ∧ V 87 c1 ≠ V 87 c2
def tkQ (V : vS) (k yr c q : Int) : Prop := ∃ o, ((0 ≤ o ∧ o < V 72 19) ∧ LkM V k yr o ∧ InM V o q) ∧ V 87 o = V 87 c ∧ V 88 o < V 88 c
def gdR (V : vS) (k yr c q : Int) : Prop := InM V c q ∧ ¬ DB V k yr q ∧ ¬ isO V (q % 24) (q / 24) yr k ∧ ¬ tkQ V k yr c q
def bdR (V : vS) (k yr c q : Int) : Prop := InM V c q ∧ DB V k yr q
noncomputable def vG (V : vS) (k c : Int) : Int := nQ (gdR V k (iDiv (V 90 c) 365) c) 576
noncomputable def vB (V : vS) (k c : Int) : Int := nQ (bdR V k (iDiv (V 90 c) 365) c) 576
noncomputable def vF (V : vS) (k c : Int) : Int := if 0 ≤ w32 (vG V k c - mmg V c k (V 72 32).toNat) then w32 (vG V k c - mmg V c k (V 72 32).toNat) else 0
def rk (V W : vS) (k : Int) : Prop := ∀ c, 0 ≤ c → c < V 72 19 → W 103 c = bI (mcn V c k)
def rv (V W : vS) (k c : Int) : Prop := W 104 c = vG V k c ∧ W 106 c = vB V k c ∧ W 105 c = vF V k c
def rvs (V W : vS) (k y : Int) : Prop := ∀ c, 0 ≤ c → c < V 72 19 → mcn V c k → 0 ≤ iDiv (V 90 c) 365 → iDiv (V 90 c) 365 < y → rv V W k c
def fl (V W : vS) (k y : Int) : Prop := ∀ q, 0 ≤ q → q < 576 → W 109 q = bI (isO V (q % 24) (q / 24) y k) ∧ (W 108 q = 0 ↔ ¬ DB V k y q)
def M239 (V W : vS) (k : Int) : Prop := agR V W ∧ (W 72 38 = 0 ∧ W 72 39 = k) ∧ rk V W k
def R239 (V : vS) (k : Int) (W : vS) : Prop := M239 V W k ∧ rvs V W k 10
theorem lvm {V W : vS} {k yr c : Int} (A : agR V W) (K : rk V W k) (c0 : 0 ≤ c) (cN : c < V 72 19) : LvM W yr c ↔ LkM V k yr c := by
  unfold LvM LkM
  rw [K c c0 cN, agR_x A 90 c (by decide) (by decide)]
  refine and_congr ⟨fun z => Classical.byContradiction (fun w => z (bI_f w)), fun z => by rw [bI_t z]; decide⟩ Iff.rfl
theorem fl_of {V W W1 : vS} {k y : Int} (A : agR V W) (K : rk V W k) (R : R236 W y k W1) : agR V W1 ∧ rk V W1 k ∧ fl V W1 k y := by
  have e19 : W 72 19 = V 72 19 := agR_y A (by decide) (by decide)
  have e87 : ∀ j, W 87 j = V 87 j := fun j => agR_x A 87 j (by decide) (by decide)
  refine ⟨fun c j z1 z2 => (R.1 c j (by omega) (by omega) (by omega)).trans (A c j z1 z2), fun c c0 cN => (R.1 103 c (by decide) (by decide) (by decide)).trans (K c c0 cN), fun q a b => ⟨(R.2 q a b).1.trans (bI_c (isO_r A _ _ _ _)), ?_⟩⟩
  have f := (R.2 q a b).2
  rw [e19] at f
  rcases f with ⟨-, no, z8⟩ | ⟨g, ⟨c', b', d⟩, e⟩
  · exact ⟨fun _ ⟨c1, _, h1, _⟩ => no c1 h1.1.1 h1.1.2 ((lvm A K h1.1.1 h1.1.2).mpr h1.2.1) ((InM_r A c1 q).mpr h1.2.2), fun _ => z8⟩
  · rcases e with ⟨z8, al⟩ | ⟨z8, c2, b2, l2, i2, ne⟩
    · refine ⟨fun _ ⟨c1, c2, h1, h2, ne⟩ => ne ?_, fun _ => z8⟩
      rw [← e87, ← e87, al c1 h1.1.1 h1.1.2 ((lvm A K h1.1.1 h1.1.2).mpr h1.2.1) ((InM_r A c1 q).mpr h1.2.2), al c2 h2.1.1 h2.1.2 ((lvm A K h2.1.1 h2.1.2).mpr h2.2.1) ((InM_r A c2 q).mpr h2.2.2)]
    · refine ⟨fun z => by rw [z8] at z; exact absurd z (by decide), fun z => absurd ⟨c', c2, ⟨b', (lvm A K b'.1 b'.2).mp d.1, (InM_r A c' q).mp d.2.1⟩, ⟨b2, (lvm A K b2.1 b2.2).mp l2, (InM_r A c2 q).mp i2⟩, ?_⟩ z⟩
      rw [← e87, ← e87, d.2.2]
      exact fun w => ne w.symm
theorem gd_r {V W : vS} {k y c : Int} (A : agR V W) (K : rk V W k) (F : fl V W k y) {q : Int} (a : 0 ≤ q) (b : q < 576) : gdM W y c q ↔ gdR V k y c q := by
  have e19 : W 72 19 = V 72 19 := agR_y A (by decide) (by decide)
  have e87 : ∀ j, W 87 j = V 87 j := fun j => agR_x A 87 j (by decide) (by decide)
  have e88 : ∀ j, W 88 j = V 88 j := fun j => agR_x A 88 j (by decide) (by decide)
  refine and_congr (InM_r A c q) (and_congr (F q a b).2 (and_congr ?_ (not_congr ⟨fun ⟨o, ho, t, i⟩ => ?_, fun ⟨o, ⟨ho, l, i⟩, f, g⟩ => ?_⟩)))
  · rw [(F q a b).1]
    exact bI_0
  · rw [e19] at ho
    exact ⟨o, ⟨ho, (lvm A K ho.1 ho.2).mp t.1, (InM_r A o q).mp i⟩, by rw [← e87, ← e87]; exact t.2.1, by rw [← e88, ← e88]; exact t.2.2⟩
  · exact ⟨o, ⟨ho.1, by rw [e19]; exact ho.2⟩, ⟨(lvm A K ho.1 ho.2).mpr l, by rw [e87, e87]; exact f, by rw [e88, e88]; exact g⟩, (InM_r A o q).mpr i⟩
theorem bd_r {V W : vS} {k y c : Int} (A : agR V W) (F : fl V W k y) {q : Int} (a : 0 ≤ q) (b : q < 576) : bdM W c q ↔ bdR V k y c q := by
  refine and_congr (InM_r A c q) ⟨fun z => Classical.byContradiction (fun w => z ((F q a b).2.mpr w)), fun z w => (F q a b).2.mp w z⟩
theorem st_238 {V W W1 : vS} {k y c : Int} (A : agR V W) (K : rk V W k) (F : fl V W k y) (ey : iDiv (V 90 c) 365 = y) (R : R238 W c y W1) : W1 104 c = vG V k c ∧ W1 106 c = vB V k c ∧ ∀ (c' : Nat) j, c' ≠ 110 → (c' ≠ 104 ∧ c' ≠ 106 ∨ j ≠ c) → W1 c' j = W c' j := by
  have e1 : nQ (gdM W y c) 576 = vG V k c := by
    unfold vG
    rw [ey]
    exact nQ_c 576 (fun q a b => gd_r A K F a b)
  have e2 : nQ (bdM W c) 576 = vB V k c := by
    unfold vB
    rw [ey]
    exact nQ_c 576 (fun q a b => bd_r A F a b)
  refine ⟨by rw [R 104 c (by decide), up_c (by decide), up_s, e1], by rw [R 106 c (by decide), up_s, e2], fun c' j n z => ?_⟩
  rw [R c' j n]
  rcases z with z | z
  · rw [up_c z.2, up_c z.1]
  · rw [up_j z, up_j z]
theorem rv_c {V W W' : vS} {k c : Int} (h : rv V W k c) (h4 : W' 104 c = W 104 c) (h6 : W' 106 c = W 106 c) (h5 : W' 105 c = W 105 c) : rv V W' k c := ⟨h4.trans h.1, h6.trans h.2.1, h5.trans h.2.2⟩


-- ===== 82zysa.all: 4 texts =====
section
-- ===== seasons: the model reckons all =====
theorem gx241_0 : aF 0 zM241.2.2.2.2.2.2.2 = some (0, (.aload_n 0), 1, 0, 0) := by decide +kernel
theorem gx241_1 : aF 1 zM241.2.2.2.2.2.2.2 = some (1, (.iload 4), 2, 0, 0) := by decide +kernel
theorem gx241_3 : aF 3 zM241.2.2.2.2.2.2.2 = some (3, (.invokevirtual 368), 3, 239, 0) := by decide +kernel
theorem gx241_6 : aF 6 zM241.2.2.2.2.2.2.2 = some (6, (.iconst 0), 1, 0, 0) := by decide +kernel
theorem gx241_7 : aF 7 zM241.2.2.2.2.2.2.2 = some (7, (.istore 5), 2, 0, 0) := by decide +kernel
theorem gx241_9 : aF 9 zM241.2.2.2.2.2.2.2 = some (9, (.iload 5), 2, 0, 0) := by decide +kernel
theorem gx241_11 : aF 11 zM241.2.2.2.2.2.2.2 = some (11, (.aload_n 0), 1, 0, 0) := by decide +kernel
theorem gx241_12 : aF 12 zM241.2.2.2.2.2.2.2 = some (12, (.getfield 336), 3, 12, 19) := by decide +kernel
theorem gx241_15 : aF 15 zM241.2.2.2.2.2.2.2 = some (15, (.if_icmp .ge 54), 3, 69, 0) := by decide +kernel
theorem gx241_69 : aF 69 zM241.2.2.2.2.2.2.2 = some (69, (.iconst (-1)), 1, 0, 0) := by decide +kernel
theorem gx241_70 : aF 70 zM241.2.2.2.2.2.2.2 = some (70, .ireturn, 1, 0, 0) := by decide +kernel
theorem gx241_18 : aF 18 zM241.2.2.2.2.2.2.2 = some (18, (.aload_n 0), 1, 0, 0) := by decide +kernel
theorem gx241_19 : aF 19 zM241.2.2.2.2.2.2.2 = some (19, (.getfield 108), 3, 12, 40) := by decide +kernel
theorem gx241_22 : aF 22 zM241.2.2.2.2.2.2.2 = some (22, (.iload 5), 2, 0, 0) := by decide +kernel
theorem gx241_24 : aF 24 zM241.2.2.2.2.2.2.2 = some (24, .baload, 1, 0, 0) := by decide +kernel
theorem gx241_25 : aF 25 zM241.2.2.2.2.2.2.2 = some (25, (.ifCond .eq 38), 3, 63, 0) := by decide +kernel
theorem gx241_63 : aF 63 zM241.2.2.2.2.2.2.2 = some (63, (.iinc 5 1), 3, 0, 0) := by decide +kernel
theorem gx241_66 : aF 66 zM241.2.2.2.2.2.2.2 = some (66, (.goto (-57)), 3, 9, 0) := by decide +kernel
theorem gx241_28 : aF 28 zM241.2.2.2.2.2.2.2 = some (28, (.aload_n 0), 1, 0, 0) := by decide +kernel
theorem gx241_29 : aF 29 zM241.2.2.2.2.2.2.2 = some (29, (.getfield 52), 3, 12, 20) := by decide +kernel
theorem gx241_32 : aF 32 zM241.2.2.2.2.2.2.2 = some (32, (.iload 5), 2, 0, 0) := by decide +kernel
theorem gx241_34 : aF 34 zM241.2.2.2.2.2.2.2 = some (34, .iaload, 1, 0, 0) := by decide +kernel
theorem gx241_35 : aF 35 zM241.2.2.2.2.2.2.2 = some (35, (.iload_n 1), 1, 0, 0) := by decide +kernel
theorem gx241_36 : aF 36 zM241.2.2.2.2.2.2.2 = some (36, (.if_icmp .ne 27), 3, 63, 0) := by decide +kernel
theorem gx241_39 : aF 39 zM241.2.2.2.2.2.2.2 = some (39, (.aload_n 0), 1, 0, 0) := by decide +kernel
theorem gx241_40 : aF 40 zM241.2.2.2.2.2.2.2 = some (40, (.getfield 55), 3, 12, 21) := by decide +kernel
theorem gx241_43 : aF 43 zM241.2.2.2.2.2.2.2 = some (43, (.iload 5), 2, 0, 0) := by decide +kernel
theorem gx241_45 : aF 45 zM241.2.2.2.2.2.2.2 = some (45, .iaload, 1, 0, 0) := by decide +kernel
theorem gx241_46 : aF 46 zM241.2.2.2.2.2.2.2 = some (46, (.iload_n 2), 1, 0, 0) := by decide +kernel
theorem gx241_47 : aF 47 zM241.2.2.2.2.2.2.2 = some (47, (.if_icmp .ne 16), 3, 63, 0) := by decide +kernel
theorem gx241_50 : aF 50 zM241.2.2.2.2.2.2.2 = some (50, (.aload_n 0), 1, 0, 0) := by decide +kernel
theorem gx241_51 : aF 51 zM241.2.2.2.2.2.2.2 = some (51, (.iload 5), 2, 0, 0) := by decide +kernel
theorem gx241_53 : aF 53 zM241.2.2.2.2.2.2.2 = some (53, (.invokevirtual 342), 3, 229, 0) := by decide +kernel
theorem gx241_56 : aF 56 zM241.2.2.2.2.2.2.2 = some (56, (.iload_n 3), 1, 0, 0) := by decide +kernel
theorem gx241_57 : aF 57 zM241.2.2.2.2.2.2.2 = some (57, (.if_icmp .ne 6), 3, 63, 0) := by decide +kernel
theorem gx241_60 : aF 60 zM241.2.2.2.2.2.2.2 = some (60, (.iload 5), 2, 0, 0) := by decide +kernel
theorem gx241_62 : aF 62 zM241.2.2.2.2.2.2.2 = some (62, .ireturn, 1, 0, 0) := by decide +kernel
theorem gx242_0 : aF 0 zM242.2.2.2.2.2.2.2 = some (0, (.aload_n 0), 1, 0, 0) := by decide +kernel
theorem gx242_1 : aF 1 zM242.2.2.2.2.2.2.2 = some (1, (.iload_n 1), 1, 0, 0) := by decide +kernel
theorem gx242_2 : aF 2 zM242.2.2.2.2.2.2.2 = some (2, (.invokevirtual 316), 3, 202, 0) := by decide +kernel
theorem gx242_5 : aF 5 zM242.2.2.2.2.2.2.2 = some (5, (.ifCond .eq 36), 3, 41, 0) := by decide +kernel
theorem gx242_41 : aF 41 zM242.2.2.2.2.2.2.2 = some (41, (.iconst (-1)), 1, 0, 0) := by decide +kernel
theorem gx242_42 : aF 42 zM242.2.2.2.2.2.2.2 = some (42, .ireturn, 1, 0, 0) := by decide +kernel
theorem gx242_8 : aF 8 zM242.2.2.2.2.2.2.2 = some (8, (.aload_n 0), 1, 0, 0) := by decide +kernel
theorem gx242_9 : aF 9 zM242.2.2.2.2.2.2.2 = some (9, (.iload_n 2), 1, 0, 0) := by decide +kernel
theorem gx242_10 : aF 10 zM242.2.2.2.2.2.2.2 = some (10, (.invokevirtual 322), 3, 203, 0) := by decide +kernel
theorem gx242_13 : aF 13 zM242.2.2.2.2.2.2.2 = some (13, (.ifCond .eq 28), 3, 41, 0) := by decide +kernel
theorem gx242_16 : aF 16 zM242.2.2.2.2.2.2.2 = some (16, (.iload_n 3), 1, 0, 0) := by decide +kernel
theorem gx242_17 : aF 17 zM242.2.2.2.2.2.2.2 = some (17, (.invokestatic 372), 3, 198, 0) := by decide +kernel
theorem gx242_20 : aF 20 zM242.2.2.2.2.2.2.2 = some (20, (.ifCond .eq 21), 3, 41, 0) := by decide +kernel
theorem gx242_23 : aF 23 zM242.2.2.2.2.2.2.2 = some (23, (.iload 4), 2, 0, 0) := by decide +kernel
theorem gx242_25 : aF 25 zM242.2.2.2.2.2.2.2 = some (25, (.invokestatic 325), 3, 197, 0) := by decide +kernel
theorem gx242_28 : aF 28 zM242.2.2.2.2.2.2.2 = some (28, (.ifCond .eq 13), 3, 41, 0) := by decide +kernel
theorem gx242_31 : aF 31 zM242.2.2.2.2.2.2.2 = some (31, (.iload 5), 2, 0, 0) := by decide +kernel
theorem gx242_33 : aF 33 zM242.2.2.2.2.2.2.2 = some (33, (.iconst 0), 1, 0, 0) := by decide +kernel
theorem gx242_34 : aF 34 zM242.2.2.2.2.2.2.2 = some (34, (.iconst 4), 1, 0, 0) := by decide +kernel
theorem gx242_35 : aF 35 zM242.2.2.2.2.2.2.2 = some (35, (.invokestatic 258), 3, 196, 0) := by decide +kernel
theorem gx242_38 : aF 38 zM242.2.2.2.2.2.2.2 = some (38, (.ifCond .ne 5), 3, 43, 0) := by decide +kernel
theorem gx242_43 : aF 43 zM242.2.2.2.2.2.2.2 = some (43, (.aload_n 0), 1, 0, 0) := by decide +kernel
theorem gx242_44 : aF 44 zM242.2.2.2.2.2.2.2 = some (44, (.iload_n 1), 1, 0, 0) := by decide +kernel
theorem gx242_45 : aF 45 zM242.2.2.2.2.2.2.2 = some (45, (.iload_n 2), 1, 0, 0) := by decide +kernel
theorem gx242_46 : aF 46 zM242.2.2.2.2.2.2.2 = some (46, (.iload_n 3), 1, 0, 0) := by decide +kernel
theorem gx242_47 : aF 47 zM242.2.2.2.2.2.2.2 = some (47, (.iload 4), 2, 0, 0) := by decide +kernel
theorem gx242_49 : aF 49 zM242.2.2.2.2.2.2.2 = some (49, (.invokevirtual 375), 3, 241, 0) := by decide +kernel
theorem gx242_52 : aF 52 zM242.2.2.2.2.2.2.2 = some (52, (.istore 6), 2, 0, 0) := by decide +kernel
theorem gx242_54 : aF 54 zM242.2.2.2.2.2.2.2 = some (54, (.iload 6), 2, 0, 0) := by decide +kernel
theorem gx242_56 : aF 56 zM242.2.2.2.2.2.2.2 = some (56, (.ifCond .ge 6), 3, 62, 0) := by decide +kernel
theorem gx242_62 : aF 62 zM242.2.2.2.2.2.2.2 = some (62, (.iload 5), 2, 0, 0) := by decide +kernel
theorem gx242_64 : aF 64 zM242.2.2.2.2.2.2.2 = some (64, (.ifCond .ne 13), 3, 77, 0) := by decide +kernel
theorem gx242_77 : aF 77 zM242.2.2.2.2.2.2.2 = some (77, (.iload 5), 2, 0, 0) := by decide +kernel
theorem gx242_79 : aF 79 zM242.2.2.2.2.2.2.2 = some (79, (.iconst 1), 1, 0, 0) := by decide +kernel
theorem gx242_80 : aF 80 zM242.2.2.2.2.2.2.2 = some (80, (.if_icmp .ne 13), 3, 93, 0) := by decide +kernel
theorem gx242_93 : aF 93 zM242.2.2.2.2.2.2.2 = some (93, (.iload 5), 2, 0, 0) := by decide +kernel
theorem gx242_95 : aF 95 zM242.2.2.2.2.2.2.2 = some (95, (.iconst 2), 1, 0, 0) := by decide +kernel
theorem gx242_96 : aF 96 zM242.2.2.2.2.2.2.2 = some (96, (.if_icmp .ne 13), 3, 109, 0) := by decide +kernel
theorem gx242_109 : aF 109 zM242.2.2.2.2.2.2.2 = some (109, (.iload 5), 2, 0, 0) := by decide +kernel
theorem gx242_111 : aF 111 zM242.2.2.2.2.2.2.2 = some (111, (.iconst 3), 1, 0, 0) := by decide +kernel
theorem gx242_112 : aF 112 zM242.2.2.2.2.2.2.2 = some (112, (.if_icmp .ne 13), 3, 125, 0) := by decide +kernel
theorem gx242_125 : aF 125 zM242.2.2.2.2.2.2.2 = some (125, (.aload_n 0), 1, 0, 0) := by decide +kernel
theorem gx242_126 : aF 126 zM242.2.2.2.2.2.2.2 = some (126, (.iload 6), 2, 0, 0) := by decide +kernel
theorem gx242_128 : aF 128 zM242.2.2.2.2.2.2.2 = some (128, (.invokevirtual 379), 3, 240, 0) := by decide +kernel
theorem gx242_131 : aF 131 zM242.2.2.2.2.2.2.2 = some (131, .ireturn, 1, 0, 0) := by decide +kernel
theorem gx242_115 : aF 115 zM242.2.2.2.2.2.2.2 = some (115, (.aload_n 0), 1, 0, 0) := by decide +kernel
theorem gx242_116 : aF 116 zM242.2.2.2.2.2.2.2 = some (116, (.getfield 118), 3, 12, 43) := by decide +kernel
theorem gx242_119 : aF 119 zM242.2.2.2.2.2.2.2 = some (119, (.iload 6), 2, 0, 0) := by decide +kernel
theorem gx242_121 : aF 121 zM242.2.2.2.2.2.2.2 = some (121, .iaload, 1, 0, 0) := by decide +kernel
theorem gx242_122 : aF 122 zM242.2.2.2.2.2.2.2 = some (122, (.goto 9), 3, 131, 0) := by decide +kernel
theorem gx242_99 : aF 99 zM242.2.2.2.2.2.2.2 = some (99, (.aload_n 0), 1, 0, 0) := by decide +kernel
theorem gx242_100 : aF 100 zM242.2.2.2.2.2.2.2 = some (100, (.getfield 58), 3, 12, 22) := by decide +kernel
theorem gx242_103 : aF 103 zM242.2.2.2.2.2.2.2 = some (103, (.iload 6), 2, 0, 0) := by decide +kernel
theorem gx242_105 : aF 105 zM242.2.2.2.2.2.2.2 = some (105, .iaload, 1, 0, 0) := by decide +kernel
theorem gx242_106 : aF 106 zM242.2.2.2.2.2.2.2 = some (106, (.goto 25), 3, 131, 0) := by decide +kernel
theorem gx242_83 : aF 83 zM242.2.2.2.2.2.2.2 = some (83, (.aload_n 0), 1, 0, 0) := by decide +kernel
theorem gx242_84 : aF 84 zM242.2.2.2.2.2.2.2 = some (84, (.getfield 115), 3, 12, 42) := by decide +kernel
theorem gx242_87 : aF 87 zM242.2.2.2.2.2.2.2 = some (87, (.iload 6), 2, 0, 0) := by decide +kernel
theorem gx242_89 : aF 89 zM242.2.2.2.2.2.2.2 = some (89, .iaload, 1, 0, 0) := by decide +kernel
theorem gx242_90 : aF 90 zM242.2.2.2.2.2.2.2 = some (90, (.goto 41), 3, 131, 0) := by decide +kernel
theorem gx242_67 : aF 67 zM242.2.2.2.2.2.2.2 = some (67, (.aload_n 0), 1, 0, 0) := by decide +kernel
theorem gx242_68 : aF 68 zM242.2.2.2.2.2.2.2 = some (68, (.getfield 112), 3, 12, 41) := by decide +kernel
theorem gx242_71 : aF 71 zM242.2.2.2.2.2.2.2 = some (71, (.iload 6), 2, 0, 0) := by decide +kernel
theorem gx242_73 : aF 73 zM242.2.2.2.2.2.2.2 = some (73, .iaload, 1, 0, 0) := by decide +kernel
theorem gx242_74 : aF 74 zM242.2.2.2.2.2.2.2 = some (74, (.goto 57), 3, 131, 0) := by decide +kernel
theorem gx242_59 : aF 59 zM242.2.2.2.2.2.2.2 = some (59, (.bipush (-2)), 2, 0, 0) := by decide +kernel
theorem gx242_61 : aF 61 zM242.2.2.2.2.2.2.2 = some (61, .ireturn, 1, 0, 0) := by decide +kernel
theorem gx243_0 : aF 0 zM243.2.2.2.2.2.2.2 = some (0, (.aload_n 0), 1, 0, 0) := by decide +kernel
theorem gx243_1 : aF 1 zM243.2.2.2.2.2.2.2 = some (1, (.iload_n 1), 1, 0, 0) := by decide +kernel
theorem gx243_2 : aF 2 zM243.2.2.2.2.2.2.2 = some (2, (.invokevirtual 316), 3, 202, 0) := by decide +kernel
theorem gx243_5 : aF 5 zM243.2.2.2.2.2.2.2 = some (5, (.ifCond .eq 30), 3, 35, 0) := by decide +kernel
theorem gx243_35 : aF 35 zM243.2.2.2.2.2.2.2 = some (35, (.iconst (-1)), 1, 0, 0) := by decide +kernel
theorem gx243_36 : aF 36 zM243.2.2.2.2.2.2.2 = some (36, .ireturn, 1, 0, 0) := by decide +kernel
theorem gx243_8 : aF 8 zM243.2.2.2.2.2.2.2 = some (8, (.aload_n 0), 1, 0, 0) := by decide +kernel
theorem gx243_9 : aF 9 zM243.2.2.2.2.2.2.2 = some (9, (.iload_n 2), 1, 0, 0) := by decide +kernel
theorem gx243_10 : aF 10 zM243.2.2.2.2.2.2.2 = some (10, (.invokevirtual 322), 3, 203, 0) := by decide +kernel
theorem gx243_13 : aF 13 zM243.2.2.2.2.2.2.2 = some (13, (.ifCond .eq 22), 3, 35, 0) := by decide +kernel
theorem gx243_16 : aF 16 zM243.2.2.2.2.2.2.2 = some (16, (.iload_n 3), 1, 0, 0) := by decide +kernel
theorem gx243_17 : aF 17 zM243.2.2.2.2.2.2.2 = some (17, (.invokestatic 372), 3, 198, 0) := by decide +kernel
theorem gx243_20 : aF 20 zM243.2.2.2.2.2.2.2 = some (20, (.ifCond .eq 15), 3, 35, 0) := by decide +kernel
theorem gx243_23 : aF 23 zM243.2.2.2.2.2.2.2 = some (23, (.iload 4), 2, 0, 0) := by decide +kernel
theorem gx243_25 : aF 25 zM243.2.2.2.2.2.2.2 = some (25, (.iconst 0), 1, 0, 0) := by decide +kernel
theorem gx243_26 : aF 26 zM243.2.2.2.2.2.2.2 = some (26, (.sipush 576), 3, 0, 0) := by decide +kernel
theorem gx243_29 : aF 29 zM243.2.2.2.2.2.2.2 = some (29, (.invokestatic 258), 3, 196, 0) := by decide +kernel
theorem gx243_32 : aF 32 zM243.2.2.2.2.2.2.2 = some (32, (.ifCond .ne 5), 3, 37, 0) := by decide +kernel
theorem gx243_37 : aF 37 zM243.2.2.2.2.2.2.2 = some (37, (.aload_n 0), 1, 0, 0) := by decide +kernel
theorem gx243_38 : aF 38 zM243.2.2.2.2.2.2.2 = some (38, (.iload_n 1), 1, 0, 0) := by decide +kernel
theorem gx243_39 : aF 39 zM243.2.2.2.2.2.2.2 = some (39, (.iload_n 2), 1, 0, 0) := by decide +kernel
theorem gx243_40 : aF 40 zM243.2.2.2.2.2.2.2 = some (40, (.iload_n 3), 1, 0, 0) := by decide +kernel
theorem gx243_41 : aF 41 zM243.2.2.2.2.2.2.2 = some (41, (.aload_n 0), 1, 0, 0) := by decide +kernel
theorem gx243_42 : aF 42 zM243.2.2.2.2.2.2.2 = some (42, (.getfield 262), 3, 12, 1) := by decide +kernel
theorem gx243_45 : aF 45 zM243.2.2.2.2.2.2.2 = some (45, (.invokevirtual 375), 3, 241, 0) := by decide +kernel
theorem gx243_48 : aF 48 zM243.2.2.2.2.2.2.2 = some (48, (.ifCond .ge 6), 3, 54, 0) := by decide +kernel
theorem gx243_54 : aF 54 zM243.2.2.2.2.2.2.2 = some (54, (.aload_n 0), 1, 0, 0) := by decide +kernel
theorem gx243_55 : aF 55 zM243.2.2.2.2.2.2.2 = some (55, (.getfield 352), 3, 12, 32) := by decide +kernel
theorem gx243_58 : aF 58 zM243.2.2.2.2.2.2.2 = some (58, (.sipush 200), 3, 0, 0) := by decide +kernel
theorem gx243_61 : aF 61 zM243.2.2.2.2.2.2.2 = some (61, (.if_icmp .ne 6), 3, 67, 0) := by decide +kernel
theorem gx243_67 : aF 67 zM243.2.2.2.2.2.2.2 = some (67, (.aload_n 0), 1, 0, 0) := by decide +kernel
theorem gx243_68 : aF 68 zM243.2.2.2.2.2.2.2 = some (68, (.getfield 85), 3, 12, 33) := by decide +kernel
theorem gx243_71 : aF 71 zM243.2.2.2.2.2.2.2 = some (71, (.aload_n 0), 1, 0, 0) := by decide +kernel
theorem gx243_72 : aF 72 zM243.2.2.2.2.2.2.2 = some (72, (.getfield 352), 3, 12, 32) := by decide +kernel
theorem gx243_75 : aF 75 zM243.2.2.2.2.2.2.2 = some (75, (.iload_n 1), 1, 0, 0) := by decide +kernel
theorem gx243_76 : aF 76 zM243.2.2.2.2.2.2.2 = some (76, .iastore, 1, 0, 0) := by decide +kernel
theorem gx243_77 : aF 77 zM243.2.2.2.2.2.2.2 = some (77, (.aload_n 0), 1, 0, 0) := by decide +kernel
theorem gx243_78 : aF 78 zM243.2.2.2.2.2.2.2 = some (78, (.getfield 88), 3, 12, 34) := by decide +kernel
theorem gx243_81 : aF 81 zM243.2.2.2.2.2.2.2 = some (81, (.aload_n 0), 1, 0, 0) := by decide +kernel
theorem gx243_82 : aF 82 zM243.2.2.2.2.2.2.2 = some (82, (.getfield 352), 3, 12, 32) := by decide +kernel
theorem gx243_85 : aF 85 zM243.2.2.2.2.2.2.2 = some (85, (.iload_n 2), 1, 0, 0) := by decide +kernel
theorem gx243_86 : aF 86 zM243.2.2.2.2.2.2.2 = some (86, .iastore, 1, 0, 0) := by decide +kernel
theorem gx243_87 : aF 87 zM243.2.2.2.2.2.2.2 = some (87, (.aload_n 0), 1, 0, 0) := by decide +kernel
theorem gx243_88 : aF 88 zM243.2.2.2.2.2.2.2 = some (88, (.getfield 91), 3, 12, 35) := by decide +kernel
theorem gx243_91 : aF 91 zM243.2.2.2.2.2.2.2 = some (91, (.aload_n 0), 1, 0, 0) := by decide +kernel
theorem gx243_92 : aF 92 zM243.2.2.2.2.2.2.2 = some (92, (.getfield 352), 3, 12, 32) := by decide +kernel
theorem gx243_95 : aF 95 zM243.2.2.2.2.2.2.2 = some (95, (.iload_n 3), 1, 0, 0) := by decide +kernel
theorem gx243_96 : aF 96 zM243.2.2.2.2.2.2.2 = some (96, .iastore, 1, 0, 0) := by decide +kernel
theorem gx243_97 : aF 97 zM243.2.2.2.2.2.2.2 = some (97, (.aload_n 0), 1, 0, 0) := by decide +kernel
theorem gx243_98 : aF 98 zM243.2.2.2.2.2.2.2 = some (98, (.getfield 94), 3, 12, 36) := by decide +kernel
theorem gx243_101 : aF 101 zM243.2.2.2.2.2.2.2 = some (101, (.aload_n 0), 1, 0, 0) := by decide +kernel
theorem gx243_102 : aF 102 zM243.2.2.2.2.2.2.2 = some (102, (.getfield 352), 3, 12, 32) := by decide +kernel
theorem gx243_105 : aF 105 zM243.2.2.2.2.2.2.2 = some (105, (.iload 4), 2, 0, 0) := by decide +kernel
theorem gx243_107 : aF 107 zM243.2.2.2.2.2.2.2 = some (107, .iastore, 1, 0, 0) := by decide +kernel
theorem gx243_108 : aF 108 zM243.2.2.2.2.2.2.2 = some (108, (.aload_n 0), 1, 0, 0) := by decide +kernel
theorem gx243_109 : aF 109 zM243.2.2.2.2.2.2.2 = some (109, (.getfield 97), 3, 12, 37) := by decide +kernel
theorem gx243_112 : aF 112 zM243.2.2.2.2.2.2.2 = some (112, (.aload_n 0), 1, 0, 0) := by decide +kernel
theorem gx243_113 : aF 113 zM243.2.2.2.2.2.2.2 = some (113, (.getfield 352), 3, 12, 32) := by decide +kernel
theorem gx243_116 : aF 116 zM243.2.2.2.2.2.2.2 = some (116, (.aload_n 0), 1, 0, 0) := by decide +kernel
theorem gx243_117 : aF 117 zM243.2.2.2.2.2.2.2 = some (117, (.getfield 262), 3, 12, 1) := by decide +kernel
theorem gx243_120 : aF 120 zM243.2.2.2.2.2.2.2 = some (120, .iastore, 1, 0, 0) := by decide +kernel
theorem gx243_121 : aF 121 zM243.2.2.2.2.2.2.2 = some (121, (.aload_n 0), 1, 0, 0) := by decide +kernel
theorem gx243_122 : aF 122 zM243.2.2.2.2.2.2.2 = some (122, .dup, 1, 0, 0) := by decide +kernel
theorem gx243_123 : aF 123 zM243.2.2.2.2.2.2.2 = some (123, (.getfield 352), 3, 12, 32) := by decide +kernel
theorem gx243_126 : aF 126 zM243.2.2.2.2.2.2.2 = some (126, (.iconst 1), 1, 0, 0) := by decide +kernel
theorem gx243_127 : aF 127 zM243.2.2.2.2.2.2.2 = some (127, .iadd, 1, 0, 0) := by decide +kernel
theorem gx243_128 : aF 128 zM243.2.2.2.2.2.2.2 = some (128, (.putfield 352), 3, 12, 32) := by decide +kernel
theorem gx243_131 : aF 131 zM243.2.2.2.2.2.2.2 = some (131, (.aload_n 0), 1, 0, 0) := by decide +kernel
theorem gx243_132 : aF 132 zM243.2.2.2.2.2.2.2 = some (132, (.iconst 1), 1, 0, 0) := by decide +kernel
theorem gx243_133 : aF 133 zM243.2.2.2.2.2.2.2 = some (133, (.putfield 100), 3, 12, 38) := by decide +kernel
theorem gx243_136 : aF 136 zM243.2.2.2.2.2.2.2 = some (136, (.aload_n 0), 1, 0, 0) := by decide +kernel
theorem gx243_137 : aF 137 zM243.2.2.2.2.2.2.2 = some (137, (.getfield 352), 3, 12, 32) := by decide +kernel
theorem gx243_140 : aF 140 zM243.2.2.2.2.2.2.2 = some (140, .ireturn, 1, 0, 0) := by decide +kernel
theorem gx243_64 : aF 64 zM243.2.2.2.2.2.2.2 = some (64, (.bipush (-3)), 2, 0, 0) := by decide +kernel
theorem gx243_66 : aF 66 zM243.2.2.2.2.2.2.2 = some (66, .ireturn, 1, 0, 0) := by decide +kernel
theorem gx243_51 : aF 51 zM243.2.2.2.2.2.2.2 = some (51, (.bipush (-2)), 2, 0, 0) := by decide +kernel
theorem gx243_53 : aF 53 zM243.2.2.2.2.2.2.2 = some (53, .ireturn, 1, 0, 0) := by decide +kernel
def agR (V W : vS) : Prop := ∀ (c : Nat) j, (c < 103 ∨ 110 < c) → (c ≠ 72 ∨ j ≠ 38 ∧ j ≠ 39) → W c j = V c j
theorem agR_r (V : vS) : agR V V := fun _ _ _ _ => rfl
theorem agR_x {V W : vS} (A : agR V W) (c : Nat) (j : Int) (h : c < 103) (h2 : c ≠ 72) : W c j = V c j := A c j (Or.inl h) (Or.inl h2)
theorem agR_y {V W : vS} (A : agR V W) {j : Int} (h1 : j ≠ 38) (h2 : j ≠ 39) : W 72 j = V 72 j := A 72 j (Or.inl (by decide)) (Or.inr ⟨h1, h2⟩)
def agM (V W : vS) : Prop := (∀ (c : Nat) j, 72 < c → c < 103 → W c j = V c j) ∧ W 72 19 = V 72 19 ∧ W 72 25 = V 72 25 ∧ W 72 32 = V 72 32
theorem agM_x {V W : vS} (A : agM V W) (c : Nat) (j : Int) (h : 72 < c) (h2 : c < 103) : W c j = V c j := A.1 c j h h2
theorem agM_19 {V W : vS} (A : agM V W) : W 72 19 = V 72 19 := A.2.1
theorem agM_25 {V W : vS} (A : agM V W) : W 72 25 = V 72 25 := A.2.2.1
theorem agM_32 {V W : vS} (A : agM V W) : W 72 32 = V 72 32 := A.2.2.2
theorem agR_m {V W : vS} (A : agR V W) : agM V W := ⟨fun c j h h2 => agR_x A c j h2 (by omega), agR_y A (by decide) (by decide), agR_y A (by decide) (by decide), agR_y A (by decide) (by decide)⟩
theorem lat_m {V W : vS} (A : agM V W) (c o k : Int) : lat W c o k ↔ lat V c o k := by
  unfold lat
  rw [agM_x A 90 o (by decide) (by decide), agM_x A 87 o (by decide) (by decide), agM_x A 87 c (by decide) (by decide), agM_x A 88 o (by decide) (by decide), agM_x A 88 c (by decide) (by decide), agM_x A 90 c (by decide) (by decide)]
theorem mcn_m {V W : vS} (A : agM V W) (c k : Int) : mcn W c k ↔ mcn V c k := by
  have e77 : ∀ j, W 77 j = V 77 j := fun j => agM_x A 77 j (by decide) (by decide)
  unfold mcn
  simp only [lat_m A, agM_x A 90 c (by decide) (by decide), agM_x A 88 c (by decide) (by decide), e77, agM_19 A]
theorem mcn_r {V W : vS} (A : agR V W) (c k : Int) : mcn W c k ↔ mcn V c k := mcn_m (agR_m A) c k
theorem mmg_s (V : vS) (c k : Int) (i : Nat) : mmg V c k (i + 1) = if V 98 (i : Nat) = V 87 c ∧ V 99 (i : Nat) = V 88 c ∧ V 100 (i : Nat) = iDiv (V 90 c) 365 ∧ V 102 (i : Nat) ≤ k then V 101 (i : Nat) else mmg V c k i := rfl
theorem mmg_m {V W : vS} (A : agM V W) (c k : Int) (i : Nat) : mmg W c k i = mmg V c k i := by
  induction i with
  | zero => rfl
  | succ i ih =>
    rw [mmg_s, mmg_s, ih, agM_x A 98 _ (by decide) (by decide), agM_x A 99 _ (by decide) (by decide), agM_x A 100 _ (by decide) (by decide), agM_x A 101 _ (by decide) (by decide), agM_x A 102 _ (by decide) (by decide), agM_x A 87 c (by decide) (by decide), agM_x A 88 c (by decide) (by decide), agM_x A 90 c (by decide) (by decide)]
theorem mmg_r {V W : vS} (A : agR V W) (c k : Int) (i : Nat) : mmg W c k i = mmg V c k i := mmg_m (agR_m A) c k i
theorem isO_m {V W : vS} (A : agM V W) (x y yr k : Int) : isO W x y yr k ↔ isO V x y yr k := by
  have e : ∀ i, oHm W x y yr k i ↔ oHm V x y yr k i := fun i => by
    unfold oHm
    rw [agM_x A 97 i (by decide) (by decide), agM_x A 96 i (by decide) (by decide), agM_x A 92 i (by decide) (by decide), agM_x A 93 i (by decide) (by decide), agM_x A 94 i (by decide) (by decide), agM_x A 95 i (by decide) (by decide)]
  unfold isO
  simp only [e, agM_25 A]
theorem isO_r {V W : vS} (A : agR V W) (x y yr k : Int) : isO W x y yr k ↔ isO V x y yr k := isO_m (agR_m A) x y yr k
theorem InM_m {V W : vS} (A : agM V W) (c q : Int) : InM W c q ↔ InM V c q := by
  unfold InM
  rw [agM_x A 88 c (by decide) (by decide)]
  exact isI_c (fun j => agM_x A 80 j (by decide) (by decide)) _ _
theorem InM_r {V W : vS} (A : agR V W) (c q : Int) : InM W c q ↔ InM V c q := InM_m (agR_m A) c q
def LkM (V : vS) (k yr c : Int) : Prop := mcn V c k ∧ iDiv (V 90 c) 365 = yr
def DB (V : vS) (k yr q : Int) : Prop := ∃ c1 c2, ((0 ≤ c1 ∧ c1 < V 72 19) ∧ LkM V k yr c1 ∧ InM V c1 q) ∧ ((0 ≤ c2 ∧ c2 < V 72 19) ∧ LkM V k yr c2 ∧ InM V c2 q) ∧ V 87 c1 ≠ V 87 c2
def tkQ (V : vS) (k yr c q : Int) : Prop := ∃ o, ((0 ≤ o ∧ o < V 72 19) ∧ LkM V k yr o ∧ InM V o q) ∧ V 87 o = V 87 c ∧ V 88 o < V 88 c
def gdR (V : vS) (k yr c q : Int) : Prop := InM V c q ∧ ¬ DB V k yr q ∧ ¬ isO V (q % 24) (q / 24) yr k ∧ ¬ tkQ V k yr c q
def bdR (V : vS) (k yr c q : Int) : Prop := InM V c q ∧ DB V k yr q
noncomputable def vG (V : vS) (k c : Int) : Int := nQ (gdR V k (iDiv (V 90 c) 365) c) 576
noncomputable def vB (V : vS) (k c : Int) : Int := nQ (bdR V k (iDiv (V 90 c) 365) c) 576
noncomputable def vF (V : vS) (k c : Int) : Int := if 0 ≤ w32 (vG V k c - mmg V c k (V 72 32).toNat) then w32 (vG V k c - mmg V c k (V 72 32).toNat) else 0
def rk (V W : vS) (k : Int) : Prop := ∀ c, 0 ≤ c → c < V 72 19 → W 103 c = bI (mcn V c k)
def rv (V W : vS) (k c : Int) : Prop := W 104 c = vG V k c ∧ W 106 c = vB V k c ∧ W 105 c = vF V k c
def rvs (V W : vS) (k y : Int) : Prop := ∀ c, 0 ≤ c → c < V 72 19 → mcn V c k → 0 ≤ iDiv (V 90 c) 365 → iDiv (V 90 c) 365 < y → rv V W k c
def fl (V W : vS) (k y : Int) : Prop := ∀ q, 0 ≤ q → q < 576 → W 109 q = bI (isO V (q % 24) (q / 24) y k) ∧ (W 108 q = 0 ↔ ¬ DB V k y q)
def M239 (V W : vS) (k : Int) : Prop := agR V W ∧ (W 72 38 = 0 ∧ W 72 39 = k) ∧ rk V W k
def R239 (V : vS) (k : Int) (W : vS) : Prop := M239 V W k ∧ rvs V W k 10
theorem lvm {V W : vS} {k yr c : Int} (A : agR V W) (K : rk V W k) (c0 : 0 ≤ c) (cN : c < V 72 19) : LvM W yr c ↔ LkM V k yr c := by
  unfold LvM LkM
  rw [K c c0 cN, agR_x A 90 c (by decide) (by decide)]
  refine and_congr ⟨fun z => Classical.byContradiction (fun w => z (bI_f w)), fun z => by rw [bI_t z]; decide⟩ Iff.rfl
theorem fl_of {V W W1 : vS} {k y : Int} (A : agR V W) (K : rk V W k) (R : R236 W y k W1) : agR V W1 ∧ rk V W1 k ∧ fl V W1 k y := by
  have e19 : W 72 19 = V 72 19 := agR_y A (by decide) (by decide)
  have e87 : ∀ j, W 87 j = V 87 j := fun j => agR_x A 87 j (by decide) (by decide)
  refine ⟨fun c j z1 z2 => (R.1 c j (by omega) (by omega) (by omega)).trans (A c j z1 z2), fun c c0 cN => (R.1 103 c (by decide) (by decide) (by decide)).trans (K c c0 cN), fun q a b => ⟨(R.2 q a b).1.trans (bI_c (isO_r A _ _ _ _)), ?_⟩⟩
  have f := (R.2 q a b).2
  rw [e19] at f
  rcases f with ⟨-, no, z8⟩ | ⟨g, ⟨c', b', d⟩, e⟩
  · exact ⟨fun _ ⟨c1, _, h1, _⟩ => no c1 h1.1.1 h1.1.2 ((lvm A K h1.1.1 h1.1.2).mpr h1.2.1) ((InM_r A c1 q).mpr h1.2.2), fun _ => z8⟩
  · rcases e with ⟨z8, al⟩ | ⟨z8, c2, b2, l2, i2, ne⟩
    · refine ⟨fun _ ⟨c1, c2, h1, h2, ne⟩ => ne ?_, fun _ => z8⟩
      rw [← e87, ← e87, al c1 h1.1.1 h1.1.2 ((lvm A K h1.1.1 h1.1.2).mpr h1.2.1) ((InM_r A c1 q).mpr h1.2.2), al c2 h2.1.1 h2.1.2 ((lvm A K h2.1.1 h2.1.2).mpr h2.2.1) ((InM_r A c2 q).mpr h2.2.2)]
    · refine ⟨fun z => by rw [z8] at z; exact absurd z (by decide), fun z => absurd ⟨c', c2, ⟨b', (lvm A K b'.1 b'.2).mp d.1, (InM_r A c' q).mp d.2.1⟩, ⟨b2, (lvm A K b2.1 b2.2).mp l2, (InM_r A c2 q).mp i2⟩, ?_⟩ z⟩
      rw [← e87, ← e87, d.2.2]
      exact fun w => ne w.symm
theorem gd_r {V W : vS} {k y c : Int} (A : agR V W) (K : rk V W k) (F : fl V W k y) {q : Int} (a : 0 ≤ q) (b : q < 576) : gdM W y c q ↔ gdR V k y c q := by
  have e19 : W 72 19 = V 72 19 := agR_y A (by decide) (by decide)
  have e87 : ∀ j, W 87 j = V 87 j := fun j => agR_x A 87 j (by decide) (by decide)
  have e88 : ∀ j, W 88 j = V 88 j := fun j => agR_x A 88 j (by decide) (by decide)
  refine and_congr (InM_r A c q) (and_congr (F q a b).2 (and_congr ?_ (not_congr ⟨fun ⟨o, ho, t, i⟩ => ?_, fun ⟨o, ⟨ho, l, i⟩, f, g⟩ => ?_⟩)))
  · rw [(F q a b).1]
    exact bI_0
  · rw [e19] at ho
    exact ⟨o, ⟨ho, (lvm A K ho.1 ho.2).mp t.1, (InM_r A o q).mp i⟩, by rw [← e87, ← e87]; exact t.2.1, by rw [← e88, ← e88]; exact t.2.2⟩
  · exact ⟨o, ⟨ho.1, by rw [e19]; exact ho.2⟩, ⟨(lvm A K ho.1 ho.2).mpr l, by rw [e87, e87]; exact f, by rw [e88, e88]; exact g⟩, (InM_r A o q).mpr i⟩
theorem bd_r {V W : vS} {k y c : Int} (A : agR V W) (F : fl V W k y) {q : Int} (a : 0 ≤ q) (b : q < 576) : bdM W c q ↔ bdR V k y c q := by
  refine and_congr (InM_r A c q) ⟨fun z => Classical.byContradiction (fun w => z ((F q a b).2.mpr w)), fun z w => (F q a b).2.mp w z⟩
theorem st_238 {V W W1 : vS} {k y c : Int} (A : agR V W) (K : rk V W k) (F : fl V W k y) (ey : iDiv (V 90 c) 365 = y) (R : R238 W c y W1) : W1 104 c = vG V k c ∧ W1 106 c = vB V k c ∧ ∀ (c' : Nat) j, c' ≠ 110 → (c' ≠ 104 ∧ c' ≠ 106 ∨ j ≠ c) → W1 c' j = W c' j := by
  have e1 : nQ (gdM W y c) 576 = vG V k c := by
    unfold vG
    rw [ey]
    exact nQ_c 576 (fun q a b => gd_r A K F a b)
  have e2 : nQ (bdM W c) 576 = vB V k c := by
    unfold vB
    rw [ey]
    exact nQ_c 576 (fun q a b => bd_r A F a b)
  refine ⟨by rw [R 104 c (by decide), up_c (by decide), up_s, e1], by rw [R 106 c (by decide), up_s, e2], fun c' j n z => ?_⟩
  rw [R c' j n]
  rcases z with z | z
  · rw [up_c z.2, up_c z.1]
  · rw [up_j z, up_j z]
theorem rv_c {V W W' : vS} {k c : Int} (h : rv V W k c) (h4 : W' 104 c = W 104 c) (h6 : W' 106 c = W 106 c) (h5 : W' 105 c = W 105 c) : rv V W' k c := ⟨h4.trans h.1, h6.trans h.2.1, h5.trans h.2.2⟩
end
section
-- ===== seasons: the model reckons all =====
theorem l_239 {X : aX} {V : vS} {k : Int} (hN : 0 ≤ V 72 19 ∧ V 72 19 ≤ 300) (ho : 0 ≤ V 72 25 ∧ V 72 25 ≤ 40) (hq : 0 ≤ V 72 32 ∧ V 72 32 ≤ 200) (hf : ∀ c, 0 ≤ c → c < 300 → 0 ≤ V 87 c) : ∀ n : Nat, (∀ (h : aH) (x1 x2 : Int32) (u3 u4 : Option Value) (y : Int), wS h → x1.toInt = k → x2.toInt = y → 0 ≤ y → y ≤ 10 → M239 V (vw h) k → rvs V (vw h) k y → Pt n X zM239 56 [some (.ref 72), some (.int x1), some (.int x2), u3, u4] [] h (qN (fun h' => wS h' ∧ R239 V k (vw h')))) ∧
    (∀ (h : aH) (x1 x2 x3 : Int32) (u4 : Option Value) (y c : Int), wS h → x1.toInt = k → x2.toInt = y → x3.toInt = c → 0 ≤ y → y < 10 → 0 ≤ c → c ≤ V 72 19 → M239 V (vw h) k → fl V (vw h) k y → rvs V (vw h) k y → (∀ c', 0 ≤ c' → c' < c → mcn V c' k → iDiv (V 90 c') 365 = y → rv V (vw h) k c') → Pt n X zM239 70 [some (.ref 72), some (.int x1), some (.int x2), some (.int x3), u4] [] h (qN (fun h' => wS h' ∧ R239 V k (vw h')))) := by
  intro n
  induction n with
  | zero => exact ⟨fun _ _ _ _ _ _ _ _ _ _ _ _ _ => pt_z, fun _ _ _ _ _ _ _ _ _ _ _ _ _ _ _ _ _ _ _ => pt_z⟩
  | succ n ih =>
    obtain ⟨ihA, ihB⟩ := ih
    refine ⟨fun h x1 x2 u3 u4 y S h1 h2 y0 y9 M D => ?_, fun h x1 x2 x3 u4 y c S h1 h2 h3 y0 y9 c0 cN M F D E => ?_⟩
    · have e19 : vw h 72 19 = V 72 19 := agR_y M.1 (by decide) (by decide)
      have e25 : vw h 72 25 = V 72 25 := agR_y M.1 (by decide) (by decide)
      refine d239_56 S h1 h2 ⟨fun e => ⟨S, M, ?_⟩, fun e => ⟨⟨by rw [e19]; exact hN, by rw [e25]; exact ho, fun c a b => by rw [agR_x M.1 87 c (by decide) (by decide)]; exact hf c a b⟩, fun g R w3 u4 g3 => ?_⟩⟩
      · have ey : y = 10 := by omega
        rw [← ey]
        exact D
      · obtain ⟨A1, K1, F1⟩ := fl_of M.1 M.2.2 R.2
        refine ihB g x1 x2 w3 u4 y 0 R.1 h1 h2 g3 y0 e (Int.le_refl _) hN.1 ⟨A1, ⟨(R.2.1 72 38 (by decide) (by decide) (by decide)).trans M.2.1.1, (R.2.1 72 39 (by decide) (by decide) (by decide)).trans M.2.1.2⟩, K1⟩ F1 (fun c a b m z1 z2 => rv_c (D c a b m z1 z2) (R.2.1 104 c (by decide) (by decide) (by decide)) (R.2.1 106 c (by decide) (by decide) (by decide)) (R.2.1 105 c (by decide) (by decide) (by decide))) (fun c' a b => by omega)
    · have e19 : vw h 72 19 = V 72 19 := agR_y M.1 (by decide) (by decide)
      have e90 : vw h 90 c = V 90 c := agR_x M.1 90 c (by decide) (by decide)
      have skip : ∀ (w3 : Int32) (u4 : Option Value), c < V 72 19 → ¬ (mcn V c k ∧ iDiv (V 90 c) 365 = y) → w3.toInt = w32 (c + 1) → Pt n X zM239 70 [some (.ref 72), some (.int x1), some (.int x2), some (.int w3), u4] [] h (qN (fun h' => wS h' ∧ R239 V k (vw h'))) := by
        intro w3 u4 lt nl g3
        replace g3 := w_1 g3 (by omega) (by omega)
        refine ihB h x1 x2 w3 u4 y (c + 1) S h1 h2 g3 y0 y9 (by omega) (by omega) M F D (fun c' a b m e => ?_)
        by_cases z : c' = c
        · rw [z] at m e
          exact absurd ⟨m, e⟩ nl
        · exact E c' a (by omega) m e
      refine d239_70 S h1 h2 h3 ⟨fun e w2 u3 u4 g2 => ?_, fun e p0 p1 => ⟨fun e2 w3 u4 g3 => skip w3 u4 (by omega) (fun z => by rw [M.2.2 c c0 (by omega), bI_t z.1] at e2; exact absurd e2 (by decide)) g3, fun e2 => ⟨fun e3 => ⟨⟨by rw [e19]; exact hN, p0, p1⟩, fun g R => ?_⟩, fun e3 w3 u4 g3 => skip w3 u4 (by omega) (fun z => e3 (by rw [e90]; exact z.2)) g3⟩⟩⟩
      · replace g2 := w_1 g2 (by omega) (by omega)
        refine ihA h x1 w2 u3 u4 (y + 1) S h1 g2 (by omega) (by omega) M (fun c' a b m z1 z2 => ?_)
        by_cases z : iDiv (V 90 c') 365 = y
        · exact E c' a (by omega) m z
        · exact D c' a b m z1 (by omega)
      · have cN' : c < V 72 19 := by omega
        rw [e90] at e3
        have live : mcn V c k := Classical.byContradiction (fun w => e2 (by rw [M.2.2 c c0 cN', bI_f w]))
        obtain ⟨s1, s2, s3⟩ := st_238 M.1 M.2.2 F e3 R.2
        have A1 : agR V (vw g) := fun c' j z1 z2 => (s3 c' j (by omega) (Or.inl ⟨by omega, by omega⟩)).trans (M.1 c' j z1 z2)
        have e32 : vw g 72 32 = V 72 32 := agR_y A1 (by decide) (by decide)
        have ew : w32 (vw g 104 c - mmg (vw g) c k (vw g 72 32).toNat) = w32 (vG V k c - mmg V c k (V 72 32).toNat) := by rw [s1, mmg_r A1, e32]
        have fin : ∀ (f : aH) (w3 : Int32) (u4 : Option Value) (v : Int), wS f → vw f = up (vw g) 105 c v → v = vF V k c → w3.toInt = w32 (c + 1) → Pt n X zM239 70 [some (.ref 72), some (.int x1), some (.int x2), some (.int w3), u4] [] f (qN (fun h' => wS h' ∧ R239 V k (vw h'))) := by
          intro f w3 u4 v S2 ef ev g3
          replace g3 := w_1 g3 (by omega) (by omega)
          have far : ∀ c', c' ≠ c → rv V (vw h) k c' → rv V (vw f) k c' := fun c' n r => rv_c r (by rw [ef, up_c (by decide), s3 104 c' (by decide) (Or.inr n)]) (by rw [ef, up_c (by decide), s3 106 c' (by decide) (Or.inr n)]) (by rw [ef, up_j n, s3 105 c' (by decide) (Or.inr n)])
          refine ihB f x1 x2 w3 u4 y (c + 1) S2 h1 h2 g3 y0 y9 (by omega) (by omega) ⟨fun c' j z1 z2 => by rw [ef, up_c (by omega)]; exact A1 c' j z1 z2, ⟨by rw [ef, up_c (by decide), s3 72 38 (by decide) (Or.inl (by decide))]; exact M.2.1.1, by rw [ef, up_c (by decide), s3 72 39 (by decide) (Or.inl (by decide))]; exact M.2.1.2⟩, fun c' a b => by rw [ef, up_c (by decide), s3 103 c' (by decide) (Or.inl (by decide))]; exact M.2.2 c' a b⟩ (fun q a b => ?_) (fun c' a b m z1 z2 => far c' (fun z => by rw [z] at z2; omega) (D c' a b m z1 z2)) (fun c' a b m e => ?_)
          · rw [ef, up_c (by decide), up_c (by decide), s3 109 q (by decide) (Or.inl (by decide)), s3 108 q (by decide) (Or.inl (by decide))]
            exact F q a b
          · by_cases z : c' = c
            · rw [z]
              exact ⟨by rw [ef, up_c (by decide)]; exact s1, by rw [ef, up_c (by decide)]; exact s2, by rw [ef, up_s, ev]⟩
            · exact far c' z (E c' a (by omega) m e)
        refine ⟨by rw [e32]; exact hq, fun e4 f S2 ef w3 u4 g3 => fin f w3 u4 _ S2 ef ?_ g3, fun e4 f S2 ef w3 u4 g3 => fin f w3 u4 _ S2 ef ?_ g3⟩
        · rw [ew] at e4 ⊢
          unfold vF
          exact (if_pos e4).symm
        · rw [ew] at e4
          unfold vF
          exact (if_neg (by omega)).symm
theorem l_239i {X : aX} {V : vS} {k : Int} (hN : 0 ≤ V 72 19 ∧ V 72 19 ≤ 300) (ho : 0 ≤ V 72 25 ∧ V 72 25 ≤ 40) (hq : 0 ≤ V 72 32 ∧ V 72 32 ≤ 200) (hf : ∀ c, 0 ≤ c → c < 300 → 0 ≤ V 87 c) : ∀ (n : Nat) (h : aH) (x1 x2 : Int32) (c : Int), wS h → x1.toInt = k → x2.toInt = c → 0 ≤ c → c ≤ V 72 19 → agR V (vw h) → (vw h 72 38 = 0 ∧ vw h 72 39 = k) → (∀ c', 0 ≤ c' → c' < c → vw h 103 c' = bI (mcn V c' k)) → Pt n X zM239 28 [some (.ref 72), some (.int x1), some (.int x2), none, none] [] h (qN (fun h' => wS h' ∧ R239 V k (vw h'))) := by
  intro n
  induction n with
  | zero => exact fun _ _ _ _ _ _ _ _ _ _ _ _ => pt_z
  | succ n ih =>
    intro h x1 x2 c S h1 h2 c0 cN A fg K
    have e19 : vw h 72 19 = V 72 19 := agR_y A (by decide) (by decide)
    refine d239_28 S h1 h2 ⟨fun e w2 u3 u4 g2 => ?_, fun e => ⟨by rw [e19]; exact hN, fun p0 p1 g S2 eg w2 g2 => ?_⟩⟩
    · exact (l_239 hN ho hq hf n).1 h x1 w2 u3 u4 0 S h1 g2 (Int.le_refl _) (by decide) ⟨A, fg, fun c' a b => K c' a (by omega)⟩ (fun c' a b m z1 z2 => by omega)
    · replace g2 := w_1 g2 (by omega) (by omega)
      rw [b01b] at eg
      refine ih g x1 w2 (c + 1) S2 h1 g2 (by omega) (by omega) (fun c' j z1 z2 => by rw [eg, up_c (by omega)]; exact A c' j z1 z2) (by rw [eg, up_c (by decide), up_c (by decide)]; exact fg) (fun c' a b => ?_)
      by_cases z : c' = c
      · rw [z, eg, up_s]
        exact bI_c (mcn_r A c k)
      · rw [eg, up_j z]
        exact K c' a (by omega)
def rOK (V : vS) : Prop := V 72 38 = 0 → rk V V (V 72 39) ∧ rvs V V (V 72 39) 10
def q239 (V : vS) : Prop := (0 ≤ V 72 19 ∧ V 72 19 ≤ 300) ∧ (0 ≤ V 72 25 ∧ V 72 25 ≤ 40) ∧ (0 ≤ V 72 32 ∧ V 72 32 ≤ 200) ∧ (∀ c, 0 ≤ c → c < 300 → 0 ≤ V 87 c) ∧ rOK V
theorem c_239 {n : Nat} {X : aX} {h : aH} {x1 : Int32} {a1 : Int} (S : wS h) (z1 : x1.toInt = a1) (hp : q239 (vw h)) : Pt n X zM239 0 [some (.ref 72), some (.int x1), none, none, none] [] h (qN (fun h' => wS h' ∧ R239 (vw h) a1 (vw h'))) := by
  obtain ⟨hN, ho, hq, hf, ok⟩ := hp
  have go : ∀ (g : aH) (w2 : Int32), wS g → vw g = up (up (vw h) 72 38 0) 72 39 a1 → w2.toInt = 0 → Pt n X zM239 28 [some (.ref 72), some (.int x1), some (.int w2), none, none] [] g (qN (fun h' => wS h' ∧ R239 (vw h) a1 (vw h'))) := by
    intro g w2 S2 eg g2
    refine l_239i hN ho hq hf n g x1 w2 0 S2 z1 g2 (Int.le_refl _) hN.1 (fun c j _ z => ?_) ⟨by rw [eg, up_j (by decide), up_s], by rw [eg, up_s]⟩ (fun c' a b => by omega)
    rw [eg]
    rcases z with z | z
    · rw [up_c z, up_c z]
    · rw [up_j z.2, up_j z.1]
  refine pt_d (d239_0 S z1 ⟨fun e g S2 eg w2 g2 => go g w2 S2 eg g2, fun e => ⟨fun e2 g S2 eg w2 g2 => go g w2 S2 eg g2, fun e2 => ⟨S, ⟨agR_r _, ⟨e, e2⟩, ?_⟩, ?_⟩⟩⟩)
  · rw [← e2]
    exact (ok e).1
  · rw [← e2]
    exact (ok e).2
end
section
-- ===== seasons: the model reckons all =====
noncomputable def lt0 (V : vS) (c : Int) : Int := if 0 ≤ w32 (iRem (V 90 c) 365 - V 91 (V 74 (V 87 c))) then w32 (iRem (V 90 c) 365 - V 91 (V 74 (V 87 c))) else 0
theorem c_240 {n : Nat} {X : aX} {h : aH} {x1 : Int32} {a1 : Int} (S : wS h) (z1 : x1.toInt = a1) : Pt n X zM240 0 [some (.ref 72), some (.int x1), none] [] h (qI (fun y h' => h' = h ∧ y = lt0 (vw h) a1)) :=
  pt_d (d240_0 S z1 (fun _ _ _ _ _ _ => ⟨fun e => ⟨rfl, (if_pos e).symm⟩, fun e => ⟨rfl, (if_neg (by omega)).symm⟩⟩))

theorem d241_0 {n : Nat} {X : aX} {h : aH} {P : Int → aH → Prop} {x1 x2 x3 x4 : Int32} {a1 a2 a3 a4 : Int} (S : wS h) (z1 : x1.toInt = a1) (z2 : x2.toInt = a2) (z3 : x3.toInt = a3) (z4 : x4.toInt = a4) (H : ((q239 (vw h)) ∧ ∀ (h_1 : aH), (wS h_1 ∧ R239 (vw h) a4 (vw h_1)) → (∀ (w5 : Int32), w5.toInt = 0 → Pt n X zM241 9 [some (.ref 72), some (.int x1), some (.int x2), some (.int x3), some (.int x4), some (.int w5)] [] h_1 (qI P)))) : Pt (n + 1) X zM241 0 [some (.ref 72), some (.int x1), some (.int x2), some (.int x3), some (.int x4), none] [] h (qI P) := by
  refine pt_1 (fun n d => r_aloadn gx241_0 rfl) ?_
  refine pt_d (pt_1 (fun n d => r_iload gx241_1 rfl) ?_)
  obtain ⟨pr1, H⟩ := H
  refine pt_d (pt_virt (as := [.int x4]) (r := []) gx241_3 rfl (show zmt[239]? = some zM239 from rfl) rfl rfl rfl rfl (c_239 S z4 pr1) (kqN (fun h_1 P1 => ?_)))
  have S1 := P1.1
  have H := H h_1 P1
  show Pt _ _ _ 6 _ [] _ _
  refine pt_d (pt_iconst gx241_6 (fun v2 h2 => ?_))
  refine pt_d (pt_1 (fun n d => r_istore (L' := [some (.ref 72), some (.int x1), some (.int x2), some (.int x3), some (.int x4), some (.int v2)]) gx241_7 rfl rfl) ?_)
  exact H v2 h2
theorem d241_9 {n : Nat} {X : aX} {h : aH} {P : Int → aH → Prop} {x1 x2 x3 x4 x5 : Int32} {a1 a2 a3 a4 a5 : Int} (S : wS h) (z1 : x1.toInt = a1) (z2 : x2.toInt = a2) (z3 : x3.toInt = a3) (z4 : x4.toInt = a4) (z5 : x5.toInt = a5) (H : ((vw h 72 19 ≤ a5 → P (-1) h) ∧ (a5 < vw h 72 19 → (0 ≤ a5 → a5 < 300 → ((vw h 103 a5 = 0 → (∀ (w5 : Int32), w5.toInt = w32 (a5 + 1) → Pt n X zM241 9 [some (.ref 72), some (.int x1), some (.int x2), some (.int x3), some (.int x4), some (.int w5)] [] h (qI P))) ∧ (vw h 103 a5 ≠ 0 → ((vw h 87 a5 ≠ a1 → (∀ (w5 : Int32), w5.toInt = w32 (a5 + 1) → Pt n X zM241 9 [some (.ref 72), some (.int x1), some (.int x2), some (.int x3), some (.int x4), some (.int w5)] [] h (qI P))) ∧ (vw h 87 a5 = a1 → ((vw h 88 a5 ≠ a2 → (∀ (w5 : Int32), w5.toInt = w32 (a5 + 1) → Pt n X zM241 9 [some (.ref 72), some (.int x1), some (.int x2), some (.int x3), some (.int x4), some (.int w5)] [] h (qI P))) ∧ (vw h 88 a5 = a2 → ((iDiv ((vw h) 90 a5) 365 ≠ a3 → (∀ (w5 : Int32), w5.toInt = w32 (a5 + 1) → Pt n X zM241 9 [some (.ref 72), some (.int x1), some (.int x2), some (.int x3), some (.int x4), some (.int w5)] [] h (qI P))) ∧ (iDiv ((vw h) 90 a5) 365 = a3 → P a5 h)))))))))))) : Pt (n + 1) X zM241 9 [some (.ref 72), some (.int x1), some (.int x2), some (.int x3), some (.int x4), some (.int x5)] [] h (qI P) := by
  refine pt_1 (fun n d => r_iload gx241_9 rfl) ?_
  refine pt_d (pt_1 (fun n d => r_aloadn gx241_11 rfl) ?_)
  refine pt_d (pt_getI (B := 19) gx241_12 S (fun v1 h1 => ?_))
  refine pt_d (pt_icmp_ge gx241_15 z5 h1 (fun e2 => ?_) (fun e2 => ?_))
  · have H := H.1 e2
    refine pt_d (pt_iconst gx241_69 (fun v3 h3 => ?_))
    exact pt_d (pt_iret gx241_70 ⟨_, rfl, by rw [h3]; exact H⟩)
  · have H := H.2 e2
    refine pt_d (pt_1 (fun n d => r_aloadn gx241_18 rfl) ?_)
    refine pt_d (pt_getR gx241_19 S tr_72_40 ?_)
    refine pt_d (pt_1 (fun n d => r_iload gx241_22 rfl) ?_)
    refine pt_d (pt_zald (N' := 300) gx241_24 S tl_103 z5 (fun v5 p5 q5 h5 => ?_))
    have H := H p5 q5
    refine pt_d (pt_if_eq gx241_25 h5 (fun e6 => ?_) (fun e6 => ?_))
    · have H := H.1 e6
      refine pt_d (pt_iinc (c := 1) gx241_63 rfl z5 (fun v7 h7 => ?_))
      show Pt _ _ _ _ [some (.ref 72), some (.int x1), some (.int x2), some (.int x3), some (.int x4), some (.int v7)] [] _ _
      refine pt_d (pt_1 (fun n d => r_goto gx241_66) ?_)
      exact H v7 h7
    · have H := H.2 e6
      refine pt_d (pt_1 (fun n d => r_aloadn gx241_28 rfl) ?_)
      refine pt_d (pt_getR gx241_29 S tr_72_20 ?_)
      refine pt_d (pt_1 (fun n d => r_iload gx241_32 rfl) ?_)
      refine pt_d (pt_iald (N' := 300) gx241_34 S tl_87 z5 (fun v9 p9 q9 h9 => ?_))
      refine pt_d (pt_1 (fun n d => r_iloadn gx241_35 rfl) ?_)
      refine pt_d (pt_icmp_ne gx241_36 h9 z1 (fun e10 => ?_) (fun e10 => ?_))
      · have H := H.1 e10
        refine pt_d (pt_iinc (c := 1) gx241_63 rfl z5 (fun v11 h11 => ?_))
        show Pt _ _ _ _ [some (.ref 72), some (.int x1), some (.int x2), some (.int x3), some (.int x4), some (.int v11)] [] _ _
        refine pt_d (pt_1 (fun n d => r_goto gx241_66) ?_)
        exact H v11 h11
      · have H := H.2 e10
        refine pt_d (pt_1 (fun n d => r_aloadn gx241_39 rfl) ?_)
        refine pt_d (pt_getR gx241_40 S tr_72_21 ?_)
        refine pt_d (pt_1 (fun n d => r_iload gx241_43 rfl) ?_)
        refine pt_d (pt_iald (N' := 300) gx241_45 S tl_88 z5 (fun v13 p13 q13 h13 => ?_))
        refine pt_d (pt_1 (fun n d => r_iloadn gx241_46 rfl) ?_)
        refine pt_d (pt_icmp_ne gx241_47 h13 z2 (fun e14 => ?_) (fun e14 => ?_))
        · have H := H.1 e14
          refine pt_d (pt_iinc (c := 1) gx241_63 rfl z5 (fun v15 h15 => ?_))
          show Pt _ _ _ _ [some (.ref 72), some (.int x1), some (.int x2), some (.int x3), some (.int x4), some (.int v15)] [] _ _
          refine pt_d (pt_1 (fun n d => r_goto gx241_66) ?_)
          exact H v15 h15
        · have H := H.2 e14
          refine pt_d (pt_1 (fun n d => r_aloadn gx241_50 rfl) ?_)
          refine pt_d (pt_1 (fun n d => r_iload gx241_51 rfl) ?_)
          refine pt_d (pt_virt (as := [.int x5]) (r := []) gx241_53 rfl (show zmt[229]? = some zM229 from rfl) rfl rfl rfl rfl (c_229 S z5) (kqP (fun v16 h16 => ?_)))
          show Pt _ _ _ 56 _ [.int v16] _ _
          refine pt_d (pt_1 (fun n d => r_iloadn gx241_56 rfl) ?_)
          refine pt_d (pt_icmp_ne gx241_57 h16 z3 (fun e17 => ?_) (fun e17 => ?_))
          · have H := H.1 e17
            refine pt_d (pt_iinc (c := 1) gx241_63 rfl z5 (fun v18 h18 => ?_))
            show Pt _ _ _ _ [some (.ref 72), some (.int x1), some (.int x2), some (.int x3), some (.int x4), some (.int v18)] [] _ _
            refine pt_d (pt_1 (fun n d => r_goto gx241_66) ?_)
            exact H v18 h18
          · have H := H.2 e17
            refine pt_d (pt_1 (fun n d => r_iload gx241_60 rfl) ?_)
            exact pt_d (pt_iret gx241_62 ⟨_, rfl, by rw [z5]; exact H⟩)
def cl1 (V : vS) (f b y k c : Int) : Prop := mcn V c k ∧ V 87 c = f ∧ V 88 c = b ∧ iDiv (V 90 c) 365 = y
def R241 (V : vS) (f b y k r : Int) (W : vS) : Prop := R239 V k W ∧ ((r = -1 ∧ ∀ c, 0 ≤ c → c < V 72 19 → ¬ cl1 V f b y k c) ∨ ((0 ≤ r ∧ r < V 72 19) ∧ cl1 V f b y k r))
theorem l_241 {X : aX} {V : vS} {f b y k : Int} {h : aH} (S : wS h) (hN : 0 ≤ V 72 19 ∧ V 72 19 ≤ 300) (R : R239 V k (vw h)) : ∀ (n : Nat) (x1 x2 x3 x4 x5 : Int32) (c : Int), x1.toInt = f → x2.toInt = b → x3.toInt = y → x4.toInt = k → x5.toInt = c → 0 ≤ c → c ≤ V 72 19 → (∀ c', 0 ≤ c' → c' < c → ¬ cl1 V f b y k c') → Pt n X zM241 9 [some (.ref 72), some (.int x1), some (.int x2), some (.int x3), some (.int x4), some (.int x5)] [] h (qI (fun r h' => wS h' ∧ R241 V f b y k r (vw h'))) := by
  have e19 : vw h 72 19 = V 72 19 := agR_y R.1.1 (by decide) (by decide)
  intro n
  induction n with
  | zero => exact fun _ _ _ _ _ _ _ _ _ _ _ _ _ _ => pt_z
  | succ n ih =>
    intro x1 x2 x3 x4 x5 c h1 h2 h3 h4 h5 c0 cN no
    have e87 : vw h 87 c = V 87 c := agR_x R.1.1 87 c (by decide) (by decide)
    have e88 : vw h 88 c = V 88 c := agR_x R.1.1 88 c (by decide) (by decide)
    have e90 : vw h 90 c = V 90 c := agR_x R.1.1 90 c (by decide) (by decide)
    have next : ∀ w5 : Int32, c < V 72 19 → ¬ cl1 V f b y k c → w5.toInt = w32 (c + 1) → Pt n X zM241 9 [some (.ref 72), some (.int x1), some (.int x2), some (.int x3), some (.int x4), some (.int w5)] [] h (qI (fun r h' => wS h' ∧ R241 V f b y k r (vw h'))) := by
      intro w5 lt nc g5
      replace g5 := w_1 g5 (by omega) (by omega)
      refine ih x1 x2 x3 x4 w5 (c + 1) h1 h2 h3 h4 g5 (by omega) (by omega) (fun c' a z => ?_)
      by_cases w : c' = c
      · rw [w]; exact nc
      · exact no c' a (by omega)
    refine d241_9 S h1 h2 h3 h4 h5 ⟨fun e => ⟨S, R, Or.inl ⟨rfl, fun c' a z => no c' a (by omega)⟩⟩, fun e _ _ => ⟨fun e2 w5 g5 => next w5 (by omega) (fun z => by rw [R.1.2.2 c c0 (by omega), bI_t z.1] at e2; exact absurd e2 (by decide)) g5, fun e2 => ⟨fun e3 w5 g5 => next w5 (by omega) (fun z => e3 (e87.trans z.2.1)) g5, fun e3 => ⟨fun e4 w5 g5 => next w5 (by omega) (fun z => e4 (e88.trans z.2.2.1)) g5, fun e4 => ⟨fun e5 w5 g5 => next w5 (by omega) (fun z => e5 (by rw [e90]; exact z.2.2.2)) g5, fun e5 => ⟨S, R, Or.inr ⟨⟨c0, by omega⟩, Classical.byContradiction (fun w => e2 (by rw [R.1.2.2 c c0 (by omega), bI_f w])), e87.symm.trans e3, e88.symm.trans e4, by rw [← e90]; exact e5⟩⟩⟩⟩⟩⟩⟩
theorem c_241 {n : Nat} {X : aX} {h : aH} {x1 x2 x3 x4 : Int32} {a1 a2 a3 a4 : Int} (S : wS h) (z1 : x1.toInt = a1) (z2 : x2.toInt = a2) (z3 : x3.toInt = a3) (z4 : x4.toInt = a4) (hp : q239 (vw h)) : Pt n X zM241 0 [some (.ref 72), some (.int x1), some (.int x2), some (.int x3), some (.int x4), none] [] h (qI (fun r h' => wS h' ∧ R241 (vw h) a1 a2 a3 a4 r (vw h'))) :=
  pt_d (d241_0 S z1 z2 z3 z4 ⟨hp, fun g R w5 g5 => l_241 R.1 hp.1 R.2 n x1 x2 x3 x4 w5 0 z1 z2 z3 z4 g5 (Int.le_refl _) hp.1.1 (fun c' a b => by omega)⟩)

theorem d242_0 {n : Nat} {X : aX} {h : aH} {P : Int → aH → Prop} {x1 x2 x3 x4 x5 : Int32} {a1 a2 a3 a4 a5 : Int} (S : wS h) (z1 : x1.toInt = a1) (z2 : x2.toInt = a2) (z3 : x3.toInt = a3) (z4 : x4.toInt = a4) (z5 : x5.toInt = a5) (H : ((¬ (mFarm (vw h) a1) → P (-1) h) ∧ ((mFarm (vw h) a1) → ((¬ (mField (vw h) a2) → P (-1) h) ∧ ((mField (vw h) a2) → ((¬ (0 ≤ a3 ∧ a3 ≤ 9) → P (-1) h) ∧ ((0 ≤ a3 ∧ a3 ≤ 9) → ((¬ (0 ≤ a4 ∧ a4 ≤ 3649) → P (-1) h) ∧ ((0 ≤ a4 ∧ a4 ≤ 3649) → (((0 ≤ a5 ∧ a5 ≤ 4) → ((q239 (vw h)) ∧ ∀ (y17 : Int) (h_17 : aH), (wS h_17 ∧ R241 (vw h) a1 a2 a3 a4 y17 (vw h_17)) → ((0 ≤ y17 → ((a5 ≠ 0 → ((a5 ≠ 1 → ((a5 ≠ 2 → ((a5 ≠ 3 → P (lt0 (vw h_17) y17) h_17) ∧ (a5 = 3 → (0 ≤ y17 → y17 < 300 → P (vw h_17 106 y17) h_17)))) ∧ (a5 = 2 → (0 ≤ y17 → y17 < 300 → P (vw h_17 89 y17) h_17)))) ∧ (a5 = 1 → (0 ≤ y17 → y17 < 300 → P (vw h_17 105 y17) h_17)))) ∧ (a5 = 0 → (0 ≤ y17 → y17 < 300 → P (vw h_17 104 y17) h_17)))) ∧ (y17 < 0 → P (-2) h_17)))) ∧ (¬ (0 ≤ a5 ∧ a5 ≤ 4) → P (-1) h))))))))))) : Pt (n + 1) X zM242 0 [some (.ref 72), some (.int x1), some (.int x2), some (.int x3), some (.int x4), some (.int x5), none] [] h (qI P) := by
  refine pt_1 (fun n d => r_aloadn gx242_0 rfl) ?_
  refine pt_d (pt_1 (fun n d => r_iloadn gx242_1 rfl) ?_)
  refine pt_d (pt_virt (as := [.int x1]) (r := []) gx242_2 rfl (show zmt[202]? = some zM202 from rfl) rfl rfl rfl rfl (c_202 S z1) (kqP (fun v1 h1 => ?_)))
  show Pt _ _ _ 5 _ [.int v1] _ _
  refine pt_d (pt_ifB_eq gx242_5 h1 (fun e2 => ?_) (fun e2 => ?_))
  · have H := H.1 e2
    refine pt_d (pt_iconst gx242_41 (fun v3 h3 => ?_))
    exact pt_d (pt_iret gx242_42 ⟨_, rfl, by rw [h3]; exact H⟩)
  · have H := H.2 e2
    refine pt_d (pt_1 (fun n d => r_aloadn gx242_8 rfl) ?_)
    refine pt_d (pt_1 (fun n d => r_iloadn gx242_9 rfl) ?_)
    refine pt_d (pt_virt (as := [.int x2]) (r := []) gx242_10 rfl (show zmt[203]? = some zM203 from rfl) rfl rfl rfl rfl (c_203 S z2) (kqP (fun v4 h4 => ?_)))
    show Pt _ _ _ 13 _ [.int v4] _ _
    refine pt_d (pt_ifB_eq gx242_13 h4 (fun e5 => ?_) (fun e5 => ?_))
    · have H := H.1 e5
      refine pt_d (pt_iconst gx242_41 (fun v6 h6 => ?_))
      exact pt_d (pt_iret gx242_42 ⟨_, rfl, by rw [h6]; exact H⟩)
    · have H := H.2 e5
      refine pt_d (pt_1 (fun n d => r_iloadn gx242_16 rfl) ?_)
      refine pt_d (pt_stat (as := [.int x3]) (r := []) gx242_17 rfl (show zmt[198]? = some zM198 from rfl) rfl rfl rfl rfl (c_198 S z3) (kqP (fun v7 h7 => ?_)))
      show Pt _ _ _ 20 _ [.int v7] _ _
      refine pt_d (pt_ifB_eq gx242_20 h7 (fun e8 => ?_) (fun e8 => ?_))
      · have H := H.1 e8
        refine pt_d (pt_iconst gx242_41 (fun v9 h9 => ?_))
        exact pt_d (pt_iret gx242_42 ⟨_, rfl, by rw [h9]; exact H⟩)
      · have H := H.2 e8
        refine pt_d (pt_1 (fun n d => r_iload gx242_23 rfl) ?_)
        refine pt_d (pt_stat (as := [.int x4]) (r := []) gx242_25 rfl (show zmt[197]? = some zM197 from rfl) rfl rfl rfl rfl (c_197 S z4) (kqP (fun v10 h10 => ?_)))
        show Pt _ _ _ 28 _ [.int v10] _ _
        refine pt_d (pt_ifB_eq gx242_28 h10 (fun e11 => ?_) (fun e11 => ?_))
        · have H := H.1 e11
          refine pt_d (pt_iconst gx242_41 (fun v12 h12 => ?_))
          exact pt_d (pt_iret gx242_42 ⟨_, rfl, by rw [h12]; exact H⟩)
        · have H := H.2 e11
          refine pt_d (pt_1 (fun n d => r_iload gx242_31 rfl) ?_)
          refine pt_d (pt_iconst gx242_33 (fun v13 h13 => ?_))
          refine pt_d (pt_iconst gx242_34 (fun v14 h14 => ?_))
          refine pt_d (pt_stat (as := [.int x5, .int v13, .int v14]) (r := []) gx242_35 rfl (show zmt[196]? = some zM196 from rfl) rfl rfl rfl rfl (c_196 S z5 h13 h14) (kqP (fun v15 h15 => ?_)))
          show Pt _ _ _ 38 _ [.int v15] _ _
          refine pt_d (pt_ifB_ne gx242_38 h15 (fun e16 => ?_) (fun e16 => ?_))
          · have H := H.1 e16
            refine pt_d (pt_1 (fun n d => r_aloadn gx242_43 rfl) ?_)
            refine pt_d (pt_1 (fun n d => r_iloadn gx242_44 rfl) ?_)
            refine pt_d (pt_1 (fun n d => r_iloadn gx242_45 rfl) ?_)
            refine pt_d (pt_1 (fun n d => r_iloadn gx242_46 rfl) ?_)
            refine pt_d (pt_1 (fun n d => r_iload gx242_47 rfl) ?_)
            obtain ⟨pr17, H⟩ := H
            refine pt_d (pt_virt (as := [.int x1, .int x2, .int x3, .int x4]) (r := []) gx242_49 rfl (show zmt[241]? = some zM241 from rfl) rfl rfl rfl rfl (c_241 S z1 z2 z3 z4 pr17) (kqI (fun v17 y17 h_17 h17 P17 => ?_)))
            have S17 := P17.1
            have H := H y17 h_17 P17
            show Pt _ _ _ 52 _ [.int v17] _ _
            refine pt_d (pt_1 (fun n d => r_istore (L' := [some (.ref 72), some (.int x1), some (.int x2), some (.int x3), some (.int x4), some (.int x5), some (.int v17)]) gx242_52 rfl rfl) ?_)
            refine pt_d (pt_1 (fun n d => r_iload gx242_54 rfl) ?_)
            refine pt_d (pt_if_ge gx242_56 h17 (fun e18 => ?_) (fun e18 => ?_))
            · have H := H.1 e18
              refine pt_d (pt_1 (fun n d => r_iload gx242_62 rfl) ?_)
              refine pt_d (pt_if_ne gx242_64 z5 (fun e19 => ?_) (fun e19 => ?_))
              · have H := H.1 e19
                refine pt_d (pt_1 (fun n d => r_iload gx242_77 rfl) ?_)
                refine pt_d (pt_iconst gx242_79 (fun v20 h20 => ?_))
                refine pt_d (pt_icmp_ne gx242_80 z5 h20 (fun e21 => ?_) (fun e21 => ?_))
                · have H := H.1 e21
                  refine pt_d (pt_1 (fun n d => r_iload gx242_93 rfl) ?_)
                  refine pt_d (pt_iconst gx242_95 (fun v22 h22 => ?_))
                  refine pt_d (pt_icmp_ne gx242_96 z5 h22 (fun e23 => ?_) (fun e23 => ?_))
                  · have H := H.1 e23
                    refine pt_d (pt_1 (fun n d => r_iload gx242_109 rfl) ?_)
                    refine pt_d (pt_iconst gx242_111 (fun v24 h24 => ?_))
                    refine pt_d (pt_icmp_ne gx242_112 z5 h24 (fun e25 => ?_) (fun e25 => ?_))
                    · have H := H.1 e25
                      refine pt_d (pt_1 (fun n d => r_aloadn gx242_125 rfl) ?_)
                      refine pt_d (pt_1 (fun n d => r_iload gx242_126 rfl) ?_)
                      refine pt_d (pt_virt (as := [.int v17]) (r := []) gx242_128 rfl (show zmt[240]? = some zM240 from rfl) rfl rfl rfl rfl (c_240 S17 h17) (kqP (fun v26 h26 => ?_)))
                      show Pt _ _ _ 131 _ [.int v26] _ _
                      exact pt_d (pt_iret gx242_131 ⟨_, rfl, by rw [h26]; exact H⟩)
                    · have H := H.2 e25
                      refine pt_d (pt_1 (fun n d => r_aloadn gx242_115 rfl) ?_)
                      refine pt_d (pt_getR gx242_116 S17 tr_72_43 ?_)
                      refine pt_d (pt_1 (fun n d => r_iload gx242_119 rfl) ?_)
                      refine pt_d (pt_iald (N' := 300) gx242_121 S17 tl_106 h17 (fun v28 p28 q28 h28 => ?_))
                      have H := H p28 q28
                      refine pt_d (pt_1 (fun n d => r_goto gx242_122) ?_)
                      exact pt_d (pt_iret gx242_131 ⟨_, rfl, by rw [h28]; exact H⟩)
                  · have H := H.2 e23
                    refine pt_d (pt_1 (fun n d => r_aloadn gx242_99 rfl) ?_)
                    refine pt_d (pt_getR gx242_100 S17 tr_72_22 ?_)
                    refine pt_d (pt_1 (fun n d => r_iload gx242_103 rfl) ?_)
                    refine pt_d (pt_iald (N' := 300) gx242_105 S17 tl_89 h17 (fun v30 p30 q30 h30 => ?_))
                    have H := H p30 q30
                    refine pt_d (pt_1 (fun n d => r_goto gx242_106) ?_)
                    exact pt_d (pt_iret gx242_131 ⟨_, rfl, by rw [h30]; exact H⟩)
                · have H := H.2 e21
                  refine pt_d (pt_1 (fun n d => r_aloadn gx242_83 rfl) ?_)
                  refine pt_d (pt_getR gx242_84 S17 tr_72_42 ?_)
                  refine pt_d (pt_1 (fun n d => r_iload gx242_87 rfl) ?_)
                  refine pt_d (pt_iald (N' := 300) gx242_89 S17 tl_105 h17 (fun v32 p32 q32 h32 => ?_))
                  have H := H p32 q32
                  refine pt_d (pt_1 (fun n d => r_goto gx242_90) ?_)
                  exact pt_d (pt_iret gx242_131 ⟨_, rfl, by rw [h32]; exact H⟩)
              · have H := H.2 e19
                refine pt_d (pt_1 (fun n d => r_aloadn gx242_67 rfl) ?_)
                refine pt_d (pt_getR gx242_68 S17 tr_72_41 ?_)
                refine pt_d (pt_1 (fun n d => r_iload gx242_71 rfl) ?_)
                refine pt_d (pt_iald (N' := 300) gx242_73 S17 tl_104 h17 (fun v34 p34 q34 h34 => ?_))
                have H := H p34 q34
                refine pt_d (pt_1 (fun n d => r_goto gx242_74) ?_)
                exact pt_d (pt_iret gx242_131 ⟨_, rfl, by rw [h34]; exact H⟩)
            · have H := H.2 e18
              refine pt_d (pt_bipush gx242_59 (fun v35 h35 => ?_))
              exact pt_d (pt_iret gx242_61 ⟨_, rfl, by rw [h35]; exact H⟩)
          · have H := H.2 e16
            refine pt_d (pt_iconst gx242_41 (fun v36 h36 => ?_))
            exact pt_d (pt_iret gx242_42 ⟨_, rfl, by rw [h36]; exact H⟩)
theorem d243_0 {n : Nat} {X : aX} {h : aH} {P : Int → aH → Prop} {x1 x2 x3 x4 : Int32} {a1 a2 a3 a4 : Int} (S : wS h) (z1 : x1.toInt = a1) (z2 : x2.toInt = a2) (z3 : x3.toInt = a3) (z4 : x4.toInt = a4) (H : ((¬ (mFarm (vw h) a1) → P (-1) h) ∧ ((mFarm (vw h) a1) → ((¬ (mField (vw h) a2) → P (-1) h) ∧ ((mField (vw h) a2) → ((¬ (0 ≤ a3 ∧ a3 ≤ 9) → P (-1) h) ∧ ((0 ≤ a3 ∧ a3 ≤ 9) → (((0 ≤ a4 ∧ a4 ≤ 576) → ((q239 (vw h)) ∧ ∀ (y15 : Int) (h_15 : aH), (wS h_15 ∧ R241 (vw h) a1 a2 a3 (vw h 72 1) y15 (vw h_15)) → ((0 ≤ y15 → ((vw h_15 72 32 ≠ 200 → (0 ≤ vw h_15 72 32 → vw h_15 72 32 < 200 → ∀ h_41 : aH, wS h_41 → vw h_41 = up (up (up (up (up (up (up (vw h_15) 98 (vw h_15 72 32) a1) 99 (vw h_15 72 32) a2) 100 (vw h_15 72 32) a3) 101 (vw h_15 72 32) a4) 102 (vw h_15 72 32) (vw h_15 72 1)) 72 32 (w32 ((vw h_15 72 32) + 1))) 72 38 1 → P (w32 ((vw h_15 72 32) + 1)) h_41)) ∧ (vw h_15 72 32 = 200 → P (-3) h_15))) ∧ (y15 < 0 → P (-2) h_15)))) ∧ (¬ (0 ≤ a4 ∧ a4 ≤ 576) → P (-1) h))))))))) : Pt (n + 1) X zM243 0 [some (.ref 72), some (.int x1), some (.int x2), some (.int x3), some (.int x4)] [] h (qI P) := by
  refine pt_1 (fun n d => r_aloadn gx243_0 rfl) ?_
  refine pt_d (pt_1 (fun n d => r_iloadn gx243_1 rfl) ?_)
  refine pt_d (pt_virt (as := [.int x1]) (r := []) gx243_2 rfl (show zmt[202]? = some zM202 from rfl) rfl rfl rfl rfl (c_202 S z1) (kqP (fun v1 h1 => ?_)))
  show Pt _ _ _ 5 _ [.int v1] _ _
  refine pt_d (pt_ifB_eq gx243_5 h1 (fun e2 => ?_) (fun e2 => ?_))
  · have H := H.1 e2
    refine pt_d (pt_iconst gx243_35 (fun v3 h3 => ?_))
    exact pt_d (pt_iret gx243_36 ⟨_, rfl, by rw [h3]; exact H⟩)
  · have H := H.2 e2
    refine pt_d (pt_1 (fun n d => r_aloadn gx243_8 rfl) ?_)
    refine pt_d (pt_1 (fun n d => r_iloadn gx243_9 rfl) ?_)
    refine pt_d (pt_virt (as := [.int x2]) (r := []) gx243_10 rfl (show zmt[203]? = some zM203 from rfl) rfl rfl rfl rfl (c_203 S z2) (kqP (fun v4 h4 => ?_)))
    show Pt _ _ _ 13 _ [.int v4] _ _
    refine pt_d (pt_ifB_eq gx243_13 h4 (fun e5 => ?_) (fun e5 => ?_))
    · have H := H.1 e5
      refine pt_d (pt_iconst gx243_35 (fun v6 h6 => ?_))
      exact pt_d (pt_iret gx243_36 ⟨_, rfl, by rw [h6]; exact H⟩)
    · have H := H.2 e5
      refine pt_d (pt_1 (fun n d => r_iloadn gx243_16 rfl) ?_)
      refine pt_d (pt_stat (as := [.int x3]) (r := []) gx243_17 rfl (show zmt[198]? = some zM198 from rfl) rfl rfl rfl rfl (c_198 S z3) (kqP (fun v7 h7 => ?_)))
      show Pt _ _ _ 20 _ [.int v7] _ _
      refine pt_d (pt_ifB_eq gx243_20 h7 (fun e8 => ?_) (fun e8 => ?_))
      · have H := H.1 e8
        refine pt_d (pt_iconst gx243_35 (fun v9 h9 => ?_))
        exact pt_d (pt_iret gx243_36 ⟨_, rfl, by rw [h9]; exact H⟩)
      · have H := H.2 e8
        refine pt_d (pt_1 (fun n d => r_iload gx243_23 rfl) ?_)
        refine pt_d (pt_iconst gx243_25 (fun v10 h10 => ?_))
        refine pt_d (pt_sipush gx243_26 (fun v11 h11 => ?_))
        refine pt_d (pt_stat (as := [.int x4, .int v10, .int v11]) (r := []) gx243_29 rfl (show zmt[196]? = some zM196 from rfl) rfl rfl rfl rfl (c_196 S z4 h10 h11) (kqP (fun v12 h12 => ?_)))
        show Pt _ _ _ 32 _ [.int v12] _ _
        refine pt_d (pt_ifB_ne gx243_32 h12 (fun e13 => ?_) (fun e13 => ?_))
        · have H := H.1 e13
          refine pt_d (pt_1 (fun n d => r_aloadn gx243_37 rfl) ?_)
          refine pt_d (pt_1 (fun n d => r_iloadn gx243_38 rfl) ?_)
          refine pt_d (pt_1 (fun n d => r_iloadn gx243_39 rfl) ?_)
          refine pt_d (pt_1 (fun n d => r_iloadn gx243_40 rfl) ?_)
          refine pt_d (pt_1 (fun n d => r_aloadn gx243_41 rfl) ?_)
          refine pt_d (pt_getI (B := 1) gx243_42 S (fun v14 h14 => ?_))
          obtain ⟨pr15, H⟩ := H
          refine pt_d (pt_virt (as := [.int x1, .int x2, .int x3, .int v14]) (r := []) gx243_45 rfl (show zmt[241]? = some zM241 from rfl) rfl rfl rfl rfl (c_241 S z1 z2 z3 h14 pr15) (kqI (fun v15 y15 h_15 h15 P15 => ?_)))
          have S15 := P15.1
          have H := H y15 h_15 P15
          show Pt _ _ _ 48 _ [.int v15] _ _
          refine pt_d (pt_if_ge gx243_48 h15 (fun e16 => ?_) (fun e16 => ?_))
          · have H := H.1 e16
            refine pt_d (pt_1 (fun n d => r_aloadn gx243_54 rfl) ?_)
            refine pt_d (pt_getI (B := 32) gx243_55 S15 (fun v17 h17 => ?_))
            refine pt_d (pt_sipush gx243_58 (fun v18 h18 => ?_))
            refine pt_d (pt_icmp_ne gx243_61 h17 h18 (fun e19 => ?_) (fun e19 => ?_))
            · have H := H.1 e19
              refine pt_d (pt_1 (fun n d => r_aloadn gx243_67 rfl) ?_)
              refine pt_d (pt_getR gx243_68 S15 tr_72_33 ?_)
              refine pt_d (pt_1 (fun n d => r_aloadn gx243_71 rfl) ?_)
              refine pt_d (pt_getI (B := 32) gx243_72 S15 (fun v21 h21 => ?_))
              refine pt_d (pt_1 (fun n d => r_iloadn gx243_75 rfl) ?_)
              refine pt_d (pt_iast (N' := 200) gx243_76 S15 tl_98 h21 z1 (fun h_22 S22 p22 q22 e22 => ?_))
              have H := H p22 q22
              refine pt_d (pt_1 (fun n d => r_aloadn gx243_77 rfl) ?_)
              refine pt_d (pt_getR gx243_78 S22 tr_72_34 ?_)
              refine pt_d (pt_1 (fun n d => r_aloadn gx243_81 rfl) ?_)
              refine pt_d (pt_getI (B := 32) gx243_82 S22 (fun v24 h24 => ?_))
              have h24 : v24.toInt = vw h_15 72 32 := by rw [h24, e22, up_c (by decide)]
              refine pt_d (pt_1 (fun n d => r_iloadn gx243_85 rfl) ?_)
              refine pt_d (pt_iast (N' := 200) gx243_86 S22 tl_99 h24 z2 (fun h_25 S25 p25 q25 e25 => ?_))
              refine pt_d (pt_1 (fun n d => r_aloadn gx243_87 rfl) ?_)
              refine pt_d (pt_getR gx243_88 S25 tr_72_35 ?_)
              refine pt_d (pt_1 (fun n d => r_aloadn gx243_91 rfl) ?_)
              refine pt_d (pt_getI (B := 32) gx243_92 S25 (fun v27 h27 => ?_))
              have h27 : v27.toInt = vw h_15 72 32 := by rw [h27, e25, up_c (by decide), e22, up_c (by decide)]
              refine pt_d (pt_1 (fun n d => r_iloadn gx243_95 rfl) ?_)
              refine pt_d (pt_iast (N' := 200) gx243_96 S25 tl_100 h27 z3 (fun h_28 S28 p28 q28 e28 => ?_))
              refine pt_d (pt_1 (fun n d => r_aloadn gx243_97 rfl) ?_)
              refine pt_d (pt_getR gx243_98 S28 tr_72_36 ?_)
              refine pt_d (pt_1 (fun n d => r_aloadn gx243_101 rfl) ?_)
              refine pt_d (pt_getI (B := 32) gx243_102 S28 (fun v30 h30 => ?_))
              have h30 : v30.toInt = vw h_15 72 32 := by rw [h30, e28, up_c (by decide), e25, up_c (by decide), e22, up_c (by decide)]
              refine pt_d (pt_1 (fun n d => r_iload gx243_105 rfl) ?_)
              refine pt_d (pt_iast (N' := 200) gx243_107 S28 tl_101 h30 z4 (fun h_31 S31 p31 q31 e31 => ?_))
              refine pt_d (pt_1 (fun n d => r_aloadn gx243_108 rfl) ?_)
              refine pt_d (pt_getR gx243_109 S31 tr_72_37 ?_)
              refine pt_d (pt_1 (fun n d => r_aloadn gx243_112 rfl) ?_)
              refine pt_d (pt_getI (B := 32) gx243_113 S31 (fun v33 h33 => ?_))
              have h33 : v33.toInt = vw h_15 72 32 := by rw [h33, e31, up_c (by decide), e28, up_c (by decide), e25, up_c (by decide), e22, up_c (by decide)]
              refine pt_d (pt_1 (fun n d => r_aloadn gx243_116 rfl) ?_)
              refine pt_d (pt_getI (B := 1) gx243_117 S31 (fun v34 h34 => ?_))
              have h34 : v34.toInt = vw h_15 72 1 := by rw [h34, e31, up_c (by decide), e28, up_c (by decide), e25, up_c (by decide), e22, up_c (by decide)]
              refine pt_d (pt_iast (N' := 200) gx243_120 S31 tl_102 h33 h34 (fun h_35 S35 p35 q35 e35 => ?_))
              refine pt_d (pt_1 (fun n d => r_aloadn gx243_121 rfl) ?_)
              refine pt_d (pt_1 (fun n d => r_dup gx243_122 rfl) ?_)
              refine pt_d (pt_getI (B := 32) gx243_123 S35 (fun v36 h36 => ?_))
              have h36 : v36.toInt = vw h_15 72 32 := by rw [h36, e35, up_c (by decide), e31, up_c (by decide), e28, up_c (by decide), e25, up_c (by decide), e22, up_c (by decide)]
              refine pt_d (pt_iconst gx243_126 (fun v37 h37 => ?_))
              refine pt_d (pt_iadd gx243_127 h36 h37 (fun v38 h38 => ?_))
              refine pt_d (pt_putI (B := 32) gx243_128 S35 h38 (fun h_39 S39 e39 => ?_))
              refine pt_d (pt_1 (fun n d => r_aloadn gx243_131 rfl) ?_)
              refine pt_d (pt_iconst gx243_132 (fun v40 h40 => ?_))
              refine pt_d (pt_putI (B := 38) gx243_133 S39 h40 (fun h_41 S41 e41 => ?_))
              refine pt_d (pt_1 (fun n d => r_aloadn gx243_136 rfl) ?_)
              refine pt_d (pt_getI (B := 32) gx243_137 S41 (fun v42 h42 => ?_))
              have h42 : v42.toInt = w32 ((vw h_15 72 32) + 1) := by rw [h42, e41, up_j (by decide), e39, up_s]
              have H := H h_41 S41 (by rw [e41, e39, e35, e31, e28, e25, e22])
              exact pt_d (pt_iret gx243_140 ⟨_, rfl, by rw [h42]; exact H⟩)
            · have H := H.2 e19
              refine pt_d (pt_bipush gx243_64 (fun v43 h43 => ?_))
              exact pt_d (pt_iret gx243_66 ⟨_, rfl, by rw [h43]; exact H⟩)
          · have H := H.2 e16
            refine pt_d (pt_bipush gx243_51 (fun v44 h44 => ?_))
            exact pt_d (pt_iret gx243_53 ⟨_, rfl, by rw [h44]; exact H⟩)
        · have H := H.2 e13
          refine pt_d (pt_iconst gx243_35 (fun v45 h45 => ?_))
          exact pt_d (pt_iret gx243_36 ⟨_, rfl, by rw [h45]; exact H⟩)
theorem LkM_m {V W : vS} (A : agM V W) (k yr c : Int) : LkM W k yr c ↔ LkM V k yr c := by
  unfold LkM
  rw [mcn_m A, agM_x A 90 c (by decide) (by decide)]
theorem DB_m {V W : vS} (A : agM V W) (k yr q : Int) : DB W k yr q ↔ DB V k yr q := by
  have e87 : ∀ j, W 87 j = V 87 j := fun j => agM_x A 87 j (by decide) (by decide)
  unfold DB
  simp only [LkM_m A, InM_m A, e87, agM_19 A]
theorem tkQ_m {V W : vS} (A : agM V W) (k yr c q : Int) : tkQ W k yr c q ↔ tkQ V k yr c q := by
  have e87 : ∀ j, W 87 j = V 87 j := fun j => agM_x A 87 j (by decide) (by decide)
  have e88 : ∀ j, W 88 j = V 88 j := fun j => agM_x A 88 j (by decide) (by decide)
  unfold tkQ
  simp only [LkM_m A, InM_m A, e87, e88, agM_19 A]
theorem gdR_m {V W : vS} (A : agM V W) (k yr c q : Int) : gdR W k yr c q ↔ gdR V k yr c q := by
  unfold gdR
  rw [DB_m A, tkQ_m A, InM_m A, isO_m A]
theorem bdR_m {V W : vS} (A : agM V W) (k yr c q : Int) : bdR W k yr c q ↔ bdR V k yr c q := by
  unfold bdR
  rw [DB_m A, InM_m A]
theorem vG_m {V W : vS} (A : agM V W) (k c : Int) : vG W k c = vG V k c := by
  unfold vG
  rw [agM_x A 90 c (by decide) (by decide)]
  exact nQ_c 576 (fun q _ _ => gdR_m A k _ c q)
theorem vG_r {V W : vS} (A : agR V W) (k c : Int) : vG W k c = vG V k c := vG_m (agR_m A) k c
theorem vB_m {V W : vS} (A : agM V W) (k c : Int) : vB W k c = vB V k c := by
  unfold vB
  rw [agM_x A 90 c (by decide) (by decide)]
  exact nQ_c 576 (fun q _ _ => bdR_m A k _ c q)
theorem vB_r {V W : vS} (A : agR V W) (k c : Int) : vB W k c = vB V k c := vB_m (agR_m A) k c
theorem vF_m {V W : vS} (A : agM V W) (k c : Int) : vF W k c = vF V k c := by
  unfold vF
  rw [vG_m A, mmg_m A, agM_32 A]
theorem vF_r {V W : vS} (A : agR V W) (k c : Int) : vF W k c = vF V k c := vF_m (agR_m A) k c
theorem lt0_m {V W : vS} (A : agM V W) (c : Int) : lt0 W c = lt0 V c := by
  have e91 : ∀ j, W 91 j = V 91 j := fun j => agM_x A 91 j (by decide) (by decide)
  have e74 : ∀ j, W 74 j = V 74 j := fun j => agM_x A 74 j (by decide) (by decide)
  unfold lt0
  rw [e91, e74, agM_x A 87 c (by decide) (by decide), agM_x A 90 c (by decide) (by decide)]
theorem lt0_r {V W : vS} (A : agR V W) (c : Int) : lt0 W c = lt0 V c := lt0_m (agR_m A) c
theorem rOK_R {V W : vS} {k : Int} (R : R239 V k W) : rOK W := by
  intro _
  have A := R.1.1
  have e19 : W 72 19 = V 72 19 := agR_y A (by decide) (by decide)
  rw [R.1.2.1.2]
  refine ⟨fun c a b => (R.1.2.2 c a (by omega)).trans (bI_c (mcn_r A c k).symm), fun c a b m z1 z2 => ?_⟩
  rw [agR_x A 90 c (by decide) (by decide)] at z1 z2
  have r := R.2 c a (by omega) ((mcn_r A c k).mp m) z1 z2
  exact ⟨r.1.trans (vG_r A k c).symm, r.2.1.trans (vB_r A k c).symm, r.2.2.trans (vF_r A k c).symm⟩
noncomputable def cval (V : vS) (k c w : Int) : Int := if w = 0 then vG V k c else if w = 1 then vF V k c else if w = 2 then V 89 c else if w = 3 then vB V k c else lt0 V c
def ok18 (V : vS) (f b y k w : Int) : Prop := mFarm V f ∧ mField V b ∧ (0 ≤ y ∧ y ≤ 9) ∧ (0 ≤ k ∧ k ≤ 3649) ∧ 0 ≤ w ∧ w ≤ 4
def an18 (V : vS) (f b y k w r : Int) : Prop := (¬ ok18 V f b y k w ∧ r = -1) ∨ (ok18 V f b y k w ∧ ((r = -2 ∧ ∀ c, 0 ≤ c → c < V 72 19 → ¬ cl1 V f b y k c) ∨ ∃ c, (0 ≤ c ∧ c < V 72 19) ∧ cl1 V f b y k c ∧ r = cval V k c w))
def R242 (V : vS) (f b y k w r : Int) (W : vS) : Prop := (agR V W ∧ rOK W) ∧ an18 V f b y k w r
theorem c_242 {n : Nat} {X : aX} {h : aH} {x1 x2 x3 x4 x5 : Int32} {a1 a2 a3 a4 a5 : Int} (S : wS h) (z1 : x1.toInt = a1) (z2 : x2.toInt = a2) (z3 : x3.toInt = a3) (z4 : x4.toInt = a4) (z5 : x5.toInt = a5) (hp : q239 (vw h)) : Pt n X zM242 0 [some (.ref 72), some (.int x1), some (.int x2), some (.int x3), some (.int x4), some (.int x5), none] [] h (qI (fun r h' => wS h' ∧ R242 (vw h) a1 a2 a3 a4 a5 r (vw h'))) := by
  have bad : ¬ ok18 (vw h) a1 a2 a3 a4 a5 → R242 (vw h) a1 a2 a3 a4 a5 (-1) (vw h) := fun z => ⟨⟨agR_r _, hp.2.2.2.2⟩, Or.inl ⟨z, rfl⟩⟩
  refine pt_d (d242_0 S z1 z2 z3 z4 z5 ⟨fun e => ⟨S, bad (fun z => e z.1)⟩, fun e1 => ⟨fun e => ⟨S, bad (fun z => e z.2.1)⟩, fun e2 => ⟨fun e => ⟨S, bad (fun z => e z.2.2.1)⟩, fun e3 => ⟨fun e => ⟨S, bad (fun z => e z.2.2.2.1)⟩, fun e4 => ⟨fun e5 => ⟨hp, fun y g R => ?_⟩, fun e => ⟨S, bad (fun z => e z.2.2.2.2)⟩⟩⟩⟩⟩⟩)
  obtain ⟨S2, R, D⟩ := R
  have A := R.1.1
  have K : agR (vw h) (vw g) ∧ rOK (vw g) := ⟨A, rOK_R R⟩
  have ok : ok18 (vw h) a1 a2 a3 a4 a5 := ⟨e1, e2, e3, e4, e5⟩
  have give : ∀ r, (0 ≤ y ∧ y < vw h 72 19) → cl1 (vw h) a1 a2 a3 a4 y → r = cval (vw h) a4 y a5 → R242 (vw h) a1 a2 a3 a4 a5 r (vw g) := fun r n c e => ⟨K, Or.inr ⟨ok, Or.inr ⟨y, n, c, e⟩⟩⟩
  rcases D with ⟨rfl, no⟩ | ⟨ny, cy⟩
  · exact ⟨fun z => absurd z (by decide), fun _ => ⟨S2, K, Or.inr ⟨ok, Or.inl ⟨rfl, no⟩⟩⟩⟩
  · have r := R.2 y ny.1 ny.2 cy.1 (by rw [cy.2.2.2]; exact e3.1) (by rw [cy.2.2.2]; have := e3.2; omega)
    refine ⟨fun _ => ⟨fun w0 => ⟨fun w1 => ⟨fun w2 => ⟨fun w3 => ⟨S2, give _ ny cy ?_⟩, fun w3 _ _ => ⟨S2, give _ ny cy ?_⟩⟩, fun w2 _ _ => ⟨S2, give _ ny cy ?_⟩⟩, fun w1 _ _ => ⟨S2, give _ ny cy ?_⟩⟩, fun w0 _ _ => ⟨S2, give _ ny cy ?_⟩⟩, fun z => by omega⟩
    · unfold cval
      rw [if_neg w0, if_neg w1, if_neg w2, if_neg w3, lt0_r A]
    · unfold cval
      rw [if_neg w0, if_neg w1, if_neg w2, if_pos w3, r.2.1]
    · unfold cval
      rw [if_neg w0, if_neg w1, if_pos w2, agR_x A 89 y (by decide) (by decide)]
    · unfold cval
      rw [if_neg w0, if_pos w1, r.2.2]
    · unfold cval
      rw [if_pos w0, r.1]
def ok19 (V : vS) (f b y m : Int) : Prop := mFarm V f ∧ mField V b ∧ (0 ≤ y ∧ y ≤ 9) ∧ 0 ≤ m ∧ m ≤ 576
def has1 (V : vS) (f b y k : Int) : Prop := ∃ c, (0 ≤ c ∧ c < V 72 19) ∧ cl1 V f b y k c
def R243 (V : vS) (f b y m r : Int) (W : vS) : Prop := ∃ U, (agR V U ∧ rOK U) ∧ ((¬ ok19 V f b y m ∧ r = -1 ∧ W = U) ∨ (ok19 V f b y m ∧ ((¬ has1 V f b y (V 72 1) ∧ r = -2 ∧ W = U) ∨ (has1 V f b y (V 72 1) ∧ ((V 72 32 = 200 ∧ r = -3 ∧ W = U) ∨ (V 72 32 ≠ 200 ∧ r = w32 (V 72 32 + 1) ∧ W = up (up (up (up (up (up (up U 98 (V 72 32) f) 99 (V 72 32) b) 100 (V 72 32) y) 101 (V 72 32) m) 102 (V 72 32) (V 72 1)) 72 32 (w32 (V 72 32 + 1))) 72 38 1))))))
theorem c_243 {n : Nat} {X : aX} {h : aH} {x1 x2 x3 x4 : Int32} {a1 a2 a3 a4 : Int} (S : wS h) (z1 : x1.toInt = a1) (z2 : x2.toInt = a2) (z3 : x3.toInt = a3) (z4 : x4.toInt = a4) (hp : q239 (vw h)) : Pt n X zM243 0 [some (.ref 72), some (.int x1), some (.int x2), some (.int x3), some (.int x4)] [] h (qI (fun r h' => wS h' ∧ R243 (vw h) a1 a2 a3 a4 r (vw h'))) := by
  have bad : ¬ ok19 (vw h) a1 a2 a3 a4 → R243 (vw h) a1 a2 a3 a4 (-1) (vw h) := fun z => ⟨_, ⟨agR_r _, hp.2.2.2.2⟩, Or.inl ⟨z, rfl, rfl⟩⟩
  refine pt_d (d243_0 S z1 z2 z3 z4 ⟨fun e => ⟨S, bad (fun z => e z.1)⟩, fun e1 => ⟨fun e => ⟨S, bad (fun z => e z.2.1)⟩, fun e2 => ⟨fun e => ⟨S, bad (fun z => e z.2.2.1)⟩, fun e3 => ⟨fun e4 => ⟨hp, fun y g R => ?_⟩, fun e => ⟨S, bad (fun z => e z.2.2.2)⟩⟩⟩⟩⟩)
  obtain ⟨S2, R, D⟩ := R
  have A := R.1.1
  have K : agR (vw h) (vw g) ∧ rOK (vw g) := ⟨A, rOK_R R⟩
  have ok : ok19 (vw h) a1 a2 a3 a4 := ⟨e1, e2, e3, e4⟩
  have e32 : vw g 72 32 = vw h 72 32 := agR_y A (by decide) (by decide)
  have e1' : vw g 72 1 = vw h 72 1 := agR_y A (by decide) (by decide)
  rcases D with ⟨rfl, no⟩ | ⟨ny, cy⟩
  · exact ⟨fun z => absurd z (by decide), fun _ => ⟨S2, _, K, Or.inr ⟨ok, Or.inl ⟨fun ⟨c, nc, hc⟩ => no c nc.1 nc.2 hc, rfl, rfl⟩⟩⟩⟩
  · refine ⟨fun _ => ⟨fun w _ _ f S3 ef => ⟨S3, _, K, Or.inr ⟨ok, Or.inr ⟨⟨y, ny, cy⟩, Or.inr ⟨by rw [← e32]; exact w, by rw [e32], by rw [ef, e32, e1']⟩⟩⟩⟩, fun w => ⟨S2, _, K, Or.inr ⟨ok, Or.inr ⟨⟨y, ny, cy⟩, Or.inl ⟨by rw [← e32]; exact w, rfl, rfl⟩⟩⟩⟩⟩, fun z => by omega⟩
end
section
-- ===== seasons: the class makes =====
theorem tl_42 : tkL 42 4 10 = true := by decide +kernel
theorem tl_22 : tkL 22 0 4 = true := by decide +kernel
theorem tr_41_0 : tkR 41 0 1 = true := by decide +kernel
theorem tr_41_1 : tkR 41 1 16 = true := by decide +kernel
theorem tr_41_3 : tkR 41 3 42 = true := by decide +kernel
theorem tr_16_9 : tkR 16 9 22 = true := by decide +kernel
theorem tr_0_4 : tkR 0 4 41 = true := by decide +kernel
theorem gx96_0 : aF 0 zM96.2.2.2.2.2.2.2 = some (0, (.aload_n 0), 1, 0, 0) := by decide +kernel
theorem gx96_1 : aF 1 zM96.2.2.2.2.2.2.2 = some (1, (.invokespecial 3), 3, 1000, 0) := by decide +kernel
theorem gx96_4 : aF 4 zM96.2.2.2.2.2.2.2 = some (4, (.aload_n 0), 1, 0, 0) := by decide +kernel
theorem gx96_5 : aF 5 zM96.2.2.2.2.2.2.2 = some (5, (.iconst (-1)), 1, 0, 0) := by decide +kernel
theorem gx96_6 : aF 6 zM96.2.2.2.2.2.2.2 = some (6, (.putfield 9), 3, 8, 3) := by decide +kernel
theorem gx96_9 : aF 9 zM96.2.2.2.2.2.2.2 = some (9, (.aload_n 0), 1, 0, 0) := by decide +kernel
theorem gx96_10 : aF 10 zM96.2.2.2.2.2.2.2 = some (10, (.iconst (-1)), 1, 0, 0) := by decide +kernel
theorem gx96_11 : aF 11 zM96.2.2.2.2.2.2.2 = some (11, (.putfield 15), 3, 8, 4) := by decide +kernel
theorem gx96_14 : aF 14 zM96.2.2.2.2.2.2.2 = some (14, (.aload_n 0), 1, 0, 0) := by decide +kernel
theorem gx96_15 : aF 15 zM96.2.2.2.2.2.2.2 = some (15, (.sipush 300), 3, 0, 0) := by decide +kernel
theorem gx96_18 : aF 18 zM96.2.2.2.2.2.2.2 = some (18, (.newarray .int), 2, 0, 0) := by decide +kernel
theorem gx96_20 : aF 20 zM96.2.2.2.2.2.2.2 = some (20, (.putfield 18), 3, 8, 6) := by decide +kernel
theorem gx96_23 : aF 23 zM96.2.2.2.2.2.2.2 = some (23, (.aload_n 0), 1, 0, 0) := by decide +kernel
theorem gx96_24 : aF 24 zM96.2.2.2.2.2.2.2 = some (24, (.sipush 300), 3, 0, 0) := by decide +kernel
theorem gx96_27 : aF 27 zM96.2.2.2.2.2.2.2 = some (27, (.newarray .int), 2, 0, 0) := by decide +kernel
theorem gx96_29 : aF 29 zM96.2.2.2.2.2.2.2 = some (29, (.putfield 22), 3, 8, 7) := by decide +kernel
theorem gx96_32 : aF 32 zM96.2.2.2.2.2.2.2 = some (32, (.aload_n 0), 1, 0, 0) := by decide +kernel
theorem gx96_33 : aF 33 zM96.2.2.2.2.2.2.2 = some (33, (.sipush 300), 3, 0, 0) := by decide +kernel
theorem gx96_36 : aF 36 zM96.2.2.2.2.2.2.2 = some (36, (.newarray .int), 2, 0, 0) := by decide +kernel
theorem gx96_38 : aF 38 zM96.2.2.2.2.2.2.2 = some (38, (.putfield 25), 3, 8, 8) := by decide +kernel
theorem gx96_41 : aF 41 zM96.2.2.2.2.2.2.2 = some (41, (.aload_n 0), 1, 0, 0) := by decide +kernel
theorem gx96_42 : aF 42 zM96.2.2.2.2.2.2.2 = some (42, (.bipush 24), 2, 0, 0) := by decide +kernel
theorem gx96_44 : aF 44 zM96.2.2.2.2.2.2.2 = some (44, (.newarray .int), 2, 0, 0) := by decide +kernel
theorem gx96_46 : aF 46 zM96.2.2.2.2.2.2.2 = some (46, (.putfield 28), 3, 8, 9) := by decide +kernel
theorem gx96_49 : aF 49 zM96.2.2.2.2.2.2.2 = some (49, (.aload_n 0), 1, 0, 0) := by decide +kernel
theorem gx96_50 : aF 50 zM96.2.2.2.2.2.2.2 = some (50, (.sipush 150), 3, 0, 0) := by decide +kernel
theorem gx96_53 : aF 53 zM96.2.2.2.2.2.2.2 = some (53, (.newarray .int), 2, 0, 0) := by decide +kernel
theorem gx96_55 : aF 55 zM96.2.2.2.2.2.2.2 = some (55, (.putfield 31), 3, 8, 10) := by decide +kernel
theorem gx96_58 : aF 58 zM96.2.2.2.2.2.2.2 = some (58, (.aload_n 0), 1, 0, 0) := by decide +kernel
theorem gx96_59 : aF 59 zM96.2.2.2.2.2.2.2 = some (59, (.sipush 150), 3, 0, 0) := by decide +kernel
theorem gx96_62 : aF 62 zM96.2.2.2.2.2.2.2 = some (62, (.newarray .int), 2, 0, 0) := by decide +kernel
theorem gx96_64 : aF 64 zM96.2.2.2.2.2.2.2 = some (64, (.putfield 34), 3, 8, 11) := by decide +kernel
theorem gx96_67 : aF 67 zM96.2.2.2.2.2.2.2 = some (67, (.aload_n 0), 1, 0, 0) := by decide +kernel
theorem gx96_68 : aF 68 zM96.2.2.2.2.2.2.2 = some (68, (.sipush 150), 3, 0, 0) := by decide +kernel
theorem gx96_71 : aF 71 zM96.2.2.2.2.2.2.2 = some (71, (.newarray .int), 2, 0, 0) := by decide +kernel
theorem gx96_73 : aF 73 zM96.2.2.2.2.2.2.2 = some (73, (.putfield 37), 3, 8, 12) := by decide +kernel
theorem gx96_76 : aF 76 zM96.2.2.2.2.2.2.2 = some (76, (.aload_n 0), 1, 0, 0) := by decide +kernel
theorem gx96_77 : aF 77 zM96.2.2.2.2.2.2.2 = some (77, (.aload_n 1), 1, 0, 0) := by decide +kernel
theorem gx96_78 : aF 78 zM96.2.2.2.2.2.2.2 = some (78, (.putfield 40), 3, 8, 0) := by decide +kernel
theorem gx96_81 : aF 81 zM96.2.2.2.2.2.2.2 = some (81, (.aload_n 0), 1, 0, 0) := by decide +kernel
theorem gx96_82 : aF 82 zM96.2.2.2.2.2.2.2 = some (82, (.aload_n 2), 1, 0, 0) := by decide +kernel
theorem gx96_83 : aF 83 zM96.2.2.2.2.2.2.2 = some (83, (.putfield 44), 3, 8, 1) := by decide +kernel
theorem gx96_86 : aF 86 zM96.2.2.2.2.2.2.2 = some (86, (.aload_n 0), 1, 0, 0) := by decide +kernel
theorem gx96_87 : aF 87 zM96.2.2.2.2.2.2.2 = some (87, (.iload_n 3), 1, 0, 0) := by decide +kernel
theorem gx96_88 : aF 88 zM96.2.2.2.2.2.2.2 = some (88, (.putfield 48), 3, 8, 2) := by decide +kernel
theorem gx96_91 : aF 91 zM96.2.2.2.2.2.2.2 = some (91, .return_, 1, 0, 0) := by decide +kernel
theorem gx1_0 : aF 0 zM1.2.2.2.2.2.2.2 = some (0, (.aload_n 0), 1, 0, 0) := by decide +kernel
theorem gx1_1 : aF 1 zM1.2.2.2.2.2.2.2 = some (1, (.getfield 33), 3, 0, 0) := by decide +kernel
theorem gx1_4 : aF 4 zM1.2.2.2.2.2.2.2 = some (4, (.getfield 45), 3, 6, 1) := by decide +kernel
theorem gx1_7 : aF 7 zM1.2.2.2.2.2.2.2 = some (7, (.aload_n 0), 1, 0, 0) := by decide +kernel
theorem gx1_8 : aF 8 zM1.2.2.2.2.2.2.2 = some (8, (.getfield 33), 3, 0, 0) := by decide +kernel
theorem gx1_11 : aF 11 zM1.2.2.2.2.2.2.2 = some (11, (.getfield 51), 3, 6, 5) := by decide +kernel
theorem gx1_14 : aF 14 zM1.2.2.2.2.2.2.2 = some (14, .iadd, 1, 0, 0) := by decide +kernel
theorem gx1_15 : aF 15 zM1.2.2.2.2.2.2.2 = some (15, (.aload_n 0), 1, 0, 0) := by decide +kernel
theorem gx1_16 : aF 16 zM1.2.2.2.2.2.2.2 = some (16, (.getfield 37), 3, 0, 1) := by decide +kernel
theorem gx1_19 : aF 19 zM1.2.2.2.2.2.2.2 = some (19, (.getfield 54), 3, 2, 1) := by decide +kernel
theorem gx1_22 : aF 22 zM1.2.2.2.2.2.2.2 = some (22, .iadd, 1, 0, 0) := by decide +kernel
theorem gx1_23 : aF 23 zM1.2.2.2.2.2.2.2 = some (23, (.aload_n 0), 1, 0, 0) := by decide +kernel
theorem gx1_24 : aF 24 zM1.2.2.2.2.2.2.2 = some (24, (.getfield 37), 3, 0, 1) := by decide +kernel
theorem gx1_27 : aF 27 zM1.2.2.2.2.2.2.2 = some (27, (.getfield 57), 3, 2, 2) := by decide +kernel
theorem gx1_30 : aF 30 zM1.2.2.2.2.2.2.2 = some (30, .iadd, 1, 0, 0) := by decide +kernel
theorem gx1_31 : aF 31 zM1.2.2.2.2.2.2.2 = some (31, (.aload_n 0), 1, 0, 0) := by decide +kernel
theorem gx1_32 : aF 32 zM1.2.2.2.2.2.2.2 = some (32, (.getfield 37), 3, 0, 1) := by decide +kernel
theorem gx1_35 : aF 35 zM1.2.2.2.2.2.2.2 = some (35, (.getfield 60), 3, 2, 3) := by decide +kernel
theorem gx1_38 : aF 38 zM1.2.2.2.2.2.2.2 = some (38, .iadd, 1, 0, 0) := by decide +kernel
theorem gx1_39 : aF 39 zM1.2.2.2.2.2.2.2 = some (39, (.istore_n 3), 1, 0, 0) := by decide +kernel
theorem gx1_40 : aF 40 zM1.2.2.2.2.2.2.2 = some (40, (.aload_n 0), 1, 0, 0) := by decide +kernel
theorem gx1_41 : aF 41 zM1.2.2.2.2.2.2.2 = some (41, (.getfield 11), 3, 0, 3) := by decide +kernel
theorem gx1_44 : aF 44 zM1.2.2.2.2.2.2.2 = some (44, (.iload_n 1), 1, 0, 0) := by decide +kernel
theorem gx1_45 : aF 45 zM1.2.2.2.2.2.2.2 = some (45, .aaload, 1, 0, 0) := by decide +kernel
theorem gx1_46 : aF 46 zM1.2.2.2.2.2.2.2 = some (46, (.astore 4), 2, 0, 0) := by decide +kernel
theorem gx1_48 : aF 48 zM1.2.2.2.2.2.2.2 = some (48, (.aload 4), 2, 0, 0) := by decide +kernel
theorem gx1_50 : aF 50 zM1.2.2.2.2.2.2.2 = some (50, (.ifnonnull 29), 3, 79, 0) := by decide +kernel
theorem gx1_53 : aF 53 zM1.2.2.2.2.2.2.2 = some (53, (.new 9), 3, 8, 0) := by decide +kernel
theorem gx1_56 : aF 56 zM1.2.2.2.2.2.2.2 = some (56, .dup, 1, 0, 0) := by decide +kernel
theorem gx1_57 : aF 57 zM1.2.2.2.2.2.2.2 = some (57, (.aload_n 0), 1, 0, 0) := by decide +kernel
theorem gx1_58 : aF 58 zM1.2.2.2.2.2.2.2 = some (58, (.getfield 33), 3, 0, 0) := by decide +kernel
theorem gx1_61 : aF 61 zM1.2.2.2.2.2.2.2 = some (61, (.aload_n 0), 1, 0, 0) := by decide +kernel
theorem gx1_62 : aF 62 zM1.2.2.2.2.2.2.2 = some (62, (.getfield 37), 3, 0, 1) := by decide +kernel
theorem gx1_65 : aF 65 zM1.2.2.2.2.2.2.2 = some (65, (.iload_n 1), 1, 0, 0) := by decide +kernel
theorem gx1_66 : aF 66 zM1.2.2.2.2.2.2.2 = some (66, (.invokespecial 63), 3, 96, 0) := by decide +kernel
theorem gx1_69 : aF 69 zM1.2.2.2.2.2.2.2 = some (69, (.astore 4), 2, 0, 0) := by decide +kernel
theorem gx1_71 : aF 71 zM1.2.2.2.2.2.2.2 = some (71, (.aload_n 0), 1, 0, 0) := by decide +kernel
theorem gx1_72 : aF 72 zM1.2.2.2.2.2.2.2 = some (72, (.getfield 11), 3, 0, 3) := by decide +kernel
theorem gx1_75 : aF 75 zM1.2.2.2.2.2.2.2 = some (75, (.iload_n 1), 1, 0, 0) := by decide +kernel
theorem gx1_76 : aF 76 zM1.2.2.2.2.2.2.2 = some (76, (.aload 4), 2, 0, 0) := by decide +kernel
theorem gx1_78 : aF 78 zM1.2.2.2.2.2.2.2 = some (78, .aastore, 1, 0, 0) := by decide +kernel
theorem gx1_79 : aF 79 zM1.2.2.2.2.2.2.2 = some (79, (.aload 4), 2, 0, 0) := by decide +kernel
theorem gx1_81 : aF 81 zM1.2.2.2.2.2.2.2 = some (81, (.getfield 66), 3, 8, 3) := by decide +kernel
theorem gx1_84 : aF 84 zM1.2.2.2.2.2.2.2 = some (84, (.iload_n 2), 1, 0, 0) := by decide +kernel
theorem gx1_85 : aF 85 zM1.2.2.2.2.2.2.2 = some (85, (.if_icmp .ne 12), 3, 97, 0) := by decide +kernel
theorem gx1_97 : aF 97 zM1.2.2.2.2.2.2.2 = some (97, (.aload 4), 2, 0, 0) := by decide +kernel
theorem gx1_99 : aF 99 zM1.2.2.2.2.2.2.2 = some (99, (.iload_n 2), 1, 0, 0) := by decide +kernel
theorem gx1_100 : aF 100 zM1.2.2.2.2.2.2.2 = some (100, (.iload_n 3), 1, 0, 0) := by decide +kernel
theorem gx1_101 : aF 101 zM1.2.2.2.2.2.2.2 = some (101, (.invokevirtual 72), 3, 97, 0) := by decide +kernel
theorem gx1_104 : aF 104 zM1.2.2.2.2.2.2.2 = some (104, (.aload 4), 2, 0, 0) := by decide +kernel
theorem gx1_106 : aF 106 zM1.2.2.2.2.2.2.2 = some (106, .areturn, 1, 0, 0) := by decide +kernel
theorem gx1_88 : aF 88 zM1.2.2.2.2.2.2.2 = some (88, (.aload 4), 2, 0, 0) := by decide +kernel
theorem gx1_90 : aF 90 zM1.2.2.2.2.2.2.2 = some (90, (.getfield 69), 3, 8, 4) := by decide +kernel
theorem gx1_93 : aF 93 zM1.2.2.2.2.2.2.2 = some (93, (.iload_n 3), 1, 0, 0) := by decide +kernel
theorem gx1_94 : aF 94 zM1.2.2.2.2.2.2.2 = some (94, (.if_icmp .eq 10), 3, 104, 0) := by decide +kernel
theorem gx98_0 : aF 0 zM98.2.2.2.2.2.2.2 = some (0, (.iconst 0), 1, 0, 0) := by decide +kernel
theorem gx98_1 : aF 1 zM98.2.2.2.2.2.2.2 = some (1, (.istore_n 3), 1, 0, 0) := by decide +kernel
theorem gx98_2 : aF 2 zM98.2.2.2.2.2.2.2 = some (2, (.iload_n 3), 1, 0, 0) := by decide +kernel
theorem gx98_3 : aF 3 zM98.2.2.2.2.2.2.2 = some (3, (.aload_n 0), 1, 0, 0) := by decide +kernel
theorem gx98_4 : aF 4 zM98.2.2.2.2.2.2.2 = some (4, (.getfield 51), 3, 8, 5) := by decide +kernel
theorem gx98_7 : aF 7 zM98.2.2.2.2.2.2.2 = some (7, (.if_icmp .ge 29), 3, 36, 0) := by decide +kernel
theorem gx98_36 : aF 36 zM98.2.2.2.2.2.2.2 = some (36, (.iconst (-1)), 1, 0, 0) := by decide +kernel
theorem gx98_37 : aF 37 zM98.2.2.2.2.2.2.2 = some (37, .ireturn, 1, 0, 0) := by decide +kernel
theorem gx98_10 : aF 10 zM98.2.2.2.2.2.2.2 = some (10, (.aload_n 0), 1, 0, 0) := by decide +kernel
theorem gx98_11 : aF 11 zM98.2.2.2.2.2.2.2 = some (11, (.iload_n 3), 1, 0, 0) := by decide +kernel
theorem gx98_12 : aF 12 zM98.2.2.2.2.2.2.2 = some (12, (.invokevirtual 81), 3, 100, 0) := by decide +kernel
theorem gx98_15 : aF 15 zM98.2.2.2.2.2.2.2 = some (15, (.iload_n 1), 1, 0, 0) := by decide +kernel
theorem gx98_16 : aF 16 zM98.2.2.2.2.2.2.2 = some (16, (.if_icmp .ne 14), 3, 30, 0) := by decide +kernel
theorem gx98_30 : aF 30 zM98.2.2.2.2.2.2.2 = some (30, (.iinc 3 1), 3, 0, 0) := by decide +kernel
theorem gx98_33 : aF 33 zM98.2.2.2.2.2.2.2 = some (33, (.goto (-31)), 3, 2, 0) := by decide +kernel
theorem gx98_19 : aF 19 zM98.2.2.2.2.2.2.2 = some (19, (.aload_n 0), 1, 0, 0) := by decide +kernel
theorem gx98_20 : aF 20 zM98.2.2.2.2.2.2.2 = some (20, (.iload_n 3), 1, 0, 0) := by decide +kernel
theorem gx98_21 : aF 21 zM98.2.2.2.2.2.2.2 = some (21, (.invokevirtual 84), 3, 101, 0) := by decide +kernel
theorem gx98_24 : aF 24 zM98.2.2.2.2.2.2.2 = some (24, (.iload_n 2), 1, 0, 0) := by decide +kernel
theorem gx98_25 : aF 25 zM98.2.2.2.2.2.2.2 = some (25, (.if_icmp .ne 5), 3, 30, 0) := by decide +kernel
theorem gx98_28 : aF 28 zM98.2.2.2.2.2.2.2 = some (28, (.iload_n 3), 1, 0, 0) := by decide +kernel
theorem gx98_29 : aF 29 zM98.2.2.2.2.2.2.2 = some (29, .ireturn, 1, 0, 0) := by decide +kernel
theorem gx31_0 : aF 0 zM31.2.2.2.2.2.2.2 = some (0, (.aload_n 0), 1, 0, 0) := by decide +kernel
theorem gx31_1 : aF 1 zM31.2.2.2.2.2.2.2 = some (1, (.getfield 60), 3, 2, 0) := by decide +kernel
theorem gx31_4 : aF 4 zM31.2.2.2.2.2.2.2 = some (4, (.getfield 83), 3, 6, 8) := by decide +kernel
theorem gx31_7 : aF 7 zM31.2.2.2.2.2.2.2 = some (7, (.aload_n 0), 1, 0, 0) := by decide +kernel
theorem gx31_8 : aF 8 zM31.2.2.2.2.2.2.2 = some (8, (.getfield 9), 3, 2, 4) := by decide +kernel
theorem gx31_11 : aF 11 zM31.2.2.2.2.2.2.2 = some (11, (.iload_n 1), 1, 0, 0) := by decide +kernel
theorem gx31_12 : aF 12 zM31.2.2.2.2.2.2.2 = some (12, .iaload, 1, 0, 0) := by decide +kernel
theorem gx31_13 : aF 13 zM31.2.2.2.2.2.2.2 = some (13, .iaload, 1, 0, 0) := by decide +kernel
theorem gx31_14 : aF 14 zM31.2.2.2.2.2.2.2 = some (14, (.istore_n 2), 1, 0, 0) := by decide +kernel
theorem gx31_15 : aF 15 zM31.2.2.2.2.2.2.2 = some (15, (.iload_n 2), 1, 0, 0) := by decide +kernel
theorem gx31_16 : aF 16 zM31.2.2.2.2.2.2.2 = some (16, (.invokestatic 86), 3, 140, 0) := by decide +kernel
theorem gx31_19 : aF 19 zM31.2.2.2.2.2.2.2 = some (19, (.ifCond .eq 27), 3, 46, 0) := by decide +kernel
theorem gx31_46 : aF 46 zM31.2.2.2.2.2.2.2 = some (46, (.iconst 0), 1, 0, 0) := by decide +kernel
theorem gx31_47 : aF 47 zM31.2.2.2.2.2.2.2 = some (47, .ireturn, 1, 0, 0) := by decide +kernel
theorem gx31_22 : aF 22 zM31.2.2.2.2.2.2.2 = some (22, (.iconst 0), 1, 0, 0) := by decide +kernel
theorem gx31_23 : aF 23 zM31.2.2.2.2.2.2.2 = some (23, (.aload_n 0), 1, 0, 0) := by decide +kernel
theorem gx31_24 : aF 24 zM31.2.2.2.2.2.2.2 = some (24, (.getfield 21), 3, 2, 7) := by decide +kernel
theorem gx31_27 : aF 27 zM31.2.2.2.2.2.2.2 = some (27, (.iload_n 1), 1, 0, 0) := by decide +kernel
theorem gx31_28 : aF 28 zM31.2.2.2.2.2.2.2 = some (28, .iaload, 1, 0, 0) := by decide +kernel
theorem gx31_29 : aF 29 zM31.2.2.2.2.2.2.2 = some (29, (.sipush 365), 3, 0, 0) := by decide +kernel
theorem gx31_32 : aF 32 zM31.2.2.2.2.2.2.2 = some (32, .irem, 1, 0, 0) := by decide +kernel
theorem gx31_33 : aF 33 zM31.2.2.2.2.2.2.2 = some (33, (.aload_n 0), 1, 0, 0) := by decide +kernel
theorem gx31_34 : aF 34 zM31.2.2.2.2.2.2.2 = some (34, (.getfield 27), 3, 2, 9) := by decide +kernel
theorem gx31_37 : aF 37 zM31.2.2.2.2.2.2.2 = some (37, (.iload_n 2), 1, 0, 0) := by decide +kernel
theorem gx31_38 : aF 38 zM31.2.2.2.2.2.2.2 = some (38, .iaload, 1, 0, 0) := by decide +kernel
theorem gx31_39 : aF 39 zM31.2.2.2.2.2.2.2 = some (39, .isub, 1, 0, 0) := by decide +kernel
theorem gx31_40 : aF 40 zM31.2.2.2.2.2.2.2 = some (40, (.invokestatic 90), 3, 1010, 0) := by decide +kernel
theorem gx31_43 : aF 43 zM31.2.2.2.2.2.2.2 = some (43, (.goto 4), 3, 47, 0) := by decide +kernel
theorem gx83_0 : aF 0 zM83.2.2.2.2.2.2.2 = some (0, (.iconst 0), 1, 0, 0) := by decide +kernel
theorem gx83_1 : aF 1 zM83.2.2.2.2.2.2.2 = some (1, (.istore_n 3), 1, 0, 0) := by decide +kernel
theorem gx83_2 : aF 2 zM83.2.2.2.2.2.2.2 = some (2, (.iconst 0), 1, 0, 0) := by decide +kernel
theorem gx83_3 : aF 3 zM83.2.2.2.2.2.2.2 = some (3, (.istore 4), 2, 0, 0) := by decide +kernel
theorem gx83_5 : aF 5 zM83.2.2.2.2.2.2.2 = some (5, (.iload 4), 2, 0, 0) := by decide +kernel
theorem gx83_7 : aF 7 zM83.2.2.2.2.2.2.2 = some (7, (.bipush 24), 2, 0, 0) := by decide +kernel
theorem gx83_9 : aF 9 zM83.2.2.2.2.2.2.2 = some (9, (.if_icmp .ge 27), 3, 36, 0) := by decide +kernel
theorem gx83_36 : aF 36 zM83.2.2.2.2.2.2.2 = some (36, (.iload_n 3), 1, 0, 0) := by decide +kernel
theorem gx83_37 : aF 37 zM83.2.2.2.2.2.2.2 = some (37, .ireturn, 1, 0, 0) := by decide +kernel
theorem gx83_12 : aF 12 zM83.2.2.2.2.2.2.2 = some (12, (.iload_n 3), 1, 0, 0) := by decide +kernel
theorem gx83_13 : aF 13 zM83.2.2.2.2.2.2.2 = some (13, (.aload_n 0), 1, 0, 0) := by decide +kernel
theorem gx83_14 : aF 14 zM83.2.2.2.2.2.2.2 = some (14, (.iload_n 1), 1, 0, 0) := by decide +kernel
theorem gx83_15 : aF 15 zM83.2.2.2.2.2.2.2 = some (15, (.iload 4), 2, 0, 0) := by decide +kernel
theorem gx83_17 : aF 17 zM83.2.2.2.2.2.2.2 = some (17, (.invokevirtual 92), 3, 82, 0) := by decide +kernel
theorem gx83_20 : aF 20 zM83.2.2.2.2.2.2.2 = some (20, (.aload_n 2), 1, 0, 0) := by decide +kernel
theorem gx83_21 : aF 21 zM83.2.2.2.2.2.2.2 = some (21, (.iload 4), 2, 0, 0) := by decide +kernel
theorem gx83_23 : aF 23 zM83.2.2.2.2.2.2.2 = some (23, .iaload, 1, 0, 0) := by decide +kernel
theorem gx83_24 : aF 24 zM83.2.2.2.2.2.2.2 = some (24, .iand, 1, 0, 0) := by decide +kernel
theorem gx83_25 : aF 25 zM83.2.2.2.2.2.2.2 = some (25, (.invokestatic 96), 3, 329, 0) := by decide +kernel
theorem gx83_28 : aF 28 zM83.2.2.2.2.2.2.2 = some (28, .iadd, 1, 0, 0) := by decide +kernel
theorem gx83_29 : aF 29 zM83.2.2.2.2.2.2.2 = some (29, (.istore_n 3), 1, 0, 0) := by decide +kernel
theorem gx83_30 : aF 30 zM83.2.2.2.2.2.2.2 = some (30, (.iinc 4 1), 3, 0, 0) := by decide +kernel
theorem gx83_33 : aF 33 zM83.2.2.2.2.2.2.2 = some (33, (.goto (-28)), 3, 5, 0) := by decide +kernel
theorem gx160_0 : aF 0 zM160.2.2.2.2.2.2.2 = some (0, (.aload_n 0), 1, 0, 0) := by decide +kernel
theorem gx160_1 : aF 1 zM160.2.2.2.2.2.2.2 = some (1, (.getfield 12), 3, 11, 0) := by decide +kernel
theorem gx160_4 : aF 4 zM160.2.2.2.2.2.2.2 = some (4, (.iload_n 1), 1, 0, 0) := by decide +kernel
theorem gx160_5 : aF 5 zM160.2.2.2.2.2.2.2 = some (5, (.invokevirtual 121), 3, 75, 0) := by decide +kernel
theorem gx160_8 : aF 8 zM160.2.2.2.2.2.2.2 = some (8, (.ifCond .eq 39), 3, 47, 0) := by decide +kernel
theorem gx160_47 : aF 47 zM160.2.2.2.2.2.2.2 = some (47, (.iconst (-1)), 1, 0, 0) := by decide +kernel
theorem gx160_48 : aF 48 zM160.2.2.2.2.2.2.2 = some (48, .ireturn, 1, 0, 0) := by decide +kernel
theorem gx160_11 : aF 11 zM160.2.2.2.2.2.2.2 = some (11, (.aload_n 0), 1, 0, 0) := by decide +kernel
theorem gx160_12 : aF 12 zM160.2.2.2.2.2.2.2 = some (12, (.getfield 12), 3, 11, 0) := by decide +kernel
theorem gx160_15 : aF 15 zM160.2.2.2.2.2.2.2 = some (15, (.iload_n 2), 1, 0, 0) := by decide +kernel
theorem gx160_16 : aF 16 zM160.2.2.2.2.2.2.2 = some (16, (.invokevirtual 136), 3, 77, 0) := by decide +kernel
theorem gx160_19 : aF 19 zM160.2.2.2.2.2.2.2 = some (19, (.ifCond .eq 28), 3, 47, 0) := by decide +kernel
theorem gx160_22 : aF 22 zM160.2.2.2.2.2.2.2 = some (22, (.iload_n 3), 1, 0, 0) := by decide +kernel
theorem gx160_23 : aF 23 zM160.2.2.2.2.2.2.2 = some (23, (.invokestatic 187), 3, 139, 0) := by decide +kernel
theorem gx160_26 : aF 26 zM160.2.2.2.2.2.2.2 = some (26, (.ifCond .eq 21), 3, 47, 0) := by decide +kernel
theorem gx160_29 : aF 29 zM160.2.2.2.2.2.2.2 = some (29, (.iload 4), 2, 0, 0) := by decide +kernel
theorem gx160_31 : aF 31 zM160.2.2.2.2.2.2.2 = some (31, (.invokestatic 164), 3, 138, 0) := by decide +kernel
theorem gx160_34 : aF 34 zM160.2.2.2.2.2.2.2 = some (34, (.ifCond .eq 13), 3, 47, 0) := by decide +kernel
theorem gx160_37 : aF 37 zM160.2.2.2.2.2.2.2 = some (37, (.iload 5), 2, 0, 0) := by decide +kernel
theorem gx160_39 : aF 39 zM160.2.2.2.2.2.2.2 = some (39, (.iconst 0), 1, 0, 0) := by decide +kernel
theorem gx160_40 : aF 40 zM160.2.2.2.2.2.2.2 = some (40, (.iconst 4), 1, 0, 0) := by decide +kernel
theorem gx160_41 : aF 41 zM160.2.2.2.2.2.2.2 = some (41, (.invokestatic 85), 3, 137, 0) := by decide +kernel
theorem gx160_44 : aF 44 zM160.2.2.2.2.2.2.2 = some (44, (.ifCond .ne 5), 3, 49, 0) := by decide +kernel
theorem gx160_49 : aF 49 zM160.2.2.2.2.2.2.2 = some (49, (.aload_n 0), 1, 0, 0) := by decide +kernel
theorem gx160_50 : aF 50 zM160.2.2.2.2.2.2.2 = some (50, (.getfield 44), 3, 11, 4) := by decide +kernel
theorem gx160_53 : aF 53 zM160.2.2.2.2.2.2.2 = some (53, (.iload_n 3), 1, 0, 0) := by decide +kernel
theorem gx160_54 : aF 54 zM160.2.2.2.2.2.2.2 = some (54, (.iload 4), 2, 0, 0) := by decide +kernel
theorem gx160_56 : aF 56 zM160.2.2.2.2.2.2.2 = some (56, (.invokevirtual 190), 3, 1, 0) := by decide +kernel
theorem gx160_59 : aF 59 zM160.2.2.2.2.2.2.2 = some (59, (.astore 6), 2, 0, 0) := by decide +kernel
theorem gx160_61 : aF 61 zM160.2.2.2.2.2.2.2 = some (61, (.aload 6), 2, 0, 0) := by decide +kernel
theorem gx160_63 : aF 63 zM160.2.2.2.2.2.2.2 = some (63, (.iload_n 1), 1, 0, 0) := by decide +kernel
theorem gx160_64 : aF 64 zM160.2.2.2.2.2.2.2 = some (64, (.iload_n 2), 1, 0, 0) := by decide +kernel
theorem gx160_65 : aF 65 zM160.2.2.2.2.2.2.2 = some (65, (.invokevirtual 194), 3, 98, 0) := by decide +kernel
theorem gx160_68 : aF 68 zM160.2.2.2.2.2.2.2 = some (68, (.istore 7), 2, 0, 0) := by decide +kernel
theorem gx160_70 : aF 70 zM160.2.2.2.2.2.2.2 = some (70, (.iload 7), 2, 0, 0) := by decide +kernel
theorem gx160_72 : aF 72 zM160.2.2.2.2.2.2.2 = some (72, (.iconst (-1)), 1, 0, 0) := by decide +kernel
theorem gx160_73 : aF 73 zM160.2.2.2.2.2.2.2 = some (73, (.if_icmp .ne 6), 3, 79, 0) := by decide +kernel
theorem gx160_79 : aF 79 zM160.2.2.2.2.2.2.2 = some (79, (.iload 5), 2, 0, 0) := by decide +kernel
theorem gx160_81 : aF 81 zM160.2.2.2.2.2.2.2 = some (81, (.tableswitch 89 0 3 #[31, 40, 58, 75]), 31, 0, 0) := by decide +kernel
theorem gx160_112 : aF 112 zM160.2.2.2.2.2.2.2 = some (112, (.aload 6), 2, 0, 0) := by decide +kernel
theorem gx160_114 : aF 114 zM160.2.2.2.2.2.2.2 = some (114, (.getfield 199), 3, 8, 7) := by decide +kernel
theorem gx160_117 : aF 117 zM160.2.2.2.2.2.2.2 = some (117, (.iload 7), 2, 0, 0) := by decide +kernel
theorem gx160_119 : aF 119 zM160.2.2.2.2.2.2.2 = some (119, .iaload, 1, 0, 0) := by decide +kernel
theorem gx160_120 : aF 120 zM160.2.2.2.2.2.2.2 = some (120, .ireturn, 1, 0, 0) := by decide +kernel
theorem gx160_121 : aF 121 zM160.2.2.2.2.2.2.2 = some (121, (.aload 6), 2, 0, 0) := by decide +kernel
theorem gx160_123 : aF 123 zM160.2.2.2.2.2.2.2 = some (123, (.getfield 199), 3, 8, 7) := by decide +kernel
theorem gx160_126 : aF 126 zM160.2.2.2.2.2.2.2 = some (126, (.iload 7), 2, 0, 0) := by decide +kernel
theorem gx160_128 : aF 128 zM160.2.2.2.2.2.2.2 = some (128, .iaload, 1, 0, 0) := by decide +kernel
theorem gx160_129 : aF 129 zM160.2.2.2.2.2.2.2 = some (129, (.aload 6), 2, 0, 0) := by decide +kernel
theorem gx160_131 : aF 131 zM160.2.2.2.2.2.2.2 = some (131, (.getfield 202), 3, 8, 8) := by decide +kernel
theorem gx160_134 : aF 134 zM160.2.2.2.2.2.2.2 = some (134, (.iload 7), 2, 0, 0) := by decide +kernel
theorem gx160_136 : aF 136 zM160.2.2.2.2.2.2.2 = some (136, .iaload, 1, 0, 0) := by decide +kernel
theorem gx160_137 : aF 137 zM160.2.2.2.2.2.2.2 = some (137, .isub, 1, 0, 0) := by decide +kernel
theorem gx160_138 : aF 138 zM160.2.2.2.2.2.2.2 = some (138, .ireturn, 1, 0, 0) := by decide +kernel
theorem gx160_139 : aF 139 zM160.2.2.2.2.2.2.2 = some (139, (.aload_n 0), 1, 0, 0) := by decide +kernel
theorem gx160_140 : aF 140 zM160.2.2.2.2.2.2.2 = some (140, (.getfield 28), 3, 11, 2) := by decide +kernel
theorem gx160_143 : aF 143 zM160.2.2.2.2.2.2.2 = some (143, (.getfield 205), 3, 2, 6) := by decide +kernel
theorem gx160_146 : aF 146 zM160.2.2.2.2.2.2.2 = some (146, (.aload 6), 2, 0, 0) := by decide +kernel
theorem gx160_148 : aF 148 zM160.2.2.2.2.2.2.2 = some (148, (.getfield 208), 3, 8, 6) := by decide +kernel
theorem gx160_151 : aF 151 zM160.2.2.2.2.2.2.2 = some (151, (.iload 7), 2, 0, 0) := by decide +kernel
theorem gx160_153 : aF 153 zM160.2.2.2.2.2.2.2 = some (153, .iaload, 1, 0, 0) := by decide +kernel
theorem gx160_154 : aF 154 zM160.2.2.2.2.2.2.2 = some (154, .iaload, 1, 0, 0) := by decide +kernel
theorem gx160_155 : aF 155 zM160.2.2.2.2.2.2.2 = some (155, .ireturn, 1, 0, 0) := by decide +kernel
theorem gx160_156 : aF 156 zM160.2.2.2.2.2.2.2 = some (156, (.aload_n 0), 1, 0, 0) := by decide +kernel
theorem gx160_157 : aF 157 zM160.2.2.2.2.2.2.2 = some (157, (.getfield 12), 3, 11, 0) := by decide +kernel
theorem gx160_160 : aF 160 zM160.2.2.2.2.2.2.2 = some (160, (.iload_n 2), 1, 0, 0) := by decide +kernel
theorem gx160_161 : aF 161 zM160.2.2.2.2.2.2.2 = some (161, (.aload 6), 2, 0, 0) := by decide +kernel
theorem gx160_163 : aF 163 zM160.2.2.2.2.2.2.2 = some (163, (.getfield 211), 3, 8, 9) := by decide +kernel
theorem gx160_166 : aF 166 zM160.2.2.2.2.2.2.2 = some (166, (.invokevirtual 214), 3, 83, 0) := by decide +kernel
theorem gx160_169 : aF 169 zM160.2.2.2.2.2.2.2 = some (169, .ireturn, 1, 0, 0) := by decide +kernel
theorem gx160_170 : aF 170 zM160.2.2.2.2.2.2.2 = some (170, (.aload_n 0), 1, 0, 0) := by decide +kernel
theorem gx160_171 : aF 171 zM160.2.2.2.2.2.2.2 = some (171, (.getfield 28), 3, 11, 2) := by decide +kernel
theorem gx160_174 : aF 174 zM160.2.2.2.2.2.2.2 = some (174, (.aload 6), 2, 0, 0) := by decide +kernel
theorem gx160_176 : aF 176 zM160.2.2.2.2.2.2.2 = some (176, (.getfield 208), 3, 8, 6) := by decide +kernel
theorem gx160_179 : aF 179 zM160.2.2.2.2.2.2.2 = some (179, (.iload 7), 2, 0, 0) := by decide +kernel
theorem gx160_181 : aF 181 zM160.2.2.2.2.2.2.2 = some (181, .iaload, 1, 0, 0) := by decide +kernel
theorem gx160_182 : aF 182 zM160.2.2.2.2.2.2.2 = some (182, (.invokevirtual 218), 3, 31, 0) := by decide +kernel
theorem gx160_185 : aF 185 zM160.2.2.2.2.2.2.2 = some (185, .ireturn, 1, 0, 0) := by decide +kernel
theorem gx160_76 : aF 76 zM160.2.2.2.2.2.2.2 = some (76, (.bipush (-2)), 2, 0, 0) := by decide +kernel
theorem gx160_78 : aF 78 zM160.2.2.2.2.2.2.2 = some (78, .ireturn, 1, 0, 0) := by decide +kernel
theorem gx161_0 : aF 0 zM161.2.2.2.2.2.2.2 = some (0, (.aload_n 0), 1, 0, 0) := by decide +kernel
theorem gx161_1 : aF 1 zM161.2.2.2.2.2.2.2 = some (1, (.getfield 12), 3, 11, 0) := by decide +kernel
theorem gx161_4 : aF 4 zM161.2.2.2.2.2.2.2 = some (4, (.iload_n 1), 1, 0, 0) := by decide +kernel
theorem gx161_5 : aF 5 zM161.2.2.2.2.2.2.2 = some (5, (.invokevirtual 121), 3, 75, 0) := by decide +kernel
theorem gx161_8 : aF 8 zM161.2.2.2.2.2.2.2 = some (8, (.ifCond .eq 33), 3, 41, 0) := by decide +kernel
theorem gx161_41 : aF 41 zM161.2.2.2.2.2.2.2 = some (41, (.iconst (-1)), 1, 0, 0) := by decide +kernel
theorem gx161_42 : aF 42 zM161.2.2.2.2.2.2.2 = some (42, .ireturn, 1, 0, 0) := by decide +kernel
theorem gx161_11 : aF 11 zM161.2.2.2.2.2.2.2 = some (11, (.aload_n 0), 1, 0, 0) := by decide +kernel
theorem gx161_12 : aF 12 zM161.2.2.2.2.2.2.2 = some (12, (.getfield 12), 3, 11, 0) := by decide +kernel
theorem gx161_15 : aF 15 zM161.2.2.2.2.2.2.2 = some (15, (.iload_n 2), 1, 0, 0) := by decide +kernel
theorem gx161_16 : aF 16 zM161.2.2.2.2.2.2.2 = some (16, (.invokevirtual 136), 3, 77, 0) := by decide +kernel
theorem gx161_19 : aF 19 zM161.2.2.2.2.2.2.2 = some (19, (.ifCond .eq 22), 3, 41, 0) := by decide +kernel
theorem gx161_22 : aF 22 zM161.2.2.2.2.2.2.2 = some (22, (.iload_n 3), 1, 0, 0) := by decide +kernel
theorem gx161_23 : aF 23 zM161.2.2.2.2.2.2.2 = some (23, (.invokestatic 187), 3, 139, 0) := by decide +kernel
theorem gx161_26 : aF 26 zM161.2.2.2.2.2.2.2 = some (26, (.ifCond .eq 15), 3, 41, 0) := by decide +kernel
theorem gx161_29 : aF 29 zM161.2.2.2.2.2.2.2 = some (29, (.iload 4), 2, 0, 0) := by decide +kernel
theorem gx161_31 : aF 31 zM161.2.2.2.2.2.2.2 = some (31, (.iconst 0), 1, 0, 0) := by decide +kernel
theorem gx161_32 : aF 32 zM161.2.2.2.2.2.2.2 = some (32, (.sipush 576), 3, 0, 0) := by decide +kernel
theorem gx161_35 : aF 35 zM161.2.2.2.2.2.2.2 = some (35, (.invokestatic 85), 3, 137, 0) := by decide +kernel
theorem gx161_38 : aF 38 zM161.2.2.2.2.2.2.2 = some (38, (.ifCond .ne 5), 3, 43, 0) := by decide +kernel
theorem gx161_43 : aF 43 zM161.2.2.2.2.2.2.2 = some (43, (.aload_n 0), 1, 0, 0) := by decide +kernel
theorem gx161_44 : aF 44 zM161.2.2.2.2.2.2.2 = some (44, (.getfield 44), 3, 11, 4) := by decide +kernel
theorem gx161_47 : aF 47 zM161.2.2.2.2.2.2.2 = some (47, (.iload_n 3), 1, 0, 0) := by decide +kernel
theorem gx161_48 : aF 48 zM161.2.2.2.2.2.2.2 = some (48, (.aload_n 0), 1, 0, 0) := by decide +kernel
theorem gx161_49 : aF 49 zM161.2.2.2.2.2.2.2 = some (49, (.getfield 12), 3, 11, 0) := by decide +kernel
theorem gx161_52 : aF 52 zM161.2.2.2.2.2.2.2 = some (52, (.getfield 93), 3, 6, 0) := by decide +kernel
theorem gx161_55 : aF 55 zM161.2.2.2.2.2.2.2 = some (55, (.invokevirtual 190), 3, 1, 0) := by decide +kernel
theorem gx161_58 : aF 58 zM161.2.2.2.2.2.2.2 = some (58, (.iload_n 1), 1, 0, 0) := by decide +kernel
theorem gx161_59 : aF 59 zM161.2.2.2.2.2.2.2 = some (59, (.iload_n 2), 1, 0, 0) := by decide +kernel
theorem gx161_60 : aF 60 zM161.2.2.2.2.2.2.2 = some (60, (.invokevirtual 194), 3, 98, 0) := by decide +kernel
theorem gx161_63 : aF 63 zM161.2.2.2.2.2.2.2 = some (63, (.iconst (-1)), 1, 0, 0) := by decide +kernel
theorem gx161_64 : aF 64 zM161.2.2.2.2.2.2.2 = some (64, (.if_icmp .ne 6), 3, 70, 0) := by decide +kernel
theorem gx161_70 : aF 70 zM161.2.2.2.2.2.2.2 = some (70, (.aload_n 0), 1, 0, 0) := by decide +kernel
theorem gx161_71 : aF 71 zM161.2.2.2.2.2.2.2 = some (71, (.getfield 28), 3, 11, 2) := by decide +kernel
theorem gx161_74 : aF 74 zM161.2.2.2.2.2.2.2 = some (74, (.getfield 221), 3, 2, 3) := by decide +kernel
theorem gx161_77 : aF 77 zM161.2.2.2.2.2.2.2 = some (77, (.sipush 200), 3, 0, 0) := by decide +kernel
theorem gx161_80 : aF 80 zM161.2.2.2.2.2.2.2 = some (80, (.if_icmp .lt 8), 3, 88, 0) := by decide +kernel
theorem gx161_88 : aF 88 zM161.2.2.2.2.2.2.2 = some (88, (.aload_n 0), 1, 0, 0) := by decide +kernel
theorem gx161_89 : aF 89 zM161.2.2.2.2.2.2.2 = some (89, (.getfield 28), 3, 11, 2) := by decide +kernel
theorem gx161_92 : aF 92 zM161.2.2.2.2.2.2.2 = some (92, (.iload_n 1), 1, 0, 0) := by decide +kernel
theorem gx161_93 : aF 93 zM161.2.2.2.2.2.2.2 = some (93, (.iload_n 2), 1, 0, 0) := by decide +kernel
theorem gx161_94 : aF 94 zM161.2.2.2.2.2.2.2 = some (94, (.iload_n 3), 1, 0, 0) := by decide +kernel
theorem gx161_95 : aF 95 zM161.2.2.2.2.2.2.2 = some (95, (.iload 4), 2, 0, 0) := by decide +kernel
theorem gx161_97 : aF 97 zM161.2.2.2.2.2.2.2 = some (97, (.invokevirtual 224), 3, 34, 0) := by decide +kernel
theorem gx161_100 : aF 100 zM161.2.2.2.2.2.2.2 = some (100, .ireturn, 1, 0, 0) := by decide +kernel
theorem gx161_83 : aF 83 zM161.2.2.2.2.2.2.2 = some (83, (.bipush (-3)), 2, 0, 0) := by decide +kernel
theorem gx161_85 : aF 85 zM161.2.2.2.2.2.2.2 = some (85, (.goto 15), 3, 100, 0) := by decide +kernel
theorem gx161_67 : aF 67 zM161.2.2.2.2.2.2.2 = some (67, (.bipush (-2)), 2, 0, 0) := by decide +kernel
theorem gx161_69 : aF 69 zM161.2.2.2.2.2.2.2 = some (69, .ireturn, 1, 0, 0) := by decide +kernel
def hs (h h' : aH) : Prop := h'.1.length = h.1.length ∧ hk h h'
theorem hs_t {a b c : aH} (p : hs a b) (q : hs b c) : hs a c := ⟨q.1.trans p.1, hk_t p.2 q.2⟩
def nwO (h : aH) (q : Nat) (h' : aH) : Prop := q = h.1.length ∧ (∀ c, c ≠ q → h'.1[c]? = h.1[c]?) ∧ h'.1.length = h.1.length + 1
theorem wS_new {h : aH} {ci s : Nat} {fs : List Value} (S : wS h) (hf : ∀ (i : Nat) v, fs[i]? = some v → aok (zY ci i) v = true) : wS (h.1 ++ [.inr (ci, fs)], s) := by
  obtain ⟨s1, s2, s3⟩ := S
  refine ⟨fun q ci' fs' i v e1 e2 => ?_, fun c i q e => ?_, fun c t' n' e => ?_⟩
  · by_cases z : q = h.1.length
    · subst z
      rw [show (h.1 ++ [Sum.inr (ci, fs)], s).1[h.1.length]? = some (Sum.inr (ci, fs)) from app_e] at e1
      cases e1
      exact hf i v e2
    · rw [show (h.1 ++ [Sum.inr (ci, fs)], s).1[q]? = h.1[q]? from app_r z] at e1
      exact s1 q ci' fs' i v e1 e2
  · obtain ⟨ci', fs', e1, e2⟩ := s2 c i q e
    exact ⟨ci', fs', app_l e1, e2⟩
  · have := s3 c t' n' e
    unfold tyA at this ⊢
    split at this
    · rename_i e1
      rw [show (h.1 ++ [Sum.inr (ci, fs)], s).1[c]? = _ from app_l e1]
      exact this
    · cases this
theorem dfl_ok {a : Nat} (hd : (List.range (zN a)).all (fun c => aok (zY a c) (defaultValue (zY a c))) = true) (i : Nat) (v : Value) (e : ((List.range (zN a)).map (fun c => defaultValue (zY a c)))[i]? = some v) : aok (zY a i) v = true := by
  rw [List.getElem?_map] at e
  cases hc : (List.range (zN a))[i]? with
  | none =>
    rw [hc] at e
    cases e
  | some c =>
    rw [hc] at e
    have e : some (defaultValue (zY a c)) = some v := e
    cases e
    obtain ⟨hl, hv⟩ := List.getElem?_eq_some_iff.mp hc
    rw [List.getElem_range] at hv
    subst hv
    rw [List.length_range] at hl
    exact List.all_eq_true.mp hd i (List.mem_range.mpr hl)
section PT8
variable {n : Nat} {X : aX} {M : aM} {Q : Option Value → aH → Prop} {pc len a b : Nat} {l : aL} {st r : List Value} {h : aH} {A B : Int}
theorem pt_putIs {ix o : Nat} {x : Int32} (hf : aF pc M.2.2.2.2.2.2.2 = some (pc, (.putfield ix), len, a, b)) (S : wS h) (ho : 146 ≤ o) (ha : x.toInt = A) (k : ∀ h', wS h' → vw h' = up (vw h) o B A → hs h h' → Pt n X M (pc + 3) l r h' Q) (hB : ((b : Nat) : Int) = B := by rfl) : Pt (n + 1) X M pc l (.int x :: .ref o :: r) h Q := pt_s fun m hm d v h2 e => by
  obtain ⟨fs, e1, e2, e3, e4⟩ := i_put hf e
  exact k _ (wS_obj S e1 e2 (tkR_o ho b)) (by rw [vw_obj e1 e3, ← hB, ← ha]; rfl) ⟨List.length_set, hk_obj e1⟩ m hm d v h2 e4
theorem pt_putRs {ix o x : Nat} (hf : aF pc M.2.2.2.2.2.2.2 = some (pc, (.putfield ix), len, a, b)) (S : wS h) (ho : 146 ≤ o) (k : ∀ h', wS h' → vw h' = up (vw h) o B ((x : Nat) : Int) → hs h h' → Pt n X M (pc + 3) l r h' Q) (hB : ((b : Nat) : Int) = B := by rfl) : Pt (n + 1) X M pc l (.ref x :: .ref o :: r) h Q := pt_s fun m hm d v h2 e => by
  obtain ⟨fs, e1, e2, e3, e4⟩ := i_put hf e
  exact k _ (wS_obj S e1 e2 (tkR_o ho b)) (by rw [vw_obj e1 e3, ← hB]; rfl) ⟨List.length_set, hk_obj e1⟩ m hm d v h2 e4
theorem pt_obj {ix o : Nat} (hf : aF pc M.2.2.2.2.2.2.2 = some (pc, (.invokespecial ix), len, a, b)) (ha : a = 1000) (k : Pt n X M (pc + 3) l r h Q) : Pt (n + 1) X M pc l (.ref o :: r) h Q := pt_s fun m hm d v h2 e => by
  unfold arun at e
  simp only [hf] at e
  subst ha
  simp only [show Nat.beq 1000 1000 = true from rfl, cond_true] at e
  obtain ⟨d', v1, h1, -, e1, e2⟩ := i_back e
  cases e1
  exact k m hm d v h2 e2
theorem pt_newO {ix : Nat} (hf : aF pc M.2.2.2.2.2.2.2 = some (pc, (.new ix), len, a, b)) (S : wS h) (k : ∀ (q : Nat) (h' : aH), wS h' → nwO h q h' → Pt n X M (pc + 3) l (.ref q :: r) h' Q) (hd : (List.range (zN a)).all (fun c => aok (zY a c) (defaultValue (zY a c))) = true := by decide +kernel) : Pt (n + 1) X M pc l r h Q := pt_s fun m hm d v h2 e => by
  rw [arun_p hf rfl] at e
  simp only [aX1] at e
  exact k _ _ (wS_new S (dfl_ok hd)) ⟨rfl, fun c hc => app_r hc, by rw [List.length_append]; rfl⟩ m hm d v h2 e
theorem pt_aastO {o q N : Nat} {N' : Int} {j : Int32} (hf : aF pc M.2.2.2.2.2.2.2 = some (pc, .aastore, len, a, b)) (S : wS h) (tk : tkL o 4 N = true) (ha : j.toInt = A) (k : ∀ h', wS h' → 0 ≤ A → A < N' → vw h' = up (vw h) o A (q : Int) → (∀ c, c ≠ o → h'.1[c]? = h.1[c]?) → Pt n X M (pc + 1) l r h' Q) (hN : ((N : Nat) : Int) = N' := by rfl) : Pt (n + 1) X M pc l (.ref q :: .int j :: .ref o :: r) h Q := pt_s fun m hm d v h2 e => by
  rw [arun_p hf rfl] at e
  simp only [aX1, aarR] at e
  split at e
  · rename_i t0 N0 g hc
    obtain ⟨rfl, rfl⟩ := tk_n S tk hc
    simp only [Nat.reduceBEq, show Nat.beq 4 4 = true from rfl, cond_true, aobj] at e
    split at e
    · rename_i ci1 fs1 hc1
      cases ht : Nat.beq ci1 8 with
      | false => simp only [ht, cond_false] at e; cases e
      | true =>
        simp only [ht, cond_true] at e
        split at e
        · cases e
        · rename_i hj
          obtain ⟨q1, q2⟩ := ix_in hj
          rw [← Int32.toNat_toInt] at e
          subst ha
          refine k _ (wS_arr S hc) (by omega) (by omega) (vw_arr hc (by omega) (fun i => ?_)) (fun c hcc => ?_) m hm d v h2 e
          · unfold vA va_up
            dsimp only
            by_cases z : i = j.toInt.toNat
            · rw [if_pos z, if_pos z]
            · rw [if_neg z, if_neg z]
          · exact List.getElem?_set_ne (Ne.symm hcc)
    · cases e
  · cases e
theorem pt_aaldB {o N : Nat} {N' : Int} {j : Int32} (hf : aF pc M.2.2.2.2.2.2.2 = some (pc, .aaload, len, a, b)) (S : wS h) (tk : tkL o 4 N = true) (ha : j.toInt = A) (k0 : 0 ≤ A → A < N' → vw h o A = -1 → Pt n X M (pc + 1) l (.null :: r) h Q) (k1 : ∀ q : Nat, 0 ≤ A → A < N' → (q : Int) = vw h o A → Pt n X M (pc + 1) l (.ref q :: r) h Q) (hN : ((N : Nat) : Int) = N' := by rfl) : Pt (n + 1) X M pc l (.int j :: .ref o :: r) h Q := pt_s fun m hm d v h2 e => by
  rw [arun_p hf rfl] at e
  simp only [aX1, aarR] at e
  split at e
  · rename_i t N0 g hc
    obtain ⟨-, rfl⟩ := tk_n S tk hc
    cases ht : (Nat.beq t 4 || Nat.beq t 5) with
    | false => simp only [ht, cond_false] at e; cases e
    | true =>
      simp only [ht, cond_true] at e
      split at e
      · cases e
      · rename_i hj
        obtain ⟨q1, q2⟩ := ix_in hj
        rw [← Int32.toNat_toInt] at e
        subst ha
        have ev := vw_a hc q1
        unfold vA at ev
        dsimp only at ev
        cases hg : g j.toInt.toNat with
        | none =>
          rw [hg] at e ev
          exact k0 q1 (by omega) ev m hm d v h2 e
        | some q =>
          rw [hg] at e ev
          exact k1 q q1 (by omega) ev.symm m hm d v h2 e
  · cases e
theorem pt_init {ix o : Nat} {Y : aM} {as : List Value} {L1 : aL} {Qc : Option Value → aH → Prop} (hf : aF pc M.2.2.2.2.2.2.2 = some (pc, (.invokespecial ix), len, a, b)) (ha : Nat.beq a 1000 = false) (hY : zmt[a]? = some Y) (hk : Y.2.2.2.2.2.2.1 = 2) (hst : st = as.reverse ++ .ref o :: r) (hn : as.length = Y.2.2.2.2.2.1) (hL : aE Y.2.2.2.1 (.ref o :: as) = L1) (c : Pt n X Y 0 L1 [] h Qc) (k : ∀ v h1, Qc v h1 → Pt n X M (pc + 3) l (v.toList ++ r) h1 Q) : Pt (n + 1) X M pc l st h Q := pt_s fun m hm d v h2 e => by
  unfold arun at e
  simp only [hf] at e
  subst hst
  subst hL
  simp only [ha, cond_false, hY, show Nat.beq Y.2.2.2.2.2.2.1 2 = true from by rw [hk]; rfl, cond_true, acut_eq hn, aent] at e
  cases hw : Nat.ble (aws (.ref o :: as)) Y.2.2.2.1 with
  | false => simp only [hw, cond_false] at e; cases e
  | true =>
    simp only [hw, cond_true] at e
    obtain ⟨d', v1, h1, -, e1, e2⟩ := i_back e
    exact k v1 h1 (c m hm d' v1 h1 e1) m hm d v h2 e2
end PT8
theorem nwI_len {h : aH} {q t N : Nat} {h' : aH} (w : nwI h q t N h') : h'.1.length = h.1.length + 1 := by
  obtain ⟨rfl, -, w2, a, w3, -⟩ := w
  obtain ⟨l1, -⟩ := List.getElem?_eq_some_iff.mp w3
  have : h'.1[h.1.length + 1]? = none := by
    rw [w2 _ (by omega)]
    exact List.getElem?_eq_none (by omega)
  have l2 := List.getElem?_eq_none_iff.mp this
  omega
theorem nwI_vw {h : aH} {q t N : Nat} {h' : aH} (w : nwI h q t N h') : vw h' = vw h := by
  obtain ⟨e, w1, w2, a, w3, w4⟩ := w
  funext c j
  by_cases z : c = q
  · subst z
    unfold vw
    rw [w1, w3]
    split
    · rfl
    · exact w4 _
  · unfold vw
    rw [w2 c z]
theorem nwI_hk {h : aH} {q t N : Nat} {h' : aH} (w : nwI h q t N h') : hk h h' := fun c t' N' y e => by
  obtain ⟨-, w1, w2, -⟩ := w
  by_cases z : c = q
  · rw [z, w1] at e
    cases e
  · exact ⟨y, (w2 c z).trans e⟩
theorem nwI_k {h : aH} {q t N : Nat} {h' : aH} (w : nwI h q t N h') : ∃ y, h'.1[q]? = some (.inl (t, N, y)) := by
  obtain ⟨-, -, -, a, w3, -⟩ := w
  exact ⟨a, w3⟩
theorem nwO_vw {h : aH} {q : Nat} {h' : aH} (w : nwO h q h') {c : Nat} {j : Int} (n : c ≠ q) : vw h' c j = vw h c j := by
  unfold vw
  rw [w.2.1 c n]
theorem nwO_hk {h : aH} {q : Nat} {h' : aH} (w : nwO h q h') : hk h h' := fun c t' N' y e => by
  by_cases z : c = q
  · rw [z, w.1, List.getElem?_eq_none (Nat.le_refl _)] at e
    cases e
  · exact ⟨y, (w.2.1 c z).trans e⟩
end

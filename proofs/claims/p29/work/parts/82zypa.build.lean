-- ===== seasons: summed up and built =====
theorem gx105_0 : aF 0 zM105.2.2.2.2.2.2.2 = some (0, (.aload_n 0), 1, 0, 0) := by decide +kernel
theorem gx105_1 : aF 1 zM105.2.2.2.2.2.2.2 = some (1, (.getfield 31), 3, 8, 10) := by decide +kernel
theorem gx105_4 : aF 4 zM105.2.2.2.2.2.2.2 = some (4, (.iconst 0), 1, 0, 0) := by decide +kernel
theorem gx105_5 : aF 5 zM105.2.2.2.2.2.2.2 = some (5, (.invokestatic 64), 3, 332, 0) := by decide +kernel
theorem gx105_8 : aF 8 zM105.2.2.2.2.2.2.2 = some (8, (.aload_n 0), 1, 0, 0) := by decide +kernel
theorem gx105_9 : aF 9 zM105.2.2.2.2.2.2.2 = some (9, (.getfield 34), 3, 8, 11) := by decide +kernel
theorem gx105_12 : aF 12 zM105.2.2.2.2.2.2.2 = some (12, (.iconst 0), 1, 0, 0) := by decide +kernel
theorem gx105_13 : aF 13 zM105.2.2.2.2.2.2.2 = some (13, (.invokestatic 64), 3, 332, 0) := by decide +kernel
theorem gx105_16 : aF 16 zM105.2.2.2.2.2.2.2 = some (16, (.aload_n 0), 1, 0, 0) := by decide +kernel
theorem gx105_17 : aF 17 zM105.2.2.2.2.2.2.2 = some (17, (.getfield 37), 3, 8, 12) := by decide +kernel
theorem gx105_20 : aF 20 zM105.2.2.2.2.2.2.2 = some (20, (.iconst (-1)), 1, 0, 0) := by decide +kernel
theorem gx105_21 : aF 21 zM105.2.2.2.2.2.2.2 = some (21, (.invokestatic 64), 3, 332, 0) := by decide +kernel
theorem gx105_24 : aF 24 zM105.2.2.2.2.2.2.2 = some (24, (.iconst 0), 1, 0, 0) := by decide +kernel
theorem gx105_25 : aF 25 zM105.2.2.2.2.2.2.2 = some (25, (.istore_n 1), 1, 0, 0) := by decide +kernel
theorem gx105_26 : aF 26 zM105.2.2.2.2.2.2.2 = some (26, (.iload_n 1), 1, 0, 0) := by decide +kernel
theorem gx105_27 : aF 27 zM105.2.2.2.2.2.2.2 = some (27, (.aload_n 0), 1, 0, 0) := by decide +kernel
theorem gx105_28 : aF 28 zM105.2.2.2.2.2.2.2 = some (28, (.getfield 51), 3, 8, 5) := by decide +kernel
theorem gx105_31 : aF 31 zM105.2.2.2.2.2.2.2 = some (31, (.if_icmp .ge 102), 3, 133, 0) := by decide +kernel
theorem gx105_133 : aF 133 zM105.2.2.2.2.2.2.2 = some (133, .return_, 1, 0, 0) := by decide +kernel
theorem gx105_34 : aF 34 zM105.2.2.2.2.2.2.2 = some (34, (.aload_n 0), 1, 0, 0) := by decide +kernel
theorem gx105_35 : aF 35 zM105.2.2.2.2.2.2.2 = some (35, (.iload_n 1), 1, 0, 0) := by decide +kernel
theorem gx105_36 : aF 36 zM105.2.2.2.2.2.2.2 = some (36, (.invokevirtual 81), 3, 100, 0) := by decide +kernel
theorem gx105_39 : aF 39 zM105.2.2.2.2.2.2.2 = some (39, (.istore_n 2), 1, 0, 0) := by decide +kernel
theorem gx105_40 : aF 40 zM105.2.2.2.2.2.2.2 = some (40, (.aload_n 0), 1, 0, 0) := by decide +kernel
theorem gx105_41 : aF 41 zM105.2.2.2.2.2.2.2 = some (41, (.getfield 25), 3, 8, 8) := by decide +kernel
theorem gx105_44 : aF 44 zM105.2.2.2.2.2.2.2 = some (44, (.iload_n 1), 1, 0, 0) := by decide +kernel
theorem gx105_45 : aF 45 zM105.2.2.2.2.2.2.2 = some (45, (.aload_n 0), 1, 0, 0) := by decide +kernel
theorem gx105_46 : aF 46 zM105.2.2.2.2.2.2.2 = some (46, (.getfield 22), 3, 8, 7) := by decide +kernel
theorem gx105_49 : aF 49 zM105.2.2.2.2.2.2.2 = some (49, (.iload_n 1), 1, 0, 0) := by decide +kernel
theorem gx105_50 : aF 50 zM105.2.2.2.2.2.2.2 = some (50, .iaload, 1, 0, 0) := by decide +kernel
theorem gx105_51 : aF 51 zM105.2.2.2.2.2.2.2 = some (51, (.aload_n 0), 1, 0, 0) := by decide +kernel
theorem gx105_52 : aF 52 zM105.2.2.2.2.2.2.2 = some (52, (.getfield 44), 3, 8, 1) := by decide +kernel
theorem gx105_55 : aF 55 zM105.2.2.2.2.2.2.2 = some (55, (.aload_n 0), 1, 0, 0) := by decide +kernel
theorem gx105_56 : aF 56 zM105.2.2.2.2.2.2.2 = some (56, (.getfield 18), 3, 8, 6) := by decide +kernel
theorem gx105_59 : aF 59 zM105.2.2.2.2.2.2.2 = some (59, (.iload_n 1), 1, 0, 0) := by decide +kernel
theorem gx105_60 : aF 60 zM105.2.2.2.2.2.2.2 = some (60, .iaload, 1, 0, 0) := by decide +kernel
theorem gx105_61 : aF 61 zM105.2.2.2.2.2.2.2 = some (61, (.aload_n 0), 1, 0, 0) := by decide +kernel
theorem gx105_62 : aF 62 zM105.2.2.2.2.2.2.2 = some (62, (.getfield 48), 3, 8, 2) := by decide +kernel
theorem gx105_65 : aF 65 zM105.2.2.2.2.2.2.2 = some (65, (.aload_n 0), 1, 0, 0) := by decide +kernel
theorem gx105_66 : aF 66 zM105.2.2.2.2.2.2.2 = some (66, (.getfield 9), 3, 8, 3) := by decide +kernel
theorem gx105_69 : aF 69 zM105.2.2.2.2.2.2.2 = some (69, (.invokevirtual 113), 3, 35, 0) := by decide +kernel
theorem gx105_72 : aF 72 zM105.2.2.2.2.2.2.2 = some (72, (.invokestatic 93), 3, 1011, 0) := by decide +kernel
theorem gx105_75 : aF 75 zM105.2.2.2.2.2.2.2 = some (75, .iastore, 1, 0, 0) := by decide +kernel
theorem gx105_76 : aF 76 zM105.2.2.2.2.2.2.2 = some (76, (.aload_n 0), 1, 0, 0) := by decide +kernel
theorem gx105_77 : aF 77 zM105.2.2.2.2.2.2.2 = some (77, (.getfield 31), 3, 8, 10) := by decide +kernel
theorem gx105_80 : aF 80 zM105.2.2.2.2.2.2.2 = some (80, (.iload_n 2), 1, 0, 0) := by decide +kernel
theorem gx105_81 : aF 81 zM105.2.2.2.2.2.2.2 = some (81, .dup2, 1, 0, 0) := by decide +kernel
theorem gx105_82 : aF 82 zM105.2.2.2.2.2.2.2 = some (82, .iaload, 1, 0, 0) := by decide +kernel
theorem gx105_83 : aF 83 zM105.2.2.2.2.2.2.2 = some (83, (.aload_n 0), 1, 0, 0) := by decide +kernel
theorem gx105_84 : aF 84 zM105.2.2.2.2.2.2.2 = some (84, (.getfield 22), 3, 8, 7) := by decide +kernel
theorem gx105_87 : aF 87 zM105.2.2.2.2.2.2.2 = some (87, (.iload_n 1), 1, 0, 0) := by decide +kernel
theorem gx105_88 : aF 88 zM105.2.2.2.2.2.2.2 = some (88, .iaload, 1, 0, 0) := by decide +kernel
theorem gx105_89 : aF 89 zM105.2.2.2.2.2.2.2 = some (89, .iadd, 1, 0, 0) := by decide +kernel
theorem gx105_90 : aF 90 zM105.2.2.2.2.2.2.2 = some (90, .iastore, 1, 0, 0) := by decide +kernel
theorem gx105_91 : aF 91 zM105.2.2.2.2.2.2.2 = some (91, (.aload_n 0), 1, 0, 0) := by decide +kernel
theorem gx105_92 : aF 92 zM105.2.2.2.2.2.2.2 = some (92, (.getfield 34), 3, 8, 11) := by decide +kernel
theorem gx105_95 : aF 95 zM105.2.2.2.2.2.2.2 = some (95, (.iload_n 2), 1, 0, 0) := by decide +kernel
theorem gx105_96 : aF 96 zM105.2.2.2.2.2.2.2 = some (96, .dup2, 1, 0, 0) := by decide +kernel
theorem gx105_97 : aF 97 zM105.2.2.2.2.2.2.2 = some (97, .iaload, 1, 0, 0) := by decide +kernel
theorem gx105_98 : aF 98 zM105.2.2.2.2.2.2.2 = some (98, (.aload_n 0), 1, 0, 0) := by decide +kernel
theorem gx105_99 : aF 99 zM105.2.2.2.2.2.2.2 = some (99, (.getfield 25), 3, 8, 8) := by decide +kernel
theorem gx105_102 : aF 102 zM105.2.2.2.2.2.2.2 = some (102, (.iload_n 1), 1, 0, 0) := by decide +kernel
theorem gx105_103 : aF 103 zM105.2.2.2.2.2.2.2 = some (103, .iaload, 1, 0, 0) := by decide +kernel
theorem gx105_104 : aF 104 zM105.2.2.2.2.2.2.2 = some (104, .iadd, 1, 0, 0) := by decide +kernel
theorem gx105_105 : aF 105 zM105.2.2.2.2.2.2.2 = some (105, .iastore, 1, 0, 0) := by decide +kernel
theorem gx105_106 : aF 106 zM105.2.2.2.2.2.2.2 = some (106, (.aload_n 0), 1, 0, 0) := by decide +kernel
theorem gx105_107 : aF 107 zM105.2.2.2.2.2.2.2 = some (107, (.getfield 37), 3, 8, 12) := by decide +kernel
theorem gx105_110 : aF 110 zM105.2.2.2.2.2.2.2 = some (110, (.iload_n 2), 1, 0, 0) := by decide +kernel
theorem gx105_111 : aF 111 zM105.2.2.2.2.2.2.2 = some (111, (.aload_n 0), 1, 0, 0) := by decide +kernel
theorem gx105_112 : aF 112 zM105.2.2.2.2.2.2.2 = some (112, (.getfield 37), 3, 8, 12) := by decide +kernel
theorem gx105_115 : aF 115 zM105.2.2.2.2.2.2.2 = some (115, (.iload_n 2), 1, 0, 0) := by decide +kernel
theorem gx105_116 : aF 116 zM105.2.2.2.2.2.2.2 = some (116, .iaload, 1, 0, 0) := by decide +kernel
theorem gx105_117 : aF 117 zM105.2.2.2.2.2.2.2 = some (117, (.aload_n 0), 1, 0, 0) := by decide +kernel
theorem gx105_118 : aF 118 zM105.2.2.2.2.2.2.2 = some (118, (.getfield 18), 3, 8, 6) := by decide +kernel
theorem gx105_121 : aF 121 zM105.2.2.2.2.2.2.2 = some (121, (.iload_n 1), 1, 0, 0) := by decide +kernel
theorem gx105_122 : aF 122 zM105.2.2.2.2.2.2.2 = some (122, .iaload, 1, 0, 0) := by decide +kernel
theorem gx105_123 : aF 123 zM105.2.2.2.2.2.2.2 = some (123, (.invokestatic 116), 3, 1010, 0) := by decide +kernel
theorem gx105_126 : aF 126 zM105.2.2.2.2.2.2.2 = some (126, .iastore, 1, 0, 0) := by decide +kernel
theorem gx105_127 : aF 127 zM105.2.2.2.2.2.2.2 = some (127, (.iinc 1 1), 3, 0, 0) := by decide +kernel
theorem gx105_130 : aF 130 zM105.2.2.2.2.2.2.2 = some (130, (.goto (-104)), 3, 26, 0) := by decide +kernel
theorem gx97_0 : aF 0 zM97.2.2.2.2.2.2.2 = some (0, (.aload_n 0), 1, 0, 0) := by decide +kernel
theorem gx97_1 : aF 1 zM97.2.2.2.2.2.2.2 = some (1, (.iload_n 1), 1, 0, 0) := by decide +kernel
theorem gx97_2 : aF 2 zM97.2.2.2.2.2.2.2 = some (2, (.putfield 9), 3, 8, 3) := by decide +kernel
theorem gx97_5 : aF 5 zM97.2.2.2.2.2.2.2 = some (5, (.aload_n 0), 1, 0, 0) := by decide +kernel
theorem gx97_6 : aF 6 zM97.2.2.2.2.2.2.2 = some (6, (.iload_n 2), 1, 0, 0) := by decide +kernel
theorem gx97_7 : aF 7 zM97.2.2.2.2.2.2.2 = some (7, (.putfield 15), 3, 8, 4) := by decide +kernel
theorem gx97_10 : aF 10 zM97.2.2.2.2.2.2.2 = some (10, (.aload_n 0), 1, 0, 0) := by decide +kernel
theorem gx97_11 : aF 11 zM97.2.2.2.2.2.2.2 = some (11, (.iconst 0), 1, 0, 0) := by decide +kernel
theorem gx97_12 : aF 12 zM97.2.2.2.2.2.2.2 = some (12, (.putfield 51), 3, 8, 5) := by decide +kernel
theorem gx97_15 : aF 15 zM97.2.2.2.2.2.2.2 = some (15, (.iconst 0), 1, 0, 0) := by decide +kernel
theorem gx97_16 : aF 16 zM97.2.2.2.2.2.2.2 = some (16, (.istore_n 3), 1, 0, 0) := by decide +kernel
theorem gx97_17 : aF 17 zM97.2.2.2.2.2.2.2 = some (17, (.iload_n 3), 1, 0, 0) := by decide +kernel
theorem gx97_18 : aF 18 zM97.2.2.2.2.2.2.2 = some (18, (.aload_n 0), 1, 0, 0) := by decide +kernel
theorem gx97_19 : aF 19 zM97.2.2.2.2.2.2.2 = some (19, (.getfield 44), 3, 8, 1) := by decide +kernel
theorem gx97_22 : aF 22 zM97.2.2.2.2.2.2.2 = some (22, (.getfield 54), 3, 2, 1) := by decide +kernel
theorem gx97_25 : aF 25 zM97.2.2.2.2.2.2.2 = some (25, (.if_icmp .ge 56), 3, 81, 0) := by decide +kernel
theorem gx97_81 : aF 81 zM97.2.2.2.2.2.2.2 = some (81, (.aload_n 0), 1, 0, 0) := by decide +kernel
theorem gx97_82 : aF 82 zM97.2.2.2.2.2.2.2 = some (82, (.getfield 22), 3, 8, 7) := by decide +kernel
theorem gx97_85 : aF 85 zM97.2.2.2.2.2.2.2 = some (85, (.iconst 0), 1, 0, 0) := by decide +kernel
theorem gx97_86 : aF 86 zM97.2.2.2.2.2.2.2 = some (86, (.invokestatic 64), 3, 332, 0) := by decide +kernel
theorem gx97_89 : aF 89 zM97.2.2.2.2.2.2.2 = some (89, (.iconst 0), 1, 0, 0) := by decide +kernel
theorem gx97_90 : aF 90 zM97.2.2.2.2.2.2.2 = some (90, (.istore_n 3), 1, 0, 0) := by decide +kernel
theorem gx97_28 : aF 28 zM97.2.2.2.2.2.2.2 = some (28, (.aload_n 0), 1, 0, 0) := by decide +kernel
theorem gx97_29 : aF 29 zM97.2.2.2.2.2.2.2 = some (29, (.getfield 44), 3, 8, 1) := by decide +kernel
theorem gx97_32 : aF 32 zM97.2.2.2.2.2.2.2 = some (32, (.iload_n 3), 1, 0, 0) := by decide +kernel
theorem gx97_33 : aF 33 zM97.2.2.2.2.2.2.2 = some (33, (.aload_n 0), 1, 0, 0) := by decide +kernel
theorem gx97_34 : aF 34 zM97.2.2.2.2.2.2.2 = some (34, (.getfield 48), 3, 8, 2) := by decide +kernel
theorem gx97_37 : aF 37 zM97.2.2.2.2.2.2.2 = some (37, (.aload_n 0), 1, 0, 0) := by decide +kernel
theorem gx97_38 : aF 38 zM97.2.2.2.2.2.2.2 = some (38, (.getfield 9), 3, 8, 3) := by decide +kernel
theorem gx97_41 : aF 41 zM97.2.2.2.2.2.2.2 = some (41, (.invokevirtual 57), 3, 29, 0) := by decide +kernel
theorem gx97_44 : aF 44 zM97.2.2.2.2.2.2.2 = some (44, (.ifCond .eq 31), 3, 75, 0) := by decide +kernel
theorem gx97_75 : aF 75 zM97.2.2.2.2.2.2.2 = some (75, (.iinc 3 1), 3, 0, 0) := by decide +kernel
theorem gx97_78 : aF 78 zM97.2.2.2.2.2.2.2 = some (78, (.goto (-61)), 3, 17, 0) := by decide +kernel
theorem gx97_47 : aF 47 zM97.2.2.2.2.2.2.2 = some (47, (.aload_n 0), 1, 0, 0) := by decide +kernel
theorem gx97_48 : aF 48 zM97.2.2.2.2.2.2.2 = some (48, (.getfield 18), 3, 8, 6) := by decide +kernel
theorem gx97_51 : aF 51 zM97.2.2.2.2.2.2.2 = some (51, (.aload_n 0), 1, 0, 0) := by decide +kernel
theorem gx97_52 : aF 52 zM97.2.2.2.2.2.2.2 = some (52, (.getfield 51), 3, 8, 5) := by decide +kernel
theorem gx97_55 : aF 55 zM97.2.2.2.2.2.2.2 = some (55, (.aload_n 0), 1, 0, 0) := by decide +kernel
theorem gx97_56 : aF 56 zM97.2.2.2.2.2.2.2 = some (56, (.getfield 44), 3, 8, 1) := by decide +kernel
theorem gx97_59 : aF 59 zM97.2.2.2.2.2.2.2 = some (59, (.getfield 61), 3, 2, 8) := by decide +kernel
theorem gx97_62 : aF 62 zM97.2.2.2.2.2.2.2 = some (62, (.iload_n 3), 1, 0, 0) := by decide +kernel
theorem gx97_63 : aF 63 zM97.2.2.2.2.2.2.2 = some (63, .iaload, 1, 0, 0) := by decide +kernel
theorem gx97_64 : aF 64 zM97.2.2.2.2.2.2.2 = some (64, .iastore, 1, 0, 0) := by decide +kernel
theorem gx97_65 : aF 65 zM97.2.2.2.2.2.2.2 = some (65, (.aload_n 0), 1, 0, 0) := by decide +kernel
theorem gx97_66 : aF 66 zM97.2.2.2.2.2.2.2 = some (66, .dup, 1, 0, 0) := by decide +kernel
theorem gx97_67 : aF 67 zM97.2.2.2.2.2.2.2 = some (67, (.getfield 51), 3, 8, 5) := by decide +kernel
theorem gx97_70 : aF 70 zM97.2.2.2.2.2.2.2 = some (70, (.iconst 1), 1, 0, 0) := by decide +kernel
theorem gx97_71 : aF 71 zM97.2.2.2.2.2.2.2 = some (71, .iadd, 1, 0, 0) := by decide +kernel
theorem gx97_72 : aF 72 zM97.2.2.2.2.2.2.2 = some (72, (.putfield 51), 3, 8, 5) := by decide +kernel
theorem gx97_91 : aF 91 zM97.2.2.2.2.2.2.2 = some (91, (.iload_n 3), 1, 0, 0) := by decide +kernel
theorem gx97_92 : aF 92 zM97.2.2.2.2.2.2.2 = some (92, (.bipush 24), 2, 0, 0) := by decide +kernel
theorem gx97_94 : aF 94 zM97.2.2.2.2.2.2.2 = some (94, (.if_icmp .ge 25), 3, 119, 0) := by decide +kernel
theorem gx97_119 : aF 119 zM97.2.2.2.2.2.2.2 = some (119, (.aload_n 0), 1, 0, 0) := by decide +kernel
theorem gx97_120 : aF 120 zM97.2.2.2.2.2.2.2 = some (120, (.invokevirtual 78), 3, 105, 0) := by decide +kernel
theorem gx97_123 : aF 123 zM97.2.2.2.2.2.2.2 = some (123, .return_, 1, 0, 0) := by decide +kernel
theorem gx97_97 : aF 97 zM97.2.2.2.2.2.2.2 = some (97, (.aload_n 0), 1, 0, 0) := by decide +kernel
theorem gx97_98 : aF 98 zM97.2.2.2.2.2.2.2 = some (98, (.getfield 28), 3, 8, 9) := by decide +kernel
theorem gx97_101 : aF 101 zM97.2.2.2.2.2.2.2 = some (101, (.iload_n 3), 1, 0, 0) := by decide +kernel
theorem gx97_102 : aF 102 zM97.2.2.2.2.2.2.2 = some (102, (.aload_n 0), 1, 0, 0) := by decide +kernel
theorem gx97_103 : aF 103 zM97.2.2.2.2.2.2.2 = some (103, (.iload_n 3), 1, 0, 0) := by decide +kernel
theorem gx97_104 : aF 104 zM97.2.2.2.2.2.2.2 = some (104, (.invokevirtual 70), 3, 103, 0) := by decide +kernel
theorem gx97_107 : aF 107 zM97.2.2.2.2.2.2.2 = some (107, .iastore, 1, 0, 0) := by decide +kernel
theorem gx97_108 : aF 108 zM97.2.2.2.2.2.2.2 = some (108, (.aload_n 0), 1, 0, 0) := by decide +kernel
theorem gx97_109 : aF 109 zM97.2.2.2.2.2.2.2 = some (109, (.iload_n 3), 1, 0, 0) := by decide +kernel
theorem gx97_110 : aF 110 zM97.2.2.2.2.2.2.2 = some (110, (.invokevirtual 74), 3, 104, 0) := by decide +kernel
theorem gx97_113 : aF 113 zM97.2.2.2.2.2.2.2 = some (113, (.iinc 3 1), 3, 0, 0) := by decide +kernel
theorem gx97_116 : aF 116 zM97.2.2.2.2.2.2.2 = some (116, (.goto (-25)), 3, 91, 0) := by decide +kernel
theorem d105_0 {n : Nat} {X : aX} {h : aH} {P : aH → Prop} {q0 : Nat} (S : wS h)  (hq0 : 146 ≤ q0) (H : ((vw h) q0 10 = (((q0 + 5) : Nat) : Int) ∧ (((∃ t y, h.1[(q0 + 5)]? = some (.inl (t, 150, y))) ∧ 150 < 2147483648) ∧ ∀ (h_3 : aH), (wS h_3 ∧ hk h h_3 ∧ vw h_3 = fillV (vw h) (q0 + 5) 0 150 0) → ((vw h_3) q0 11 = (((q0 + 6) : Nat) : Int) ∧ (((∃ t y, h_3.1[(q0 + 6)]? = some (.inl (t, 150, y))) ∧ 150 < 2147483648) ∧ ∀ (h_6 : aH), (wS h_6 ∧ hk h_3 h_6 ∧ vw h_6 = fillV (vw h_3) (q0 + 6) 0 150 0) → ((vw h_6) q0 12 = (((q0 + 7) : Nat) : Int) ∧ (((∃ t y, h_6.1[(q0 + 7)]? = some (.inl (t, 150, y))) ∧ 150 < 2147483648) ∧ ∀ (h_9 : aH), (wS h_9 ∧ hk h_6 h_9 ∧ vw h_9 = fillV (vw h_6) (q0 + 7) 0 150 (-1)) → (∀ (w1 : Int32) (u2_ : Option Value), w1.toInt = 0 → Pt n X zM105 26 [some (.ref q0), some (.int w1), u2_] [] h_9 (qN P))))))))) : Pt (n + 1) X zM105 0 [some (.ref q0), none, none] [] h (qN P) := by
  refine pt_1 (fun n d => r_aloadn gx105_0 rfl) ?_
  obtain ⟨pr1, H⟩ := H
  refine pt_d (pt_getK (B := 10) gx105_1 S (pr1) ?_)
  refine pt_d (pt_iconst gx105_4 (fun v2 h2 => ?_))
  obtain ⟨pr3, H⟩ := H
  refine pt_d (pt_stat (as := [.ref (q0 + 5), .int v2]) (r := []) gx105_5 rfl (show zmt[332]? = some zM332 from rfl) rfl rfl rfl rfl (k_332k S h2 150 pr3) (kqN (fun h_3 P3 => ?_)))
  have S3 := P3.1
  have H := H h_3 P3
  show Pt _ _ _ 8 _ [] _ _
  refine pt_d (pt_1 (fun n d => r_aloadn gx105_8 rfl) ?_)
  obtain ⟨pr4, H⟩ := H
  refine pt_d (pt_getK (B := 11) gx105_9 S3 (pr4) ?_)
  refine pt_d (pt_iconst gx105_12 (fun v5 h5 => ?_))
  obtain ⟨pr6, H⟩ := H
  refine pt_d (pt_stat (as := [.ref (q0 + 6), .int v5]) (r := []) gx105_13 rfl (show zmt[332]? = some zM332 from rfl) rfl rfl rfl rfl (k_332k S3 h5 150 pr6) (kqN (fun h_6 P6 => ?_)))
  have S6 := P6.1
  have H := H h_6 P6
  show Pt _ _ _ 16 _ [] _ _
  refine pt_d (pt_1 (fun n d => r_aloadn gx105_16 rfl) ?_)
  obtain ⟨pr7, H⟩ := H
  refine pt_d (pt_getK (B := 12) gx105_17 S6 (pr7) ?_)
  refine pt_d (pt_iconst gx105_20 (fun v8 h8 => ?_))
  obtain ⟨pr9, H⟩ := H
  refine pt_d (pt_stat (as := [.ref (q0 + 7), .int v8]) (r := []) gx105_21 rfl (show zmt[332]? = some zM332 from rfl) rfl rfl rfl rfl (k_332k S6 h8 150 pr9) (kqN (fun h_9 P9 => ?_)))
  have S9 := P9.1
  have H := H h_9 P9
  show Pt _ _ _ 24 _ [] _ _
  refine pt_d (pt_iconst gx105_24 (fun v10 h10 => ?_))
  refine pt_d (pt_1 (fun n d => r_istoren (L' := [some (.ref q0), some (.int v10), none]) gx105_25 rfl rfl) ?_)
  exact H v10 _ h10
theorem d105_26 {n : Nat} {X : aX} {h : aH} {P : aH → Prop} {x1 : Int32} {a1 : Int} {u2 : Option Value} {q0 : Nat} (S : wS h) (z1 : x1.toInt = a1)  (hq0 : 146 ≤ q0) (H : ((vw h q0 5 ≤ a1 → P h) ∧ (a1 < vw h q0 5 → ((vw h q0 1 = ((16 : Nat) : Int) ∧ vw h q0 6 = ((q0 + 1 : Nat) : Int)) ∧ ((vw h) q0 8 = (((q0 + 3) : Nat) : Int) ∧ ((vw h) q0 7 = (((q0 + 2) : Nat) : Int) ∧ (0 ≤ a1 → ((vw h) q0 1 = ((16 : Nat) : Int) ∧ ((vw h) q0 6 = (((q0 + 1) : Nat) : Int) ∧ (0 ≤ a1 → ((0 ≤ vw h 16 3 ∧ vw h 16 3 ≤ 200) ∧ (0 ≤ a1 → ∀ h_14 : aH, wS h_14 → vw h_14 = up (vw h) (q0 + 3) a1 (min (vw h (q0 + 2) a1) (msg (vw h) (vw h (q0 + 1) a1) (vw h q0 2) (vw h q0 3) ((vw h) 16 3).toNat)) → hk h h_14 → (∀ (w2 : Int32), w2.toInt = (vw h) 17 ((vw h) (q0 + 1) a1) → Pt n X zM105 76 [some (.ref q0), some (.int x1), some (.int w2)] [] h_14 (qN P)))))))))))))) : Pt (n + 1) X zM105 26 [some (.ref q0), some (.int x1), u2] [] h (qN P) := by
  refine pt_1 (fun n d => r_iloadn gx105_26 rfl) ?_
  refine pt_d (pt_1 (fun n d => r_aloadn gx105_27 rfl) ?_)
  refine pt_d (pt_getI (B := 5) gx105_28 S (fun v1 h1 => ?_))
  refine pt_d (pt_icmp_ge gx105_31 z1 h1 (fun e2 => ?_) (fun e2 => ?_))
  · have H := H.1 e2
    exact pt_d (pt_vret gx105_133 ⟨rfl, H⟩)
  · have H := H.2 e2
    refine pt_d (pt_1 (fun n d => r_aloadn gx105_34 rfl) ?_)
    refine pt_d (pt_1 (fun n d => r_iloadn gx105_35 rfl) ?_)
    obtain ⟨pr3, H⟩ := H
    refine pt_d (pt_virt (as := [.int x1]) (r := []) gx105_36 rfl (show zmt[100]? = some zM100 from rfl) rfl rfl rfl rfl (c_100 S z1 pr3) (kqP (fun v3 h3 => ?_)))
    show Pt _ _ _ 39 _ [.int v3] _ _
    refine pt_d (pt_1 (fun n d => r_istoren (L' := [some (.ref q0), some (.int x1), some (.int v3)]) gx105_39 rfl rfl) ?_)
    refine pt_d (pt_1 (fun n d => r_aloadn gx105_40 rfl) ?_)
    obtain ⟨pr4, H⟩ := H
    refine pt_d (pt_getK (B := 8) gx105_41 S (pr4) ?_)
    refine pt_d (pt_1 (fun n d => r_iloadn gx105_44 rfl) ?_)
    refine pt_d (pt_1 (fun n d => r_aloadn gx105_45 rfl) ?_)
    obtain ⟨pr5, H⟩ := H
    refine pt_d (pt_getK (B := 7) gx105_46 S (pr5) ?_)
    refine pt_d (pt_1 (fun n d => r_iloadn gx105_49 rfl) ?_)
    refine pt_d (pt_ialdD gx105_50 z1 (fun v6 p6 h6 => ?_))
    have H := H p6
    refine pt_d (pt_1 (fun n d => r_aloadn gx105_51 rfl) ?_)
    obtain ⟨pr7, H⟩ := H
    refine pt_d (pt_getK (B := 1) gx105_52 S (pr7) ?_)
    refine pt_d (pt_1 (fun n d => r_aloadn gx105_55 rfl) ?_)
    obtain ⟨pr8, H⟩ := H
    refine pt_d (pt_getK (B := 6) gx105_56 S (pr8) ?_)
    refine pt_d (pt_1 (fun n d => r_iloadn gx105_59 rfl) ?_)
    refine pt_d (pt_ialdD gx105_60 z1 (fun v9 p9 h9 => ?_))
    have H := H p9
    refine pt_d (pt_1 (fun n d => r_aloadn gx105_61 rfl) ?_)
    refine pt_d (pt_getI (B := 2) gx105_62 S (fun v10 h10 => ?_))
    refine pt_d (pt_1 (fun n d => r_aloadn gx105_65 rfl) ?_)
    refine pt_d (pt_getI (B := 3) gx105_66 S (fun v11 h11 => ?_))
    obtain ⟨pr12, H⟩ := H
    refine pt_d (pt_virt (as := [.int v9, .int v10, .int v11]) (r := [.int v6, .int x1, .ref (q0 + 3)]) gx105_69 rfl (show zmt[35]? = some zM35 from rfl) rfl rfl rfl rfl (c_35 S h9 h10 h11 pr12) (kqP (fun v12 h12 => ?_)))
    show Pt _ _ _ 72 _ [.int v12, .int v6, .int x1, .ref (q0 + 3)] _ _
    refine pt_d (pt_min gx105_72 rfl h6 h12 (fun v13 h13 => ?_))
    refine pt_d (pt_iastDk gx105_75 S z1 h13 (fun h_14 S14 p14 e14 K14 => ?_))
    have H := H p14
    have H := H h_14 S14 (by rw [e14]) K14
    exact H v3 h3
theorem d105_76 {n : Nat} {X : aX} {h : aH} {P : aH → Prop} {x1 x2 : Int32} {a1 a2 : Int} {q0 : Nat} (S : wS h) (z1 : x1.toInt = a1) (z2 : x2.toInt = a2)  (hq0 : 146 ≤ q0) (H : ((vw h) q0 10 = (((q0 + 5) : Nat) : Int) ∧ (0 ≤ a2 → ((vw h) q0 7 = (((q0 + 2) : Nat) : Int) ∧ (0 ≤ a1 → (0 ≤ a2 → ∀ h_6 : aH, wS h_6 → vw h_6 = up (vw h) (q0 + 5) a2 (w32 ((vw h (q0 + 5) a2) + (vw h (q0 + 2) a1))) → hk h h_6 → Pt n X zM105 91 [some (.ref q0), some (.int x1), some (.int x2)] [] h_6 (qN P))))))) : Pt (n + 1) X zM105 76 [some (.ref q0), some (.int x1), some (.int x2)] [] h (qN P) := by
  refine pt_1 (fun n d => r_aloadn gx105_76 rfl) ?_
  obtain ⟨pr1, H⟩ := H
  refine pt_d (pt_getK (B := 10) gx105_77 S (pr1) ?_)
  refine pt_d (pt_1 (fun n d => r_iloadn gx105_80 rfl) ?_)
  refine pt_d (pt_1 (fun n d => r_dup2 gx105_81 rfl) ?_)
  refine pt_d (pt_ialdD gx105_82 z2 (fun v2 p2 h2 => ?_))
  have H := H p2
  refine pt_d (pt_1 (fun n d => r_aloadn gx105_83 rfl) ?_)
  obtain ⟨pr3, H⟩ := H
  refine pt_d (pt_getK (B := 7) gx105_84 S (pr3) ?_)
  refine pt_d (pt_1 (fun n d => r_iloadn gx105_87 rfl) ?_)
  refine pt_d (pt_ialdD gx105_88 z1 (fun v4 p4 h4 => ?_))
  have H := H p4
  refine pt_d (pt_iadd gx105_89 h2 h4 (fun v5 h5 => ?_))
  refine pt_d (pt_iastDk gx105_90 S z2 h5 (fun h_6 S6 p6 e6 K6 => ?_))
  have H := H p6
  have H := H h_6 S6 (by rw [e6]) K6
  exact H
theorem d105_91 {n : Nat} {X : aX} {h : aH} {P : aH → Prop} {x1 x2 : Int32} {a1 a2 : Int} {q0 : Nat} (S : wS h) (z1 : x1.toInt = a1) (z2 : x2.toInt = a2)  (hq0 : 146 ≤ q0) (H : ((vw h) q0 11 = (((q0 + 6) : Nat) : Int) ∧ (0 ≤ a2 → ((vw h) q0 8 = (((q0 + 3) : Nat) : Int) ∧ (0 ≤ a1 → (0 ≤ a2 → ∀ h_6 : aH, wS h_6 → vw h_6 = up (vw h) (q0 + 6) a2 (w32 ((vw h (q0 + 6) a2) + (vw h (q0 + 3) a1))) → hk h h_6 → Pt n X zM105 106 [some (.ref q0), some (.int x1), some (.int x2)] [] h_6 (qN P))))))) : Pt (n + 1) X zM105 91 [some (.ref q0), some (.int x1), some (.int x2)] [] h (qN P) := by
  refine pt_1 (fun n d => r_aloadn gx105_91 rfl) ?_
  obtain ⟨pr1, H⟩ := H
  refine pt_d (pt_getK (B := 11) gx105_92 S (pr1) ?_)
  refine pt_d (pt_1 (fun n d => r_iloadn gx105_95 rfl) ?_)
  refine pt_d (pt_1 (fun n d => r_dup2 gx105_96 rfl) ?_)
  refine pt_d (pt_ialdD gx105_97 z2 (fun v2 p2 h2 => ?_))
  have H := H p2
  refine pt_d (pt_1 (fun n d => r_aloadn gx105_98 rfl) ?_)
  obtain ⟨pr3, H⟩ := H
  refine pt_d (pt_getK (B := 8) gx105_99 S (pr3) ?_)
  refine pt_d (pt_1 (fun n d => r_iloadn gx105_102 rfl) ?_)
  refine pt_d (pt_ialdD gx105_103 z1 (fun v4 p4 h4 => ?_))
  have H := H p4
  refine pt_d (pt_iadd gx105_104 h2 h4 (fun v5 h5 => ?_))
  refine pt_d (pt_iastDk gx105_105 S z2 h5 (fun h_6 S6 p6 e6 K6 => ?_))
  have H := H p6
  have H := H h_6 S6 (by rw [e6]) K6
  exact H
theorem d105_106 {n : Nat} {X : aX} {h : aH} {P : aH → Prop} {x1 x2 : Int32} {a1 a2 : Int} {q0 : Nat} (S : wS h) (z1 : x1.toInt = a1) (z2 : x2.toInt = a2)  (hq0 : 146 ≤ q0) (H : ((vw h) q0 12 = (((q0 + 7) : Nat) : Int) ∧ ((vw h) q0 12 = (((q0 + 7) : Nat) : Int) ∧ (0 ≤ a2 → ((vw h) q0 6 = (((q0 + 1) : Nat) : Int) ∧ (0 ≤ a1 → (0 ≤ a2 → ∀ h_7 : aH, wS h_7 → vw h_7 = up (vw h) (q0 + 7) a2 (max (vw h (q0 + 7) a2) (vw h (q0 + 1) a1)) → hk h h_7 → Pt n X zM105 127 [some (.ref q0), some (.int x1), some (.int x2)] [] h_7 (qN P)))))))) : Pt (n + 1) X zM105 106 [some (.ref q0), some (.int x1), some (.int x2)] [] h (qN P) := by
  refine pt_1 (fun n d => r_aloadn gx105_106 rfl) ?_
  obtain ⟨pr1, H⟩ := H
  refine pt_d (pt_getK (B := 12) gx105_107 S (pr1) ?_)
  refine pt_d (pt_1 (fun n d => r_iloadn gx105_110 rfl) ?_)
  refine pt_d (pt_1 (fun n d => r_aloadn gx105_111 rfl) ?_)
  obtain ⟨pr2, H⟩ := H
  refine pt_d (pt_getK (B := 12) gx105_112 S (pr2) ?_)
  refine pt_d (pt_1 (fun n d => r_iloadn gx105_115 rfl) ?_)
  refine pt_d (pt_ialdD gx105_116 z2 (fun v3 p3 h3 => ?_))
  have H := H p3
  refine pt_d (pt_1 (fun n d => r_aloadn gx105_117 rfl) ?_)
  obtain ⟨pr4, H⟩ := H
  refine pt_d (pt_getK (B := 6) gx105_118 S (pr4) ?_)
  refine pt_d (pt_1 (fun n d => r_iloadn gx105_121 rfl) ?_)
  refine pt_d (pt_ialdD gx105_122 z1 (fun v5 p5 h5 => ?_))
  have H := H p5
  refine pt_d (pt_max gx105_123 rfl h3 h5 (fun v6 h6 => ?_))
  refine pt_d (pt_iastDk gx105_126 S z2 h6 (fun h_7 S7 p7 e7 K7 => ?_))
  have H := H p7
  have H := H h_7 S7 (by rw [e7]) K7
  exact H
theorem d105_127 {n : Nat} {X : aX} {h : aH} {P : aH → Prop} {x1 x2 : Int32} {a1 a2 : Int} {q0 : Nat} (S : wS h) (z1 : x1.toInt = a1) (z2 : x2.toInt = a2)  (hq0 : 146 ≤ q0) (H : (∀ (w1 : Int32) (u2_ : Option Value), w1.toInt = w32 (a1 + 1) → Pt n X zM105 26 [some (.ref q0), some (.int w1), u2_] [] h (qN P))) : Pt (n + 1) X zM105 127 [some (.ref q0), some (.int x1), some (.int x2)] [] h (qN P) := by
  refine pt_iinc (c := 1) gx105_127 rfl z1 (fun v1 h1 => ?_)
  show Pt _ _ _ _ [some (.ref q0), some (.int v1), some (.int x2)] [] _ _
  refine pt_d (pt_1 (fun n d => r_goto gx105_130) ?_)
  exact H v1 _ h1
def suS (V : vS) (q : Nat) (i : Int) : vS := up (up (up (up V (q + 3) i (min (V (q + 2) i) (msg V (V (q + 1) i) (V q 2) (V q 3) (V 16 3).toNat))) (q + 5) (fmA V (q + 1) i) (w32 (V (q + 5) (fmA V (q + 1) i) + V (q + 2) i))) (q + 6) (fmA V (q + 1) i) (w32 (V (q + 6) (fmA V (q + 1) i) + min (V (q + 2) i) (msg V (V (q + 1) i) (V q 2) (V q 3) (V 16 3).toNat)))) (q + 7) (fmA V (q + 1) i) (max (V (q + 7) (fmA V (q + 1) i)) (V (q + 1) i))
def suN (V : vS) (q : Nat) : Nat → vS
  | 0 => V
  | i + 1 => suS (suN V q i) q (i : Nat)
theorem suN_c {V : vS} {q c : Nat} (h3 : c ≠ q + 3) (h5 : c ≠ q + 5) (h6 : c ≠ q + 6) (h7 : c ≠ q + 7) : ∀ (i : Nat) (j : Int), suN V q i c j = V c j
  | 0, _ => rfl
  | i + 1, j => by
    have e : suN V q (i + 1) = suS (suN V q i) q (i : Nat) := rfl
    rw [e]
    unfold suS
    rw [up_c h7, up_c h6, up_c h5, up_c h3]
    exact suN_c h3 h5 h6 h7 i j
def suF (V : vS) (q : Nat) : vS := suN (fillV (fillV (fillV V (q + 5) 0 150 0) (q + 6) 0 150 0) (q + 7) 0 150 (-1)) q (V q 5).toNat
theorem suF_c {V : vS} {q c : Nat} (h3 : c ≠ q + 3) (h5 : c ≠ q + 5) (h6 : c ≠ q + 6) (h7 : c ≠ q + 7) (j : Int) : suF V q c j = V c j := by
  unfold suF
  rw [suN_c h3 h5 h6 h7, fillV_c h7, fillV_c h6, fillV_c h5]
def sfl (V : vS) (q : Nat) : Prop := V q 7 = ((q + 2 : Nat) : Int) ∧ V q 8 = ((q + 3 : Nat) : Int) ∧ V q 9 = ((q + 4 : Nat) : Int) ∧ V q 10 = ((q + 5 : Nat) : Int) ∧ V q 11 = ((q + 6 : Nat) : Int) ∧ V q 12 = ((q + 7 : Nat) : Int)
theorem l_105 {X : aX} {V : vS} {h0 : aH} {q0 : Nat} (hq0 : 146 ≤ q0) (L : lst V q0) (F : sfl V q0) (hc : 0 ≤ V 16 3 ∧ V 16 3 ≤ 200) : ∀ (n : Nat) (h : aH) (x1 : Int32) (u2 : Option Value) (i : Nat), wS h → hk h0 h → x1.toInt = (i : Int) → (i : Int) ≤ V q0 5 → vw h = suN V q0 i → Pt n X zM105 26 [some (.ref q0), some (.int x1), u2] [] h (qN (fun h' => wS h' ∧ hk h0 h' ∧ vw h' = suN V q0 (V q0 5).toNat)) := by
  obtain ⟨⟨k0, k1, k6⟩, hN, hf, hs⟩ := L
  obtain ⟨k7, k8, k9, k10, k11, k12⟩ := F
  intro n
  induction n with
  | zero => exact fun _ _ _ _ _ _ _ _ _ => pt_z
  | succ n ih =>
    intro h x1 u2 i S K h1 iN e
    have c : ∀ (c : Nat) j, c ≠ q0 + 3 → c ≠ q0 + 5 → c ≠ q0 + 6 → c ≠ q0 + 7 → vw h c j = V c j := fun c j a b d f => by rw [e]; exact suN_c a b d f i j
    have eq : ∀ j, vw h q0 j = V q0 j := fun j => c q0 j (by omega) (by omega) (by omega) (by omega)
    have e16 : vw h 16 3 = V 16 3 := c 16 3 (by omega) (by omega) (by omega) (by omega)
    have pc : vw h q0 1 = ((16 : Nat) : Int) ∧ vw h q0 6 = ((q0 + 1 : Nat) : Int) := ⟨(eq 1).trans k1, (eq 6).trans k6⟩
    have e5 := eq 5
    refine d105_26 S h1 hq0 ⟨fun e1 => ⟨S, K, ?_⟩, fun e1 => ⟨pc, (eq 8).trans k8, (eq 7).trans k7, fun _ => ⟨pc.1, pc.2, fun _ => ⟨by rw [e16]; exact hc, fun _ h14 S14 e14 K14 w2 g2 => ?_⟩⟩⟩⟩
    · rw [e]
      congr 1
      omega
    have q14 : ∀ (c : Nat) j, c ≠ q0 + 3 → vw h14 c j = vw h c j := fun c j a => by rw [e14, up_c a]
    have s14 : vw h14 (q0 + 3) (i : Int) = min (vw h (q0 + 2) (i : Int)) (msg (vw h) (vw h (q0 + 1) (i : Int)) (vw h q0 2) (vw h q0 3) (vw h 16 3).toNat) := by rw [e14, up_s]
    refine pt_d (d105_76 S14 h1 g2 hq0 ⟨(q14 q0 10 (by omega)).trans ((eq 10).trans k10), fun _ => ⟨(q14 q0 7 (by omega)).trans ((eq 7).trans k7), fun _ _ h6 S6 e6 K6 => ?_⟩⟩)
    have q6 : ∀ (c : Nat) j, c ≠ q0 + 5 → vw h6 c j = vw h14 c j := fun c j a => by rw [e6, up_c a]
    refine pt_d (d105_91 S6 h1 g2 hq0 ⟨(q6 q0 11 (by omega)).trans ((q14 q0 11 (by omega)).trans ((eq 11).trans k11)), fun _ => ⟨(q6 q0 8 (by omega)).trans ((q14 q0 8 (by omega)).trans ((eq 8).trans k8)), fun _ _ h7 S7 e7 K7 => ?_⟩⟩)
    have q7 : ∀ (c : Nat) j, c ≠ q0 + 6 → vw h7 c j = vw h6 c j := fun c j a => by rw [e7, up_c a]
    have f12 : vw h7 q0 12 = ((q0 + 7 : Nat) : Int) := (q7 q0 12 (by omega)).trans ((q6 q0 12 (by omega)).trans ((q14 q0 12 (by omega)).trans ((eq 12).trans k12)))
    refine pt_d (d105_106 S7 h1 g2 hq0 ⟨f12, f12, fun _ => ⟨(q7 q0 6 (by omega)).trans ((q6 q0 6 (by omega)).trans ((q14 q0 6 (by omega)).trans pc.2)), fun _ _ h8 S8 e8 K8 => ?_⟩⟩)
    refine pt_d (d105_127 S8 h1 g2 hq0 (fun w1 u2 g1 => ?_))
    replace g1 := w_1 g1 (by omega) (by omega)
    refine ih h8 w1 u2 (i + 1) S8 (hk_t K (hk_t K14 (hk_t K6 (hk_t K7 K8)))) (by omega) (by omega) ?_
    have es : suN V q0 (i + 1) = suS (suN V q0 i) q0 (i : Nat) := rfl
    rw [es, ← e]
    unfold suS
    show vw h8 = up (up (up (up (vw h) (q0 + 3) (i : Int) _) (q0 + 5) (vw h 17 (vw h (q0 + 1) (i : Int))) _) (q0 + 6) (vw h 17 (vw h (q0 + 1) (i : Int))) _) (q0 + 7) (vw h 17 (vw h (q0 + 1) (i : Int))) _
    rw [e8, q7 (q0 + 7) _ (by omega), q6 (q0 + 7) _ (by omega), q14 (q0 + 7) _ (by omega), q7 (q0 + 1) _ (by omega), q6 (q0 + 1) _ (by omega), q14 (q0 + 1) _ (by omega), e7, q6 (q0 + 6) _ (by omega), q14 (q0 + 6) _ (by omega), q6 (q0 + 3) _ (by omega), s14, e6, q14 (q0 + 5) _ (by omega), q14 (q0 + 2) _ (by omega), e14]
    rfl
def pre105 (h : aH) (q : Nat) : Prop := lst (vw h) q ∧ sfl (vw h) q ∧ ((∃ t y, h.1[q + 5]? = some (.inl (t, 150, y))) ∧ (∃ t y, h.1[q + 6]? = some (.inl (t, 150, y))) ∧ (∃ t y, h.1[q + 7]? = some (.inl (t, 150, y)))) ∧ 0 ≤ vw h 16 3 ∧ vw h 16 3 ≤ 200
theorem lst_c {V V' : vS} {q : Nat} (L : lst V q) (h1 : ∀ j, V' q j = V q j) (h2 : ∀ j, V' (q + 1) j = V (q + 1) j) (h3 : ∀ j, V' 17 j = V 17 j) (h4 : ∀ j, V' 18 j = V 18 j) : lst V' q := by
  unfold lst fdA fmA at L ⊢
  simp only [h1, h2, h3, h4]
  exact L
theorem hk_a {h h' : aH} {c N : Nat} (K : hk h h') (e : ∃ t y, h.1[c]? = some (.inl (t, N, y))) : ∃ t y, h'.1[c]? = some (.inl (t, N, y)) := by
  obtain ⟨t, y, e⟩ := e
  obtain ⟨y', e'⟩ := K _ _ _ _ e
  exact ⟨t, y', e'⟩
theorem c_105 {n : Nat} {X : aX} {h : aH} {q0 : Nat} (S : wS h) (hq0 : 146 ≤ q0) (hp : pre105 h q0) : Pt n X zM105 0 [some (.ref q0), none, none] [] h (qN (fun h' => wS h' ∧ hk h h' ∧ vw h' = suF (vw h) q0)) := by
  obtain ⟨L, F, ⟨y10, y11, y12⟩, hc⟩ := hp
  have F' := F
  obtain ⟨k7, k8, k9, k10, k11, k12⟩ := F
  refine pt_d (d105_0 S hq0 ⟨k10, ⟨y10, by decide⟩, fun h3 k3 => ⟨?_, ⟨hk_a k3.2.1 y11, by decide⟩, fun h6 k6 => ⟨?_, ⟨hk_a k6.2.1 (hk_a k3.2.1 y12), by decide⟩, fun h9 k9' w1 u2 g1 => ?_⟩⟩⟩)
  · rw [k3.2.2, fillV_c (by omega)]
    exact k11
  · rw [k6.2.2, fillV_c (by omega), k3.2.2, fillV_c (by omega)]
    exact k12
  have ev : vw h9 = fillV (fillV (fillV (vw h) (q0 + 5) 0 150 0) (q0 + 6) 0 150 0) (q0 + 7) 0 150 (-1) := by
    have a := k9'.2.2
    have b := k6.2.2
    have c := k3.2.2
    rw [a, b, c]
  have c : ∀ (c : Nat) j, c ≠ q0 + 5 → c ≠ q0 + 6 → c ≠ q0 + 7 → fillV (fillV (fillV (vw h) (q0 + 5) 0 150 0) (q0 + 6) 0 150 0) (q0 + 7) 0 150 (-1) c j = vw h c j := fun c j a b d => by rw [fillV_c d, fillV_c b, fillV_c a]
  have eq : ∀ j, fillV (fillV (fillV (vw h) (q0 + 5) 0 150 0) (q0 + 6) 0 150 0) (q0 + 7) 0 150 (-1) q0 j = vw h q0 j := fun j => c q0 j (by omega) (by omega) (by omega)
  have e5 := eq 5
  refine pt_q (l_105 hq0 (lst_c L eq (fun j => c _ j (by omega) (by omega) (by omega)) (fun j => c _ j (by omega) (by omega) (by omega)) (fun j => c _ j (by omega) (by omega) (by omega))) ?_ (by rw [c 16 3 (by omega) (by omega) (by omega)]; exact hc) n h9 w1 u2 0 k9'.1 (hk_t k3.2.1 (hk_t k6.2.1 k9'.2.1)) g1 (by rw [e5]; exact L.2.1.1) ev) ?_
  · unfold sfl
    simp only [eq]
    exact F'
  · rintro v h' ⟨e0, p1, p2, p3⟩
    refine ⟨e0, p1, p2, ?_⟩
    rw [p3, e5]
    rfl


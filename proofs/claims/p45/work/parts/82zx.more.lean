theorem tl_67 : tkL 67 0 24 = true := by decide +kernel
theorem tl_141 : tkL 141 0 24 = true := by decide +kernel
theorem tr_66_0 : tkR 66 0 67 = true := by decide +kernel
theorem tr_72_96 : tkR 72 96 141 = true := by decide +kernel
theorem tr_0_8 : tkR 0 8 66 = true := by decide +kernel
theorem gx21_0 : aF 0 zM21.2.2.2.2.2.2.2 = some (0, (.aload_n 0), 1, 0, 0) := by decide +kernel
theorem gx21_1 : aF 1 zM21.2.2.2.2.2.2.2 = some (1, (.getfield 15), 3, 1, 1) := by decide +kernel
theorem gx21_4 : aF 4 zM21.2.2.2.2.2.2.2 = some (4, (.bipush 24), 2, 0, 0) := by decide +kernel
theorem gx21_6 : aF 6 zM21.2.2.2.2.2.2.2 = some (6, (.if_icmp .ge 13), 3, 19, 0) := by decide +kernel
theorem gx21_19 : aF 19 zM21.2.2.2.2.2.2.2 = some (19, (.aload_n 0), 1, 0, 0) := by decide +kernel
theorem gx21_20 : aF 20 zM21.2.2.2.2.2.2.2 = some (20, .dup, 1, 0, 0) := by decide +kernel
theorem gx21_21 : aF 21 zM21.2.2.2.2.2.2.2 = some (21, (.getfield 15), 3, 1, 1) := by decide +kernel
theorem gx21_24 : aF 24 zM21.2.2.2.2.2.2.2 = some (24, (.iconst 1), 1, 0, 0) := by decide +kernel
theorem gx21_25 : aF 25 zM21.2.2.2.2.2.2.2 = some (25, .iadd, 1, 0, 0) := by decide +kernel
theorem gx21_26 : aF 26 zM21.2.2.2.2.2.2.2 = some (26, (.putfield 15), 3, 1, 1) := by decide +kernel
theorem gx21_29 : aF 29 zM21.2.2.2.2.2.2.2 = some (29, .return_, 1, 0, 0) := by decide +kernel
theorem gx21_9 : aF 9 zM21.2.2.2.2.2.2.2 = some (9, (.aload_n 0), 1, 0, 0) := by decide +kernel
theorem gx21_10 : aF 10 zM21.2.2.2.2.2.2.2 = some (10, (.getfield 9), 3, 1, 0) := by decide +kernel
theorem gx21_13 : aF 13 zM21.2.2.2.2.2.2.2 = some (13, (.aload_n 0), 1, 0, 0) := by decide +kernel
theorem gx21_14 : aF 14 zM21.2.2.2.2.2.2.2 = some (14, (.getfield 15), 3, 1, 1) := by decide +kernel
theorem gx21_17 : aF 17 zM21.2.2.2.2.2.2.2 = some (17, (.iload_n 1), 1, 0, 0) := by decide +kernel
theorem gx21_18 : aF 18 zM21.2.2.2.2.2.2.2 = some (18, .iastore, 1, 0, 0) := by decide +kernel
theorem gx305_0 : aF 0 zM305.2.2.2.2.2.2.2 = some (0, (.aload_n 0), 1, 0, 0) := by decide +kernel
theorem gx305_1 : aF 1 zM305.2.2.2.2.2.2.2 = some (1, (.getfield 556), 3, 12, 95) := by decide +kernel
theorem gx305_4 : aF 4 zM305.2.2.2.2.2.2.2 = some (4, (.bipush 24), 2, 0, 0) := by decide +kernel
theorem gx305_6 : aF 6 zM305.2.2.2.2.2.2.2 = some (6, (.if_icmp .ge 13), 3, 19, 0) := by decide +kernel
theorem gx305_19 : aF 19 zM305.2.2.2.2.2.2.2 = some (19, (.aload_n 0), 1, 0, 0) := by decide +kernel
theorem gx305_20 : aF 20 zM305.2.2.2.2.2.2.2 = some (20, .dup, 1, 0, 0) := by decide +kernel
theorem gx305_21 : aF 21 zM305.2.2.2.2.2.2.2 = some (21, (.getfield 556), 3, 12, 95) := by decide +kernel
theorem gx305_24 : aF 24 zM305.2.2.2.2.2.2.2 = some (24, (.iconst 1), 1, 0, 0) := by decide +kernel
theorem gx305_25 : aF 25 zM305.2.2.2.2.2.2.2 = some (25, .iadd, 1, 0, 0) := by decide +kernel
theorem gx305_26 : aF 26 zM305.2.2.2.2.2.2.2 = some (26, (.putfield 556), 3, 12, 95) := by decide +kernel
theorem gx305_29 : aF 29 zM305.2.2.2.2.2.2.2 = some (29, .return_, 1, 0, 0) := by decide +kernel
theorem gx305_9 : aF 9 zM305.2.2.2.2.2.2.2 = some (9, (.aload_n 0), 1, 0, 0) := by decide +kernel
theorem gx305_10 : aF 10 zM305.2.2.2.2.2.2.2 = some (10, (.getfield 240), 3, 12, 96) := by decide +kernel
theorem gx305_13 : aF 13 zM305.2.2.2.2.2.2.2 = some (13, (.aload_n 0), 1, 0, 0) := by decide +kernel
theorem gx305_14 : aF 14 zM305.2.2.2.2.2.2.2 = some (14, (.getfield 556), 3, 12, 95) := by decide +kernel
theorem gx305_17 : aF 17 zM305.2.2.2.2.2.2.2 = some (17, (.iload_n 1), 1, 0, 0) := by decide +kernel
theorem gx305_18 : aF 18 zM305.2.2.2.2.2.2.2 = some (18, .iastore, 1, 0, 0) := by decide +kernel
theorem gx22_0 : aF 0 zM22.2.2.2.2.2.2.2 = some (0, (.iload_n 1), 1, 0, 0) := by decide +kernel
theorem gx22_1 : aF 1 zM22.2.2.2.2.2.2.2 = some (1, (.tableswitch 97 1 7 #[43, 90, 61, 97, 97, 97, 75]), 43, 0, 0) := by decide +kernel
theorem gx22_44 : aF 44 zM22.2.2.2.2.2.2.2 = some (44, (.aload_n 0), 1, 0, 0) := by decide +kernel
theorem gx22_45 : aF 45 zM22.2.2.2.2.2.2.2 = some (45, (.bipush 20), 2, 0, 0) := by decide +kernel
theorem gx22_47 : aF 47 zM22.2.2.2.2.2.2.2 = some (47, (.invokevirtual 41), 3, 21, 0) := by decide +kernel
theorem gx22_50 : aF 50 zM22.2.2.2.2.2.2.2 = some (50, (.aload_n 0), 1, 0, 0) := by decide +kernel
theorem gx22_51 : aF 51 zM22.2.2.2.2.2.2.2 = some (51, (.iconst 0), 1, 0, 0) := by decide +kernel
theorem gx22_52 : aF 52 zM22.2.2.2.2.2.2.2 = some (52, (.iload_n 2), 1, 0, 0) := by decide +kernel
theorem gx22_53 : aF 53 zM22.2.2.2.2.2.2.2 = some (53, (.invokevirtual 28), 3, 22, 0) := by decide +kernel
theorem gx22_56 : aF 56 zM22.2.2.2.2.2.2.2 = some (56, (.aload_n 0), 1, 0, 0) := by decide +kernel
theorem gx22_57 : aF 57 zM22.2.2.2.2.2.2.2 = some (57, (.getfield 25), 3, 1, 4) := by decide +kernel
theorem gx22_60 : aF 60 zM22.2.2.2.2.2.2.2 = some (60, .iadd, 1, 0, 0) := by decide +kernel
theorem gx22_61 : aF 61 zM22.2.2.2.2.2.2.2 = some (61, .ireturn, 1, 0, 0) := by decide +kernel
theorem gx22_91 : aF 91 zM22.2.2.2.2.2.2.2 = some (91, (.aload_n 0), 1, 0, 0) := by decide +kernel
theorem gx22_92 : aF 92 zM22.2.2.2.2.2.2.2 = some (92, (.iconst 1), 1, 0, 0) := by decide +kernel
theorem gx22_93 : aF 93 zM22.2.2.2.2.2.2.2 = some (93, (.iload_n 2), 1, 0, 0) := by decide +kernel
theorem gx22_94 : aF 94 zM22.2.2.2.2.2.2.2 = some (94, (.invokevirtual 28), 3, 22, 0) := by decide +kernel
theorem gx22_97 : aF 97 zM22.2.2.2.2.2.2.2 = some (97, .ireturn, 1, 0, 0) := by decide +kernel
theorem gx22_62 : aF 62 zM22.2.2.2.2.2.2.2 = some (62, (.aload_n 0), 1, 0, 0) := by decide +kernel
theorem gx22_63 : aF 63 zM22.2.2.2.2.2.2.2 = some (63, (.bipush 40), 2, 0, 0) := by decide +kernel
theorem gx22_65 : aF 65 zM22.2.2.2.2.2.2.2 = some (65, (.invokevirtual 41), 3, 21, 0) := by decide +kernel
theorem gx22_68 : aF 68 zM22.2.2.2.2.2.2.2 = some (68, (.aload_n 0), 1, 0, 0) := by decide +kernel
theorem gx22_69 : aF 69 zM22.2.2.2.2.2.2.2 = some (69, (.iconst 1), 1, 0, 0) := by decide +kernel
theorem gx22_70 : aF 70 zM22.2.2.2.2.2.2.2 = some (70, (.iload_n 2), 1, 0, 0) := by decide +kernel
theorem gx22_71 : aF 71 zM22.2.2.2.2.2.2.2 = some (71, (.invokevirtual 28), 3, 22, 0) := by decide +kernel
theorem gx22_74 : aF 74 zM22.2.2.2.2.2.2.2 = some (74, .ineg, 1, 0, 0) := by decide +kernel
theorem gx22_75 : aF 75 zM22.2.2.2.2.2.2.2 = some (75, .ireturn, 1, 0, 0) := by decide +kernel
theorem gx22_98 : aF 98 zM22.2.2.2.2.2.2.2 = some (98, (.aload_n 0), 1, 0, 0) := by decide +kernel
theorem gx22_99 : aF 99 zM22.2.2.2.2.2.2.2 = some (99, (.iconst 1), 1, 0, 0) := by decide +kernel
theorem gx22_100 : aF 100 zM22.2.2.2.2.2.2.2 = some (100, (.invokevirtual 41), 3, 21, 0) := by decide +kernel
theorem gx22_103 : aF 103 zM22.2.2.2.2.2.2.2 = some (103, (.iload_n 2), 1, 0, 0) := by decide +kernel
theorem gx22_104 : aF 104 zM22.2.2.2.2.2.2.2 = some (104, (.iconst 2), 1, 0, 0) := by decide +kernel
theorem gx22_105 : aF 105 zM22.2.2.2.2.2.2.2 = some (105, .imul, 1, 0, 0) := by decide +kernel
theorem gx22_106 : aF 106 zM22.2.2.2.2.2.2.2 = some (106, (.aload_n 0), 1, 0, 0) := by decide +kernel
theorem gx22_107 : aF 107 zM22.2.2.2.2.2.2.2 = some (107, (.getfield 19), 3, 1, 2) := by decide +kernel
theorem gx22_110 : aF 110 zM22.2.2.2.2.2.2.2 = some (110, .isub, 1, 0, 0) := by decide +kernel
theorem gx22_111 : aF 111 zM22.2.2.2.2.2.2.2 = some (111, .ireturn, 1, 0, 0) := by decide +kernel
theorem gx22_76 : aF 76 zM22.2.2.2.2.2.2.2 = some (76, (.aload_n 0), 1, 0, 0) := by decide +kernel
theorem gx22_77 : aF 77 zM22.2.2.2.2.2.2.2 = some (77, (.bipush 80), 2, 0, 0) := by decide +kernel
theorem gx22_79 : aF 79 zM22.2.2.2.2.2.2.2 = some (79, (.invokevirtual 41), 3, 21, 0) := by decide +kernel
theorem gx22_82 : aF 82 zM22.2.2.2.2.2.2.2 = some (82, (.aload_n 0), 1, 0, 0) := by decide +kernel
theorem gx22_83 : aF 83 zM22.2.2.2.2.2.2.2 = some (83, (.iconst 2), 1, 0, 0) := by decide +kernel
theorem gx22_84 : aF 84 zM22.2.2.2.2.2.2.2 = some (84, (.iload_n 2), 1, 0, 0) := by decide +kernel
theorem gx22_85 : aF 85 zM22.2.2.2.2.2.2.2 = some (85, (.invokevirtual 28), 3, 22, 0) := by decide +kernel
theorem gx22_88 : aF 88 zM22.2.2.2.2.2.2.2 = some (88, (.iconst 3), 1, 0, 0) := by decide +kernel
theorem gx22_89 : aF 89 zM22.2.2.2.2.2.2.2 = some (89, .ixor, 1, 0, 0) := by decide +kernel
theorem gx22_90 : aF 90 zM22.2.2.2.2.2.2.2 = some (90, .ireturn, 1, 0, 0) := by decide +kernel
theorem gx24_0 : aF 0 zM24.2.2.2.2.2.2.2 = some (0, (.iload_n 1), 1, 0, 0) := by decide +kernel
theorem gx24_1 : aF 1 zM24.2.2.2.2.2.2.2 = some (1, (.lookupswitch 45 #[(4, 27), (5, 27)]), 27, 0, 0) := by decide +kernel
theorem gx24_28 : aF 28 zM24.2.2.2.2.2.2.2 = some (28, (.aload_n 0), 1, 0, 0) := by decide +kernel
theorem gx24_29 : aF 29 zM24.2.2.2.2.2.2.2 = some (29, (.bipush 50), 2, 0, 0) := by decide +kernel
theorem gx24_31 : aF 31 zM24.2.2.2.2.2.2.2 = some (31, (.invokevirtual 41), 3, 21, 0) := by decide +kernel
theorem gx24_34 : aF 34 zM24.2.2.2.2.2.2.2 = some (34, (.aload_n 0), 1, 0, 0) := by decide +kernel
theorem gx24_35 : aF 35 zM24.2.2.2.2.2.2.2 = some (35, (.iconst 0), 1, 0, 0) := by decide +kernel
theorem gx24_36 : aF 36 zM24.2.2.2.2.2.2.2 = some (36, (.iload_n 2), 1, 0, 0) := by decide +kernel
theorem gx24_37 : aF 37 zM24.2.2.2.2.2.2.2 = some (37, (.invokevirtual 35), 3, 24, 0) := by decide +kernel
theorem gx24_40 : aF 40 zM24.2.2.2.2.2.2.2 = some (40, (.aload_n 0), 1, 0, 0) := by decide +kernel
theorem gx24_41 : aF 41 zM24.2.2.2.2.2.2.2 = some (41, (.getfield 25), 3, 1, 4) := by decide +kernel
theorem gx24_44 : aF 44 zM24.2.2.2.2.2.2.2 = some (44, .iadd, 1, 0, 0) := by decide +kernel
theorem gx24_45 : aF 45 zM24.2.2.2.2.2.2.2 = some (45, .ireturn, 1, 0, 0) := by decide +kernel
theorem gx24_46 : aF 46 zM24.2.2.2.2.2.2.2 = some (46, (.aload_n 0), 1, 0, 0) := by decide +kernel
theorem gx24_47 : aF 47 zM24.2.2.2.2.2.2.2 = some (47, (.bipush 11), 2, 0, 0) := by decide +kernel
theorem gx24_49 : aF 49 zM24.2.2.2.2.2.2.2 = some (49, (.invokevirtual 41), 3, 21, 0) := by decide +kernel
theorem gx24_52 : aF 52 zM24.2.2.2.2.2.2.2 = some (52, (.iload_n 2), 1, 0, 0) := by decide +kernel
theorem gx24_53 : aF 53 zM24.2.2.2.2.2.2.2 = some (53, (.aload_n 0), 1, 0, 0) := by decide +kernel
theorem gx24_54 : aF 54 zM24.2.2.2.2.2.2.2 = some (54, (.getfield 19), 3, 1, 2) := by decide +kernel
theorem gx24_57 : aF 57 zM24.2.2.2.2.2.2.2 = some (57, .ixor, 1, 0, 0) := by decide +kernel
theorem gx24_58 : aF 58 zM24.2.2.2.2.2.2.2 = some (58, .ireturn, 1, 0, 0) := by decide +kernel
theorem gx23_0 : aF 0 zM23.2.2.2.2.2.2.2 = some (0, (.iload_n 1), 1, 0, 0) := by decide +kernel
theorem gx23_1 : aF 1 zM23.2.2.2.2.2.2.2 = some (1, (.lookupswitch 93 #[(2, 35), (5, 50), (7, 73)]), 35, 0, 0) := by decide +kernel
theorem gx23_36 : aF 36 zM23.2.2.2.2.2.2.2 = some (36, (.aload_n 0), 1, 0, 0) := by decide +kernel
theorem gx23_37 : aF 37 zM23.2.2.2.2.2.2.2 = some (37, (.bipush 30), 2, 0, 0) := by decide +kernel
theorem gx23_39 : aF 39 zM23.2.2.2.2.2.2.2 = some (39, (.invokevirtual 41), 3, 21, 0) := by decide +kernel
theorem gx23_42 : aF 42 zM23.2.2.2.2.2.2.2 = some (42, (.aload_n 0), 1, 0, 0) := by decide +kernel
theorem gx23_43 : aF 43 zM23.2.2.2.2.2.2.2 = some (43, (.iconst 1), 1, 0, 0) := by decide +kernel
theorem gx23_44 : aF 44 zM23.2.2.2.2.2.2.2 = some (44, (.iload_n 2), 1, 0, 0) := by decide +kernel
theorem gx23_45 : aF 45 zM23.2.2.2.2.2.2.2 = some (45, (.invokevirtual 32), 3, 23, 0) := by decide +kernel
theorem gx23_48 : aF 48 zM23.2.2.2.2.2.2.2 = some (48, (.iconst 2), 1, 0, 0) := by decide +kernel
theorem gx23_49 : aF 49 zM23.2.2.2.2.2.2.2 = some (49, .imul, 1, 0, 0) := by decide +kernel
theorem gx23_50 : aF 50 zM23.2.2.2.2.2.2.2 = some (50, .ireturn, 1, 0, 0) := by decide +kernel
theorem gx23_51 : aF 51 zM23.2.2.2.2.2.2.2 = some (51, (.aload_n 0), 1, 0, 0) := by decide +kernel
theorem gx23_52 : aF 52 zM23.2.2.2.2.2.2.2 = some (52, (.bipush 60), 2, 0, 0) := by decide +kernel
theorem gx23_54 : aF 54 zM23.2.2.2.2.2.2.2 = some (54, (.invokevirtual 41), 3, 21, 0) := by decide +kernel
theorem gx23_57 : aF 57 zM23.2.2.2.2.2.2.2 = some (57, (.aload_n 0), 1, 0, 0) := by decide +kernel
theorem gx23_58 : aF 58 zM23.2.2.2.2.2.2.2 = some (58, (.iconst 4), 1, 0, 0) := by decide +kernel
theorem gx23_59 : aF 59 zM23.2.2.2.2.2.2.2 = some (59, (.iload_n 2), 1, 0, 0) := by decide +kernel
theorem gx23_60 : aF 60 zM23.2.2.2.2.2.2.2 = some (60, (.invokevirtual 32), 3, 23, 0) := by decide +kernel
theorem gx23_63 : aF 63 zM23.2.2.2.2.2.2.2 = some (63, (.aload_n 0), 1, 0, 0) := by decide +kernel
theorem gx23_64 : aF 64 zM23.2.2.2.2.2.2.2 = some (64, (.aload_n 0), 1, 0, 0) := by decide +kernel
theorem gx23_65 : aF 65 zM23.2.2.2.2.2.2.2 = some (65, (.getfield 22), 3, 1, 3) := by decide +kernel
theorem gx23_68 : aF 68 zM23.2.2.2.2.2.2.2 = some (68, (.iconst 2), 1, 0, 0) := by decide +kernel
theorem gx23_69 : aF 69 zM23.2.2.2.2.2.2.2 = some (69, (.invokevirtual 35), 3, 24, 0) := by decide +kernel
theorem gx23_72 : aF 72 zM23.2.2.2.2.2.2.2 = some (72, .isub, 1, 0, 0) := by decide +kernel
theorem gx23_73 : aF 73 zM23.2.2.2.2.2.2.2 = some (73, .ireturn, 1, 0, 0) := by decide +kernel
theorem gx23_74 : aF 74 zM23.2.2.2.2.2.2.2 = some (74, (.aload_n 0), 1, 0, 0) := by decide +kernel
theorem gx23_75 : aF 75 zM23.2.2.2.2.2.2.2 = some (75, (.bipush 81), 2, 0, 0) := by decide +kernel
theorem gx23_77 : aF 77 zM23.2.2.2.2.2.2.2 = some (77, (.invokevirtual 41), 3, 21, 0) := by decide +kernel
theorem gx23_80 : aF 80 zM23.2.2.2.2.2.2.2 = some (80, (.aload_n 0), 1, 0, 0) := by decide +kernel
theorem gx23_81 : aF 81 zM23.2.2.2.2.2.2.2 = some (81, (.iconst 2), 1, 0, 0) := by decide +kernel
theorem gx23_82 : aF 82 zM23.2.2.2.2.2.2.2 = some (82, (.iload_n 2), 1, 0, 0) := by decide +kernel
theorem gx23_83 : aF 83 zM23.2.2.2.2.2.2.2 = some (83, (.invokevirtual 32), 3, 23, 0) := by decide +kernel
theorem gx23_86 : aF 86 zM23.2.2.2.2.2.2.2 = some (86, (.aload_n 0), 1, 0, 0) := by decide +kernel
theorem gx23_87 : aF 87 zM23.2.2.2.2.2.2.2 = some (87, (.iconst 2), 1, 0, 0) := by decide +kernel
theorem gx23_88 : aF 88 zM23.2.2.2.2.2.2.2 = some (88, (.iload_n 2), 1, 0, 0) := by decide +kernel
theorem gx23_89 : aF 89 zM23.2.2.2.2.2.2.2 = some (89, (.invokevirtual 28), 3, 22, 0) := by decide +kernel
theorem gx23_92 : aF 92 zM23.2.2.2.2.2.2.2 = some (92, .iadd, 1, 0, 0) := by decide +kernel
theorem gx23_93 : aF 93 zM23.2.2.2.2.2.2.2 = some (93, .ireturn, 1, 0, 0) := by decide +kernel
theorem gx23_94 : aF 94 zM23.2.2.2.2.2.2.2 = some (94, (.aload_n 0), 1, 0, 0) := by decide +kernel
theorem gx23_95 : aF 95 zM23.2.2.2.2.2.2.2 = some (95, (.bipush 10), 2, 0, 0) := by decide +kernel
theorem gx23_97 : aF 97 zM23.2.2.2.2.2.2.2 = some (97, (.invokevirtual 41), 3, 21, 0) := by decide +kernel
theorem gx23_100 : aF 100 zM23.2.2.2.2.2.2.2 = some (100, (.aload_n 0), 1, 0, 0) := by decide +kernel
theorem gx23_101 : aF 101 zM23.2.2.2.2.2.2.2 = some (101, (.aload_n 0), 1, 0, 0) := by decide +kernel
theorem gx23_102 : aF 102 zM23.2.2.2.2.2.2.2 = some (102, (.getfield 22), 3, 1, 3) := by decide +kernel
theorem gx23_105 : aF 105 zM23.2.2.2.2.2.2.2 = some (105, (.iload_n 2), 1, 0, 0) := by decide +kernel
theorem gx23_106 : aF 106 zM23.2.2.2.2.2.2.2 = some (106, (.invokevirtual 28), 3, 22, 0) := by decide +kernel
theorem gx23_109 : aF 109 zM23.2.2.2.2.2.2.2 = some (109, (.iconst 1), 1, 0, 0) := by decide +kernel
theorem gx23_110 : aF 110 zM23.2.2.2.2.2.2.2 = some (110, .iadd, 1, 0, 0) := by decide +kernel
theorem gx23_111 : aF 111 zM23.2.2.2.2.2.2.2 = some (111, .ireturn, 1, 0, 0) := by decide +kernel
theorem gx25_0 : aF 0 zM25.2.2.2.2.2.2.2 = some (0, (.iload_n 1), 1, 0, 0) := by decide +kernel
theorem gx25_1 : aF 1 zM25.2.2.2.2.2.2.2 = some (1, (.lookupswitch 65 #[(3, 27), (6, 50)]), 27, 0, 0) := by decide +kernel
theorem gx25_28 : aF 28 zM25.2.2.2.2.2.2.2 = some (28, (.aload_n 0), 1, 0, 0) := by decide +kernel
theorem gx25_29 : aF 29 zM25.2.2.2.2.2.2.2 = some (29, (.bipush 41), 2, 0, 0) := by decide +kernel
theorem gx25_31 : aF 31 zM25.2.2.2.2.2.2.2 = some (31, (.invokevirtual 41), 3, 21, 0) := by decide +kernel
theorem gx25_34 : aF 34 zM25.2.2.2.2.2.2.2 = some (34, (.aload_n 0), 1, 0, 0) := by decide +kernel
theorem gx25_35 : aF 35 zM25.2.2.2.2.2.2.2 = some (35, (.iconst 1), 1, 0, 0) := by decide +kernel
theorem gx25_36 : aF 36 zM25.2.2.2.2.2.2.2 = some (36, (.iload_n 2), 1, 0, 0) := by decide +kernel
theorem gx25_37 : aF 37 zM25.2.2.2.2.2.2.2 = some (37, (.invokevirtual 38), 3, 25, 0) := by decide +kernel
theorem gx25_40 : aF 40 zM25.2.2.2.2.2.2.2 = some (40, (.aload_n 0), 1, 0, 0) := by decide +kernel
theorem gx25_41 : aF 41 zM25.2.2.2.2.2.2.2 = some (41, (.aload_n 0), 1, 0, 0) := by decide +kernel
theorem gx25_42 : aF 42 zM25.2.2.2.2.2.2.2 = some (42, (.getfield 22), 3, 1, 3) := by decide +kernel
theorem gx25_45 : aF 45 zM25.2.2.2.2.2.2.2 = some (45, (.iconst 1), 1, 0, 0) := by decide +kernel
theorem gx25_46 : aF 46 zM25.2.2.2.2.2.2.2 = some (46, (.invokevirtual 28), 3, 22, 0) := by decide +kernel
theorem gx25_49 : aF 49 zM25.2.2.2.2.2.2.2 = some (49, .iadd, 1, 0, 0) := by decide +kernel
theorem gx25_50 : aF 50 zM25.2.2.2.2.2.2.2 = some (50, .ireturn, 1, 0, 0) := by decide +kernel
theorem gx25_51 : aF 51 zM25.2.2.2.2.2.2.2 = some (51, (.aload_n 0), 1, 0, 0) := by decide +kernel
theorem gx25_52 : aF 52 zM25.2.2.2.2.2.2.2 = some (52, (.bipush 70), 2, 0, 0) := by decide +kernel
theorem gx25_54 : aF 54 zM25.2.2.2.2.2.2.2 = some (54, (.invokevirtual 41), 3, 21, 0) := by decide +kernel
theorem gx25_57 : aF 57 zM25.2.2.2.2.2.2.2 = some (57, (.aload_n 0), 1, 0, 0) := by decide +kernel
theorem gx25_58 : aF 58 zM25.2.2.2.2.2.2.2 = some (58, (.iconst 0), 1, 0, 0) := by decide +kernel
theorem gx25_59 : aF 59 zM25.2.2.2.2.2.2.2 = some (59, (.iload_n 2), 1, 0, 0) := by decide +kernel
theorem gx25_60 : aF 60 zM25.2.2.2.2.2.2.2 = some (60, (.iconst 1), 1, 0, 0) := by decide +kernel
theorem gx25_61 : aF 61 zM25.2.2.2.2.2.2.2 = some (61, .iadd, 1, 0, 0) := by decide +kernel
theorem gx25_62 : aF 62 zM25.2.2.2.2.2.2.2 = some (62, (.invokevirtual 38), 3, 25, 0) := by decide +kernel
theorem gx25_65 : aF 65 zM25.2.2.2.2.2.2.2 = some (65, .ireturn, 1, 0, 0) := by decide +kernel
theorem gx25_66 : aF 66 zM25.2.2.2.2.2.2.2 = some (66, (.aload_n 0), 1, 0, 0) := by decide +kernel
theorem gx25_67 : aF 67 zM25.2.2.2.2.2.2.2 = some (67, (.iconst 2), 1, 0, 0) := by decide +kernel
theorem gx25_68 : aF 68 zM25.2.2.2.2.2.2.2 = some (68, (.invokevirtual 41), 3, 21, 0) := by decide +kernel
theorem gx25_71 : aF 71 zM25.2.2.2.2.2.2.2 = some (71, (.aload_n 0), 1, 0, 0) := by decide +kernel
theorem gx25_72 : aF 72 zM25.2.2.2.2.2.2.2 = some (72, (.aload_n 0), 1, 0, 0) := by decide +kernel
theorem gx25_73 : aF 73 zM25.2.2.2.2.2.2.2 = some (73, (.getfield 22), 3, 1, 3) := by decide +kernel
theorem gx25_76 : aF 76 zM25.2.2.2.2.2.2.2 = some (76, (.aload_n 0), 1, 0, 0) := by decide +kernel
theorem gx25_77 : aF 77 zM25.2.2.2.2.2.2.2 = some (77, (.aload_n 0), 1, 0, 0) := by decide +kernel
theorem gx25_78 : aF 78 zM25.2.2.2.2.2.2.2 = some (78, (.getfield 22), 3, 1, 3) := by decide +kernel
theorem gx25_81 : aF 81 zM25.2.2.2.2.2.2.2 = some (81, (.iload_n 2), 1, 0, 0) := by decide +kernel
theorem gx25_82 : aF 82 zM25.2.2.2.2.2.2.2 = some (82, (.invokevirtual 32), 3, 23, 0) := by decide +kernel
theorem gx25_85 : aF 85 zM25.2.2.2.2.2.2.2 = some (85, (.invokevirtual 35), 3, 24, 0) := by decide +kernel
theorem gx25_88 : aF 88 zM25.2.2.2.2.2.2.2 = some (88, .ireturn, 1, 0, 0) := by decide +kernel
theorem gx20_0 : aF 0 zM20.2.2.2.2.2.2.2 = some (0, (.aload_n 0), 1, 0, 0) := by decide +kernel
theorem gx20_1 : aF 1 zM20.2.2.2.2.2.2.2 = some (1, (.iconst 0), 1, 0, 0) := by decide +kernel
theorem gx20_2 : aF 2 zM20.2.2.2.2.2.2.2 = some (2, (.putfield 15), 3, 1, 1) := by decide +kernel
theorem gx20_5 : aF 5 zM20.2.2.2.2.2.2.2 = some (5, (.aload_n 0), 1, 0, 0) := by decide +kernel
theorem gx20_6 : aF 6 zM20.2.2.2.2.2.2.2 = some (6, (.iload_n 1), 1, 0, 0) := by decide +kernel
theorem gx20_7 : aF 7 zM20.2.2.2.2.2.2.2 = some (7, (.putfield 19), 3, 1, 2) := by decide +kernel
theorem gx20_10 : aF 10 zM20.2.2.2.2.2.2.2 = some (10, (.aload_n 0), 1, 0, 0) := by decide +kernel
theorem gx20_11 : aF 11 zM20.2.2.2.2.2.2.2 = some (11, (.iload_n 2), 1, 0, 0) := by decide +kernel
theorem gx20_12 : aF 12 zM20.2.2.2.2.2.2.2 = some (12, (.putfield 22), 3, 1, 3) := by decide +kernel
theorem gx20_15 : aF 15 zM20.2.2.2.2.2.2.2 = some (15, (.aload_n 0), 1, 0, 0) := by decide +kernel
theorem gx20_16 : aF 16 zM20.2.2.2.2.2.2.2 = some (16, (.iload_n 3), 1, 0, 0) := by decide +kernel
theorem gx20_17 : aF 17 zM20.2.2.2.2.2.2.2 = some (17, (.putfield 25), 3, 1, 4) := by decide +kernel
theorem gx20_20 : aF 20 zM20.2.2.2.2.2.2.2 = some (20, (.iload 4), 2, 0, 0) := by decide +kernel
theorem gx20_22 : aF 22 zM20.2.2.2.2.2.2.2 = some (22, (.tableswitch 59 0 2 #[26, 37, 48]), 26, 0, 0) := by decide +kernel
theorem gx20_48 : aF 48 zM20.2.2.2.2.2.2.2 = some (48, (.aload_n 0), 1, 0, 0) := by decide +kernel
theorem gx20_49 : aF 49 zM20.2.2.2.2.2.2.2 = some (49, (.aload_n 0), 1, 0, 0) := by decide +kernel
theorem gx20_50 : aF 50 zM20.2.2.2.2.2.2.2 = some (50, (.getfield 22), 3, 1, 3) := by decide +kernel
theorem gx20_53 : aF 53 zM20.2.2.2.2.2.2.2 = some (53, (.iload 5), 2, 0, 0) := by decide +kernel
theorem gx20_55 : aF 55 zM20.2.2.2.2.2.2.2 = some (55, (.invokevirtual 28), 3, 22, 0) := by decide +kernel
theorem gx20_58 : aF 58 zM20.2.2.2.2.2.2.2 = some (58, .ireturn, 1, 0, 0) := by decide +kernel
theorem gx20_59 : aF 59 zM20.2.2.2.2.2.2.2 = some (59, (.aload_n 0), 1, 0, 0) := by decide +kernel
theorem gx20_60 : aF 60 zM20.2.2.2.2.2.2.2 = some (60, (.aload_n 0), 1, 0, 0) := by decide +kernel
theorem gx20_61 : aF 61 zM20.2.2.2.2.2.2.2 = some (61, (.getfield 22), 3, 1, 3) := by decide +kernel
theorem gx20_64 : aF 64 zM20.2.2.2.2.2.2.2 = some (64, (.iload 5), 2, 0, 0) := by decide +kernel
theorem gx20_66 : aF 66 zM20.2.2.2.2.2.2.2 = some (66, (.invokevirtual 32), 3, 23, 0) := by decide +kernel
theorem gx20_69 : aF 69 zM20.2.2.2.2.2.2.2 = some (69, .ireturn, 1, 0, 0) := by decide +kernel
theorem gx20_70 : aF 70 zM20.2.2.2.2.2.2.2 = some (70, (.aload_n 0), 1, 0, 0) := by decide +kernel
theorem gx20_71 : aF 71 zM20.2.2.2.2.2.2.2 = some (71, (.aload_n 0), 1, 0, 0) := by decide +kernel
theorem gx20_72 : aF 72 zM20.2.2.2.2.2.2.2 = some (72, (.getfield 22), 3, 1, 3) := by decide +kernel
theorem gx20_75 : aF 75 zM20.2.2.2.2.2.2.2 = some (75, (.iload 5), 2, 0, 0) := by decide +kernel
theorem gx20_77 : aF 77 zM20.2.2.2.2.2.2.2 = some (77, (.invokevirtual 35), 3, 24, 0) := by decide +kernel
theorem gx20_80 : aF 80 zM20.2.2.2.2.2.2.2 = some (80, .ireturn, 1, 0, 0) := by decide +kernel
theorem gx20_81 : aF 81 zM20.2.2.2.2.2.2.2 = some (81, (.aload_n 0), 1, 0, 0) := by decide +kernel
theorem gx20_82 : aF 82 zM20.2.2.2.2.2.2.2 = some (82, (.aload_n 0), 1, 0, 0) := by decide +kernel
theorem gx20_83 : aF 83 zM20.2.2.2.2.2.2.2 = some (83, (.getfield 22), 3, 1, 3) := by decide +kernel
theorem gx20_86 : aF 86 zM20.2.2.2.2.2.2.2 = some (86, (.iload 5), 2, 0, 0) := by decide +kernel
theorem gx20_88 : aF 88 zM20.2.2.2.2.2.2.2 = some (88, (.invokevirtual 38), 3, 25, 0) := by decide +kernel
theorem gx20_91 : aF 91 zM20.2.2.2.2.2.2.2 = some (91, .ireturn, 1, 0, 0) := by decide +kernel
theorem gx306_0 : aF 0 zM306.2.2.2.2.2.2.2 = some (0, (.aload_n 0), 1, 0, 0) := by decide +kernel
theorem gx306_1 : aF 1 zM306.2.2.2.2.2.2.2 = some (1, (.iconst 1), 1, 0, 0) := by decide +kernel
theorem gx306_2 : aF 2 zM306.2.2.2.2.2.2.2 = some (2, (.invokevirtual 559), 3, 305, 0) := by decide +kernel
theorem gx306_5 : aF 5 zM306.2.2.2.2.2.2.2 = some (5, (.iload_n 2), 1, 0, 0) := by decide +kernel
theorem gx306_6 : aF 6 zM306.2.2.2.2.2.2.2 = some (6, (.iconst 2), 1, 0, 0) := by decide +kernel
theorem gx306_7 : aF 7 zM306.2.2.2.2.2.2.2 = some (7, .imul, 1, 0, 0) := by decide +kernel
theorem gx306_8 : aF 8 zM306.2.2.2.2.2.2.2 = some (8, (.iload_n 1), 1, 0, 0) := by decide +kernel
theorem gx306_9 : aF 9 zM306.2.2.2.2.2.2.2 = some (9, .isub, 1, 0, 0) := by decide +kernel
theorem gx306_10 : aF 10 zM306.2.2.2.2.2.2.2 = some (10, .ireturn, 1, 0, 0) := by decide +kernel
theorem gx307_0 : aF 0 zM307.2.2.2.2.2.2.2 = some (0, (.aload_n 0), 1, 0, 0) := by decide +kernel
theorem gx307_1 : aF 1 zM307.2.2.2.2.2.2.2 = some (1, (.bipush 20), 2, 0, 0) := by decide +kernel
theorem gx307_3 : aF 3 zM307.2.2.2.2.2.2.2 = some (3, (.invokevirtual 559), 3, 305, 0) := by decide +kernel
theorem gx307_6 : aF 6 zM307.2.2.2.2.2.2.2 = some (6, (.aload_n 0), 1, 0, 0) := by decide +kernel
theorem gx307_7 : aF 7 zM307.2.2.2.2.2.2.2 = some (7, (.iload_n 1), 1, 0, 0) := by decide +kernel
theorem gx307_8 : aF 8 zM307.2.2.2.2.2.2.2 = some (8, (.iload_n 2), 1, 0, 0) := by decide +kernel
theorem gx307_9 : aF 9 zM307.2.2.2.2.2.2.2 = some (9, (.invokevirtual 562), 3, 306, 0) := by decide +kernel
theorem gx307_12 : aF 12 zM307.2.2.2.2.2.2.2 = some (12, (.aload_n 0), 1, 0, 0) := by decide +kernel
theorem gx307_13 : aF 13 zM307.2.2.2.2.2.2.2 = some (13, (.getfield 13), 3, 12, 4) := by decide +kernel
theorem gx307_16 : aF 16 zM307.2.2.2.2.2.2.2 = some (16, (.iload_n 1), 1, 0, 0) := by decide +kernel
theorem gx307_17 : aF 17 zM307.2.2.2.2.2.2.2 = some (17, .iaload, 1, 0, 0) := by decide +kernel
theorem gx307_18 : aF 18 zM307.2.2.2.2.2.2.2 = some (18, .iadd, 1, 0, 0) := by decide +kernel
theorem gx307_19 : aF 19 zM307.2.2.2.2.2.2.2 = some (19, .ireturn, 1, 0, 0) := by decide +kernel
theorem gx308_0 : aF 0 zM308.2.2.2.2.2.2.2 = some (0, (.aload_n 0), 1, 0, 0) := by decide +kernel
theorem gx308_1 : aF 1 zM308.2.2.2.2.2.2.2 = some (1, (.getfield 7), 3, 12, 3) := by decide +kernel
theorem gx308_4 : aF 4 zM308.2.2.2.2.2.2.2 = some (4, (.iload_n 1), 1, 0, 0) := by decide +kernel
theorem gx308_5 : aF 5 zM308.2.2.2.2.2.2.2 = some (5, .iaload, 1, 0, 0) := by decide +kernel
theorem gx308_6 : aF 6 zM308.2.2.2.2.2.2.2 = some (6, (.iconst 3), 1, 0, 0) := by decide +kernel
theorem gx308_7 : aF 7 zM308.2.2.2.2.2.2.2 = some (7, (.if_icmp .ne 17), 3, 24, 0) := by decide +kernel
theorem gx308_24 : aF 24 zM308.2.2.2.2.2.2.2 = some (24, (.aload_n 0), 1, 0, 0) := by decide +kernel
theorem gx308_25 : aF 25 zM308.2.2.2.2.2.2.2 = some (25, (.getfield 7), 3, 12, 3) := by decide +kernel
theorem gx308_28 : aF 28 zM308.2.2.2.2.2.2.2 = some (28, (.iload_n 1), 1, 0, 0) := by decide +kernel
theorem gx308_29 : aF 29 zM308.2.2.2.2.2.2.2 = some (29, .iaload, 1, 0, 0) := by decide +kernel
theorem gx308_30 : aF 30 zM308.2.2.2.2.2.2.2 = some (30, (.bipush 7), 2, 0, 0) := by decide +kernel
theorem gx308_32 : aF 32 zM308.2.2.2.2.2.2.2 = some (32, (.if_icmp .ne 18), 3, 50, 0) := by decide +kernel
theorem gx308_50 : aF 50 zM308.2.2.2.2.2.2.2 = some (50, (.aload_n 0), 1, 0, 0) := by decide +kernel
theorem gx308_51 : aF 51 zM308.2.2.2.2.2.2.2 = some (51, (.getfield 7), 3, 12, 3) := by decide +kernel
theorem gx308_54 : aF 54 zM308.2.2.2.2.2.2.2 = some (54, (.iload_n 1), 1, 0, 0) := by decide +kernel
theorem gx308_55 : aF 55 zM308.2.2.2.2.2.2.2 = some (55, .iaload, 1, 0, 0) := by decide +kernel
theorem gx308_56 : aF 56 zM308.2.2.2.2.2.2.2 = some (56, (.iconst 1), 1, 0, 0) := by decide +kernel
theorem gx308_57 : aF 57 zM308.2.2.2.2.2.2.2 = some (57, (.invokestatic 272), 3, 201, 0) := by decide +kernel
theorem gx308_60 : aF 60 zM308.2.2.2.2.2.2.2 = some (60, (.ifCond .eq 12), 3, 72, 0) := by decide +kernel
theorem gx308_72 : aF 72 zM308.2.2.2.2.2.2.2 = some (72, (.aload_n 0), 1, 0, 0) := by decide +kernel
theorem gx308_73 : aF 73 zM308.2.2.2.2.2.2.2 = some (73, (.iload_n 1), 1, 0, 0) := by decide +kernel
theorem gx308_74 : aF 74 zM308.2.2.2.2.2.2.2 = some (74, (.iload_n 2), 1, 0, 0) := by decide +kernel
theorem gx308_75 : aF 75 zM308.2.2.2.2.2.2.2 = some (75, (.invokevirtual 562), 3, 306, 0) := by decide +kernel
theorem gx308_78 : aF 78 zM308.2.2.2.2.2.2.2 = some (78, .ireturn, 1, 0, 0) := by decide +kernel
theorem gx308_63 : aF 63 zM308.2.2.2.2.2.2.2 = some (63, (.aload_n 0), 1, 0, 0) := by decide +kernel
theorem gx308_64 : aF 64 zM308.2.2.2.2.2.2.2 = some (64, (.iload_n 1), 1, 0, 0) := by decide +kernel
theorem gx308_65 : aF 65 zM308.2.2.2.2.2.2.2 = some (65, (.iload_n 2), 1, 0, 0) := by decide +kernel
theorem gx308_66 : aF 66 zM308.2.2.2.2.2.2.2 = some (66, (.invokevirtual 565), 3, 307, 0) := by decide +kernel
theorem gx308_69 : aF 69 zM308.2.2.2.2.2.2.2 = some (69, (.goto 9), 3, 78, 0) := by decide +kernel
theorem gx308_35 : aF 35 zM308.2.2.2.2.2.2.2 = some (35, (.aload_n 0), 1, 0, 0) := by decide +kernel
theorem gx308_36 : aF 36 zM308.2.2.2.2.2.2.2 = some (36, (.bipush 80), 2, 0, 0) := by decide +kernel
theorem gx308_38 : aF 38 zM308.2.2.2.2.2.2.2 = some (38, (.invokevirtual 559), 3, 305, 0) := by decide +kernel
theorem gx308_41 : aF 41 zM308.2.2.2.2.2.2.2 = some (41, (.aload_n 0), 1, 0, 0) := by decide +kernel
theorem gx308_42 : aF 42 zM308.2.2.2.2.2.2.2 = some (42, (.iload_n 1), 1, 0, 0) := by decide +kernel
theorem gx308_43 : aF 43 zM308.2.2.2.2.2.2.2 = some (43, (.iload_n 2), 1, 0, 0) := by decide +kernel
theorem gx308_44 : aF 44 zM308.2.2.2.2.2.2.2 = some (44, (.invokevirtual 565), 3, 307, 0) := by decide +kernel
theorem gx308_47 : aF 47 zM308.2.2.2.2.2.2.2 = some (47, (.iconst 3), 1, 0, 0) := by decide +kernel
theorem gx308_48 : aF 48 zM308.2.2.2.2.2.2.2 = some (48, .ixor, 1, 0, 0) := by decide +kernel
theorem gx308_49 : aF 49 zM308.2.2.2.2.2.2.2 = some (49, .ireturn, 1, 0, 0) := by decide +kernel
theorem gx308_10 : aF 10 zM308.2.2.2.2.2.2.2 = some (10, (.aload_n 0), 1, 0, 0) := by decide +kernel
theorem gx308_11 : aF 11 zM308.2.2.2.2.2.2.2 = some (11, (.bipush 40), 2, 0, 0) := by decide +kernel
theorem gx308_13 : aF 13 zM308.2.2.2.2.2.2.2 = some (13, (.invokevirtual 559), 3, 305, 0) := by decide +kernel
theorem gx308_16 : aF 16 zM308.2.2.2.2.2.2.2 = some (16, (.aload_n 0), 1, 0, 0) := by decide +kernel
theorem gx308_17 : aF 17 zM308.2.2.2.2.2.2.2 = some (17, (.iload_n 1), 1, 0, 0) := by decide +kernel
theorem gx308_18 : aF 18 zM308.2.2.2.2.2.2.2 = some (18, (.iload_n 2), 1, 0, 0) := by decide +kernel
theorem gx308_19 : aF 19 zM308.2.2.2.2.2.2.2 = some (19, (.invokevirtual 565), 3, 307, 0) := by decide +kernel
theorem gx308_22 : aF 22 zM308.2.2.2.2.2.2.2 = some (22, .ineg, 1, 0, 0) := by decide +kernel
theorem gx308_23 : aF 23 zM308.2.2.2.2.2.2.2 = some (23, .ireturn, 1, 0, 0) := by decide +kernel
theorem gx309_0 : aF 0 zM309.2.2.2.2.2.2.2 = some (0, (.aload_n 0), 1, 0, 0) := by decide +kernel
theorem gx309_1 : aF 1 zM309.2.2.2.2.2.2.2 = some (1, (.bipush 10), 2, 0, 0) := by decide +kernel
theorem gx309_3 : aF 3 zM309.2.2.2.2.2.2.2 = some (3, (.invokevirtual 559), 3, 305, 0) := by decide +kernel
theorem gx309_6 : aF 6 zM309.2.2.2.2.2.2.2 = some (6, (.aload_n 0), 1, 0, 0) := by decide +kernel
theorem gx309_7 : aF 7 zM309.2.2.2.2.2.2.2 = some (7, (.iload_n 1), 1, 0, 0) := by decide +kernel
theorem gx309_8 : aF 8 zM309.2.2.2.2.2.2.2 = some (8, (.iload_n 2), 1, 0, 0) := by decide +kernel
theorem gx309_9 : aF 9 zM309.2.2.2.2.2.2.2 = some (9, (.invokevirtual 568), 3, 308, 0) := by decide +kernel
theorem gx309_12 : aF 12 zM309.2.2.2.2.2.2.2 = some (12, (.iconst 1), 1, 0, 0) := by decide +kernel
theorem gx309_13 : aF 13 zM309.2.2.2.2.2.2.2 = some (13, .iadd, 1, 0, 0) := by decide +kernel
theorem gx309_14 : aF 14 zM309.2.2.2.2.2.2.2 = some (14, .ireturn, 1, 0, 0) := by decide +kernel
theorem gx310_0 : aF 0 zM310.2.2.2.2.2.2.2 = some (0, (.aload_n 0), 1, 0, 0) := by decide +kernel
theorem gx310_1 : aF 1 zM310.2.2.2.2.2.2.2 = some (1, (.bipush 30), 2, 0, 0) := by decide +kernel
theorem gx310_3 : aF 3 zM310.2.2.2.2.2.2.2 = some (3, (.invokevirtual 559), 3, 305, 0) := by decide +kernel
theorem gx310_6 : aF 6 zM310.2.2.2.2.2.2.2 = some (6, (.aload_n 0), 1, 0, 0) := by decide +kernel
theorem gx310_7 : aF 7 zM310.2.2.2.2.2.2.2 = some (7, (.iload_n 1), 1, 0, 0) := by decide +kernel
theorem gx310_8 : aF 8 zM310.2.2.2.2.2.2.2 = some (8, (.iload_n 2), 1, 0, 0) := by decide +kernel
theorem gx310_9 : aF 9 zM310.2.2.2.2.2.2.2 = some (9, (.invokevirtual 571), 3, 309, 0) := by decide +kernel
theorem gx310_12 : aF 12 zM310.2.2.2.2.2.2.2 = some (12, (.iconst 2), 1, 0, 0) := by decide +kernel
theorem gx310_13 : aF 13 zM310.2.2.2.2.2.2.2 = some (13, .imul, 1, 0, 0) := by decide +kernel
theorem gx310_14 : aF 14 zM310.2.2.2.2.2.2.2 = some (14, .ireturn, 1, 0, 0) := by decide +kernel
theorem gx312_0 : aF 0 zM312.2.2.2.2.2.2.2 = some (0, (.aload_n 0), 1, 0, 0) := by decide +kernel
theorem gx312_1 : aF 1 zM312.2.2.2.2.2.2.2 = some (1, (.bipush 11), 2, 0, 0) := by decide +kernel
theorem gx312_3 : aF 3 zM312.2.2.2.2.2.2.2 = some (3, (.invokevirtual 559), 3, 305, 0) := by decide +kernel
theorem gx312_6 : aF 6 zM312.2.2.2.2.2.2.2 = some (6, (.iload_n 2), 1, 0, 0) := by decide +kernel
theorem gx312_7 : aF 7 zM312.2.2.2.2.2.2.2 = some (7, (.iload_n 1), 1, 0, 0) := by decide +kernel
theorem gx312_8 : aF 8 zM312.2.2.2.2.2.2.2 = some (8, .ixor, 1, 0, 0) := by decide +kernel
theorem gx312_9 : aF 9 zM312.2.2.2.2.2.2.2 = some (9, .ireturn, 1, 0, 0) := by decide +kernel
theorem gx313_0 : aF 0 zM313.2.2.2.2.2.2.2 = some (0, (.aload_n 0), 1, 0, 0) := by decide +kernel
theorem gx313_1 : aF 1 zM313.2.2.2.2.2.2.2 = some (1, (.getfield 7), 3, 12, 3) := by decide +kernel
theorem gx313_4 : aF 4 zM313.2.2.2.2.2.2.2 = some (4, (.iload_n 1), 1, 0, 0) := by decide +kernel
theorem gx313_5 : aF 5 zM313.2.2.2.2.2.2.2 = some (5, .iaload, 1, 0, 0) := by decide +kernel
theorem gx313_6 : aF 6 zM313.2.2.2.2.2.2.2 = some (6, (.iconst 4), 1, 0, 0) := by decide +kernel
theorem gx313_7 : aF 7 zM313.2.2.2.2.2.2.2 = some (7, (.invokestatic 272), 3, 201, 0) := by decide +kernel
theorem gx313_10 : aF 10 zM313.2.2.2.2.2.2.2 = some (10, (.ifCond .eq 23), 3, 33, 0) := by decide +kernel
theorem gx313_33 : aF 33 zM313.2.2.2.2.2.2.2 = some (33, (.aload_n 0), 1, 0, 0) := by decide +kernel
theorem gx313_34 : aF 34 zM313.2.2.2.2.2.2.2 = some (34, (.iload_n 1), 1, 0, 0) := by decide +kernel
theorem gx313_35 : aF 35 zM313.2.2.2.2.2.2.2 = some (35, (.iload_n 2), 1, 0, 0) := by decide +kernel
theorem gx313_36 : aF 36 zM313.2.2.2.2.2.2.2 = some (36, (.invokevirtual 580), 3, 312, 0) := by decide +kernel
theorem gx313_39 : aF 39 zM313.2.2.2.2.2.2.2 = some (39, .ireturn, 1, 0, 0) := by decide +kernel
theorem gx313_13 : aF 13 zM313.2.2.2.2.2.2.2 = some (13, (.aload_n 0), 1, 0, 0) := by decide +kernel
theorem gx313_14 : aF 14 zM313.2.2.2.2.2.2.2 = some (14, (.bipush 50), 2, 0, 0) := by decide +kernel
theorem gx313_16 : aF 16 zM313.2.2.2.2.2.2.2 = some (16, (.invokevirtual 559), 3, 305, 0) := by decide +kernel
theorem gx313_19 : aF 19 zM313.2.2.2.2.2.2.2 = some (19, (.aload_n 0), 1, 0, 0) := by decide +kernel
theorem gx313_20 : aF 20 zM313.2.2.2.2.2.2.2 = some (20, (.iload_n 1), 1, 0, 0) := by decide +kernel
theorem gx313_21 : aF 21 zM313.2.2.2.2.2.2.2 = some (21, (.iload_n 2), 1, 0, 0) := by decide +kernel
theorem gx313_22 : aF 22 zM313.2.2.2.2.2.2.2 = some (22, (.invokevirtual 580), 3, 312, 0) := by decide +kernel
theorem gx313_25 : aF 25 zM313.2.2.2.2.2.2.2 = some (25, (.aload_n 0), 1, 0, 0) := by decide +kernel
theorem gx313_26 : aF 26 zM313.2.2.2.2.2.2.2 = some (26, (.getfield 25), 3, 12, 8) := by decide +kernel
theorem gx313_29 : aF 29 zM313.2.2.2.2.2.2.2 = some (29, (.iload_n 1), 1, 0, 0) := by decide +kernel
theorem gx313_30 : aF 30 zM313.2.2.2.2.2.2.2 = some (30, .iaload, 1, 0, 0) := by decide +kernel
theorem gx313_31 : aF 31 zM313.2.2.2.2.2.2.2 = some (31, .iadd, 1, 0, 0) := by decide +kernel
theorem gx313_32 : aF 32 zM313.2.2.2.2.2.2.2 = some (32, .ireturn, 1, 0, 0) := by decide +kernel
theorem gx311_0 : aF 0 zM311.2.2.2.2.2.2.2 = some (0, (.aload_n 0), 1, 0, 0) := by decide +kernel
theorem gx311_1 : aF 1 zM311.2.2.2.2.2.2.2 = some (1, (.getfield 7), 3, 12, 3) := by decide +kernel
theorem gx311_4 : aF 4 zM311.2.2.2.2.2.2.2 = some (4, (.iload_n 1), 1, 0, 0) := by decide +kernel
theorem gx311_5 : aF 5 zM311.2.2.2.2.2.2.2 = some (5, .iaload, 1, 0, 0) := by decide +kernel
theorem gx311_6 : aF 6 zM311.2.2.2.2.2.2.2 = some (6, (.bipush 7), 2, 0, 0) := by decide +kernel
theorem gx311_8 : aF 8 zM311.2.2.2.2.2.2.2 = some (8, (.if_icmp .ne 25), 3, 33, 0) := by decide +kernel
theorem gx311_33 : aF 33 zM311.2.2.2.2.2.2.2 = some (33, (.aload_n 0), 1, 0, 0) := by decide +kernel
theorem gx311_34 : aF 34 zM311.2.2.2.2.2.2.2 = some (34, (.getfield 7), 3, 12, 3) := by decide +kernel
theorem gx311_37 : aF 37 zM311.2.2.2.2.2.2.2 = some (37, (.iload_n 1), 1, 0, 0) := by decide +kernel
theorem gx311_38 : aF 38 zM311.2.2.2.2.2.2.2 = some (38, .iaload, 1, 0, 0) := by decide +kernel
theorem gx311_39 : aF 39 zM311.2.2.2.2.2.2.2 = some (39, (.iconst 2), 1, 0, 0) := by decide +kernel
theorem gx311_40 : aF 40 zM311.2.2.2.2.2.2.2 = some (40, (.if_icmp .ne 10), 3, 50, 0) := by decide +kernel
theorem gx311_50 : aF 50 zM311.2.2.2.2.2.2.2 = some (50, (.aload_n 0), 1, 0, 0) := by decide +kernel
theorem gx311_51 : aF 51 zM311.2.2.2.2.2.2.2 = some (51, (.getfield 7), 3, 12, 3) := by decide +kernel
theorem gx311_54 : aF 54 zM311.2.2.2.2.2.2.2 = some (54, (.iload_n 1), 1, 0, 0) := by decide +kernel
theorem gx311_55 : aF 55 zM311.2.2.2.2.2.2.2 = some (55, .iaload, 1, 0, 0) := by decide +kernel
theorem gx311_56 : aF 56 zM311.2.2.2.2.2.2.2 = some (56, (.iconst 5), 1, 0, 0) := by decide +kernel
theorem gx311_57 : aF 57 zM311.2.2.2.2.2.2.2 = some (57, (.if_icmp .ne 25), 3, 82, 0) := by decide +kernel
theorem gx311_82 : aF 82 zM311.2.2.2.2.2.2.2 = some (82, (.aload_n 0), 1, 0, 0) := by decide +kernel
theorem gx311_83 : aF 83 zM311.2.2.2.2.2.2.2 = some (83, (.iload_n 1), 1, 0, 0) := by decide +kernel
theorem gx311_84 : aF 84 zM311.2.2.2.2.2.2.2 = some (84, (.iload_n 2), 1, 0, 0) := by decide +kernel
theorem gx311_85 : aF 85 zM311.2.2.2.2.2.2.2 = some (85, (.invokevirtual 571), 3, 309, 0) := by decide +kernel
theorem gx311_88 : aF 88 zM311.2.2.2.2.2.2.2 = some (88, .ireturn, 1, 0, 0) := by decide +kernel
theorem gx311_60 : aF 60 zM311.2.2.2.2.2.2.2 = some (60, (.aload_n 0), 1, 0, 0) := by decide +kernel
theorem gx311_61 : aF 61 zM311.2.2.2.2.2.2.2 = some (61, (.bipush 60), 2, 0, 0) := by decide +kernel
theorem gx311_63 : aF 63 zM311.2.2.2.2.2.2.2 = some (63, (.invokevirtual 559), 3, 305, 0) := by decide +kernel
theorem gx311_66 : aF 66 zM311.2.2.2.2.2.2.2 = some (66, (.aload_n 0), 1, 0, 0) := by decide +kernel
theorem gx311_67 : aF 67 zM311.2.2.2.2.2.2.2 = some (67, (.iload_n 1), 1, 0, 0) := by decide +kernel
theorem gx311_68 : aF 68 zM311.2.2.2.2.2.2.2 = some (68, (.iload_n 2), 1, 0, 0) := by decide +kernel
theorem gx311_69 : aF 69 zM311.2.2.2.2.2.2.2 = some (69, (.invokevirtual 571), 3, 309, 0) := by decide +kernel
theorem gx311_72 : aF 72 zM311.2.2.2.2.2.2.2 = some (72, (.istore_n 3), 1, 0, 0) := by decide +kernel
theorem gx311_73 : aF 73 zM311.2.2.2.2.2.2.2 = some (73, (.iload_n 3), 1, 0, 0) := by decide +kernel
theorem gx311_74 : aF 74 zM311.2.2.2.2.2.2.2 = some (74, (.aload_n 0), 1, 0, 0) := by decide +kernel
theorem gx311_75 : aF 75 zM311.2.2.2.2.2.2.2 = some (75, (.iload_n 1), 1, 0, 0) := by decide +kernel
theorem gx311_76 : aF 76 zM311.2.2.2.2.2.2.2 = some (76, (.iconst 2), 1, 0, 0) := by decide +kernel
theorem gx311_77 : aF 77 zM311.2.2.2.2.2.2.2 = some (77, (.invokevirtual 577), 3, 313, 0) := by decide +kernel
theorem gx311_80 : aF 80 zM311.2.2.2.2.2.2.2 = some (80, .isub, 1, 0, 0) := by decide +kernel
theorem gx311_81 : aF 81 zM311.2.2.2.2.2.2.2 = some (81, .ireturn, 1, 0, 0) := by decide +kernel
theorem gx311_43 : aF 43 zM311.2.2.2.2.2.2.2 = some (43, (.aload_n 0), 1, 0, 0) := by decide +kernel
theorem gx311_44 : aF 44 zM311.2.2.2.2.2.2.2 = some (44, (.iload_n 1), 1, 0, 0) := by decide +kernel
theorem gx311_45 : aF 45 zM311.2.2.2.2.2.2.2 = some (45, (.iload_n 2), 1, 0, 0) := by decide +kernel
theorem gx311_46 : aF 46 zM311.2.2.2.2.2.2.2 = some (46, (.invokevirtual 574), 3, 310, 0) := by decide +kernel
theorem gx311_49 : aF 49 zM311.2.2.2.2.2.2.2 = some (49, .ireturn, 1, 0, 0) := by decide +kernel
theorem gx311_11 : aF 11 zM311.2.2.2.2.2.2.2 = some (11, (.aload_n 0), 1, 0, 0) := by decide +kernel
theorem gx311_12 : aF 12 zM311.2.2.2.2.2.2.2 = some (12, (.bipush 81), 2, 0, 0) := by decide +kernel
theorem gx311_14 : aF 14 zM311.2.2.2.2.2.2.2 = some (14, (.invokevirtual 559), 3, 305, 0) := by decide +kernel
theorem gx311_17 : aF 17 zM311.2.2.2.2.2.2.2 = some (17, (.aload_n 0), 1, 0, 0) := by decide +kernel
theorem gx311_18 : aF 18 zM311.2.2.2.2.2.2.2 = some (18, (.iload_n 1), 1, 0, 0) := by decide +kernel
theorem gx311_19 : aF 19 zM311.2.2.2.2.2.2.2 = some (19, (.iload_n 2), 1, 0, 0) := by decide +kernel
theorem gx311_20 : aF 20 zM311.2.2.2.2.2.2.2 = some (20, (.invokevirtual 574), 3, 310, 0) := by decide +kernel
theorem gx311_23 : aF 23 zM311.2.2.2.2.2.2.2 = some (23, (.istore_n 3), 1, 0, 0) := by decide +kernel
theorem gx311_24 : aF 24 zM311.2.2.2.2.2.2.2 = some (24, (.iload_n 3), 1, 0, 0) := by decide +kernel
theorem gx311_25 : aF 25 zM311.2.2.2.2.2.2.2 = some (25, (.aload_n 0), 1, 0, 0) := by decide +kernel
theorem gx311_26 : aF 26 zM311.2.2.2.2.2.2.2 = some (26, (.iload_n 1), 1, 0, 0) := by decide +kernel
theorem gx311_27 : aF 27 zM311.2.2.2.2.2.2.2 = some (27, (.iload_n 2), 1, 0, 0) := by decide +kernel
theorem gx311_28 : aF 28 zM311.2.2.2.2.2.2.2 = some (28, (.invokevirtual 565), 3, 307, 0) := by decide +kernel
theorem gx311_31 : aF 31 zM311.2.2.2.2.2.2.2 = some (31, .iadd, 1, 0, 0) := by decide +kernel
theorem gx311_32 : aF 32 zM311.2.2.2.2.2.2.2 = some (32, .ireturn, 1, 0, 0) := by decide +kernel
theorem gx314_0 : aF 0 zM314.2.2.2.2.2.2.2 = some (0, (.aload_n 0), 1, 0, 0) := by decide +kernel
theorem gx314_1 : aF 1 zM314.2.2.2.2.2.2.2 = some (1, (.iconst 2), 1, 0, 0) := by decide +kernel
theorem gx314_2 : aF 2 zM314.2.2.2.2.2.2.2 = some (2, (.invokevirtual 559), 3, 305, 0) := by decide +kernel
theorem gx314_5 : aF 5 zM314.2.2.2.2.2.2.2 = some (5, (.aload_n 0), 1, 0, 0) := by decide +kernel
theorem gx314_6 : aF 6 zM314.2.2.2.2.2.2.2 = some (6, (.iload_n 1), 1, 0, 0) := by decide +kernel
theorem gx314_7 : aF 7 zM314.2.2.2.2.2.2.2 = some (7, (.iload_n 2), 1, 0, 0) := by decide +kernel
theorem gx314_8 : aF 8 zM314.2.2.2.2.2.2.2 = some (8, (.invokevirtual 583), 3, 311, 0) := by decide +kernel
theorem gx314_11 : aF 11 zM314.2.2.2.2.2.2.2 = some (11, (.istore_n 3), 1, 0, 0) := by decide +kernel
theorem gx314_12 : aF 12 zM314.2.2.2.2.2.2.2 = some (12, (.aload_n 0), 1, 0, 0) := by decide +kernel
theorem gx314_13 : aF 13 zM314.2.2.2.2.2.2.2 = some (13, (.iload_n 1), 1, 0, 0) := by decide +kernel
theorem gx314_14 : aF 14 zM314.2.2.2.2.2.2.2 = some (14, (.iload_n 3), 1, 0, 0) := by decide +kernel
theorem gx314_15 : aF 15 zM314.2.2.2.2.2.2.2 = some (15, (.invokevirtual 577), 3, 313, 0) := by decide +kernel
theorem gx314_18 : aF 18 zM314.2.2.2.2.2.2.2 = some (18, .ireturn, 1, 0, 0) := by decide +kernel
theorem gx315_0 : aF 0 zM315.2.2.2.2.2.2.2 = some (0, (.aload_n 0), 1, 0, 0) := by decide +kernel
theorem gx315_1 : aF 1 zM315.2.2.2.2.2.2.2 = some (1, (.getfield 7), 3, 12, 3) := by decide +kernel
theorem gx315_4 : aF 4 zM315.2.2.2.2.2.2.2 = some (4, (.iload_n 1), 1, 0, 0) := by decide +kernel
theorem gx315_5 : aF 5 zM315.2.2.2.2.2.2.2 = some (5, .iaload, 1, 0, 0) := by decide +kernel
theorem gx315_6 : aF 6 zM315.2.2.2.2.2.2.2 = some (6, (.iconst 3), 1, 0, 0) := by decide +kernel
theorem gx315_7 : aF 7 zM315.2.2.2.2.2.2.2 = some (7, (.if_icmp .ne 25), 3, 32, 0) := by decide +kernel
theorem gx315_32 : aF 32 zM315.2.2.2.2.2.2.2 = some (32, (.aload_n 0), 1, 0, 0) := by decide +kernel
theorem gx315_33 : aF 33 zM315.2.2.2.2.2.2.2 = some (33, (.getfield 7), 3, 12, 3) := by decide +kernel
theorem gx315_36 : aF 36 zM315.2.2.2.2.2.2.2 = some (36, (.iload_n 1), 1, 0, 0) := by decide +kernel
theorem gx315_37 : aF 37 zM315.2.2.2.2.2.2.2 = some (37, .iaload, 1, 0, 0) := by decide +kernel
theorem gx315_38 : aF 38 zM315.2.2.2.2.2.2.2 = some (38, (.bipush 6), 2, 0, 0) := by decide +kernel
theorem gx315_40 : aF 40 zM315.2.2.2.2.2.2.2 = some (40, (.if_icmp .ne 18), 3, 58, 0) := by decide +kernel
theorem gx315_58 : aF 58 zM315.2.2.2.2.2.2.2 = some (58, (.aload_n 0), 1, 0, 0) := by decide +kernel
theorem gx315_59 : aF 59 zM315.2.2.2.2.2.2.2 = some (59, (.iload_n 1), 1, 0, 0) := by decide +kernel
theorem gx315_60 : aF 60 zM315.2.2.2.2.2.2.2 = some (60, (.iload_n 2), 1, 0, 0) := by decide +kernel
theorem gx315_61 : aF 61 zM315.2.2.2.2.2.2.2 = some (61, (.invokevirtual 586), 3, 314, 0) := by decide +kernel
theorem gx315_64 : aF 64 zM315.2.2.2.2.2.2.2 = some (64, .ireturn, 1, 0, 0) := by decide +kernel
theorem gx315_43 : aF 43 zM315.2.2.2.2.2.2.2 = some (43, (.aload_n 0), 1, 0, 0) := by decide +kernel
theorem gx315_44 : aF 44 zM315.2.2.2.2.2.2.2 = some (44, (.bipush 70), 2, 0, 0) := by decide +kernel
theorem gx315_46 : aF 46 zM315.2.2.2.2.2.2.2 = some (46, (.invokevirtual 559), 3, 305, 0) := by decide +kernel
theorem gx315_49 : aF 49 zM315.2.2.2.2.2.2.2 = some (49, (.aload_n 0), 1, 0, 0) := by decide +kernel
theorem gx315_50 : aF 50 zM315.2.2.2.2.2.2.2 = some (50, (.iload_n 1), 1, 0, 0) := by decide +kernel
theorem gx315_51 : aF 51 zM315.2.2.2.2.2.2.2 = some (51, (.iload_n 2), 1, 0, 0) := by decide +kernel
theorem gx315_52 : aF 52 zM315.2.2.2.2.2.2.2 = some (52, (.iconst 1), 1, 0, 0) := by decide +kernel
theorem gx315_53 : aF 53 zM315.2.2.2.2.2.2.2 = some (53, .iadd, 1, 0, 0) := by decide +kernel
theorem gx315_54 : aF 54 zM315.2.2.2.2.2.2.2 = some (54, (.invokevirtual 586), 3, 314, 0) := by decide +kernel
theorem gx315_57 : aF 57 zM315.2.2.2.2.2.2.2 = some (57, .ireturn, 1, 0, 0) := by decide +kernel
theorem gx315_10 : aF 10 zM315.2.2.2.2.2.2.2 = some (10, (.aload_n 0), 1, 0, 0) := by decide +kernel
theorem gx315_11 : aF 11 zM315.2.2.2.2.2.2.2 = some (11, (.bipush 41), 2, 0, 0) := by decide +kernel
theorem gx315_13 : aF 13 zM315.2.2.2.2.2.2.2 = some (13, (.invokevirtual 559), 3, 305, 0) := by decide +kernel
theorem gx315_16 : aF 16 zM315.2.2.2.2.2.2.2 = some (16, (.aload_n 0), 1, 0, 0) := by decide +kernel
theorem gx315_17 : aF 17 zM315.2.2.2.2.2.2.2 = some (17, (.iload_n 1), 1, 0, 0) := by decide +kernel
theorem gx315_18 : aF 18 zM315.2.2.2.2.2.2.2 = some (18, (.iload_n 2), 1, 0, 0) := by decide +kernel
theorem gx315_19 : aF 19 zM315.2.2.2.2.2.2.2 = some (19, (.invokevirtual 586), 3, 314, 0) := by decide +kernel
theorem gx315_22 : aF 22 zM315.2.2.2.2.2.2.2 = some (22, (.istore_n 3), 1, 0, 0) := by decide +kernel
theorem gx315_23 : aF 23 zM315.2.2.2.2.2.2.2 = some (23, (.iload_n 3), 1, 0, 0) := by decide +kernel
theorem gx315_24 : aF 24 zM315.2.2.2.2.2.2.2 = some (24, (.aload_n 0), 1, 0, 0) := by decide +kernel
theorem gx315_25 : aF 25 zM315.2.2.2.2.2.2.2 = some (25, (.iload_n 1), 1, 0, 0) := by decide +kernel
theorem gx315_26 : aF 26 zM315.2.2.2.2.2.2.2 = some (26, (.iconst 1), 1, 0, 0) := by decide +kernel
theorem gx315_27 : aF 27 zM315.2.2.2.2.2.2.2 = some (27, (.invokevirtual 568), 3, 308, 0) := by decide +kernel
theorem gx315_30 : aF 30 zM315.2.2.2.2.2.2.2 = some (30, .iadd, 1, 0, 0) := by decide +kernel
theorem gx315_31 : aF 31 zM315.2.2.2.2.2.2.2 = some (31, .ireturn, 1, 0, 0) := by decide +kernel
theorem gx186_0 : aF 0 zM186.2.2.2.2.2.2.2 = some (0, (.aload_n 0), 1, 0, 0) := by decide +kernel
theorem gx186_1 : aF 1 zM186.2.2.2.2.2.2.2 = some (1, (.getfield 12), 3, 11, 0) := by decide +kernel
theorem gx186_4 : aF 4 zM186.2.2.2.2.2.2.2 = some (4, (.iload_n 1), 1, 0, 0) := by decide +kernel
theorem gx186_5 : aF 5 zM186.2.2.2.2.2.2.2 = some (5, (.invokevirtual 132), 3, 74, 0) := by decide +kernel
theorem gx186_8 : aF 8 zM186.2.2.2.2.2.2.2 = some (8, (.ifCond .eq 12), 3, 20, 0) := by decide +kernel
theorem gx186_20 : aF 20 zM186.2.2.2.2.2.2.2 = some (20, (.aload_n 0), 1, 0, 0) := by decide +kernel
theorem gx186_21 : aF 21 zM186.2.2.2.2.2.2.2 = some (21, (.getfield 74), 3, 11, 8) := by decide +kernel
theorem gx186_24 : aF 24 zM186.2.2.2.2.2.2.2 = some (24, (.iconst 0), 1, 0, 0) := by decide +kernel
theorem gx186_25 : aF 25 zM186.2.2.2.2.2.2.2 = some (25, (.putfield 349), 3, 1, 1) := by decide +kernel
theorem gx186_28 : aF 28 zM186.2.2.2.2.2.2.2 = some (28, (.iconst 0), 1, 0, 0) := by decide +kernel
theorem gx186_29 : aF 29 zM186.2.2.2.2.2.2.2 = some (29, .ireturn, 1, 0, 0) := by decide +kernel
theorem gx186_11 : aF 11 zM186.2.2.2.2.2.2.2 = some (11, (.iload_n 2), 1, 0, 0) := by decide +kernel
theorem gx186_12 : aF 12 zM186.2.2.2.2.2.2.2 = some (12, (.iconst 0), 1, 0, 0) := by decide +kernel
theorem gx186_13 : aF 13 zM186.2.2.2.2.2.2.2 = some (13, (.iconst 3), 1, 0, 0) := by decide +kernel
theorem gx186_14 : aF 14 zM186.2.2.2.2.2.2.2 = some (14, (.invokestatic 85), 3, 137, 0) := by decide +kernel
theorem gx186_17 : aF 17 zM186.2.2.2.2.2.2.2 = some (17, (.ifCond .ne 13), 3, 30, 0) := by decide +kernel
theorem gx186_30 : aF 30 zM186.2.2.2.2.2.2.2 = some (30, (.aload_n 0), 1, 0, 0) := by decide +kernel
theorem gx186_31 : aF 31 zM186.2.2.2.2.2.2.2 = some (31, (.getfield 74), 3, 11, 8) := by decide +kernel
theorem gx186_34 : aF 34 zM186.2.2.2.2.2.2.2 = some (34, (.iload_n 1), 1, 0, 0) := by decide +kernel
theorem gx186_35 : aF 35 zM186.2.2.2.2.2.2.2 = some (35, (.aload_n 0), 1, 0, 0) := by decide +kernel
theorem gx186_36 : aF 36 zM186.2.2.2.2.2.2.2 = some (36, (.getfield 12), 3, 11, 0) := by decide +kernel
theorem gx186_39 : aF 39 zM186.2.2.2.2.2.2.2 = some (39, (.getfield 139), 3, 6, 7) := by decide +kernel
theorem gx186_42 : aF 42 zM186.2.2.2.2.2.2.2 = some (42, (.iload_n 1), 1, 0, 0) := by decide +kernel
theorem gx186_43 : aF 43 zM186.2.2.2.2.2.2.2 = some (43, .iaload, 1, 0, 0) := by decide +kernel
theorem gx186_44 : aF 44 zM186.2.2.2.2.2.2.2 = some (44, (.aload_n 0), 1, 0, 0) := by decide +kernel
theorem gx186_45 : aF 45 zM186.2.2.2.2.2.2.2 = some (45, (.getfield 12), 3, 11, 0) := by decide +kernel
theorem gx186_48 : aF 48 zM186.2.2.2.2.2.2.2 = some (48, (.getfield 143), 3, 6, 8) := by decide +kernel
theorem gx186_51 : aF 51 zM186.2.2.2.2.2.2.2 = some (51, (.iload_n 1), 1, 0, 0) := by decide +kernel
theorem gx186_52 : aF 52 zM186.2.2.2.2.2.2.2 = some (52, .iaload, 1, 0, 0) := by decide +kernel
theorem gx186_53 : aF 53 zM186.2.2.2.2.2.2.2 = some (53, (.iload_n 2), 1, 0, 0) := by decide +kernel
theorem gx186_54 : aF 54 zM186.2.2.2.2.2.2.2 = some (54, (.iload_n 3), 1, 0, 0) := by decide +kernel
theorem gx186_55 : aF 55 zM186.2.2.2.2.2.2.2 = some (55, (.invokevirtual 352), 3, 20, 0) := by decide +kernel
theorem gx186_58 : aF 58 zM186.2.2.2.2.2.2.2 = some (58, .ireturn, 1, 0, 0) := by decide +kernel
theorem gx316_0 : aF 0 zM316.2.2.2.2.2.2.2 = some (0, (.aload_n 0), 1, 0, 0) := by decide +kernel
theorem gx316_1 : aF 1 zM316.2.2.2.2.2.2.2 = some (1, (.iconst 0), 1, 0, 0) := by decide +kernel
theorem gx316_2 : aF 2 zM316.2.2.2.2.2.2.2 = some (2, (.putfield 556), 3, 12, 95) := by decide +kernel
theorem gx316_5 : aF 5 zM316.2.2.2.2.2.2.2 = some (5, (.aload_n 0), 1, 0, 0) := by decide +kernel
theorem gx316_6 : aF 6 zM316.2.2.2.2.2.2.2 = some (6, (.iload_n 1), 1, 0, 0) := by decide +kernel
theorem gx316_7 : aF 7 zM316.2.2.2.2.2.2.2 = some (7, (.invokevirtual 268), 3, 200, 0) := by decide +kernel
theorem gx316_10 : aF 10 zM316.2.2.2.2.2.2.2 = some (10, (.ifCond .eq 12), 3, 22, 0) := by decide +kernel
theorem gx316_22 : aF 22 zM316.2.2.2.2.2.2.2 = some (22, (.iconst 0), 1, 0, 0) := by decide +kernel
theorem gx316_23 : aF 23 zM316.2.2.2.2.2.2.2 = some (23, .ireturn, 1, 0, 0) := by decide +kernel
theorem gx316_13 : aF 13 zM316.2.2.2.2.2.2.2 = some (13, (.iload_n 2), 1, 0, 0) := by decide +kernel
theorem gx316_14 : aF 14 zM316.2.2.2.2.2.2.2 = some (14, (.iconst 0), 1, 0, 0) := by decide +kernel
theorem gx316_15 : aF 15 zM316.2.2.2.2.2.2.2 = some (15, (.iconst 3), 1, 0, 0) := by decide +kernel
theorem gx316_16 : aF 16 zM316.2.2.2.2.2.2.2 = some (16, (.invokestatic 258), 3, 196, 0) := by decide +kernel
theorem gx316_19 : aF 19 zM316.2.2.2.2.2.2.2 = some (19, (.ifCond .ne 5), 3, 24, 0) := by decide +kernel
theorem gx316_24 : aF 24 zM316.2.2.2.2.2.2.2 = some (24, (.iload_n 2), 1, 0, 0) := by decide +kernel
theorem gx316_25 : aF 25 zM316.2.2.2.2.2.2.2 = some (25, (.ifCond .ne 12), 3, 37, 0) := by decide +kernel
theorem gx316_37 : aF 37 zM316.2.2.2.2.2.2.2 = some (37, (.iload_n 2), 1, 0, 0) := by decide +kernel
theorem gx316_38 : aF 38 zM316.2.2.2.2.2.2.2 = some (38, (.iconst 1), 1, 0, 0) := by decide +kernel
theorem gx316_39 : aF 39 zM316.2.2.2.2.2.2.2 = some (39, (.if_icmp .ne 12), 3, 51, 0) := by decide +kernel
theorem gx316_51 : aF 51 zM316.2.2.2.2.2.2.2 = some (51, (.iload_n 2), 1, 0, 0) := by decide +kernel
theorem gx316_52 : aF 52 zM316.2.2.2.2.2.2.2 = some (52, (.iconst 2), 1, 0, 0) := by decide +kernel
theorem gx316_53 : aF 53 zM316.2.2.2.2.2.2.2 = some (53, (.if_icmp .ne 12), 3, 65, 0) := by decide +kernel
theorem gx316_65 : aF 65 zM316.2.2.2.2.2.2.2 = some (65, (.aload_n 0), 1, 0, 0) := by decide +kernel
theorem gx316_66 : aF 66 zM316.2.2.2.2.2.2.2 = some (66, (.iload_n 1), 1, 0, 0) := by decide +kernel
theorem gx316_67 : aF 67 zM316.2.2.2.2.2.2.2 = some (67, (.iload_n 3), 1, 0, 0) := by decide +kernel
theorem gx316_68 : aF 68 zM316.2.2.2.2.2.2.2 = some (68, (.invokevirtual 589), 3, 315, 0) := by decide +kernel
theorem gx316_71 : aF 71 zM316.2.2.2.2.2.2.2 = some (71, .ireturn, 1, 0, 0) := by decide +kernel
theorem gx316_56 : aF 56 zM316.2.2.2.2.2.2.2 = some (56, (.aload_n 0), 1, 0, 0) := by decide +kernel
theorem gx316_57 : aF 57 zM316.2.2.2.2.2.2.2 = some (57, (.iload_n 1), 1, 0, 0) := by decide +kernel
theorem gx316_58 : aF 58 zM316.2.2.2.2.2.2.2 = some (58, (.iload_n 3), 1, 0, 0) := by decide +kernel
theorem gx316_59 : aF 59 zM316.2.2.2.2.2.2.2 = some (59, (.invokevirtual 577), 3, 313, 0) := by decide +kernel
theorem gx316_62 : aF 62 zM316.2.2.2.2.2.2.2 = some (62, (.goto 9), 3, 71, 0) := by decide +kernel
theorem gx316_42 : aF 42 zM316.2.2.2.2.2.2.2 = some (42, (.aload_n 0), 1, 0, 0) := by decide +kernel
theorem gx316_43 : aF 43 zM316.2.2.2.2.2.2.2 = some (43, (.iload_n 1), 1, 0, 0) := by decide +kernel
theorem gx316_44 : aF 44 zM316.2.2.2.2.2.2.2 = some (44, (.iload_n 3), 1, 0, 0) := by decide +kernel
theorem gx316_45 : aF 45 zM316.2.2.2.2.2.2.2 = some (45, (.invokevirtual 583), 3, 311, 0) := by decide +kernel
theorem gx316_48 : aF 48 zM316.2.2.2.2.2.2.2 = some (48, (.goto 23), 3, 71, 0) := by decide +kernel
theorem gx316_28 : aF 28 zM316.2.2.2.2.2.2.2 = some (28, (.aload_n 0), 1, 0, 0) := by decide +kernel
theorem gx316_29 : aF 29 zM316.2.2.2.2.2.2.2 = some (29, (.iload_n 1), 1, 0, 0) := by decide +kernel
theorem gx316_30 : aF 30 zM316.2.2.2.2.2.2.2 = some (30, (.iload_n 3), 1, 0, 0) := by decide +kernel
theorem gx316_31 : aF 31 zM316.2.2.2.2.2.2.2 = some (31, (.invokevirtual 568), 3, 308, 0) := by decide +kernel
theorem gx316_34 : aF 34 zM316.2.2.2.2.2.2.2 = some (34, (.goto 37), 3, 71, 0) := by decide +kernel
theorem gx187_0 : aF 0 zM187.2.2.2.2.2.2.2 = some (0, (.iload_n 1), 1, 0, 0) := by decide +kernel
theorem gx187_1 : aF 1 zM187.2.2.2.2.2.2.2 = some (1, (.iconst 0), 1, 0, 0) := by decide +kernel
theorem gx187_2 : aF 2 zM187.2.2.2.2.2.2.2 = some (2, (.aload_n 0), 1, 0, 0) := by decide +kernel
theorem gx187_3 : aF 3 zM187.2.2.2.2.2.2.2 = some (3, (.getfield 74), 3, 11, 8) := by decide +kernel
theorem gx187_6 : aF 6 zM187.2.2.2.2.2.2.2 = some (6, (.getfield 349), 3, 1, 1) := by decide +kernel
theorem gx187_9 : aF 9 zM187.2.2.2.2.2.2.2 = some (9, (.bipush 24), 2, 0, 0) := by decide +kernel
theorem gx187_11 : aF 11 zM187.2.2.2.2.2.2.2 = some (11, (.invokestatic 356), 3, 1011, 0) := by decide +kernel
theorem gx187_14 : aF 14 zM187.2.2.2.2.2.2.2 = some (14, (.iconst 1), 1, 0, 0) := by decide +kernel
theorem gx187_15 : aF 15 zM187.2.2.2.2.2.2.2 = some (15, .isub, 1, 0, 0) := by decide +kernel
theorem gx187_16 : aF 16 zM187.2.2.2.2.2.2.2 = some (16, (.invokestatic 85), 3, 137, 0) := by decide +kernel
theorem gx187_19 : aF 19 zM187.2.2.2.2.2.2.2 = some (19, (.ifCond .eq 15), 3, 34, 0) := by decide +kernel
theorem gx187_34 : aF 34 zM187.2.2.2.2.2.2.2 = some (34, (.iconst (-1)), 1, 0, 0) := by decide +kernel
theorem gx187_35 : aF 35 zM187.2.2.2.2.2.2.2 = some (35, .ireturn, 1, 0, 0) := by decide +kernel
theorem gx187_22 : aF 22 zM187.2.2.2.2.2.2.2 = some (22, (.aload_n 0), 1, 0, 0) := by decide +kernel
theorem gx187_23 : aF 23 zM187.2.2.2.2.2.2.2 = some (23, (.getfield 74), 3, 11, 8) := by decide +kernel
theorem gx187_26 : aF 26 zM187.2.2.2.2.2.2.2 = some (26, (.getfield 361), 3, 1, 0) := by decide +kernel
theorem gx187_29 : aF 29 zM187.2.2.2.2.2.2.2 = some (29, (.iload_n 1), 1, 0, 0) := by decide +kernel
theorem gx187_30 : aF 30 zM187.2.2.2.2.2.2.2 = some (30, .iaload, 1, 0, 0) := by decide +kernel
theorem gx187_31 : aF 31 zM187.2.2.2.2.2.2.2 = some (31, (.goto 4), 3, 35, 0) := by decide +kernel
theorem gx317_0 : aF 0 zM317.2.2.2.2.2.2.2 = some (0, (.iload_n 1), 1, 0, 0) := by decide +kernel
theorem gx317_1 : aF 1 zM317.2.2.2.2.2.2.2 = some (1, (.ifCond .lt 26), 3, 27, 0) := by decide +kernel
theorem gx317_27 : aF 27 zM317.2.2.2.2.2.2.2 = some (27, (.iconst (-1)), 1, 0, 0) := by decide +kernel
theorem gx317_28 : aF 28 zM317.2.2.2.2.2.2.2 = some (28, .ireturn, 1, 0, 0) := by decide +kernel
theorem gx317_4 : aF 4 zM317.2.2.2.2.2.2.2 = some (4, (.iload_n 1), 1, 0, 0) := by decide +kernel
theorem gx317_5 : aF 5 zM317.2.2.2.2.2.2.2 = some (5, (.aload_n 0), 1, 0, 0) := by decide +kernel
theorem gx317_6 : aF 6 zM317.2.2.2.2.2.2.2 = some (6, (.getfield 556), 3, 12, 95) := by decide +kernel
theorem gx317_9 : aF 9 zM317.2.2.2.2.2.2.2 = some (9, (.if_icmp .ge 18), 3, 27, 0) := by decide +kernel
theorem gx317_12 : aF 12 zM317.2.2.2.2.2.2.2 = some (12, (.iload_n 1), 1, 0, 0) := by decide +kernel
theorem gx317_13 : aF 13 zM317.2.2.2.2.2.2.2 = some (13, (.bipush 24), 2, 0, 0) := by decide +kernel
theorem gx317_15 : aF 15 zM317.2.2.2.2.2.2.2 = some (15, (.if_icmp .ge 12), 3, 27, 0) := by decide +kernel
theorem gx317_18 : aF 18 zM317.2.2.2.2.2.2.2 = some (18, (.aload_n 0), 1, 0, 0) := by decide +kernel
theorem gx317_19 : aF 19 zM317.2.2.2.2.2.2.2 = some (19, (.getfield 240), 3, 12, 96) := by decide +kernel
theorem gx317_22 : aF 22 zM317.2.2.2.2.2.2.2 = some (22, (.iload_n 1), 1, 0, 0) := by decide +kernel
theorem gx317_23 : aF 23 zM317.2.2.2.2.2.2.2 = some (23, .iaload, 1, 0, 0) := by decide +kernel
theorem gx317_24 : aF 24 zM317.2.2.2.2.2.2.2 = some (24, (.goto 4), 3, 28, 0) := by decide +kernel
theorem d21_0 {n : Nat} {X : aX} {h : aH} {P : aH → Prop} {x1 : Int32} {a1 : Int} (S : wS h) (z1 : x1.toInt = a1) (H : ((24 ≤ vw h 66 1 → ∀ h_7 : aH, wS h_7 → vw h_7 = up (vw h) 66 1 (w32 ((vw h 66 1) + 1)) → P h_7) ∧ (vw h 66 1 < 24 → (0 ≤ vw h 66 1 → vw h 66 1 < 24 → ∀ h_14 : aH, wS h_14 → vw h_14 = up (up (vw h) 67 (vw h 66 1) a1) 66 1 (w32 ((vw h 66 1) + 1)) → P h_14)))) : Pt (n + 1) X zM21 0 [some (.ref 66), some (.int x1)] [] h (qN P) := by
  refine pt_1 (fun n d => r_aloadn gx21_0 rfl) ?_
  refine pt_d (pt_getI (B := 1) gx21_1 S (fun v1 h1 => ?_))
  refine pt_d (pt_bipush gx21_4 (fun v2 h2 => ?_))
  refine pt_d (pt_icmp_ge gx21_6 h1 h2 (fun e3 => ?_) (fun e3 => ?_))
  · have H := H.1 e3
    refine pt_d (pt_1 (fun n d => r_aloadn gx21_19 rfl) ?_)
    refine pt_d (pt_1 (fun n d => r_dup gx21_20 rfl) ?_)
    refine pt_d (pt_getI (B := 1) gx21_21 S (fun v4 h4 => ?_))
    refine pt_d (pt_iconst gx21_24 (fun v5 h5 => ?_))
    refine pt_d (pt_iadd gx21_25 h4 h5 (fun v6 h6 => ?_))
    refine pt_d (pt_putI (B := 1) gx21_26 S h6 (fun h_7 S7 e7 => ?_))
    have H := H h_7 S7 (by rw [e7])
    exact pt_d (pt_vret gx21_29 ⟨rfl, H⟩)
  · have H := H.2 e3
    refine pt_d (pt_1 (fun n d => r_aloadn gx21_9 rfl) ?_)
    refine pt_d (pt_getR gx21_10 S tr_66_0 ?_)
    refine pt_d (pt_1 (fun n d => r_aloadn gx21_13 rfl) ?_)
    refine pt_d (pt_getI (B := 1) gx21_14 S (fun v9 h9 => ?_))
    refine pt_d (pt_1 (fun n d => r_iloadn gx21_17 rfl) ?_)
    refine pt_d (pt_iast (N' := 24) gx21_18 S tl_67 h9 z1 (fun h_10 S10 p10 q10 e10 => ?_))
    have H := H p10 q10
    refine pt_d (pt_1 (fun n d => r_aloadn gx21_19 rfl) ?_)
    refine pt_d (pt_1 (fun n d => r_dup gx21_20 rfl) ?_)
    refine pt_d (pt_getI (B := 1) gx21_21 S10 (fun v11 h11 => ?_))
    have h11 : v11.toInt = vw h 66 1 := by rw [h11, e10, up_c (by decide)]
    refine pt_d (pt_iconst gx21_24 (fun v12 h12 => ?_))
    refine pt_d (pt_iadd gx21_25 h11 h12 (fun v13 h13 => ?_))
    refine pt_d (pt_putI (B := 1) gx21_26 S10 h13 (fun h_14 S14 e14 => ?_))
    have H := H h_14 S14 (by rw [e14, e10])
    exact pt_d (pt_vret gx21_29 ⟨rfl, H⟩)
theorem d305_0 {n : Nat} {X : aX} {h : aH} {P : aH → Prop} {x1 : Int32} {a1 : Int} (S : wS h) (z1 : x1.toInt = a1) (H : ((24 ≤ vw h 72 95 → ∀ h_7 : aH, wS h_7 → vw h_7 = up (vw h) 72 95 (w32 ((vw h 72 95) + 1)) → P h_7) ∧ (vw h 72 95 < 24 → (0 ≤ vw h 72 95 → vw h 72 95 < 24 → ∀ h_14 : aH, wS h_14 → vw h_14 = up (up (vw h) 141 (vw h 72 95) a1) 72 95 (w32 ((vw h 72 95) + 1)) → P h_14)))) : Pt (n + 1) X zM305 0 [some (.ref 72), some (.int x1)] [] h (qN P) := by
  refine pt_1 (fun n d => r_aloadn gx305_0 rfl) ?_
  refine pt_d (pt_getI (B := 95) gx305_1 S (fun v1 h1 => ?_))
  refine pt_d (pt_bipush gx305_4 (fun v2 h2 => ?_))
  refine pt_d (pt_icmp_ge gx305_6 h1 h2 (fun e3 => ?_) (fun e3 => ?_))
  · have H := H.1 e3
    refine pt_d (pt_1 (fun n d => r_aloadn gx305_19 rfl) ?_)
    refine pt_d (pt_1 (fun n d => r_dup gx305_20 rfl) ?_)
    refine pt_d (pt_getI (B := 95) gx305_21 S (fun v4 h4 => ?_))
    refine pt_d (pt_iconst gx305_24 (fun v5 h5 => ?_))
    refine pt_d (pt_iadd gx305_25 h4 h5 (fun v6 h6 => ?_))
    refine pt_d (pt_putI (B := 95) gx305_26 S h6 (fun h_7 S7 e7 => ?_))
    have H := H h_7 S7 (by rw [e7])
    exact pt_d (pt_vret gx305_29 ⟨rfl, H⟩)
  · have H := H.2 e3
    refine pt_d (pt_1 (fun n d => r_aloadn gx305_9 rfl) ?_)
    refine pt_d (pt_getR gx305_10 S tr_72_96 ?_)
    refine pt_d (pt_1 (fun n d => r_aloadn gx305_13 rfl) ?_)
    refine pt_d (pt_getI (B := 95) gx305_14 S (fun v9 h9 => ?_))
    refine pt_d (pt_1 (fun n d => r_iloadn gx305_17 rfl) ?_)
    refine pt_d (pt_iast (N' := 24) gx305_18 S tl_141 h9 z1 (fun h_10 S10 p10 q10 e10 => ?_))
    have H := H p10 q10
    refine pt_d (pt_1 (fun n d => r_aloadn gx305_19 rfl) ?_)
    refine pt_d (pt_1 (fun n d => r_dup gx305_20 rfl) ?_)
    refine pt_d (pt_getI (B := 95) gx305_21 S10 (fun v11 h11 => ?_))
    have h11 : v11.toInt = vw h 72 95 := by rw [h11, e10, up_c (by decide)]
    refine pt_d (pt_iconst gx305_24 (fun v12 h12 => ?_))
    refine pt_d (pt_iadd gx305_25 h11 h12 (fun v13 h13 => ?_))
    refine pt_d (pt_putI (B := 95) gx305_26 S10 h13 (fun h_14 S14 e14 => ?_))
    have H := H h_14 S14 (by rw [e14, e10])
    exact pt_d (pt_vret gx305_29 ⟨rfl, H⟩)
def bg (V : vS) (v : Int) : vS := if V 66 1 < 24 then up (up V 67 (V 66 1) v) 66 1 (w32 (V 66 1 + 1)) else up V 66 1 (w32 (V 66 1 + 1))
def bgs (V : vS) : List Int → vS
  | [] => V
  | v :: r => bgs (bg V v) r
theorem bgs_a (V : vS) : ∀ (l r : List Int), bgs (bgs V l) r = bgs V (l ++ r)
  | [], r => rfl
  | v :: l, r => bgs_a (bg V v) l r
theorem bg_o {V : vS} {v : Int} {c : Nat} {j : Int} (h : c ≠ 67) (h2 : c ≠ 66 ∨ j ≠ 1) : bg V v c j = V c j := by
  unfold bg
  split
  · rcases h2 with h2 | h2
    · rw [up_c h2, up_c h]
    · rw [up_j h2, up_c h]
  · rcases h2 with h2 | h2
    · rw [up_c h2]
    · rw [up_j h2]
theorem bgs_o {c : Nat} {j : Int} (h : c ≠ 67) (h2 : c ≠ 66 ∨ j ≠ 1) : ∀ (l : List Int) (V : vS), bgs V l c j = V c j
  | [], V => rfl
  | v :: l, V => (bgs_o h h2 l (bg V v)).trans (bg_o h h2)
def mbg (V : vS) (v : Int) : vS := if V 72 95 < 24 then up (up V 141 (V 72 95) v) 72 95 (w32 (V 72 95 + 1)) else up V 72 95 (w32 (V 72 95 + 1))
def mbgs (V : vS) : List Int → vS
  | [] => V
  | v :: r => mbgs (mbg V v) r
theorem mbgs_a (V : vS) : ∀ (l r : List Int), mbgs (mbgs V l) r = mbgs V (l ++ r)
  | [], r => rfl
  | v :: l, r => mbgs_a (mbg V v) l r
theorem mbg_o {V : vS} {v : Int} {c : Nat} {j : Int} (h : c ≠ 141) (h2 : c ≠ 72 ∨ j ≠ 95) : mbg V v c j = V c j := by
  unfold mbg
  split
  · rcases h2 with h2 | h2
    · rw [up_c h2, up_c h]
    · rw [up_j h2, up_c h]
  · rcases h2 with h2 | h2
    · rw [up_c h2]
    · rw [up_j h2]
theorem mbgs_o {c : Nat} {j : Int} (h : c ≠ 141) (h2 : c ≠ 72 ∨ j ≠ 95) : ∀ (l : List Int) (V : vS), mbgs V l c j = V c j
  | [], V => rfl
  | v :: l, V => (mbgs_o h h2 l (mbg V v)).trans (mbg_o h h2)

theorem c_21 {n : Nat} {X : aX} {h : aH} {x1 : Int32} {a1 : Int} (S : wS h) (z1 : x1.toInt = a1) : Pt n X zM21 0 [some (.ref 66), some (.int x1)] [] h (qN (fun h' => wS h' ∧ vw h' = bg (vw h) a1)) := by
  refine pt_d (d21_0 S z1 ⟨fun e g S2 eg => ⟨S2, ?_⟩, fun e p q g S2 eg => ⟨S2, ?_⟩⟩)
  · rw [eg]; unfold bg; rw [if_neg (by omega)]
  · rw [eg]; unfold bg; rw [if_pos (by omega)]
theorem c_305 {n : Nat} {X : aX} {h : aH} {x1 : Int32} {a1 : Int} (S : wS h) (z1 : x1.toInt = a1) : Pt n X zM305 0 [some (.ref 72), some (.int x1)] [] h (qN (fun h' => wS h' ∧ vw h' = mbg (vw h) a1)) := by
  refine pt_d (d305_0 S z1 ⟨fun e g S2 eg => ⟨S2, ?_⟩, fun e p q g S2 eg => ⟨S2, ?_⟩⟩)
  · rw [eg]; unfold mbg; rw [if_neg (by omega)]
  · rw [eg]; unfold mbg; rw [if_pos (by omega)]
theorem bg_m {V : vS} {v : Int} : bg V v 66 4 = V 66 4 := bg_o (by decide) (Or.inr (by decide))
theorem bg_b {V : vS} {v : Int} : bg V v 66 2 = V 66 2 := bg_o (by decide) (Or.inr (by decide))
theorem bg_k {V : vS} {v : Int} : bg V v 66 3 = V 66 3 := bg_o (by decide) (Or.inr (by decide))
theorem bgs_m {V : vS} {l : List Int} : bgs V l 66 4 = V 66 4 := bgs_o (by decide) (Or.inr (by decide)) l V
theorem bgs_b {V : vS} {l : List Int} : bgs V l 66 2 = V 66 2 := bgs_o (by decide) (Or.inr (by decide)) l V
theorem bgs_k {V : vS} {l : List Int} : bgs V l 66 3 = V 66 3 := bgs_o (by decide) (Or.inr (by decide)) l V
theorem mbg_x {V : vS} {v j : Int} {c : Nat} (h : c ≠ 141) (h2 : c ≠ 72) : mbg V v c j = V c j := mbg_o h (Or.inl h2)
theorem mbgs_x {V : vS} {l : List Int} {j : Int} {c : Nat} (h : c ≠ 141) (h2 : c ≠ 72) : mbgs V l c j = V c j := mbgs_o h (Or.inl h2) l V
theorem mbg_73 {V : vS} {v j : Int} : mbg V v 73 j = V 73 j := mbg_x (by decide) (by decide)
theorem mbg_74 {V : vS} {v j : Int} : mbg V v 74 j = V 74 j := mbg_x (by decide) (by decide)
theorem mbg_78 {V : vS} {v j : Int} : mbg V v 78 j = V 78 j := mbg_x (by decide) (by decide)
theorem mbgs_73 {V : vS} {l : List Int} {j : Int} : mbgs V l 73 j = V 73 j := mbgs_x (by decide) (by decide)
theorem mbgs_74 {V : vS} {l : List Int} {j : Int} : mbgs V l 74 j = V 74 j := mbgs_x (by decide) (by decide)
theorem mbgs_78 {V : vS} {l : List Int} {j : Int} : mbgs V l 78 j = V 78 j := mbgs_x (by decide) (by decide)
-- what an act answers, and its trace, by kind, measure, number
def yTr (f : Int) : List Int := if f = 1 ∨ f = 2 then [20, 1] else if f = 3 then [40, 20, 1] else if f = 7 then [80, 20, 1] else [1]
def yNr (f m b x : Int) : Int := if f = 1 ∨ f = 2 then w32 (w32 (w32 (x * 2) - b) + m) else if f = 3 then w32 (-(w32 (w32 (w32 (x * 2) - b) + m))) else if f = 7 then bXor (w32 (w32 (w32 (x * 2) - b) + m)) 3 else w32 (w32 (x * 2) - b)
def hTr (f : Int) : List Int := if f = 4 ∨ f = 5 then [50, 11] else [11]
def hNr (f m b x : Int) : Int := if f = 4 ∨ f = 5 then w32 (bXor x b + m) else bXor x b
def cTr (k f : Int) : List Int := if f = 2 then 30 :: 10 :: yTr k else if f = 5 then 60 :: ((10 :: yTr k) ++ hTr k) else if f = 7 then 81 :: ((30 :: 10 :: yTr k) ++ yTr 2) else 10 :: yTr k
def cNr (k f m b x : Int) : Int := if f = 2 then w32 (w32 (yNr k m b x + 1) * 2) else if f = 5 then w32 (w32 (yNr k m b x + 1) - hNr k m b 2) else if f = 7 then w32 (w32 (w32 (yNr k m b x + 1) * 2) + yNr 2 m b x) else w32 (yNr k m b x + 1)
def tTr (k f : Int) : List Int := if f = 3 then 41 :: ((2 :: (cTr k k ++ hTr k)) ++ yTr k) else if f = 6 then 70 :: 2 :: (cTr k k ++ hTr k) else 2 :: (cTr k k ++ hTr k)
def tNr (k f m b x : Int) : Int := if f = 3 then w32 (hNr k m b (cNr k k m b x) + yNr k m b 1) else if f = 6 then hNr k m b (cNr k k m b (w32 (x + 1))) else hNr k m b (cNr k k m b x)
theorem yTr_d {f : Int} (h : f ≠ 1 ∧ f ≠ 2 ∧ f ≠ 3 ∧ f ≠ 7) : yTr f = [1] := by unfold yTr; rw [if_neg (by omega), if_neg (by omega), if_neg (by omega)]
theorem yNr_d {f m b x : Int} (h : f ≠ 1 ∧ f ≠ 2 ∧ f ≠ 3 ∧ f ≠ 7) : yNr f m b x = w32 (w32 (x * 2) - b) := by unfold yNr; rw [if_neg (by omega), if_neg (by omega), if_neg (by omega)]
theorem hTr_d {f : Int} (h : f ≠ 4 ∧ f ≠ 5) : hTr f = [11] := by unfold hTr; rw [if_neg (by omega)]
theorem hNr_d {f m b x : Int} (h : f ≠ 4 ∧ f ≠ 5) : hNr f m b x = bXor x b := by unfold hNr; rw [if_neg (by omega)]
theorem cTr_d {k f : Int} (h : f ≠ 2 ∧ f ≠ 5 ∧ f ≠ 7) : cTr k f = 10 :: yTr k := by unfold cTr; rw [if_neg (by omega), if_neg (by omega), if_neg (by omega)]
theorem cNr_d {k f m b x : Int} (h : f ≠ 2 ∧ f ≠ 5 ∧ f ≠ 7) : cNr k f m b x = w32 (yNr k m b x + 1) := by unfold cNr; rw [if_neg (by omega), if_neg (by omega), if_neg (by omega)]
theorem tTr_d {k f : Int} (h : f ≠ 3 ∧ f ≠ 6) : tTr k f = 2 :: (cTr k k ++ hTr k) := by unfold tTr; rw [if_neg (by omega), if_neg (by omega)]
theorem tNr_d {k f m b x : Int} (h : f ≠ 3 ∧ f ≠ 6) : tNr k f m b x = hNr k m b (cNr k k m b x) := by unfold tNr; rw [if_neg (by omega), if_neg (by omega)]
theorem tTr_3 {k : Int} : tTr k 3 = 41 :: ((2 :: (cTr k k ++ hTr k)) ++ yTr k) := if_pos rfl
theorem tTr_6 {k : Int} : tTr k 6 = 70 :: 2 :: (cTr k k ++ hTr k) := (if_neg (by decide)).trans (if_pos rfl)
theorem tNr_3 {k m b x : Int} : tNr k 3 m b x = w32 (hNr k m b (cNr k k m b x) + yNr k m b 1) := if_pos rfl
theorem tNr_6 {k m b x : Int} : tNr k 6 m b x = hNr k m b (cNr k k m b (w32 (x + 1))) := (if_neg (by decide)).trans (if_pos rfl)
theorem bgs_c (V : vS) (v : Int) (l : List Int) : bgs V (v :: l) = bgs (bg V v) l := rfl
theorem mbgs_c (V : vS) (v : Int) (l : List Int) : mbgs V (v :: l) = mbgs (mbg V v) l := rfl
def R22 (V : vS) (f x r : Int) (V' : vS) : Prop := r = yNr f (V 66 4) (V 66 2) x ∧ V' = bgs V (yTr f)
def R23 (V : vS) (f x r : Int) (V' : vS) : Prop := r = cNr (V 66 3) f (V 66 4) (V 66 2) x ∧ V' = bgs V (cTr (V 66 3) f)
def R24 (V : vS) (f x r : Int) (V' : vS) : Prop := r = hNr f (V 66 4) (V 66 2) x ∧ V' = bgs V (hTr f)
def R25 (V : vS) (f x r : Int) (V' : vS) : Prop := r = tNr (V 66 3) f (V 66 4) (V 66 2) x ∧ V' = bgs V (tTr (V 66 3) f)

theorem y_leaf {h g : aH} {f x : Int} (p : wS g ∧ vw g = bg (vw h) 1) (hf : f ≠ 1 ∧ f ≠ 2 ∧ f ≠ 3 ∧ f ≠ 7) : wS g ∧ R22 (vw h) f x (w32 (w32 (x * 2) - vw g 66 2)) (vw g) := by
  refine ⟨p.1, ?_, ?_⟩
  · rw [yNr_d hf, p.2, bg_b]
  · rw [yTr_d hf, p.2]; rfl
theorem d22_0 {n : Nat} {X : aX} {h : aH} {P : Int → aH → Prop} {x1 x2 : Int32} {a1 a2 : Int} (S : wS h) (z1 : x1.toInt = a1) (z2 : x2.toInt = a2) (K22 : ∀ {h : aH} {x1 x2 : Int32} {a1 a2 : Int}, wS h → x1.toInt = a1 → x2.toInt = a2 → Pt n X zM22 0 [some (.ref 66), some (.int x1), some (.int x2)] [] h (qI (fun y h' => wS h' ∧ R22 (vw h) a1 a2 y (vw h')))) (H : ((a1 = 1 → ∀ (h_3 : aH), (wS h_3 ∧ vw h_3 = bg (vw h) 20) → ∀ (y5 : Int) (h_5 : aH), (wS h_5 ∧ R22 (vw h_3) 0 a2 y5 (vw h_5)) → P (w32 (y5 + (vw h_5 66 4))) h_5) ∧ (a1 ≠ 1 → ((a1 = 2 → ∀ (y10 : Int) (h_10 : aH), (wS h_10 ∧ R22 (vw h) 1 a2 y10 (vw h_10)) → P y10 h_10) ∧ (a1 ≠ 2 → ((a1 = 3 → ∀ (h_13 : aH), (wS h_13 ∧ vw h_13 = bg (vw h) 40) → ∀ (y15 : Int) (h_15 : aH), (wS h_15 ∧ R22 (vw h_13) 1 a2 y15 (vw h_15)) → P (w32 (-y15)) h_15) ∧ (a1 ≠ 3 → ((a1 = 4 → ∀ (h_19 : aH), (wS h_19 ∧ vw h_19 = bg (vw h) 1) → P (w32 ((w32 (a2 * 2)) - (vw h_19 66 2))) h_19) ∧ (a1 ≠ 4 → ((a1 = 5 → ∀ (h_26 : aH), (wS h_26 ∧ vw h_26 = bg (vw h) 1) → P (w32 ((w32 (a2 * 2)) - (vw h_26 66 2))) h_26) ∧ (a1 ≠ 5 → ((a1 = 6 → ∀ (h_33 : aH), (wS h_33 ∧ vw h_33 = bg (vw h) 1) → P (w32 ((w32 (a2 * 2)) - (vw h_33 66 2))) h_33) ∧ (a1 ≠ 6 → ((a1 = 7 → ∀ (h_40 : aH), (wS h_40 ∧ vw h_40 = bg (vw h) 80) → ∀ (y42 : Int) (h_42 : aH), (wS h_42 ∧ R22 (vw h_40) 2 a2 y42 (vw h_42)) → P (bXor y42 3) h_42) ∧ (a1 ≠ 7 → ∀ (h_46 : aH), (wS h_46 ∧ vw h_46 = bg (vw h) 1) → P (w32 ((w32 (a2 * 2)) - (vw h_46 66 2))) h_46))))))))))))))) : Pt (n + 1) X zM22 0 [some (.ref 66), some (.int x1), some (.int x2)] [] h (qI P) := by
  refine pt_1 (fun n d => r_iloadn gx22_0 rfl) ?_
  refine pt_d (pt_tsw gx22_1 ?_)
  refine pa_c (lo := 1) (lo' := 2) (p := 44) z1 (fun e1 => ?_) (fun e1 => ?_)
  · have H := H.1 e1
    refine pt_d (pt_1 (fun n d => r_aloadn gx22_44 rfl) ?_)
    refine pt_d (pt_bipush gx22_45 (fun v2 h2 => ?_))
    refine pt_d (pt_virt (as := [.int v2]) (r := []) gx22_47 rfl (show zmt[21]? = some zM21 from rfl) rfl rfl rfl rfl (c_21 S h2) (kqN (fun h_3 P3 => ?_)))
    have S3 := P3.1
    have H := H h_3 P3
    show Pt _ _ _ 50 _ [] _ _
    refine pt_d (pt_1 (fun n d => r_aloadn gx22_50 rfl) ?_)
    refine pt_d (pt_iconst gx22_51 (fun v4 h4 => ?_))
    refine pt_d (pt_1 (fun n d => r_iloadn gx22_52 rfl) ?_)
    refine pt_d (pt_virt (as := [.int v4, .int x2]) (r := []) gx22_53 rfl (show zmt[22]? = some zM22 from rfl) rfl rfl rfl rfl (K22 S3 h4 z2) (kqI (fun v5 y5 h_5 h5 P5 => ?_)))
    have S5 := P5.1
    have H := H y5 h_5 P5
    show Pt _ _ _ 56 _ [.int v5] _ _
    refine pt_d (pt_1 (fun n d => r_aloadn gx22_56 rfl) ?_)
    refine pt_d (pt_getI (B := 4) gx22_57 S5 (fun v6 h6 => ?_))
    refine pt_d (pt_iadd gx22_60 h5 h6 (fun v7 h7 => ?_))
    exact pt_d (pt_iret gx22_61 ⟨_, rfl, by rw [h7]; exact H⟩)
  have H := H.2 e1
  refine pa_c (lo := 2) (lo' := 3) (p := 91) z1 (fun e8 => ?_) (fun e8 => ?_)
  · have H := H.1 e8
    refine pt_d (pt_1 (fun n d => r_aloadn gx22_91 rfl) ?_)
    refine pt_d (pt_iconst gx22_92 (fun v9 h9 => ?_))
    refine pt_d (pt_1 (fun n d => r_iloadn gx22_93 rfl) ?_)
    refine pt_d (pt_virt (as := [.int v9, .int x2]) (r := []) gx22_94 rfl (show zmt[22]? = some zM22 from rfl) rfl rfl rfl rfl (K22 S h9 z2) (kqI (fun v10 y10 h_10 h10 P10 => ?_)))
    have S10 := P10.1
    have H := H y10 h_10 P10
    show Pt _ _ _ 97 _ [.int v10] _ _
    exact pt_d (pt_iret gx22_97 ⟨_, rfl, by rw [h10]; exact H⟩)
  have H := H.2 e8
  refine pa_c (lo := 3) (lo' := 4) (p := 62) z1 (fun e11 => ?_) (fun e11 => ?_)
  · have H := H.1 e11
    refine pt_d (pt_1 (fun n d => r_aloadn gx22_62 rfl) ?_)
    refine pt_d (pt_bipush gx22_63 (fun v12 h12 => ?_))
    refine pt_d (pt_virt (as := [.int v12]) (r := []) gx22_65 rfl (show zmt[21]? = some zM21 from rfl) rfl rfl rfl rfl (c_21 S h12) (kqN (fun h_13 P13 => ?_)))
    have S13 := P13.1
    have H := H h_13 P13
    show Pt _ _ _ 68 _ [] _ _
    refine pt_d (pt_1 (fun n d => r_aloadn gx22_68 rfl) ?_)
    refine pt_d (pt_iconst gx22_69 (fun v14 h14 => ?_))
    refine pt_d (pt_1 (fun n d => r_iloadn gx22_70 rfl) ?_)
    refine pt_d (pt_virt (as := [.int v14, .int x2]) (r := []) gx22_71 rfl (show zmt[22]? = some zM22 from rfl) rfl rfl rfl rfl (K22 S13 h14 z2) (kqI (fun v15 y15 h_15 h15 P15 => ?_)))
    have S15 := P15.1
    have H := H y15 h_15 P15
    show Pt _ _ _ 74 _ [.int v15] _ _
    refine pt_d (pt_ineg gx22_74 h15 (fun v16 h16 => ?_))
    exact pt_d (pt_iret gx22_75 ⟨_, rfl, by rw [h16]; exact H⟩)
  have H := H.2 e11
  refine pa_c (lo := 4) (lo' := 5) (p := 98) z1 (fun e17 => ?_) (fun e17 => ?_)
  · have H := H.1 e17
    refine pt_d (pt_1 (fun n d => r_aloadn gx22_98 rfl) ?_)
    refine pt_d (pt_iconst gx22_99 (fun v18 h18 => ?_))
    refine pt_d (pt_virt (as := [.int v18]) (r := []) gx22_100 rfl (show zmt[21]? = some zM21 from rfl) rfl rfl rfl rfl (c_21 S h18) (kqN (fun h_19 P19 => ?_)))
    have S19 := P19.1
    have H := H h_19 P19
    show Pt _ _ _ 103 _ [] _ _
    refine pt_d (pt_1 (fun n d => r_iloadn gx22_103 rfl) ?_)
    refine pt_d (pt_iconst gx22_104 (fun v20 h20 => ?_))
    refine pt_d (pt_imul gx22_105 z2 h20 (fun v21 h21 => ?_))
    refine pt_d (pt_1 (fun n d => r_aloadn gx22_106 rfl) ?_)
    refine pt_d (pt_getI (B := 2) gx22_107 S19 (fun v22 h22 => ?_))
    refine pt_d (pt_isub gx22_110 h21 h22 (fun v23 h23 => ?_))
    exact pt_d (pt_iret gx22_111 ⟨_, rfl, by rw [h23]; exact H⟩)
  have H := H.2 e17
  refine pa_c (lo := 5) (lo' := 6) (p := 98) z1 (fun e24 => ?_) (fun e24 => ?_)
  · have H := H.1 e24
    refine pt_d (pt_1 (fun n d => r_aloadn gx22_98 rfl) ?_)
    refine pt_d (pt_iconst gx22_99 (fun v25 h25 => ?_))
    refine pt_d (pt_virt (as := [.int v25]) (r := []) gx22_100 rfl (show zmt[21]? = some zM21 from rfl) rfl rfl rfl rfl (c_21 S h25) (kqN (fun h_26 P26 => ?_)))
    have S26 := P26.1
    have H := H h_26 P26
    show Pt _ _ _ 103 _ [] _ _
    refine pt_d (pt_1 (fun n d => r_iloadn gx22_103 rfl) ?_)
    refine pt_d (pt_iconst gx22_104 (fun v27 h27 => ?_))
    refine pt_d (pt_imul gx22_105 z2 h27 (fun v28 h28 => ?_))
    refine pt_d (pt_1 (fun n d => r_aloadn gx22_106 rfl) ?_)
    refine pt_d (pt_getI (B := 2) gx22_107 S26 (fun v29 h29 => ?_))
    refine pt_d (pt_isub gx22_110 h28 h29 (fun v30 h30 => ?_))
    exact pt_d (pt_iret gx22_111 ⟨_, rfl, by rw [h30]; exact H⟩)
  have H := H.2 e24
  refine pa_c (lo := 6) (lo' := 7) (p := 98) z1 (fun e31 => ?_) (fun e31 => ?_)
  · have H := H.1 e31
    refine pt_d (pt_1 (fun n d => r_aloadn gx22_98 rfl) ?_)
    refine pt_d (pt_iconst gx22_99 (fun v32 h32 => ?_))
    refine pt_d (pt_virt (as := [.int v32]) (r := []) gx22_100 rfl (show zmt[21]? = some zM21 from rfl) rfl rfl rfl rfl (c_21 S h32) (kqN (fun h_33 P33 => ?_)))
    have S33 := P33.1
    have H := H h_33 P33
    show Pt _ _ _ 103 _ [] _ _
    refine pt_d (pt_1 (fun n d => r_iloadn gx22_103 rfl) ?_)
    refine pt_d (pt_iconst gx22_104 (fun v34 h34 => ?_))
    refine pt_d (pt_imul gx22_105 z2 h34 (fun v35 h35 => ?_))
    refine pt_d (pt_1 (fun n d => r_aloadn gx22_106 rfl) ?_)
    refine pt_d (pt_getI (B := 2) gx22_107 S33 (fun v36 h36 => ?_))
    refine pt_d (pt_isub gx22_110 h35 h36 (fun v37 h37 => ?_))
    exact pt_d (pt_iret gx22_111 ⟨_, rfl, by rw [h37]; exact H⟩)
  have H := H.2 e31
  refine pa_c (lo := 7) (lo' := 8) (p := 76) z1 (fun e38 => ?_) (fun e38 => ?_)
  · have H := H.1 e38
    refine pt_d (pt_1 (fun n d => r_aloadn gx22_76 rfl) ?_)
    refine pt_d (pt_bipush gx22_77 (fun v39 h39 => ?_))
    refine pt_d (pt_virt (as := [.int v39]) (r := []) gx22_79 rfl (show zmt[21]? = some zM21 from rfl) rfl rfl rfl rfl (c_21 S h39) (kqN (fun h_40 P40 => ?_)))
    have S40 := P40.1
    have H := H h_40 P40
    show Pt _ _ _ 82 _ [] _ _
    refine pt_d (pt_1 (fun n d => r_aloadn gx22_82 rfl) ?_)
    refine pt_d (pt_iconst gx22_83 (fun v41 h41 => ?_))
    refine pt_d (pt_1 (fun n d => r_iloadn gx22_84 rfl) ?_)
    refine pt_d (pt_virt (as := [.int v41, .int x2]) (r := []) gx22_85 rfl (show zmt[22]? = some zM22 from rfl) rfl rfl rfl rfl (K22 S40 h41 z2) (kqI (fun v42 y42 h_42 h42 P42 => ?_)))
    have S42 := P42.1
    have H := H y42 h_42 P42
    show Pt _ _ _ 88 _ [.int v42] _ _
    refine pt_d (pt_iconst gx22_88 (fun v43 h43 => ?_))
    refine pt_d (pt_ixor gx22_89 h42 h43 (fun v44 h44 => ?_))
    exact pt_d (pt_iret gx22_90 ⟨_, rfl, by rw [h44]; exact H⟩)
  have H := H.2 e38
  refine pa_0 (p := 98) ?_
  refine pt_d (pt_1 (fun n d => r_aloadn gx22_98 rfl) ?_)
  refine pt_d (pt_iconst gx22_99 (fun v45 h45 => ?_))
  refine pt_d (pt_virt (as := [.int v45]) (r := []) gx22_100 rfl (show zmt[21]? = some zM21 from rfl) rfl rfl rfl rfl (c_21 S h45) (kqN (fun h_46 P46 => ?_)))
  have S46 := P46.1
  have H := H h_46 P46
  show Pt _ _ _ 103 _ [] _ _
  refine pt_d (pt_1 (fun n d => r_iloadn gx22_103 rfl) ?_)
  refine pt_d (pt_iconst gx22_104 (fun v47 h47 => ?_))
  refine pt_d (pt_imul gx22_105 z2 h47 (fun v48 h48 => ?_))
  refine pt_d (pt_1 (fun n d => r_aloadn gx22_106 rfl) ?_)
  refine pt_d (pt_getI (B := 2) gx22_107 S46 (fun v49 h49 => ?_))
  refine pt_d (pt_isub gx22_110 h48 h49 (fun v50 h50 => ?_))
  exact pt_d (pt_iret gx22_111 ⟨_, rfl, by rw [h50]; exact H⟩)
theorem l_22 {X : aX} : ∀ (n : Nat) {h : aH} {x1 x2 : Int32} {a1 a2 : Int}, wS h → x1.toInt = a1 → x2.toInt = a2 → Pt n X zM22 0 [some (.ref 66), some (.int x1), some (.int x2)] [] h (qI (fun y h' => wS h' ∧ R22 (vw h) a1 a2 y (vw h'))) := by
  intro n
  induction n with
  | zero => exact fun _ _ _ => pt_z
  | succ n ih =>
    intro h x1 x2 a1 a2 S z1 z2
    refine d22_0 S z1 z2 ih ⟨fun e g p y g2 p2 => ?_, fun e1 => ⟨fun e y g p => ?_, fun e2 => ⟨fun e g p y g2 p2 => ?_, fun e3 => ⟨fun e g p => y_leaf p (by omega), fun _ => ⟨fun e g p => y_leaf p (by omega), fun _ => ⟨fun e g p => y_leaf p (by omega), fun _ => ⟨fun e g p y g2 p2 => ?_, fun e7 g p => y_leaf p (by omega)⟩⟩⟩⟩⟩⟩⟩
    · obtain ⟨S2, q, r⟩ := p2
      subst e
      refine ⟨S2, ?_, ?_⟩
      · simp only [q, r, p.2, bgs_m, bgs_b, bgs_k, bg_m, bg_b, bg_k]; rfl
      · rw [r, p.2]; rfl
    · obtain ⟨S2, q, r⟩ := p
      subst e
      exact ⟨S2, q.trans rfl, r.trans rfl⟩
    · obtain ⟨S2, q, r⟩ := p2
      subst e
      refine ⟨S2, ?_, ?_⟩
      · simp only [q, r, p.2, bgs_m, bgs_b, bgs_k, bg_m, bg_b, bg_k]; rfl
      · rw [r, p.2]; rfl
    · obtain ⟨S2, q, r⟩ := p2
      subst e
      refine ⟨S2, ?_, ?_⟩
      · simp only [q, r, p.2, bgs_m, bgs_b, bgs_k, bg_m, bg_b, bg_k]; rfl
      · rw [r, p.2]; rfl

theorem c_22 {n : Nat} {X : aX} {h : aH} {x1 x2 : Int32} {a1 a2 : Int} (S : wS h) (z1 : x1.toInt = a1) (z2 : x2.toInt = a2) : Pt n X zM22 0 [some (.ref 66), some (.int x1), some (.int x2)] [] h (qI (fun y h' => wS h' ∧ R22 (vw h) a1 a2 y (vw h'))) := l_22 n S z1 z2
theorem d24_0 {n : Nat} {X : aX} {h : aH} {P : Int → aH → Prop} {x1 x2 : Int32} {a1 a2 : Int} (S : wS h) (z1 : x1.toInt = a1) (z2 : x2.toInt = a2) (K24 : ∀ {h : aH} {x1 x2 : Int32} {a1 a2 : Int}, wS h → x1.toInt = a1 → x2.toInt = a2 → Pt n X zM24 0 [some (.ref 66), some (.int x1), some (.int x2)] [] h (qI (fun y h' => wS h' ∧ R24 (vw h) a1 a2 y (vw h')))) (H : ((a1 = 4 → ∀ (h_3 : aH), (wS h_3 ∧ vw h_3 = bg (vw h) 50) → ∀ (y5 : Int) (h_5 : aH), (wS h_5 ∧ R24 (vw h_3) 0 a2 y5 (vw h_5)) → P (w32 (y5 + (vw h_5 66 4))) h_5) ∧ (a1 ≠ 4 → ((a1 = 5 → ∀ (h_10 : aH), (wS h_10 ∧ vw h_10 = bg (vw h) 50) → ∀ (y12 : Int) (h_12 : aH), (wS h_12 ∧ R24 (vw h_10) 0 a2 y12 (vw h_12)) → P (w32 (y12 + (vw h_12 66 4))) h_12) ∧ (a1 ≠ 5 → ∀ (h_16 : aH), (wS h_16 ∧ vw h_16 = bg (vw h) 11) → P (bXor a2 (vw h_16 66 2)) h_16))))) : Pt (n + 1) X zM24 0 [some (.ref 66), some (.int x1), some (.int x2)] [] h (qI P) := by
  refine pt_1 (fun n d => r_iloadn gx24_0 rfl) ?_
  refine pt_d (pt_lsw gx24_1 ?_)
  refine pb_c (lo := 4) (p := 28) z1 (fun e1 => ?_) (fun e1 => ?_)
  · have H := H.1 e1
    refine pt_d (pt_1 (fun n d => r_aloadn gx24_28 rfl) ?_)
    refine pt_d (pt_bipush gx24_29 (fun v2 h2 => ?_))
    refine pt_d (pt_virt (as := [.int v2]) (r := []) gx24_31 rfl (show zmt[21]? = some zM21 from rfl) rfl rfl rfl rfl (c_21 S h2) (kqN (fun h_3 P3 => ?_)))
    have S3 := P3.1
    have H := H h_3 P3
    show Pt _ _ _ 34 _ [] _ _
    refine pt_d (pt_1 (fun n d => r_aloadn gx24_34 rfl) ?_)
    refine pt_d (pt_iconst gx24_35 (fun v4 h4 => ?_))
    refine pt_d (pt_1 (fun n d => r_iloadn gx24_36 rfl) ?_)
    refine pt_d (pt_virt (as := [.int v4, .int x2]) (r := []) gx24_37 rfl (show zmt[24]? = some zM24 from rfl) rfl rfl rfl rfl (K24 S3 h4 z2) (kqI (fun v5 y5 h_5 h5 P5 => ?_)))
    have S5 := P5.1
    have H := H y5 h_5 P5
    show Pt _ _ _ 40 _ [.int v5] _ _
    refine pt_d (pt_1 (fun n d => r_aloadn gx24_40 rfl) ?_)
    refine pt_d (pt_getI (B := 4) gx24_41 S5 (fun v6 h6 => ?_))
    refine pt_d (pt_iadd gx24_44 h5 h6 (fun v7 h7 => ?_))
    exact pt_d (pt_iret gx24_45 ⟨_, rfl, by rw [h7]; exact H⟩)
  have H := H.2 e1
  refine pb_c (lo := 5) (p := 28) z1 (fun e8 => ?_) (fun e8 => ?_)
  · have H := H.1 e8
    refine pt_d (pt_1 (fun n d => r_aloadn gx24_28 rfl) ?_)
    refine pt_d (pt_bipush gx24_29 (fun v9 h9 => ?_))
    refine pt_d (pt_virt (as := [.int v9]) (r := []) gx24_31 rfl (show zmt[21]? = some zM21 from rfl) rfl rfl rfl rfl (c_21 S h9) (kqN (fun h_10 P10 => ?_)))
    have S10 := P10.1
    have H := H h_10 P10
    show Pt _ _ _ 34 _ [] _ _
    refine pt_d (pt_1 (fun n d => r_aloadn gx24_34 rfl) ?_)
    refine pt_d (pt_iconst gx24_35 (fun v11 h11 => ?_))
    refine pt_d (pt_1 (fun n d => r_iloadn gx24_36 rfl) ?_)
    refine pt_d (pt_virt (as := [.int v11, .int x2]) (r := []) gx24_37 rfl (show zmt[24]? = some zM24 from rfl) rfl rfl rfl rfl (K24 S10 h11 z2) (kqI (fun v12 y12 h_12 h12 P12 => ?_)))
    have S12 := P12.1
    have H := H y12 h_12 P12
    show Pt _ _ _ 40 _ [.int v12] _ _
    refine pt_d (pt_1 (fun n d => r_aloadn gx24_40 rfl) ?_)
    refine pt_d (pt_getI (B := 4) gx24_41 S12 (fun v13 h13 => ?_))
    refine pt_d (pt_iadd gx24_44 h12 h13 (fun v14 h14 => ?_))
    exact pt_d (pt_iret gx24_45 ⟨_, rfl, by rw [h14]; exact H⟩)
  have H := H.2 e8
  refine pb_0 (p := 46) ?_
  refine pt_d (pt_1 (fun n d => r_aloadn gx24_46 rfl) ?_)
  refine pt_d (pt_bipush gx24_47 (fun v15 h15 => ?_))
  refine pt_d (pt_virt (as := [.int v15]) (r := []) gx24_49 rfl (show zmt[21]? = some zM21 from rfl) rfl rfl rfl rfl (c_21 S h15) (kqN (fun h_16 P16 => ?_)))
  have S16 := P16.1
  have H := H h_16 P16
  show Pt _ _ _ 52 _ [] _ _
  refine pt_d (pt_1 (fun n d => r_iloadn gx24_52 rfl) ?_)
  refine pt_d (pt_1 (fun n d => r_aloadn gx24_53 rfl) ?_)
  refine pt_d (pt_getI (B := 2) gx24_54 S16 (fun v17 h17 => ?_))
  refine pt_d (pt_ixor gx24_57 z2 h17 (fun v18 h18 => ?_))
  exact pt_d (pt_iret gx24_58 ⟨_, rfl, by rw [h18]; exact H⟩)
theorem l_24 {X : aX} : ∀ (n : Nat) {h : aH} {x1 x2 : Int32} {a1 a2 : Int}, wS h → x1.toInt = a1 → x2.toInt = a2 → Pt n X zM24 0 [some (.ref 66), some (.int x1), some (.int x2)] [] h (qI (fun y h' => wS h' ∧ R24 (vw h) a1 a2 y (vw h'))) := by
  intro n
  induction n with
  | zero => exact fun _ _ _ => pt_z
  | succ n ih =>
    intro h x1 x2 a1 a2 S z1 z2
    refine d24_0 S z1 z2 ih ⟨fun e g p y g2 p2 => ?_, fun e1 => ⟨fun e g p y g2 p2 => ?_, fun e2 g p => ⟨p.1, ?_, ?_⟩⟩⟩
    · obtain ⟨S2, q, r⟩ := p2
      subst e
      refine ⟨S2, ?_, ?_⟩
      · simp only [q, r, p.2, bgs_m, bgs_b, bgs_k, bg_m, bg_b, bg_k]; rfl
      · rw [r, p.2]; rfl
    · obtain ⟨S2, q, r⟩ := p2
      subst e
      refine ⟨S2, ?_, ?_⟩
      · simp only [q, r, p.2, bgs_m, bgs_b, bgs_k, bg_m, bg_b, bg_k]; rfl
      · rw [r, p.2]; rfl
    · rw [hNr_d (by omega), p.2, bg_b]
    · rw [hTr_d (by omega), p.2]; rfl
theorem c_24 {n : Nat} {X : aX} {h : aH} {x1 x2 : Int32} {a1 a2 : Int} (S : wS h) (z1 : x1.toInt = a1) (z2 : x2.toInt = a2) : Pt n X zM24 0 [some (.ref 66), some (.int x1), some (.int x2)] [] h (qI (fun y h' => wS h' ∧ R24 (vw h) a1 a2 y (vw h'))) := l_24 n S z1 z2
theorem d23_0 {n : Nat} {X : aX} {h : aH} {P : Int → aH → Prop} {x1 x2 : Int32} {a1 a2 : Int} (S : wS h) (z1 : x1.toInt = a1) (z2 : x2.toInt = a2) (K23 : ∀ {h : aH} {x1 x2 : Int32} {a1 a2 : Int}, wS h → x1.toInt = a1 → x2.toInt = a2 → Pt n X zM23 0 [some (.ref 66), some (.int x1), some (.int x2)] [] h (qI (fun y h' => wS h' ∧ R23 (vw h) a1 a2 y (vw h')))) (H : ((a1 = 2 → ∀ (h_3 : aH), (wS h_3 ∧ vw h_3 = bg (vw h) 30) → ∀ (y5 : Int) (h_5 : aH), (wS h_5 ∧ R23 (vw h_3) 1 a2 y5 (vw h_5)) → P (w32 (y5 * 2)) h_5) ∧ (a1 ≠ 2 → ((a1 = 5 → ∀ (h_10 : aH), (wS h_10 ∧ vw h_10 = bg (vw h) 60) → ∀ (y12 : Int) (h_12 : aH), (wS h_12 ∧ R23 (vw h_10) 4 a2 y12 (vw h_12)) → ∀ (y15 : Int) (h_15 : aH), (wS h_15 ∧ R24 (vw h_12) (vw h_12 66 3) 2 y15 (vw h_15)) → P (w32 (y12 - y15)) h_15) ∧ (a1 ≠ 5 → ((a1 = 7 → ∀ (h_19 : aH), (wS h_19 ∧ vw h_19 = bg (vw h) 81) → ∀ (y21 : Int) (h_21 : aH), (wS h_21 ∧ R23 (vw h_19) 2 a2 y21 (vw h_21)) → ∀ (y23 : Int) (h_23 : aH), (wS h_23 ∧ R22 (vw h_21) 2 a2 y23 (vw h_23)) → P (w32 (y21 + y23)) h_23) ∧ (a1 ≠ 7 → ∀ (h_26 : aH), (wS h_26 ∧ vw h_26 = bg (vw h) 10) → ∀ (y28 : Int) (h_28 : aH), (wS h_28 ∧ R22 (vw h_26) (vw h_26 66 3) a2 y28 (vw h_28)) → P (w32 (y28 + 1)) h_28))))))) : Pt (n + 1) X zM23 0 [some (.ref 66), some (.int x1), some (.int x2)] [] h (qI P) := by
  refine pt_1 (fun n d => r_iloadn gx23_0 rfl) ?_
  refine pt_d (pt_lsw gx23_1 ?_)
  refine pb_c (lo := 2) (p := 36) z1 (fun e1 => ?_) (fun e1 => ?_)
  · have H := H.1 e1
    refine pt_d (pt_1 (fun n d => r_aloadn gx23_36 rfl) ?_)
    refine pt_d (pt_bipush gx23_37 (fun v2 h2 => ?_))
    refine pt_d (pt_virt (as := [.int v2]) (r := []) gx23_39 rfl (show zmt[21]? = some zM21 from rfl) rfl rfl rfl rfl (c_21 S h2) (kqN (fun h_3 P3 => ?_)))
    have S3 := P3.1
    have H := H h_3 P3
    show Pt _ _ _ 42 _ [] _ _
    refine pt_d (pt_1 (fun n d => r_aloadn gx23_42 rfl) ?_)
    refine pt_d (pt_iconst gx23_43 (fun v4 h4 => ?_))
    refine pt_d (pt_1 (fun n d => r_iloadn gx23_44 rfl) ?_)
    refine pt_d (pt_virt (as := [.int v4, .int x2]) (r := []) gx23_45 rfl (show zmt[23]? = some zM23 from rfl) rfl rfl rfl rfl (K23 S3 h4 z2) (kqI (fun v5 y5 h_5 h5 P5 => ?_)))
    have S5 := P5.1
    have H := H y5 h_5 P5
    show Pt _ _ _ 48 _ [.int v5] _ _
    refine pt_d (pt_iconst gx23_48 (fun v6 h6 => ?_))
    refine pt_d (pt_imul gx23_49 h5 h6 (fun v7 h7 => ?_))
    exact pt_d (pt_iret gx23_50 ⟨_, rfl, by rw [h7]; exact H⟩)
  have H := H.2 e1
  refine pb_c (lo := 5) (p := 51) z1 (fun e8 => ?_) (fun e8 => ?_)
  · have H := H.1 e8
    refine pt_d (pt_1 (fun n d => r_aloadn gx23_51 rfl) ?_)
    refine pt_d (pt_bipush gx23_52 (fun v9 h9 => ?_))
    refine pt_d (pt_virt (as := [.int v9]) (r := []) gx23_54 rfl (show zmt[21]? = some zM21 from rfl) rfl rfl rfl rfl (c_21 S h9) (kqN (fun h_10 P10 => ?_)))
    have S10 := P10.1
    have H := H h_10 P10
    show Pt _ _ _ 57 _ [] _ _
    refine pt_d (pt_1 (fun n d => r_aloadn gx23_57 rfl) ?_)
    refine pt_d (pt_iconst gx23_58 (fun v11 h11 => ?_))
    refine pt_d (pt_1 (fun n d => r_iloadn gx23_59 rfl) ?_)
    refine pt_d (pt_virt (as := [.int v11, .int x2]) (r := []) gx23_60 rfl (show zmt[23]? = some zM23 from rfl) rfl rfl rfl rfl (K23 S10 h11 z2) (kqI (fun v12 y12 h_12 h12 P12 => ?_)))
    have S12 := P12.1
    have H := H y12 h_12 P12
    show Pt _ _ _ 63 _ [.int v12] _ _
    refine pt_d (pt_1 (fun n d => r_aloadn gx23_63 rfl) ?_)
    refine pt_d (pt_1 (fun n d => r_aloadn gx23_64 rfl) ?_)
    refine pt_d (pt_getI (B := 3) gx23_65 S12 (fun v13 h13 => ?_))
    refine pt_d (pt_iconst gx23_68 (fun v14 h14 => ?_))
    refine pt_d (pt_virt (as := [.int v13, .int v14]) (r := [.int v12]) gx23_69 rfl (show zmt[24]? = some zM24 from rfl) rfl rfl rfl rfl (c_24 S12 h13 h14) (kqI (fun v15 y15 h_15 h15 P15 => ?_)))
    have S15 := P15.1
    have H := H y15 h_15 P15
    show Pt _ _ _ 72 _ [.int v15, .int v12] _ _
    refine pt_d (pt_isub gx23_72 h12 h15 (fun v16 h16 => ?_))
    exact pt_d (pt_iret gx23_73 ⟨_, rfl, by rw [h16]; exact H⟩)
  have H := H.2 e8
  refine pb_c (lo := 7) (p := 74) z1 (fun e17 => ?_) (fun e17 => ?_)
  · have H := H.1 e17
    refine pt_d (pt_1 (fun n d => r_aloadn gx23_74 rfl) ?_)
    refine pt_d (pt_bipush gx23_75 (fun v18 h18 => ?_))
    refine pt_d (pt_virt (as := [.int v18]) (r := []) gx23_77 rfl (show zmt[21]? = some zM21 from rfl) rfl rfl rfl rfl (c_21 S h18) (kqN (fun h_19 P19 => ?_)))
    have S19 := P19.1
    have H := H h_19 P19
    show Pt _ _ _ 80 _ [] _ _
    refine pt_d (pt_1 (fun n d => r_aloadn gx23_80 rfl) ?_)
    refine pt_d (pt_iconst gx23_81 (fun v20 h20 => ?_))
    refine pt_d (pt_1 (fun n d => r_iloadn gx23_82 rfl) ?_)
    refine pt_d (pt_virt (as := [.int v20, .int x2]) (r := []) gx23_83 rfl (show zmt[23]? = some zM23 from rfl) rfl rfl rfl rfl (K23 S19 h20 z2) (kqI (fun v21 y21 h_21 h21 P21 => ?_)))
    have S21 := P21.1
    have H := H y21 h_21 P21
    show Pt _ _ _ 86 _ [.int v21] _ _
    refine pt_d (pt_1 (fun n d => r_aloadn gx23_86 rfl) ?_)
    refine pt_d (pt_iconst gx23_87 (fun v22 h22 => ?_))
    refine pt_d (pt_1 (fun n d => r_iloadn gx23_88 rfl) ?_)
    refine pt_d (pt_virt (as := [.int v22, .int x2]) (r := [.int v21]) gx23_89 rfl (show zmt[22]? = some zM22 from rfl) rfl rfl rfl rfl (c_22 S21 h22 z2) (kqI (fun v23 y23 h_23 h23 P23 => ?_)))
    have S23 := P23.1
    have H := H y23 h_23 P23
    show Pt _ _ _ 92 _ [.int v23, .int v21] _ _
    refine pt_d (pt_iadd gx23_92 h21 h23 (fun v24 h24 => ?_))
    exact pt_d (pt_iret gx23_93 ⟨_, rfl, by rw [h24]; exact H⟩)
  have H := H.2 e17
  refine pb_0 (p := 94) ?_
  refine pt_d (pt_1 (fun n d => r_aloadn gx23_94 rfl) ?_)
  refine pt_d (pt_bipush gx23_95 (fun v25 h25 => ?_))
  refine pt_d (pt_virt (as := [.int v25]) (r := []) gx23_97 rfl (show zmt[21]? = some zM21 from rfl) rfl rfl rfl rfl (c_21 S h25) (kqN (fun h_26 P26 => ?_)))
  have S26 := P26.1
  have H := H h_26 P26
  show Pt _ _ _ 100 _ [] _ _
  refine pt_d (pt_1 (fun n d => r_aloadn gx23_100 rfl) ?_)
  refine pt_d (pt_1 (fun n d => r_aloadn gx23_101 rfl) ?_)
  refine pt_d (pt_getI (B := 3) gx23_102 S26 (fun v27 h27 => ?_))
  refine pt_d (pt_1 (fun n d => r_iloadn gx23_105 rfl) ?_)
  refine pt_d (pt_virt (as := [.int v27, .int x2]) (r := []) gx23_106 rfl (show zmt[22]? = some zM22 from rfl) rfl rfl rfl rfl (c_22 S26 h27 z2) (kqI (fun v28 y28 h_28 h28 P28 => ?_)))
  have S28 := P28.1
  have H := H y28 h_28 P28
  show Pt _ _ _ 109 _ [.int v28] _ _
  refine pt_d (pt_iconst gx23_109 (fun v29 h29 => ?_))
  refine pt_d (pt_iadd gx23_110 h28 h29 (fun v30 h30 => ?_))
  exact pt_d (pt_iret gx23_111 ⟨_, rfl, by rw [h30]; exact H⟩)
theorem l_23 {X : aX} : ∀ (n : Nat) {h : aH} {x1 x2 : Int32} {a1 a2 : Int}, wS h → x1.toInt = a1 → x2.toInt = a2 → Pt n X zM23 0 [some (.ref 66), some (.int x1), some (.int x2)] [] h (qI (fun y h' => wS h' ∧ R23 (vw h) a1 a2 y (vw h'))) := by
  intro n
  induction n with
  | zero => exact fun _ _ _ => pt_z
  | succ n ih =>
    intro h x1 x2 a1 a2 S z1 z2
    refine d23_0 S z1 z2 ih ⟨fun e g p y g2 p2 => ?_, fun e1 => ⟨fun e g p y g2 p2 y3 g3 p3 => ?_, fun e2 => ⟨fun e g p y g2 p2 y3 g3 p3 => ?_, fun e7 g p y g2 p2 => ?_⟩⟩⟩
    · obtain ⟨S2, q, r⟩ := p2
      subst e
      refine ⟨S2, ?_, ?_⟩
      · simp only [q, r, p.2, bgs_m, bgs_b, bgs_k, bg_m, bg_b, bg_k]; rfl
      · rw [r, p.2]; simp only [bg_k]; rfl
    · obtain ⟨S2, q, r⟩ := p2
      obtain ⟨S3, q3, r3⟩ := p3
      subst e
      refine ⟨S3, ?_, ?_⟩
      · rw [q3, q, r, p.2]; simp only [bgs_m, bgs_b, bgs_k, bg_m, bg_b, bg_k]; rfl
      · rw [r3, r, p.2]; simp only [bgs_k, bg_k, bgs_a]; rfl
    · obtain ⟨S2, q, r⟩ := p2
      obtain ⟨S3, q3, r3⟩ := p3
      subst e
      refine ⟨S3, ?_, ?_⟩
      · rw [q3, q, r, p.2]; simp only [bgs_m, bgs_b, bg_m, bg_b, bg_k]; rfl
      · rw [r3, r, p.2]; simp only [bg_k, bgs_a]; rfl
    · obtain ⟨S2, q, r⟩ := p2
      refine ⟨S2, ?_, ?_⟩
      · rw [q, p.2, cNr_d (by omega)]; simp only [bg_m, bg_b, bg_k]
      · rw [r, p.2, cTr_d (by omega)]; simp only [bg_k]; rfl
theorem c_23 {n : Nat} {X : aX} {h : aH} {x1 x2 : Int32} {a1 a2 : Int} (S : wS h) (z1 : x1.toInt = a1) (z2 : x2.toInt = a2) : Pt n X zM23 0 [some (.ref 66), some (.int x1), some (.int x2)] [] h (qI (fun y h' => wS h' ∧ R23 (vw h) a1 a2 y (vw h'))) := l_23 n S z1 z2
theorem d25_0 {n : Nat} {X : aX} {h : aH} {P : Int → aH → Prop} {x1 x2 : Int32} {a1 a2 : Int} (S : wS h) (z1 : x1.toInt = a1) (z2 : x2.toInt = a2) (K25 : ∀ {h : aH} {x1 x2 : Int32} {a1 a2 : Int}, wS h → x1.toInt = a1 → x2.toInt = a2 → Pt n X zM25 0 [some (.ref 66), some (.int x1), some (.int x2)] [] h (qI (fun y h' => wS h' ∧ R25 (vw h) a1 a2 y (vw h')))) (H : ((a1 = 3 → ∀ (h_3 : aH), (wS h_3 ∧ vw h_3 = bg (vw h) 41) → ∀ (y5 : Int) (h_5 : aH), (wS h_5 ∧ R25 (vw h_3) 1 a2 y5 (vw h_5)) → ∀ (y8 : Int) (h_8 : aH), (wS h_8 ∧ R22 (vw h_5) (vw h_5 66 3) 1 y8 (vw h_8)) → P (w32 (y5 + y8)) h_8) ∧ (a1 ≠ 3 → ((a1 = 6 → ∀ (h_12 : aH), (wS h_12 ∧ vw h_12 = bg (vw h) 70) → ∀ (y16 : Int) (h_16 : aH), (wS h_16 ∧ R25 (vw h_12) 0 (w32 (a2 + 1)) y16 (vw h_16)) → P y16 h_16) ∧ (a1 ≠ 6 → ∀ (h_18 : aH), (wS h_18 ∧ vw h_18 = bg (vw h) 2) → ∀ (y21 : Int) (h_21 : aH), (wS h_21 ∧ R23 (vw h_18) (vw h_18 66 3) a2 y21 (vw h_21)) → ∀ (y22 : Int) (h_22 : aH), (wS h_22 ∧ R24 (vw h_21) (vw h_18 66 3) y21 y22 (vw h_22)) → P y22 h_22))))) : Pt (n + 1) X zM25 0 [some (.ref 66), some (.int x1), some (.int x2)] [] h (qI P) := by
  refine pt_1 (fun n d => r_iloadn gx25_0 rfl) ?_
  refine pt_d (pt_lsw gx25_1 ?_)
  refine pb_c (lo := 3) (p := 28) z1 (fun e1 => ?_) (fun e1 => ?_)
  · have H := H.1 e1
    refine pt_d (pt_1 (fun n d => r_aloadn gx25_28 rfl) ?_)
    refine pt_d (pt_bipush gx25_29 (fun v2 h2 => ?_))
    refine pt_d (pt_virt (as := [.int v2]) (r := []) gx25_31 rfl (show zmt[21]? = some zM21 from rfl) rfl rfl rfl rfl (c_21 S h2) (kqN (fun h_3 P3 => ?_)))
    have S3 := P3.1
    have H := H h_3 P3
    show Pt _ _ _ 34 _ [] _ _
    refine pt_d (pt_1 (fun n d => r_aloadn gx25_34 rfl) ?_)
    refine pt_d (pt_iconst gx25_35 (fun v4 h4 => ?_))
    refine pt_d (pt_1 (fun n d => r_iloadn gx25_36 rfl) ?_)
    refine pt_d (pt_virt (as := [.int v4, .int x2]) (r := []) gx25_37 rfl (show zmt[25]? = some zM25 from rfl) rfl rfl rfl rfl (K25 S3 h4 z2) (kqI (fun v5 y5 h_5 h5 P5 => ?_)))
    have S5 := P5.1
    have H := H y5 h_5 P5
    show Pt _ _ _ 40 _ [.int v5] _ _
    refine pt_d (pt_1 (fun n d => r_aloadn gx25_40 rfl) ?_)
    refine pt_d (pt_1 (fun n d => r_aloadn gx25_41 rfl) ?_)
    refine pt_d (pt_getI (B := 3) gx25_42 S5 (fun v6 h6 => ?_))
    refine pt_d (pt_iconst gx25_45 (fun v7 h7 => ?_))
    refine pt_d (pt_virt (as := [.int v6, .int v7]) (r := [.int v5]) gx25_46 rfl (show zmt[22]? = some zM22 from rfl) rfl rfl rfl rfl (c_22 S5 h6 h7) (kqI (fun v8 y8 h_8 h8 P8 => ?_)))
    have S8 := P8.1
    have H := H y8 h_8 P8
    show Pt _ _ _ 49 _ [.int v8, .int v5] _ _
    refine pt_d (pt_iadd gx25_49 h5 h8 (fun v9 h9 => ?_))
    exact pt_d (pt_iret gx25_50 ⟨_, rfl, by rw [h9]; exact H⟩)
  have H := H.2 e1
  refine pb_c (lo := 6) (p := 51) z1 (fun e10 => ?_) (fun e10 => ?_)
  · have H := H.1 e10
    refine pt_d (pt_1 (fun n d => r_aloadn gx25_51 rfl) ?_)
    refine pt_d (pt_bipush gx25_52 (fun v11 h11 => ?_))
    refine pt_d (pt_virt (as := [.int v11]) (r := []) gx25_54 rfl (show zmt[21]? = some zM21 from rfl) rfl rfl rfl rfl (c_21 S h11) (kqN (fun h_12 P12 => ?_)))
    have S12 := P12.1
    have H := H h_12 P12
    show Pt _ _ _ 57 _ [] _ _
    refine pt_d (pt_1 (fun n d => r_aloadn gx25_57 rfl) ?_)
    refine pt_d (pt_iconst gx25_58 (fun v13 h13 => ?_))
    refine pt_d (pt_1 (fun n d => r_iloadn gx25_59 rfl) ?_)
    refine pt_d (pt_iconst gx25_60 (fun v14 h14 => ?_))
    refine pt_d (pt_iadd gx25_61 z2 h14 (fun v15 h15 => ?_))
    refine pt_d (pt_virt (as := [.int v13, .int v15]) (r := []) gx25_62 rfl (show zmt[25]? = some zM25 from rfl) rfl rfl rfl rfl (K25 S12 h13 h15) (kqI (fun v16 y16 h_16 h16 P16 => ?_)))
    have S16 := P16.1
    have H := H y16 h_16 P16
    show Pt _ _ _ 65 _ [.int v16] _ _
    exact pt_d (pt_iret gx25_65 ⟨_, rfl, by rw [h16]; exact H⟩)
  have H := H.2 e10
  refine pb_0 (p := 66) ?_
  refine pt_d (pt_1 (fun n d => r_aloadn gx25_66 rfl) ?_)
  refine pt_d (pt_iconst gx25_67 (fun v17 h17 => ?_))
  refine pt_d (pt_virt (as := [.int v17]) (r := []) gx25_68 rfl (show zmt[21]? = some zM21 from rfl) rfl rfl rfl rfl (c_21 S h17) (kqN (fun h_18 P18 => ?_)))
  have S18 := P18.1
  have H := H h_18 P18
  show Pt _ _ _ 71 _ [] _ _
  refine pt_d (pt_1 (fun n d => r_aloadn gx25_71 rfl) ?_)
  refine pt_d (pt_1 (fun n d => r_aloadn gx25_72 rfl) ?_)
  refine pt_d (pt_getI (B := 3) gx25_73 S18 (fun v19 h19 => ?_))
  refine pt_d (pt_1 (fun n d => r_aloadn gx25_76 rfl) ?_)
  refine pt_d (pt_1 (fun n d => r_aloadn gx25_77 rfl) ?_)
  refine pt_d (pt_getI (B := 3) gx25_78 S18 (fun v20 h20 => ?_))
  refine pt_d (pt_1 (fun n d => r_iloadn gx25_81 rfl) ?_)
  refine pt_d (pt_virt (as := [.int v20, .int x2]) (r := [.int v19, .ref 66]) gx25_82 rfl (show zmt[23]? = some zM23 from rfl) rfl rfl rfl rfl (c_23 S18 h20 z2) (kqI (fun v21 y21 h_21 h21 P21 => ?_)))
  have S21 := P21.1
  have H := H y21 h_21 P21
  show Pt _ _ _ 85 _ [.int v21, .int v19, .ref 66] _ _
  refine pt_d (pt_virt (as := [.int v19, .int v21]) (r := []) gx25_85 rfl (show zmt[24]? = some zM24 from rfl) rfl rfl rfl rfl (c_24 S21 h19 h21) (kqI (fun v22 y22 h_22 h22 P22 => ?_)))
  have S22 := P22.1
  have H := H y22 h_22 P22
  show Pt _ _ _ 88 _ [.int v22] _ _
  exact pt_d (pt_iret gx25_88 ⟨_, rfl, by rw [h22]; exact H⟩)
theorem l_25 {X : aX} : ∀ (n : Nat) {h : aH} {x1 x2 : Int32} {a1 a2 : Int}, wS h → x1.toInt = a1 → x2.toInt = a2 → Pt n X zM25 0 [some (.ref 66), some (.int x1), some (.int x2)] [] h (qI (fun y h' => wS h' ∧ R25 (vw h) a1 a2 y (vw h'))) := by
  intro n
  induction n with
  | zero => exact fun _ _ _ => pt_z
  | succ n ih =>
    intro h x1 x2 a1 a2 S z1 z2
    refine d25_0 S z1 z2 ih ⟨fun e g p y g2 p2 y3 g3 p3 => ?_, fun e1 => ⟨fun e g p y g2 p2 => ?_, fun e2 g p y g2 p2 y3 g3 p3 => ?_⟩⟩
    · obtain ⟨S2, q, r⟩ := p2
      obtain ⟨S3, q3, r3⟩ := p3
      subst e
      refine ⟨S3, ?_, ?_⟩
      · rw [q3, q, r, p.2]; simp only [bgs_m, bgs_b, bgs_k, bg_m, bg_b, bg_k]; rw [tNr_d (by decide), tNr_3]
      · rw [r3, r, p.2]; simp only [bgs_k, bg_k, bgs_a]; rw [tTr_d (by decide), tTr_3, bgs_c]
    · obtain ⟨S2, q, r⟩ := p2
      subst e
      refine ⟨S2, ?_, ?_⟩
      · rw [q, p.2]; simp only [bg_m, bg_b, bg_k]; rw [tNr_d (by decide), tNr_6]
      · rw [r, p.2]; simp only [bg_k]; rw [tTr_d (by decide), tTr_6]; exact (bgs_c _ _ _).symm
    · obtain ⟨S2, q, r⟩ := p2
      obtain ⟨S3, q3, r3⟩ := p3
      refine ⟨S3, ?_, ?_⟩
      · rw [q3, q, r, p.2, tNr_d (by omega)]; simp only [bgs_m, bgs_b, bg_m, bg_b, bg_k]
      · rw [r3, r, p.2, tTr_d (by omega)]; simp only [bg_k, bgs_a]; rw [bgs_c]
theorem c_25 {n : Nat} {X : aX} {h : aH} {x1 x2 : Int32} {a1 a2 : Int} (S : wS h) (z1 : x1.toInt = a1) (z2 : x2.toInt = a2) : Pt n X zM25 0 [some (.ref 66), some (.int x1), some (.int x2)] [] h (qI (fun y h' => wS h' ∧ R25 (vw h) a1 a2 y (vw h'))) := l_25 n S z1 z2
def aNr (act k m b x : Int) : Int := if act = 0 then yNr k m b x else if act = 1 then cNr k k m b x else if act = 2 then hNr k m b x else tNr k k m b x
def aTr (act k : Int) : List Int := if act = 0 then yTr k else if act = 1 then cTr k k else if act = 2 then hTr k else tTr k k
def R20 (V : vS) (b k m act x r : Int) (V' : vS) : Prop := r = aNr act k m b x ∧ V' = bgs (up (up (up (up V 66 1 0) 66 2 b) 66 3 k) 66 4 m) (aTr act k)
theorem v20_2 {V : vS} {b k m : Int} : up (up (up (up V 66 1 0) 66 2 b) 66 3 k) 66 4 m 66 2 = b := by rw [up_j (by decide), up_j (by decide), up_s]
theorem v20_3 {V : vS} {b k m : Int} : up (up (up (up V 66 1 0) 66 2 b) 66 3 k) 66 4 m 66 3 = k := by rw [up_j (by decide), up_s]
theorem v20_4 {V : vS} {b k m : Int} : up (up (up (up V 66 1 0) 66 2 b) 66 3 k) 66 4 m 66 4 = m := by rw [up_s]

theorem d20_0 {n : Nat} {X : aX} {h : aH} {P : Int → aH → Prop} {x1 x2 x3 x4 x5 : Int32} {a1 a2 a3 a4 a5 : Int} (S : wS h) (z1 : x1.toInt = a1) (z2 : x2.toInt = a2) (z3 : x3.toInt = a3) (z4 : x4.toInt = a4) (z5 : x5.toInt = a5) (H : ((a4 = 0 → ∀ h_5 : aH, wS h_5 → vw h_5 = up (up (up (up (vw h) 66 1 0) 66 2 a1) 66 3 a2) 66 4 a3 → ∀ (y8 : Int) (h_8 : aH), (wS h_8 ∧ R22 (vw h_5) a2 a5 y8 (vw h_8)) → P y8 h_8) ∧ (a4 ≠ 0 → ((a4 = 1 → ∀ h_5 : aH, wS h_5 → vw h_5 = up (up (up (up (vw h) 66 1 0) 66 2 a1) 66 3 a2) 66 4 a3 → ∀ (y11 : Int) (h_11 : aH), (wS h_11 ∧ R23 (vw h_5) a2 a5 y11 (vw h_11)) → P y11 h_11) ∧ (a4 ≠ 1 → ((a4 = 2 → ∀ h_5 : aH, wS h_5 → vw h_5 = up (up (up (up (vw h) 66 1 0) 66 2 a1) 66 3 a2) 66 4 a3 → ∀ (y14 : Int) (h_14 : aH), (wS h_14 ∧ R24 (vw h_5) a2 a5 y14 (vw h_14)) → P y14 h_14) ∧ (a4 ≠ 2 → ∀ h_5 : aH, wS h_5 → vw h_5 = up (up (up (up (vw h) 66 1 0) 66 2 a1) 66 3 a2) 66 4 a3 → ∀ (y16 : Int) (h_16 : aH), (wS h_16 ∧ R25 (vw h_5) a2 a5 y16 (vw h_16)) → P y16 h_16))))))) : Pt (n + 1) X zM20 0 [some (.ref 66), some (.int x1), some (.int x2), some (.int x3), some (.int x4), some (.int x5)] [] h (qI P) := by
  refine pt_1 (fun n d => r_aloadn gx20_0 rfl) ?_
  refine pt_d (pt_iconst gx20_1 (fun v1 h1 => ?_))
  refine pt_d (pt_putI (B := 1) gx20_2 S h1 (fun h_2 S2 e2 => ?_))
  refine pt_d (pt_1 (fun n d => r_aloadn gx20_5 rfl) ?_)
  refine pt_d (pt_1 (fun n d => r_iloadn gx20_6 rfl) ?_)
  refine pt_d (pt_putI (B := 2) gx20_7 S2 z1 (fun h_3 S3 e3 => ?_))
  refine pt_d (pt_1 (fun n d => r_aloadn gx20_10 rfl) ?_)
  refine pt_d (pt_1 (fun n d => r_iloadn gx20_11 rfl) ?_)
  refine pt_d (pt_putI (B := 3) gx20_12 S3 z2 (fun h_4 S4 e4 => ?_))
  refine pt_d (pt_1 (fun n d => r_aloadn gx20_15 rfl) ?_)
  refine pt_d (pt_1 (fun n d => r_iloadn gx20_16 rfl) ?_)
  refine pt_d (pt_putI (B := 4) gx20_17 S4 z3 (fun h_5 S5 e5 => ?_))
  refine pt_d (pt_1 (fun n d => r_iload gx20_20 rfl) ?_)
  refine pt_d (pt_tsw gx20_22 ?_)
  refine pa_c (lo := 0) (lo' := 1) (p := 48) z4 (fun e6 => ?_) (fun e6 => ?_)
  · have H := H.1 e6
    refine pt_d (pt_1 (fun n d => r_aloadn gx20_48 rfl) ?_)
    refine pt_d (pt_1 (fun n d => r_aloadn gx20_49 rfl) ?_)
    refine pt_d (pt_getI (B := 3) gx20_50 S5 (fun v7 h7 => ?_))
    have h7 : v7.toInt = a2 := by rw [h7, e5, up_j (by decide), e4, up_s]
    refine pt_d (pt_1 (fun n d => r_iload gx20_53 rfl) ?_)
    have H := H h_5 S5 (by rw [e5, e4, e3, e2])
    refine pt_d (pt_virt (as := [.int v7, .int x5]) (r := []) gx20_55 rfl (show zmt[22]? = some zM22 from rfl) rfl rfl rfl rfl (c_22 S5 h7 z5) (kqI (fun v8 y8 h_8 h8 P8 => ?_)))
    have S8 := P8.1
    have H := H y8 h_8 P8
    show Pt _ _ _ 58 _ [.int v8] _ _
    exact pt_d (pt_iret gx20_58 ⟨_, rfl, by rw [h8]; exact H⟩)
  have H := H.2 e6
  refine pa_c (lo := 1) (lo' := 2) (p := 59) z4 (fun e9 => ?_) (fun e9 => ?_)
  · have H := H.1 e9
    refine pt_d (pt_1 (fun n d => r_aloadn gx20_59 rfl) ?_)
    refine pt_d (pt_1 (fun n d => r_aloadn gx20_60 rfl) ?_)
    refine pt_d (pt_getI (B := 3) gx20_61 S5 (fun v10 h10 => ?_))
    have h10 : v10.toInt = a2 := by rw [h10, e5, up_j (by decide), e4, up_s]
    refine pt_d (pt_1 (fun n d => r_iload gx20_64 rfl) ?_)
    have H := H h_5 S5 (by rw [e5, e4, e3, e2])
    refine pt_d (pt_virt (as := [.int v10, .int x5]) (r := []) gx20_66 rfl (show zmt[23]? = some zM23 from rfl) rfl rfl rfl rfl (c_23 S5 h10 z5) (kqI (fun v11 y11 h_11 h11 P11 => ?_)))
    have S11 := P11.1
    have H := H y11 h_11 P11
    show Pt _ _ _ 69 _ [.int v11] _ _
    exact pt_d (pt_iret gx20_69 ⟨_, rfl, by rw [h11]; exact H⟩)
  have H := H.2 e9
  refine pa_c (lo := 2) (lo' := 3) (p := 70) z4 (fun e12 => ?_) (fun e12 => ?_)
  · have H := H.1 e12
    refine pt_d (pt_1 (fun n d => r_aloadn gx20_70 rfl) ?_)
    refine pt_d (pt_1 (fun n d => r_aloadn gx20_71 rfl) ?_)
    refine pt_d (pt_getI (B := 3) gx20_72 S5 (fun v13 h13 => ?_))
    have h13 : v13.toInt = a2 := by rw [h13, e5, up_j (by decide), e4, up_s]
    refine pt_d (pt_1 (fun n d => r_iload gx20_75 rfl) ?_)
    have H := H h_5 S5 (by rw [e5, e4, e3, e2])
    refine pt_d (pt_virt (as := [.int v13, .int x5]) (r := []) gx20_77 rfl (show zmt[24]? = some zM24 from rfl) rfl rfl rfl rfl (c_24 S5 h13 z5) (kqI (fun v14 y14 h_14 h14 P14 => ?_)))
    have S14 := P14.1
    have H := H y14 h_14 P14
    show Pt _ _ _ 80 _ [.int v14] _ _
    exact pt_d (pt_iret gx20_80 ⟨_, rfl, by rw [h14]; exact H⟩)
  have H := H.2 e12
  refine pa_0 (p := 81) ?_
  refine pt_d (pt_1 (fun n d => r_aloadn gx20_81 rfl) ?_)
  refine pt_d (pt_1 (fun n d => r_aloadn gx20_82 rfl) ?_)
  refine pt_d (pt_getI (B := 3) gx20_83 S5 (fun v15 h15 => ?_))
  have h15 : v15.toInt = a2 := by rw [h15, e5, up_j (by decide), e4, up_s]
  refine pt_d (pt_1 (fun n d => r_iload gx20_86 rfl) ?_)
  have H := H h_5 S5 (by rw [e5, e4, e3, e2])
  refine pt_d (pt_virt (as := [.int v15, .int x5]) (r := []) gx20_88 rfl (show zmt[25]? = some zM25 from rfl) rfl rfl rfl rfl (c_25 S5 h15 z5) (kqI (fun v16 y16 h_16 h16 P16 => ?_)))
  have S16 := P16.1
  have H := H y16 h_16 P16
  show Pt _ _ _ 91 _ [.int v16] _ _
  exact pt_d (pt_iret gx20_91 ⟨_, rfl, by rw [h16]; exact H⟩)
theorem c_20 {n : Nat} {X : aX} {h : aH} {x1 x2 x3 x4 x5 : Int32} {a1 a2 a3 a4 a5 : Int} (S : wS h) (z1 : x1.toInt = a1) (z2 : x2.toInt = a2) (z3 : x3.toInt = a3) (z4 : x4.toInt = a4) (z5 : x5.toInt = a5) : Pt n X zM20 0 [some (.ref 66), some (.int x1), some (.int x2), some (.int x3), some (.int x4), some (.int x5)] [] h (qI (fun y h' => wS h' ∧ R20 (vw h) a1 a2 a3 a4 a5 y (vw h'))) := by
  refine pt_d (d20_0 S z1 z2 z3 z4 z5 ⟨fun e g S2 eg y g2 p => ?_, fun e0 => ⟨fun e g S2 eg y g2 p => ?_, fun e1 => ⟨fun e g S2 eg y g2 p => ?_, fun e2 g S2 eg y g2 p => ?_⟩⟩⟩)
  · obtain ⟨S3, q, r⟩ := p
    refine ⟨S3, ?_, ?_⟩
    · rw [q, eg, v20_2, v20_4]; unfold aNr; rw [if_pos e]
    · rw [r, eg]; unfold aTr; rw [if_pos e]
  · obtain ⟨S3, q, r⟩ := p
    refine ⟨S3, ?_, ?_⟩
    · rw [q, eg, v20_2, v20_3, v20_4]; unfold aNr; rw [if_neg e0, if_pos e]
    · rw [r, eg, v20_3]; unfold aTr; rw [if_neg e0, if_pos e]
  · obtain ⟨S3, q, r⟩ := p
    refine ⟨S3, ?_, ?_⟩
    · rw [q, eg, v20_2, v20_4]; unfold aNr; rw [if_neg e0, if_neg e1, if_pos e]
    · rw [r, eg]; unfold aTr; rw [if_neg e0, if_neg e1, if_pos e]
  · obtain ⟨S3, q, r⟩ := p
    refine ⟨S3, ?_, ?_⟩
    · rw [q, eg, v20_2, v20_3, v20_4]; unfold aNr; rw [if_neg e0, if_neg e1, if_neg e2]
    · rw [r, eg, v20_3]; unfold aTr; rw [if_neg e0, if_neg e1, if_neg e2]

def mM (V : vS) (b : Int) : Int := if (1 ≤ V 73 b ∧ V 73 b ≤ 3) ∨ V 73 b = 7 then V 74 b else V 78 b
theorem mM_1 {V : vS} {b : Int} (h : kFarm (V 73 b)) : mM V b = V 74 b := if_pos h
theorem mM_2 {V : vS} {b : Int} (h : ¬ kFarm (V 73 b)) : mM V b = V 78 b := if_neg h
theorem mM_bg {V : vS} {v b : Int} : mM (mbg V v) b = mM V b := by unfold mM; rw [mbg_73, mbg_74, mbg_78]
theorem mM_bgs {V : vS} {l : List Int} {b : Int} : mM (mbgs V l) b = mM V b := by unfold mM; rw [mbgs_73, mbgs_74, mbgs_78]
def R306 (V : vS) (b x r : Int) (V' : vS) : Prop := r = w32 (w32 (x * 2) - b) ∧ V' = mbgs V [1]
def R307 (V : vS) (b x r : Int) (V' : vS) : Prop := r = w32 (w32 (w32 (x * 2) - b) + V 74 b) ∧ V' = mbgs V [20, 1]
def R308 (V : vS) (b x r : Int) (V' : vS) : Prop := r = yNr (V 73 b) (mM V b) b x ∧ V' = mbgs V (yTr (V 73 b))
def R309 (V : vS) (b x r : Int) (V' : vS) : Prop := r = w32 (yNr (V 73 b) (mM V b) b x + 1) ∧ V' = mbgs V (10 :: yTr (V 73 b))
def R310 (V : vS) (b x r : Int) (V' : vS) : Prop := r = w32 (w32 (yNr (V 73 b) (mM V b) b x + 1) * 2) ∧ V' = mbgs V (30 :: 10 :: yTr (V 73 b))
def R311 (V : vS) (b x r : Int) (V' : vS) : Prop := r = cNr (V 73 b) (V 73 b) (mM V b) b x ∧ V' = mbgs V (cTr (V 73 b) (V 73 b))
def R312 (V : vS) (b x r : Int) (V' : vS) : Prop := r = bXor x b ∧ V' = mbgs V [11]
def R313 (V : vS) (b x r : Int) (V' : vS) : Prop := r = hNr (V 73 b) (mM V b) b x ∧ V' = mbgs V (hTr (V 73 b))
def R314 (V : vS) (b x r : Int) (V' : vS) : Prop := r = hNr (V 73 b) (mM V b) b (cNr (V 73 b) (V 73 b) (mM V b) b x) ∧ V' = mbgs V (2 :: (cTr (V 73 b) (V 73 b) ++ hTr (V 73 b)))
def R315 (V : vS) (b x r : Int) (V' : vS) : Prop := r = tNr (V 73 b) (V 73 b) (mM V b) b x ∧ V' = mbgs V (tTr (V 73 b) (V 73 b))

theorem d306_0 {n : Nat} {X : aX} {h : aH} {P : Int → aH → Prop} {x1 x2 : Int32} {a1 a2 : Int} (S : wS h) (z1 : x1.toInt = a1) (z2 : x2.toInt = a2) (H : ∀ (h_2 : aH), (wS h_2 ∧ vw h_2 = mbg (vw h) 1) → P (w32 ((w32 (a2 * 2)) - a1)) h_2) : Pt (n + 1) X zM306 0 [some (.ref 72), some (.int x1), some (.int x2)] [] h (qI P) := by
  refine pt_1 (fun n d => r_aloadn gx306_0 rfl) ?_
  refine pt_d (pt_iconst gx306_1 (fun v1 h1 => ?_))
  refine pt_d (pt_virt (as := [.int v1]) (r := []) gx306_2 rfl (show zmt[305]? = some zM305 from rfl) rfl rfl rfl rfl (c_305 S h1) (kqN (fun h_2 P2 => ?_)))
  have S2 := P2.1
  have H := H h_2 P2
  show Pt _ _ _ 5 _ [] _ _
  refine pt_d (pt_1 (fun n d => r_iloadn gx306_5 rfl) ?_)
  refine pt_d (pt_iconst gx306_6 (fun v3 h3 => ?_))
  refine pt_d (pt_imul gx306_7 z2 h3 (fun v4 h4 => ?_))
  refine pt_d (pt_1 (fun n d => r_iloadn gx306_8 rfl) ?_)
  refine pt_d (pt_isub gx306_9 h4 z1 (fun v5 h5 => ?_))
  exact pt_d (pt_iret gx306_10 ⟨_, rfl, by rw [h5]; exact H⟩)
theorem c_306 {n : Nat} {X : aX} {h : aH} {x1 x2 : Int32} {a1 a2 : Int} (S : wS h) (z1 : x1.toInt = a1) (z2 : x2.toInt = a2) : Pt n X zM306 0 [some (.ref 72), some (.int x1), some (.int x2)] [] h (qI (fun y h' => wS h' ∧ R306 (vw h) a1 a2 y (vw h'))) := by
  refine pt_d (d306_0 S z1 z2 (fun g p => ⟨p.1, rfl, p.2.trans rfl⟩))
theorem d307_0 {n : Nat} {X : aX} {h : aH} {P : Int → aH → Prop} {x1 x2 : Int32} {a1 a2 : Int} (S : wS h) (z1 : x1.toInt = a1) (z2 : x2.toInt = a2) (H : ∀ (h_2 : aH), (wS h_2 ∧ vw h_2 = mbg (vw h) 20) → ∀ (y3 : Int) (h_3 : aH), (wS h_3 ∧ R306 (vw h_2) a1 a2 y3 (vw h_3)) → (0 ≤ a1 → a1 < 150 → P (w32 (y3 + (vw h_3 74 a1))) h_3)) : Pt (n + 1) X zM307 0 [some (.ref 72), some (.int x1), some (.int x2)] [] h (qI P) := by
  refine pt_1 (fun n d => r_aloadn gx307_0 rfl) ?_
  refine pt_d (pt_bipush gx307_1 (fun v1 h1 => ?_))
  refine pt_d (pt_virt (as := [.int v1]) (r := []) gx307_3 rfl (show zmt[305]? = some zM305 from rfl) rfl rfl rfl rfl (c_305 S h1) (kqN (fun h_2 P2 => ?_)))
  have S2 := P2.1
  have H := H h_2 P2
  show Pt _ _ _ 6 _ [] _ _
  refine pt_d (pt_1 (fun n d => r_aloadn gx307_6 rfl) ?_)
  refine pt_d (pt_1 (fun n d => r_iloadn gx307_7 rfl) ?_)
  refine pt_d (pt_1 (fun n d => r_iloadn gx307_8 rfl) ?_)
  refine pt_d (pt_virt (as := [.int x1, .int x2]) (r := []) gx307_9 rfl (show zmt[306]? = some zM306 from rfl) rfl rfl rfl rfl (c_306 S2 z1 z2) (kqI (fun v3 y3 h_3 h3 P3 => ?_)))
  have S3 := P3.1
  have H := H y3 h_3 P3
  show Pt _ _ _ 12 _ [.int v3] _ _
  refine pt_d (pt_1 (fun n d => r_aloadn gx307_12 rfl) ?_)
  refine pt_d (pt_getR gx307_13 S3 tr_72_4 ?_)
  refine pt_d (pt_1 (fun n d => r_iloadn gx307_16 rfl) ?_)
  refine pt_d (pt_iald (N' := 150) gx307_17 S3 tl_74 z1 (fun v5 p5 q5 h5 => ?_))
  have H := H p5 q5
  refine pt_d (pt_iadd gx307_18 h3 h5 (fun v6 h6 => ?_))
  exact pt_d (pt_iret gx307_19 ⟨_, rfl, by rw [h6]; exact H⟩)
theorem c_307 {n : Nat} {X : aX} {h : aH} {x1 x2 : Int32} {a1 a2 : Int} (S : wS h) (z1 : x1.toInt = a1) (z2 : x2.toInt = a2) : Pt n X zM307 0 [some (.ref 72), some (.int x1), some (.int x2)] [] h (qI (fun y h' => wS h' ∧ R307 (vw h) a1 a2 y (vw h'))) := by
  refine pt_d (d307_0 S z1 z2 (fun g p y g2 p2 _ _ => ?_))
  obtain ⟨S2, q, r⟩ := p2
  refine ⟨S2, ?_, ?_⟩
  · rw [q, r, p.2, mbgs_74, mbg_74]
  · rw [r, p.2]; rfl
theorem d308_0 {n : Nat} {X : aX} {h : aH} {P : Int → aH → Prop} {x1 x2 : Int32} {a1 a2 : Int} (S : wS h) (z1 : x1.toInt = a1) (z2 : x2.toInt = a2) (H : (0 ≤ a1 → a1 < 150 → ((vw h 73 a1 ≠ 3 → ((vw h 73 a1 ≠ 7 → ((¬ (uF (vw h 73 a1) 1) → ∀ (y14 : Int) (h_14 : aH), (wS h_14 ∧ R306 (vw h) a1 a2 y14 (vw h_14)) → P y14 h_14) ∧ ((uF (vw h 73 a1) 1) → ∀ (y15 : Int) (h_15 : aH), (wS h_15 ∧ R307 (vw h) a1 a2 y15 (vw h_15)) → P y15 h_15))) ∧ (vw h 73 a1 = 7 → ∀ (h_17 : aH), (wS h_17 ∧ vw h_17 = mbg (vw h) 80) → ∀ (y18 : Int) (h_18 : aH), (wS h_18 ∧ R307 (vw h_17) a1 a2 y18 (vw h_18)) → P (bXor y18 3) h_18))) ∧ (vw h 73 a1 = 3 → ∀ (h_22 : aH), (wS h_22 ∧ vw h_22 = mbg (vw h) 40) → ∀ (y23 : Int) (h_23 : aH), (wS h_23 ∧ R307 (vw h_22) a1 a2 y23 (vw h_23)) → P (w32 (-y23)) h_23)))) : Pt (n + 1) X zM308 0 [some (.ref 72), some (.int x1), some (.int x2)] [] h (qI P) := by
  refine pt_1 (fun n d => r_aloadn gx308_0 rfl) ?_
  refine pt_d (pt_getR gx308_1 S tr_72_3 ?_)
  refine pt_d (pt_1 (fun n d => r_iloadn gx308_4 rfl) ?_)
  refine pt_d (pt_iald (N' := 150) gx308_5 S tl_73 z1 (fun v2 p2 q2 h2 => ?_))
  have H := H p2 q2
  refine pt_d (pt_iconst gx308_6 (fun v3 h3 => ?_))
  refine pt_d (pt_icmp_ne gx308_7 h2 h3 (fun e4 => ?_) (fun e4 => ?_))
  · have H := H.1 e4
    refine pt_d (pt_1 (fun n d => r_aloadn gx308_24 rfl) ?_)
    refine pt_d (pt_getR gx308_25 S tr_72_3 ?_)
    refine pt_d (pt_1 (fun n d => r_iloadn gx308_28 rfl) ?_)
    refine pt_d (pt_iald (N' := 150) gx308_29 S tl_73 z1 (fun v6 p6 q6 h6 => ?_))
    refine pt_d (pt_bipush gx308_30 (fun v7 h7 => ?_))
    refine pt_d (pt_icmp_ne gx308_32 h6 h7 (fun e8 => ?_) (fun e8 => ?_))
    · have H := H.1 e8
      refine pt_d (pt_1 (fun n d => r_aloadn gx308_50 rfl) ?_)
      refine pt_d (pt_getR gx308_51 S tr_72_3 ?_)
      refine pt_d (pt_1 (fun n d => r_iloadn gx308_54 rfl) ?_)
      refine pt_d (pt_iald (N' := 150) gx308_55 S tl_73 z1 (fun v10 p10 q10 h10 => ?_))
      refine pt_d (pt_iconst gx308_56 (fun v11 h11 => ?_))
      refine pt_d (pt_stat (as := [.int v10, .int v11]) (r := []) gx308_57 rfl (show zmt[201]? = some zM201 from rfl) rfl rfl rfl rfl (c_201 S h10 h11) (kqP (fun v12 h12 => ?_)))
      show Pt _ _ _ 60 _ [.int v12] _ _
      refine pt_d (pt_ifB_eq gx308_60 h12 (fun e13 => ?_) (fun e13 => ?_))
      · have H := H.1 e13
        refine pt_d (pt_1 (fun n d => r_aloadn gx308_72 rfl) ?_)
        refine pt_d (pt_1 (fun n d => r_iloadn gx308_73 rfl) ?_)
        refine pt_d (pt_1 (fun n d => r_iloadn gx308_74 rfl) ?_)
        refine pt_d (pt_virt (as := [.int x1, .int x2]) (r := []) gx308_75 rfl (show zmt[306]? = some zM306 from rfl) rfl rfl rfl rfl (c_306 S z1 z2) (kqI (fun v14 y14 h_14 h14 P14 => ?_)))
        have S14 := P14.1
        have H := H y14 h_14 P14
        show Pt _ _ _ 78 _ [.int v14] _ _
        exact pt_d (pt_iret gx308_78 ⟨_, rfl, by rw [h14]; exact H⟩)
      · have H := H.2 e13
        refine pt_d (pt_1 (fun n d => r_aloadn gx308_63 rfl) ?_)
        refine pt_d (pt_1 (fun n d => r_iloadn gx308_64 rfl) ?_)
        refine pt_d (pt_1 (fun n d => r_iloadn gx308_65 rfl) ?_)
        refine pt_d (pt_virt (as := [.int x1, .int x2]) (r := []) gx308_66 rfl (show zmt[307]? = some zM307 from rfl) rfl rfl rfl rfl (c_307 S z1 z2) (kqI (fun v15 y15 h_15 h15 P15 => ?_)))
        have S15 := P15.1
        have H := H y15 h_15 P15
        show Pt _ _ _ 69 _ [.int v15] _ _
        refine pt_d (pt_1 (fun n d => r_goto gx308_69) ?_)
        exact pt_d (pt_iret gx308_78 ⟨_, rfl, by rw [h15]; exact H⟩)
    · have H := H.2 e8
      refine pt_d (pt_1 (fun n d => r_aloadn gx308_35 rfl) ?_)
      refine pt_d (pt_bipush gx308_36 (fun v16 h16 => ?_))
      refine pt_d (pt_virt (as := [.int v16]) (r := []) gx308_38 rfl (show zmt[305]? = some zM305 from rfl) rfl rfl rfl rfl (c_305 S h16) (kqN (fun h_17 P17 => ?_)))
      have S17 := P17.1
      have H := H h_17 P17
      show Pt _ _ _ 41 _ [] _ _
      refine pt_d (pt_1 (fun n d => r_aloadn gx308_41 rfl) ?_)
      refine pt_d (pt_1 (fun n d => r_iloadn gx308_42 rfl) ?_)
      refine pt_d (pt_1 (fun n d => r_iloadn gx308_43 rfl) ?_)
      refine pt_d (pt_virt (as := [.int x1, .int x2]) (r := []) gx308_44 rfl (show zmt[307]? = some zM307 from rfl) rfl rfl rfl rfl (c_307 S17 z1 z2) (kqI (fun v18 y18 h_18 h18 P18 => ?_)))
      have S18 := P18.1
      have H := H y18 h_18 P18
      show Pt _ _ _ 47 _ [.int v18] _ _
      refine pt_d (pt_iconst gx308_47 (fun v19 h19 => ?_))
      refine pt_d (pt_ixor gx308_48 h18 h19 (fun v20 h20 => ?_))
      exact pt_d (pt_iret gx308_49 ⟨_, rfl, by rw [h20]; exact H⟩)
  · have H := H.2 e4
    refine pt_d (pt_1 (fun n d => r_aloadn gx308_10 rfl) ?_)
    refine pt_d (pt_bipush gx308_11 (fun v21 h21 => ?_))
    refine pt_d (pt_virt (as := [.int v21]) (r := []) gx308_13 rfl (show zmt[305]? = some zM305 from rfl) rfl rfl rfl rfl (c_305 S h21) (kqN (fun h_22 P22 => ?_)))
    have S22 := P22.1
    have H := H h_22 P22
    show Pt _ _ _ 16 _ [] _ _
    refine pt_d (pt_1 (fun n d => r_aloadn gx308_16 rfl) ?_)
    refine pt_d (pt_1 (fun n d => r_iloadn gx308_17 rfl) ?_)
    refine pt_d (pt_1 (fun n d => r_iloadn gx308_18 rfl) ?_)
    refine pt_d (pt_virt (as := [.int x1, .int x2]) (r := []) gx308_19 rfl (show zmt[307]? = some zM307 from rfl) rfl rfl rfl rfl (c_307 S22 z1 z2) (kqI (fun v23 y23 h_23 h23 P23 => ?_)))
    have S23 := P23.1
    have H := H y23 h_23 P23
    show Pt _ _ _ 22 _ [.int v23] _ _
    refine pt_d (pt_ineg gx308_22 h23 (fun v24 h24 => ?_))
    exact pt_d (pt_iret gx308_23 ⟨_, rfl, by rw [h24]; exact H⟩)
theorem c_308 {n : Nat} {X : aX} {h : aH} {x1 x2 : Int32} {a1 a2 : Int} (S : wS h) (z1 : x1.toInt = a1) (z2 : x2.toInt = a2) : Pt n X zM308 0 [some (.ref 72), some (.int x1), some (.int x2)] [] h (qI (fun y h' => wS h' ∧ R308 (vw h) a1 a2 y (vw h'))) := by
  refine pt_d (d308_0 S z1 z2 (fun _ _ => ⟨fun e3 => ⟨fun e7 => ⟨fun e1 y g p => ?_, fun e1 y g p => ?_⟩, fun e g p y g2 p2 => ?_⟩, fun e g p y g2 p2 => ?_⟩))
  · obtain ⟨S2, q, r⟩ := p
    have hk : vw h 73 a1 ≠ 1 ∧ vw h 73 a1 ≠ 2 ∧ vw h 73 a1 ≠ 3 ∧ vw h 73 a1 ≠ 7 := by unfold uF at e1; omega
    exact ⟨S2, by rw [yNr_d hk, q], by rw [yTr_d hk, r]⟩
  · obtain ⟨S2, q, r⟩ := p
    have hk : vw h 73 a1 = 1 ∨ vw h 73 a1 = 2 := by unfold uF at e1; omega
    refine ⟨S2, ?_, ?_⟩
    · rw [mM_1 (by unfold kFarm; omega), q]; unfold yNr; rw [if_pos hk]
    · rw [r]; unfold yTr; rw [if_pos hk]
  · obtain ⟨S2, q, r⟩ := p2
    refine ⟨S2, ?_, ?_⟩
    · rw [mM_1 (by unfold kFarm; omega), q, p.2, mbg_74, e]; rfl
    · rw [r, p.2, e]; rfl
  · obtain ⟨S2, q, r⟩ := p2
    refine ⟨S2, ?_, ?_⟩
    · rw [mM_1 (by unfold kFarm; omega), q, p.2, mbg_74, e]; rfl
    · rw [r, p.2, e]; rfl
theorem d309_0 {n : Nat} {X : aX} {h : aH} {P : Int → aH → Prop} {x1 x2 : Int32} {a1 a2 : Int} (S : wS h) (z1 : x1.toInt = a1) (z2 : x2.toInt = a2) (H : ∀ (h_2 : aH), (wS h_2 ∧ vw h_2 = mbg (vw h) 10) → ∀ (y3 : Int) (h_3 : aH), (wS h_3 ∧ R308 (vw h_2) a1 a2 y3 (vw h_3)) → P (w32 (y3 + 1)) h_3) : Pt (n + 1) X zM309 0 [some (.ref 72), some (.int x1), some (.int x2)] [] h (qI P) := by
  refine pt_1 (fun n d => r_aloadn gx309_0 rfl) ?_
  refine pt_d (pt_bipush gx309_1 (fun v1 h1 => ?_))
  refine pt_d (pt_virt (as := [.int v1]) (r := []) gx309_3 rfl (show zmt[305]? = some zM305 from rfl) rfl rfl rfl rfl (c_305 S h1) (kqN (fun h_2 P2 => ?_)))
  have S2 := P2.1
  have H := H h_2 P2
  show Pt _ _ _ 6 _ [] _ _
  refine pt_d (pt_1 (fun n d => r_aloadn gx309_6 rfl) ?_)
  refine pt_d (pt_1 (fun n d => r_iloadn gx309_7 rfl) ?_)
  refine pt_d (pt_1 (fun n d => r_iloadn gx309_8 rfl) ?_)
  refine pt_d (pt_virt (as := [.int x1, .int x2]) (r := []) gx309_9 rfl (show zmt[308]? = some zM308 from rfl) rfl rfl rfl rfl (c_308 S2 z1 z2) (kqI (fun v3 y3 h_3 h3 P3 => ?_)))
  have S3 := P3.1
  have H := H y3 h_3 P3
  show Pt _ _ _ 12 _ [.int v3] _ _
  refine pt_d (pt_iconst gx309_12 (fun v4 h4 => ?_))
  refine pt_d (pt_iadd gx309_13 h3 h4 (fun v5 h5 => ?_))
  exact pt_d (pt_iret gx309_14 ⟨_, rfl, by rw [h5]; exact H⟩)
theorem c_309 {n : Nat} {X : aX} {h : aH} {x1 x2 : Int32} {a1 a2 : Int} (S : wS h) (z1 : x1.toInt = a1) (z2 : x2.toInt = a2) : Pt n X zM309 0 [some (.ref 72), some (.int x1), some (.int x2)] [] h (qI (fun y h' => wS h' ∧ R309 (vw h) a1 a2 y (vw h'))) := by
  refine pt_d (d309_0 S z1 z2 (fun g p y g2 p2 => ?_))
  obtain ⟨S2, q, r⟩ := p2
  refine ⟨S2, ?_, ?_⟩
  · rw [q, p.2, mbg_73, mM_bg]
  · rw [r, p.2, mbg_73]; rfl
theorem d310_0 {n : Nat} {X : aX} {h : aH} {P : Int → aH → Prop} {x1 x2 : Int32} {a1 a2 : Int} (S : wS h) (z1 : x1.toInt = a1) (z2 : x2.toInt = a2) (H : ∀ (h_2 : aH), (wS h_2 ∧ vw h_2 = mbg (vw h) 30) → ∀ (y3 : Int) (h_3 : aH), (wS h_3 ∧ R309 (vw h_2) a1 a2 y3 (vw h_3)) → P (w32 (y3 * 2)) h_3) : Pt (n + 1) X zM310 0 [some (.ref 72), some (.int x1), some (.int x2)] [] h (qI P) := by
  refine pt_1 (fun n d => r_aloadn gx310_0 rfl) ?_
  refine pt_d (pt_bipush gx310_1 (fun v1 h1 => ?_))
  refine pt_d (pt_virt (as := [.int v1]) (r := []) gx310_3 rfl (show zmt[305]? = some zM305 from rfl) rfl rfl rfl rfl (c_305 S h1) (kqN (fun h_2 P2 => ?_)))
  have S2 := P2.1
  have H := H h_2 P2
  show Pt _ _ _ 6 _ [] _ _
  refine pt_d (pt_1 (fun n d => r_aloadn gx310_6 rfl) ?_)
  refine pt_d (pt_1 (fun n d => r_iloadn gx310_7 rfl) ?_)
  refine pt_d (pt_1 (fun n d => r_iloadn gx310_8 rfl) ?_)
  refine pt_d (pt_virt (as := [.int x1, .int x2]) (r := []) gx310_9 rfl (show zmt[309]? = some zM309 from rfl) rfl rfl rfl rfl (c_309 S2 z1 z2) (kqI (fun v3 y3 h_3 h3 P3 => ?_)))
  have S3 := P3.1
  have H := H y3 h_3 P3
  show Pt _ _ _ 12 _ [.int v3] _ _
  refine pt_d (pt_iconst gx310_12 (fun v4 h4 => ?_))
  refine pt_d (pt_imul gx310_13 h3 h4 (fun v5 h5 => ?_))
  exact pt_d (pt_iret gx310_14 ⟨_, rfl, by rw [h5]; exact H⟩)
theorem c_310 {n : Nat} {X : aX} {h : aH} {x1 x2 : Int32} {a1 a2 : Int} (S : wS h) (z1 : x1.toInt = a1) (z2 : x2.toInt = a2) : Pt n X zM310 0 [some (.ref 72), some (.int x1), some (.int x2)] [] h (qI (fun y h' => wS h' ∧ R310 (vw h) a1 a2 y (vw h'))) := by
  refine pt_d (d310_0 S z1 z2 (fun g p y g2 p2 => ?_))
  obtain ⟨S2, q, r⟩ := p2
  refine ⟨S2, ?_, ?_⟩
  · rw [q, p.2, mbg_73, mM_bg]
  · rw [r, p.2, mbg_73]; rfl
theorem d312_0 {n : Nat} {X : aX} {h : aH} {P : Int → aH → Prop} {x1 x2 : Int32} {a1 a2 : Int} (S : wS h) (z1 : x1.toInt = a1) (z2 : x2.toInt = a2) (H : ∀ (h_2 : aH), (wS h_2 ∧ vw h_2 = mbg (vw h) 11) → P (bXor a2 a1) h_2) : Pt (n + 1) X zM312 0 [some (.ref 72), some (.int x1), some (.int x2)] [] h (qI P) := by
  refine pt_1 (fun n d => r_aloadn gx312_0 rfl) ?_
  refine pt_d (pt_bipush gx312_1 (fun v1 h1 => ?_))
  refine pt_d (pt_virt (as := [.int v1]) (r := []) gx312_3 rfl (show zmt[305]? = some zM305 from rfl) rfl rfl rfl rfl (c_305 S h1) (kqN (fun h_2 P2 => ?_)))
  have S2 := P2.1
  have H := H h_2 P2
  show Pt _ _ _ 6 _ [] _ _
  refine pt_d (pt_1 (fun n d => r_iloadn gx312_6 rfl) ?_)
  refine pt_d (pt_1 (fun n d => r_iloadn gx312_7 rfl) ?_)
  refine pt_d (pt_ixor gx312_8 z2 z1 (fun v3 h3 => ?_))
  exact pt_d (pt_iret gx312_9 ⟨_, rfl, by rw [h3]; exact H⟩)
theorem c_312 {n : Nat} {X : aX} {h : aH} {x1 x2 : Int32} {a1 a2 : Int} (S : wS h) (z1 : x1.toInt = a1) (z2 : x2.toInt = a2) : Pt n X zM312 0 [some (.ref 72), some (.int x1), some (.int x2)] [] h (qI (fun y h' => wS h' ∧ R312 (vw h) a1 a2 y (vw h'))) := by
  refine pt_d (d312_0 S z1 z2 (fun g p => ⟨p.1, rfl, p.2.trans rfl⟩))
theorem d313_0 {n : Nat} {X : aX} {h : aH} {P : Int → aH → Prop} {x1 x2 : Int32} {a1 a2 : Int} (S : wS h) (z1 : x1.toInt = a1) (z2 : x2.toInt = a2) (H : (0 ≤ a1 → a1 < 150 → ((¬ (uF (vw h 73 a1) 4) → ∀ (y6 : Int) (h_6 : aH), (wS h_6 ∧ R312 (vw h) a1 a2 y6 (vw h_6)) → P y6 h_6) ∧ ((uF (vw h 73 a1) 4) → ∀ (h_8 : aH), (wS h_8 ∧ vw h_8 = mbg (vw h) 50) → ∀ (y9 : Int) (h_9 : aH), (wS h_9 ∧ R312 (vw h_8) a1 a2 y9 (vw h_9)) → P (w32 (y9 + (vw h_9 78 a1))) h_9)))) : Pt (n + 1) X zM313 0 [some (.ref 72), some (.int x1), some (.int x2)] [] h (qI P) := by
  refine pt_1 (fun n d => r_aloadn gx313_0 rfl) ?_
  refine pt_d (pt_getR gx313_1 S tr_72_3 ?_)
  refine pt_d (pt_1 (fun n d => r_iloadn gx313_4 rfl) ?_)
  refine pt_d (pt_iald (N' := 150) gx313_5 S tl_73 z1 (fun v2 p2 q2 h2 => ?_))
  have H := H p2 q2
  refine pt_d (pt_iconst gx313_6 (fun v3 h3 => ?_))
  refine pt_d (pt_stat (as := [.int v2, .int v3]) (r := []) gx313_7 rfl (show zmt[201]? = some zM201 from rfl) rfl rfl rfl rfl (c_201 S h2 h3) (kqP (fun v4 h4 => ?_)))
  show Pt _ _ _ 10 _ [.int v4] _ _
  refine pt_d (pt_ifB_eq gx313_10 h4 (fun e5 => ?_) (fun e5 => ?_))
  · have H := H.1 e5
    refine pt_d (pt_1 (fun n d => r_aloadn gx313_33 rfl) ?_)
    refine pt_d (pt_1 (fun n d => r_iloadn gx313_34 rfl) ?_)
    refine pt_d (pt_1 (fun n d => r_iloadn gx313_35 rfl) ?_)
    refine pt_d (pt_virt (as := [.int x1, .int x2]) (r := []) gx313_36 rfl (show zmt[312]? = some zM312 from rfl) rfl rfl rfl rfl (c_312 S z1 z2) (kqI (fun v6 y6 h_6 h6 P6 => ?_)))
    have S6 := P6.1
    have H := H y6 h_6 P6
    show Pt _ _ _ 39 _ [.int v6] _ _
    exact pt_d (pt_iret gx313_39 ⟨_, rfl, by rw [h6]; exact H⟩)
  · have H := H.2 e5
    refine pt_d (pt_1 (fun n d => r_aloadn gx313_13 rfl) ?_)
    refine pt_d (pt_bipush gx313_14 (fun v7 h7 => ?_))
    refine pt_d (pt_virt (as := [.int v7]) (r := []) gx313_16 rfl (show zmt[305]? = some zM305 from rfl) rfl rfl rfl rfl (c_305 S h7) (kqN (fun h_8 P8 => ?_)))
    have S8 := P8.1
    have H := H h_8 P8
    show Pt _ _ _ 19 _ [] _ _
    refine pt_d (pt_1 (fun n d => r_aloadn gx313_19 rfl) ?_)
    refine pt_d (pt_1 (fun n d => r_iloadn gx313_20 rfl) ?_)
    refine pt_d (pt_1 (fun n d => r_iloadn gx313_21 rfl) ?_)
    refine pt_d (pt_virt (as := [.int x1, .int x2]) (r := []) gx313_22 rfl (show zmt[312]? = some zM312 from rfl) rfl rfl rfl rfl (c_312 S8 z1 z2) (kqI (fun v9 y9 h_9 h9 P9 => ?_)))
    have S9 := P9.1
    have H := H y9 h_9 P9
    show Pt _ _ _ 25 _ [.int v9] _ _
    refine pt_d (pt_1 (fun n d => r_aloadn gx313_25 rfl) ?_)
    refine pt_d (pt_getR gx313_26 S9 tr_72_8 ?_)
    refine pt_d (pt_1 (fun n d => r_iloadn gx313_29 rfl) ?_)
    refine pt_d (pt_iald (N' := 150) gx313_30 S9 tl_78 z1 (fun v11 p11 q11 h11 => ?_))
    refine pt_d (pt_iadd gx313_31 h9 h11 (fun v12 h12 => ?_))
    exact pt_d (pt_iret gx313_32 ⟨_, rfl, by rw [h12]; exact H⟩)
theorem c_313 {n : Nat} {X : aX} {h : aH} {x1 x2 : Int32} {a1 a2 : Int} (S : wS h) (z1 : x1.toInt = a1) (z2 : x2.toInt = a2) : Pt n X zM313 0 [some (.ref 72), some (.int x1), some (.int x2)] [] h (qI (fun y h' => wS h' ∧ R313 (vw h) a1 a2 y (vw h'))) := by
  refine pt_d (d313_0 S z1 z2 (fun _ _ => ⟨fun e1 y g p => ?_, fun e g p y g2 p2 => ?_⟩))
  · obtain ⟨S2, q, r⟩ := p
    have hk : vw h 73 a1 ≠ 4 ∧ vw h 73 a1 ≠ 5 := by unfold uF at e1; omega
    exact ⟨S2, by rw [hNr_d hk, q], by rw [hTr_d hk, r]⟩
  · obtain ⟨S2, q, r⟩ := p2
    have hk : vw h 73 a1 = 4 ∨ vw h 73 a1 = 5 := by unfold uF at e; omega
    refine ⟨S2, ?_, ?_⟩
    · rw [mM_2 (by unfold kFarm; omega), q, r, p.2, mbgs_78, mbg_78]; unfold hNr; rw [if_pos hk]
    · rw [r, p.2]; unfold hTr; rw [if_pos hk]; rfl
theorem d311_0 {n : Nat} {X : aX} {h : aH} {P : Int → aH → Prop} {x1 x2 : Int32} {a1 a2 : Int} (S : wS h) (z1 : x1.toInt = a1) (z2 : x2.toInt = a2) (H : (0 ≤ a1 → a1 < 150 → ((vw h 73 a1 ≠ 7 → ((vw h 73 a1 ≠ 2 → ((vw h 73 a1 ≠ 5 → ∀ (y13 : Int) (h_13 : aH), (wS h_13 ∧ R309 (vw h) a1 a2 y13 (vw h_13)) → P y13 h_13) ∧ (vw h 73 a1 = 5 → ∀ (h_15 : aH), (wS h_15 ∧ vw h_15 = mbg (vw h) 60) → ∀ (y16 : Int) (h_16 : aH), (wS h_16 ∧ R309 (vw h_15) a1 a2 y16 (vw h_16)) → ∀ (y18 : Int) (h_18 : aH), (wS h_18 ∧ R313 (vw h_16) a1 2 y18 (vw h_18)) → P (w32 (y16 - y18)) h_18))) ∧ (vw h 73 a1 = 2 → ∀ (y20 : Int) (h_20 : aH), (wS h_20 ∧ R310 (vw h) a1 a2 y20 (vw h_20)) → P y20 h_20))) ∧ (vw h 73 a1 = 7 → ∀ (h_22 : aH), (wS h_22 ∧ vw h_22 = mbg (vw h) 81) → ∀ (y23 : Int) (h_23 : aH), (wS h_23 ∧ R310 (vw h_22) a1 a2 y23 (vw h_23)) → ∀ (y24 : Int) (h_24 : aH), (wS h_24 ∧ R307 (vw h_23) a1 a2 y24 (vw h_24)) → P (w32 (y23 + y24)) h_24)))) : Pt (n + 1) X zM311 0 [some (.ref 72), some (.int x1), some (.int x2), none] [] h (qI P) := by
  refine pt_1 (fun n d => r_aloadn gx311_0 rfl) ?_
  refine pt_d (pt_getR gx311_1 S tr_72_3 ?_)
  refine pt_d (pt_1 (fun n d => r_iloadn gx311_4 rfl) ?_)
  refine pt_d (pt_iald (N' := 150) gx311_5 S tl_73 z1 (fun v2 p2 q2 h2 => ?_))
  have H := H p2 q2
  refine pt_d (pt_bipush gx311_6 (fun v3 h3 => ?_))
  refine pt_d (pt_icmp_ne gx311_8 h2 h3 (fun e4 => ?_) (fun e4 => ?_))
  · have H := H.1 e4
    refine pt_d (pt_1 (fun n d => r_aloadn gx311_33 rfl) ?_)
    refine pt_d (pt_getR gx311_34 S tr_72_3 ?_)
    refine pt_d (pt_1 (fun n d => r_iloadn gx311_37 rfl) ?_)
    refine pt_d (pt_iald (N' := 150) gx311_38 S tl_73 z1 (fun v6 p6 q6 h6 => ?_))
    refine pt_d (pt_iconst gx311_39 (fun v7 h7 => ?_))
    refine pt_d (pt_icmp_ne gx311_40 h6 h7 (fun e8 => ?_) (fun e8 => ?_))
    · have H := H.1 e8
      refine pt_d (pt_1 (fun n d => r_aloadn gx311_50 rfl) ?_)
      refine pt_d (pt_getR gx311_51 S tr_72_3 ?_)
      refine pt_d (pt_1 (fun n d => r_iloadn gx311_54 rfl) ?_)
      refine pt_d (pt_iald (N' := 150) gx311_55 S tl_73 z1 (fun v10 p10 q10 h10 => ?_))
      refine pt_d (pt_iconst gx311_56 (fun v11 h11 => ?_))
      refine pt_d (pt_icmp_ne gx311_57 h10 h11 (fun e12 => ?_) (fun e12 => ?_))
      · have H := H.1 e12
        refine pt_d (pt_1 (fun n d => r_aloadn gx311_82 rfl) ?_)
        refine pt_d (pt_1 (fun n d => r_iloadn gx311_83 rfl) ?_)
        refine pt_d (pt_1 (fun n d => r_iloadn gx311_84 rfl) ?_)
        refine pt_d (pt_virt (as := [.int x1, .int x2]) (r := []) gx311_85 rfl (show zmt[309]? = some zM309 from rfl) rfl rfl rfl rfl (c_309 S z1 z2) (kqI (fun v13 y13 h_13 h13 P13 => ?_)))
        have S13 := P13.1
        have H := H y13 h_13 P13
        show Pt _ _ _ 88 _ [.int v13] _ _
        exact pt_d (pt_iret gx311_88 ⟨_, rfl, by rw [h13]; exact H⟩)
      · have H := H.2 e12
        refine pt_d (pt_1 (fun n d => r_aloadn gx311_60 rfl) ?_)
        refine pt_d (pt_bipush gx311_61 (fun v14 h14 => ?_))
        refine pt_d (pt_virt (as := [.int v14]) (r := []) gx311_63 rfl (show zmt[305]? = some zM305 from rfl) rfl rfl rfl rfl (c_305 S h14) (kqN (fun h_15 P15 => ?_)))
        have S15 := P15.1
        have H := H h_15 P15
        show Pt _ _ _ 66 _ [] _ _
        refine pt_d (pt_1 (fun n d => r_aloadn gx311_66 rfl) ?_)
        refine pt_d (pt_1 (fun n d => r_iloadn gx311_67 rfl) ?_)
        refine pt_d (pt_1 (fun n d => r_iloadn gx311_68 rfl) ?_)
        refine pt_d (pt_virt (as := [.int x1, .int x2]) (r := []) gx311_69 rfl (show zmt[309]? = some zM309 from rfl) rfl rfl rfl rfl (c_309 S15 z1 z2) (kqI (fun v16 y16 h_16 h16 P16 => ?_)))
        have S16 := P16.1
        have H := H y16 h_16 P16
        show Pt _ _ _ 72 _ [.int v16] _ _
        refine pt_d (pt_1 (fun n d => r_istoren (L' := [some (.ref 72), some (.int x1), some (.int x2), some (.int v16)]) gx311_72 rfl rfl) ?_)
        refine pt_d (pt_1 (fun n d => r_iloadn gx311_73 rfl) ?_)
        refine pt_d (pt_1 (fun n d => r_aloadn gx311_74 rfl) ?_)
        refine pt_d (pt_1 (fun n d => r_iloadn gx311_75 rfl) ?_)
        refine pt_d (pt_iconst gx311_76 (fun v17 h17 => ?_))
        refine pt_d (pt_virt (as := [.int x1, .int v17]) (r := [.int v16]) gx311_77 rfl (show zmt[313]? = some zM313 from rfl) rfl rfl rfl rfl (c_313 S16 z1 h17) (kqI (fun v18 y18 h_18 h18 P18 => ?_)))
        have S18 := P18.1
        have H := H y18 h_18 P18
        show Pt _ _ _ 80 _ [.int v18, .int v16] _ _
        refine pt_d (pt_isub gx311_80 h16 h18 (fun v19 h19 => ?_))
        exact pt_d (pt_iret gx311_81 ⟨_, rfl, by rw [h19]; exact H⟩)
    · have H := H.2 e8
      refine pt_d (pt_1 (fun n d => r_aloadn gx311_43 rfl) ?_)
      refine pt_d (pt_1 (fun n d => r_iloadn gx311_44 rfl) ?_)
      refine pt_d (pt_1 (fun n d => r_iloadn gx311_45 rfl) ?_)
      refine pt_d (pt_virt (as := [.int x1, .int x2]) (r := []) gx311_46 rfl (show zmt[310]? = some zM310 from rfl) rfl rfl rfl rfl (c_310 S z1 z2) (kqI (fun v20 y20 h_20 h20 P20 => ?_)))
      have S20 := P20.1
      have H := H y20 h_20 P20
      show Pt _ _ _ 49 _ [.int v20] _ _
      exact pt_d (pt_iret gx311_49 ⟨_, rfl, by rw [h20]; exact H⟩)
  · have H := H.2 e4
    refine pt_d (pt_1 (fun n d => r_aloadn gx311_11 rfl) ?_)
    refine pt_d (pt_bipush gx311_12 (fun v21 h21 => ?_))
    refine pt_d (pt_virt (as := [.int v21]) (r := []) gx311_14 rfl (show zmt[305]? = some zM305 from rfl) rfl rfl rfl rfl (c_305 S h21) (kqN (fun h_22 P22 => ?_)))
    have S22 := P22.1
    have H := H h_22 P22
    show Pt _ _ _ 17 _ [] _ _
    refine pt_d (pt_1 (fun n d => r_aloadn gx311_17 rfl) ?_)
    refine pt_d (pt_1 (fun n d => r_iloadn gx311_18 rfl) ?_)
    refine pt_d (pt_1 (fun n d => r_iloadn gx311_19 rfl) ?_)
    refine pt_d (pt_virt (as := [.int x1, .int x2]) (r := []) gx311_20 rfl (show zmt[310]? = some zM310 from rfl) rfl rfl rfl rfl (c_310 S22 z1 z2) (kqI (fun v23 y23 h_23 h23 P23 => ?_)))
    have S23 := P23.1
    have H := H y23 h_23 P23
    show Pt _ _ _ 23 _ [.int v23] _ _
    refine pt_d (pt_1 (fun n d => r_istoren (L' := [some (.ref 72), some (.int x1), some (.int x2), some (.int v23)]) gx311_23 rfl rfl) ?_)
    refine pt_d (pt_1 (fun n d => r_iloadn gx311_24 rfl) ?_)
    refine pt_d (pt_1 (fun n d => r_aloadn gx311_25 rfl) ?_)
    refine pt_d (pt_1 (fun n d => r_iloadn gx311_26 rfl) ?_)
    refine pt_d (pt_1 (fun n d => r_iloadn gx311_27 rfl) ?_)
    refine pt_d (pt_virt (as := [.int x1, .int x2]) (r := [.int v23]) gx311_28 rfl (show zmt[307]? = some zM307 from rfl) rfl rfl rfl rfl (c_307 S23 z1 z2) (kqI (fun v24 y24 h_24 h24 P24 => ?_)))
    have S24 := P24.1
    have H := H y24 h_24 P24
    show Pt _ _ _ 31 _ [.int v24, .int v23] _ _
    refine pt_d (pt_iadd gx311_31 h23 h24 (fun v25 h25 => ?_))
    exact pt_d (pt_iret gx311_32 ⟨_, rfl, by rw [h25]; exact H⟩)
theorem c_311 {n : Nat} {X : aX} {h : aH} {x1 x2 : Int32} {a1 a2 : Int} (S : wS h) (z1 : x1.toInt = a1) (z2 : x2.toInt = a2) : Pt n X zM311 0 [some (.ref 72), some (.int x1), some (.int x2), none] [] h (qI (fun y h' => wS h' ∧ R311 (vw h) a1 a2 y (vw h'))) := by
  refine pt_d (d311_0 S z1 z2 (fun _ _ => ⟨fun e7 => ⟨fun e2 => ⟨fun e5 y g p => ?_, fun e g p y g2 p2 y3 g3 p3 => ?_⟩, fun e y g p => ?_⟩, fun e g p y g2 p2 y3 g3 p3 => ?_⟩))
  · obtain ⟨S2, q, r⟩ := p
    exact ⟨S2, by rw [cNr_d ⟨e2, e5, e7⟩, q], by rw [cTr_d ⟨e2, e5, e7⟩, r]⟩
  · obtain ⟨S2, q, r⟩ := p2
    obtain ⟨S3, q3, r3⟩ := p3
    refine ⟨S3, ?_, ?_⟩
    · rw [q3, q, r, p.2]; simp only [mbgs_73, mbg_73, mM_bg, mM_bgs]; rw [e]; rfl
    · rw [r3, r, p.2]; simp only [mbgs_73, mbg_73, mbgs_a]; rw [e]; rfl
  · obtain ⟨S2, q, r⟩ := p
    exact ⟨S2, by rw [q, e]; rfl, by rw [r, e]; rfl⟩
  · obtain ⟨S2, q, r⟩ := p2
    obtain ⟨S3, q3, r3⟩ := p3
    refine ⟨S3, ?_, ?_⟩
    · rw [q3, q, r, p.2]; simp only [mbgs_74, mbg_74, mbg_73, mM_bg]; rw [mM_1 (by unfold kFarm; omega), e]; rfl
    · rw [r3, r, p.2]; simp only [mbg_73, mbgs_a]; rw [e]; rfl
theorem d314_0 {n : Nat} {X : aX} {h : aH} {P : Int → aH → Prop} {x1 x2 : Int32} {a1 a2 : Int} (S : wS h) (z1 : x1.toInt = a1) (z2 : x2.toInt = a2) (H : ∀ (h_2 : aH), (wS h_2 ∧ vw h_2 = mbg (vw h) 2) → ∀ (y3 : Int) (h_3 : aH), (wS h_3 ∧ R311 (vw h_2) a1 a2 y3 (vw h_3)) → ∀ (y4 : Int) (h_4 : aH), (wS h_4 ∧ R313 (vw h_3) a1 y3 y4 (vw h_4)) → P y4 h_4) : Pt (n + 1) X zM314 0 [some (.ref 72), some (.int x1), some (.int x2), none] [] h (qI P) := by
  refine pt_1 (fun n d => r_aloadn gx314_0 rfl) ?_
  refine pt_d (pt_iconst gx314_1 (fun v1 h1 => ?_))
  refine pt_d (pt_virt (as := [.int v1]) (r := []) gx314_2 rfl (show zmt[305]? = some zM305 from rfl) rfl rfl rfl rfl (c_305 S h1) (kqN (fun h_2 P2 => ?_)))
  have S2 := P2.1
  have H := H h_2 P2
  show Pt _ _ _ 5 _ [] _ _
  refine pt_d (pt_1 (fun n d => r_aloadn gx314_5 rfl) ?_)
  refine pt_d (pt_1 (fun n d => r_iloadn gx314_6 rfl) ?_)
  refine pt_d (pt_1 (fun n d => r_iloadn gx314_7 rfl) ?_)
  refine pt_d (pt_virt (as := [.int x1, .int x2]) (r := []) gx314_8 rfl (show zmt[311]? = some zM311 from rfl) rfl rfl rfl rfl (c_311 S2 z1 z2) (kqI (fun v3 y3 h_3 h3 P3 => ?_)))
  have S3 := P3.1
  have H := H y3 h_3 P3
  show Pt _ _ _ 11 _ [.int v3] _ _
  refine pt_d (pt_1 (fun n d => r_istoren (L' := [some (.ref 72), some (.int x1), some (.int x2), some (.int v3)]) gx314_11 rfl rfl) ?_)
  refine pt_d (pt_1 (fun n d => r_aloadn gx314_12 rfl) ?_)
  refine pt_d (pt_1 (fun n d => r_iloadn gx314_13 rfl) ?_)
  refine pt_d (pt_1 (fun n d => r_iloadn gx314_14 rfl) ?_)
  refine pt_d (pt_virt (as := [.int x1, .int v3]) (r := []) gx314_15 rfl (show zmt[313]? = some zM313 from rfl) rfl rfl rfl rfl (c_313 S3 z1 h3) (kqI (fun v4 y4 h_4 h4 P4 => ?_)))
  have S4 := P4.1
  have H := H y4 h_4 P4
  show Pt _ _ _ 18 _ [.int v4] _ _
  exact pt_d (pt_iret gx314_18 ⟨_, rfl, by rw [h4]; exact H⟩)
theorem c_314 {n : Nat} {X : aX} {h : aH} {x1 x2 : Int32} {a1 a2 : Int} (S : wS h) (z1 : x1.toInt = a1) (z2 : x2.toInt = a2) : Pt n X zM314 0 [some (.ref 72), some (.int x1), some (.int x2), none] [] h (qI (fun y h' => wS h' ∧ R314 (vw h) a1 a2 y (vw h'))) := by
  refine pt_d (d314_0 S z1 z2 (fun g p y g2 p2 y3 g3 p3 => ?_))
  obtain ⟨S2, q, r⟩ := p2
  obtain ⟨S3, q3, r3⟩ := p3
  refine ⟨S3, ?_, ?_⟩
  · rw [q3, q, r, p.2]; simp only [mbgs_73, mbg_73, mM_bg, mM_bgs]
  · rw [r3, r, p.2]; simp only [mbgs_73, mbg_73, mbgs_a]; rfl
theorem d315_0 {n : Nat} {X : aX} {h : aH} {P : Int → aH → Prop} {x1 x2 : Int32} {a1 a2 : Int} (S : wS h) (z1 : x1.toInt = a1) (z2 : x2.toInt = a2) (H : (0 ≤ a1 → a1 < 150 → ((vw h 73 a1 ≠ 3 → ((vw h 73 a1 ≠ 6 → ∀ (y9 : Int) (h_9 : aH), (wS h_9 ∧ R314 (vw h) a1 a2 y9 (vw h_9)) → P y9 h_9) ∧ (vw h 73 a1 = 6 → ∀ (h_11 : aH), (wS h_11 ∧ vw h_11 = mbg (vw h) 70) → ∀ (y14 : Int) (h_14 : aH), (wS h_14 ∧ R314 (vw h_11) a1 (w32 (a2 + 1)) y14 (vw h_14)) → P y14 h_14))) ∧ (vw h 73 a1 = 3 → ∀ (h_16 : aH), (wS h_16 ∧ vw h_16 = mbg (vw h) 41) → ∀ (y17 : Int) (h_17 : aH), (wS h_17 ∧ R314 (vw h_16) a1 a2 y17 (vw h_17)) → ∀ (y19 : Int) (h_19 : aH), (wS h_19 ∧ R308 (vw h_17) a1 1 y19 (vw h_19)) → P (w32 (y17 + y19)) h_19)))) : Pt (n + 1) X zM315 0 [some (.ref 72), some (.int x1), some (.int x2), none] [] h (qI P) := by
  refine pt_1 (fun n d => r_aloadn gx315_0 rfl) ?_
  refine pt_d (pt_getR gx315_1 S tr_72_3 ?_)
  refine pt_d (pt_1 (fun n d => r_iloadn gx315_4 rfl) ?_)
  refine pt_d (pt_iald (N' := 150) gx315_5 S tl_73 z1 (fun v2 p2 q2 h2 => ?_))
  have H := H p2 q2
  refine pt_d (pt_iconst gx315_6 (fun v3 h3 => ?_))
  refine pt_d (pt_icmp_ne gx315_7 h2 h3 (fun e4 => ?_) (fun e4 => ?_))
  · have H := H.1 e4
    refine pt_d (pt_1 (fun n d => r_aloadn gx315_32 rfl) ?_)
    refine pt_d (pt_getR gx315_33 S tr_72_3 ?_)
    refine pt_d (pt_1 (fun n d => r_iloadn gx315_36 rfl) ?_)
    refine pt_d (pt_iald (N' := 150) gx315_37 S tl_73 z1 (fun v6 p6 q6 h6 => ?_))
    refine pt_d (pt_bipush gx315_38 (fun v7 h7 => ?_))
    refine pt_d (pt_icmp_ne gx315_40 h6 h7 (fun e8 => ?_) (fun e8 => ?_))
    · have H := H.1 e8
      refine pt_d (pt_1 (fun n d => r_aloadn gx315_58 rfl) ?_)
      refine pt_d (pt_1 (fun n d => r_iloadn gx315_59 rfl) ?_)
      refine pt_d (pt_1 (fun n d => r_iloadn gx315_60 rfl) ?_)
      refine pt_d (pt_virt (as := [.int x1, .int x2]) (r := []) gx315_61 rfl (show zmt[314]? = some zM314 from rfl) rfl rfl rfl rfl (c_314 S z1 z2) (kqI (fun v9 y9 h_9 h9 P9 => ?_)))
      have S9 := P9.1
      have H := H y9 h_9 P9
      show Pt _ _ _ 64 _ [.int v9] _ _
      exact pt_d (pt_iret gx315_64 ⟨_, rfl, by rw [h9]; exact H⟩)
    · have H := H.2 e8
      refine pt_d (pt_1 (fun n d => r_aloadn gx315_43 rfl) ?_)
      refine pt_d (pt_bipush gx315_44 (fun v10 h10 => ?_))
      refine pt_d (pt_virt (as := [.int v10]) (r := []) gx315_46 rfl (show zmt[305]? = some zM305 from rfl) rfl rfl rfl rfl (c_305 S h10) (kqN (fun h_11 P11 => ?_)))
      have S11 := P11.1
      have H := H h_11 P11
      show Pt _ _ _ 49 _ [] _ _
      refine pt_d (pt_1 (fun n d => r_aloadn gx315_49 rfl) ?_)
      refine pt_d (pt_1 (fun n d => r_iloadn gx315_50 rfl) ?_)
      refine pt_d (pt_1 (fun n d => r_iloadn gx315_51 rfl) ?_)
      refine pt_d (pt_iconst gx315_52 (fun v12 h12 => ?_))
      refine pt_d (pt_iadd gx315_53 z2 h12 (fun v13 h13 => ?_))
      refine pt_d (pt_virt (as := [.int x1, .int v13]) (r := []) gx315_54 rfl (show zmt[314]? = some zM314 from rfl) rfl rfl rfl rfl (c_314 S11 z1 h13) (kqI (fun v14 y14 h_14 h14 P14 => ?_)))
      have S14 := P14.1
      have H := H y14 h_14 P14
      show Pt _ _ _ 57 _ [.int v14] _ _
      exact pt_d (pt_iret gx315_57 ⟨_, rfl, by rw [h14]; exact H⟩)
  · have H := H.2 e4
    refine pt_d (pt_1 (fun n d => r_aloadn gx315_10 rfl) ?_)
    refine pt_d (pt_bipush gx315_11 (fun v15 h15 => ?_))
    refine pt_d (pt_virt (as := [.int v15]) (r := []) gx315_13 rfl (show zmt[305]? = some zM305 from rfl) rfl rfl rfl rfl (c_305 S h15) (kqN (fun h_16 P16 => ?_)))
    have S16 := P16.1
    have H := H h_16 P16
    show Pt _ _ _ 16 _ [] _ _
    refine pt_d (pt_1 (fun n d => r_aloadn gx315_16 rfl) ?_)
    refine pt_d (pt_1 (fun n d => r_iloadn gx315_17 rfl) ?_)
    refine pt_d (pt_1 (fun n d => r_iloadn gx315_18 rfl) ?_)
    refine pt_d (pt_virt (as := [.int x1, .int x2]) (r := []) gx315_19 rfl (show zmt[314]? = some zM314 from rfl) rfl rfl rfl rfl (c_314 S16 z1 z2) (kqI (fun v17 y17 h_17 h17 P17 => ?_)))
    have S17 := P17.1
    have H := H y17 h_17 P17
    show Pt _ _ _ 22 _ [.int v17] _ _
    refine pt_d (pt_1 (fun n d => r_istoren (L' := [some (.ref 72), some (.int x1), some (.int x2), some (.int v17)]) gx315_22 rfl rfl) ?_)
    refine pt_d (pt_1 (fun n d => r_iloadn gx315_23 rfl) ?_)
    refine pt_d (pt_1 (fun n d => r_aloadn gx315_24 rfl) ?_)
    refine pt_d (pt_1 (fun n d => r_iloadn gx315_25 rfl) ?_)
    refine pt_d (pt_iconst gx315_26 (fun v18 h18 => ?_))
    refine pt_d (pt_virt (as := [.int x1, .int v18]) (r := [.int v17]) gx315_27 rfl (show zmt[308]? = some zM308 from rfl) rfl rfl rfl rfl (c_308 S17 z1 h18) (kqI (fun v19 y19 h_19 h19 P19 => ?_)))
    have S19 := P19.1
    have H := H y19 h_19 P19
    show Pt _ _ _ 30 _ [.int v19, .int v17] _ _
    refine pt_d (pt_iadd gx315_30 h17 h19 (fun v20 h20 => ?_))
    exact pt_d (pt_iret gx315_31 ⟨_, rfl, by rw [h20]; exact H⟩)
theorem c_315 {n : Nat} {X : aX} {h : aH} {x1 x2 : Int32} {a1 a2 : Int} (S : wS h) (z1 : x1.toInt = a1) (z2 : x2.toInt = a2) : Pt n X zM315 0 [some (.ref 72), some (.int x1), some (.int x2), none] [] h (qI (fun y h' => wS h' ∧ R315 (vw h) a1 a2 y (vw h'))) := by
  refine pt_d (d315_0 S z1 z2 (fun _ _ => ⟨fun e3 => ⟨fun e6 y g p => ?_, fun e g p y g2 p2 => ?_⟩, fun e g p y g2 p2 y3 g3 p3 => ?_⟩))
  · obtain ⟨S2, q, r⟩ := p
    exact ⟨S2, by rw [tNr_d ⟨e3, e6⟩, q], by rw [tTr_d ⟨e3, e6⟩, r]⟩
  · obtain ⟨S2, q, r⟩ := p2
    refine ⟨S2, ?_, ?_⟩
    · rw [q, p.2]; simp only [mbg_73, mM_bg]; rw [e]; rfl
    · rw [r, p.2]; simp only [mbg_73]; rw [e]; rfl
  · obtain ⟨S2, q, r⟩ := p2
    obtain ⟨S3, q3, r3⟩ := p3
    refine ⟨S3, ?_, ?_⟩
    · rw [q3, q, r, p.2]; simp only [mbgs_73, mbg_73, mM_bg, mM_bgs]; rw [e]; rfl
    · rw [r3, r, p.2]; simp only [mbgs_73, mbg_73, mbgs_a]; rw [e, tTr_3]; exact (mbgs_c _ _ _).symm
theorem d186_0 {n : Nat} {X : aX} {h : aH} {P : Int → aH → Prop} {x1 x2 x3 : Int32} {a1 a2 a3 : Int} (S : wS h) (z1 : x1.toInt = a1) (z2 : x2.toInt = a2) (z3 : x3.toInt = a3) (H : ((¬ (cBody (vw h) a1) → ∀ h_6 : aH, wS h_6 → vw h_6 = up (vw h) 66 1 0 → P 0 h_6) ∧ ((cBody (vw h) a1) → (((0 ≤ a2 ∧ a2 ≤ 3) → (0 ≤ a1 → a1 < 150 → ∀ (y19 : Int) (h_19 : aH), (wS h_19 ∧ R20 (vw h) a1 (vw h 2 a1) (vw h 3 a1) a2 a3 y19 (vw h_19)) → P y19 h_19)) ∧ (¬ (0 ≤ a2 ∧ a2 ≤ 3) → ∀ h_22 : aH, wS h_22 → vw h_22 = up (vw h) 66 1 0 → P 0 h_22))))) : Pt (n + 1) X zM186 0 [some (.ref 0), some (.int x1), some (.int x2), some (.int x3)] [] h (qI P) := by
  refine pt_1 (fun n d => r_aloadn gx186_0 rfl) ?_
  refine pt_d (pt_getR gx186_1 S tr_0_0 ?_)
  refine pt_d (pt_1 (fun n d => r_iloadn gx186_4 rfl) ?_)
  refine pt_d (pt_virt (as := [.int x1]) (r := []) gx186_5 rfl (show zmt[74]? = some zM74 from rfl) rfl rfl rfl rfl (c_74 S z1) (kqP (fun v2 h2 => ?_)))
  show Pt _ _ _ 8 _ [.int v2] _ _
  refine pt_d (pt_ifB_eq gx186_8 h2 (fun e3 => ?_) (fun e3 => ?_))
  · have H := H.1 e3
    refine pt_d (pt_1 (fun n d => r_aloadn gx186_20 rfl) ?_)
    refine pt_d (pt_getR gx186_21 S tr_0_8 ?_)
    refine pt_d (pt_iconst gx186_24 (fun v5 h5 => ?_))
    refine pt_d (pt_putI (B := 1) gx186_25 S h5 (fun h_6 S6 e6 => ?_))
    refine pt_d (pt_iconst gx186_28 (fun v7 h7 => ?_))
    have H := H h_6 S6 (by rw [e6])
    exact pt_d (pt_iret gx186_29 ⟨_, rfl, by rw [h7]; exact H⟩)
  · have H := H.2 e3
    refine pt_d (pt_1 (fun n d => r_iloadn gx186_11 rfl) ?_)
    refine pt_d (pt_iconst gx186_12 (fun v8 h8 => ?_))
    refine pt_d (pt_iconst gx186_13 (fun v9 h9 => ?_))
    refine pt_d (pt_stat (as := [.int x2, .int v8, .int v9]) (r := []) gx186_14 rfl (show zmt[137]? = some zM137 from rfl) rfl rfl rfl rfl (c_137 S z2 h8 h9) (kqP (fun v10 h10 => ?_)))
    show Pt _ _ _ 17 _ [.int v10] _ _
    refine pt_d (pt_ifB_ne gx186_17 h10 (fun e11 => ?_) (fun e11 => ?_))
    · have H := H.1 e11
      refine pt_d (pt_1 (fun n d => r_aloadn gx186_30 rfl) ?_)
      refine pt_d (pt_getR gx186_31 S tr_0_8 ?_)
      refine pt_d (pt_1 (fun n d => r_iloadn gx186_34 rfl) ?_)
      refine pt_d (pt_1 (fun n d => r_aloadn gx186_35 rfl) ?_)
      refine pt_d (pt_getR gx186_36 S tr_0_0 ?_)
      refine pt_d (pt_getR gx186_39 S tr_1_7 ?_)
      refine pt_d (pt_1 (fun n d => r_iloadn gx186_42 rfl) ?_)
      refine pt_d (pt_iald (N' := 150) gx186_43 S tl_2 z1 (fun v15 p15 q15 h15 => ?_))
      have H := H p15 q15
      refine pt_d (pt_1 (fun n d => r_aloadn gx186_44 rfl) ?_)
      refine pt_d (pt_getR gx186_45 S tr_0_0 ?_)
      refine pt_d (pt_getR gx186_48 S tr_1_8 ?_)
      refine pt_d (pt_1 (fun n d => r_iloadn gx186_51 rfl) ?_)
      refine pt_d (pt_iald (N' := 150) gx186_52 S tl_3 z1 (fun v18 p18 q18 h18 => ?_))
      refine pt_d (pt_1 (fun n d => r_iloadn gx186_53 rfl) ?_)
      refine pt_d (pt_1 (fun n d => r_iloadn gx186_54 rfl) ?_)
      refine pt_d (pt_virt (as := [.int x1, .int v15, .int v18, .int x2, .int x3]) (r := []) gx186_55 rfl (show zmt[20]? = some zM20 from rfl) rfl rfl rfl rfl (c_20 S z1 h15 h18 z2 z3) (kqI (fun v19 y19 h_19 h19 P19 => ?_)))
      have S19 := P19.1
      have H := H y19 h_19 P19
      show Pt _ _ _ 58 _ [.int v19] _ _
      exact pt_d (pt_iret gx186_58 ⟨_, rfl, by rw [h19]; exact H⟩)
    · have H := H.2 e11
      refine pt_d (pt_1 (fun n d => r_aloadn gx186_20 rfl) ?_)
      refine pt_d (pt_getR gx186_21 S tr_0_8 ?_)
      refine pt_d (pt_iconst gx186_24 (fun v21 h21 => ?_))
      refine pt_d (pt_putI (B := 1) gx186_25 S h21 (fun h_22 S22 e22 => ?_))
      refine pt_d (pt_iconst gx186_28 (fun v23 h23 => ?_))
      have H := H h_22 S22 (by rw [e22])
      exact pt_d (pt_iret gx186_29 ⟨_, rfl, by rw [h23]; exact H⟩)
theorem d316_0 {n : Nat} {X : aX} {h : aH} {P : Int → aH → Prop} {x1 x2 x3 : Int32} {a1 a2 a3 : Int} (S : wS h) (z1 : x1.toInt = a1) (z2 : x2.toInt = a2) (z3 : x3.toInt = a3) (H : ∀ h_2 : aH, wS h_2 → vw h_2 = up (vw h) 72 95 0 → ((¬ (mBody (vw h_2) a1) → P 0 h_2) ∧ ((mBody (vw h_2) a1) → (((0 ≤ a2 ∧ a2 ≤ 3) → ((a2 ≠ 0 → ((a2 ≠ 1 → ((a2 ≠ 2 → ∀ (y15 : Int) (h_15 : aH), (wS h_15 ∧ R315 (vw h_2) a1 a3 y15 (vw h_15)) → P y15 h_15) ∧ (a2 = 2 → ∀ (y16 : Int) (h_16 : aH), (wS h_16 ∧ R313 (vw h_2) a1 a3 y16 (vw h_16)) → P y16 h_16))) ∧ (a2 = 1 → ∀ (y17 : Int) (h_17 : aH), (wS h_17 ∧ R311 (vw h_2) a1 a3 y17 (vw h_17)) → P y17 h_17))) ∧ (a2 = 0 → ∀ (y18 : Int) (h_18 : aH), (wS h_18 ∧ R308 (vw h_2) a1 a3 y18 (vw h_18)) → P y18 h_18))) ∧ (¬ (0 ≤ a2 ∧ a2 ≤ 3) → P 0 h_2))))) : Pt (n + 1) X zM316 0 [some (.ref 72), some (.int x1), some (.int x2), some (.int x3)] [] h (qI P) := by
  refine pt_1 (fun n d => r_aloadn gx316_0 rfl) ?_
  refine pt_d (pt_iconst gx316_1 (fun v1 h1 => ?_))
  refine pt_d (pt_putI (B := 95) gx316_2 S h1 (fun h_2 S2 e2 => ?_))
  refine pt_d (pt_1 (fun n d => r_aloadn gx316_5 rfl) ?_)
  refine pt_d (pt_1 (fun n d => r_iloadn gx316_6 rfl) ?_)
  have H := H h_2 S2 (by rw [e2])
  refine pt_d (pt_virt (as := [.int x1]) (r := []) gx316_7 rfl (show zmt[200]? = some zM200 from rfl) rfl rfl rfl rfl (c_200 S2 z1) (kqP (fun v3 h3 => ?_)))
  show Pt _ _ _ 10 _ [.int v3] _ _
  refine pt_d (pt_ifB_eq gx316_10 h3 (fun e4 => ?_) (fun e4 => ?_))
  · have H := H.1 e4
    refine pt_d (pt_iconst gx316_22 (fun v5 h5 => ?_))
    exact pt_d (pt_iret gx316_23 ⟨_, rfl, by rw [h5]; exact H⟩)
  · have H := H.2 e4
    refine pt_d (pt_1 (fun n d => r_iloadn gx316_13 rfl) ?_)
    refine pt_d (pt_iconst gx316_14 (fun v6 h6 => ?_))
    refine pt_d (pt_iconst gx316_15 (fun v7 h7 => ?_))
    refine pt_d (pt_stat (as := [.int x2, .int v6, .int v7]) (r := []) gx316_16 rfl (show zmt[196]? = some zM196 from rfl) rfl rfl rfl rfl (c_196 S2 z2 h6 h7) (kqP (fun v8 h8 => ?_)))
    show Pt _ _ _ 19 _ [.int v8] _ _
    refine pt_d (pt_ifB_ne gx316_19 h8 (fun e9 => ?_) (fun e9 => ?_))
    · have H := H.1 e9
      refine pt_d (pt_1 (fun n d => r_iloadn gx316_24 rfl) ?_)
      refine pt_d (pt_if_ne gx316_25 z2 (fun e10 => ?_) (fun e10 => ?_))
      · have H := H.1 e10
        refine pt_d (pt_1 (fun n d => r_iloadn gx316_37 rfl) ?_)
        refine pt_d (pt_iconst gx316_38 (fun v11 h11 => ?_))
        refine pt_d (pt_icmp_ne gx316_39 z2 h11 (fun e12 => ?_) (fun e12 => ?_))
        · have H := H.1 e12
          refine pt_d (pt_1 (fun n d => r_iloadn gx316_51 rfl) ?_)
          refine pt_d (pt_iconst gx316_52 (fun v13 h13 => ?_))
          refine pt_d (pt_icmp_ne gx316_53 z2 h13 (fun e14 => ?_) (fun e14 => ?_))
          · have H := H.1 e14
            refine pt_d (pt_1 (fun n d => r_aloadn gx316_65 rfl) ?_)
            refine pt_d (pt_1 (fun n d => r_iloadn gx316_66 rfl) ?_)
            refine pt_d (pt_1 (fun n d => r_iloadn gx316_67 rfl) ?_)
            refine pt_d (pt_virt (as := [.int x1, .int x3]) (r := []) gx316_68 rfl (show zmt[315]? = some zM315 from rfl) rfl rfl rfl rfl (c_315 S2 z1 z3) (kqI (fun v15 y15 h_15 h15 P15 => ?_)))
            have S15 := P15.1
            have H := H y15 h_15 P15
            show Pt _ _ _ 71 _ [.int v15] _ _
            exact pt_d (pt_iret gx316_71 ⟨_, rfl, by rw [h15]; exact H⟩)
          · have H := H.2 e14
            refine pt_d (pt_1 (fun n d => r_aloadn gx316_56 rfl) ?_)
            refine pt_d (pt_1 (fun n d => r_iloadn gx316_57 rfl) ?_)
            refine pt_d (pt_1 (fun n d => r_iloadn gx316_58 rfl) ?_)
            refine pt_d (pt_virt (as := [.int x1, .int x3]) (r := []) gx316_59 rfl (show zmt[313]? = some zM313 from rfl) rfl rfl rfl rfl (c_313 S2 z1 z3) (kqI (fun v16 y16 h_16 h16 P16 => ?_)))
            have S16 := P16.1
            have H := H y16 h_16 P16
            show Pt _ _ _ 62 _ [.int v16] _ _
            refine pt_d (pt_1 (fun n d => r_goto gx316_62) ?_)
            exact pt_d (pt_iret gx316_71 ⟨_, rfl, by rw [h16]; exact H⟩)
        · have H := H.2 e12
          refine pt_d (pt_1 (fun n d => r_aloadn gx316_42 rfl) ?_)
          refine pt_d (pt_1 (fun n d => r_iloadn gx316_43 rfl) ?_)
          refine pt_d (pt_1 (fun n d => r_iloadn gx316_44 rfl) ?_)
          refine pt_d (pt_virt (as := [.int x1, .int x3]) (r := []) gx316_45 rfl (show zmt[311]? = some zM311 from rfl) rfl rfl rfl rfl (c_311 S2 z1 z3) (kqI (fun v17 y17 h_17 h17 P17 => ?_)))
          have S17 := P17.1
          have H := H y17 h_17 P17
          show Pt _ _ _ 48 _ [.int v17] _ _
          refine pt_d (pt_1 (fun n d => r_goto gx316_48) ?_)
          exact pt_d (pt_iret gx316_71 ⟨_, rfl, by rw [h17]; exact H⟩)
      · have H := H.2 e10
        refine pt_d (pt_1 (fun n d => r_aloadn gx316_28 rfl) ?_)
        refine pt_d (pt_1 (fun n d => r_iloadn gx316_29 rfl) ?_)
        refine pt_d (pt_1 (fun n d => r_iloadn gx316_30 rfl) ?_)
        refine pt_d (pt_virt (as := [.int x1, .int x3]) (r := []) gx316_31 rfl (show zmt[308]? = some zM308 from rfl) rfl rfl rfl rfl (c_308 S2 z1 z3) (kqI (fun v18 y18 h_18 h18 P18 => ?_)))
        have S18 := P18.1
        have H := H y18 h_18 P18
        show Pt _ _ _ 34 _ [.int v18] _ _
        refine pt_d (pt_1 (fun n d => r_goto gx316_34) ?_)
        exact pt_d (pt_iret gx316_71 ⟨_, rfl, by rw [h18]; exact H⟩)
    · have H := H.2 e9
      refine pt_d (pt_iconst gx316_22 (fun v19 h19 => ?_))
      exact pt_d (pt_iret gx316_23 ⟨_, rfl, by rw [h19]; exact H⟩)
theorem d187_0 {n : Nat} {X : aX} {h : aH} {P : Int → aH → Prop} {x1 : Int32} {a1 : Int} (S : wS h) (z1 : x1.toInt = a1) (H : ((¬ (0 ≤ a1 ∧ a1 ≤ (w32 ((min (vw h 66 1) 24) - 1))) → P (-1) h) ∧ ((0 ≤ a1 ∧ a1 ≤ (w32 ((min (vw h 66 1) 24) - 1))) → (0 ≤ a1 → a1 < 24 → P (vw h 67 a1) h)))) : Pt (n + 1) X zM187 0 [some (.ref 0), some (.int x1)] [] h (qI P) := by
  refine pt_1 (fun n d => r_iloadn gx187_0 rfl) ?_
  refine pt_d (pt_iconst gx187_1 (fun v1 h1 => ?_))
  refine pt_d (pt_1 (fun n d => r_aloadn gx187_2 rfl) ?_)
  refine pt_d (pt_getR gx187_3 S tr_0_8 ?_)
  refine pt_d (pt_getI (B := 1) gx187_6 S (fun v3 h3 => ?_))
  refine pt_d (pt_bipush gx187_9 (fun v4 h4 => ?_))
  refine pt_d (pt_min gx187_11 rfl h3 h4 (fun v5 h5 => ?_))
  refine pt_d (pt_iconst gx187_14 (fun v6 h6 => ?_))
  refine pt_d (pt_isub gx187_15 h5 h6 (fun v7 h7 => ?_))
  refine pt_d (pt_stat (as := [.int x1, .int v1, .int v7]) (r := []) gx187_16 rfl (show zmt[137]? = some zM137 from rfl) rfl rfl rfl rfl (c_137 S z1 h1 h7) (kqP (fun v8 h8 => ?_)))
  show Pt _ _ _ 19 _ [.int v8] _ _
  refine pt_d (pt_ifB_eq gx187_19 h8 (fun e9 => ?_) (fun e9 => ?_))
  · have H := H.1 e9
    refine pt_d (pt_iconst gx187_34 (fun v10 h10 => ?_))
    exact pt_d (pt_iret gx187_35 ⟨_, rfl, by rw [h10]; exact H⟩)
  · have H := H.2 e9
    refine pt_d (pt_1 (fun n d => r_aloadn gx187_22 rfl) ?_)
    refine pt_d (pt_getR gx187_23 S tr_0_8 ?_)
    refine pt_d (pt_getR gx187_26 S tr_66_0 ?_)
    refine pt_d (pt_1 (fun n d => r_iloadn gx187_29 rfl) ?_)
    refine pt_d (pt_iald (N' := 24) gx187_30 S tl_67 z1 (fun v13 p13 q13 h13 => ?_))
    have H := H p13 q13
    refine pt_d (pt_1 (fun n d => r_goto gx187_31) ?_)
    exact pt_d (pt_iret gx187_35 ⟨_, rfl, by rw [h13]; exact H⟩)
theorem d317_0 {n : Nat} {X : aX} {h : aH} {P : Int → aH → Prop} {x1 : Int32} {a1 : Int} (S : wS h) (z1 : x1.toInt = a1) (H : ((a1 < 0 → P (-1) h) ∧ (0 ≤ a1 → ((vw h 72 95 ≤ a1 → P (-1) h) ∧ (a1 < vw h 72 95 → ((24 ≤ a1 → P (-1) h) ∧ (a1 < 24 → (0 ≤ a1 → a1 < 24 → P (vw h 141 a1) h)))))))) : Pt (n + 1) X zM317 0 [some (.ref 72), some (.int x1)] [] h (qI P) := by
  refine pt_1 (fun n d => r_iloadn gx317_0 rfl) ?_
  refine pt_d (pt_if_lt gx317_1 z1 (fun e1 => ?_) (fun e1 => ?_))
  · have H := H.1 e1
    refine pt_d (pt_iconst gx317_27 (fun v2 h2 => ?_))
    exact pt_d (pt_iret gx317_28 ⟨_, rfl, by rw [h2]; exact H⟩)
  · have H := H.2 e1
    refine pt_d (pt_1 (fun n d => r_iloadn gx317_4 rfl) ?_)
    refine pt_d (pt_1 (fun n d => r_aloadn gx317_5 rfl) ?_)
    refine pt_d (pt_getI (B := 95) gx317_6 S (fun v3 h3 => ?_))
    refine pt_d (pt_icmp_ge gx317_9 z1 h3 (fun e4 => ?_) (fun e4 => ?_))
    · have H := H.1 e4
      refine pt_d (pt_iconst gx317_27 (fun v5 h5 => ?_))
      exact pt_d (pt_iret gx317_28 ⟨_, rfl, by rw [h5]; exact H⟩)
    · have H := H.2 e4
      refine pt_d (pt_1 (fun n d => r_iloadn gx317_12 rfl) ?_)
      refine pt_d (pt_bipush gx317_13 (fun v6 h6 => ?_))
      refine pt_d (pt_icmp_ge gx317_15 z1 h6 (fun e7 => ?_) (fun e7 => ?_))
      · have H := H.1 e7
        refine pt_d (pt_iconst gx317_27 (fun v8 h8 => ?_))
        exact pt_d (pt_iret gx317_28 ⟨_, rfl, by rw [h8]; exact H⟩)
      · have H := H.2 e7
        refine pt_d (pt_1 (fun n d => r_aloadn gx317_18 rfl) ?_)
        refine pt_d (pt_getR gx317_19 S tr_72_96 ?_)
        refine pt_d (pt_1 (fun n d => r_iloadn gx317_22 rfl) ?_)
        refine pt_d (pt_iald (N' := 24) gx317_23 S tl_141 z1 (fun v10 p10 q10 h10 => ?_))
        have H := H p10 q10
        refine pt_d (pt_1 (fun n d => r_goto gx317_24) ?_)
        exact pt_d (pt_iret gx317_28 ⟨_, rfl, by rw [h10]; exact H⟩)
def ok186 (V : vS) (b act : Int) : Prop := cBody V b ∧ 0 ≤ act ∧ act ≤ 3
def R186 (V : vS) (b act x r : Int) (V' : vS) : Prop := (¬ ok186 V b act ∧ r = 0 ∧ V' = up V 66 1 0) ∨ (ok186 V b act ∧ R20 V b (V 2 b) (V 3 b) act x r V')
def ok316 (V : vS) (b act : Int) : Prop := mBody V b ∧ 0 ≤ act ∧ act ≤ 3
def R316 (V : vS) (b act x r : Int) (V' : vS) : Prop := (¬ ok316 V b act ∧ r = 0 ∧ V' = up V 72 95 0) ∨ (ok316 V b act ∧ r = aNr act (V 73 b) (mM V b) b x ∧ V' = mbgs (up V 72 95 0) (aTr act (V 73 b)))

theorem c_186 {n : Nat} {X : aX} {h : aH} {x1 x2 x3 : Int32} {a1 a2 a3 : Int} (S : wS h) (z1 : x1.toInt = a1) (z2 : x2.toInt = a2) (z3 : x3.toInt = a3) : Pt n X zM186 0 [some (.ref 0), some (.int x1), some (.int x2), some (.int x3)] [] h (qI (fun y h' => R186 (vw h) a1 a2 a3 y (vw h'))) := by
  refine pt_d (d186_0 S z1 z2 z3 ⟨fun e g S2 eg => Or.inl ⟨fun z => e z.1, rfl, eg⟩, fun e => ⟨fun e2 _ _ y g p => Or.inr ⟨⟨e, e2⟩, p.2⟩, fun e2 g S2 eg => Or.inl ⟨fun z => e2 z.2, rfl, eg⟩⟩⟩)
theorem mM_c {V V' : vS} {b : Int} (h3 : V' 73 b = V 73 b) (h4 : V' 74 b = V 74 b) (h8 : V' 78 b = V 78 b) : mM V' b = mM V b := by unfold mM; rw [h3, h4, h8]
theorem c_316 {n : Nat} {X : aX} {h : aH} {x1 x2 x3 : Int32} {a1 a2 a3 : Int} (S : wS h) (z1 : x1.toInt = a1) (z2 : x2.toInt = a2) (z3 : x3.toInt = a3) : Pt n X zM316 0 [some (.ref 72), some (.int x1), some (.int x2), some (.int x3)] [] h (qI (fun y h' => R316 (vw h) a1 a2 a3 y (vw h'))) := by
  refine pt_d (d316_0 S z1 z2 z3 (fun g S2 eg => ?_))
  have em : mBody (vw g) a1 ↔ mBody (vw h) a1 := by unfold mBody; rw [eg, up_j (by decide)]
  have e3 : vw g 73 a1 = vw h 73 a1 := by rw [eg, up_c (by decide)]
  have eM : mM (vw g) a1 = mM (vw h) a1 := mM_c e3 (by rw [eg, up_c (by decide)]) (by rw [eg, up_c (by decide)])
  refine ⟨fun e => Or.inl ⟨fun z => e (em.mpr z.1), rfl, eg⟩, fun e => ⟨fun e2 => ?_, fun e2 => Or.inl ⟨fun z => e2 z.2, rfl, eg⟩⟩⟩
  have ok : ok316 (vw h) a1 a2 := ⟨em.mp e, e2⟩
  refine ⟨fun n0 => ⟨fun n1 => ⟨fun n2 y g2 p => Or.inr ⟨ok, ?_⟩, fun n2 y g2 p => Or.inr ⟨ok, ?_⟩⟩, fun n1 y g2 p => Or.inr ⟨ok, ?_⟩⟩, fun n0 y g2 p => Or.inr ⟨ok, ?_⟩⟩
  · obtain ⟨S3, q, r⟩ := p
    rw [e3, eM] at q
    rw [e3, eg] at r
    unfold aNr aTr
    rw [if_neg n0, if_neg n1, if_neg n2, if_neg n0, if_neg n1, if_neg n2]
    exact ⟨q, r⟩
  · obtain ⟨S3, q, r⟩ := p
    rw [e3, eM] at q
    rw [e3, eg] at r
    unfold aNr aTr
    rw [if_neg n0, if_neg n1, if_pos n2, if_neg n0, if_neg n1, if_pos n2]
    exact ⟨q, r⟩
  · obtain ⟨S3, q, r⟩ := p
    rw [e3, eM] at q
    rw [e3, eg] at r
    unfold aNr aTr
    rw [if_neg n0, if_pos n1, if_neg n0, if_pos n1]
    exact ⟨q, r⟩
  · obtain ⟨S3, q, r⟩ := p
    rw [e3, eM] at q
    rw [e3, eg] at r
    unfold aNr aTr
    rw [if_pos n0, if_pos n0]
    exact ⟨q, r⟩
def R187 (V : vS) (i r : Int) : Prop := (¬ (0 ≤ i ∧ i ≤ w32 (min (V 66 1) 24 - 1)) ∧ r = -1) ∨ ((0 ≤ i ∧ i ≤ w32 (min (V 66 1) 24 - 1)) ∧ r = V 67 i)
theorem c_187 {n : Nat} {X : aX} {h : aH} {x1 : Int32} {a1 : Int} (S : wS h) (z1 : x1.toInt = a1) : Pt n X zM187 0 [some (.ref 0), some (.int x1)] [] h (qI (fun y h' => h' = h ∧ R187 (vw h) a1 y)) := by
  refine pt_d (d187_0 S z1 ⟨fun e => ⟨rfl, Or.inl ⟨e, rfl⟩⟩, fun e _ _ => ⟨rfl, Or.inr ⟨e, rfl⟩⟩⟩)
def R317 (V : vS) (i r : Int) : Prop := (¬ (0 ≤ i ∧ i < V 72 95 ∧ i < 24) ∧ r = -1) ∨ ((0 ≤ i ∧ i < V 72 95 ∧ i < 24) ∧ r = V 141 i)
theorem c_317 {n : Nat} {X : aX} {h : aH} {x1 : Int32} {a1 : Int} (S : wS h) (z1 : x1.toInt = a1) : Pt n X zM317 0 [some (.ref 72), some (.int x1)] [] h (qI (fun y h' => h' = h ∧ R317 (vw h) a1 y)) := by
  refine pt_d (d317_0 S z1 ⟨fun e => ⟨rfl, Or.inl ⟨by omega, rfl⟩⟩, fun e => ⟨fun e2 => ⟨rfl, Or.inl ⟨by omega, rfl⟩⟩, fun e2 => ⟨fun e3 => ⟨rfl, Or.inl ⟨by omega, rfl⟩⟩, fun e3 _ _ => ⟨rfl, Or.inr ⟨⟨e, e2, e3⟩, rfl⟩⟩⟩⟩⟩)


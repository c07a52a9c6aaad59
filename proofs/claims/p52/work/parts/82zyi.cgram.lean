-- ===== the class reads a text: its grammar =====
theorem gx132_0 : aF 0 zM132.2.2.2.2.2.2.2 = some (0, (.aload_n 0), 1, 0, 0) := by decide +kernel
theorem gx132_1 : aF 1 zM132.2.2.2.2.2.2.2 = some (1, (.iload_n 1), 1, 0, 0) := by decide +kernel
theorem gx132_2 : aF 2 zM132.2.2.2.2.2.2.2 = some (2, (.invokevirtual 104), 3, 133, 0) := by decide +kernel
theorem gx132_5 : aF 5 zM132.2.2.2.2.2.2.2 = some (5, (.istore_n 2), 1, 0, 0) := by decide +kernel
theorem gx132_6 : aF 6 zM132.2.2.2.2.2.2.2 = some (6, (.iconst 0), 1, 0, 0) := by decide +kernel
theorem gx132_7 : aF 7 zM132.2.2.2.2.2.2.2 = some (7, (.istore_n 3), 1, 0, 0) := by decide +kernel
theorem gx132_8 : aF 8 zM132.2.2.2.2.2.2.2 = some (8, (.iload_n 3), 1, 0, 0) := by decide +kernel
theorem gx132_9 : aF 9 zM132.2.2.2.2.2.2.2 = some (9, (.sipush 160), 3, 0, 0) := by decide +kernel
theorem gx132_12 : aF 12 zM132.2.2.2.2.2.2.2 = some (12, (.if_icmp .ge 97), 3, 109, 0) := by decide +kernel
theorem gx132_109 : aF 109 zM132.2.2.2.2.2.2.2 = some (109, (.iload_n 2), 1, 0, 0) := by decide +kernel
theorem gx132_110 : aF 110 zM132.2.2.2.2.2.2.2 = some (110, .ireturn, 1, 0, 0) := by decide +kernel
theorem gx132_15 : aF 15 zM132.2.2.2.2.2.2.2 = some (15, (.aload_n 0), 1, 0, 0) := by decide +kernel
theorem gx132_16 : aF 16 zM132.2.2.2.2.2.2.2 = some (16, (.bipush 42), 2, 0, 0) := by decide +kernel
theorem gx132_18 : aF 18 zM132.2.2.2.2.2.2.2 = some (18, (.invokevirtual 65), 3, 125, 0) := by decide +kernel
theorem gx132_21 : aF 21 zM132.2.2.2.2.2.2.2 = some (21, (.ifCond .eq 14), 3, 35, 0) := by decide +kernel
theorem gx132_35 : aF 35 zM132.2.2.2.2.2.2.2 = some (35, (.aload_n 0), 1, 0, 0) := by decide +kernel
theorem gx132_36 : aF 36 zM132.2.2.2.2.2.2.2 = some (36, (.bipush 47), 2, 0, 0) := by decide +kernel
theorem gx132_38 : aF 38 zM132.2.2.2.2.2.2.2 = some (38, (.invokevirtual 65), 3, 125, 0) := by decide +kernel
theorem gx132_41 : aF 41 zM132.2.2.2.2.2.2.2 = some (41, (.ifCond .eq 27), 3, 68, 0) := by decide +kernel
theorem gx132_68 : aF 68 zM132.2.2.2.2.2.2.2 = some (68, (.aload_n 0), 1, 0, 0) := by decide +kernel
theorem gx132_69 : aF 69 zM132.2.2.2.2.2.2.2 = some (69, (.bipush 37), 2, 0, 0) := by decide +kernel
theorem gx132_71 : aF 71 zM132.2.2.2.2.2.2.2 = some (71, (.invokevirtual 65), 3, 125, 0) := by decide +kernel
theorem gx132_74 : aF 74 zM132.2.2.2.2.2.2.2 = some (74, (.ifCond .eq 27), 3, 101, 0) := by decide +kernel
theorem gx132_101 : aF 101 zM132.2.2.2.2.2.2.2 = some (101, (.iload_n 2), 1, 0, 0) := by decide +kernel
theorem gx132_102 : aF 102 zM132.2.2.2.2.2.2.2 = some (102, .ireturn, 1, 0, 0) := by decide +kernel
theorem gx132_77 : aF 77 zM132.2.2.2.2.2.2.2 = some (77, (.aload_n 0), 1, 0, 0) := by decide +kernel
theorem gx132_78 : aF 78 zM132.2.2.2.2.2.2.2 = some (78, (.iload_n 1), 1, 0, 0) := by decide +kernel
theorem gx132_79 : aF 79 zM132.2.2.2.2.2.2.2 = some (79, (.invokevirtual 104), 3, 133, 0) := by decide +kernel
theorem gx132_82 : aF 82 zM132.2.2.2.2.2.2.2 = some (82, (.istore 4), 2, 0, 0) := by decide +kernel
theorem gx132_84 : aF 84 zM132.2.2.2.2.2.2.2 = some (84, (.iload 4), 2, 0, 0) := by decide +kernel
theorem gx132_86 : aF 86 zM132.2.2.2.2.2.2.2 = some (86, (.ifCond .ne 7), 3, 93, 0) := by decide +kernel
theorem gx132_93 : aF 93 zM132.2.2.2.2.2.2.2 = some (93, (.iload_n 2), 1, 0, 0) := by decide +kernel
theorem gx132_94 : aF 94 zM132.2.2.2.2.2.2.2 = some (94, (.iload 4), 2, 0, 0) := by decide +kernel
theorem gx132_96 : aF 96 zM132.2.2.2.2.2.2.2 = some (96, .irem, 1, 0, 0) := by decide +kernel
theorem gx132_97 : aF 97 zM132.2.2.2.2.2.2.2 = some (97, (.istore_n 2), 1, 0, 0) := by decide +kernel
theorem gx132_98 : aF 98 zM132.2.2.2.2.2.2.2 = some (98, (.goto 5), 3, 103, 0) := by decide +kernel
theorem gx132_103 : aF 103 zM132.2.2.2.2.2.2.2 = some (103, (.iinc 3 1), 3, 0, 0) := by decide +kernel
theorem gx132_106 : aF 106 zM132.2.2.2.2.2.2.2 = some (106, (.goto (-98)), 3, 8, 0) := by decide +kernel
theorem gx132_89 : aF 89 zM132.2.2.2.2.2.2.2 = some (89, (.iconst 0), 1, 0, 0) := by decide +kernel
theorem gx132_90 : aF 90 zM132.2.2.2.2.2.2.2 = some (90, (.goto 7), 3, 97, 0) := by decide +kernel
theorem gx132_44 : aF 44 zM132.2.2.2.2.2.2.2 = some (44, (.aload_n 0), 1, 0, 0) := by decide +kernel
theorem gx132_45 : aF 45 zM132.2.2.2.2.2.2.2 = some (45, (.iload_n 1), 1, 0, 0) := by decide +kernel
theorem gx132_46 : aF 46 zM132.2.2.2.2.2.2.2 = some (46, (.invokevirtual 104), 3, 133, 0) := by decide +kernel
theorem gx132_49 : aF 49 zM132.2.2.2.2.2.2.2 = some (49, (.istore 4), 2, 0, 0) := by decide +kernel
theorem gx132_51 : aF 51 zM132.2.2.2.2.2.2.2 = some (51, (.iload 4), 2, 0, 0) := by decide +kernel
theorem gx132_53 : aF 53 zM132.2.2.2.2.2.2.2 = some (53, (.ifCond .ne 7), 3, 60, 0) := by decide +kernel
theorem gx132_60 : aF 60 zM132.2.2.2.2.2.2.2 = some (60, (.iload_n 2), 1, 0, 0) := by decide +kernel
theorem gx132_61 : aF 61 zM132.2.2.2.2.2.2.2 = some (61, (.iload 4), 2, 0, 0) := by decide +kernel
theorem gx132_63 : aF 63 zM132.2.2.2.2.2.2.2 = some (63, .idiv, 1, 0, 0) := by decide +kernel
theorem gx132_64 : aF 64 zM132.2.2.2.2.2.2.2 = some (64, (.istore_n 2), 1, 0, 0) := by decide +kernel
theorem gx132_65 : aF 65 zM132.2.2.2.2.2.2.2 = some (65, (.goto 38), 3, 103, 0) := by decide +kernel
theorem gx132_56 : aF 56 zM132.2.2.2.2.2.2.2 = some (56, (.iconst 0), 1, 0, 0) := by decide +kernel
theorem gx132_57 : aF 57 zM132.2.2.2.2.2.2.2 = some (57, (.goto 7), 3, 64, 0) := by decide +kernel
theorem gx132_24 : aF 24 zM132.2.2.2.2.2.2.2 = some (24, (.iload_n 2), 1, 0, 0) := by decide +kernel
theorem gx132_25 : aF 25 zM132.2.2.2.2.2.2.2 = some (25, (.aload_n 0), 1, 0, 0) := by decide +kernel
theorem gx132_26 : aF 26 zM132.2.2.2.2.2.2.2 = some (26, (.iload_n 1), 1, 0, 0) := by decide +kernel
theorem gx132_27 : aF 27 zM132.2.2.2.2.2.2.2 = some (27, (.invokevirtual 104), 3, 133, 0) := by decide +kernel
theorem gx132_30 : aF 30 zM132.2.2.2.2.2.2.2 = some (30, .imul, 1, 0, 0) := by decide +kernel
theorem gx132_31 : aF 31 zM132.2.2.2.2.2.2.2 = some (31, (.istore_n 2), 1, 0, 0) := by decide +kernel
theorem gx132_32 : aF 32 zM132.2.2.2.2.2.2.2 = some (32, (.goto 71), 3, 103, 0) := by decide +kernel
theorem gx131_0 : aF 0 zM131.2.2.2.2.2.2.2 = some (0, (.aload_n 0), 1, 0, 0) := by decide +kernel
theorem gx131_1 : aF 1 zM131.2.2.2.2.2.2.2 = some (1, (.iload_n 1), 1, 0, 0) := by decide +kernel
theorem gx131_2 : aF 2 zM131.2.2.2.2.2.2.2 = some (2, (.invokevirtual 101), 3, 132, 0) := by decide +kernel
theorem gx131_5 : aF 5 zM131.2.2.2.2.2.2.2 = some (5, (.istore_n 2), 1, 0, 0) := by decide +kernel
theorem gx131_6 : aF 6 zM131.2.2.2.2.2.2.2 = some (6, (.iconst 0), 1, 0, 0) := by decide +kernel
theorem gx131_7 : aF 7 zM131.2.2.2.2.2.2.2 = some (7, (.istore_n 3), 1, 0, 0) := by decide +kernel
theorem gx131_8 : aF 8 zM131.2.2.2.2.2.2.2 = some (8, (.iload_n 3), 1, 0, 0) := by decide +kernel
theorem gx131_9 : aF 9 zM131.2.2.2.2.2.2.2 = some (9, (.sipush 160), 3, 0, 0) := by decide +kernel
theorem gx131_12 : aF 12 zM131.2.2.2.2.2.2.2 = some (12, (.if_icmp .ge 51), 3, 63, 0) := by decide +kernel
theorem gx131_63 : aF 63 zM131.2.2.2.2.2.2.2 = some (63, (.iload_n 2), 1, 0, 0) := by decide +kernel
theorem gx131_64 : aF 64 zM131.2.2.2.2.2.2.2 = some (64, .ireturn, 1, 0, 0) := by decide +kernel
theorem gx131_15 : aF 15 zM131.2.2.2.2.2.2.2 = some (15, (.aload_n 0), 1, 0, 0) := by decide +kernel
theorem gx131_16 : aF 16 zM131.2.2.2.2.2.2.2 = some (16, (.bipush 43), 2, 0, 0) := by decide +kernel
theorem gx131_18 : aF 18 zM131.2.2.2.2.2.2.2 = some (18, (.invokevirtual 65), 3, 125, 0) := by decide +kernel
theorem gx131_21 : aF 21 zM131.2.2.2.2.2.2.2 = some (21, (.ifCond .eq 14), 3, 35, 0) := by decide +kernel
theorem gx131_35 : aF 35 zM131.2.2.2.2.2.2.2 = some (35, (.aload_n 0), 1, 0, 0) := by decide +kernel
theorem gx131_36 : aF 36 zM131.2.2.2.2.2.2.2 = some (36, (.bipush 45), 2, 0, 0) := by decide +kernel
theorem gx131_38 : aF 38 zM131.2.2.2.2.2.2.2 = some (38, (.invokevirtual 65), 3, 125, 0) := by decide +kernel
theorem gx131_41 : aF 41 zM131.2.2.2.2.2.2.2 = some (41, (.ifCond .eq 14), 3, 55, 0) := by decide +kernel
theorem gx131_55 : aF 55 zM131.2.2.2.2.2.2.2 = some (55, (.iload_n 2), 1, 0, 0) := by decide +kernel
theorem gx131_56 : aF 56 zM131.2.2.2.2.2.2.2 = some (56, .ireturn, 1, 0, 0) := by decide +kernel
theorem gx131_44 : aF 44 zM131.2.2.2.2.2.2.2 = some (44, (.iload_n 2), 1, 0, 0) := by decide +kernel
theorem gx131_45 : aF 45 zM131.2.2.2.2.2.2.2 = some (45, (.aload_n 0), 1, 0, 0) := by decide +kernel
theorem gx131_46 : aF 46 zM131.2.2.2.2.2.2.2 = some (46, (.iload_n 1), 1, 0, 0) := by decide +kernel
theorem gx131_47 : aF 47 zM131.2.2.2.2.2.2.2 = some (47, (.invokevirtual 101), 3, 132, 0) := by decide +kernel
theorem gx131_50 : aF 50 zM131.2.2.2.2.2.2.2 = some (50, .isub, 1, 0, 0) := by decide +kernel
theorem gx131_51 : aF 51 zM131.2.2.2.2.2.2.2 = some (51, (.istore_n 2), 1, 0, 0) := by decide +kernel
theorem gx131_52 : aF 52 zM131.2.2.2.2.2.2.2 = some (52, (.goto 5), 3, 57, 0) := by decide +kernel
theorem gx131_57 : aF 57 zM131.2.2.2.2.2.2.2 = some (57, (.iinc 3 1), 3, 0, 0) := by decide +kernel
theorem gx131_60 : aF 60 zM131.2.2.2.2.2.2.2 = some (60, (.goto (-52)), 3, 8, 0) := by decide +kernel
theorem gx131_24 : aF 24 zM131.2.2.2.2.2.2.2 = some (24, (.iload_n 2), 1, 0, 0) := by decide +kernel
theorem gx131_25 : aF 25 zM131.2.2.2.2.2.2.2 = some (25, (.aload_n 0), 1, 0, 0) := by decide +kernel
theorem gx131_26 : aF 26 zM131.2.2.2.2.2.2.2 = some (26, (.iload_n 1), 1, 0, 0) := by decide +kernel
theorem gx131_27 : aF 27 zM131.2.2.2.2.2.2.2 = some (27, (.invokevirtual 101), 3, 132, 0) := by decide +kernel
theorem gx131_30 : aF 30 zM131.2.2.2.2.2.2.2 = some (30, .iadd, 1, 0, 0) := by decide +kernel
theorem gx131_31 : aF 31 zM131.2.2.2.2.2.2.2 = some (31, (.istore_n 2), 1, 0, 0) := by decide +kernel
theorem gx131_32 : aF 32 zM131.2.2.2.2.2.2.2 = some (32, (.goto 25), 3, 57, 0) := by decide +kernel
theorem gx129_0 : aF 0 zM129.2.2.2.2.2.2.2 = some (0, (.aload_n 0), 1, 0, 0) := by decide +kernel
theorem gx129_1 : aF 1 zM129.2.2.2.2.2.2.2 = some (1, (.iload_n 1), 1, 0, 0) := by decide +kernel
theorem gx129_2 : aF 2 zM129.2.2.2.2.2.2.2 = some (2, (.invokevirtual 95), 3, 130, 0) := by decide +kernel
theorem gx129_5 : aF 5 zM129.2.2.2.2.2.2.2 = some (5, (.istore_n 2), 1, 0, 0) := by decide +kernel
theorem gx129_6 : aF 6 zM129.2.2.2.2.2.2.2 = some (6, (.iconst 0), 1, 0, 0) := by decide +kernel
theorem gx129_7 : aF 7 zM129.2.2.2.2.2.2.2 = some (7, (.istore_n 3), 1, 0, 0) := by decide +kernel
theorem gx129_8 : aF 8 zM129.2.2.2.2.2.2.2 = some (8, (.iload_n 3), 1, 0, 0) := by decide +kernel
theorem gx129_9 : aF 9 zM129.2.2.2.2.2.2.2 = some (9, (.sipush 160), 3, 0, 0) := by decide +kernel
theorem gx129_12 : aF 12 zM129.2.2.2.2.2.2.2 = some (12, (.if_icmp .ge 43), 3, 55, 0) := by decide +kernel
theorem gx129_55 : aF 55 zM129.2.2.2.2.2.2.2 = some (55, (.iload_n 2), 1, 0, 0) := by decide +kernel
theorem gx129_56 : aF 56 zM129.2.2.2.2.2.2.2 = some (56, .ireturn, 1, 0, 0) := by decide +kernel
theorem gx129_15 : aF 15 zM129.2.2.2.2.2.2.2 = some (15, (.aload_n 0), 1, 0, 0) := by decide +kernel
theorem gx129_16 : aF 16 zM129.2.2.2.2.2.2.2 = some (16, (.bipush 38), 2, 0, 0) := by decide +kernel
theorem gx129_18 : aF 18 zM129.2.2.2.2.2.2.2 = some (18, (.invokevirtual 65), 3, 125, 0) := by decide +kernel
theorem gx129_21 : aF 21 zM129.2.2.2.2.2.2.2 = some (21, (.ifCond .eq 34), 3, 55, 0) := by decide +kernel
theorem gx129_24 : aF 24 zM129.2.2.2.2.2.2.2 = some (24, (.aload_n 0), 1, 0, 0) := by decide +kernel
theorem gx129_25 : aF 25 zM129.2.2.2.2.2.2.2 = some (25, (.iload_n 1), 1, 0, 0) := by decide +kernel
theorem gx129_26 : aF 26 zM129.2.2.2.2.2.2.2 = some (26, (.invokevirtual 95), 3, 130, 0) := by decide +kernel
theorem gx129_29 : aF 29 zM129.2.2.2.2.2.2.2 = some (29, (.istore 4), 2, 0, 0) := by decide +kernel
theorem gx129_31 : aF 31 zM129.2.2.2.2.2.2.2 = some (31, (.iload_n 2), 1, 0, 0) := by decide +kernel
theorem gx129_32 : aF 32 zM129.2.2.2.2.2.2.2 = some (32, (.ifCond .eq 12), 3, 44, 0) := by decide +kernel
theorem gx129_44 : aF 44 zM129.2.2.2.2.2.2.2 = some (44, (.iconst 0), 1, 0, 0) := by decide +kernel
theorem gx129_45 : aF 45 zM129.2.2.2.2.2.2.2 = some (45, (.invokestatic 91), 3, 127, 0) := by decide +kernel
theorem gx129_48 : aF 48 zM129.2.2.2.2.2.2.2 = some (48, (.istore_n 2), 1, 0, 0) := by decide +kernel
theorem gx129_49 : aF 49 zM129.2.2.2.2.2.2.2 = some (49, (.iinc 3 1), 3, 0, 0) := by decide +kernel
theorem gx129_52 : aF 52 zM129.2.2.2.2.2.2.2 = some (52, (.goto (-44)), 3, 8, 0) := by decide +kernel
theorem gx129_35 : aF 35 zM129.2.2.2.2.2.2.2 = some (35, (.iload 4), 2, 0, 0) := by decide +kernel
theorem gx129_37 : aF 37 zM129.2.2.2.2.2.2.2 = some (37, (.ifCond .eq 7), 3, 44, 0) := by decide +kernel
theorem gx129_40 : aF 40 zM129.2.2.2.2.2.2.2 = some (40, (.iconst 1), 1, 0, 0) := by decide +kernel
theorem gx129_41 : aF 41 zM129.2.2.2.2.2.2.2 = some (41, (.goto 4), 3, 45, 0) := by decide +kernel
theorem gx128_0 : aF 0 zM128.2.2.2.2.2.2.2 = some (0, (.aload_n 0), 1, 0, 0) := by decide +kernel
theorem gx128_1 : aF 1 zM128.2.2.2.2.2.2.2 = some (1, (.iload_n 1), 1, 0, 0) := by decide +kernel
theorem gx128_2 : aF 2 zM128.2.2.2.2.2.2.2 = some (2, (.invokevirtual 88), 3, 129, 0) := by decide +kernel
theorem gx128_5 : aF 5 zM128.2.2.2.2.2.2.2 = some (5, (.istore_n 2), 1, 0, 0) := by decide +kernel
theorem gx128_6 : aF 6 zM128.2.2.2.2.2.2.2 = some (6, (.iconst 0), 1, 0, 0) := by decide +kernel
theorem gx128_7 : aF 7 zM128.2.2.2.2.2.2.2 = some (7, (.istore_n 3), 1, 0, 0) := by decide +kernel
theorem gx128_8 : aF 8 zM128.2.2.2.2.2.2.2 = some (8, (.iload_n 3), 1, 0, 0) := by decide +kernel
theorem gx128_9 : aF 9 zM128.2.2.2.2.2.2.2 = some (9, (.sipush 160), 3, 0, 0) := by decide +kernel
theorem gx128_12 : aF 12 zM128.2.2.2.2.2.2.2 = some (12, (.if_icmp .ge 43), 3, 55, 0) := by decide +kernel
theorem gx128_55 : aF 55 zM128.2.2.2.2.2.2.2 = some (55, (.iload_n 2), 1, 0, 0) := by decide +kernel
theorem gx128_56 : aF 56 zM128.2.2.2.2.2.2.2 = some (56, .ireturn, 1, 0, 0) := by decide +kernel
theorem gx128_15 : aF 15 zM128.2.2.2.2.2.2.2 = some (15, (.aload_n 0), 1, 0, 0) := by decide +kernel
theorem gx128_16 : aF 16 zM128.2.2.2.2.2.2.2 = some (16, (.bipush 124), 2, 0, 0) := by decide +kernel
theorem gx128_18 : aF 18 zM128.2.2.2.2.2.2.2 = some (18, (.invokevirtual 65), 3, 125, 0) := by decide +kernel
theorem gx128_21 : aF 21 zM128.2.2.2.2.2.2.2 = some (21, (.ifCond .eq 34), 3, 55, 0) := by decide +kernel
theorem gx128_24 : aF 24 zM128.2.2.2.2.2.2.2 = some (24, (.aload_n 0), 1, 0, 0) := by decide +kernel
theorem gx128_25 : aF 25 zM128.2.2.2.2.2.2.2 = some (25, (.iload_n 1), 1, 0, 0) := by decide +kernel
theorem gx128_26 : aF 26 zM128.2.2.2.2.2.2.2 = some (26, (.invokevirtual 88), 3, 129, 0) := by decide +kernel
theorem gx128_29 : aF 29 zM128.2.2.2.2.2.2.2 = some (29, (.istore 4), 2, 0, 0) := by decide +kernel
theorem gx128_31 : aF 31 zM128.2.2.2.2.2.2.2 = some (31, (.iload_n 2), 1, 0, 0) := by decide +kernel
theorem gx128_32 : aF 32 zM128.2.2.2.2.2.2.2 = some (32, (.ifCond .ne 8), 3, 40, 0) := by decide +kernel
theorem gx128_40 : aF 40 zM128.2.2.2.2.2.2.2 = some (40, (.iconst 1), 1, 0, 0) := by decide +kernel
theorem gx128_41 : aF 41 zM128.2.2.2.2.2.2.2 = some (41, (.goto 4), 3, 45, 0) := by decide +kernel
theorem gx128_45 : aF 45 zM128.2.2.2.2.2.2.2 = some (45, (.invokestatic 91), 3, 127, 0) := by decide +kernel
theorem gx128_48 : aF 48 zM128.2.2.2.2.2.2.2 = some (48, (.istore_n 2), 1, 0, 0) := by decide +kernel
theorem gx128_49 : aF 49 zM128.2.2.2.2.2.2.2 = some (49, (.iinc 3 1), 3, 0, 0) := by decide +kernel
theorem gx128_52 : aF 52 zM128.2.2.2.2.2.2.2 = some (52, (.goto (-44)), 3, 8, 0) := by decide +kernel
theorem gx128_35 : aF 35 zM128.2.2.2.2.2.2.2 = some (35, (.iload 4), 2, 0, 0) := by decide +kernel
theorem gx128_37 : aF 37 zM128.2.2.2.2.2.2.2 = some (37, (.ifCond .eq 7), 3, 44, 0) := by decide +kernel
theorem gx128_44 : aF 44 zM128.2.2.2.2.2.2.2 = some (44, (.iconst 0), 1, 0, 0) := by decide +kernel
theorem gx130_0 : aF 0 zM130.2.2.2.2.2.2.2 = some (0, (.aload_n 0), 1, 0, 0) := by decide +kernel
theorem gx130_1 : aF 1 zM130.2.2.2.2.2.2.2 = some (1, (.iload_n 1), 1, 0, 0) := by decide +kernel
theorem gx130_2 : aF 2 zM130.2.2.2.2.2.2.2 = some (2, (.invokevirtual 98), 3, 131, 0) := by decide +kernel
theorem gx130_5 : aF 5 zM130.2.2.2.2.2.2.2 = some (5, (.istore_n 2), 1, 0, 0) := by decide +kernel
theorem gx130_6 : aF 6 zM130.2.2.2.2.2.2.2 = some (6, (.aload_n 0), 1, 0, 0) := by decide +kernel
theorem gx130_7 : aF 7 zM130.2.2.2.2.2.2.2 = some (7, (.bipush 60), 2, 0, 0) := by decide +kernel
theorem gx130_9 : aF 9 zM130.2.2.2.2.2.2.2 = some (9, (.invokevirtual 65), 3, 125, 0) := by decide +kernel
theorem gx130_12 : aF 12 zM130.2.2.2.2.2.2.2 = some (12, (.ifCond .eq 21), 3, 33, 0) := by decide +kernel
theorem gx130_33 : aF 33 zM130.2.2.2.2.2.2.2 = some (33, (.aload_n 0), 1, 0, 0) := by decide +kernel
theorem gx130_34 : aF 34 zM130.2.2.2.2.2.2.2 = some (34, (.bipush 61), 2, 0, 0) := by decide +kernel
theorem gx130_36 : aF 36 zM130.2.2.2.2.2.2.2 = some (36, (.invokevirtual 65), 3, 125, 0) := by decide +kernel
theorem gx130_39 : aF 39 zM130.2.2.2.2.2.2.2 = some (39, (.ifCond .eq 21), 3, 60, 0) := by decide +kernel
theorem gx130_60 : aF 60 zM130.2.2.2.2.2.2.2 = some (60, (.aload_n 0), 1, 0, 0) := by decide +kernel
theorem gx130_61 : aF 61 zM130.2.2.2.2.2.2.2 = some (61, (.bipush 62), 2, 0, 0) := by decide +kernel
theorem gx130_63 : aF 63 zM130.2.2.2.2.2.2.2 = some (63, (.invokevirtual 65), 3, 125, 0) := by decide +kernel
theorem gx130_66 : aF 66 zM130.2.2.2.2.2.2.2 = some (66, (.ifCond .eq 21), 3, 87, 0) := by decide +kernel
theorem gx130_87 : aF 87 zM130.2.2.2.2.2.2.2 = some (87, (.iload_n 2), 1, 0, 0) := by decide +kernel
theorem gx130_88 : aF 88 zM130.2.2.2.2.2.2.2 = some (88, .ireturn, 1, 0, 0) := by decide +kernel
theorem gx130_69 : aF 69 zM130.2.2.2.2.2.2.2 = some (69, (.iload_n 2), 1, 0, 0) := by decide +kernel
theorem gx130_70 : aF 70 zM130.2.2.2.2.2.2.2 = some (70, (.aload_n 0), 1, 0, 0) := by decide +kernel
theorem gx130_71 : aF 71 zM130.2.2.2.2.2.2.2 = some (71, (.iload_n 1), 1, 0, 0) := by decide +kernel
theorem gx130_72 : aF 72 zM130.2.2.2.2.2.2.2 = some (72, (.invokevirtual 98), 3, 131, 0) := by decide +kernel
theorem gx130_75 : aF 75 zM130.2.2.2.2.2.2.2 = some (75, (.if_icmp .le 7), 3, 82, 0) := by decide +kernel
theorem gx130_82 : aF 82 zM130.2.2.2.2.2.2.2 = some (82, (.iconst 0), 1, 0, 0) := by decide +kernel
theorem gx130_83 : aF 83 zM130.2.2.2.2.2.2.2 = some (83, (.invokestatic 91), 3, 127, 0) := by decide +kernel
theorem gx130_86 : aF 86 zM130.2.2.2.2.2.2.2 = some (86, .ireturn, 1, 0, 0) := by decide +kernel
theorem gx130_78 : aF 78 zM130.2.2.2.2.2.2.2 = some (78, (.iconst 1), 1, 0, 0) := by decide +kernel
theorem gx130_79 : aF 79 zM130.2.2.2.2.2.2.2 = some (79, (.goto 4), 3, 83, 0) := by decide +kernel
theorem gx130_42 : aF 42 zM130.2.2.2.2.2.2.2 = some (42, (.iload_n 2), 1, 0, 0) := by decide +kernel
theorem gx130_43 : aF 43 zM130.2.2.2.2.2.2.2 = some (43, (.aload_n 0), 1, 0, 0) := by decide +kernel
theorem gx130_44 : aF 44 zM130.2.2.2.2.2.2.2 = some (44, (.iload_n 1), 1, 0, 0) := by decide +kernel
theorem gx130_45 : aF 45 zM130.2.2.2.2.2.2.2 = some (45, (.invokevirtual 98), 3, 131, 0) := by decide +kernel
theorem gx130_48 : aF 48 zM130.2.2.2.2.2.2.2 = some (48, (.if_icmp .ne 7), 3, 55, 0) := by decide +kernel
theorem gx130_55 : aF 55 zM130.2.2.2.2.2.2.2 = some (55, (.iconst 0), 1, 0, 0) := by decide +kernel
theorem gx130_56 : aF 56 zM130.2.2.2.2.2.2.2 = some (56, (.invokestatic 91), 3, 127, 0) := by decide +kernel
theorem gx130_59 : aF 59 zM130.2.2.2.2.2.2.2 = some (59, .ireturn, 1, 0, 0) := by decide +kernel
theorem gx130_51 : aF 51 zM130.2.2.2.2.2.2.2 = some (51, (.iconst 1), 1, 0, 0) := by decide +kernel
theorem gx130_52 : aF 52 zM130.2.2.2.2.2.2.2 = some (52, (.goto 4), 3, 56, 0) := by decide +kernel
theorem gx130_15 : aF 15 zM130.2.2.2.2.2.2.2 = some (15, (.iload_n 2), 1, 0, 0) := by decide +kernel
theorem gx130_16 : aF 16 zM130.2.2.2.2.2.2.2 = some (16, (.aload_n 0), 1, 0, 0) := by decide +kernel
theorem gx130_17 : aF 17 zM130.2.2.2.2.2.2.2 = some (17, (.iload_n 1), 1, 0, 0) := by decide +kernel
theorem gx130_18 : aF 18 zM130.2.2.2.2.2.2.2 = some (18, (.invokevirtual 98), 3, 131, 0) := by decide +kernel
theorem gx130_21 : aF 21 zM130.2.2.2.2.2.2.2 = some (21, (.if_icmp .ge 7), 3, 28, 0) := by decide +kernel
theorem gx130_28 : aF 28 zM130.2.2.2.2.2.2.2 = some (28, (.iconst 0), 1, 0, 0) := by decide +kernel
theorem gx130_29 : aF 29 zM130.2.2.2.2.2.2.2 = some (29, (.invokestatic 91), 3, 127, 0) := by decide +kernel
theorem gx130_32 : aF 32 zM130.2.2.2.2.2.2.2 = some (32, .ireturn, 1, 0, 0) := by decide +kernel
theorem gx130_24 : aF 24 zM130.2.2.2.2.2.2.2 = some (24, (.iconst 1), 1, 0, 0) := by decide +kernel
theorem gx130_25 : aF 25 zM130.2.2.2.2.2.2.2 = some (25, (.goto 4), 3, 29, 0) := by decide +kernel
theorem gx133_0 : aF 0 zM133.2.2.2.2.2.2.2 = some (0, (.aload_n 0), 1, 0, 0) := by decide +kernel
theorem gx133_1 : aF 1 zM133.2.2.2.2.2.2.2 = some (1, (.invokevirtual 84), 3, 124, 0) := by decide +kernel
theorem gx133_4 : aF 4 zM133.2.2.2.2.2.2.2 = some (4, (.istore_n 2), 1, 0, 0) := by decide +kernel
theorem gx133_5 : aF 5 zM133.2.2.2.2.2.2.2 = some (5, (.iload_n 2), 1, 0, 0) := by decide +kernel
theorem gx133_6 : aF 6 zM133.2.2.2.2.2.2.2 = some (6, (.invokestatic 107), 3, 134, 0) := by decide +kernel
theorem gx133_9 : aF 9 zM133.2.2.2.2.2.2.2 = some (9, (.ifCond .eq 8), 3, 17, 0) := by decide +kernel
theorem gx133_17 : aF 17 zM133.2.2.2.2.2.2.2 = some (17, (.iload_n 2), 1, 0, 0) := by decide +kernel
theorem gx133_18 : aF 18 zM133.2.2.2.2.2.2.2 = some (18, (.iconst (-1)), 1, 0, 0) := by decide +kernel
theorem gx133_19 : aF 19 zM133.2.2.2.2.2.2.2 = some (19, (.if_icmp .ne 7), 3, 26, 0) := by decide +kernel
theorem gx133_26 : aF 26 zM133.2.2.2.2.2.2.2 = some (26, (.ldc 114), 2, 4294967296, 0) := by decide +kernel
theorem gx133_28 : aF 28 zM133.2.2.2.2.2.2.2 = some (28, (.iload_n 2), 1, 0, 0) := by decide +kernel
theorem gx133_29 : aF 29 zM133.2.2.2.2.2.2.2 = some (29, .i2c, 1, 0, 0) := by decide +kernel
theorem gx133_30 : aF 30 zM133.2.2.2.2.2.2.2 = some (30, (.invokevirtual 116), 3, 1001, 0) := by decide +kernel
theorem gx133_33 : aF 33 zM133.2.2.2.2.2.2.2 = some (33, (.istore_n 3), 1, 0, 0) := by decide +kernel
theorem gx133_34 : aF 34 zM133.2.2.2.2.2.2.2 = some (34, (.iload_n 3), 1, 0, 0) := by decide +kernel
theorem gx133_35 : aF 35 zM133.2.2.2.2.2.2.2 = some (35, (.iconst (-1)), 1, 0, 0) := by decide +kernel
theorem gx133_36 : aF 36 zM133.2.2.2.2.2.2.2 = some (36, (.if_icmp .eq 20), 3, 56, 0) := by decide +kernel
theorem gx133_56 : aF 56 zM133.2.2.2.2.2.2.2 = some (56, (.iload_n 1), 1, 0, 0) := by decide +kernel
theorem gx133_57 : aF 57 zM133.2.2.2.2.2.2.2 = some (57, (.bipush 8), 2, 0, 0) := by decide +kernel
theorem gx133_59 : aF 59 zM133.2.2.2.2.2.2.2 = some (59, (.if_icmp .lt 9), 3, 68, 0) := by decide +kernel
theorem gx133_68 : aF 68 zM133.2.2.2.2.2.2.2 = some (68, (.aload_n 0), 1, 0, 0) := by decide +kernel
theorem gx133_69 : aF 69 zM133.2.2.2.2.2.2.2 = some (69, (.bipush 33), 2, 0, 0) := by decide +kernel
theorem gx133_71 : aF 71 zM133.2.2.2.2.2.2.2 = some (71, (.invokevirtual 65), 3, 125, 0) := by decide +kernel
theorem gx133_74 : aF 74 zM133.2.2.2.2.2.2.2 = some (74, (.ifCond .eq 22), 3, 96, 0) := by decide +kernel
theorem gx133_96 : aF 96 zM133.2.2.2.2.2.2.2 = some (96, (.aload_n 0), 1, 0, 0) := by decide +kernel
theorem gx133_97 : aF 97 zM133.2.2.2.2.2.2.2 = some (97, (.bipush 45), 2, 0, 0) := by decide +kernel
theorem gx133_99 : aF 99 zM133.2.2.2.2.2.2.2 = some (99, (.invokevirtual 65), 3, 125, 0) := by decide +kernel
theorem gx133_102 : aF 102 zM133.2.2.2.2.2.2.2 = some (102, (.ifCond .eq 12), 3, 114, 0) := by decide +kernel
theorem gx133_114 : aF 114 zM133.2.2.2.2.2.2.2 = some (114, (.aload_n 0), 1, 0, 0) := by decide +kernel
theorem gx133_115 : aF 115 zM133.2.2.2.2.2.2.2 = some (115, (.bipush 40), 2, 0, 0) := by decide +kernel
theorem gx133_117 : aF 117 zM133.2.2.2.2.2.2.2 = some (117, (.invokevirtual 65), 3, 125, 0) := by decide +kernel
theorem gx133_120 : aF 120 zM133.2.2.2.2.2.2.2 = some (120, (.ifCond .ne 9), 3, 129, 0) := by decide +kernel
theorem gx133_129 : aF 129 zM133.2.2.2.2.2.2.2 = some (129, (.aload_n 0), 1, 0, 0) := by decide +kernel
theorem gx133_130 : aF 130 zM133.2.2.2.2.2.2.2 = some (130, (.iload_n 1), 1, 0, 0) := by decide +kernel
theorem gx133_131 : aF 131 zM133.2.2.2.2.2.2.2 = some (131, (.iconst 1), 1, 0, 0) := by decide +kernel
theorem gx133_132 : aF 132 zM133.2.2.2.2.2.2.2 = some (132, .iadd, 1, 0, 0) := by decide +kernel
theorem gx133_133 : aF 133 zM133.2.2.2.2.2.2.2 = some (133, (.invokevirtual 62), 3, 128, 0) := by decide +kernel
theorem gx133_136 : aF 136 zM133.2.2.2.2.2.2.2 = some (136, (.istore 4), 2, 0, 0) := by decide +kernel
theorem gx133_138 : aF 138 zM133.2.2.2.2.2.2.2 = some (138, (.aload_n 0), 1, 0, 0) := by decide +kernel
theorem gx133_139 : aF 139 zM133.2.2.2.2.2.2.2 = some (139, (.bipush 41), 2, 0, 0) := by decide +kernel
theorem gx133_141 : aF 141 zM133.2.2.2.2.2.2.2 = some (141, (.invokevirtual 65), 3, 125, 0) := by decide +kernel
theorem gx133_144 : aF 144 zM133.2.2.2.2.2.2.2 = some (144, (.ifCond .ne 7), 3, 151, 0) := by decide +kernel
theorem gx133_151 : aF 151 zM133.2.2.2.2.2.2.2 = some (151, (.iload 4), 2, 0, 0) := by decide +kernel
theorem gx133_153 : aF 153 zM133.2.2.2.2.2.2.2 = some (153, .ireturn, 1, 0, 0) := by decide +kernel
theorem gx133_147 : aF 147 zM133.2.2.2.2.2.2.2 = some (147, (.aload_n 0), 1, 0, 0) := by decide +kernel
theorem gx133_148 : aF 148 zM133.2.2.2.2.2.2.2 = some (148, (.invokevirtual 121), 3, 126, 0) := by decide +kernel
theorem gx133_123 : aF 123 zM133.2.2.2.2.2.2.2 = some (123, (.aload_n 0), 1, 0, 0) := by decide +kernel
theorem gx133_124 : aF 124 zM133.2.2.2.2.2.2.2 = some (124, (.invokevirtual 121), 3, 126, 0) := by decide +kernel
theorem gx133_127 : aF 127 zM133.2.2.2.2.2.2.2 = some (127, (.iconst 0), 1, 0, 0) := by decide +kernel
theorem gx133_128 : aF 128 zM133.2.2.2.2.2.2.2 = some (128, .ireturn, 1, 0, 0) := by decide +kernel
theorem gx133_105 : aF 105 zM133.2.2.2.2.2.2.2 = some (105, (.aload_n 0), 1, 0, 0) := by decide +kernel
theorem gx133_106 : aF 106 zM133.2.2.2.2.2.2.2 = some (106, (.iload_n 1), 1, 0, 0) := by decide +kernel
theorem gx133_107 : aF 107 zM133.2.2.2.2.2.2.2 = some (107, (.iconst 1), 1, 0, 0) := by decide +kernel
theorem gx133_108 : aF 108 zM133.2.2.2.2.2.2.2 = some (108, .iadd, 1, 0, 0) := by decide +kernel
theorem gx133_109 : aF 109 zM133.2.2.2.2.2.2.2 = some (109, (.invokevirtual 104), 3, 133, 0) := by decide +kernel
theorem gx133_112 : aF 112 zM133.2.2.2.2.2.2.2 = some (112, .ineg, 1, 0, 0) := by decide +kernel
theorem gx133_113 : aF 113 zM133.2.2.2.2.2.2.2 = some (113, .ireturn, 1, 0, 0) := by decide +kernel
theorem gx133_77 : aF 77 zM133.2.2.2.2.2.2.2 = some (77, (.aload_n 0), 1, 0, 0) := by decide +kernel
theorem gx133_78 : aF 78 zM133.2.2.2.2.2.2.2 = some (78, (.iload_n 1), 1, 0, 0) := by decide +kernel
theorem gx133_79 : aF 79 zM133.2.2.2.2.2.2.2 = some (79, (.iconst 1), 1, 0, 0) := by decide +kernel
theorem gx133_80 : aF 80 zM133.2.2.2.2.2.2.2 = some (80, .iadd, 1, 0, 0) := by decide +kernel
theorem gx133_81 : aF 81 zM133.2.2.2.2.2.2.2 = some (81, (.invokevirtual 104), 3, 133, 0) := by decide +kernel
theorem gx133_84 : aF 84 zM133.2.2.2.2.2.2.2 = some (84, (.ifCond .ne 7), 3, 91, 0) := by decide +kernel
theorem gx133_91 : aF 91 zM133.2.2.2.2.2.2.2 = some (91, (.iconst 0), 1, 0, 0) := by decide +kernel
theorem gx133_92 : aF 92 zM133.2.2.2.2.2.2.2 = some (92, (.invokestatic 91), 3, 127, 0) := by decide +kernel
theorem gx133_95 : aF 95 zM133.2.2.2.2.2.2.2 = some (95, .ireturn, 1, 0, 0) := by decide +kernel
theorem gx133_87 : aF 87 zM133.2.2.2.2.2.2.2 = some (87, (.iconst 1), 1, 0, 0) := by decide +kernel
theorem gx133_88 : aF 88 zM133.2.2.2.2.2.2.2 = some (88, (.goto 4), 3, 92, 0) := by decide +kernel
theorem gx133_62 : aF 62 zM133.2.2.2.2.2.2.2 = some (62, (.aload_n 0), 1, 0, 0) := by decide +kernel
theorem gx133_63 : aF 63 zM133.2.2.2.2.2.2.2 = some (63, (.invokevirtual 121), 3, 126, 0) := by decide +kernel
theorem gx133_66 : aF 66 zM133.2.2.2.2.2.2.2 = some (66, (.iconst 0), 1, 0, 0) := by decide +kernel
theorem gx133_67 : aF 67 zM133.2.2.2.2.2.2.2 = some (67, .ireturn, 1, 0, 0) := by decide +kernel
theorem gx133_39 : aF 39 zM133.2.2.2.2.2.2.2 = some (39, (.aload_n 0), 1, 0, 0) := by decide +kernel
theorem gx133_40 : aF 40 zM133.2.2.2.2.2.2.2 = some (40, .dup, 1, 0, 0) := by decide +kernel
theorem gx133_41 : aF 41 zM133.2.2.2.2.2.2.2 = some (41, (.getfield 75), 3, 10, 11) := by decide +kernel
theorem gx133_44 : aF 44 zM133.2.2.2.2.2.2.2 = some (44, (.iconst 1), 1, 0, 0) := by decide +kernel
theorem gx133_45 : aF 45 zM133.2.2.2.2.2.2.2 = some (45, .iadd, 1, 0, 0) := by decide +kernel
theorem gx133_46 : aF 46 zM133.2.2.2.2.2.2.2 = some (46, (.putfield 75), 3, 10, 11) := by decide +kernel
theorem gx133_49 : aF 49 zM133.2.2.2.2.2.2.2 = some (49, (.aload_n 0), 1, 0, 0) := by decide +kernel
theorem gx133_50 : aF 50 zM133.2.2.2.2.2.2.2 = some (50, (.getfield 34), 3, 10, 13) := by decide +kernel
theorem gx133_53 : aF 53 zM133.2.2.2.2.2.2.2 = some (53, (.iload_n 3), 1, 0, 0) := by decide +kernel
theorem gx133_54 : aF 54 zM133.2.2.2.2.2.2.2 = some (54, .iaload, 1, 0, 0) := by decide +kernel
theorem gx133_55 : aF 55 zM133.2.2.2.2.2.2.2 = some (55, .ireturn, 1, 0, 0) := by decide +kernel
theorem gx133_22 : aF 22 zM133.2.2.2.2.2.2.2 = some (22, (.iconst (-1)), 1, 0, 0) := by decide +kernel
theorem gx133_23 : aF 23 zM133.2.2.2.2.2.2.2 = some (23, (.goto 10), 3, 33, 0) := by decide +kernel
theorem gx133_12 : aF 12 zM133.2.2.2.2.2.2.2 = some (12, (.aload_n 0), 1, 0, 0) := by decide +kernel
theorem gx133_13 : aF 13 zM133.2.2.2.2.2.2.2 = some (13, (.invokevirtual 111), 3, 135, 0) := by decide +kernel
theorem gx133_16 : aF 16 zM133.2.2.2.2.2.2.2 = some (16, .ireturn, 1, 0, 0) := by decide +kernel
abbrev ct133 (n : Nat) (X : aX) : Prop := ∀ {h : aH} {x1 : Int32} {a1 : Int}, wS h → x1.toInt = a1 → cpre (vw h) a1 → Pt n X zM133 0 [some (.ref 33), some (.int x1), none, none, none] [] h (qI (fun _ h' => wS h' ∧ cRes 0 a1 (vw h) (vw h')))
abbrev ct132 (n : Nat) (X : aX) : Prop := ∀ {h : aH} {x1 : Int32} {a1 : Int}, wS h → x1.toInt = a1 → cpre (vw h) a1 → Pt n X zM132 0 [some (.ref 33), some (.int x1), none, none, none] [] h (qI (fun _ h' => wS h' ∧ cRes 1 a1 (vw h) (vw h')))
abbrev ct131 (n : Nat) (X : aX) : Prop := ∀ {h : aH} {x1 : Int32} {a1 : Int}, wS h → x1.toInt = a1 → cpre (vw h) a1 → Pt n X zM131 0 [some (.ref 33), some (.int x1), none, none] [] h (qI (fun _ h' => wS h' ∧ cRes 3 a1 (vw h) (vw h')))
abbrev ct130 (n : Nat) (X : aX) : Prop := ∀ {h : aH} {x1 : Int32} {a1 : Int}, wS h → x1.toInt = a1 → cpre (vw h) a1 → Pt n X zM130 0 [some (.ref 33), some (.int x1), none] [] h (qI (fun _ h' => wS h' ∧ cRes 5 a1 (vw h) (vw h')))
abbrev ct129 (n : Nat) (X : aX) : Prop := ∀ {h : aH} {x1 : Int32} {a1 : Int}, wS h → x1.toInt = a1 → cpre (vw h) a1 → Pt n X zM129 0 [some (.ref 33), some (.int x1), none, none, none] [] h (qI (fun _ h' => wS h' ∧ cRes 6 a1 (vw h) (vw h')))
abbrev ct128 (n : Nat) (X : aX) : Prop := ∀ {h : aH} {x1 : Int32} {a1 : Int}, wS h → x1.toInt = a1 → cpre (vw h) a1 → Pt n X zM128 0 [some (.ref 33), some (.int x1), none, none, none] [] h (qI (fun _ h' => wS h' ∧ cRes 8 a1 (vw h) (vw h')))
abbrev cl132 (n : Nat) (X : aX) : Prop := ∀ {h : aH} {x1 x2 x3 : Int32} {u4 : Option Value} {a1 a3 : Int}, wS h → x1.toInt = a1 → x3.toInt = a3 → tIn (vw h) → 0 ≤ a1 → a1 ≤ 8 → 0 ≤ a3 → a3 ≤ vw h 33 11 → Pt n X zM132 8 [some (.ref 33), some (.int x1), some (.int x2), some (.int x3), u4] [] h (qI (fun _ h' => wS h' ∧ cLo 2 a1 (vw h) (vw h')))
abbrev cl131 (n : Nat) (X : aX) : Prop := ∀ {h : aH} {x1 x2 x3 : Int32} {a1 a3 : Int}, wS h → x1.toInt = a1 → x3.toInt = a3 → tIn (vw h) → 0 ≤ a1 → a1 ≤ 8 → 0 ≤ a3 → a3 ≤ vw h 33 11 → Pt n X zM131 8 [some (.ref 33), some (.int x1), some (.int x2), some (.int x3)] [] h (qI (fun _ h' => wS h' ∧ cLo 4 a1 (vw h) (vw h')))
abbrev cl129 (n : Nat) (X : aX) : Prop := ∀ {h : aH} {x1 x2 x3 : Int32} {u4 : Option Value} {a1 a3 : Int}, wS h → x1.toInt = a1 → x3.toInt = a3 → tIn (vw h) → 0 ≤ a1 → a1 ≤ 8 → 0 ≤ a3 → a3 ≤ vw h 33 11 → Pt n X zM129 8 [some (.ref 33), some (.int x1), some (.int x2), some (.int x3), u4] [] h (qI (fun _ h' => wS h' ∧ cLo 7 a1 (vw h) (vw h')))
abbrev cl128 (n : Nat) (X : aX) : Prop := ∀ {h : aH} {x1 x2 x3 : Int32} {u4 : Option Value} {a1 a3 : Int}, wS h → x1.toInt = a1 → x3.toInt = a3 → tIn (vw h) → 0 ≤ a1 → a1 ≤ 8 → 0 ≤ a3 → a3 ≤ vw h 33 11 → Pt n X zM128 8 [some (.ref 33), some (.int x1), some (.int x2), some (.int x3), u4] [] h (qI (fun _ h' => wS h' ∧ cLo 9 a1 (vw h) (vw h')))
theorem d132_0 {n : Nat} {X : aX} {h : aH} {P : Int → aH → Prop} {x1 : Int32} {a1 : Int} (S : wS h) (z1 : x1.toInt = a1) (K133 : ct133 n X) (H : ((cpre (vw h) a1) ∧ ∀ (y1 : Int) (h_1 : aH), (wS h_1 ∧ cRes 0 a1 (vw h) (vw h_1)) → (∀ (w2 : Int32) (w3 : Int32) (u4_ : Option Value), w2.toInt = y1 → w3.toInt = 0 → Pt n X zM132 8 [some (.ref 33), some (.int x1), some (.int w2), some (.int w3), u4_] [] h_1 (qI P)))) : Pt (n + 1) X zM132 0 [some (.ref 33), some (.int x1), none, none, none] [] h (qI P) := by
  refine pt_1 (fun n d => r_aloadn gx132_0 rfl) ?_
  refine pt_d (pt_1 (fun n d => r_iloadn gx132_1 rfl) ?_)
  obtain ⟨pr1, H⟩ := H
  refine pt_d (pt_virt (as := [.int x1]) (r := []) gx132_2 rfl (show zmt[133]? = some zM133 from rfl) rfl rfl rfl rfl (K133 S z1 pr1) (kqI (fun v1 y1 h_1 h1 P1 => ?_)))
  have S1 := P1.1
  have H := H y1 h_1 P1
  show Pt _ _ _ 5 _ [.int v1] _ _
  refine pt_d (pt_1 (fun n d => r_istoren (L' := [some (.ref 33), some (.int x1), some (.int v1), none, none]) gx132_5 rfl rfl) ?_)
  refine pt_d (pt_iconst gx132_6 (fun v2 h2 => ?_))
  refine pt_d (pt_1 (fun n d => r_istoren (L' := [some (.ref 33), some (.int x1), some (.int v1), some (.int v2), none]) gx132_7 rfl rfl) ?_)
  exact H v1 v2 _ h1 h2
theorem d132_8 {n : Nat} {X : aX} {h : aH} {P : Int → aH → Prop} {x1 x2 x3 : Int32} {a1 a2 a3 : Int} {u4 : Option Value} (S : wS h) (z1 : x1.toInt = a1) (z2 : x2.toInt = a2) (z3 : x3.toInt = a3) (K133 : ct133 n X) (H : ((160 ≤ a3 → P a2 h) ∧ (a3 < 160 → ((tIn (vw h) ∧ (0 : Int) ≤ 42 ∧ (42 : Int) ≤ 127) ∧ ∀ (y4 : Int) (h_4 : aH), (wS h_4 ∧ R125 (vw h) 42 y4 (vw h_4)) → ((y4 = 0 → ((tIn (vw h_4) ∧ (0 : Int) ≤ 47 ∧ (47 : Int) ≤ 127) ∧ ∀ (y7 : Int) (h_7 : aH), (wS h_7 ∧ R125 (vw h_4) 47 y7 (vw h_7)) → ((y7 = 0 → ((tIn (vw h_7) ∧ (0 : Int) ≤ 37 ∧ (37 : Int) ≤ 127) ∧ ∀ (y10 : Int) (h_10 : aH), (wS h_10 ∧ R125 (vw h_7) 37 y10 (vw h_10)) → ((y10 = 0 → P a2 h_10) ∧ (y10 ≠ 0 → ((cpre (vw h_10) a1) ∧ ∀ (y12 : Int) (h_12 : aH), (wS h_12 ∧ cRes 0 a1 (vw h_10) (vw h_12)) → ((y12 ≠ 0 → (∀ (w2 : Int32) (w3 : Int32) (u4_ : Option Value), w2.toInt = iRem a2 y12 → w3.toInt = w32 (a3 + 1) → Pt n X zM132 8 [some (.ref 33), some (.int x1), some (.int w2), some (.int w3), u4_] [] h_12 (qI P))) ∧ (y12 = 0 → (∀ (w2 : Int32) (w3 : Int32) (u4_ : Option Value), w2.toInt = 0 → w3.toInt = w32 (a3 + 1) → Pt n X zM132 8 [some (.ref 33), some (.int x1), some (.int w2), some (.int w3), u4_] [] h_12 (qI P))))))))) ∧ (y7 ≠ 0 → ((cpre (vw h_7) a1) ∧ ∀ (y18 : Int) (h_18 : aH), (wS h_18 ∧ cRes 0 a1 (vw h_7) (vw h_18)) → ((y18 ≠ 0 → (∀ (w2 : Int32) (w3 : Int32) (u4_ : Option Value), w2.toInt = iDiv a2 y18 → w3.toInt = w32 (a3 + 1) → Pt n X zM132 8 [some (.ref 33), some (.int x1), some (.int w2), some (.int w3), u4_] [] h_18 (qI P))) ∧ (y18 = 0 → (∀ (w2 : Int32) (w3 : Int32) (u4_ : Option Value), w2.toInt = 0 → w3.toInt = w32 (a3 + 1) → Pt n X zM132 8 [some (.ref 33), some (.int x1), some (.int w2), some (.int w3), u4_] [] h_18 (qI P))))))))) ∧ (y4 ≠ 0 → ((cpre (vw h_4) a1) ∧ ∀ (y24 : Int) (h_24 : aH), (wS h_24 ∧ cRes 0 a1 (vw h_4) (vw h_24)) → (∀ (w2 : Int32) (w3 : Int32) (u4_ : Option Value), w2.toInt = w32 (a2 * y24) → w3.toInt = w32 (a3 + 1) → Pt n X zM132 8 [some (.ref 33), some (.int x1), some (.int w2), some (.int w3), u4_] [] h_24 (qI P))))))))) : Pt (n + 1) X zM132 8 [some (.ref 33), some (.int x1), some (.int x2), some (.int x3), u4] [] h (qI P) := by
  refine pt_1 (fun n d => r_iloadn gx132_8 rfl) ?_
  refine pt_d (pt_sipush gx132_9 (fun v1 h1 => ?_))
  refine pt_d (pt_icmp_ge gx132_12 z3 h1 (fun e2 => ?_) (fun e2 => ?_))
  · have H := H.1 e2
    refine pt_d (pt_1 (fun n d => r_iloadn gx132_109 rfl) ?_)
    exact pt_d (pt_iret gx132_110 ⟨_, rfl, by rw [z2]; exact H⟩)
  · have H := H.2 e2
    refine pt_d (pt_1 (fun n d => r_aloadn gx132_15 rfl) ?_)
    refine pt_d (pt_bipush gx132_16 (fun v3 h3 => ?_))
    obtain ⟨pr4, H⟩ := H
    refine pt_d (pt_virt (as := [.int v3]) (r := []) gx132_18 rfl (show zmt[125]? = some zM125 from rfl) rfl rfl rfl rfl (c_125 S h3 pr4) (kqI (fun v4 y4 h_4 h4 P4 => ?_)))
    have S4 := P4.1
    have H := H y4 h_4 P4
    show Pt _ _ _ 21 _ [.int v4] _ _
    refine pt_d (pt_if_eq gx132_21 h4 (fun e5 => ?_) (fun e5 => ?_))
    · have H := H.1 e5
      refine pt_d (pt_1 (fun n d => r_aloadn gx132_35 rfl) ?_)
      refine pt_d (pt_bipush gx132_36 (fun v6 h6 => ?_))
      obtain ⟨pr7, H⟩ := H
      refine pt_d (pt_virt (as := [.int v6]) (r := []) gx132_38 rfl (show zmt[125]? = some zM125 from rfl) rfl rfl rfl rfl (c_125 S4 h6 pr7) (kqI (fun v7 y7 h_7 h7 P7 => ?_)))
      have S7 := P7.1
      have H := H y7 h_7 P7
      show Pt _ _ _ 41 _ [.int v7] _ _
      refine pt_d (pt_if_eq gx132_41 h7 (fun e8 => ?_) (fun e8 => ?_))
      · have H := H.1 e8
        refine pt_d (pt_1 (fun n d => r_aloadn gx132_68 rfl) ?_)
        refine pt_d (pt_bipush gx132_69 (fun v9 h9 => ?_))
        obtain ⟨pr10, H⟩ := H
        refine pt_d (pt_virt (as := [.int v9]) (r := []) gx132_71 rfl (show zmt[125]? = some zM125 from rfl) rfl rfl rfl rfl (c_125 S7 h9 pr10) (kqI (fun v10 y10 h_10 h10 P10 => ?_)))
        have S10 := P10.1
        have H := H y10 h_10 P10
        show Pt _ _ _ 74 _ [.int v10] _ _
        refine pt_d (pt_if_eq gx132_74 h10 (fun e11 => ?_) (fun e11 => ?_))
        · have H := H.1 e11
          refine pt_d (pt_1 (fun n d => r_iloadn gx132_101 rfl) ?_)
          exact pt_d (pt_iret gx132_102 ⟨_, rfl, by rw [z2]; exact H⟩)
        · have H := H.2 e11
          refine pt_d (pt_1 (fun n d => r_aloadn gx132_77 rfl) ?_)
          refine pt_d (pt_1 (fun n d => r_iloadn gx132_78 rfl) ?_)
          obtain ⟨pr12, H⟩ := H
          refine pt_d (pt_virt (as := [.int x1]) (r := []) gx132_79 rfl (show zmt[133]? = some zM133 from rfl) rfl rfl rfl rfl (K133 S10 z1 pr12) (kqI (fun v12 y12 h_12 h12 P12 => ?_)))
          have S12 := P12.1
          have H := H y12 h_12 P12
          show Pt _ _ _ 82 _ [.int v12] _ _
          refine pt_d (pt_1 (fun n d => r_istore (L' := [some (.ref 33), some (.int x1), some (.int x2), some (.int x3), some (.int v12)]) gx132_82 rfl rfl) ?_)
          refine pt_d (pt_1 (fun n d => r_iload gx132_84 rfl) ?_)
          refine pt_d (pt_if_ne gx132_86 h12 (fun e13 => ?_) (fun e13 => ?_))
          · have H := H.1 e13
            refine pt_d (pt_1 (fun n d => r_iloadn gx132_93 rfl) ?_)
            refine pt_d (pt_1 (fun n d => r_iload gx132_94 rfl) ?_)
            refine pt_d (pt_irem gx132_96 z2 h12 (fun v14 h14 => ?_))
            refine pt_d (pt_1 (fun n d => r_istoren (L' := [some (.ref 33), some (.int x1), some (.int v14), some (.int x3), some (.int v12)]) gx132_97 rfl rfl) ?_)
            refine pt_d (pt_1 (fun n d => r_goto gx132_98) ?_)
            refine pt_d (pt_iinc (c := 1) gx132_103 rfl z3 (fun v15 h15 => ?_))
            show Pt _ _ _ _ [some (.ref 33), some (.int x1), some (.int v14), some (.int v15), some (.int v12)] [] _ _
            refine pt_d (pt_1 (fun n d => r_goto gx132_106) ?_)
            exact H v14 v15 _ h14 h15
          · have H := H.2 e13
            refine pt_d (pt_iconst gx132_89 (fun v16 h16 => ?_))
            refine pt_d (pt_1 (fun n d => r_goto gx132_90) ?_)
            refine pt_d (pt_1 (fun n d => r_istoren (L' := [some (.ref 33), some (.int x1), some (.int v16), some (.int x3), some (.int v12)]) gx132_97 rfl rfl) ?_)
            refine pt_d (pt_1 (fun n d => r_goto gx132_98) ?_)
            refine pt_d (pt_iinc (c := 1) gx132_103 rfl z3 (fun v17 h17 => ?_))
            show Pt _ _ _ _ [some (.ref 33), some (.int x1), some (.int v16), some (.int v17), some (.int v12)] [] _ _
            refine pt_d (pt_1 (fun n d => r_goto gx132_106) ?_)
            exact H v16 v17 _ h16 h17
      · have H := H.2 e8
        refine pt_d (pt_1 (fun n d => r_aloadn gx132_44 rfl) ?_)
        refine pt_d (pt_1 (fun n d => r_iloadn gx132_45 rfl) ?_)
        obtain ⟨pr18, H⟩ := H
        refine pt_d (pt_virt (as := [.int x1]) (r := []) gx132_46 rfl (show zmt[133]? = some zM133 from rfl) rfl rfl rfl rfl (K133 S7 z1 pr18) (kqI (fun v18 y18 h_18 h18 P18 => ?_)))
        have S18 := P18.1
        have H := H y18 h_18 P18
        show Pt _ _ _ 49 _ [.int v18] _ _
        refine pt_d (pt_1 (fun n d => r_istore (L' := [some (.ref 33), some (.int x1), some (.int x2), some (.int x3), some (.int v18)]) gx132_49 rfl rfl) ?_)
        refine pt_d (pt_1 (fun n d => r_iload gx132_51 rfl) ?_)
        refine pt_d (pt_if_ne gx132_53 h18 (fun e19 => ?_) (fun e19 => ?_))
        · have H := H.1 e19
          refine pt_d (pt_1 (fun n d => r_iloadn gx132_60 rfl) ?_)
          refine pt_d (pt_1 (fun n d => r_iload gx132_61 rfl) ?_)
          refine pt_d (pt_idiv gx132_63 z2 h18 (fun v20 h20 => ?_))
          refine pt_d (pt_1 (fun n d => r_istoren (L' := [some (.ref 33), some (.int x1), some (.int v20), some (.int x3), some (.int v18)]) gx132_64 rfl rfl) ?_)
          refine pt_d (pt_1 (fun n d => r_goto gx132_65) ?_)
          refine pt_d (pt_iinc (c := 1) gx132_103 rfl z3 (fun v21 h21 => ?_))
          show Pt _ _ _ _ [some (.ref 33), some (.int x1), some (.int v20), some (.int v21), some (.int v18)] [] _ _
          refine pt_d (pt_1 (fun n d => r_goto gx132_106) ?_)
          exact H v20 v21 _ h20 h21
        · have H := H.2 e19
          refine pt_d (pt_iconst gx132_56 (fun v22 h22 => ?_))
          refine pt_d (pt_1 (fun n d => r_goto gx132_57) ?_)
          refine pt_d (pt_1 (fun n d => r_istoren (L' := [some (.ref 33), some (.int x1), some (.int v22), some (.int x3), some (.int v18)]) gx132_64 rfl rfl) ?_)
          refine pt_d (pt_1 (fun n d => r_goto gx132_65) ?_)
          refine pt_d (pt_iinc (c := 1) gx132_103 rfl z3 (fun v23 h23 => ?_))
          show Pt _ _ _ _ [some (.ref 33), some (.int x1), some (.int v22), some (.int v23), some (.int v18)] [] _ _
          refine pt_d (pt_1 (fun n d => r_goto gx132_106) ?_)
          exact H v22 v23 _ h22 h23
    · have H := H.2 e5
      refine pt_d (pt_1 (fun n d => r_iloadn gx132_24 rfl) ?_)
      refine pt_d (pt_1 (fun n d => r_aloadn gx132_25 rfl) ?_)
      refine pt_d (pt_1 (fun n d => r_iloadn gx132_26 rfl) ?_)
      obtain ⟨pr24, H⟩ := H
      refine pt_d (pt_virt (as := [.int x1]) (r := [.int x2]) gx132_27 rfl (show zmt[133]? = some zM133 from rfl) rfl rfl rfl rfl (K133 S4 z1 pr24) (kqI (fun v24 y24 h_24 h24 P24 => ?_)))
      have S24 := P24.1
      have H := H y24 h_24 P24
      show Pt _ _ _ 30 _ [.int v24, .int x2] _ _
      refine pt_d (pt_imul gx132_30 z2 h24 (fun v25 h25 => ?_))
      refine pt_d (pt_1 (fun n d => r_istoren (L' := [some (.ref 33), some (.int x1), some (.int v25), some (.int x3), u4]) gx132_31 rfl rfl) ?_)
      refine pt_d (pt_1 (fun n d => r_goto gx132_32) ?_)
      refine pt_d (pt_iinc (c := 1) gx132_103 rfl z3 (fun v26 h26 => ?_))
      show Pt _ _ _ _ [some (.ref 33), some (.int x1), some (.int v25), some (.int v26), u4] [] _ _
      refine pt_d (pt_1 (fun n d => r_goto gx132_106) ?_)
      exact H v25 v26 _ h25 h26
theorem d131_0 {n : Nat} {X : aX} {h : aH} {P : Int → aH → Prop} {x1 : Int32} {a1 : Int} (S : wS h) (z1 : x1.toInt = a1) (K132 : ct132 n X) (H : ((cpre (vw h) a1) ∧ ∀ (y1 : Int) (h_1 : aH), (wS h_1 ∧ cRes 1 a1 (vw h) (vw h_1)) → (∀ (w2 : Int32) (w3 : Int32), w2.toInt = y1 → w3.toInt = 0 → Pt n X zM131 8 [some (.ref 33), some (.int x1), some (.int w2), some (.int w3)] [] h_1 (qI P)))) : Pt (n + 1) X zM131 0 [some (.ref 33), some (.int x1), none, none] [] h (qI P) := by
  refine pt_1 (fun n d => r_aloadn gx131_0 rfl) ?_
  refine pt_d (pt_1 (fun n d => r_iloadn gx131_1 rfl) ?_)
  obtain ⟨pr1, H⟩ := H
  refine pt_d (pt_virt (as := [.int x1]) (r := []) gx131_2 rfl (show zmt[132]? = some zM132 from rfl) rfl rfl rfl rfl (K132 S z1 pr1) (kqI (fun v1 y1 h_1 h1 P1 => ?_)))
  have S1 := P1.1
  have H := H y1 h_1 P1
  show Pt _ _ _ 5 _ [.int v1] _ _
  refine pt_d (pt_1 (fun n d => r_istoren (L' := [some (.ref 33), some (.int x1), some (.int v1), none]) gx131_5 rfl rfl) ?_)
  refine pt_d (pt_iconst gx131_6 (fun v2 h2 => ?_))
  refine pt_d (pt_1 (fun n d => r_istoren (L' := [some (.ref 33), some (.int x1), some (.int v1), some (.int v2)]) gx131_7 rfl rfl) ?_)
  exact H v1 v2 h1 h2
theorem d131_8 {n : Nat} {X : aX} {h : aH} {P : Int → aH → Prop} {x1 x2 x3 : Int32} {a1 a2 a3 : Int} (S : wS h) (z1 : x1.toInt = a1) (z2 : x2.toInt = a2) (z3 : x3.toInt = a3) (K132 : ct132 n X) (H : ((160 ≤ a3 → P a2 h) ∧ (a3 < 160 → ((tIn (vw h) ∧ (0 : Int) ≤ 43 ∧ (43 : Int) ≤ 127) ∧ ∀ (y4 : Int) (h_4 : aH), (wS h_4 ∧ R125 (vw h) 43 y4 (vw h_4)) → ((y4 = 0 → ((tIn (vw h_4) ∧ (0 : Int) ≤ 45 ∧ (45 : Int) ≤ 127) ∧ ∀ (y7 : Int) (h_7 : aH), (wS h_7 ∧ R125 (vw h_4) 45 y7 (vw h_7)) → ((y7 = 0 → P a2 h_7) ∧ (y7 ≠ 0 → ((cpre (vw h_7) a1) ∧ ∀ (y9 : Int) (h_9 : aH), (wS h_9 ∧ cRes 1 a1 (vw h_7) (vw h_9)) → (∀ (w2 : Int32) (w3 : Int32), w2.toInt = w32 (a2 - y9) → w3.toInt = w32 (a3 + 1) → Pt n X zM131 8 [some (.ref 33), some (.int x1), some (.int w2), some (.int w3)] [] h_9 (qI P))))))) ∧ (y4 ≠ 0 → ((cpre (vw h_4) a1) ∧ ∀ (y12 : Int) (h_12 : aH), (wS h_12 ∧ cRes 1 a1 (vw h_4) (vw h_12)) → (∀ (w2 : Int32) (w3 : Int32), w2.toInt = w32 (a2 + y12) → w3.toInt = w32 (a3 + 1) → Pt n X zM131 8 [some (.ref 33), some (.int x1), some (.int w2), some (.int w3)] [] h_12 (qI P))))))))) : Pt (n + 1) X zM131 8 [some (.ref 33), some (.int x1), some (.int x2), some (.int x3)] [] h (qI P) := by
  refine pt_1 (fun n d => r_iloadn gx131_8 rfl) ?_
  refine pt_d (pt_sipush gx131_9 (fun v1 h1 => ?_))
  refine pt_d (pt_icmp_ge gx131_12 z3 h1 (fun e2 => ?_) (fun e2 => ?_))
  · have H := H.1 e2
    refine pt_d (pt_1 (fun n d => r_iloadn gx131_63 rfl) ?_)
    exact pt_d (pt_iret gx131_64 ⟨_, rfl, by rw [z2]; exact H⟩)
  · have H := H.2 e2
    refine pt_d (pt_1 (fun n d => r_aloadn gx131_15 rfl) ?_)
    refine pt_d (pt_bipush gx131_16 (fun v3 h3 => ?_))
    obtain ⟨pr4, H⟩ := H
    refine pt_d (pt_virt (as := [.int v3]) (r := []) gx131_18 rfl (show zmt[125]? = some zM125 from rfl) rfl rfl rfl rfl (c_125 S h3 pr4) (kqI (fun v4 y4 h_4 h4 P4 => ?_)))
    have S4 := P4.1
    have H := H y4 h_4 P4
    show Pt _ _ _ 21 _ [.int v4] _ _
    refine pt_d (pt_if_eq gx131_21 h4 (fun e5 => ?_) (fun e5 => ?_))
    · have H := H.1 e5
      refine pt_d (pt_1 (fun n d => r_aloadn gx131_35 rfl) ?_)
      refine pt_d (pt_bipush gx131_36 (fun v6 h6 => ?_))
      obtain ⟨pr7, H⟩ := H
      refine pt_d (pt_virt (as := [.int v6]) (r := []) gx131_38 rfl (show zmt[125]? = some zM125 from rfl) rfl rfl rfl rfl (c_125 S4 h6 pr7) (kqI (fun v7 y7 h_7 h7 P7 => ?_)))
      have S7 := P7.1
      have H := H y7 h_7 P7
      show Pt _ _ _ 41 _ [.int v7] _ _
      refine pt_d (pt_if_eq gx131_41 h7 (fun e8 => ?_) (fun e8 => ?_))
      · have H := H.1 e8
        refine pt_d (pt_1 (fun n d => r_iloadn gx131_55 rfl) ?_)
        exact pt_d (pt_iret gx131_56 ⟨_, rfl, by rw [z2]; exact H⟩)
      · have H := H.2 e8
        refine pt_d (pt_1 (fun n d => r_iloadn gx131_44 rfl) ?_)
        refine pt_d (pt_1 (fun n d => r_aloadn gx131_45 rfl) ?_)
        refine pt_d (pt_1 (fun n d => r_iloadn gx131_46 rfl) ?_)
        obtain ⟨pr9, H⟩ := H
        refine pt_d (pt_virt (as := [.int x1]) (r := [.int x2]) gx131_47 rfl (show zmt[132]? = some zM132 from rfl) rfl rfl rfl rfl (K132 S7 z1 pr9) (kqI (fun v9 y9 h_9 h9 P9 => ?_)))
        have S9 := P9.1
        have H := H y9 h_9 P9
        show Pt _ _ _ 50 _ [.int v9, .int x2] _ _
        refine pt_d (pt_isub gx131_50 z2 h9 (fun v10 h10 => ?_))
        refine pt_d (pt_1 (fun n d => r_istoren (L' := [some (.ref 33), some (.int x1), some (.int v10), some (.int x3)]) gx131_51 rfl rfl) ?_)
        refine pt_d (pt_1 (fun n d => r_goto gx131_52) ?_)
        refine pt_d (pt_iinc (c := 1) gx131_57 rfl z3 (fun v11 h11 => ?_))
        show Pt _ _ _ _ [some (.ref 33), some (.int x1), some (.int v10), some (.int v11)] [] _ _
        refine pt_d (pt_1 (fun n d => r_goto gx131_60) ?_)
        exact H v10 v11 h10 h11
    · have H := H.2 e5
      refine pt_d (pt_1 (fun n d => r_iloadn gx131_24 rfl) ?_)
      refine pt_d (pt_1 (fun n d => r_aloadn gx131_25 rfl) ?_)
      refine pt_d (pt_1 (fun n d => r_iloadn gx131_26 rfl) ?_)
      obtain ⟨pr12, H⟩ := H
      refine pt_d (pt_virt (as := [.int x1]) (r := [.int x2]) gx131_27 rfl (show zmt[132]? = some zM132 from rfl) rfl rfl rfl rfl (K132 S4 z1 pr12) (kqI (fun v12 y12 h_12 h12 P12 => ?_)))
      have S12 := P12.1
      have H := H y12 h_12 P12
      show Pt _ _ _ 30 _ [.int v12, .int x2] _ _
      refine pt_d (pt_iadd gx131_30 z2 h12 (fun v13 h13 => ?_))
      refine pt_d (pt_1 (fun n d => r_istoren (L' := [some (.ref 33), some (.int x1), some (.int v13), some (.int x3)]) gx131_31 rfl rfl) ?_)
      refine pt_d (pt_1 (fun n d => r_goto gx131_32) ?_)
      refine pt_d (pt_iinc (c := 1) gx131_57 rfl z3 (fun v14 h14 => ?_))
      show Pt _ _ _ _ [some (.ref 33), some (.int x1), some (.int v13), some (.int v14)] [] _ _
      refine pt_d (pt_1 (fun n d => r_goto gx131_60) ?_)
      exact H v13 v14 h13 h14
theorem d129_0 {n : Nat} {X : aX} {h : aH} {P : Int → aH → Prop} {x1 : Int32} {a1 : Int} (S : wS h) (z1 : x1.toInt = a1) (K130 : ct130 n X) (H : ((cpre (vw h) a1) ∧ ∀ (y1 : Int) (h_1 : aH), (wS h_1 ∧ cRes 5 a1 (vw h) (vw h_1)) → (∀ (w2 : Int32) (w3 : Int32) (u4_ : Option Value), w2.toInt = y1 → w3.toInt = 0 → Pt n X zM129 8 [some (.ref 33), some (.int x1), some (.int w2), some (.int w3), u4_] [] h_1 (qI P)))) : Pt (n + 1) X zM129 0 [some (.ref 33), some (.int x1), none, none, none] [] h (qI P) := by
  refine pt_1 (fun n d => r_aloadn gx129_0 rfl) ?_
  refine pt_d (pt_1 (fun n d => r_iloadn gx129_1 rfl) ?_)
  obtain ⟨pr1, H⟩ := H
  refine pt_d (pt_virt (as := [.int x1]) (r := []) gx129_2 rfl (show zmt[130]? = some zM130 from rfl) rfl rfl rfl rfl (K130 S z1 pr1) (kqI (fun v1 y1 h_1 h1 P1 => ?_)))
  have S1 := P1.1
  have H := H y1 h_1 P1
  show Pt _ _ _ 5 _ [.int v1] _ _
  refine pt_d (pt_1 (fun n d => r_istoren (L' := [some (.ref 33), some (.int x1), some (.int v1), none, none]) gx129_5 rfl rfl) ?_)
  refine pt_d (pt_iconst gx129_6 (fun v2 h2 => ?_))
  refine pt_d (pt_1 (fun n d => r_istoren (L' := [some (.ref 33), some (.int x1), some (.int v1), some (.int v2), none]) gx129_7 rfl rfl) ?_)
  exact H v1 v2 _ h1 h2
theorem d129_8 {n : Nat} {X : aX} {h : aH} {P : Int → aH → Prop} {x1 x2 x3 : Int32} {a1 a2 a3 : Int} {u4 : Option Value} (S : wS h) (z1 : x1.toInt = a1) (z2 : x2.toInt = a2) (z3 : x3.toInt = a3) (K130 : ct130 n X) (H : ((160 ≤ a3 → P a2 h) ∧ (a3 < 160 → ((tIn (vw h) ∧ (0 : Int) ≤ 38 ∧ (38 : Int) ≤ 127) ∧ ∀ (y4 : Int) (h_4 : aH), (wS h_4 ∧ R125 (vw h) 38 y4 (vw h_4)) → ((y4 = 0 → P a2 h_4) ∧ (y4 ≠ 0 → ((cpre (vw h_4) a1) ∧ ∀ (y6 : Int) (h_6 : aH), (wS h_6 ∧ cRes 5 a1 (vw h_4) (vw h_6)) → ((a2 = 0 → (∀ (w2 : Int32) (w3 : Int32) (u4_ : Option Value), w2.toInt = (if (0 : Int) = 0 then 0 else 1) → w3.toInt = w32 (a3 + 1) → Pt n X zM129 8 [some (.ref 33), some (.int x1), some (.int w2), some (.int w3), u4_] [] h_6 (qI P))) ∧ (a2 ≠ 0 → ((y6 = 0 → (∀ (w2 : Int32) (w3 : Int32) (u4_ : Option Value), w2.toInt = (if (0 : Int) = 0 then 0 else 1) → w3.toInt = w32 (a3 + 1) → Pt n X zM129 8 [some (.ref 33), some (.int x1), some (.int w2), some (.int w3), u4_] [] h_6 (qI P))) ∧ (y6 ≠ 0 → (∀ (w2 : Int32) (w3 : Int32) (u4_ : Option Value), w2.toInt = (if (1 : Int) = 0 then 0 else 1) → w3.toInt = w32 (a3 + 1) → Pt n X zM129 8 [some (.ref 33), some (.int x1), some (.int w2), some (.int w3), u4_] [] h_6 (qI P))))))))))))) : Pt (n + 1) X zM129 8 [some (.ref 33), some (.int x1), some (.int x2), some (.int x3), u4] [] h (qI P) := by
  refine pt_1 (fun n d => r_iloadn gx129_8 rfl) ?_
  refine pt_d (pt_sipush gx129_9 (fun v1 h1 => ?_))
  refine pt_d (pt_icmp_ge gx129_12 z3 h1 (fun e2 => ?_) (fun e2 => ?_))
  · have H := H.1 e2
    refine pt_d (pt_1 (fun n d => r_iloadn gx129_55 rfl) ?_)
    exact pt_d (pt_iret gx129_56 ⟨_, rfl, by rw [z2]; exact H⟩)
  · have H := H.2 e2
    refine pt_d (pt_1 (fun n d => r_aloadn gx129_15 rfl) ?_)
    refine pt_d (pt_bipush gx129_16 (fun v3 h3 => ?_))
    obtain ⟨pr4, H⟩ := H
    refine pt_d (pt_virt (as := [.int v3]) (r := []) gx129_18 rfl (show zmt[125]? = some zM125 from rfl) rfl rfl rfl rfl (c_125 S h3 pr4) (kqI (fun v4 y4 h_4 h4 P4 => ?_)))
    have S4 := P4.1
    have H := H y4 h_4 P4
    show Pt _ _ _ 21 _ [.int v4] _ _
    refine pt_d (pt_if_eq gx129_21 h4 (fun e5 => ?_) (fun e5 => ?_))
    · have H := H.1 e5
      refine pt_d (pt_1 (fun n d => r_iloadn gx129_55 rfl) ?_)
      exact pt_d (pt_iret gx129_56 ⟨_, rfl, by rw [z2]; exact H⟩)
    · have H := H.2 e5
      refine pt_d (pt_1 (fun n d => r_aloadn gx129_24 rfl) ?_)
      refine pt_d (pt_1 (fun n d => r_iloadn gx129_25 rfl) ?_)
      obtain ⟨pr6, H⟩ := H
      refine pt_d (pt_virt (as := [.int x1]) (r := []) gx129_26 rfl (show zmt[130]? = some zM130 from rfl) rfl rfl rfl rfl (K130 S4 z1 pr6) (kqI (fun v6 y6 h_6 h6 P6 => ?_)))
      have S6 := P6.1
      have H := H y6 h_6 P6
      show Pt _ _ _ 29 _ [.int v6] _ _
      refine pt_d (pt_1 (fun n d => r_istore (L' := [some (.ref 33), some (.int x1), some (.int x2), some (.int x3), some (.int v6)]) gx129_29 rfl rfl) ?_)
      refine pt_d (pt_1 (fun n d => r_iloadn gx129_31 rfl) ?_)
      refine pt_d (pt_if_eq gx129_32 z2 (fun e7 => ?_) (fun e7 => ?_))
      · have H := H.1 e7
        refine pt_d (pt_iconst gx129_44 (fun v8 h8 => ?_))
        refine pt_d (pt_stat (as := [.int v8]) (r := []) gx129_45 rfl (show zmt[127]? = some zM127 from rfl) rfl rfl rfl rfl (c_127 S6 h8) (kqP (fun v9 h9 => ?_)))
        show Pt _ _ _ 48 _ [.int v9] _ _
        refine pt_d (pt_1 (fun n d => r_istoren (L' := [some (.ref 33), some (.int x1), some (.int v9), some (.int x3), some (.int v6)]) gx129_48 rfl rfl) ?_)
        refine pt_d (pt_iinc (c := 1) gx129_49 rfl z3 (fun v10 h10 => ?_))
        show Pt _ _ _ _ [some (.ref 33), some (.int x1), some (.int v9), some (.int v10), some (.int v6)] [] _ _
        refine pt_d (pt_1 (fun n d => r_goto gx129_52) ?_)
        exact H v9 v10 _ h9 h10
      · have H := H.2 e7
        refine pt_d (pt_1 (fun n d => r_iload gx129_35 rfl) ?_)
        refine pt_d (pt_if_eq gx129_37 h6 (fun e11 => ?_) (fun e11 => ?_))
        · have H := H.1 e11
          refine pt_d (pt_iconst gx129_44 (fun v12 h12 => ?_))
          refine pt_d (pt_stat (as := [.int v12]) (r := []) gx129_45 rfl (show zmt[127]? = some zM127 from rfl) rfl rfl rfl rfl (c_127 S6 h12) (kqP (fun v13 h13 => ?_)))
          show Pt _ _ _ 48 _ [.int v13] _ _
          refine pt_d (pt_1 (fun n d => r_istoren (L' := [some (.ref 33), some (.int x1), some (.int v13), some (.int x3), some (.int v6)]) gx129_48 rfl rfl) ?_)
          refine pt_d (pt_iinc (c := 1) gx129_49 rfl z3 (fun v14 h14 => ?_))
          show Pt _ _ _ _ [some (.ref 33), some (.int x1), some (.int v13), some (.int v14), some (.int v6)] [] _ _
          refine pt_d (pt_1 (fun n d => r_goto gx129_52) ?_)
          exact H v13 v14 _ h13 h14
        · have H := H.2 e11
          refine pt_d (pt_iconst gx129_40 (fun v15 h15 => ?_))
          refine pt_d (pt_1 (fun n d => r_goto gx129_41) ?_)
          refine pt_d (pt_stat (as := [.int v15]) (r := []) gx129_45 rfl (show zmt[127]? = some zM127 from rfl) rfl rfl rfl rfl (c_127 S6 h15) (kqP (fun v16 h16 => ?_)))
          show Pt _ _ _ 48 _ [.int v16] _ _
          refine pt_d (pt_1 (fun n d => r_istoren (L' := [some (.ref 33), some (.int x1), some (.int v16), some (.int x3), some (.int v6)]) gx129_48 rfl rfl) ?_)
          refine pt_d (pt_iinc (c := 1) gx129_49 rfl z3 (fun v17 h17 => ?_))
          show Pt _ _ _ _ [some (.ref 33), some (.int x1), some (.int v16), some (.int v17), some (.int v6)] [] _ _
          refine pt_d (pt_1 (fun n d => r_goto gx129_52) ?_)
          exact H v16 v17 _ h16 h17
theorem d128_0 {n : Nat} {X : aX} {h : aH} {P : Int → aH → Prop} {x1 : Int32} {a1 : Int} (S : wS h) (z1 : x1.toInt = a1) (K129 : ct129 n X) (H : ((cpre (vw h) a1) ∧ ∀ (y1 : Int) (h_1 : aH), (wS h_1 ∧ cRes 6 a1 (vw h) (vw h_1)) → (∀ (w2 : Int32) (w3 : Int32) (u4_ : Option Value), w2.toInt = y1 → w3.toInt = 0 → Pt n X zM128 8 [some (.ref 33), some (.int x1), some (.int w2), some (.int w3), u4_] [] h_1 (qI P)))) : Pt (n + 1) X zM128 0 [some (.ref 33), some (.int x1), none, none, none] [] h (qI P) := by
  refine pt_1 (fun n d => r_aloadn gx128_0 rfl) ?_
  refine pt_d (pt_1 (fun n d => r_iloadn gx128_1 rfl) ?_)
  obtain ⟨pr1, H⟩ := H
  refine pt_d (pt_virt (as := [.int x1]) (r := []) gx128_2 rfl (show zmt[129]? = some zM129 from rfl) rfl rfl rfl rfl (K129 S z1 pr1) (kqI (fun v1 y1 h_1 h1 P1 => ?_)))
  have S1 := P1.1
  have H := H y1 h_1 P1
  show Pt _ _ _ 5 _ [.int v1] _ _
  refine pt_d (pt_1 (fun n d => r_istoren (L' := [some (.ref 33), some (.int x1), some (.int v1), none, none]) gx128_5 rfl rfl) ?_)
  refine pt_d (pt_iconst gx128_6 (fun v2 h2 => ?_))
  refine pt_d (pt_1 (fun n d => r_istoren (L' := [some (.ref 33), some (.int x1), some (.int v1), some (.int v2), none]) gx128_7 rfl rfl) ?_)
  exact H v1 v2 _ h1 h2
theorem d128_8 {n : Nat} {X : aX} {h : aH} {P : Int → aH → Prop} {x1 x2 x3 : Int32} {a1 a2 a3 : Int} {u4 : Option Value} (S : wS h) (z1 : x1.toInt = a1) (z2 : x2.toInt = a2) (z3 : x3.toInt = a3) (K129 : ct129 n X) (H : ((160 ≤ a3 → P a2 h) ∧ (a3 < 160 → ((tIn (vw h) ∧ (0 : Int) ≤ 124 ∧ (124 : Int) ≤ 127) ∧ ∀ (y4 : Int) (h_4 : aH), (wS h_4 ∧ R125 (vw h) 124 y4 (vw h_4)) → ((y4 = 0 → P a2 h_4) ∧ (y4 ≠ 0 → ((cpre (vw h_4) a1) ∧ ∀ (y6 : Int) (h_6 : aH), (wS h_6 ∧ cRes 6 a1 (vw h_4) (vw h_6)) → ((a2 ≠ 0 → (∀ (w2 : Int32) (w3 : Int32) (u4_ : Option Value), w2.toInt = (if (1 : Int) = 0 then 0 else 1) → w3.toInt = w32 (a3 + 1) → Pt n X zM128 8 [some (.ref 33), some (.int x1), some (.int w2), some (.int w3), u4_] [] h_6 (qI P))) ∧ (a2 = 0 → ((y6 = 0 → (∀ (w2 : Int32) (w3 : Int32) (u4_ : Option Value), w2.toInt = (if (0 : Int) = 0 then 0 else 1) → w3.toInt = w32 (a3 + 1) → Pt n X zM128 8 [some (.ref 33), some (.int x1), some (.int w2), some (.int w3), u4_] [] h_6 (qI P))) ∧ (y6 ≠ 0 → (∀ (w2 : Int32) (w3 : Int32) (u4_ : Option Value), w2.toInt = (if (1 : Int) = 0 then 0 else 1) → w3.toInt = w32 (a3 + 1) → Pt n X zM128 8 [some (.ref 33), some (.int x1), some (.int w2), some (.int w3), u4_] [] h_6 (qI P))))))))))))) : Pt (n + 1) X zM128 8 [some (.ref 33), some (.int x1), some (.int x2), some (.int x3), u4] [] h (qI P) := by
  refine pt_1 (fun n d => r_iloadn gx128_8 rfl) ?_
  refine pt_d (pt_sipush gx128_9 (fun v1 h1 => ?_))
  refine pt_d (pt_icmp_ge gx128_12 z3 h1 (fun e2 => ?_) (fun e2 => ?_))
  · have H := H.1 e2
    refine pt_d (pt_1 (fun n d => r_iloadn gx128_55 rfl) ?_)
    exact pt_d (pt_iret gx128_56 ⟨_, rfl, by rw [z2]; exact H⟩)
  · have H := H.2 e2
    refine pt_d (pt_1 (fun n d => r_aloadn gx128_15 rfl) ?_)
    refine pt_d (pt_bipush gx128_16 (fun v3 h3 => ?_))
    obtain ⟨pr4, H⟩ := H
    refine pt_d (pt_virt (as := [.int v3]) (r := []) gx128_18 rfl (show zmt[125]? = some zM125 from rfl) rfl rfl rfl rfl (c_125 S h3 pr4) (kqI (fun v4 y4 h_4 h4 P4 => ?_)))
    have S4 := P4.1
    have H := H y4 h_4 P4
    show Pt _ _ _ 21 _ [.int v4] _ _
    refine pt_d (pt_if_eq gx128_21 h4 (fun e5 => ?_) (fun e5 => ?_))
    · have H := H.1 e5
      refine pt_d (pt_1 (fun n d => r_iloadn gx128_55 rfl) ?_)
      exact pt_d (pt_iret gx128_56 ⟨_, rfl, by rw [z2]; exact H⟩)
    · have H := H.2 e5
      refine pt_d (pt_1 (fun n d => r_aloadn gx128_24 rfl) ?_)
      refine pt_d (pt_1 (fun n d => r_iloadn gx128_25 rfl) ?_)
      obtain ⟨pr6, H⟩ := H
      refine pt_d (pt_virt (as := [.int x1]) (r := []) gx128_26 rfl (show zmt[129]? = some zM129 from rfl) rfl rfl rfl rfl (K129 S4 z1 pr6) (kqI (fun v6 y6 h_6 h6 P6 => ?_)))
      have S6 := P6.1
      have H := H y6 h_6 P6
      show Pt _ _ _ 29 _ [.int v6] _ _
      refine pt_d (pt_1 (fun n d => r_istore (L' := [some (.ref 33), some (.int x1), some (.int x2), some (.int x3), some (.int v6)]) gx128_29 rfl rfl) ?_)
      refine pt_d (pt_1 (fun n d => r_iloadn gx128_31 rfl) ?_)
      refine pt_d (pt_if_ne gx128_32 z2 (fun e7 => ?_) (fun e7 => ?_))
      · have H := H.1 e7
        refine pt_d (pt_iconst gx128_40 (fun v8 h8 => ?_))
        refine pt_d (pt_1 (fun n d => r_goto gx128_41) ?_)
        refine pt_d (pt_stat (as := [.int v8]) (r := []) gx128_45 rfl (show zmt[127]? = some zM127 from rfl) rfl rfl rfl rfl (c_127 S6 h8) (kqP (fun v9 h9 => ?_)))
        show Pt _ _ _ 48 _ [.int v9] _ _
        refine pt_d (pt_1 (fun n d => r_istoren (L' := [some (.ref 33), some (.int x1), some (.int v9), some (.int x3), some (.int v6)]) gx128_48 rfl rfl) ?_)
        refine pt_d (pt_iinc (c := 1) gx128_49 rfl z3 (fun v10 h10 => ?_))
        show Pt _ _ _ _ [some (.ref 33), some (.int x1), some (.int v9), some (.int v10), some (.int v6)] [] _ _
        refine pt_d (pt_1 (fun n d => r_goto gx128_52) ?_)
        exact H v9 v10 _ h9 h10
      · have H := H.2 e7
        refine pt_d (pt_1 (fun n d => r_iload gx128_35 rfl) ?_)
        refine pt_d (pt_if_eq gx128_37 h6 (fun e11 => ?_) (fun e11 => ?_))
        · have H := H.1 e11
          refine pt_d (pt_iconst gx128_44 (fun v12 h12 => ?_))
          refine pt_d (pt_stat (as := [.int v12]) (r := []) gx128_45 rfl (show zmt[127]? = some zM127 from rfl) rfl rfl rfl rfl (c_127 S6 h12) (kqP (fun v13 h13 => ?_)))
          show Pt _ _ _ 48 _ [.int v13] _ _
          refine pt_d (pt_1 (fun n d => r_istoren (L' := [some (.ref 33), some (.int x1), some (.int v13), some (.int x3), some (.int v6)]) gx128_48 rfl rfl) ?_)
          refine pt_d (pt_iinc (c := 1) gx128_49 rfl z3 (fun v14 h14 => ?_))
          show Pt _ _ _ _ [some (.ref 33), some (.int x1), some (.int v13), some (.int v14), some (.int v6)] [] _ _
          refine pt_d (pt_1 (fun n d => r_goto gx128_52) ?_)
          exact H v13 v14 _ h13 h14
        · have H := H.2 e11
          refine pt_d (pt_iconst gx128_40 (fun v15 h15 => ?_))
          refine pt_d (pt_1 (fun n d => r_goto gx128_41) ?_)
          refine pt_d (pt_stat (as := [.int v15]) (r := []) gx128_45 rfl (show zmt[127]? = some zM127 from rfl) rfl rfl rfl rfl (c_127 S6 h15) (kqP (fun v16 h16 => ?_)))
          show Pt _ _ _ 48 _ [.int v16] _ _
          refine pt_d (pt_1 (fun n d => r_istoren (L' := [some (.ref 33), some (.int x1), some (.int v16), some (.int x3), some (.int v6)]) gx128_48 rfl rfl) ?_)
          refine pt_d (pt_iinc (c := 1) gx128_49 rfl z3 (fun v17 h17 => ?_))
          show Pt _ _ _ _ [some (.ref 33), some (.int x1), some (.int v16), some (.int v17), some (.int v6)] [] _ _
          refine pt_d (pt_1 (fun n d => r_goto gx128_52) ?_)
          exact H v16 v17 _ h16 h17
theorem d130_0 {n : Nat} {X : aX} {h : aH} {P : Int → aH → Prop} {x1 : Int32} {a1 : Int} (S : wS h) (z1 : x1.toInt = a1) (K131 : ct131 n X) (H : ((cpre (vw h) a1) ∧ ∀ (y1 : Int) (h_1 : aH), (wS h_1 ∧ cRes 3 a1 (vw h) (vw h_1)) → ((tIn (vw h_1) ∧ (0 : Int) ≤ 60 ∧ (60 : Int) ≤ 127) ∧ ∀ (y3 : Int) (h_3 : aH), (wS h_3 ∧ R125 (vw h_1) 60 y3 (vw h_3)) → ((y3 = 0 → ((tIn (vw h_3) ∧ (0 : Int) ≤ 61 ∧ (61 : Int) ≤ 127) ∧ ∀ (y6 : Int) (h_6 : aH), (wS h_6 ∧ R125 (vw h_3) 61 y6 (vw h_6)) → ((y6 = 0 → ((tIn (vw h_6) ∧ (0 : Int) ≤ 62 ∧ (62 : Int) ≤ 127) ∧ ∀ (y9 : Int) (h_9 : aH), (wS h_9 ∧ R125 (vw h_6) 62 y9 (vw h_9)) → ((y9 = 0 → P y1 h_9) ∧ (y9 ≠ 0 → ((cpre (vw h_9) a1) ∧ ∀ (y11 : Int) (h_11 : aH), (wS h_11 ∧ cRes 3 a1 (vw h_9) (vw h_11)) → ((y1 ≤ y11 → P (if (0 : Int) = 0 then 0 else 1) h_11) ∧ (y11 < y1 → P (if (1 : Int) = 0 then 0 else 1) h_11))))))) ∧ (y6 ≠ 0 → ((cpre (vw h_6) a1) ∧ ∀ (y17 : Int) (h_17 : aH), (wS h_17 ∧ cRes 3 a1 (vw h_6) (vw h_17)) → ((y1 ≠ y17 → P (if (0 : Int) = 0 then 0 else 1) h_17) ∧ (y1 = y17 → P (if (1 : Int) = 0 then 0 else 1) h_17))))))) ∧ (y3 ≠ 0 → ((cpre (vw h_3) a1) ∧ ∀ (y23 : Int) (h_23 : aH), (wS h_23 ∧ cRes 3 a1 (vw h_3) (vw h_23)) → ((y23 ≤ y1 → P (if (0 : Int) = 0 then 0 else 1) h_23) ∧ (y1 < y23 → P (if (1 : Int) = 0 then 0 else 1) h_23)))))))) : Pt (n + 1) X zM130 0 [some (.ref 33), some (.int x1), none] [] h (qI P) := by
  refine pt_1 (fun n d => r_aloadn gx130_0 rfl) ?_
  refine pt_d (pt_1 (fun n d => r_iloadn gx130_1 rfl) ?_)
  obtain ⟨pr1, H⟩ := H
  refine pt_d (pt_virt (as := [.int x1]) (r := []) gx130_2 rfl (show zmt[131]? = some zM131 from rfl) rfl rfl rfl rfl (K131 S z1 pr1) (kqI (fun v1 y1 h_1 h1 P1 => ?_)))
  have S1 := P1.1
  have H := H y1 h_1 P1
  show Pt _ _ _ 5 _ [.int v1] _ _
  refine pt_d (pt_1 (fun n d => r_istoren (L' := [some (.ref 33), some (.int x1), some (.int v1)]) gx130_5 rfl rfl) ?_)
  refine pt_d (pt_1 (fun n d => r_aloadn gx130_6 rfl) ?_)
  refine pt_d (pt_bipush gx130_7 (fun v2 h2 => ?_))
  obtain ⟨pr3, H⟩ := H
  refine pt_d (pt_virt (as := [.int v2]) (r := []) gx130_9 rfl (show zmt[125]? = some zM125 from rfl) rfl rfl rfl rfl (c_125 S1 h2 pr3) (kqI (fun v3 y3 h_3 h3 P3 => ?_)))
  have S3 := P3.1
  have H := H y3 h_3 P3
  show Pt _ _ _ 12 _ [.int v3] _ _
  refine pt_d (pt_if_eq gx130_12 h3 (fun e4 => ?_) (fun e4 => ?_))
  · have H := H.1 e4
    refine pt_d (pt_1 (fun n d => r_aloadn gx130_33 rfl) ?_)
    refine pt_d (pt_bipush gx130_34 (fun v5 h5 => ?_))
    obtain ⟨pr6, H⟩ := H
    refine pt_d (pt_virt (as := [.int v5]) (r := []) gx130_36 rfl (show zmt[125]? = some zM125 from rfl) rfl rfl rfl rfl (c_125 S3 h5 pr6) (kqI (fun v6 y6 h_6 h6 P6 => ?_)))
    have S6 := P6.1
    have H := H y6 h_6 P6
    show Pt _ _ _ 39 _ [.int v6] _ _
    refine pt_d (pt_if_eq gx130_39 h6 (fun e7 => ?_) (fun e7 => ?_))
    · have H := H.1 e7
      refine pt_d (pt_1 (fun n d => r_aloadn gx130_60 rfl) ?_)
      refine pt_d (pt_bipush gx130_61 (fun v8 h8 => ?_))
      obtain ⟨pr9, H⟩ := H
      refine pt_d (pt_virt (as := [.int v8]) (r := []) gx130_63 rfl (show zmt[125]? = some zM125 from rfl) rfl rfl rfl rfl (c_125 S6 h8 pr9) (kqI (fun v9 y9 h_9 h9 P9 => ?_)))
      have S9 := P9.1
      have H := H y9 h_9 P9
      show Pt _ _ _ 66 _ [.int v9] _ _
      refine pt_d (pt_if_eq gx130_66 h9 (fun e10 => ?_) (fun e10 => ?_))
      · have H := H.1 e10
        refine pt_d (pt_1 (fun n d => r_iloadn gx130_87 rfl) ?_)
        exact pt_d (pt_iret gx130_88 ⟨_, rfl, by rw [h1]; exact H⟩)
      · have H := H.2 e10
        refine pt_d (pt_1 (fun n d => r_iloadn gx130_69 rfl) ?_)
        refine pt_d (pt_1 (fun n d => r_aloadn gx130_70 rfl) ?_)
        refine pt_d (pt_1 (fun n d => r_iloadn gx130_71 rfl) ?_)
        obtain ⟨pr11, H⟩ := H
        refine pt_d (pt_virt (as := [.int x1]) (r := [.int v1]) gx130_72 rfl (show zmt[131]? = some zM131 from rfl) rfl rfl rfl rfl (K131 S9 z1 pr11) (kqI (fun v11 y11 h_11 h11 P11 => ?_)))
        have S11 := P11.1
        have H := H y11 h_11 P11
        show Pt _ _ _ 75 _ [.int v11, .int v1] _ _
        refine pt_d (pt_icmp_le gx130_75 h1 h11 (fun e12 => ?_) (fun e12 => ?_))
        · have H := H.1 e12
          refine pt_d (pt_iconst gx130_82 (fun v13 h13 => ?_))
          refine pt_d (pt_stat (as := [.int v13]) (r := []) gx130_83 rfl (show zmt[127]? = some zM127 from rfl) rfl rfl rfl rfl (c_127 S11 h13) (kqP (fun v14 h14 => ?_)))
          show Pt _ _ _ 86 _ [.int v14] _ _
          exact pt_d (pt_iret gx130_86 ⟨_, rfl, by rw [h14]; exact H⟩)
        · have H := H.2 e12
          refine pt_d (pt_iconst gx130_78 (fun v15 h15 => ?_))
          refine pt_d (pt_1 (fun n d => r_goto gx130_79) ?_)
          refine pt_d (pt_stat (as := [.int v15]) (r := []) gx130_83 rfl (show zmt[127]? = some zM127 from rfl) rfl rfl rfl rfl (c_127 S11 h15) (kqP (fun v16 h16 => ?_)))
          show Pt _ _ _ 86 _ [.int v16] _ _
          exact pt_d (pt_iret gx130_86 ⟨_, rfl, by rw [h16]; exact H⟩)
    · have H := H.2 e7
      refine pt_d (pt_1 (fun n d => r_iloadn gx130_42 rfl) ?_)
      refine pt_d (pt_1 (fun n d => r_aloadn gx130_43 rfl) ?_)
      refine pt_d (pt_1 (fun n d => r_iloadn gx130_44 rfl) ?_)
      obtain ⟨pr17, H⟩ := H
      refine pt_d (pt_virt (as := [.int x1]) (r := [.int v1]) gx130_45 rfl (show zmt[131]? = some zM131 from rfl) rfl rfl rfl rfl (K131 S6 z1 pr17) (kqI (fun v17 y17 h_17 h17 P17 => ?_)))
      have S17 := P17.1
      have H := H y17 h_17 P17
      show Pt _ _ _ 48 _ [.int v17, .int v1] _ _
      refine pt_d (pt_icmp_ne gx130_48 h1 h17 (fun e18 => ?_) (fun e18 => ?_))
      · have H := H.1 e18
        refine pt_d (pt_iconst gx130_55 (fun v19 h19 => ?_))
        refine pt_d (pt_stat (as := [.int v19]) (r := []) gx130_56 rfl (show zmt[127]? = some zM127 from rfl) rfl rfl rfl rfl (c_127 S17 h19) (kqP (fun v20 h20 => ?_)))
        show Pt _ _ _ 59 _ [.int v20] _ _
        exact pt_d (pt_iret gx130_59 ⟨_, rfl, by rw [h20]; exact H⟩)
      · have H := H.2 e18
        refine pt_d (pt_iconst gx130_51 (fun v21 h21 => ?_))
        refine pt_d (pt_1 (fun n d => r_goto gx130_52) ?_)
        refine pt_d (pt_stat (as := [.int v21]) (r := []) gx130_56 rfl (show zmt[127]? = some zM127 from rfl) rfl rfl rfl rfl (c_127 S17 h21) (kqP (fun v22 h22 => ?_)))
        show Pt _ _ _ 59 _ [.int v22] _ _
        exact pt_d (pt_iret gx130_59 ⟨_, rfl, by rw [h22]; exact H⟩)
  · have H := H.2 e4
    refine pt_d (pt_1 (fun n d => r_iloadn gx130_15 rfl) ?_)
    refine pt_d (pt_1 (fun n d => r_aloadn gx130_16 rfl) ?_)
    refine pt_d (pt_1 (fun n d => r_iloadn gx130_17 rfl) ?_)
    obtain ⟨pr23, H⟩ := H
    refine pt_d (pt_virt (as := [.int x1]) (r := [.int v1]) gx130_18 rfl (show zmt[131]? = some zM131 from rfl) rfl rfl rfl rfl (K131 S3 z1 pr23) (kqI (fun v23 y23 h_23 h23 P23 => ?_)))
    have S23 := P23.1
    have H := H y23 h_23 P23
    show Pt _ _ _ 21 _ [.int v23, .int v1] _ _
    refine pt_d (pt_icmp_ge gx130_21 h1 h23 (fun e24 => ?_) (fun e24 => ?_))
    · have H := H.1 e24
      refine pt_d (pt_iconst gx130_28 (fun v25 h25 => ?_))
      refine pt_d (pt_stat (as := [.int v25]) (r := []) gx130_29 rfl (show zmt[127]? = some zM127 from rfl) rfl rfl rfl rfl (c_127 S23 h25) (kqP (fun v26 h26 => ?_)))
      show Pt _ _ _ 32 _ [.int v26] _ _
      exact pt_d (pt_iret gx130_32 ⟨_, rfl, by rw [h26]; exact H⟩)
    · have H := H.2 e24
      refine pt_d (pt_iconst gx130_24 (fun v27 h27 => ?_))
      refine pt_d (pt_1 (fun n d => r_goto gx130_25) ?_)
      refine pt_d (pt_stat (as := [.int v27]) (r := []) gx130_29 rfl (show zmt[127]? = some zM127 from rfl) rfl rfl rfl rfl (c_127 S23 h27) (kqP (fun v28 h28 => ?_)))
      show Pt _ _ _ 32 _ [.int v28] _ _
      exact pt_d (pt_iret gx130_32 ⟨_, rfl, by rw [h28]; exact H⟩)
theorem d133_0 {n : Nat} {X : aX} {h : aH} {P : Int → aH → Prop} {x1 : Int32} {a1 : Int} (S : wS h) (z1 : x1.toInt = a1) (K133 : ct133 n X) (K128 : ct128 n X) (H : ((¬ (48 ≤ (cSg (vw h)) ∧ (cSg (vw h)) ≤ 57) → ((cSg (vw h) ≠ (-1) → ((iIx (bChr (cSg (vw h))) = (-1) → ((a1 < 8 → ((tIn (vw h) ∧ (0 : Int) ≤ 33 ∧ (33 : Int) ≤ 127) ∧ ∀ (y13 : Int) (h_13 : aH), (wS h_13 ∧ R125 (vw h) 33 y13 (vw h_13)) → ((y13 = 0 → ((tIn (vw h_13) ∧ (0 : Int) ≤ 45 ∧ (45 : Int) ≤ 127) ∧ ∀ (y16 : Int) (h_16 : aH), (wS h_16 ∧ R125 (vw h_13) 45 y16 (vw h_16)) → ((y16 = 0 → ((tIn (vw h_16) ∧ (0 : Int) ≤ 40 ∧ (40 : Int) ≤ 127) ∧ ∀ (y19 : Int) (h_19 : aH), (wS h_19 ∧ R125 (vw h_16) 40 y19 (vw h_19)) → ((y19 ≠ 0 → ((cpre (vw h_19) (w32 (a1 + 1))) ∧ ∀ (y23 : Int) (h_23 : aH), (wS h_23 ∧ cRes 8 (w32 (a1 + 1)) (vw h_19) (vw h_23)) → ((tIn (vw h_23) ∧ (0 : Int) ≤ 41 ∧ (41 : Int) ≤ 127) ∧ ∀ (y25 : Int) (h_25 : aH), (wS h_25 ∧ R125 (vw h_23) 41 y25 (vw h_25)) → ((y25 ≠ 0 → P y23 h_25) ∧ (y25 = 0 → ∀ (h_27 : aH), (wS h_27 ∧ R126 (vw h_25) (vw h_27)) → P y23 h_27))))) ∧ (y19 = 0 → ∀ (h_28 : aH), (wS h_28 ∧ R126 (vw h_19) (vw h_28)) → P 0 h_28)))) ∧ (y16 ≠ 0 → ((cpre (vw h_16) (w32 (a1 + 1))) ∧ ∀ (y32 : Int) (h_32 : aH), (wS h_32 ∧ cRes 0 (w32 (a1 + 1)) (vw h_16) (vw h_32)) → P (w32 (-y32)) h_32))))) ∧ (y13 ≠ 0 → ((cpre (vw h_13) (w32 (a1 + 1))) ∧ ∀ (y36 : Int) (h_36 : aH), (wS h_36 ∧ cRes 0 (w32 (a1 + 1)) (vw h_13) (vw h_36)) → ((y36 ≠ 0 → P (if (0 : Int) = 0 then 0 else 1) h_36) ∧ (y36 = 0 → P (if (1 : Int) = 0 then 0 else 1) h_36))))))) ∧ (8 ≤ a1 → ∀ (h_42 : aH), (wS h_42 ∧ R126 (vw h) (vw h_42)) → P 0 h_42))) ∧ (iIx (bChr (cSg (vw h))) ≠ (-1) → ∀ h_47 : aH, wS h_47 → vw h_47 = up (vw h) 33 11 (w32 ((vw h 33 11) + 1)) → ((vw h_47 33 13 = -1 → True) ∧ (∀ q48 : Nat, (q48 : Int) = vw h_47 33 13 → (0 ≤ iIx (bChr (cSg (vw h))) → P (vw h_47 q48 (iIx (bChr (cSg (vw h))))) h_47)))))) ∧ (cSg (vw h) = (-1) → ((a1 < 8 → ((tIn (vw h) ∧ (0 : Int) ≤ 33 ∧ (33 : Int) ≤ 127) ∧ ∀ (y57 : Int) (h_57 : aH), (wS h_57 ∧ R125 (vw h) 33 y57 (vw h_57)) → ((y57 = 0 → ((tIn (vw h_57) ∧ (0 : Int) ≤ 45 ∧ (45 : Int) ≤ 127) ∧ ∀ (y60 : Int) (h_60 : aH), (wS h_60 ∧ R125 (vw h_57) 45 y60 (vw h_60)) → ((y60 = 0 → ((tIn (vw h_60) ∧ (0 : Int) ≤ 40 ∧ (40 : Int) ≤ 127) ∧ ∀ (y63 : Int) (h_63 : aH), (wS h_63 ∧ R125 (vw h_60) 40 y63 (vw h_63)) → ((y63 ≠ 0 → ((cpre (vw h_63) (w32 (a1 + 1))) ∧ ∀ (y67 : Int) (h_67 : aH), (wS h_67 ∧ cRes 8 (w32 (a1 + 1)) (vw h_63) (vw h_67)) → ((tIn (vw h_67) ∧ (0 : Int) ≤ 41 ∧ (41 : Int) ≤ 127) ∧ ∀ (y69 : Int) (h_69 : aH), (wS h_69 ∧ R125 (vw h_67) 41 y69 (vw h_69)) → ((y69 ≠ 0 → P y67 h_69) ∧ (y69 = 0 → ∀ (h_71 : aH), (wS h_71 ∧ R126 (vw h_69) (vw h_71)) → P y67 h_71))))) ∧ (y63 = 0 → ∀ (h_72 : aH), (wS h_72 ∧ R126 (vw h_63) (vw h_72)) → P 0 h_72)))) ∧ (y60 ≠ 0 → ((cpre (vw h_60) (w32 (a1 + 1))) ∧ ∀ (y76 : Int) (h_76 : aH), (wS h_76 ∧ cRes 0 (w32 (a1 + 1)) (vw h_60) (vw h_76)) → P (w32 (-y76)) h_76))))) ∧ (y57 ≠ 0 → ((cpre (vw h_57) (w32 (a1 + 1))) ∧ ∀ (y80 : Int) (h_80 : aH), (wS h_80 ∧ cRes 0 (w32 (a1 + 1)) (vw h_57) (vw h_80)) → ((y80 ≠ 0 → P (if (0 : Int) = 0 then 0 else 1) h_80) ∧ (y80 = 0 → P (if (1 : Int) = 0 then 0 else 1) h_80))))))) ∧ (8 ≤ a1 → ∀ (h_86 : aH), (wS h_86 ∧ R126 (vw h) (vw h_86)) → P 0 h_86))))) ∧ ((48 ≤ (cSg (vw h)) ∧ (cSg (vw h)) ≤ 57) → ((tIn (vw h) ∧ vw h 33 12 = -1) ∧ ∀ (y88 : Int) (h_88 : aH), (wS h_88 ∧ vw h_88 = up (vw h) 33 11 (dgEnd (cTx (vw h)) 6 (vw h 33 11))) → P y88 h_88)))) : Pt (n + 1) X zM133 0 [some (.ref 33), some (.int x1), none, none, none] [] h (qI P) := by
  refine pt_1 (fun n d => r_aloadn gx133_0 rfl) ?_
  refine pt_d (pt_virt (as := []) (r := []) gx133_1 rfl (show zmt[124]? = some zM124 from rfl) rfl rfl rfl rfl (c_124 S) (kqP (fun v1 h1 => ?_)))
  show Pt _ _ _ 4 _ [.int v1] _ _
  refine pt_d (pt_1 (fun n d => r_istoren (L' := [some (.ref 33), some (.int x1), some (.int v1), none, none]) gx133_4 rfl rfl) ?_)
  refine pt_d (pt_1 (fun n d => r_iloadn gx133_5 rfl) ?_)
  refine pt_d (pt_stat (as := [.int v1]) (r := []) gx133_6 rfl (show zmt[134]? = some zM134 from rfl) rfl rfl rfl rfl (c_134 S h1) (kqP (fun v2 h2 => ?_)))
  show Pt _ _ _ 9 _ [.int v2] _ _
  refine pt_d (pt_ifB_eq gx133_9 h2 (fun e3 => ?_) (fun e3 => ?_))
  · have H := H.1 e3
    refine pt_d (pt_1 (fun n d => r_iloadn gx133_17 rfl) ?_)
    refine pt_d (pt_iconst gx133_18 (fun v4 h4 => ?_))
    refine pt_d (pt_icmp_ne gx133_19 h1 h4 (fun e5 => ?_) (fun e5 => ?_))
    · have H := H.1 e5
      refine pt_d (pt_1 (fun n d => r_ldcS gx133_26) ?_)
      refine pt_d (pt_1 (fun n d => r_iloadn gx133_28 rfl) ?_)
      refine pt_d (pt_i2c gx133_29 h1 (fun v6 h6 => ?_))
      refine pt_d (pt_ix gx133_30 rfl h6 (fun v7 h7 => ?_))
      refine pt_d (pt_1 (fun n d => r_istoren (L' := [some (.ref 33), some (.int x1), some (.int v1), some (.int v7), none]) gx133_33 rfl rfl) ?_)
      refine pt_d (pt_1 (fun n d => r_iloadn gx133_34 rfl) ?_)
      refine pt_d (pt_iconst gx133_35 (fun v8 h8 => ?_))
      refine pt_d (pt_icmp_eq gx133_36 h7 h8 (fun e9 => ?_) (fun e9 => ?_))
      · have H := H.1 e9
        refine pt_d (pt_1 (fun n d => r_iloadn gx133_56 rfl) ?_)
        refine pt_d (pt_bipush gx133_57 (fun v10 h10 => ?_))
        refine pt_d (pt_icmp_lt gx133_59 z1 h10 (fun e11 => ?_) (fun e11 => ?_))
        · have H := H.1 e11
          refine pt_d (pt_1 (fun n d => r_aloadn gx133_68 rfl) ?_)
          refine pt_d (pt_bipush gx133_69 (fun v12 h12 => ?_))
          obtain ⟨pr13, H⟩ := H
          refine pt_d (pt_virt (as := [.int v12]) (r := []) gx133_71 rfl (show zmt[125]? = some zM125 from rfl) rfl rfl rfl rfl (c_125 S h12 pr13) (kqI (fun v13 y13 h_13 h13 P13 => ?_)))
          have S13 := P13.1
          have H := H y13 h_13 P13
          show Pt _ _ _ 74 _ [.int v13] _ _
          refine pt_d (pt_if_eq gx133_74 h13 (fun e14 => ?_) (fun e14 => ?_))
          · have H := H.1 e14
            refine pt_d (pt_1 (fun n d => r_aloadn gx133_96 rfl) ?_)
            refine pt_d (pt_bipush gx133_97 (fun v15 h15 => ?_))
            obtain ⟨pr16, H⟩ := H
            refine pt_d (pt_virt (as := [.int v15]) (r := []) gx133_99 rfl (show zmt[125]? = some zM125 from rfl) rfl rfl rfl rfl (c_125 S13 h15 pr16) (kqI (fun v16 y16 h_16 h16 P16 => ?_)))
            have S16 := P16.1
            have H := H y16 h_16 P16
            show Pt _ _ _ 102 _ [.int v16] _ _
            refine pt_d (pt_if_eq gx133_102 h16 (fun e17 => ?_) (fun e17 => ?_))
            · have H := H.1 e17
              refine pt_d (pt_1 (fun n d => r_aloadn gx133_114 rfl) ?_)
              refine pt_d (pt_bipush gx133_115 (fun v18 h18 => ?_))
              obtain ⟨pr19, H⟩ := H
              refine pt_d (pt_virt (as := [.int v18]) (r := []) gx133_117 rfl (show zmt[125]? = some zM125 from rfl) rfl rfl rfl rfl (c_125 S16 h18 pr19) (kqI (fun v19 y19 h_19 h19 P19 => ?_)))
              have S19 := P19.1
              have H := H y19 h_19 P19
              show Pt _ _ _ 120 _ [.int v19] _ _
              refine pt_d (pt_if_ne gx133_120 h19 (fun e20 => ?_) (fun e20 => ?_))
              · have H := H.1 e20
                refine pt_d (pt_1 (fun n d => r_aloadn gx133_129 rfl) ?_)
                refine pt_d (pt_1 (fun n d => r_iloadn gx133_130 rfl) ?_)
                refine pt_d (pt_iconst gx133_131 (fun v21 h21 => ?_))
                refine pt_d (pt_iadd gx133_132 z1 h21 (fun v22 h22 => ?_))
                obtain ⟨pr23, H⟩ := H
                refine pt_d (pt_virt (as := [.int v22]) (r := []) gx133_133 rfl (show zmt[128]? = some zM128 from rfl) rfl rfl rfl rfl (K128 S19 h22 pr23) (kqI (fun v23 y23 h_23 h23 P23 => ?_)))
                have S23 := P23.1
                have H := H y23 h_23 P23
                show Pt _ _ _ 136 _ [.int v23] _ _
                refine pt_d (pt_1 (fun n d => r_istore (L' := [some (.ref 33), some (.int x1), some (.int v1), some (.int v7), some (.int v23)]) gx133_136 rfl rfl) ?_)
                refine pt_d (pt_1 (fun n d => r_aloadn gx133_138 rfl) ?_)
                refine pt_d (pt_bipush gx133_139 (fun v24 h24 => ?_))
                obtain ⟨pr25, H⟩ := H
                refine pt_d (pt_virt (as := [.int v24]) (r := []) gx133_141 rfl (show zmt[125]? = some zM125 from rfl) rfl rfl rfl rfl (c_125 S23 h24 pr25) (kqI (fun v25 y25 h_25 h25 P25 => ?_)))
                have S25 := P25.1
                have H := H y25 h_25 P25
                show Pt _ _ _ 144 _ [.int v25] _ _
                refine pt_d (pt_if_ne gx133_144 h25 (fun e26 => ?_) (fun e26 => ?_))
                · have H := H.1 e26
                  refine pt_d (pt_1 (fun n d => r_iload gx133_151 rfl) ?_)
                  exact pt_d (pt_iret gx133_153 ⟨_, rfl, by rw [h23]; exact H⟩)
                · have H := H.2 e26
                  refine pt_d (pt_1 (fun n d => r_aloadn gx133_147 rfl) ?_)
                  refine pt_d (pt_virt (as := []) (r := []) gx133_148 rfl (show zmt[126]? = some zM126 from rfl) rfl rfl rfl rfl (c_126 S25) (kqN (fun h_27 P27 => ?_)))
                  have S27 := P27.1
                  have H := H h_27 P27
                  show Pt _ _ _ 151 _ [] _ _
                  refine pt_d (pt_1 (fun n d => r_iload gx133_151 rfl) ?_)
                  exact pt_d (pt_iret gx133_153 ⟨_, rfl, by rw [h23]; exact H⟩)
              · have H := H.2 e20
                refine pt_d (pt_1 (fun n d => r_aloadn gx133_123 rfl) ?_)
                refine pt_d (pt_virt (as := []) (r := []) gx133_124 rfl (show zmt[126]? = some zM126 from rfl) rfl rfl rfl rfl (c_126 S19) (kqN (fun h_28 P28 => ?_)))
                have S28 := P28.1
                have H := H h_28 P28
                show Pt _ _ _ 127 _ [] _ _
                refine pt_d (pt_iconst gx133_127 (fun v29 h29 => ?_))
                exact pt_d (pt_iret gx133_128 ⟨_, rfl, by rw [h29]; exact H⟩)
            · have H := H.2 e17
              refine pt_d (pt_1 (fun n d => r_aloadn gx133_105 rfl) ?_)
              refine pt_d (pt_1 (fun n d => r_iloadn gx133_106 rfl) ?_)
              refine pt_d (pt_iconst gx133_107 (fun v30 h30 => ?_))
              refine pt_d (pt_iadd gx133_108 z1 h30 (fun v31 h31 => ?_))
              obtain ⟨pr32, H⟩ := H
              refine pt_d (pt_virt (as := [.int v31]) (r := []) gx133_109 rfl (show zmt[133]? = some zM133 from rfl) rfl rfl rfl rfl (K133 S16 h31 pr32) (kqI (fun v32 y32 h_32 h32 P32 => ?_)))
              have S32 := P32.1
              have H := H y32 h_32 P32
              show Pt _ _ _ 112 _ [.int v32] _ _
              refine pt_d (pt_ineg gx133_112 h32 (fun v33 h33 => ?_))
              exact pt_d (pt_iret gx133_113 ⟨_, rfl, by rw [h33]; exact H⟩)
          · have H := H.2 e14
            refine pt_d (pt_1 (fun n d => r_aloadn gx133_77 rfl) ?_)
            refine pt_d (pt_1 (fun n d => r_iloadn gx133_78 rfl) ?_)
            refine pt_d (pt_iconst gx133_79 (fun v34 h34 => ?_))
            refine pt_d (pt_iadd gx133_80 z1 h34 (fun v35 h35 => ?_))
            obtain ⟨pr36, H⟩ := H
            refine pt_d (pt_virt (as := [.int v35]) (r := []) gx133_81 rfl (show zmt[133]? = some zM133 from rfl) rfl rfl rfl rfl (K133 S13 h35 pr36) (kqI (fun v36 y36 h_36 h36 P36 => ?_)))
            have S36 := P36.1
            have H := H y36 h_36 P36
            show Pt _ _ _ 84 _ [.int v36] _ _
            refine pt_d (pt_if_ne gx133_84 h36 (fun e37 => ?_) (fun e37 => ?_))
            · have H := H.1 e37
              refine pt_d (pt_iconst gx133_91 (fun v38 h38 => ?_))
              refine pt_d (pt_stat (as := [.int v38]) (r := []) gx133_92 rfl (show zmt[127]? = some zM127 from rfl) rfl rfl rfl rfl (c_127 S36 h38) (kqP (fun v39 h39 => ?_)))
              show Pt _ _ _ 95 _ [.int v39] _ _
              exact pt_d (pt_iret gx133_95 ⟨_, rfl, by rw [h39]; exact H⟩)
            · have H := H.2 e37
              refine pt_d (pt_iconst gx133_87 (fun v40 h40 => ?_))
              refine pt_d (pt_1 (fun n d => r_goto gx133_88) ?_)
              refine pt_d (pt_stat (as := [.int v40]) (r := []) gx133_92 rfl (show zmt[127]? = some zM127 from rfl) rfl rfl rfl rfl (c_127 S36 h40) (kqP (fun v41 h41 => ?_)))
              show Pt _ _ _ 95 _ [.int v41] _ _
              exact pt_d (pt_iret gx133_95 ⟨_, rfl, by rw [h41]; exact H⟩)
        · have H := H.2 e11
          refine pt_d (pt_1 (fun n d => r_aloadn gx133_62 rfl) ?_)
          refine pt_d (pt_virt (as := []) (r := []) gx133_63 rfl (show zmt[126]? = some zM126 from rfl) rfl rfl rfl rfl (c_126 S) (kqN (fun h_42 P42 => ?_)))
          have S42 := P42.1
          have H := H h_42 P42
          show Pt _ _ _ 66 _ [] _ _
          refine pt_d (pt_iconst gx133_66 (fun v43 h43 => ?_))
          exact pt_d (pt_iret gx133_67 ⟨_, rfl, by rw [h43]; exact H⟩)
      · have H := H.2 e9
        refine pt_d (pt_1 (fun n d => r_aloadn gx133_39 rfl) ?_)
        refine pt_d (pt_1 (fun n d => r_dup gx133_40 rfl) ?_)
        refine pt_d (pt_getI (B := 11) gx133_41 S (fun v44 h44 => ?_))
        refine pt_d (pt_iconst gx133_44 (fun v45 h45 => ?_))
        refine pt_d (pt_iadd gx133_45 h44 h45 (fun v46 h46 => ?_))
        refine pt_d (pt_putI (B := 11) gx133_46 S h46 (fun h_47 S47 e47 => ?_))
        refine pt_d (pt_1 (fun n d => r_aloadn gx133_49 rfl) ?_)
        have H := H h_47 S47 (by rw [e47])
        refine pt_d (pt_getD (B := 13) gx133_50 S47 (fun k48 => ?_) (fun q48 k48 => ?_))
        · have H := H.1 k48
          refine pt_d (pt_1 (fun n d => r_iloadn gx133_53 rfl) ?_)
          exact pt_d (pt_ialdN gx133_54)
        · have H := H.2 q48 k48
          refine pt_d (pt_1 (fun n d => r_iloadn gx133_53 rfl) ?_)
          refine pt_d (pt_ialdD gx133_54 h7 (fun v50 p50 h50 => ?_))
          have H := H p50
          exact pt_d (pt_iret gx133_55 ⟨_, rfl, by rw [h50]; exact H⟩)
    · have H := H.2 e5
      refine pt_d (pt_iconst gx133_22 (fun v51 h51 => ?_))
      refine pt_d (pt_1 (fun n d => r_goto gx133_23) ?_)
      refine pt_d (pt_1 (fun n d => r_istoren (L' := [some (.ref 33), some (.int x1), some (.int v1), some (.int v51), none]) gx133_33 rfl rfl) ?_)
      refine pt_d (pt_1 (fun n d => r_iloadn gx133_34 rfl) ?_)
      refine pt_d (pt_iconst gx133_35 (fun v52 h52 => ?_))
      refine pt_d (pt_icmp_eq gx133_36 h51 h52 (fun e53 => ?_) (fun e53 => absurd e53 (by decide)))
      refine pt_d (pt_1 (fun n d => r_iloadn gx133_56 rfl) ?_)
      refine pt_d (pt_bipush gx133_57 (fun v54 h54 => ?_))
      refine pt_d (pt_icmp_lt gx133_59 z1 h54 (fun e55 => ?_) (fun e55 => ?_))
      · have H := H.1 e55
        refine pt_d (pt_1 (fun n d => r_aloadn gx133_68 rfl) ?_)
        refine pt_d (pt_bipush gx133_69 (fun v56 h56 => ?_))
        obtain ⟨pr57, H⟩ := H
        refine pt_d (pt_virt (as := [.int v56]) (r := []) gx133_71 rfl (show zmt[125]? = some zM125 from rfl) rfl rfl rfl rfl (c_125 S h56 pr57) (kqI (fun v57 y57 h_57 h57 P57 => ?_)))
        have S57 := P57.1
        have H := H y57 h_57 P57
        show Pt _ _ _ 74 _ [.int v57] _ _
        refine pt_d (pt_if_eq gx133_74 h57 (fun e58 => ?_) (fun e58 => ?_))
        · have H := H.1 e58
          refine pt_d (pt_1 (fun n d => r_aloadn gx133_96 rfl) ?_)
          refine pt_d (pt_bipush gx133_97 (fun v59 h59 => ?_))
          obtain ⟨pr60, H⟩ := H
          refine pt_d (pt_virt (as := [.int v59]) (r := []) gx133_99 rfl (show zmt[125]? = some zM125 from rfl) rfl rfl rfl rfl (c_125 S57 h59 pr60) (kqI (fun v60 y60 h_60 h60 P60 => ?_)))
          have S60 := P60.1
          have H := H y60 h_60 P60
          show Pt _ _ _ 102 _ [.int v60] _ _
          refine pt_d (pt_if_eq gx133_102 h60 (fun e61 => ?_) (fun e61 => ?_))
          · have H := H.1 e61
            refine pt_d (pt_1 (fun n d => r_aloadn gx133_114 rfl) ?_)
            refine pt_d (pt_bipush gx133_115 (fun v62 h62 => ?_))
            obtain ⟨pr63, H⟩ := H
            refine pt_d (pt_virt (as := [.int v62]) (r := []) gx133_117 rfl (show zmt[125]? = some zM125 from rfl) rfl rfl rfl rfl (c_125 S60 h62 pr63) (kqI (fun v63 y63 h_63 h63 P63 => ?_)))
            have S63 := P63.1
            have H := H y63 h_63 P63
            show Pt _ _ _ 120 _ [.int v63] _ _
            refine pt_d (pt_if_ne gx133_120 h63 (fun e64 => ?_) (fun e64 => ?_))
            · have H := H.1 e64
              refine pt_d (pt_1 (fun n d => r_aloadn gx133_129 rfl) ?_)
              refine pt_d (pt_1 (fun n d => r_iloadn gx133_130 rfl) ?_)
              refine pt_d (pt_iconst gx133_131 (fun v65 h65 => ?_))
              refine pt_d (pt_iadd gx133_132 z1 h65 (fun v66 h66 => ?_))
              obtain ⟨pr67, H⟩ := H
              refine pt_d (pt_virt (as := [.int v66]) (r := []) gx133_133 rfl (show zmt[128]? = some zM128 from rfl) rfl rfl rfl rfl (K128 S63 h66 pr67) (kqI (fun v67 y67 h_67 h67 P67 => ?_)))
              have S67 := P67.1
              have H := H y67 h_67 P67
              show Pt _ _ _ 136 _ [.int v67] _ _
              refine pt_d (pt_1 (fun n d => r_istore (L' := [some (.ref 33), some (.int x1), some (.int v1), some (.int v51), some (.int v67)]) gx133_136 rfl rfl) ?_)
              refine pt_d (pt_1 (fun n d => r_aloadn gx133_138 rfl) ?_)
              refine pt_d (pt_bipush gx133_139 (fun v68 h68 => ?_))
              obtain ⟨pr69, H⟩ := H
              refine pt_d (pt_virt (as := [.int v68]) (r := []) gx133_141 rfl (show zmt[125]? = some zM125 from rfl) rfl rfl rfl rfl (c_125 S67 h68 pr69) (kqI (fun v69 y69 h_69 h69 P69 => ?_)))
              have S69 := P69.1
              have H := H y69 h_69 P69
              show Pt _ _ _ 144 _ [.int v69] _ _
              refine pt_d (pt_if_ne gx133_144 h69 (fun e70 => ?_) (fun e70 => ?_))
              · have H := H.1 e70
                refine pt_d (pt_1 (fun n d => r_iload gx133_151 rfl) ?_)
                exact pt_d (pt_iret gx133_153 ⟨_, rfl, by rw [h67]; exact H⟩)
              · have H := H.2 e70
                refine pt_d (pt_1 (fun n d => r_aloadn gx133_147 rfl) ?_)
                refine pt_d (pt_virt (as := []) (r := []) gx133_148 rfl (show zmt[126]? = some zM126 from rfl) rfl rfl rfl rfl (c_126 S69) (kqN (fun h_71 P71 => ?_)))
                have S71 := P71.1
                have H := H h_71 P71
                show Pt _ _ _ 151 _ [] _ _
                refine pt_d (pt_1 (fun n d => r_iload gx133_151 rfl) ?_)
                exact pt_d (pt_iret gx133_153 ⟨_, rfl, by rw [h67]; exact H⟩)
            · have H := H.2 e64
              refine pt_d (pt_1 (fun n d => r_aloadn gx133_123 rfl) ?_)
              refine pt_d (pt_virt (as := []) (r := []) gx133_124 rfl (show zmt[126]? = some zM126 from rfl) rfl rfl rfl rfl (c_126 S63) (kqN (fun h_72 P72 => ?_)))
              have S72 := P72.1
              have H := H h_72 P72
              show Pt _ _ _ 127 _ [] _ _
              refine pt_d (pt_iconst gx133_127 (fun v73 h73 => ?_))
              exact pt_d (pt_iret gx133_128 ⟨_, rfl, by rw [h73]; exact H⟩)
          · have H := H.2 e61
            refine pt_d (pt_1 (fun n d => r_aloadn gx133_105 rfl) ?_)
            refine pt_d (pt_1 (fun n d => r_iloadn gx133_106 rfl) ?_)
            refine pt_d (pt_iconst gx133_107 (fun v74 h74 => ?_))
            refine pt_d (pt_iadd gx133_108 z1 h74 (fun v75 h75 => ?_))
            obtain ⟨pr76, H⟩ := H
            refine pt_d (pt_virt (as := [.int v75]) (r := []) gx133_109 rfl (show zmt[133]? = some zM133 from rfl) rfl rfl rfl rfl (K133 S60 h75 pr76) (kqI (fun v76 y76 h_76 h76 P76 => ?_)))
            have S76 := P76.1
            have H := H y76 h_76 P76
            show Pt _ _ _ 112 _ [.int v76] _ _
            refine pt_d (pt_ineg gx133_112 h76 (fun v77 h77 => ?_))
            exact pt_d (pt_iret gx133_113 ⟨_, rfl, by rw [h77]; exact H⟩)
        · have H := H.2 e58
          refine pt_d (pt_1 (fun n d => r_aloadn gx133_77 rfl) ?_)
          refine pt_d (pt_1 (fun n d => r_iloadn gx133_78 rfl) ?_)
          refine pt_d (pt_iconst gx133_79 (fun v78 h78 => ?_))
          refine pt_d (pt_iadd gx133_80 z1 h78 (fun v79 h79 => ?_))
          obtain ⟨pr80, H⟩ := H
          refine pt_d (pt_virt (as := [.int v79]) (r := []) gx133_81 rfl (show zmt[133]? = some zM133 from rfl) rfl rfl rfl rfl (K133 S57 h79 pr80) (kqI (fun v80 y80 h_80 h80 P80 => ?_)))
          have S80 := P80.1
          have H := H y80 h_80 P80
          show Pt _ _ _ 84 _ [.int v80] _ _
          refine pt_d (pt_if_ne gx133_84 h80 (fun e81 => ?_) (fun e81 => ?_))
          · have H := H.1 e81
            refine pt_d (pt_iconst gx133_91 (fun v82 h82 => ?_))
            refine pt_d (pt_stat (as := [.int v82]) (r := []) gx133_92 rfl (show zmt[127]? = some zM127 from rfl) rfl rfl rfl rfl (c_127 S80 h82) (kqP (fun v83 h83 => ?_)))
            show Pt _ _ _ 95 _ [.int v83] _ _
            exact pt_d (pt_iret gx133_95 ⟨_, rfl, by rw [h83]; exact H⟩)
          · have H := H.2 e81
            refine pt_d (pt_iconst gx133_87 (fun v84 h84 => ?_))
            refine pt_d (pt_1 (fun n d => r_goto gx133_88) ?_)
            refine pt_d (pt_stat (as := [.int v84]) (r := []) gx133_92 rfl (show zmt[127]? = some zM127 from rfl) rfl rfl rfl rfl (c_127 S80 h84) (kqP (fun v85 h85 => ?_)))
            show Pt _ _ _ 95 _ [.int v85] _ _
            exact pt_d (pt_iret gx133_95 ⟨_, rfl, by rw [h85]; exact H⟩)
      · have H := H.2 e55
        refine pt_d (pt_1 (fun n d => r_aloadn gx133_62 rfl) ?_)
        refine pt_d (pt_virt (as := []) (r := []) gx133_63 rfl (show zmt[126]? = some zM126 from rfl) rfl rfl rfl rfl (c_126 S) (kqN (fun h_86 P86 => ?_)))
        have S86 := P86.1
        have H := H h_86 P86
        show Pt _ _ _ 66 _ [] _ _
        refine pt_d (pt_iconst gx133_66 (fun v87 h87 => ?_))
        exact pt_d (pt_iret gx133_67 ⟨_, rfl, by rw [h87]; exact H⟩)
  · have H := H.2 e3
    refine pt_d (pt_1 (fun n d => r_aloadn gx133_12 rfl) ?_)
    obtain ⟨pr88, H⟩ := H
    refine pt_d (pt_virt (as := []) (r := []) gx133_13 rfl (show zmt[135]? = some zM135 from rfl) rfl rfl rfl rfl (c_135 S pr88) (kqI (fun v88 y88 h_88 h88 P88 => ?_)))
    have S88 := P88.1
    have H := H y88 h_88 P88
    show Pt _ _ _ 16 _ [.int v88] _ _
    exact pt_d (pt_iret gx133_16 ⟨_, rfl, by rw [h88]; exact H⟩)
theorem e_132 {n : Nat} {X : aX} (K : ct133 n X) (KL : cl132 n X) : ct132 (n + 1) X := by
  intro h x1 a1 S z1 hp
  refine d132_0 S z1 K ⟨hp, fun y1 h1 k1 w2 w3 u4 g2 g3 => ?_⟩
  obtain ⟨I1, i1⟩ := cR_i hp.1 k1.2
  refine pt_q (KL k1.1 z1 g3 I1 hp.2.2.1 hp.2.2.2 (by decide) ?_) ?_
  · have := hp.1.1
    omega
  · rintro v h' ⟨x, ex, p1, p2⟩
    exact ⟨x, ex, p1, c_seq gsq1 (fun _ _ _ => lp_e glp2) k1.2 p2⟩
theorem f_132 {n : Nat} {X : aX} (K : ct133 n X) (KL : cl132 n X) : cl132 (n + 1) X := by
  intro h x1 x2 x3 u4 a1 a3 S z1 z3 I o0 o1 i0 i1
  have bI := I.1
  have bI2 := I.2.1
  have go : ∀ (c y4 : Int) (h4 : aH), opB 2 c = true → R125 (vw h) c y4 (vw h4) → y4 ≠ 0 → cpre (vw h4) a1 ∧ ∀ h12 : aH, wS h12 → cRes 0 a1 (vw h4) (vw h12) → ∀ (w2 w3 : Int32) (u4 : Option Value), w3.toInt = w32 (a3 + 1) → Pt n X zM132 8 [some (.ref 33), some (.int x1), some (.int w2), some (.int w3), u4] [] h12 (qI (fun _ h' => wS h' ∧ cLo 2 a1 (vw h) (vw h'))) := by
    intro c y4 h4 hc k4 e4
    obtain ⟨I4, e12, e11⟩ := tk_i I k4 e4
    refine ⟨⟨I4, e12, o0, o1⟩, fun h12 S12 c1 w2 w3 u4 g3 => ?_⟩
    obtain ⟨I12, j12⟩ := cR_i I4 c1
    replace g3 := w_1 g3 (by omega) (by omega)
    refine pt_q (KL S12 z1 g3 I12 o0 o1 (by omega) (by omega)) ?_
    rintro v h' ⟨x, ex, p1, p2⟩
    exact ⟨x, ex, p1, c_step glp2 I k4 e4 hc c1 p2⟩
  refine d132_8 S z1 rfl z3 K ⟨fun e => ⟨S, c_out (fun _ _ _ => lp_e glp2) I (fun _ => by rw [at_end I e i1]; rfl)⟩, fun e => ⟨⟨I, by decide, by decide⟩, fun y0 h0 k0 => ?_⟩⟩
  have r0 := k0.2
  refine ⟨fun e0 => ⟨⟨by rw [(tk_0 r0 e0).1]; exact I, by decide, by decide⟩, fun y1 h1 k1 => ?_⟩, fun e0 => ⟨(go 42 y0 h0 rfl r0 e0).1, fun y h9 k => fun w2 w3 u4 g2 g3 => (go 42 y0 h0 rfl r0 e0).2 _ k.1 k.2 w2 w3 u4 g3⟩⟩
  obtain ⟨v0, n0⟩ := tk_0 r0 e0
  have r1 : R125 (vw h) 47 y1 (vw h1) := by rw [← v0]; exact k1.2
  have _ := v0
  refine ⟨fun e1 => ⟨⟨by rw [(tk_0 r1 e1).1]; exact I, by decide, by decide⟩, fun y2 h2 k2 => ?_⟩, fun e1 => ⟨(go 47 y1 h1 rfl r1 e1).1, fun y h9 k => ⟨fun _ => fun w2 w3 u4 g2 g3 => (go 47 y1 h1 rfl r1 e1).2 _ k.1 k.2 w2 w3 u4 g3, fun _ => fun w2 w3 u4 g2 g3 => (go 47 y1 h1 rfl r1 e1).2 _ k.1 k.2 w2 w3 u4 g3⟩⟩⟩
  obtain ⟨v1, n1⟩ := tk_0 r1 e1
  have r2 : R125 (vw h) 37 y2 (vw h2) := by rw [← v1]; exact k2.2
  have _ := v1
  refine ⟨fun e2 => ?_, fun e2 => ⟨(go 37 y2 h2 rfl r2 e2).1, fun y h9 k => ⟨fun _ => fun w2 w3 u4 g2 g3 => (go 37 y2 h2 rfl r2 e2).2 _ k.1 k.2 w2 w3 u4 g3, fun _ => fun w2 w3 u4 g2 g3 => (go 37 y2 h2 rfl r2 e2).2 _ k.1 k.2 w2 w3 u4 g3⟩⟩⟩
  obtain ⟨v2, n2⟩ := tk_0 r2 e2
  refine ⟨k2.1, ?_⟩
  rw [v2]
  exact c_out (fun _ _ _ => lp_e glp2) I (fun e12 => by show (((_ == 42 || _ == 47) || _ == 37)) = false; rw [beq_false_of_ne (n0 e12), beq_false_of_ne (n1 e12), beq_false_of_ne (n2 e12)]; rfl)
theorem e_131 {n : Nat} {X : aX} (K : ct132 n X) (KL : cl131 n X) : ct131 (n + 1) X := by
  intro h x1 a1 S z1 hp
  refine d131_0 S z1 K ⟨hp, fun y1 h1 k1 w2 w3 g2 g3 => ?_⟩
  obtain ⟨I1, i1⟩ := cR_i hp.1 k1.2
  refine pt_q (KL k1.1 z1 g3 I1 hp.2.2.1 hp.2.2.2 (by decide) ?_) ?_
  · have := hp.1.1
    omega
  · rintro v h' ⟨x, ex, p1, p2⟩
    exact ⟨x, ex, p1, c_seq gsq3 (fun _ _ _ => lp_e glp4) k1.2 p2⟩
theorem f_131 {n : Nat} {X : aX} (K : ct132 n X) (KL : cl131 n X) : cl131 (n + 1) X := by
  intro h x1 x2 x3 a1 a3 S z1 z3 I o0 o1 i0 i1
  have bI := I.1
  have bI2 := I.2.1
  have go : ∀ (c y4 : Int) (h4 : aH), opB 4 c = true → R125 (vw h) c y4 (vw h4) → y4 ≠ 0 → cpre (vw h4) a1 ∧ ∀ h12 : aH, wS h12 → cRes 1 a1 (vw h4) (vw h12) → ∀ (w2 w3 : Int32), w3.toInt = w32 (a3 + 1) → Pt n X zM131 8 [some (.ref 33), some (.int x1), some (.int w2), some (.int w3)] [] h12 (qI (fun _ h' => wS h' ∧ cLo 4 a1 (vw h) (vw h'))) := by
    intro c y4 h4 hc k4 e4
    obtain ⟨I4, e12, e11⟩ := tk_i I k4 e4
    refine ⟨⟨I4, e12, o0, o1⟩, fun h12 S12 c1 w2 w3 g3 => ?_⟩
    obtain ⟨I12, j12⟩ := cR_i I4 c1
    replace g3 := w_1 g3 (by omega) (by omega)
    refine pt_q (KL S12 z1 g3 I12 o0 o1 (by omega) (by omega)) ?_
    rintro v h' ⟨x, ex, p1, p2⟩
    exact ⟨x, ex, p1, c_step glp4 I k4 e4 hc c1 p2⟩
  refine d131_8 S z1 rfl z3 K ⟨fun e => ⟨S, c_out (fun _ _ _ => lp_e glp4) I (fun _ => by rw [at_end I e i1]; rfl)⟩, fun e => ⟨⟨I, by decide, by decide⟩, fun y0 h0 k0 => ?_⟩⟩
  have r0 := k0.2
  refine ⟨fun e0 => ⟨⟨by rw [(tk_0 r0 e0).1]; exact I, by decide, by decide⟩, fun y1 h1 k1 => ?_⟩, fun e0 => ⟨(go 43 y0 h0 rfl r0 e0).1, fun y h9 k => fun w2 w3 g2 g3 => (go 43 y0 h0 rfl r0 e0).2 _ k.1 k.2 w2 w3 g3⟩⟩
  obtain ⟨v0, n0⟩ := tk_0 r0 e0
  have r1 : R125 (vw h) 45 y1 (vw h1) := by rw [← v0]; exact k1.2
  have _ := v0
  refine ⟨fun e1 => ?_, fun e1 => ⟨(go 45 y1 h1 rfl r1 e1).1, fun y h9 k => fun w2 w3 g2 g3 => (go 45 y1 h1 rfl r1 e1).2 _ k.1 k.2 w2 w3 g3⟩⟩
  obtain ⟨v1, n1⟩ := tk_0 r1 e1
  refine ⟨k1.1, ?_⟩
  rw [v1]
  exact c_out (fun _ _ _ => lp_e glp4) I (fun e12 => by show ((_ == 43 || _ == 45)) = false; rw [beq_false_of_ne (n0 e12), beq_false_of_ne (n1 e12)]; rfl)
theorem e_129 {n : Nat} {X : aX} (K : ct130 n X) (KL : cl129 n X) : ct129 (n + 1) X := by
  intro h x1 a1 S z1 hp
  refine d129_0 S z1 K ⟨hp, fun y1 h1 k1 w2 w3 u4 g2 g3 => ?_⟩
  obtain ⟨I1, i1⟩ := cR_i hp.1 k1.2
  refine pt_q (KL k1.1 z1 g3 I1 hp.2.2.1 hp.2.2.2 (by decide) ?_) ?_
  · have := hp.1.1
    omega
  · rintro v h' ⟨x, ex, p1, p2⟩
    exact ⟨x, ex, p1, c_seq gsq6 (fun _ _ _ => lp_e glp7) k1.2 p2⟩
theorem f_129 {n : Nat} {X : aX} (K : ct130 n X) (KL : cl129 n X) : cl129 (n + 1) X := by
  intro h x1 x2 x3 u4 a1 a3 S z1 z3 I o0 o1 i0 i1
  have bI := I.1
  have bI2 := I.2.1
  have go : ∀ (c y4 : Int) (h4 : aH), opB 7 c = true → R125 (vw h) c y4 (vw h4) → y4 ≠ 0 → cpre (vw h4) a1 ∧ ∀ h12 : aH, wS h12 → cRes 5 a1 (vw h4) (vw h12) → ∀ (w2 w3 : Int32) (u4 : Option Value), w3.toInt = w32 (a3 + 1) → Pt n X zM129 8 [some (.ref 33), some (.int x1), some (.int w2), some (.int w3), u4] [] h12 (qI (fun _ h' => wS h' ∧ cLo 7 a1 (vw h) (vw h'))) := by
    intro c y4 h4 hc k4 e4
    obtain ⟨I4, e12, e11⟩ := tk_i I k4 e4
    refine ⟨⟨I4, e12, o0, o1⟩, fun h12 S12 c1 w2 w3 u4 g3 => ?_⟩
    obtain ⟨I12, j12⟩ := cR_i I4 c1
    replace g3 := w_1 g3 (by omega) (by omega)
    refine pt_q (KL S12 z1 g3 I12 o0 o1 (by omega) (by omega)) ?_
    rintro v h' ⟨x, ex, p1, p2⟩
    exact ⟨x, ex, p1, c_step glp7 I k4 e4 hc c1 p2⟩
  refine d129_8 S z1 rfl z3 K ⟨fun e => ⟨S, c_out (fun _ _ _ => lp_e glp7) I (fun _ => by rw [at_end I e i1]; rfl)⟩, fun e => ⟨⟨I, by decide, by decide⟩, fun y0 h0 k0 => ?_⟩⟩
  have r0 := k0.2
  refine ⟨fun e0 => ?_, fun e0 => ⟨(go 38 y0 h0 rfl r0 e0).1, fun y h9 k => ⟨fun _ => fun w2 w3 u4 g2 g3 => (go 38 y0 h0 rfl r0 e0).2 _ k.1 k.2 w2 w3 u4 g3, fun _ => ⟨fun _ => fun w2 w3 u4 g2 g3 => (go 38 y0 h0 rfl r0 e0).2 _ k.1 k.2 w2 w3 u4 g3, fun _ => fun w2 w3 u4 g2 g3 => (go 38 y0 h0 rfl r0 e0).2 _ k.1 k.2 w2 w3 u4 g3⟩⟩⟩⟩
  obtain ⟨v0, n0⟩ := tk_0 r0 e0
  refine ⟨k0.1, ?_⟩
  rw [v0]
  exact c_out (fun _ _ _ => lp_e glp7) I (fun e12 => by show (_ == 38) = false; rw [beq_false_of_ne (n0 e12)])
theorem e_128 {n : Nat} {X : aX} (K : ct129 n X) (KL : cl128 n X) : ct128 (n + 1) X := by
  intro h x1 a1 S z1 hp
  refine d128_0 S z1 K ⟨hp, fun y1 h1 k1 w2 w3 u4 g2 g3 => ?_⟩
  obtain ⟨I1, i1⟩ := cR_i hp.1 k1.2
  refine pt_q (KL k1.1 z1 g3 I1 hp.2.2.1 hp.2.2.2 (by decide) ?_) ?_
  · have := hp.1.1
    omega
  · rintro v h' ⟨x, ex, p1, p2⟩
    exact ⟨x, ex, p1, c_seq gsq8 (fun _ _ _ => lp_e glp9) k1.2 p2⟩
theorem f_128 {n : Nat} {X : aX} (K : ct129 n X) (KL : cl128 n X) : cl128 (n + 1) X := by
  intro h x1 x2 x3 u4 a1 a3 S z1 z3 I o0 o1 i0 i1
  have bI := I.1
  have bI2 := I.2.1
  have go : ∀ (c y4 : Int) (h4 : aH), opB 9 c = true → R125 (vw h) c y4 (vw h4) → y4 ≠ 0 → cpre (vw h4) a1 ∧ ∀ h12 : aH, wS h12 → cRes 6 a1 (vw h4) (vw h12) → ∀ (w2 w3 : Int32) (u4 : Option Value), w3.toInt = w32 (a3 + 1) → Pt n X zM128 8 [some (.ref 33), some (.int x1), some (.int w2), some (.int w3), u4] [] h12 (qI (fun _ h' => wS h' ∧ cLo 9 a1 (vw h) (vw h'))) := by
    intro c y4 h4 hc k4 e4
    obtain ⟨I4, e12, e11⟩ := tk_i I k4 e4
    refine ⟨⟨I4, e12, o0, o1⟩, fun h12 S12 c1 w2 w3 u4 g3 => ?_⟩
    obtain ⟨I12, j12⟩ := cR_i I4 c1
    replace g3 := w_1 g3 (by omega) (by omega)
    refine pt_q (KL S12 z1 g3 I12 o0 o1 (by omega) (by omega)) ?_
    rintro v h' ⟨x, ex, p1, p2⟩
    exact ⟨x, ex, p1, c_step glp9 I k4 e4 hc c1 p2⟩
  refine d128_8 S z1 rfl z3 K ⟨fun e => ⟨S, c_out (fun _ _ _ => lp_e glp9) I (fun _ => by rw [at_end I e i1]; rfl)⟩, fun e => ⟨⟨I, by decide, by decide⟩, fun y0 h0 k0 => ?_⟩⟩
  have r0 := k0.2
  refine ⟨fun e0 => ?_, fun e0 => ⟨(go 124 y0 h0 rfl r0 e0).1, fun y h9 k => ⟨fun _ => fun w2 w3 u4 g2 g3 => (go 124 y0 h0 rfl r0 e0).2 _ k.1 k.2 w2 w3 u4 g3, fun _ => ⟨fun _ => fun w2 w3 u4 g2 g3 => (go 124 y0 h0 rfl r0 e0).2 _ k.1 k.2 w2 w3 u4 g3, fun _ => fun w2 w3 u4 g2 g3 => (go 124 y0 h0 rfl r0 e0).2 _ k.1 k.2 w2 w3 u4 g3⟩⟩⟩⟩
  obtain ⟨v0, n0⟩ := tk_0 r0 e0
  refine ⟨k0.1, ?_⟩
  rw [v0]
  exact c_out (fun _ _ _ => lp_e glp9) I (fun e12 => by show (_ == 124) = false; rw [beq_false_of_ne (n0 e12)])
theorem e_130 {n : Nat} {X : aX} (K : ct131 n X) : ct130 (n + 1) X := by
  intro h x1 a1 S z1 hp
  refine d130_0 S z1 K ⟨hp, fun y1 h1 k1 => ?_⟩
  obtain ⟨I1, i1⟩ := cR_i hp.1 k1.2
  have go : ∀ (c y4 : Int) (h4 : aH), opB 12 c = true → R125 (vw h1) c y4 (vw h4) → y4 ≠ 0 → cpre (vw h4) a1 ∧ ∀ h12 : aH, wS h12 → cRes 3 a1 (vw h4) (vw h12) → wS h12 ∧ cRes 5 a1 (vw h) (vw h12) := by
    intro c y4 h4 hc k4 e4
    obtain ⟨I4, e12, e11⟩ := tk_i I1 k4 e4
    exact ⟨⟨I4, e12, hp.2.2⟩, fun h12 S12 c1 => ⟨S12, c_seq gsq5 (fun _ _ _ => ch_e gch12) k1.2 (c_cho gch12 k4 e4 hc c1)⟩⟩
  refine ⟨⟨I1, by decide, by decide⟩, fun y3 h3 k3 => ⟨fun e3 => ⟨⟨by rw [(tk_0 k3.2 e3).1]; exact I1, by decide, by decide⟩, fun y6 h6 k6 => ?_⟩, fun e3 => ⟨(go 60 y3 h3 rfl k3.2 e3).1, fun y h9 k => ⟨fun _ => (go 60 y3 h3 rfl k3.2 e3).2 h9 k.1 k.2, fun _ => (go 60 y3 h3 rfl k3.2 e3).2 h9 k.1 k.2⟩⟩⟩⟩
  obtain ⟨v3, n3⟩ := tk_0 k3.2 e3
  have r6 : R125 (vw h1) 61 y6 (vw h6) := by rw [← v3]; exact k6.2
  refine ⟨fun e6 => ⟨⟨by rw [(tk_0 r6 e6).1]; exact I1, by decide, by decide⟩, fun y9 h9 k9 => ?_⟩, fun e6 => ⟨(go 61 y6 h6 rfl r6 e6).1, fun y h9 k => ⟨fun _ => (go 61 y6 h6 rfl r6 e6).2 h9 k.1 k.2, fun _ => (go 61 y6 h6 rfl r6 e6).2 h9 k.1 k.2⟩⟩⟩
  obtain ⟨v6, n6⟩ := tk_0 r6 e6
  have r9 : R125 (vw h1) 62 y9 (vw h9) := by rw [← v6]; exact k9.2
  refine ⟨fun e9 => ?_, fun e9 => ⟨(go 62 y9 h9 rfl r9 e9).1, fun y h11 k => ⟨fun _ => (go 62 y9 h9 rfl r9 e9).2 h11 k.1 k.2, fun _ => (go 62 y9 h9 rfl r9 e9).2 h11 k.1 k.2⟩⟩⟩
  obtain ⟨v9, n9⟩ := tk_0 r9 e9
  refine ⟨k9.1, c_seq gsq5 (fun _ _ _ => ch_e gch12) k1.2 ?_⟩
  rw [v9]
  exact c_out (fun _ _ _ => ch_e gch12) I1 (fun e12 => by show ((_ == 60 || _ == 61) || _ == 62) = false; rw [beq_false_of_ne (n3 e12), beq_false_of_ne (n6 e12), beq_false_of_ne (n9 e12)]; rfl)
theorem e_133 {n : Nat} {X : aX} (K0 : ct133 n X) (K8 : ct128 n X) : ct133 (n + 1) X := by
  intro h x1 a1 S z1 hp
  obtain ⟨I, e12, o0, o1⟩ := hp
  have bI := I.1
  have bI2 := I.2.1
  have st1 : up (up (vw h) 33 11 (vw h 33 11)) 33 12 (-1) = vw h := by rw [up_id, ← e12, up_id]
  -- a fault where it stands
  have bad : ∀ {V' : vS}, R126 (vw h) V' → Pr (cTx (vw h)) 0 a1 (vw h 33 11) (vw h 33 11) (vw h 33 11) → cRes 0 a1 (vw h) V' := by
    intro V' k p
    rcases k with ⟨k, -⟩ | ⟨-, rfl⟩
    · exact absurd e12 k
    · exact ⟨_, _, vw h 33 11, vw h 33 11, p, by rw [up_id], Int.le_refl _, bI.2, Or.inr ⟨bI.1, Or.inl rfl⟩⟩
  have wo : a1 ≠ 8 → w32 (a1 + 1) = a1 + 1 := fun _ => w32_id (by omega) (by omega)
  -- behind one of the signs ! and -
  have un : ∀ (c y : Int) (h4 h5 : aH), (c = 33 ∨ c = 45) → a1 < 8 → R125 (vw h) c y (vw h4) → y ≠ 0 → cRes 0 (w32 (a1 + 1)) (vw h4) (vw h5) → cRes 0 a1 (vw h) (vw h5) := by
    intro c y h4 h5 hc lt k e c1
    obtain ⟨⟨a, b, d⟩, e4⟩ := tk_1 k e
    rw [wo (by omega)] at c1
    obtain ⟨q, f, a', g, p1, e1, b1, b2, dd⟩ := c1
    have t4 : cTx (vw h4) = cTx (vw h) := by rw [e4, cT_u]
    have v11 : vw h4 33 11 = vw h 33 11 + 1 := by rw [e4, up_s]
    have v10 : vw h4 33 10 = vw h 33 10 := by rw [e4, up_j (by decide)]
    rw [t4, v11] at p1
    rw [t4] at dd
    rw [e4, up_up] at e1
    exact ⟨q, f, a', g, op_un (by rw [b]; exact hc) (by omega) p1, e1, by omega, by omega, dd⟩
  have dn : ¬ (48 ≤ cSg (vw h) ∧ cSg (vw h) ≤ 57) → isD (cTx (vw h) (vw h 33 11)) = false := by
    intro z
    cases w : isD (cTx (vw h) (vw h 33 11)) with
    | false => rfl
    | true => exact absurd ((cSg_d I e12).mpr w) z
  -- no digit, no name
  have rest : isD (cTx (vw h) (vw h 33 11)) = false → nmB (cTx (vw h) (vw h 33 11)) = false →
      (a1 < 8 → ((tIn (vw h) ∧ (0 : Int) ≤ 33 ∧ (33 : Int) ≤ 127) ∧ ∀ (y14 : Int) (h_14 : aH), (wS h_14 ∧ R125 (vw h) 33 y14 (vw h_14)) → ((y14 = 0 → ((tIn (vw h_14) ∧ (0 : Int) ≤ 45 ∧ (45 : Int) ≤ 127) ∧ ∀ (y17 : Int) (h_17 : aH), (wS h_17 ∧ R125 (vw h_14) 45 y17 (vw h_17)) → ((y17 = 0 → ((tIn (vw h_17) ∧ (0 : Int) ≤ 40 ∧ (40 : Int) ≤ 127) ∧ ∀ (y20 : Int) (h_20 : aH), (wS h_20 ∧ R125 (vw h_17) 40 y20 (vw h_20)) → ((y20 ≠ 0 → ((cpre (vw h_20) (w32 (a1 + 1))) ∧ ∀ (y24 : Int) (h_24 : aH), (wS h_24 ∧ cRes 8 (w32 (a1 + 1)) (vw h_20) (vw h_24)) → ((tIn (vw h_24) ∧ (0 : Int) ≤ 41 ∧ (41 : Int) ≤ 127) ∧ ∀ (y26 : Int) (h_26 : aH), (wS h_26 ∧ R125 (vw h_24) 41 y26 (vw h_26)) → ((y26 ≠ 0 → wS h_26 ∧ cRes 0 a1 (vw h) (vw h_26)) ∧ (y26 = 0 → ∀ (h_28 : aH), (wS h_28 ∧ R126 (vw h_26) (vw h_28)) → wS h_28 ∧ cRes 0 a1 (vw h) (vw h_28)))))) ∧ (y20 = 0 → ∀ (h_29 : aH), (wS h_29 ∧ R126 (vw h_20) (vw h_29)) → wS h_29 ∧ cRes 0 a1 (vw h) (vw h_29))))) ∧ (y17 ≠ 0 → ((cpre (vw h_17) (w32 (a1 + 1))) ∧ ∀ (h_33 : aH), (wS h_33 ∧ cRes 0 (w32 (a1 + 1)) (vw h_17) (vw h_33)) → wS h_33 ∧ cRes 0 a1 (vw h) (vw h_33)))))) ∧ (y14 ≠ 0 → ((cpre (vw h_14) (w32 (a1 + 1))) ∧ ∀ (h_37 : aH), (wS h_37 ∧ cRes 0 (w32 (a1 + 1)) (vw h_14) (vw h_37)) → wS h_37 ∧ cRes 0 a1 (vw h) (vw h_37)))))) ∧ (8 ≤ a1 → ∀ (h_43 : aH), (wS h_43 ∧ R126 (vw h) (vw h_43)) → wS h_43 ∧ cRes 0 a1 (vw h) (vw h_43)) := by
    intro nd nn
    have d0 : dgEnd (cTx (vw h)) 6 (vw h 33 11) = vw h 33 11 := by
      show (bif isD (cTx (vw h) (vw h 33 11)) then dgEnd (cTx (vw h)) 5 (vw h 33 11 + 1) else vw h 33 11) = _
      rw [nd]
      rfl
    have none3 : cTx (vw h) (vw h 33 11) ≠ 33 → cTx (vw h) (vw h 33 11) ≠ 45 → cTx (vw h) (vw h 33 11) ≠ 40 → Pr (cTx (vw h)) 0 a1 (vw h 33 11) (vw h 33 11) (vw h 33 11) := by
      intro n1 n2 n3
      have p := op_no (o := a1) nn n1 n2 n3
      rw [d0, if_pos (Or.inl rfl)] at p
      exact p
    refine ⟨fun lt => ⟨⟨I, by decide, by decide⟩, fun y14 h14 k14 => ⟨fun e14 => ⟨⟨by rw [(tk_0 k14.2 e14).1]; exact I, by decide, by decide⟩, fun y17 h17 k17 => ?_⟩, fun e14 => ?_⟩⟩, fun ge h43 k43 => ⟨k43.1, bad k43.2 ?_⟩⟩
    · obtain ⟨v14, n14⟩ := tk_0 k14.2 e14
      have r17 : R125 (vw h) 45 y17 (vw h17) := by rw [← v14]; exact k17.2
      refine ⟨fun e17 => ⟨⟨by rw [(tk_0 r17 e17).1]; exact I, by decide, by decide⟩, fun y20 h20 k20 => ?_⟩, fun e17 => ?_⟩
      · obtain ⟨v17, n17⟩ := tk_0 r17 e17
        have r20 : R125 (vw h) 40 y20 (vw h20) := by rw [← v17]; exact k20.2
        refine ⟨fun e20 => ?_, fun e20 h29 k29 => ?_⟩
        · obtain ⟨I20, f12, f11⟩ := tk_i I r20 e20
          obtain ⟨⟨a, b, d⟩, e4⟩ := tk_1 r20 e20
          refine ⟨⟨I20, f12, by rw [wo (by omega)]; omega, by rw [wo (by omega)]; omega⟩, fun y24 h24 k24 => ?_⟩
          obtain ⟨I24, j24⟩ := cR_i I20 k24.2
          have c1 := k24.2
          rw [wo (by omega)] at c1
          obtain ⟨q, f, a', g, p1, e1, b1, b2, dd⟩ := c1
          have t4 : cTx (vw h20) = cTx (vw h) := by rw [e4, cT_u]
          have v11 : vw h20 33 11 = vw h 33 11 + 1 := by rw [e4, up_s]
          have v10 : vw h20 33 10 = vw h 33 10 := by rw [e4, up_j (by decide)]
          rw [t4, v11] at p1
          rw [t4] at dd
          rw [e4, up_up] at e1
          obtain ⟨f1, f2, f3, f4⟩ := cR_f e1
          refine ⟨⟨I24, by decide, by decide⟩, fun y26 h26 k26 => ⟨fun e26 => ⟨k26.1, ?_⟩, fun e26 h28 k28 => ⟨k28.1, ?_⟩⟩⟩
          · -- the bracket is closed
            obtain ⟨⟨m1, m2, m3⟩, e5⟩ := tk_1 k26.2 e26
            rw [f1, f3] at m2
            rw [f3] at e5 m3
            rw [f2] at m3
            have eV : vw h26 = up (up (vw h) 33 11 (a' + 1)) 33 12 g := by rw [e5, e1, up_sw (up (vw h) 33 11 a') 33 (j := 12) (j' := 11) (by decide), up_up]
            rcases dd with ⟨rfl, rfl, rfl⟩ | ⟨d1, rfl | ⟨rfl, rfl, d2⟩⟩
            · exact ⟨_, _, a' + 1, -1, op_br b (by omega) p1 (Or.inr (Or.inl ⟨rfl, m2, rfl, rfl⟩)), eV, by omega, by omega, Or.inl ⟨rfl, rfl, rfl⟩⟩
            · rw [f4] at m1
              omega
            · rw [m2] at d2
              exact absurd d2 (by decide)
          · -- it is not
            obtain ⟨v26, n26⟩ := tk_0 k26.2 e26
            rw [v26] at k28
            rcases dd with ⟨rfl, rfl, rfl⟩ | ⟨d1, rfl | ⟨rfl, rfl, d2⟩⟩
            · have n := n26 f4
              rw [f1, f3] at n
              have p := op_br b (by omega) p1 (Or.inr (Or.inr ⟨rfl, n, rfl, rfl⟩))
              rcases k28.2 with ⟨z, -⟩ | ⟨-, z⟩
              · exact absurd f4 z
              · rw [f3] at z
                exact ⟨_, _, a', a', p, by rw [z, e1, up_up], by omega, by omega, Or.inr ⟨by omega, Or.inl rfl⟩⟩
            · have p := op_br b (by omega) p1 (Or.inl ⟨d1, rfl, rfl⟩)
              rcases k28.2 with ⟨-, z⟩ | ⟨z, -⟩
              · exact ⟨_, _, a', g, p, by rw [z, e1], by omega, by omega, Or.inr ⟨d1, Or.inl rfl⟩⟩
              · rw [f4] at z
                omega
            · have p := op_br b (by omega) p1 (Or.inl ⟨d1, rfl, rfl⟩)
              rcases k28.2 with ⟨z, -⟩ | ⟨-, z⟩
              · exact absurd f4 z
              · rw [f3] at z
                exact ⟨_, _, a', a', p, by rw [z, e1, up_up], by omega, by omega, Or.inr ⟨d1, Or.inl rfl⟩⟩
        · obtain ⟨v20, n20⟩ := tk_0 r20 e20
          have k := k29.2
          rw [v20] at k
          exact ⟨k29.1, bad k (none3 (n14 e12) (n17 e12) (n20 e12))⟩
      · obtain ⟨I4, f12, f11⟩ := tk_i I r17 e17
        exact ⟨⟨I4, f12, by rw [wo (by omega)]; omega, by rw [wo (by omega)]; omega⟩, fun h33 k33 => ⟨k33.1, un 45 y17 h17 h33 (Or.inr rfl) lt r17 e17 k33.2⟩⟩
    · obtain ⟨I4, f12, f11⟩ := tk_i I k14.2 e14
      exact ⟨⟨I4, f12, by rw [wo (by omega)]; omega, by rw [wo (by omega)]; omega⟩, fun h33 k33 => ⟨k33.1, un 33 y14 h14 h33 (Or.inl rfl) lt k14.2 e14 k33.2⟩⟩
    · by_cases n1 : cTx (vw h) (vw h 33 11) = 33
      · exact op_8 (Or.inl n1) (by omega)
      · by_cases n2 : cTx (vw h) (vw h 33 11) = 45
        · exact op_8 (Or.inr (Or.inl n2)) (by omega)
        · by_cases n3 : cTx (vw h) (vw h 33 11) = 40
          · exact op_8 (Or.inr (Or.inr n3)) (by omega)
          · exact none3 n1 n2 n3
  obtain ⟨m1, m2⟩ := cSg_m I e12
  have fit : ∀ {A : Prop}, isD (cTx (vw h) (vw h 33 11)) = false → nmB (cTx (vw h) (vw h 33 11)) = false → A → A := fun _ _ a => a
  refine d133_0 S z1 K0 K8 ⟨fun nd => ⟨fun ne => ⟨fun ix => ?_, fun ix g S2 eg => ⟨fun _ => trivial, fun q _ _ => ⟨S2, ?_⟩⟩⟩, fun eq => ?_⟩, fun dd => ⟨⟨I, e12⟩, fun y h89 k => ⟨k.1, ?_⟩⟩⟩
  · obtain ⟨r1, r2⟩ := rest (dn nd) ((m2 ne).mp ix)
    exact ⟨fun lt => ⟨(r1 lt).1, fun y14 h14 k14 => ⟨fun e14 => ⟨(((r1 lt).2 y14 h14 k14).1 e14).1, fun y17 h17 k17 => ⟨fun e17 => ⟨(((((r1 lt).2 y14 h14 k14).1 e14).2 y17 h17 k17).1 e17).1, fun y20 h20 k20 => (((((r1 lt).2 y14 h14 k14).1 e14).2 y17 h17 k17).1 e17).2 y20 h20 k20⟩, fun e17 => ⟨(((((r1 lt).2 y14 h14 k14).1 e14).2 y17 h17 k17).2 e17).1, fun _ h33 k33 => (((((r1 lt).2 y14 h14 k14).1 e14).2 y17 h17 k17).2 e17).2 h33 k33⟩⟩⟩, fun e14 => ⟨(((r1 lt).2 y14 h14 k14).2 e14).1, fun _ h37 k37 => ⟨fun _ => (((r1 lt).2 y14 h14 k14).2 e14).2 h37 k37, fun _ => (((r1 lt).2 y14 h14 k14).2 e14).2 h37 k37⟩⟩⟩⟩, fun ge h43 k43 => r2 ge h43 k43⟩
  · have nm : nmB (cTx (vw h) (vw h 33 11)) = true := by
      cases w : nmB (cTx (vw h) (vw h 33 11)) with
      | true => rfl
      | false => exact absurd ((m2 ne).mpr w) ix
    have lt : vw h 33 11 < vw h 33 10 := cT_lt I (fun w => by rw [w] at nm; cases nm)
    rw [w32_id (by omega) (by omega)] at eg
    refine ⟨_, _, vw h 33 11 + 1, -1, op_nm nm, ?_, by omega, by omega, Or.inl ⟨rfl, rfl, rfl⟩⟩
    rw [eg, up_sw (vw h) 33 (j := 11) (j' := 12) (by decide), ← e12, up_id]
  · obtain ⟨r1, r2⟩ := rest (dn nd) (m1 eq)
    exact ⟨fun lt => ⟨(r1 lt).1, fun y14 h14 k14 => ⟨fun e14 => ⟨(((r1 lt).2 y14 h14 k14).1 e14).1, fun y17 h17 k17 => ⟨fun e17 => ⟨(((((r1 lt).2 y14 h14 k14).1 e14).2 y17 h17 k17).1 e17).1, fun y20 h20 k20 => (((((r1 lt).2 y14 h14 k14).1 e14).2 y17 h17 k17).1 e17).2 y20 h20 k20⟩, fun e17 => ⟨(((((r1 lt).2 y14 h14 k14).1 e14).2 y17 h17 k17).2 e17).1, fun _ h33 k33 => (((((r1 lt).2 y14 h14 k14).1 e14).2 y17 h17 k17).2 e17).2 h33 k33⟩⟩⟩, fun e14 => ⟨(((r1 lt).2 y14 h14 k14).2 e14).1, fun _ h37 k37 => ⟨fun _ => (((r1 lt).2 y14 h14 k14).2 e14).2 h37 k37, fun _ => (((r1 lt).2 y14 h14 k14).2 e14).2 h37 k37⟩⟩⟩⟩, fun ge h43 k43 => r2 ge h43 k43⟩
  · have d1 := (cSg_d I e12).mp dd
    have b := dEnd_b (cTx (vw h)) 6 (vw h 33 11)
    have b2 := dEnd_r I 6 (vw h 33 11) bI.1 bI.2
    have lt := b.2 d1 (by decide)
    have notc : ∀ c : Int, (c < 48 ∨ 57 < c) → cTx (vw h) (vw h 33 11) ≠ c := fun c hc e => by
      rw [e] at d1
      have := of_decide_eq_true d1
      omega
    have nn : nmB (cTx (vw h) (vw h 33 11)) = false := by
      have f : ∀ c : Int, (c < 48 ∨ 57 < c) → (cTx (vw h) (vw h 33 11) == c) = false := fun c hc => beq_false_of_ne (notc c hc)
      unfold nmB
      simp only [f 121 (by decide), f 107 (by decide), f 115 (by decide), f 102 (by decide), f 103 (by decide), f 99 (by decide), f 116 (by decide), f 108 (by decide), f 101 (by decide), f 112 (by decide), f 109 (by decide), f 106 (by decide), f 98 (by decide), Bool.or_false]
    have p := op_no (o := a1) nn (notc 33 (by decide)) (notc 45 (by decide)) (notc 40 (by decide))
    have eV : vw h89 = up (up (vw h) 33 11 (dgEnd (cTx (vw h)) 6 (vw h 33 11))) 33 12 (-1) := by
      rw [k.2, up_sw (vw h) 33 (j := 11) (j' := 12) (by decide), ← e12, up_id]
    cases w : isD (cTx (vw h) (dgEnd (cTx (vw h)) 6 (vw h 33 11))) with
    | true =>
      rw [if_pos (Or.inr w)] at p
      exact ⟨_, _, _, -1, p, eV, b.1, b2, Or.inr ⟨by omega, Or.inr ⟨rfl, rfl, w⟩⟩⟩
    | false =>
      rw [if_neg (fun z => z.elim (fun z => by omega) (fun z => by rw [w] at z; cases z))] at p
      exact ⟨_, _, _, -1, p, eV, b.1, b2, Or.inl ⟨rfl, rfl, rfl⟩⟩
theorem c_gram (X : aX) : ∀ n : Nat, ct133 n X ∧ (ct132 n X ∧ cl132 n X) ∧ (ct131 n X ∧ cl131 n X) ∧ ct130 n X ∧ (ct129 n X ∧ cl129 n X) ∧ ct128 n X ∧ cl128 n X := by
  intro n
  induction n with
  | zero => exact ⟨fun _ _ _ => pt_z, ⟨fun _ _ _ => pt_z, fun _ _ _ _ _ _ _ _ => pt_z⟩, ⟨fun _ _ _ => pt_z, fun _ _ _ _ _ _ _ _ => pt_z⟩, fun _ _ _ => pt_z, ⟨fun _ _ _ => pt_z, fun _ _ _ _ _ _ _ _ => pt_z⟩, fun _ _ _ => pt_z, fun _ _ _ _ _ _ _ _ => pt_z⟩
  | succ n ih =>
    obtain ⟨i1, ⟨i2, i3⟩, ⟨i4, i5⟩, i6, ⟨i7, i8⟩, i9, i10⟩ := ih
    exact ⟨e_133 i1 i9, ⟨e_132 i1 i3, f_132 i1 i3⟩, ⟨e_131 i2 i5, f_131 i2 i5⟩, e_130 i4, ⟨e_129 i6 i8, f_129 i6 i8⟩, e_128 i7 i10, f_128 i7 i10⟩


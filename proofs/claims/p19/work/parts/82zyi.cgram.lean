-- ===== 82zyi.cgram: 5 texts =====
section
-- ===== the class reads a text: its grammar =====
theorem gx132_0 : aF 0 zM132.2.2.2.2.2.2.2 = some (0, (.aload_n 0), 1, 0, 0) := by decide +kernel
theorem gx132_1 : aF 1 zM132.2.2.2.2.2.2.2 = some (1, (.iload_n 1), 1, 0, 0) := by decide +kernel
theorem gx132_2 : aF 2 zM132.2.2.2.2.2.2.2 = some (2, (.invokevirtual 104), 3, 133, 0) := by decide +kernel
theorem gx132_5 : aF 5 zM132.2.2.2.2.2.2.2 = some (5, (.istore_n 2), 1, 0, 0) := by decide +kernel
theorem gx132_6 : aF 6 zM132.2.2.2.2.2.2.2 = some (6, (.iconst 0), 1, 0, 0) := by decide +kernel
theorem gx132_7 : aF 7 zM132.2.2.2.2.2.2.2 = some (7, (.istore_n 3), 1, 0, 0) := by decide +kernel
theorem gx132_8 : aF 8 zM132.2.2.2.2.2.2.2 = some (8, (.iload_n 3), 1, 0, 0) := by decide +kernel
theorem gx132_9 : aF 9 zM132.2.2.2.2.2.2.2 = some (9, (.sipush 160), 3, 0, 0) := by decide +kernel
theorem gx132_12 : aF 12 zM132.2.2.2.2.2.2.2 = some (12, (.if_icmp .ge 97), 3, 109, 0) := by decide +kernel
theorem gx132_109 : aF 109 zM132.2.2.2.2.2.2.2 = some (109, (.iload_n 2), 1, 0, 0) := by decide +kernel
theorem gx132_110 : aF 110 zM132.2.2.2.2.2.2.2 = some (110, .ireturn, 1, 0, 0) := by decide +kernel
theorem gx132_15 : aF 15 zM132.2.2.2.2.2.2.2 = some (15, (.aload_n 0), 1, 0, 0) := by decide +kernel
theorem gx132_16 : aF 16 zM132.2.2.2.2.2.2.2 = some (16, (.bipush 42), 2, 0, 0) := by decide +kernel
theorem gx132_18 : aF 18 zM132.2.2.2.2.2.2.2 = some (18, (.invokevirtual 65), 3, 125, 0) := by decide +kernel
theorem gx132_21 : aF 21 zM132.2.2.2.2.2.2.2 = some (21, (.ifCond .eq 14), 3, 35, 0) := by decide +kernel
theorem gx132_35 : aF 35 zM132.2.2.2.2.2.2.2 = some (35, (.aload_n 0), 1, 0, 0) := by decide +kernel
theorem gx132_36 : aF 36 zM132.2.2.2.2.2.2.2 = some (36, (.bipush 47), 2, 0, 0) := by decide +kernel
theorem gx132_38 : aF 38 zM132.2.2.2.2.2.2.2 = some (38, (.invokevirtual 65), 3, 125, 0) := by decide +kernel
theorem gx132_41 : aF 41 zM132.2.2.2.2.2.2.2 = some (41, (.ifCond .eq 27), 3, 68, 0) := by decide +kernel
theorem gx132_68 : aF 68 zM132.2.2.2.2.2.2.2 = some (68, (.aload_n 0), 1, 0, 0) := by decide +kernel
theorem gx132_69 : aF 69 zM132.2.2.2.2.2.2.2 = some (69, (.bipush 37), 2, 0, 0) := by decide +kernel
theorem gx132_71 : aF 71 zM132.2.2.2.2.2.2.2 = some (71, (.invokevirtual 65), 3, 125, 0) := by decide +kernel
theorem gx132_74 : aF 74 zM132.2.2.2.2.2.2.2 = some (74, (.ifCond .eq 27), 3, 101, 0) := by decide +kernel
theorem gx132_101 : aF 101 zM132.2.2.2.2.2.2.2 = some (101, (.iload_n 2), 1, 0, 0) := by decide +kernel
theorem gx132_102 : aF 102 zM132.2.2.2.2.2.2.2 = some (102, .ireturn, 1, 0, 0) := by decide +kernel
theorem gx132_77 : aF 77 zM132.2.2.2.2.2.2.2 = some (77, (.aload_n 0), 1, 0, 0) := by decide +kernel
theorem gx132_78 : aF 78 zM132.2.2.2.2.2.2.2 = some (78, (.iload_n 1), 1, 0, 0) := by decide +kernel
theorem gx132_79 : aF 79 zM132.2.2.2.2.2.2.2 = some (79, (.invokevirtual 104), 3, 133, 0) := by decide +kernel
theorem gx132_82 : aF 82 zM132.2.2.2.2.2.2.2 = some (82, (.istore 4), 2, 0, 0) := by decide +kernel
theorem gx132_84 : aF 84 zM132.2.2.2.2.2.2.2 = some (84, (.iload 4), 2, 0, 0) := by decide +kernel
theorem gx132_86 : aF 86 zM132.2.2.2.2.2.2.2 = some (86, (.ifCond .ne 7), 3, 93, 0) := by decide +kernel
theorem gx132_93 : aF 93 zM132.2.2.2.2.2.2.2 = some (93, (.iload_n 2), 1, 0, 0) := by decide +kernel
theorem gx132_94 : aF 94 zM132.2.2.2.2.2.2.2 = some (94, (.iload 4), 2, 0, 0) := by decide +kernel
theorem gx132_96 : aF 96 zM132.2.2.2.2.2.2.2 = some (96, .irem, 1, 0, 0) := by decide +kernel
theorem gx132_97 : aF 97 zM132.2.2.2.2.2.2.2 = some (97, (.istore_n 2), 1, 0, 0) := by decide +kernel
theorem gx132_98 : aF 98 zM132.2.2.2.2.2.2.2 = some (98, (.goto 5), 3, 103, 0) := by decide +kernel
theorem gx132_103 : aF 103 zM132.2.2.2.2.2.2.2 = some (103, (.iinc 3 1), 3, 0, 0) := by decide +kernel
theorem gx132_106 : aF 106 zM132.2.2.2.2.2.2.2 = some (106, (.goto (-98)), 3, 8, 0) := by decide +kernel
theorem gx132_89 : aF 89 zM132.2.2.2.2.2.2.2 = some (89, (.iconst 0), 1, 0, 0) := by decide +kernel
theorem gx132_90 : aF 90 zM132.2.2.2.2.2.2.2 = some (90, (.goto 7), 3, 97, 0) := by decide +kernel
theorem gx132_44 : aF 44 zM132.2.2.2.2.2.2.2 = some (44, (.aload_n 0), 1, 0, 0) := by decide +kernel
theorem gx132_45 : aF 45 zM132.2.2.2.2.2.2.2 = some (45, (.iload_n 1), 1, 0, 0) := by decide +kernel
theorem gx132_46 : aF 46 zM132.2.2.2.2.2.2.2 = some (46, (.invokevirtual 104), 3, 133, 0) := by decide +kernel
theorem gx132_49 : aF 49 zM132.2.2.2.2.2.2.2 = some (49, (.istore 4), 2, 0, 0) := by decide +kernel
theorem gx132_51 : aF 51 zM132.2.2.2.2.2.2.2 = some (51, (.iload 4), 2, 0, 0) := by decide +kernel
theorem gx132_53 : aF 53 zM132.2.2.2.2.2.2.2 = some (53, (.ifCond .ne 7), 3, 60, 0) := by decide +kernel
theorem gx132_60 : aF 60 zM132.2.2.2.2.2.2.2 = some (60, (.iload_n 2), 1, 0, 0) := by decide +kernel
theorem gx132_61 : aF 61 zM132.2.2.2.2.2.2.2 = some (61, (.iload 4), 2, 0, 0) := by decide +kernel
theorem gx132_63 : aF 63 zM132.2.2.2.2.2.2.2 = some (63, .idiv, 1, 0, 0) := by decide +kernel
theorem gx132_64 : aF 64 zM132.2.2.2.2.2.2.2 = some (64, (.istore_n 2), 1, 0, 0) := by decide +kernel
theorem gx132_65 : aF 65 zM132.2.2.2.2.2.2.2 = some (65, (.goto 38), 3, 103, 0) := by decide +kernel
theorem gx132_56 : aF 56 zM132.2.2.2.2.2.2.2 = some (56, (.iconst 0), 1, 0, 0) := by decide +kernel
theorem gx132_57 : aF 57 zM132.2.2.2.2.2.2.2 = some (57, (.goto 7), 3, 64, 0) := by decide +kernel
theorem gx132_24 : aF 24 zM132.2.2.2.2.2.2.2 = some (24, (.iload_n 2), 1, 0, 0) := by decide +kernel
theorem gx132_25 : aF 25 zM132.2.2.2.2.2.2.2 = some (25, (.aload_n 0), 1, 0, 0) := by decide +kernel
theorem gx132_26 : aF 26 zM132.2.2.2.2.2.2.2 = some (26, (.iload_n 1), 1, 0, 0) := by decide +kernel
theorem gx132_27 : aF 27 zM132.2.2.2.2.2.2.2 = some (27, (.invokevirtual 104), 3, 133, 0) := by decide +kernel
theorem gx132_30 : aF 30 zM132.2.2.2.2.2.2.2 = some (30, .imul, 1, 0, 0) := by decide +kernel
theorem gx132_31 : aF 31 zM132.2.2.2.2.2.2.2 = some (31, (.istore_n 2), 1, 0, 0) := by decide +kernel
theorem gx132_32 : aF 32 zM132.2.2.2.2.2.2.2 = some (32, (.goto 71), 3, 103, 0) := by decide +kernel
theorem gx131_0 : aF 0 zM131.2.2.2.2.2.2.2 = some (0, (.aload_n 0), 1, 0, 0) := by decide +kernel
theorem gx131_1 : aF 1 zM131.2.2.2.2.2.2.2 = some (1, (.iload_n 1), 1, 0, 0) := by decide +kernel
theorem gx131_2 : aF 2 zM131.2.2.2.2.2.2.2 = some (2, (.invokevirtual 101), 3, 132, 0) := by decide +kernel
theorem gx131_5 : aF 5 zM131.2.2.2.2.2.2.2 = some (5, (.istore_n 2), 1, 0, 0) := by decide +kernel
theorem gx131_6 : aF 6 zM131.2.2.2.2.2.2.2 = some (6, (.iconst 0), 1, 0, 0) := by decide +kernel
theorem gx131_7 : aF 7 zM131.2.2.2.2.2.2.2 = some (7, (.istore_n 3), 1, 0, 0) := by decide +kernel
theorem gx131_8 : aF 8 zM131.2.2.2.2.2.2.2 = some (8, (.iload_n 3), 1, 0, 0) := by decide +kernel
theorem gx131_9 : aF 9 zM131.2.2.2.2.2.2.2 = some (9, (.sipush 160), 3, 0, 0) := by decide +kernel
theorem gx131_12 : aF 12 zM131.2.2.2.2.2.2.2 = some (12, (.if_icmp .ge 51), 3, 63, 0) := by decide +kernel
theorem gx131_63 : aF 63 zM131.2.2.2.2.2.2.2 = some (63, (.iload_n 2), 1, 0, 0) := by decide +kernel
theorem gx131_64 : aF 64 zM131.2.2.2.2.2.2.2 = some (64, .ireturn, 1, 0, 0) := by decide +kernel
theorem gx131_15 : aF 15 zM131.2.2.2.2.2.2.2 = some (15, (.aload_n 0), 1, 0, 0) := by decide +kernel
theorem gx131_16 : aF 16 zM131.2.2.2.2.2.2.2 = some (16, (.bipush 43), 2, 0, 0) := by decide +kernel
theorem gx131_18 : aF 18 zM131.2.2.2.2.2.2.2 = some (18, (.invokevirtual 65), 3, 125, 0) := by decide +kernel
theorem gx131_21 : aF 21 zM131.2.2.2.2.2.2.2 = some (21, (.ifCond .eq 14), 3, 35, 0) := by decide +kernel
theorem gx131_35 : aF 35 zM131.2.2.2.2.2.2.2 = some (35, (.aload_n 0), 1, 0, 0) := by decide +kernel
theorem gx131_36 : aF 36 zM131.2.2.2.2.2.2.2 = some (36, (.bipush 45), 2, 0, 0) := by decide +kernel
theorem gx131_38 : aF 38 zM131.2.2.2.2.2.2.2 = some (38, (.invokevirtual 65), 3, 125, 0) := by decide +kernel
theorem gx131_41 : aF 41 zM131.2.2.2.2.2.2.2 = some (41, (.ifCond .eq 14), 3, 55, 0) := by decide +kernel
theorem gx131_55 : aF 55 zM131.2.2.2.2.2.2.2 = some (55, (.iload_n 2), 1, 0, 0) := by decide +kernel
theorem gx131_56 : aF 56 zM131.2.2.2.2.2.2.2 = some (56, .ireturn, 1, 0, 0) := by decide +kernel
theorem gx131_44 : aF 44 zM131.2.2.2.2.2.2.2 = some (44, (.iload_n 2), 1, 0, 0) := by decide +kernel
theorem gx131_45 : aF 45 zM131.2.2.2.2.2.2.2 = some (45, (.aload_n 0), 1, 0, 0) := by decide +kernel
theorem gx131_46 : aF 46 zM131.2.2.2.2.2.2.2 = some (46, (.iload_n 1), 1, 0, 0) := by decide +kernel
theorem gx131_47 : aF 47 zM131.2.2.2.2.2.2.2 = some (47, (.invokevirtual 101), 3, 132, 0) := by decide +kernel
theorem gx131_50 : aF 50 zM131.2.2.2.2.2.2.2 = some (50, .isub, 1, 0, 0) := by decide +kernel
theorem gx131_51 : aF 51 zM131.2.2.2.2.2.2.2 = some (51, (.istore_n 2), 1, 0, 0) := by decide +kernel
theorem gx131_52 : aF 52 zM131.2.2.2.2.2.2.2 = some (52, (.goto 5), 3, 57, 0) := by decide +kernel
theorem gx131_57 : aF 57 zM131.2.2.2.2.2.2.2 = some (57, (.iinc 3 1), 3, 0, 0) := by decide +kernel
theorem gx131_60 : aF 60 zM131.2.2.2.2.2.2.2 = some (60, (.goto (-52)), 3, 8, 0) := by decide +kernel
theorem gx131_24 : aF 24 zM131.2.2.2.2.2.2.2 = some (24, (.iload_n 2), 1, 0, 0) := by decide +kernel
theorem gx131_25 : aF 25 zM131.2.2.2.2.2.2.2 = some (25, (.aload_n 0), 1, 0, 0) := by decide +kernel
theorem gx131_26 : aF 26 zM131.2.2.2.2.2.2.2 = some (26, (.iload_n 1), 1, 0, 0) := by decide +kernel
theorem gx131_27 : aF 27 zM131.2.2.2.2.2.2.2 = some (27, (.invokevirtual 101), 3, 132, 0) := by decide +kernel
theorem gx131_30 : aF 30 zM131.2.2.2.2.2.2.2 = some (30, .iadd, 1, 0, 0) := by decide +kernel
theorem gx131_31 : aF 31 zM131.2.2.2.2.2.2.2 = some (31, (.istore_n 2), 1, 0, 0) := by decide +kernel
theorem gx131_32 : aF 32 zM131.2.2.2.2.2.2.2 = some (32, (.goto 25), 3, 57, 0) := by decide +kernel
theorem gx129_0 : aF 0 zM129.2.2.2.2.2.2.2 = some (0, (.aload_n 0), 1, 0, 0) := by decide +kernel
theorem gx129_1 : aF 1 zM129.2.2.2.2.2.2.2 = some (1, (.iload_n 1), 1, 0, 0) := by decide +kernel
theorem gx129_2 : aF 2 zM129.2.2.2.2.2.2.2 = some (2, (.invokevirtual 95), 3, 130, 0) := by decide +kernel
theorem gx129_5 : aF 5 zM129.2.2.2.2.2.2.2 = some (5, (.istore_n 2), 1, 0, 0) := by decide +kernel
theorem gx129_6 : aF 6 zM129.2.2.2.2.2.2.2 = some (6, (.iconst 0), 1, 0, 0) := by decide +kernel
theorem gx129_7 : aF 7 zM129.2.2.2.2.2.2.2 = some (7, (.istore_n 3), 1, 0, 0) := by decide +kernel
theorem gx129_8 : aF 8 zM129.2.2.2.2.2.2.2 = some (8, (.iload_n 3), 1, 0, 0) := by decide +kernel
theorem gx129_9 : aF 9 zM129.2.2.2.2.2.2.2 = some (9, (.sipush 160), 3, 0, 0) := by decide +kernel
theorem gx129_12 : aF 12 zM129.2.2.2.2.2.2.2 = some (12, (.if_icmp .ge 43), 3, 55, 0) := by decide +kernel
theorem gx129_55 : aF 55 zM129.2.2.2.2.2.2.2 = some (55, (.iload_n 2), 1, 0, 0) := by decide +kernel
theorem gx129_56 : aF 56 zM129.2.2.2.2.2.2.2 = some (56, .ireturn, 1, 0, 0) := by decide +kernel
theorem gx129_15 : aF 15 zM129.2.2.2.2.2.2.2 = some (15, (.aload_n 0), 1, 0, 0) := by decide +kernel
theorem gx129_16 : aF 16 zM129.2.2.2.2.2.2.2 = some (16, (.bipush 38), 2, 0, 0) := by decide +kernel
theorem gx129_18 : aF 18 zM129.2.2.2.2.2.2.2 = some (18, (.invokevirtual 65), 3, 125, 0) := by decide +kernel
theorem gx129_21 : aF 21 zM129.2.2.2.2.2.2.2 = some (21, (.ifCond .eq 34), 3, 55, 0) := by decide +kernel
theorem gx129_24 : aF 24 zM129.2.2.2.2.2.2.2 = some (24, (.aload_n 0), 1, 0, 0) := by decide +kernel
theorem gx129_25 : aF 25 zM129.2.2.2.2.2.2.2 = some (25, (.iload_n 1), 1, 0, 0) := by decide +kernel
theorem gx129_26 : aF 26 zM129.2.2.2.2.2.2.2 = some (26, (.invokevirtual 95), 3, 130, 0) := by decide +kernel
theorem gx129_29 : aF 29 zM129.2.2.2.2.2.2.2 = some (29, (.istore 4), 2, 0, 0) := by decide +kernel
theorem gx129_31 : aF 31 zM129.2.2.2.2.2.2.2 = some (31, (.iload_n 2), 1, 0, 0) := by decide +kernel
theorem gx129_32 : aF 32 zM129.2.2.2.2.2.2.2 = some (32, (.ifCond .eq 12), 3, 44, 0) := by decide +kernel
theorem gx129_44 : aF 44 zM129.2.2.2.2.2.2.2 = some (44, (.iconst 0), 1, 0, 0) := by decide +kernel
theorem gx129_45 : aF 45 zM129.2.2.2.2.2.2.2 = some (45, (.invokestatic 91), 3, 127, 0) := by decide +kernel
theorem gx129_48 : aF 48 zM129.2.2.2.2.2.2.2 = some (48, (.istore_n 2), 1, 0, 0) := by decide +kernel
theorem gx129_49 : aF 49 zM129.2.2.2.2.2.2.2 = some (49, (.iinc 3 1), 3, 0, 0) := by decide +kernel
theorem gx129_52 : aF 52 zM129.2.2.2.2.2.2.2 = some (52, (.goto (-44)), 3, 8, 0) := by decide +kernel
theorem gx129_35 : aF 35 zM129.2.2.2.2.2.2.2 = some (35, (.iload 4), 2, 0, 0) := by decide +kernel
theorem gx129_37 : aF 37 zM129.2.2.2.2.2.2.2 = some (37, (.ifCond .eq 7), 3, 44, 0) := by decide +kernel
theorem gx129_40 : aF 40 zM129.2.2.2.2.2.2.2 = some (40, (.iconst 1), 1, 0, 0) := by decide +kernel
theorem gx129_41 : aF 41 zM129.2.2.2.2.2.2.2 = some (41, (.goto 4), 3, 45, 0) := by decide +kernel
theorem gx128_0 : aF 0 zM128.2.2.2.2.2.2.2 = some (0, (.aload_n 0), 1, 0, 0) := by decide +kernel
theorem gx128_1 : aF 1 zM128.2.2.2.2.2.2.2 = some (1, (.iload_n 1), 1, 0, 0) := by decide +kernel
theorem gx128_2 : aF 2 zM128.2.2.2.2.2.2.2 = some (2, (.invokevirtual 88), 3, 129, 0) := by decide +kernel
theorem gx128_5 : aF 5 zM128.2.2.2.2.2.2.2 = some (5, (.istore_n 2), 1, 0, 0) := by decide +kernel
theorem gx128_6 : aF 6 zM128.2.2.2.2.2.2.2 = some (6, (.iconst 0), 1, 0, 0) := by decide +kernel
theorem gx128_7 : aF 7 zM128.2.2.2.2.2.2.2 = some (7, (.istore_n 3), 1, 0, 0) := by decide +kernel
theorem gx128_8 : aF 8 zM128.2.2.2.2.2.2.2 = some (8, (.iload_n 3), 1, 0, 0) := by decide +kernel
theorem gx128_9 : aF 9 zM128.2.2.2.2.2.2.2 = some (9, (.sipush 160), 3, 0, 0) := by decide +kernel
theorem gx128_12 : aF 12 zM128.2.2.2.2.2.2.2 = some (12, (.if_icmp .ge 43), 3, 55, 0) := by decide +kernel
theorem gx128_55 : aF 55 zM128.2.2.2.2.2.2.2 = some (55, (.iload_n 2), 1, 0, 0) := by decide +kernel
theorem gx128_56 : aF 56 zM128.2.2.2.2.2.2.2 = some (56, .ireturn, 1, 0, 0) := by decide +kernel
theorem gx128_15 : aF 15 zM128.2.2.2.2.2.2.2 = some (15, (.aload_n 0), 1, 0, 0) := by decide +kernel
theorem gx128_16 : aF 16 zM128.2.2.2.2.2.2.2 = some (16, (.bipush 124), 2, 0, 0) := by decide +kernel
theorem gx128_18 : aF 18 zM128.2.2.2.2.2.2.2 = some (18, (.invokevirtual 65), 3, 125, 0) := by decide +kernel
theorem gx128_21 : aF 21 zM128.2.2.2.2.2.2.2 = some (21, (.ifCond .eq 34), 3, 55, 0) := by decide +kernel
theorem gx128_24 : aF 24 zM128.2.2.2.2.2.2.2 = some (24, (.aload_n 0), 1, 0, 0) := by decide +kernel
theorem gx128_25 : aF 25 zM128.2.2.2.2.2.2.2 = some (25, (.iload_n 1), 1, 0, 0) := by decide +kernel
theorem gx128_26 : aF 26 zM128.2.2.2.2.2.2.2 = some (26, (.invokevirtual 88), 3, 129, 0) := by decide +kernel
theorem gx128_29 : aF 29 zM128.2.2.2.2.2.2.2 = some (29, (.istore 4), 2, 0, 0) := by decide +kernel
theorem gx128_31 : aF 31 zM128.2.2.2.2.2.2.2 = some (31, (.iload_n 2), 1, 0, 0) := by decide +kernel
theorem gx128_32 : aF 32 zM128.2.2.2.2.2.2.2 = some (32, (.ifCond .ne 8), 3, 40, 0) := by decide +kernel
theorem gx128_40 : aF 40 zM128.2.2.2.2.2.2.2 = some (40, (.iconst 1), 1, 0, 0) := by decide +kernel
theorem gx128_41 : aF 41 zM128.2.2.2.2.2.2.2 = some (41, (.goto 4), 3, 45, 0) := by decide +kernel
theorem gx128_45 : aF 45 zM128.2.2.2.2.2.2.2 = some (45, (.invokestatic 91), 3, 127, 0) := by decide +kernel
theorem gx128_48 : aF 48 zM128.2.2.2.2.2.2.2 = some (48, (.istore_n 2), 1, 0, 0) := by decide +kernel
theorem gx128_49 : aF 49 zM128.2.2.2.2.2.2.2 = some (49, (.iinc 3 1), 3, 0, 0) := by decide +kernel
theorem gx128_52 : aF 52 zM128.2.2.2.2.2.2.2 = some (52, (.goto (-44)), 3, 8, 0) := by decide +kernel
theorem gx128_35 : aF 35 zM128.2.2.2.2.2.2.2 = some (35, (.iload 4), 2, 0, 0) := by decide +kernel
theorem gx128_37 : aF 37 zM128.2.2.2.2.2.2.2 = some (37, (.ifCond .eq 7), 3, 44, 0) := by decide +kernel
theorem gx128_44 : aF 44 zM128.2.2.2.2.2.2.2 = some (44, (.iconst 0), 1, 0, 0) := by decide +kernel
theorem gx130_0 : aF 0 zM130.2.2.2.2.2.2.2 = some (0, (.aload_n 0), 1, 0, 0) := by decide +kernel
theorem gx130_1 : aF 1 zM130.2.2.2.2.2.2.2 = some (1, (.iload_n 1), 1, 0, 0) := by decide +kernel
theorem gx130_2 : aF 2 zM130.2.2.2.2.2.2.2 = some (2, (.invokevirtual 98), 3, 131, 0) := by decide +kernel
theorem gx130_5 : aF 5 zM130.2.2.2.2.2.2.2 = some (5, (.istore_n 2), 1, 0, 0) := by decide +kernel
theorem gx130_6 : aF 6 zM130.2.2.2.2.2.2.2 = some (6, (.aload_n 0), 1, 0, 0) := by decide +kernel
theorem gx130_7 : aF 7 zM130.2.2.2.2.2.2.2 = some (7, (.bipush 60), 2, 0, 0) := by decide +kernel
theorem gx130_9 : aF 9 zM130.2.2.2.2.2.2.2 = some (9, (.invokevirtual 65), 3, 125, 0) := by decide +kernel
theorem gx130_12 : aF 12 zM130.2.2.2.2.2.2.2 = some (12, (.ifCond .eq 21), 3, 33, 0) := by decide +kernel
theorem gx130_33 : aF 33 zM130.2.2.2.2.2.2.2 = some (33, (.aload_n 0), 1, 0, 0) := by decide +kernel
theorem gx130_34 : aF 34 zM130.2.2.2.2.2.2.2 = some (34, (.bipush 61), 2, 0, 0) := by decide +kernel
theorem gx130_36 : aF 36 zM130.2.2.2.2.2.2.2 = some (36, (.invokevirtual 65), 3, 125, 0) := by decide +kernel
theorem gx130_39 : aF 39 zM130.2.2.2.2.2.2.2 = some (39, (.ifCond .eq 21), 3, 60, 0) := by decide +kernel
theorem gx130_60 : aF 60 zM130.2.2.2.2.2.2.2 = some (60, (.aload_n 0), 1, 0, 0) := by decide +kernel
theorem gx130_61 : aF 61 zM130.2.2.2.2.2.2.2 = some (61, (.bipush 62), 2, 0, 0) := by decide +kernel
theorem gx130_63 : aF 63 zM130.2.2.2.2.2.2.2 = some (63, (.invokevirtual 65), 3, 125, 0) := by decide +kernel
theorem gx130_66 : aF 66 zM130.2.2.2.2.2.2.2 = some (66, (.ifCond .eq 21), 3, 87, 0) := by decide +kernel
theorem gx130_87 : aF 87 zM130.2.2.2.2.2.2.2 = some (87, (.iload_n 2), 1, 0, 0) := by decide +kernel
theorem gx130_88 : aF 88 zM130.2.2.2.2.2.2.2 = some (88, .ireturn, 1, 0, 0) := by decide +kernel
theorem gx130_69 : aF 69 zM130.2.2.2.2.2.2.2 = some (69, (.iload_n 2), 1, 0, 0) := by decide +kernel
theorem gx130_70 : aF 70 zM130.2.2.2.2.2.2.2 = some (70, (.aload_n 0), 1, 0, 0) := by decide +kernel
theorem gx130_71 : aF 71 zM130.2.2.2.2.2.2.2 = some (71, (.iload_n 1), 1, 0, 0) := by decide +kernel
theorem gx130_72 : aF 72 zM130.2.2.2.2.2.2.2 = some (72, (.invokevirtual 98), 3, 131, 0) := by decide +kernel
theorem gx130_75 : aF 75 zM130.2.2.2.2.2.2.2 = some (75, (.if_icmp .le 7), 3, 82, 0) := by decide +kernel
theorem gx130_82 : aF 82 zM130.2.2.2.2.2.2.2 = some (82, (.iconst 0), 1, 0, 0) := by decide +kernel
theorem gx130_83 : aF 83 zM130.2.2.2.2.2.2.2 = some (83, (.invokestatic 91), 3, 127, 0) := by decide +kernel
theorem gx130_86 : aF 86 zM130.2.2.2.2.2.2.2 = some (86, .ireturn, 1, 0, 0) := by decide +kernel
theorem gx130_78 : aF 78 zM130.2.2.2.2.2.2.2 = some (78, (.iconst 1), 1, 0, 0) := by decide +kernel
theorem gx130_79 : aF 79 zM130.2.2.2.2.2.2.2 = some (79, (.goto 4), 3, 83, 0) := by decide +kernel
theorem gx130_42 : aF 42 zM130.2.2.2.2.2.2.2 = some (42, (.iload_n 2), 1, 0, 0) := by decide +kernel
theorem gx130_43 : aF 43 zM130.2.2.2.2.2.2.2 = some (43, (.aload_n 0), 1, 0, 0) := by decide +kernel
theorem gx130_44 : aF 44 zM130.2.2.2.2.2.2.2 = some (44, (.iload_n 1), 1, 0, 0) := by decide +kernel
theorem gx130_45 : aF 45 zM130.2.2.2.2.2.2.2 = some (45, (.invokevirtual 98), 3, 131, 0) := by decide +kernel
theorem gx130_48 : aF 48 zM130.2.2.2.2.2.2.2 = some (48, (.if_icmp .ne 7), 3, 55, 0) := by decide +kernel
theorem gx130_55 : aF 55 zM130.2.2.2.2.2.2.2 = some (55, (.iconst 0), 1, 0, 0) := by decide +kernel
theorem gx130_56 : aF 56 zM130.2.2.2.2.2.2.2 = some (56, (.invokestatic 91), 3, 127, 0) := by decide +kernel
theorem gx130_59 : aF 59 zM130.2.2.2.2.2.2.2 = some (59, .ireturn, 1, 0, 0) := by decide +kernel
theorem gx130_51 : aF 51 zM130.2.2.2.2.2.2.2 = some (51, (.iconst 1), 1, 0, 0) := by decide +kernel
theorem gx130_52 : aF 52 zM130.2.2.2.2.2.2.2 = some (52, (.goto 4), 3, 56, 0) := by decide +kernel
theorem gx130_15 : aF 15 zM130.2.2.2.2.2.2.2 = some (15, (.iload_n 2), 1, 0, 0) := by decide +kernel
theorem gx130_16 : aF 16 zM130.2.2.2.2.2.2.2 = some (16, (.aload_n 0), 1, 0, 0) := by decide +kernel
theorem gx130_17 : aF 17 zM130.2.2.2.2.2.2.2 = some (17, (.iload_n 1), 1, 0, 0) := by decide +kernel
theorem gx130_18 : aF 18 zM130.2.2.2.2.2.2.2 = some (18, (.invokevirtual 98), 3, 131, 0) := by decide +kernel
theorem gx130_21 : aF 21 zM130.2.2.2.2.2.2.2 = some (21, (.if_icmp .ge 7), 3, 28, 0) := by decide +kernel
theorem gx130_28 : aF 28 zM130.2.2.2.2.2.2.2 = some (28, (.iconst 0), 1, 0, 0) := by decide +kernel
theorem gx130_29 : aF 29 zM130.2.2.2.2.2.2.2 = some (29, (.invokestatic 91), 3, 127, 0) := by decide +kernel
theorem gx130_32 : aF 32 zM130.2.2.2.2.2.2.2 = some (32, .ireturn, 1, 0, 0) := by decide +kernel
theorem gx130_24 : aF 24 zM130.2.2.2.2.2.2.2 = some (24, (.iconst 1), 1, 0, 0) := by decide +kernel
theorem gx130_25 : aF 25 zM130.2.2.2.2.2.2.2 = some (25, (.goto 4), 3, 29, 0) := by decide +kernel
theorem gx133_0 : aF 0 zM133.2.2.2.2.2.2.2 = some (0, (.aload_n 0), 1, 0, 0) := by decide +kernel
theorem gx133_1 : aF 1 zM133.2.2.2.2.2.2.2 = some (1, (.invokevirtual 84), 3, 124, 0) := by decide +kernel
theorem gx133_4 : aF 4 zM133.2.2.2.2.2.2.2 = some (4, (.istore_n 2), 1, 0, 0) := by decide +kernel
theorem gx133_5 : aF 5 zM133.2.2.2.2.2.2.2 = some (5, (.iload_n 2), 1, 0, 0) := by decide +kernel
theorem gx133_6 : aF 6 zM133.2.2.2.2.2.2.2 = some (6, (.invokestatic 107), 3, 134, 0) := by decide +kernel
theorem gx133_9 : aF 9 zM133.2.2.2.2.2.2.2 = some (9, (.ifCond .eq 8), 3, 17, 0) := by decide +kernel
theorem gx133_17 : aF 17 zM133.2.2.2.2.2.2.2 = some (17, (.iload_n 2), 1, 0, 0) := by decide +kernel
theorem gx133_18 : aF 18 zM133.2.2.2.2.2.2.2 = some (18, (.iconst (-1)), 1, 0, 0) := by decide +kernel
theorem gx133_19 : aF 19 zM133.2.2.2.2.2.2.2 = some (19, (.if_icmp .ne 7), 3, 26, 0) := by decide +kernel
theorem gx133_26 : aF 26 zM133.2.2.2.2.2.2.2 = some (26, (.ldc 114), 2, 4294967296, 0) := by decide +kernel
theorem gx133_28 : aF 28 zM133.2.2.2.2.2.2.2 = some (28, (.iload_n 2), 1, 0, 0) := by decide +kernel
theorem gx133_29 : aF 29 zM133.2.2.2.2.2.2.2 = some (29, .i2c, 1, 0, 0) := by decide +kernel
theorem gx133_30 : aF 30 zM133.2.2.2.2.2.2.2 = some (30, (.invokevirtual 116), 3, 1001, 0) := by decide +kernel
theorem gx133_33 : aF 33 zM133.2.2.2.2.2.2.2 = some (33, (.istore_n 3), 1, 0, 0) := by decide +kernel
theorem gx133_34 : aF 34 zM133.2.2.2.2.2.2.2 = some (34, (.iload_n 3), 1, 0, 0) := by decide +kernel
theorem gx133_35 : aF 35 zM133.2.2.2.2.2.2.2 = some (35, (.iconst (-1)), 1, 0, 0) := by decide +kernel
theorem gx133_36 : aF 36 zM133.2.2.2.2.2.2.2 = some (36, (.if_icmp .eq 20), 3, 56, 0) := by decide +kernel
theorem gx133_56 : aF 56 zM133.2.2.2.2.2.2.2 = some (56, (.iload_n 1), 1, 0, 0) := by decide +kernel
theorem gx133_57 : aF 57 zM133.2.2.2.2.2.2.2 = some (57, (.bipush 8), 2, 0, 0) := by decide +kernel
theorem gx133_59 : aF 59 zM133.2.2.2.2.2.2.2 = some (59, (.if_icmp .lt 9), 3, 68, 0) := by decide +kernel
theorem gx133_68 : aF 68 zM133.2.2.2.2.2.2.2 = some (68, (.aload_n 0), 1, 0, 0) := by decide +kernel
theorem gx133_69 : aF 69 zM133.2.2.2.2.2.2.2 = some (69, (.bipush 33), 2, 0, 0) := by decide +kernel
theorem gx133_71 : aF 71 zM133.2.2.2.2.2.2.2 = some (71, (.invokevirtual 65), 3, 125, 0) := by decide +kernel
theorem gx133_74 : aF 74 zM133.2.2.2.2.2.2.2 = some (74, (.ifCond .eq 22), 3, 96, 0) := by decide +kernel
theorem gx133_96 : aF 96 zM133.2.2.2.2.2.2.2 = some (96, (.aload_n 0), 1, 0, 0) := by decide +kernel
theorem gx133_97 : aF 97 zM133.2.2.2.2.2.2.2 = some (97, (.bipush 45), 2, 0, 0) := by decide +kernel
theorem gx133_99 : aF 99 zM133.2.2.2.2.2.2.2 = some (99, (.invokevirtual 65), 3, 125, 0) := by decide +kernel
theorem gx133_102 : aF 102 zM133.2.2.2.2.2.2.2 = some (102, (.ifCond .eq 12), 3, 114, 0) := by decide +kernel
theorem gx133_114 : aF 114 zM133.2.2.2.2.2.2.2 = some (114, (.aload_n 0), 1, 0, 0) := by decide +kernel
theorem gx133_115 : aF 115 zM133.2.2.2.2.2.2.2 = some (115, (.bipush 40), 2, 0, 0) := by decide +kernel
theorem gx133_117 : aF 117 zM133.2.2.2.2.2.2.2 = some (117, (.invokevirtual 65), 3, 125, 0) := by decide +kernel
theorem gx133_120 : aF 120 zM133.2.2.2.2.2.2.2 = some (120, (.ifCond .ne 9), 3, 129, 0) := by decide +kernel
theorem gx133_129 : aF 129 zM133.2.2.2.2.2.2.2 = some (129, (.aload_n 0), 1, 0, 0) := by decide +kernel
theorem gx133_130 : aF 130 zM133.2.2.2.2.2.2.2 = some (130, (.iload_n 1), 1, 0, 0) := by decide +kernel
theorem gx133_131 : aF 131 zM133.2.2.2.2.2.2.2 = some (131, (.iconst 1), 1, 0, 0) := by decide +kernel
theorem gx133_132 : aF 132 zM133.2.2.2.2.2.2.2 = some (132, .iadd, 1, 0, 0) := by decide +kernel
theorem gx133_133 : aF 133 zM133.2.2.2.2.2.2.2 = some (133, (.invokevirtual 62), 3, 128, 0) := by decide +kernel
theorem gx133_136 : aF 136 zM133.2.2.2.2.2.2.2 = some (136, (.istore 4), 2, 0, 0) := by decide +kernel
theorem gx133_138 : aF 138 zM133.2.2.2.2.2.2.2 = some (138, (.aload_n 0), 1, 0, 0) := by decide +kernel
theorem gx133_139 : aF 139 zM133.2.2.2.2.2.2.2 = some (139, (.bipush 41), 2, 0, 0) := by decide +kernel
theorem gx133_141 : aF 141 zM133.2.2.2.2.2.2.2 = some (141, (.invokevirtual 65), 3, 125, 0) := by decide +kernel
theorem gx133_144 : aF 144 zM133.2.2.2.2.2.2.2 = some (144, (.ifCond .ne 7), 3, 151, 0) := by decide +kernel
theorem gx133_151 : aF 151 zM133.2.2.2.2.2.2.2 = some (151, (.iload 4), 2, 0, 0) := by decide +kernel
theorem gx133_153 : aF 153 zM133.2.2.2.2.2.2.2 = some (153, .ireturn, 1, 0, 0) := by decide +kernel
theorem gx133_147 : aF 147 zM133.2.2.2.2.2.2.2 = some (147, (.aload_n 0), 1, 0, 0) := by decide +kernel
theorem gx133_148 : aF 148 zM133.2.2.2.2.2.2.2 = some (148, (.invokevirtual 121), 3, 126, 0) := by decide +kernel
theorem gx133_123 : aF 123 zM133.2.2.2.2.2.2.2 = some (123, (.aload_n 0), 1, 0, 0) := by decide +kernel
theorem gx133_124 : aF 124 zM133.2.2.2.2.2.2.2 = some (124, (.invokevirtual 121), 3, 126, 0) := by decide +kernel
theorem gx133_127 : aF 127 zM133.2.2.2.2.2.2.2 = some (127, (.iconst 0), 1, 0, 0) := by decide +kernel
theorem gx133_128 : aF 128 zM133.2.2.2.2.2.2.2 = some (128, .ireturn, 1, 0, 0) := by decide +kernel
theorem gx133_105 : aF 105 zM133.2.2.2.2.2.2.2 = some (105, (.aload_n 0), 1, 0, 0) := by decide +kernel
theorem gx133_106 : aF 106 zM133.2.2.2.2.2.2.2 = some (106, (.iload_n 1), 1, 0, 0) := by decide +kernel
theorem gx133_107 : aF 107 zM133.2.2.2.2.2.2.2 = some (107, (.iconst 1), 1, 0, 0) := by decide +kernel
theorem gx133_108 : aF 108 zM133.2.2.2.2.2.2.2 = some (108, .iadd, 1, 0, 0) := by decide +kernel
theorem gx133_109 : aF 109 zM133.2.2.2.2.2.2.2 = some (109, (.invokevirtual 104), 3, 133, 0) := by decide +kernel
theorem gx133_112 : aF 112 zM133.2.2.2.2.2.2.2 = some (112, .ineg, 1, 0, 0) := by decide +kernel
theorem gx133_113 : aF 113 zM133.2.2.2.2.2.2.2 = some (113, .ireturn, 1, 0, 0) := by decide +kernel
theorem gx133_77 : aF 77 zM133.2.2.2.2.2.2.2 = some (77, (.aload_n 0), 1, 0, 0) := by decide +kernel
theorem gx133_78 : aF 78 zM133.2.2.2.2.2.2.2 = some (78, (.iload_n 1), 1, 0, 0) := by decide +kernel
theorem gx133_79 : aF 79 zM133.2.2.2.2.2.2.2 = some (79, (.iconst 1), 1, 0, 0) := by decide +kernel
theorem gx133_80 : aF 80 zM133.2.2.2.2.2.2.2 = some (80, .iadd, 1, 0, 0) := by decide +kernel
theorem gx133_81 : aF 81 zM133.2.2.2.2.2.2.2 = some (81, (.invokevirtual 104), 3, 133, 0) := by decide +kernel
theorem gx133_84 : aF 84 zM133.2.2.2.2.2.2.2 = some (84, (.ifCond .ne 7), 3, 91, 0) := by decide +kernel
theorem gx133_91 : aF 91 zM133.2.2.2.2.2.2.2 = some (91, (.iconst 0), 1, 0, 0) := by decide +kernel
theorem gx133_92 : aF 92 zM133.2.2.2.2.2.2.2 = some (92, (.invokestatic 91), 3, 127, 0) := by decide +kernel
theorem gx133_95 : aF 95 zM133.2.2.2.2.2.2.2 = some (95, .ireturn, 1, 0, 0) := by decide +kernel
theorem gx133_87 : aF 87 zM133.2.2.2.2.2.2.2 = some (87, (.iconst 1), 1, 0, 0) := by decide +kernel
theorem gx133_88 : aF 88 zM133.2.2.2.2.2.2.2 = some (88, (.goto 4), 3, 92, 0) := by decide +kernel
theorem gx133_62 : aF 62 zM133.2.2.2.2.2.2.2 = some (62, (.aload_n 0), 1, 0, 0) := by decide +kernel
theorem gx133_63 : aF 63 zM133.2.2.2.2.2.2.2 = some (63, (.invokevirtual 121), 3, 126, 0) := by decide +kernel
theorem gx133_66 : aF 66 zM133.2.2.2.2.2.2.2 = some (66, (.iconst 0), 1, 0, 0) := by decide +kernel
theorem gx133_67 : aF 67 zM133.2.2.2.2.2.2.2 = some (67, .ireturn, 1, 0, 0) := by decide +kernel
theorem gx133_39 : aF 39 zM133.2.2.2.2.2.2.2 = some (39, (.aload_n 0), 1, 0, 0) := by decide +kernel
theorem gx133_40 : aF 40 zM133.2.2.2.2.2.2.2 = some (40, .dup, 1, 0, 0) := by decide +kernel
theorem gx133_41 : aF 41 zM133.2.2.2.2.2.2.2 = some (41, (.getfield 75), 3, 10, 11) := by decide +kernel
theorem gx133_44 : aF 44 zM133.2.2.2.2.2.2.2 = some (44, (.iconst 1), 1, 0, 0) := by decide +kernel
theorem gx133_45 : aF 45 zM133.2.2.2.2.2.2.2 = some (45, .iadd, 1, 0, 0) := by decide +kernel
theorem gx133_46 : aF 46 zM133.2.2.2.2.2.2.2 = some (46, (.putfield 75), 3, 10, 11) := by decide +kernel
theorem gx133_49 : aF 49 zM133.2.2.2.2.2.2.2 = some (49, (.aload_n 0), 1, 0, 0) := by decide +kernel
theorem gx133_50 : aF 50 zM133.2.2.2.2.2.2.2 = some (50, (.getfield 34), 3, 10, 13) := by decide +kernel
theorem gx133_53 : aF 53 zM133.2.2.2.2.2.2.2 = some (53, (.iload_n 3), 1, 0, 0) := by decide +kernel
theorem gx133_54 : aF 54 zM133.2.2.2.2.2.2.2 = some (54, .iaload, 1, 0, 0) := by decide +kernel
theorem gx133_55 : aF 55 zM133.2.2.2.2.2.2.2 = some (55, .ireturn, 1, 0, 0) := by decide +kernel
theorem gx133_22 : aF 22 zM133.2.2.2.2.2.2.2 = some (22, (.iconst (-1)), 1, 0, 0) := by decide +kernel
theorem gx133_23 : aF 23 zM133.2.2.2.2.2.2.2 = some (23, (.goto 10), 3, 33, 0) := by decide +kernel
theorem gx133_12 : aF 12 zM133.2.2.2.2.2.2.2 = some (12, (.aload_n 0), 1, 0, 0) := by decide +kernel
theorem gx133_13 : aF 13 zM133.2.2.2.2.2.2.2 = some (13, (.invokevirtual 111), 3, 135, 0) := by decide +kernel
theorem gx133_16 : aF 16 zM133.2.2.2.2.2.2.2 = some (16, .ireturn, 1, 0, 0) := by decide +kernel
end
section
-- ===== the class makes and finds texts =====
theorem tl_36 : tkL 36 0 16 = true := by decide +kernel
theorem tl_37 : tkL 37 0 16 = true := by decide +kernel
theorem tl_38 : tkL 38 0 16 = true := by decide +kernel
theorem tl_39 : tkL 39 0 16 = true := by decide +kernel
theorem tr_33_3 : tkR 33 3 36 = true := by decide +kernel
theorem tr_33_4 : tkR 33 4 37 = true := by decide +kernel
theorem tr_33_5 : tkR 33 5 38 = true := by decide +kernel
theorem tr_33_6 : tkR 33 6 39 = true := by decide +kernel
theorem tr_0_3 : tkR 0 3 33 = true := by decide +kernel
theorem gx123_0 : aF 0 zM123.2.2.2.2.2.2.2 = some (0, (.aload_n 0), 1, 0, 0) := by decide +kernel
theorem gx123_1 : aF 1 zM123.2.2.2.2.2.2.2 = some (1, (.iload_n 1), 1, 0, 0) := by decide +kernel
theorem gx123_2 : aF 2 zM123.2.2.2.2.2.2.2 = some (2, (.sipush 160), 3, 0, 0) := by decide +kernel
theorem gx123_5 : aF 5 zM123.2.2.2.2.2.2.2 = some (5, .imul, 1, 0, 0) := by decide +kernel
theorem gx123_6 : aF 6 zM123.2.2.2.2.2.2.2 = some (6, (.putfield 81), 3, 10, 9) := by decide +kernel
theorem gx123_9 : aF 9 zM123.2.2.2.2.2.2.2 = some (9, (.aload_n 0), 1, 0, 0) := by decide +kernel
theorem gx123_10 : aF 10 zM123.2.2.2.2.2.2.2 = some (10, (.aload_n 0), 1, 0, 0) := by decide +kernel
theorem gx123_11 : aF 11 zM123.2.2.2.2.2.2.2 = some (11, (.getfield 18), 3, 10, 3) := by decide +kernel
theorem gx123_14 : aF 14 zM123.2.2.2.2.2.2.2 = some (14, (.iload_n 1), 1, 0, 0) := by decide +kernel
theorem gx123_15 : aF 15 zM123.2.2.2.2.2.2.2 = some (15, .iaload, 1, 0, 0) := by decide +kernel
theorem gx123_16 : aF 16 zM123.2.2.2.2.2.2.2 = some (16, (.putfield 78), 3, 10, 10) := by decide +kernel
theorem gx123_19 : aF 19 zM123.2.2.2.2.2.2.2 = some (19, (.aload_n 0), 1, 0, 0) := by decide +kernel
theorem gx123_20 : aF 20 zM123.2.2.2.2.2.2.2 = some (20, (.iconst 0), 1, 0, 0) := by decide +kernel
theorem gx123_21 : aF 21 zM123.2.2.2.2.2.2.2 = some (21, (.putfield 75), 3, 10, 11) := by decide +kernel
theorem gx123_24 : aF 24 zM123.2.2.2.2.2.2.2 = some (24, (.aload_n 0), 1, 0, 0) := by decide +kernel
theorem gx123_25 : aF 25 zM123.2.2.2.2.2.2.2 = some (25, (.iconst (-1)), 1, 0, 0) := by decide +kernel
theorem gx123_26 : aF 26 zM123.2.2.2.2.2.2.2 = some (26, (.putfield 72), 3, 10, 12) := by decide +kernel
theorem gx123_29 : aF 29 zM123.2.2.2.2.2.2.2 = some (29, (.aload_n 0), 1, 0, 0) := by decide +kernel
theorem gx123_30 : aF 30 zM123.2.2.2.2.2.2.2 = some (30, (.aload_n 2), 1, 0, 0) := by decide +kernel
theorem gx123_31 : aF 31 zM123.2.2.2.2.2.2.2 = some (31, (.putfield 34), 3, 10, 13) := by decide +kernel
theorem gx123_34 : aF 34 zM123.2.2.2.2.2.2.2 = some (34, (.aload_n 0), 1, 0, 0) := by decide +kernel
theorem gx123_35 : aF 35 zM123.2.2.2.2.2.2.2 = some (35, (.iconst (-1)), 1, 0, 0) := by decide +kernel
theorem gx123_36 : aF 36 zM123.2.2.2.2.2.2.2 = some (36, (.putfield 69), 3, 10, 14) := by decide +kernel
theorem gx123_39 : aF 39 zM123.2.2.2.2.2.2.2 = some (39, .return_, 1, 0, 0) := by decide +kernel
theorem gx120_0 : aF 0 zM120.2.2.2.2.2.2.2 = some (0, (.aload_n 0), 1, 0, 0) := by decide +kernel
theorem gx120_1 : aF 1 zM120.2.2.2.2.2.2.2 = some (1, (.getfield 41), 3, 10, 7) := by decide +kernel
theorem gx120_4 : aF 4 zM120.2.2.2.2.2.2.2 = some (4, (.iconst 1), 1, 0, 0) := by decide +kernel
theorem gx120_5 : aF 5 zM120.2.2.2.2.2.2.2 = some (5, .isub, 1, 0, 0) := by decide +kernel
theorem gx120_6 : aF 6 zM120.2.2.2.2.2.2.2 = some (6, (.istore 4), 2, 0, 0) := by decide +kernel
theorem gx120_8 : aF 8 zM120.2.2.2.2.2.2.2 = some (8, (.iload 4), 2, 0, 0) := by decide +kernel
theorem gx120_10 : aF 10 zM120.2.2.2.2.2.2.2 = some (10, (.ifCond .lt 45), 3, 55, 0) := by decide +kernel
theorem gx120_55 : aF 55 zM120.2.2.2.2.2.2.2 = some (55, (.iconst (-1)), 1, 0, 0) := by decide +kernel
theorem gx120_56 : aF 56 zM120.2.2.2.2.2.2.2 = some (56, .ireturn, 1, 0, 0) := by decide +kernel
theorem gx120_13 : aF 13 zM120.2.2.2.2.2.2.2 = some (13, (.aload_n 0), 1, 0, 0) := by decide +kernel
theorem gx120_14 : aF 14 zM120.2.2.2.2.2.2.2 = some (14, (.getfield 22), 3, 10, 4) := by decide +kernel
theorem gx120_17 : aF 17 zM120.2.2.2.2.2.2.2 = some (17, (.iload 4), 2, 0, 0) := by decide +kernel
theorem gx120_19 : aF 19 zM120.2.2.2.2.2.2.2 = some (19, .iaload, 1, 0, 0) := by decide +kernel
theorem gx120_20 : aF 20 zM120.2.2.2.2.2.2.2 = some (20, (.iload_n 1), 1, 0, 0) := by decide +kernel
theorem gx120_21 : aF 21 zM120.2.2.2.2.2.2.2 = some (21, (.if_icmp .ne 28), 3, 49, 0) := by decide +kernel
theorem gx120_49 : aF 49 zM120.2.2.2.2.2.2.2 = some (49, (.iinc 4 (-1)), 3, 0, 0) := by decide +kernel
theorem gx120_52 : aF 52 zM120.2.2.2.2.2.2.2 = some (52, (.goto (-44)), 3, 8, 0) := by decide +kernel
theorem gx120_24 : aF 24 zM120.2.2.2.2.2.2.2 = some (24, (.aload_n 0), 1, 0, 0) := by decide +kernel
theorem gx120_25 : aF 25 zM120.2.2.2.2.2.2.2 = some (25, (.getfield 25), 3, 10, 5) := by decide +kernel
theorem gx120_28 : aF 28 zM120.2.2.2.2.2.2.2 = some (28, (.iload 4), 2, 0, 0) := by decide +kernel
theorem gx120_30 : aF 30 zM120.2.2.2.2.2.2.2 = some (30, .iaload, 1, 0, 0) := by decide +kernel
theorem gx120_31 : aF 31 zM120.2.2.2.2.2.2.2 = some (31, (.iload_n 2), 1, 0, 0) := by decide +kernel
theorem gx120_32 : aF 32 zM120.2.2.2.2.2.2.2 = some (32, (.if_icmp .gt 17), 3, 49, 0) := by decide +kernel
theorem gx120_35 : aF 35 zM120.2.2.2.2.2.2.2 = some (35, (.aload_n 0), 1, 0, 0) := by decide +kernel
theorem gx120_36 : aF 36 zM120.2.2.2.2.2.2.2 = some (36, (.getfield 28), 3, 10, 6) := by decide +kernel
theorem gx120_39 : aF 39 zM120.2.2.2.2.2.2.2 = some (39, (.iload 4), 2, 0, 0) := by decide +kernel
theorem gx120_41 : aF 41 zM120.2.2.2.2.2.2.2 = some (41, .iaload, 1, 0, 0) := by decide +kernel
theorem gx120_42 : aF 42 zM120.2.2.2.2.2.2.2 = some (42, (.iload_n 3), 1, 0, 0) := by decide +kernel
theorem gx120_43 : aF 43 zM120.2.2.2.2.2.2.2 = some (43, (.if_icmp .gt 6), 3, 49, 0) := by decide +kernel
theorem gx120_46 : aF 46 zM120.2.2.2.2.2.2.2 = some (46, (.iload 4), 2, 0, 0) := by decide +kernel
theorem gx120_48 : aF 48 zM120.2.2.2.2.2.2.2 = some (48, .ireturn, 1, 0, 0) := by decide +kernel
end
section
-- feeding
def fd (V : vS) (T L : Nat) (f v : Int) : Nat → vS
  | 0 => V
  | k + 1 => up (up (fd V T L f v k) T (V L f + (k : Int)) (w8 (w8 (bShr v (w32 (8 * (k : Int))))))) L f (V L f + (k : Int) + 1)
end
section
theorem tl_122 : tkL 122 0 2890 = true := by decide +kernel
theorem tl_123 : tkL 123 0 2890 = true := by decide +kernel
theorem tr_72_62 : tkR 72 62 122 = true := by decide +kernel
theorem tr_72_63 : tkR 72 63 123 = true := by decide +kernel
end
section
-- ===== the model makes and finds texts =====
theorem tl_119 : tkL 119 0 17 = true := by decide +kernel
theorem tl_120 : tkL 120 0 1530 = true := by decide +kernel
theorem tl_121 : tkL 121 0 1530 = true := by decide +kernel
theorem tl_116 : tkL 116 0 16 = true := by decide +kernel
theorem tl_117 : tkL 117 0 16 = true := by decide +kernel
theorem tl_118 : tkL 118 0 16 = true := by decide +kernel
theorem tr_72_59 : tkR 72 59 119 = true := by decide +kernel
theorem tr_72_60 : tkR 72 60 120 = true := by decide +kernel
theorem tr_72_61 : tkR 72 61 121 = true := by decide +kernel
theorem tr_72_56 : tkR 72 56 116 = true := by decide +kernel
theorem tr_72_57 : tkR 72 57 117 = true := by decide +kernel
theorem tr_72_58 : tkR 72 58 118 = true := by decide +kernel
theorem gx265_0 : aF 0 zM265.2.2.2.2.2.2.2 = some (0, (.aload_n 0), 1, 0, 0) := by decide +kernel
theorem gx265_1 : aF 1 zM265.2.2.2.2.2.2.2 = some (1, (.getfield 445), 3, 12, 55) := by decide +kernel
theorem gx265_4 : aF 4 zM265.2.2.2.2.2.2.2 = some (4, (.iconst 1), 1, 0, 0) := by decide +kernel
theorem gx265_5 : aF 5 zM265.2.2.2.2.2.2.2 = some (5, .isub, 1, 0, 0) := by decide +kernel
theorem gx265_6 : aF 6 zM265.2.2.2.2.2.2.2 = some (6, (.istore 4), 2, 0, 0) := by decide +kernel
theorem gx265_8 : aF 8 zM265.2.2.2.2.2.2.2 = some (8, (.iload 4), 2, 0, 0) := by decide +kernel
theorem gx265_10 : aF 10 zM265.2.2.2.2.2.2.2 = some (10, (.ifCond .lt 45), 3, 55, 0) := by decide +kernel
theorem gx265_55 : aF 55 zM265.2.2.2.2.2.2.2 = some (55, (.bipush (-2)), 2, 0, 0) := by decide +kernel
theorem gx265_57 : aF 57 zM265.2.2.2.2.2.2.2 = some (57, .ireturn, 1, 0, 0) := by decide +kernel
theorem gx265_13 : aF 13 zM265.2.2.2.2.2.2.2 = some (13, (.aload_n 0), 1, 0, 0) := by decide +kernel
theorem gx265_14 : aF 14 zM265.2.2.2.2.2.2.2 = some (14, (.getfield 152), 3, 12, 56) := by decide +kernel
theorem gx265_17 : aF 17 zM265.2.2.2.2.2.2.2 = some (17, (.iload 4), 2, 0, 0) := by decide +kernel
theorem gx265_19 : aF 19 zM265.2.2.2.2.2.2.2 = some (19, .iaload, 1, 0, 0) := by decide +kernel
theorem gx265_20 : aF 20 zM265.2.2.2.2.2.2.2 = some (20, (.iload_n 1), 1, 0, 0) := by decide +kernel
theorem gx265_21 : aF 21 zM265.2.2.2.2.2.2.2 = some (21, (.if_icmp .ne 28), 3, 49, 0) := by decide +kernel
theorem gx265_49 : aF 49 zM265.2.2.2.2.2.2.2 = some (49, (.iinc 4 (-1)), 3, 0, 0) := by decide +kernel
theorem gx265_52 : aF 52 zM265.2.2.2.2.2.2.2 = some (52, (.goto (-44)), 3, 8, 0) := by decide +kernel
theorem gx265_24 : aF 24 zM265.2.2.2.2.2.2.2 = some (24, (.aload_n 0), 1, 0, 0) := by decide +kernel
theorem gx265_25 : aF 25 zM265.2.2.2.2.2.2.2 = some (25, (.getfield 155), 3, 12, 57) := by decide +kernel
theorem gx265_28 : aF 28 zM265.2.2.2.2.2.2.2 = some (28, (.iload 4), 2, 0, 0) := by decide +kernel
theorem gx265_30 : aF 30 zM265.2.2.2.2.2.2.2 = some (30, .iaload, 1, 0, 0) := by decide +kernel
theorem gx265_31 : aF 31 zM265.2.2.2.2.2.2.2 = some (31, (.iload_n 3), 1, 0, 0) := by decide +kernel
theorem gx265_32 : aF 32 zM265.2.2.2.2.2.2.2 = some (32, (.if_icmp .gt 17), 3, 49, 0) := by decide +kernel
theorem gx265_35 : aF 35 zM265.2.2.2.2.2.2.2 = some (35, (.aload_n 0), 1, 0, 0) := by decide +kernel
theorem gx265_36 : aF 36 zM265.2.2.2.2.2.2.2 = some (36, (.getfield 158), 3, 12, 58) := by decide +kernel
theorem gx265_39 : aF 39 zM265.2.2.2.2.2.2.2 = some (39, (.iload 4), 2, 0, 0) := by decide +kernel
theorem gx265_41 : aF 41 zM265.2.2.2.2.2.2.2 = some (41, .iaload, 1, 0, 0) := by decide +kernel
theorem gx265_42 : aF 42 zM265.2.2.2.2.2.2.2 = some (42, (.iload_n 2), 1, 0, 0) := by decide +kernel
theorem gx265_43 : aF 43 zM265.2.2.2.2.2.2.2 = some (43, (.if_icmp .gt 6), 3, 49, 0) := by decide +kernel
theorem gx265_46 : aF 46 zM265.2.2.2.2.2.2.2 = some (46, (.iload 4), 2, 0, 0) := by decide +kernel
theorem gx265_48 : aF 48 zM265.2.2.2.2.2.2.2 = some (48, .ireturn, 1, 0, 0) := by decide +kernel
end

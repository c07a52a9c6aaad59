-- ===== further instructions (by program) =====
theorem f1_0 : aF 0 zM1.2.2.2.2.2.2.2 = some (0, .aload_n 0, 1, 0, 0) := by decide +kernel
theorem f1_1 : aF 1 zM1.2.2.2.2.2.2.2 = some (1, .getfield 33, 3, 0, 0) := by decide +kernel
theorem f1_4 : aF 4 zM1.2.2.2.2.2.2.2 = some (4, .getfield 45, 3, 6, 1) := by decide +kernel
theorem f1_7 : aF 7 zM1.2.2.2.2.2.2.2 = some (7, .aload_n 0, 1, 0, 0) := by decide +kernel
theorem f1_8 : aF 8 zM1.2.2.2.2.2.2.2 = some (8, .getfield 33, 3, 0, 0) := by decide +kernel
theorem f1_11 : aF 11 zM1.2.2.2.2.2.2.2 = some (11, .getfield 51, 3, 6, 5) := by decide +kernel
theorem f1_14 : aF 14 zM1.2.2.2.2.2.2.2 = some (14, .iadd, 1, 0, 0) := by decide +kernel
theorem f1_15 : aF 15 zM1.2.2.2.2.2.2.2 = some (15, .aload_n 0, 1, 0, 0) := by decide +kernel
theorem f1_16 : aF 16 zM1.2.2.2.2.2.2.2 = some (16, .getfield 37, 3, 0, 1) := by decide +kernel
theorem f1_19 : aF 19 zM1.2.2.2.2.2.2.2 = some (19, .getfield 54, 3, 2, 1) := by decide +kernel
theorem f1_22 : aF 22 zM1.2.2.2.2.2.2.2 = some (22, .iadd, 1, 0, 0) := by decide +kernel
theorem f1_23 : aF 23 zM1.2.2.2.2.2.2.2 = some (23, .aload_n 0, 1, 0, 0) := by decide +kernel
theorem f1_24 : aF 24 zM1.2.2.2.2.2.2.2 = some (24, .getfield 37, 3, 0, 1) := by decide +kernel
theorem f1_27 : aF 27 zM1.2.2.2.2.2.2.2 = some (27, .getfield 57, 3, 2, 2) := by decide +kernel
theorem f1_30 : aF 30 zM1.2.2.2.2.2.2.2 = some (30, .iadd, 1, 0, 0) := by decide +kernel
theorem f1_31 : aF 31 zM1.2.2.2.2.2.2.2 = some (31, .aload_n 0, 1, 0, 0) := by decide +kernel
theorem f1_32 : aF 32 zM1.2.2.2.2.2.2.2 = some (32, .getfield 37, 3, 0, 1) := by decide +kernel
theorem f1_35 : aF 35 zM1.2.2.2.2.2.2.2 = some (35, .getfield 60, 3, 2, 3) := by decide +kernel
theorem f1_38 : aF 38 zM1.2.2.2.2.2.2.2 = some (38, .iadd, 1, 0, 0) := by decide +kernel
theorem f1_39 : aF 39 zM1.2.2.2.2.2.2.2 = some (39, .istore_n 3, 1, 0, 0) := by decide +kernel
theorem f1_40 : aF 40 zM1.2.2.2.2.2.2.2 = some (40, .aload_n 0, 1, 0, 0) := by decide +kernel
theorem f1_41 : aF 41 zM1.2.2.2.2.2.2.2 = some (41, .getfield 11, 3, 0, 3) := by decide +kernel
theorem f1_44 : aF 44 zM1.2.2.2.2.2.2.2 = some (44, .iload_n 1, 1, 0, 0) := by decide +kernel
theorem f1_45 : aF 45 zM1.2.2.2.2.2.2.2 = some (45, .aaload, 1, 0, 0) := by decide +kernel
theorem f1_46 : aF 46 zM1.2.2.2.2.2.2.2 = some (46, .astore 4, 2, 0, 0) := by decide +kernel
theorem f1_48 : aF 48 zM1.2.2.2.2.2.2.2 = some (48, .aload 4, 2, 0, 0) := by decide +kernel
theorem f1_50 : aF 50 zM1.2.2.2.2.2.2.2 = some (50, .ifnonnull 29, 3, 79, 0) := by decide +kernel
theorem f1_53 : aF 53 zM1.2.2.2.2.2.2.2 = some (53, .new 9, 3, 8, 0) := by decide +kernel
theorem f1_56 : aF 56 zM1.2.2.2.2.2.2.2 = some (56, .dup, 1, 0, 0) := by decide +kernel
theorem f1_57 : aF 57 zM1.2.2.2.2.2.2.2 = some (57, .aload_n 0, 1, 0, 0) := by decide +kernel
theorem f1_58 : aF 58 zM1.2.2.2.2.2.2.2 = some (58, .getfield 33, 3, 0, 0) := by decide +kernel
theorem f1_61 : aF 61 zM1.2.2.2.2.2.2.2 = some (61, .aload_n 0, 1, 0, 0) := by decide +kernel
theorem f1_62 : aF 62 zM1.2.2.2.2.2.2.2 = some (62, .getfield 37, 3, 0, 1) := by decide +kernel
theorem f1_65 : aF 65 zM1.2.2.2.2.2.2.2 = some (65, .iload_n 1, 1, 0, 0) := by decide +kernel
theorem f1_66 : aF 66 zM1.2.2.2.2.2.2.2 = some (66, .invokespecial 63, 3, 96, 0) := by decide +kernel
theorem f1_69 : aF 69 zM1.2.2.2.2.2.2.2 = some (69, .astore 4, 2, 0, 0) := by decide +kernel
theorem f1_71 : aF 71 zM1.2.2.2.2.2.2.2 = some (71, .aload_n 0, 1, 0, 0) := by decide +kernel
theorem f1_72 : aF 72 zM1.2.2.2.2.2.2.2 = some (72, .getfield 11, 3, 0, 3) := by decide +kernel
theorem f1_75 : aF 75 zM1.2.2.2.2.2.2.2 = some (75, .iload_n 1, 1, 0, 0) := by decide +kernel
theorem f1_76 : aF 76 zM1.2.2.2.2.2.2.2 = some (76, .aload 4, 2, 0, 0) := by decide +kernel
theorem f1_78 : aF 78 zM1.2.2.2.2.2.2.2 = some (78, .aastore, 1, 0, 0) := by decide +kernel
theorem f1_79 : aF 79 zM1.2.2.2.2.2.2.2 = some (79, .aload 4, 2, 0, 0) := by decide +kernel
theorem f1_81 : aF 81 zM1.2.2.2.2.2.2.2 = some (81, .getfield 66, 3, 8, 3) := by decide +kernel
theorem f1_84 : aF 84 zM1.2.2.2.2.2.2.2 = some (84, .iload_n 2, 1, 0, 0) := by decide +kernel
theorem f1_85 : aF 85 zM1.2.2.2.2.2.2.2 = some (85, .if_icmp .ne 12, 3, 97, 0) := by decide +kernel
theorem f1_97 : aF 97 zM1.2.2.2.2.2.2.2 = some (97, .aload 4, 2, 0, 0) := by decide +kernel
theorem f1_99 : aF 99 zM1.2.2.2.2.2.2.2 = some (99, .iload_n 2, 1, 0, 0) := by decide +kernel
theorem f1_100 : aF 100 zM1.2.2.2.2.2.2.2 = some (100, .iload_n 3, 1, 0, 0) := by decide +kernel
theorem f1_101 : aF 101 zM1.2.2.2.2.2.2.2 = some (101, .invokevirtual 72, 3, 97, 0) := by decide +kernel
theorem f1_104 : aF 104 zM1.2.2.2.2.2.2.2 = some (104, .aload 4, 2, 0, 0) := by decide +kernel
theorem f1_106 : aF 106 zM1.2.2.2.2.2.2.2 = some (106, .areturn, 1, 0, 0) := by decide +kernel
theorem f33_0 : aF 0 zM33.2.2.2.2.2.2.2 = some (0, .iconst 0, 1, 0, 0) := by decide +kernel
theorem f33_1 : aF 1 zM33.2.2.2.2.2.2.2 = some (1, .istore 4, 2, 0, 0) := by decide +kernel
theorem f33_3 : aF 3 zM33.2.2.2.2.2.2.2 = some (3, .iconst 0, 1, 0, 0) := by decide +kernel
theorem f33_4 : aF 4 zM33.2.2.2.2.2.2.2 = some (4, .istore 5, 2, 0, 0) := by decide +kernel
theorem f33_6 : aF 6 zM33.2.2.2.2.2.2.2 = some (6, .iload 5, 2, 0, 0) := by decide +kernel
theorem f33_8 : aF 8 zM33.2.2.2.2.2.2.2 = some (8, .aload_n 0, 1, 0, 0) := by decide +kernel
theorem f33_9 : aF 9 zM33.2.2.2.2.2.2.2 = some (9, .getfield 96, 3, 2, 2) := by decide +kernel
theorem f33_12 : aF 12 zM33.2.2.2.2.2.2.2 = some (12, .if_icmp .ge 105, 3, 117, 0) := by decide +kernel
theorem f33_117 : aF 117 zM33.2.2.2.2.2.2.2 = some (117, .iload 4, 2, 0, 0) := by decide +kernel
theorem f33_119 : aF 119 zM33.2.2.2.2.2.2.2 = some (119, .ireturn, 1, 0, 0) := by decide +kernel
theorem f53_0 : aF 0 zM53.2.2.2.2.2.2.2 = some (0, .iconst 0, 1, 0, 0) := by decide +kernel
theorem f53_1 : aF 1 zM53.2.2.2.2.2.2.2 = some (1, .istore_n 2, 1, 0, 0) := by decide +kernel
theorem f53_2 : aF 2 zM53.2.2.2.2.2.2.2 = some (2, .iconst 0, 1, 0, 0) := by decide +kernel
theorem f53_3 : aF 3 zM53.2.2.2.2.2.2.2 = some (3, .istore_n 3, 1, 0, 0) := by decide +kernel
theorem f53_4 : aF 4 zM53.2.2.2.2.2.2.2 = some (4, .iload_n 3, 1, 0, 0) := by decide +kernel
theorem f53_5 : aF 5 zM53.2.2.2.2.2.2.2 = some (5, .aload_n 0, 1, 0, 0) := by decide +kernel
theorem f53_6 : aF 6 zM53.2.2.2.2.2.2.2 = some (6, .getfield 30, 3, 5, 0) := by decide +kernel
theorem f53_9 : aF 9 zM53.2.2.2.2.2.2.2 = some (9, .getfield 42, 3, 6, 1) := by decide +kernel
theorem f53_12 : aF 12 zM53.2.2.2.2.2.2.2 = some (12, .if_icmp .ge 62, 3, 74, 0) := by decide +kernel
theorem f53_74 : aF 74 zM53.2.2.2.2.2.2.2 = some (74, .iconst 0, 1, 0, 0) := by decide +kernel
theorem f53_75 : aF 75 zM53.2.2.2.2.2.2.2 = some (75, .istore_n 3, 1, 0, 0) := by decide +kernel
theorem f53_76 : aF 76 zM53.2.2.2.2.2.2.2 = some (76, .iload_n 3, 1, 0, 0) := by decide +kernel
theorem f53_77 : aF 77 zM53.2.2.2.2.2.2.2 = some (77, .iload_n 2, 1, 0, 0) := by decide +kernel
theorem f53_78 : aF 78 zM53.2.2.2.2.2.2.2 = some (78, .if_icmp .ge 22, 3, 100, 0) := by decide +kernel
theorem f53_100 : aF 100 zM53.2.2.2.2.2.2.2 = some (100, .aload_n 0, 1, 0, 0) := by decide +kernel
theorem f53_101 : aF 101 zM53.2.2.2.2.2.2.2 = some (101, .aload_n 0, 1, 0, 0) := by decide +kernel
theorem f53_102 : aF 102 zM53.2.2.2.2.2.2.2 = some (102, .iload_n 2, 1, 0, 0) := by decide +kernel
theorem f53_103 : aF 103 zM53.2.2.2.2.2.2.2 = some (103, .invokevirtual 68, 3, 56, 0) := by decide +kernel
theorem f53_106 : aF 106 zM53.2.2.2.2.2.2.2 = some (106, .iload_n 2, 1, 0, 0) := by decide +kernel
theorem f53_107 : aF 107 zM53.2.2.2.2.2.2.2 = some (107, .invokevirtual 72, 3, 60, 0) := by decide +kernel
theorem f53_110 : aF 110 zM53.2.2.2.2.2.2.2 = some (110, .ireturn, 1, 0, 0) := by decide +kernel
theorem f56_0 : aF 0 zM56.2.2.2.2.2.2.2 = some (0, .iconst 1, 1, 0, 0) := by decide +kernel
theorem f56_1 : aF 1 zM56.2.2.2.2.2.2.2 = some (1, .iload_n 1, 1, 0, 0) := by decide +kernel
theorem f56_2 : aF 2 zM56.2.2.2.2.2.2.2 = some (2, .ishl, 1, 0, 0) := by decide +kernel
theorem f56_3 : aF 3 zM56.2.2.2.2.2.2.2 = some (3, .iconst 1, 1, 0, 0) := by decide +kernel
theorem f56_4 : aF 4 zM56.2.2.2.2.2.2.2 = some (4, .isub, 1, 0, 0) := by decide +kernel
theorem f56_5 : aF 5 zM56.2.2.2.2.2.2.2 = some (5, .istore_n 2, 1, 0, 0) := by decide +kernel
theorem f56_6 : aF 6 zM56.2.2.2.2.2.2.2 = some (6, .iconst 0, 1, 0, 0) := by decide +kernel
theorem f56_7 : aF 7 zM56.2.2.2.2.2.2.2 = some (7, .istore_n 3, 1, 0, 0) := by decide +kernel
theorem f56_8 : aF 8 zM56.2.2.2.2.2.2.2 = some (8, .iload_n 3, 1, 0, 0) := by decide +kernel
theorem f56_9 : aF 9 zM56.2.2.2.2.2.2.2 = some (9, .iconst 1, 1, 0, 0) := by decide +kernel
theorem f56_10 : aF 10 zM56.2.2.2.2.2.2.2 = some (10, .iload_n 1, 1, 0, 0) := by decide +kernel
theorem f56_11 : aF 11 zM56.2.2.2.2.2.2.2 = some (11, .ishl, 1, 0, 0) := by decide +kernel
theorem f56_12 : aF 12 zM56.2.2.2.2.2.2.2 = some (12, .if_icmp .ge 30, 3, 42, 0) := by decide +kernel
theorem f56_15 : aF 15 zM56.2.2.2.2.2.2.2 = some (15, .aload_n 0, 1, 0, 0) := by decide +kernel
theorem f56_16 : aF 16 zM56.2.2.2.2.2.2.2 = some (16, .iload_n 3, 1, 0, 0) := by decide +kernel
theorem f56_17 : aF 17 zM56.2.2.2.2.2.2.2 = some (17, .iload_n 1, 1, 0, 0) := by decide +kernel
theorem f56_18 : aF 18 zM56.2.2.2.2.2.2.2 = some (18, .invokevirtual 91, 3, 57, 0) := by decide +kernel
theorem f56_21 : aF 21 zM56.2.2.2.2.2.2.2 = some (21, .ifCond .eq 15, 3, 36, 0) := by decide +kernel
theorem f56_24 : aF 24 zM56.2.2.2.2.2.2.2 = some (24, .aload_n 0, 1, 0, 0) := by decide +kernel
theorem f56_25 : aF 25 zM56.2.2.2.2.2.2.2 = some (25, .iload_n 3, 1, 0, 0) := by decide +kernel
theorem f56_26 : aF 26 zM56.2.2.2.2.2.2.2 = some (26, .iload_n 2, 1, 0, 0) := by decide +kernel
theorem f56_27 : aF 27 zM56.2.2.2.2.2.2.2 = some (27, .iload_n 1, 1, 0, 0) := by decide +kernel
theorem f56_28 : aF 28 zM56.2.2.2.2.2.2.2 = some (28, .invokevirtual 94, 3, 58, 0) := by decide +kernel
theorem f56_31 : aF 31 zM56.2.2.2.2.2.2.2 = some (31, .ifCond .eq 5, 3, 36, 0) := by decide +kernel
theorem f56_36 : aF 36 zM56.2.2.2.2.2.2.2 = some (36, .iinc 3 1, 3, 0, 0) := by decide +kernel
theorem f56_39 : aF 39 zM56.2.2.2.2.2.2.2 = some (39, .goto (-31), 3, 8, 0) := by decide +kernel
theorem f56_42 : aF 42 zM56.2.2.2.2.2.2.2 = some (42, .iload_n 2, 1, 0, 0) := by decide +kernel
theorem f56_43 : aF 43 zM56.2.2.2.2.2.2.2 = some (43, .ireturn, 1, 0, 0) := by decide +kernel
theorem f57_0 : aF 0 zM57.2.2.2.2.2.2.2 = some (0, .iconst 0, 1, 0, 0) := by decide +kernel
theorem f57_1 : aF 1 zM57.2.2.2.2.2.2.2 = some (1, .istore_n 3, 1, 0, 0) := by decide +kernel
theorem f57_2 : aF 2 zM57.2.2.2.2.2.2.2 = some (2, .iload_n 3, 1, 0, 0) := by decide +kernel
theorem f57_3 : aF 3 zM57.2.2.2.2.2.2.2 = some (3, .iload_n 2, 1, 0, 0) := by decide +kernel
theorem f57_4 : aF 4 zM57.2.2.2.2.2.2.2 = some (4, .if_icmp .ge 32, 3, 36, 0) := by decide +kernel
theorem f57_36 : aF 36 zM57.2.2.2.2.2.2.2 = some (36, .iconst 1, 1, 0, 0) := by decide +kernel
theorem f57_37 : aF 37 zM57.2.2.2.2.2.2.2 = some (37, .ireturn, 1, 0, 0) := by decide +kernel
theorem f58_0 : aF 0 zM58.2.2.2.2.2.2.2 = some (0, .aload_n 0, 1, 0, 0) := by decide +kernel
theorem f58_1 : aF 1 zM58.2.2.2.2.2.2.2 = some (1, .iload_n 1, 1, 0, 0) := by decide +kernel
theorem f58_2 : aF 2 zM58.2.2.2.2.2.2.2 = some (2, .iload_n 3, 1, 0, 0) := by decide +kernel
theorem f58_3 : aF 3 zM58.2.2.2.2.2.2.2 = some (3, .invokevirtual 98, 3, 59, 0) := by decide +kernel
theorem f58_6 : aF 6 zM58.2.2.2.2.2.2.2 = some (6, .istore 4, 2, 0, 0) := by decide +kernel
theorem f58_8 : aF 8 zM58.2.2.2.2.2.2.2 = some (8, .aload_n 0, 1, 0, 0) := by decide +kernel
theorem f58_9 : aF 9 zM58.2.2.2.2.2.2.2 = some (9, .iload_n 2, 1, 0, 0) := by decide +kernel
theorem f58_10 : aF 10 zM58.2.2.2.2.2.2.2 = some (10, .iload_n 3, 1, 0, 0) := by decide +kernel
theorem f58_11 : aF 11 zM58.2.2.2.2.2.2.2 = some (11, .invokevirtual 98, 3, 59, 0) := by decide +kernel
theorem f58_14 : aF 14 zM58.2.2.2.2.2.2.2 = some (14, .istore 5, 2, 0, 0) := by decide +kernel
theorem f58_16 : aF 16 zM58.2.2.2.2.2.2.2 = some (16, .iload 4, 2, 0, 0) := by decide +kernel
theorem f58_18 : aF 18 zM58.2.2.2.2.2.2.2 = some (18, .iload 5, 2, 0, 0) := by decide +kernel
theorem f58_20 : aF 20 zM58.2.2.2.2.2.2.2 = some (20, .if_icmp .eq 16, 3, 36, 0) := by decide +kernel
theorem f58_36 : aF 36 zM58.2.2.2.2.2.2.2 = some (36, .iload_n 1, 1, 0, 0) := by decide +kernel
theorem f58_37 : aF 37 zM58.2.2.2.2.2.2.2 = some (37, .invokestatic 101, 3, 329, 0) := by decide +kernel
theorem f58_40 : aF 40 zM58.2.2.2.2.2.2.2 = some (40, .iload_n 2, 1, 0, 0) := by decide +kernel
theorem f58_41 : aF 41 zM58.2.2.2.2.2.2.2 = some (41, .invokestatic 101, 3, 329, 0) := by decide +kernel
theorem f58_44 : aF 44 zM58.2.2.2.2.2.2.2 = some (44, .invokestatic 106, 3, 328, 0) := by decide +kernel
theorem f58_47 : aF 47 zM58.2.2.2.2.2.2.2 = some (47, .istore 6, 2, 0, 0) := by decide +kernel
theorem f58_49 : aF 49 zM58.2.2.2.2.2.2.2 = some (49, .iload 6, 2, 0, 0) := by decide +kernel
theorem f58_51 : aF 51 zM58.2.2.2.2.2.2.2 = some (51, .ifCond .eq 16, 3, 67, 0) := by decide +kernel
theorem f58_67 : aF 67 zM58.2.2.2.2.2.2.2 = some (67, .iload_n 1, 1, 0, 0) := by decide +kernel
theorem f58_68 : aF 68 zM58.2.2.2.2.2.2.2 = some (68, .iload_n 2, 1, 0, 0) := by decide +kernel
theorem f58_69 : aF 69 zM58.2.2.2.2.2.2.2 = some (69, .if_icmp .ge 7, 3, 76, 0) := by decide +kernel
theorem f58_76 : aF 76 zM58.2.2.2.2.2.2.2 = some (76, .iconst 0, 1, 0, 0) := by decide +kernel
theorem f58_77 : aF 77 zM58.2.2.2.2.2.2.2 = some (77, .ireturn, 1, 0, 0) := by decide +kernel
theorem f59_0 : aF 0 zM59.2.2.2.2.2.2.2 = some (0, .iconst 0, 1, 0, 0) := by decide +kernel
theorem f59_1 : aF 1 zM59.2.2.2.2.2.2.2 = some (1, .istore_n 3, 1, 0, 0) := by decide +kernel
theorem f59_2 : aF 2 zM59.2.2.2.2.2.2.2 = some (2, .iconst 0, 1, 0, 0) := by decide +kernel
theorem f59_3 : aF 3 zM59.2.2.2.2.2.2.2 = some (3, .istore 4, 2, 0, 0) := by decide +kernel
theorem f59_5 : aF 5 zM59.2.2.2.2.2.2.2 = some (5, .iload 4, 2, 0, 0) := by decide +kernel
theorem f59_7 : aF 7 zM59.2.2.2.2.2.2.2 = some (7, .iload_n 2, 1, 0, 0) := by decide +kernel
theorem f59_8 : aF 8 zM59.2.2.2.2.2.2.2 = some (8, .if_icmp .ge 34, 3, 42, 0) := by decide +kernel
theorem f59_42 : aF 42 zM59.2.2.2.2.2.2.2 = some (42, .iload_n 3, 1, 0, 0) := by decide +kernel
theorem f59_43 : aF 43 zM59.2.2.2.2.2.2.2 = some (43, .ireturn, 1, 0, 0) := by decide +kernel
theorem f60_0 : aF 0 zM60.2.2.2.2.2.2.2 = some (0, .aload_n 0, 1, 0, 0) := by decide +kernel
theorem f60_1 : aF 1 zM60.2.2.2.2.2.2.2 = some (1, .iconst 0, 1, 0, 0) := by decide +kernel
theorem f60_2 : aF 2 zM60.2.2.2.2.2.2.2 = some (2, .putfield 112, 3, 5, 4) := by decide +kernel
theorem f60_5 : aF 5 zM60.2.2.2.2.2.2.2 = some (5, .iconst 0, 1, 0, 0) := by decide +kernel
theorem f60_6 : aF 6 zM60.2.2.2.2.2.2.2 = some (6, .istore_n 3, 1, 0, 0) := by decide +kernel
theorem f60_7 : aF 7 zM60.2.2.2.2.2.2.2 = some (7, .iload_n 3, 1, 0, 0) := by decide +kernel
theorem f60_8 : aF 8 zM60.2.2.2.2.2.2.2 = some (8, .iload_n 2, 1, 0, 0) := by decide +kernel
theorem f60_9 : aF 9 zM60.2.2.2.2.2.2.2 = some (9, .if_icmp .ge 43, 3, 52, 0) := by decide +kernel
theorem f60_52 : aF 52 zM60.2.2.2.2.2.2.2 = some (52, .aload_n 0, 1, 0, 0) := by decide +kernel
theorem f60_53 : aF 53 zM60.2.2.2.2.2.2.2 = some (53, .iload_n 1, 1, 0, 0) := by decide +kernel
theorem f60_54 : aF 54 zM60.2.2.2.2.2.2.2 = some (54, .iload_n 2, 1, 0, 0) := by decide +kernel
theorem f60_55 : aF 55 zM60.2.2.2.2.2.2.2 = some (55, .invokevirtual 98, 3, 59, 0) := by decide +kernel
theorem f60_58 : aF 58 zM60.2.2.2.2.2.2.2 = some (58, .ireturn, 1, 0, 0) := by decide +kernel
theorem f61_0 : aF 0 zM61.2.2.2.2.2.2.2 = some (0, .aload_n 0, 1, 0, 0) := by decide +kernel
theorem f61_1 : aF 1 zM61.2.2.2.2.2.2.2 = some (1, .iload_n 1, 1, 0, 0) := by decide +kernel
theorem f61_2 : aF 2 zM61.2.2.2.2.2.2.2 = some (2, .iload_n 2, 1, 0, 0) := by decide +kernel
theorem f61_3 : aF 3 zM61.2.2.2.2.2.2.2 = some (3, .invokevirtual 115, 3, 62, 0) := by decide +kernel
theorem f61_6 : aF 6 zM61.2.2.2.2.2.2.2 = some (6, .iload_n 3, 1, 0, 0) := by decide +kernel
theorem f61_7 : aF 7 zM61.2.2.2.2.2.2.2 = some (7, .aload_n 0, 1, 0, 0) := by decide +kernel
theorem f61_8 : aF 8 zM61.2.2.2.2.2.2.2 = some (8, .getfield 119, 3, 5, 12) := by decide +kernel
theorem f61_11 : aF 11 zM61.2.2.2.2.2.2.2 = some (11, .invokestatic 122, 3, 1011, 0) := by decide +kernel
theorem f61_14 : aF 14 zM61.2.2.2.2.2.2.2 = some (14, .istore 4, 2, 0, 0) := by decide +kernel
theorem f61_16 : aF 16 zM61.2.2.2.2.2.2.2 = some (16, .iload 4, 2, 0, 0) := by decide +kernel
theorem f61_18 : aF 18 zM61.2.2.2.2.2.2.2 = some (18, .iconst 1, 1, 0, 0) := by decide +kernel
theorem f61_19 : aF 19 zM61.2.2.2.2.2.2.2 = some (19, .iadd, 1, 0, 0) := by decide +kernel
theorem f61_20 : aF 20 zM61.2.2.2.2.2.2.2 = some (20, .iconst 2, 1, 0, 0) := by decide +kernel
theorem f61_21 : aF 21 zM61.2.2.2.2.2.2.2 = some (21, .idiv, 1, 0, 0) := by decide +kernel
theorem f61_22 : aF 22 zM61.2.2.2.2.2.2.2 = some (22, .istore 5, 2, 0, 0) := by decide +kernel
theorem f61_24 : aF 24 zM61.2.2.2.2.2.2.2 = some (24, .aload_n 0, 1, 0, 0) := by decide +kernel
theorem f61_25 : aF 25 zM61.2.2.2.2.2.2.2 = some (25, .iconst 0, 1, 0, 0) := by decide +kernel
theorem f61_26 : aF 26 zM61.2.2.2.2.2.2.2 = some (26, .putfield 127, 3, 5, 9) := by decide +kernel
theorem f61_29 : aF 29 zM61.2.2.2.2.2.2.2 = some (29, .iconst 0, 1, 0, 0) := by decide +kernel
theorem f61_30 : aF 30 zM61.2.2.2.2.2.2.2 = some (30, .istore 6, 2, 0, 0) := by decide +kernel
theorem f61_32 : aF 32 zM61.2.2.2.2.2.2.2 = some (32, .iload 6, 2, 0, 0) := by decide +kernel
theorem f61_34 : aF 34 zM61.2.2.2.2.2.2.2 = some (34, .iload 4, 2, 0, 0) := by decide +kernel
theorem f61_36 : aF 36 zM61.2.2.2.2.2.2.2 = some (36, .if_icmp .ge 31, 3, 67, 0) := by decide +kernel
theorem f61_67 : aF 67 zM61.2.2.2.2.2.2.2 = some (67, .iload 4, 2, 0, 0) := by decide +kernel
theorem f61_69 : aF 69 zM61.2.2.2.2.2.2.2 = some (69, .ireturn, 1, 0, 0) := by decide +kernel
theorem f62_0 : aF 0 zM62.2.2.2.2.2.2.2 = some (0, .aload_n 0, 1, 0, 0) := by decide +kernel
theorem f62_1 : aF 1 zM62.2.2.2.2.2.2.2 = some (1, .getfield 38, 3, 5, 2) := by decide +kernel
theorem f62_4 : aF 4 zM62.2.2.2.2.2.2.2 = some (4, .iload_n 2, 1, 0, 0) := by decide +kernel
theorem f62_5 : aF 5 zM62.2.2.2.2.2.2.2 = some (5, .aload_n 0, 1, 0, 0) := by decide +kernel
theorem f62_6 : aF 6 zM62.2.2.2.2.2.2.2 = some (6, .getfield 30, 3, 5, 0) := by decide +kernel
theorem f62_9 : aF 9 zM62.2.2.2.2.2.2.2 = some (9, .getfield 141, 3, 6, 0) := by decide +kernel
theorem f62_12 : aF 12 zM62.2.2.2.2.2.2.2 = some (12, .invokevirtual 144, 3, 1, 0) := by decide +kernel
theorem f62_15 : aF 15 zM62.2.2.2.2.2.2.2 = some (15, .astore_n 3, 1, 0, 0) := by decide +kernel
theorem f62_16 : aF 16 zM62.2.2.2.2.2.2.2 = some (16, .aload_n 0, 1, 0, 0) := by decide +kernel
theorem f62_17 : aF 17 zM62.2.2.2.2.2.2.2 = some (17, .iconst 0, 1, 0, 0) := by decide +kernel
theorem f62_18 : aF 18 zM62.2.2.2.2.2.2.2 = some (18, .putfield 119, 3, 5, 12) := by decide +kernel
theorem f62_21 : aF 21 zM62.2.2.2.2.2.2.2 = some (21, .iconst 0, 1, 0, 0) := by decide +kernel
theorem f62_22 : aF 22 zM62.2.2.2.2.2.2.2 = some (22, .istore 4, 2, 0, 0) := by decide +kernel
theorem f62_24 : aF 24 zM62.2.2.2.2.2.2.2 = some (24, .iload 4, 2, 0, 0) := by decide +kernel
theorem f62_26 : aF 26 zM62.2.2.2.2.2.2.2 = some (26, .aload_n 0, 1, 0, 0) := by decide +kernel
theorem f62_27 : aF 27 zM62.2.2.2.2.2.2.2 = some (27, .getfield 30, 3, 5, 0) := by decide +kernel
theorem f62_30 : aF 30 zM62.2.2.2.2.2.2.2 = some (30, .getfield 42, 3, 6, 1) := by decide +kernel
theorem f62_33 : aF 33 zM62.2.2.2.2.2.2.2 = some (33, .if_icmp .ge 93, 3, 126, 0) := by decide +kernel
theorem f62_126 : aF 126 zM62.2.2.2.2.2.2.2 = some (126, .return_, 1, 0, 0) := by decide +kernel
theorem f66_0 : aF 0 zM66.2.2.2.2.2.2.2 = some (0, .aload_n 0, 1, 0, 0) := by decide +kernel
theorem f66_1 : aF 1 zM66.2.2.2.2.2.2.2 = some (1, .getfield 38, 3, 5, 2) := by decide +kernel
theorem f66_4 : aF 4 zM66.2.2.2.2.2.2.2 = some (4, .iload_n 1, 1, 0, 0) := by decide +kernel
theorem f66_5 : aF 5 zM66.2.2.2.2.2.2.2 = some (5, .aload_n 0, 1, 0, 0) := by decide +kernel
theorem f66_6 : aF 6 zM66.2.2.2.2.2.2.2 = some (6, .getfield 30, 3, 5, 0) := by decide +kernel
theorem f66_9 : aF 9 zM66.2.2.2.2.2.2.2 = some (9, .getfield 141, 3, 6, 0) := by decide +kernel
theorem f66_12 : aF 12 zM66.2.2.2.2.2.2.2 = some (12, .invokevirtual 144, 3, 1, 0) := by decide +kernel
theorem f66_15 : aF 15 zM66.2.2.2.2.2.2.2 = some (15, .astore_n 2, 1, 0, 0) := by decide +kernel
theorem f66_16 : aF 16 zM66.2.2.2.2.2.2.2 = some (16, .aload_n 0, 1, 0, 0) := by decide +kernel
theorem f66_17 : aF 17 zM66.2.2.2.2.2.2.2 = some (17, .iconst 0, 1, 0, 0) := by decide +kernel
theorem f66_18 : aF 18 zM66.2.2.2.2.2.2.2 = some (18, .putfield 163, 3, 5, 13) := by decide +kernel
theorem f66_21 : aF 21 zM66.2.2.2.2.2.2.2 = some (21, .aload_n 0, 1, 0, 0) := by decide +kernel
theorem f66_22 : aF 22 zM66.2.2.2.2.2.2.2 = some (22, .iconst 0, 1, 0, 0) := by decide +kernel
theorem f66_23 : aF 23 zM66.2.2.2.2.2.2.2 = some (23, .putfield 166, 3, 5, 14) := by decide +kernel
theorem f66_26 : aF 26 zM66.2.2.2.2.2.2.2 = some (26, .iconst 0, 1, 0, 0) := by decide +kernel
theorem f66_27 : aF 27 zM66.2.2.2.2.2.2.2 = some (27, .istore_n 3, 1, 0, 0) := by decide +kernel
theorem f66_28 : aF 28 zM66.2.2.2.2.2.2.2 = some (28, .iload_n 3, 1, 0, 0) := by decide +kernel
theorem f66_29 : aF 29 zM66.2.2.2.2.2.2.2 = some (29, .aload_n 0, 1, 0, 0) := by decide +kernel
theorem f66_30 : aF 30 zM66.2.2.2.2.2.2.2 = some (30, .getfield 30, 3, 5, 0) := by decide +kernel
theorem f66_33 : aF 33 zM66.2.2.2.2.2.2.2 = some (33, .getfield 42, 3, 6, 1) := by decide +kernel
theorem f66_36 : aF 36 zM66.2.2.2.2.2.2.2 = some (36, .if_icmp .ge 90, 3, 126, 0) := by decide +kernel
theorem f66_126 : aF 126 zM66.2.2.2.2.2.2.2 = some (126, .aload_n 0, 1, 0, 0) := by decide +kernel
theorem f66_127 : aF 127 zM66.2.2.2.2.2.2.2 = some (127, .getfield 163, 3, 5, 13) := by decide +kernel
theorem f66_130 : aF 130 zM66.2.2.2.2.2.2.2 = some (130, .ifCond .ne 13, 3, 143, 0) := by decide +kernel
theorem f66_133 : aF 133 zM66.2.2.2.2.2.2.2 = some (133, .aload_n 0, 1, 0, 0) := by decide +kernel
theorem f66_134 : aF 134 zM66.2.2.2.2.2.2.2 = some (134, .iconst 0, 1, 0, 0) := by decide +kernel
theorem f66_135 : aF 135 zM66.2.2.2.2.2.2.2 = some (135, .putfield 177, 3, 5, 15) := by decide +kernel
theorem f66_138 : aF 138 zM66.2.2.2.2.2.2.2 = some (138, .aload_n 0, 1, 0, 0) := by decide +kernel
theorem f66_139 : aF 139 zM66.2.2.2.2.2.2.2 = some (139, .iconst 0, 1, 0, 0) := by decide +kernel
theorem f66_140 : aF 140 zM66.2.2.2.2.2.2.2 = some (140, .putfield 180, 3, 5, 16) := by decide +kernel
theorem f66_143 : aF 143 zM66.2.2.2.2.2.2.2 = some (143, .return_, 1, 0, 0) := by decide +kernel
theorem f67_0 : aF 0 zM67.2.2.2.2.2.2.2 = some (0, .iload_n 2, 1, 0, 0) := by decide +kernel
theorem f67_1 : aF 1 zM67.2.2.2.2.2.2.2 = some (1, .i2l, 1, 0, 0) := by decide +kernel
theorem f67_2 : aF 2 zM67.2.2.2.2.2.2.2 = some (2, .ldc2_w 183, 3, 100, 0) := by decide +kernel
theorem f67_5 : aF 5 zM67.2.2.2.2.2.2.2 = some (5, .aload_n 0, 1, 0, 0) := by decide +kernel
theorem f67_6 : aF 6 zM67.2.2.2.2.2.2.2 = some (6, .getfield 177, 3, 5, 15) := by decide +kernel
theorem f67_9 : aF 9 zM67.2.2.2.2.2.2.2 = some (9, .invokestatic 185, 3, 69, 0) := by decide +kernel
theorem f67_12 : aF 12 zM67.2.2.2.2.2.2.2 = some (12, .lmul, 1, 0, 0) := by decide +kernel
theorem f67_13 : aF 13 zM67.2.2.2.2.2.2.2 = some (13, .lstore_n 3, 1, 0, 0) := by decide +kernel
theorem f67_14 : aF 14 zM67.2.2.2.2.2.2.2 = some (14, .ldc2_w 183, 3, 100, 0) := by decide +kernel
theorem f67_17 : aF 17 zM67.2.2.2.2.2.2.2 = some (17, .aload_n 0, 1, 0, 0) := by decide +kernel
theorem f67_18 : aF 18 zM67.2.2.2.2.2.2.2 = some (18, .aload_n 0, 1, 0, 0) := by decide +kernel
theorem f67_19 : aF 19 zM67.2.2.2.2.2.2.2 = some (19, .getfield 180, 3, 5, 16) := by decide +kernel
theorem f67_22 : aF 22 zM67.2.2.2.2.2.2.2 = some (22, .aload_n 0, 1, 0, 0) := by decide +kernel
theorem f67_23 : aF 23 zM67.2.2.2.2.2.2.2 = some (23, .getfield 177, 3, 5, 15) := by decide +kernel
theorem f67_26 : aF 26 zM67.2.2.2.2.2.2.2 = some (26, .iload_n 1, 1, 0, 0) := by decide +kernel
theorem f67_27 : aF 27 zM67.2.2.2.2.2.2.2 = some (27, .invokevirtual 189, 3, 68, 0) := by decide +kernel
theorem f67_30 : aF 30 zM67.2.2.2.2.2.2.2 = some (30, .lmul, 1, 0, 0) := by decide +kernel
theorem f67_31 : aF 31 zM67.2.2.2.2.2.2.2 = some (31, .lload_n 3, 1, 0, 0) := by decide +kernel
theorem f67_32 : aF 32 zM67.2.2.2.2.2.2.2 = some (32, .lcmp, 1, 0, 0) := by decide +kernel
theorem f67_33 : aF 33 zM67.2.2.2.2.2.2.2 = some (33, .ifCond .ge 5, 3, 38, 0) := by decide +kernel
theorem f67_36 : aF 36 zM67.2.2.2.2.2.2.2 = some (36, .iconst 1, 1, 0, 0) := by decide +kernel
theorem f67_37 : aF 37 zM67.2.2.2.2.2.2.2 = some (37, .ireturn, 1, 0, 0) := by decide +kernel
theorem f67_38 : aF 38 zM67.2.2.2.2.2.2.2 = some (38, .ldc2_w 183, 3, 100, 0) := by decide +kernel
theorem f67_41 : aF 41 zM67.2.2.2.2.2.2.2 = some (41, .aload_n 0, 1, 0, 0) := by decide +kernel
theorem f67_42 : aF 42 zM67.2.2.2.2.2.2.2 = some (42, .iconst 0, 1, 0, 0) := by decide +kernel
theorem f67_43 : aF 43 zM67.2.2.2.2.2.2.2 = some (43, .aload_n 0, 1, 0, 0) := by decide +kernel
theorem f67_44 : aF 44 zM67.2.2.2.2.2.2.2 = some (44, .getfield 180, 3, 5, 16) := by decide +kernel
theorem f67_47 : aF 47 zM67.2.2.2.2.2.2.2 = some (47, .iload_n 1, 1, 0, 0) := by decide +kernel
theorem f67_48 : aF 48 zM67.2.2.2.2.2.2.2 = some (48, .invokevirtual 189, 3, 68, 0) := by decide +kernel
theorem f67_51 : aF 51 zM67.2.2.2.2.2.2.2 = some (51, .lmul, 1, 0, 0) := by decide +kernel
theorem f67_52 : aF 52 zM67.2.2.2.2.2.2.2 = some (52, .lload_n 3, 1, 0, 0) := by decide +kernel
theorem f67_53 : aF 53 zM67.2.2.2.2.2.2.2 = some (53, .lcmp, 1, 0, 0) := by decide +kernel
theorem f67_54 : aF 54 zM67.2.2.2.2.2.2.2 = some (54, .ifCond .ge 7, 3, 61, 0) := by decide +kernel
theorem f67_61 : aF 61 zM67.2.2.2.2.2.2.2 = some (61, .iconst 0, 1, 0, 0) := by decide +kernel
theorem f67_62 : aF 62 zM67.2.2.2.2.2.2.2 = some (62, .ireturn, 1, 0, 0) := by decide +kernel
theorem f68_0 : aF 0 zM68.2.2.2.2.2.2.2 = some (0, .lconst 0, 1, 0, 0) := by decide +kernel
theorem f68_1 : aF 1 zM68.2.2.2.2.2.2.2 = some (1, .lstore 4, 2, 0, 0) := by decide +kernel
theorem f68_3 : aF 3 zM68.2.2.2.2.2.2.2 = some (3, .lconst 1, 1, 0, 0) := by decide +kernel
theorem f68_4 : aF 4 zM68.2.2.2.2.2.2.2 = some (4, .lstore 6, 2, 0, 0) := by decide +kernel
theorem f68_6 : aF 6 zM68.2.2.2.2.2.2.2 = some (6, .iconst 0, 1, 0, 0) := by decide +kernel
theorem f68_7 : aF 7 zM68.2.2.2.2.2.2.2 = some (7, .istore 8, 2, 0, 0) := by decide +kernel
theorem f68_9 : aF 9 zM68.2.2.2.2.2.2.2 = some (9, .iload 8, 2, 0, 0) := by decide +kernel
theorem f68_11 : aF 11 zM68.2.2.2.2.2.2.2 = some (11, .aload_n 0, 1, 0, 0) := by decide +kernel
theorem f68_12 : aF 12 zM68.2.2.2.2.2.2.2 = some (12, .getfield 177, 3, 5, 15) := by decide +kernel
theorem f68_15 : aF 15 zM68.2.2.2.2.2.2.2 = some (15, .if_icmp .gt 69, 3, 84, 0) := by decide +kernel
theorem f68_18 : aF 18 zM68.2.2.2.2.2.2.2 = some (18, .iload 8, 2, 0, 0) := by decide +kernel
theorem f68_20 : aF 20 zM68.2.2.2.2.2.2.2 = some (20, .iload_n 1, 1, 0, 0) := by decide +kernel
theorem f68_21 : aF 21 zM68.2.2.2.2.2.2.2 = some (21, .iload_n 2, 1, 0, 0) := by decide +kernel
theorem f68_22 : aF 22 zM68.2.2.2.2.2.2.2 = some (22, .invokestatic 193, 3, 137, 0) := by decide +kernel
theorem f68_25 : aF 25 zM68.2.2.2.2.2.2.2 = some (25, .ifCond .eq 34, 3, 59, 0) := by decide +kernel
theorem f68_28 : aF 28 zM68.2.2.2.2.2.2.2 = some (28, .lload 4, 2, 0, 0) := by decide +kernel
theorem f68_30 : aF 30 zM68.2.2.2.2.2.2.2 = some (30, .lload 6, 2, 0, 0) := by decide +kernel
theorem f68_32 : aF 32 zM68.2.2.2.2.2.2.2 = some (32, .iload_n 3, 1, 0, 0) := by decide +kernel
theorem f68_33 : aF 33 zM68.2.2.2.2.2.2.2 = some (33, .i2l, 1, 0, 0) := by decide +kernel
theorem f68_34 : aF 34 zM68.2.2.2.2.2.2.2 = some (34, .iload 8, 2, 0, 0) := by decide +kernel
theorem f68_36 : aF 36 zM68.2.2.2.2.2.2.2 = some (36, .invokestatic 185, 3, 69, 0) := by decide +kernel
theorem f68_39 : aF 39 zM68.2.2.2.2.2.2.2 = some (39, .lmul, 1, 0, 0) := by decide +kernel
theorem f68_40 : aF 40 zM68.2.2.2.2.2.2.2 = some (40, .bipush 100, 2, 0, 0) := by decide +kernel
theorem f68_42 : aF 42 zM68.2.2.2.2.2.2.2 = some (42, .iload_n 3, 1, 0, 0) := by decide +kernel
theorem f68_43 : aF 43 zM68.2.2.2.2.2.2.2 = some (43, .isub, 1, 0, 0) := by decide +kernel
theorem f68_44 : aF 44 zM68.2.2.2.2.2.2.2 = some (44, .i2l, 1, 0, 0) := by decide +kernel
theorem f68_45 : aF 45 zM68.2.2.2.2.2.2.2 = some (45, .aload_n 0, 1, 0, 0) := by decide +kernel
theorem f68_46 : aF 46 zM68.2.2.2.2.2.2.2 = some (46, .getfield 177, 3, 5, 15) := by decide +kernel
theorem f68_49 : aF 49 zM68.2.2.2.2.2.2.2 = some (49, .iload 8, 2, 0, 0) := by decide +kernel
theorem f68_51 : aF 51 zM68.2.2.2.2.2.2.2 = some (51, .isub, 1, 0, 0) := by decide +kernel
theorem f68_52 : aF 52 zM68.2.2.2.2.2.2.2 = some (52, .invokestatic 185, 3, 69, 0) := by decide +kernel
theorem f68_55 : aF 55 zM68.2.2.2.2.2.2.2 = some (55, .lmul, 1, 0, 0) := by decide +kernel
theorem f68_56 : aF 56 zM68.2.2.2.2.2.2.2 = some (56, .ladd, 1, 0, 0) := by decide +kernel
theorem f68_57 : aF 57 zM68.2.2.2.2.2.2.2 = some (57, .lstore 4, 2, 0, 0) := by decide +kernel
theorem f68_59 : aF 59 zM68.2.2.2.2.2.2.2 = some (59, .lload 6, 2, 0, 0) := by decide +kernel
theorem f68_61 : aF 61 zM68.2.2.2.2.2.2.2 = some (61, .aload_n 0, 1, 0, 0) := by decide +kernel
theorem f68_62 : aF 62 zM68.2.2.2.2.2.2.2 = some (62, .getfield 177, 3, 5, 15) := by decide +kernel
theorem f68_65 : aF 65 zM68.2.2.2.2.2.2.2 = some (65, .iload 8, 2, 0, 0) := by decide +kernel
theorem f68_67 : aF 67 zM68.2.2.2.2.2.2.2 = some (67, .isub, 1, 0, 0) := by decide +kernel
theorem f68_68 : aF 68 zM68.2.2.2.2.2.2.2 = some (68, .i2l, 1, 0, 0) := by decide +kernel
theorem f68_69 : aF 69 zM68.2.2.2.2.2.2.2 = some (69, .lmul, 1, 0, 0) := by decide +kernel
theorem f68_70 : aF 70 zM68.2.2.2.2.2.2.2 = some (70, .iload 8, 2, 0, 0) := by decide +kernel
theorem f68_72 : aF 72 zM68.2.2.2.2.2.2.2 = some (72, .iconst 1, 1, 0, 0) := by decide +kernel
theorem f68_73 : aF 73 zM68.2.2.2.2.2.2.2 = some (73, .iadd, 1, 0, 0) := by decide +kernel
theorem f68_74 : aF 74 zM68.2.2.2.2.2.2.2 = some (74, .i2l, 1, 0, 0) := by decide +kernel
theorem f68_75 : aF 75 zM68.2.2.2.2.2.2.2 = some (75, .ldiv, 1, 0, 0) := by decide +kernel
theorem f68_76 : aF 76 zM68.2.2.2.2.2.2.2 = some (76, .lstore 6, 2, 0, 0) := by decide +kernel
theorem f68_78 : aF 78 zM68.2.2.2.2.2.2.2 = some (78, .iinc 8 1, 3, 0, 0) := by decide +kernel
theorem f68_81 : aF 81 zM68.2.2.2.2.2.2.2 = some (81, .goto (-72), 3, 9, 0) := by decide +kernel
theorem f68_84 : aF 84 zM68.2.2.2.2.2.2.2 = some (84, .lload 4, 2, 0, 0) := by decide +kernel
theorem f68_86 : aF 86 zM68.2.2.2.2.2.2.2 = some (86, .lreturn, 1, 0, 0) := by decide +kernel
theorem f69_0 : aF 0 zM69.2.2.2.2.2.2.2 = some (0, .lconst 1, 1, 0, 0) := by decide +kernel
theorem f69_1 : aF 1 zM69.2.2.2.2.2.2.2 = some (1, .lstore_n 3, 1, 0, 0) := by decide +kernel
theorem f69_2 : aF 2 zM69.2.2.2.2.2.2.2 = some (2, .iconst 0, 1, 0, 0) := by decide +kernel
theorem f69_3 : aF 3 zM69.2.2.2.2.2.2.2 = some (3, .istore 5, 2, 0, 0) := by decide +kernel
theorem f69_5 : aF 5 zM69.2.2.2.2.2.2.2 = some (5, .iload 5, 2, 0, 0) := by decide +kernel
theorem f69_7 : aF 7 zM69.2.2.2.2.2.2.2 = some (7, .iload_n 2, 1, 0, 0) := by decide +kernel
theorem f69_8 : aF 8 zM69.2.2.2.2.2.2.2 = some (8, .if_icmp .ge 13, 3, 21, 0) := by decide +kernel
theorem f69_21 : aF 21 zM69.2.2.2.2.2.2.2 = some (21, .lload_n 3, 1, 0, 0) := by decide +kernel
theorem f69_22 : aF 22 zM69.2.2.2.2.2.2.2 = some (22, .lreturn, 1, 0, 0) := by decide +kernel
theorem f96_0 : aF 0 zM96.2.2.2.2.2.2.2 = some (0, .aload_n 0, 1, 0, 0) := by decide +kernel
theorem f96_1 : aF 1 zM96.2.2.2.2.2.2.2 = some (1, .invokespecial 3, 3, 1000, 0) := by decide +kernel
theorem f96_4 : aF 4 zM96.2.2.2.2.2.2.2 = some (4, .aload_n 0, 1, 0, 0) := by decide +kernel
theorem f96_5 : aF 5 zM96.2.2.2.2.2.2.2 = some (5, .iconst (-1), 1, 0, 0) := by decide +kernel
theorem f96_6 : aF 6 zM96.2.2.2.2.2.2.2 = some (6, .putfield 9, 3, 8, 3) := by decide +kernel
theorem f96_9 : aF 9 zM96.2.2.2.2.2.2.2 = some (9, .aload_n 0, 1, 0, 0) := by decide +kernel
theorem f96_10 : aF 10 zM96.2.2.2.2.2.2.2 = some (10, .iconst (-1), 1, 0, 0) := by decide +kernel
theorem f96_11 : aF 11 zM96.2.2.2.2.2.2.2 = some (11, .putfield 15, 3, 8, 4) := by decide +kernel
theorem f96_14 : aF 14 zM96.2.2.2.2.2.2.2 = some (14, .aload_n 0, 1, 0, 0) := by decide +kernel
theorem f96_15 : aF 15 zM96.2.2.2.2.2.2.2 = some (15, .sipush 300, 3, 0, 0) := by decide +kernel
theorem f96_18 : aF 18 zM96.2.2.2.2.2.2.2 = some (18, .newarray .int, 2, 0, 0) := by decide +kernel
theorem f96_20 : aF 20 zM96.2.2.2.2.2.2.2 = some (20, .putfield 18, 3, 8, 6) := by decide +kernel
theorem f96_23 : aF 23 zM96.2.2.2.2.2.2.2 = some (23, .aload_n 0, 1, 0, 0) := by decide +kernel
theorem f96_24 : aF 24 zM96.2.2.2.2.2.2.2 = some (24, .sipush 300, 3, 0, 0) := by decide +kernel
theorem f96_27 : aF 27 zM96.2.2.2.2.2.2.2 = some (27, .newarray .int, 2, 0, 0) := by decide +kernel
theorem f96_29 : aF 29 zM96.2.2.2.2.2.2.2 = some (29, .putfield 22, 3, 8, 7) := by decide +kernel
theorem f96_32 : aF 32 zM96.2.2.2.2.2.2.2 = some (32, .aload_n 0, 1, 0, 0) := by decide +kernel
theorem f96_33 : aF 33 zM96.2.2.2.2.2.2.2 = some (33, .sipush 300, 3, 0, 0) := by decide +kernel
theorem f96_36 : aF 36 zM96.2.2.2.2.2.2.2 = some (36, .newarray .int, 2, 0, 0) := by decide +kernel
theorem f96_38 : aF 38 zM96.2.2.2.2.2.2.2 = some (38, .putfield 25, 3, 8, 8) := by decide +kernel
theorem f96_41 : aF 41 zM96.2.2.2.2.2.2.2 = some (41, .aload_n 0, 1, 0, 0) := by decide +kernel
theorem f96_42 : aF 42 zM96.2.2.2.2.2.2.2 = some (42, .bipush 24, 2, 0, 0) := by decide +kernel
theorem f96_44 : aF 44 zM96.2.2.2.2.2.2.2 = some (44, .newarray .int, 2, 0, 0) := by decide +kernel
theorem f96_46 : aF 46 zM96.2.2.2.2.2.2.2 = some (46, .putfield 28, 3, 8, 9) := by decide +kernel
theorem f96_49 : aF 49 zM96.2.2.2.2.2.2.2 = some (49, .aload_n 0, 1, 0, 0) := by decide +kernel
theorem f96_50 : aF 50 zM96.2.2.2.2.2.2.2 = some (50, .sipush 150, 3, 0, 0) := by decide +kernel
theorem f96_53 : aF 53 zM96.2.2.2.2.2.2.2 = some (53, .newarray .int, 2, 0, 0) := by decide +kernel
theorem f96_55 : aF 55 zM96.2.2.2.2.2.2.2 = some (55, .putfield 31, 3, 8, 10) := by decide +kernel
theorem f96_58 : aF 58 zM96.2.2.2.2.2.2.2 = some (58, .aload_n 0, 1, 0, 0) := by decide +kernel
theorem f96_59 : aF 59 zM96.2.2.2.2.2.2.2 = some (59, .sipush 150, 3, 0, 0) := by decide +kernel
theorem f96_62 : aF 62 zM96.2.2.2.2.2.2.2 = some (62, .newarray .int, 2, 0, 0) := by decide +kernel
theorem f96_64 : aF 64 zM96.2.2.2.2.2.2.2 = some (64, .putfield 34, 3, 8, 11) := by decide +kernel
theorem f96_67 : aF 67 zM96.2.2.2.2.2.2.2 = some (67, .aload_n 0, 1, 0, 0) := by decide +kernel
theorem f96_68 : aF 68 zM96.2.2.2.2.2.2.2 = some (68, .sipush 150, 3, 0, 0) := by decide +kernel
theorem f96_71 : aF 71 zM96.2.2.2.2.2.2.2 = some (71, .newarray .int, 2, 0, 0) := by decide +kernel
theorem f96_73 : aF 73 zM96.2.2.2.2.2.2.2 = some (73, .putfield 37, 3, 8, 12) := by decide +kernel
theorem f96_76 : aF 76 zM96.2.2.2.2.2.2.2 = some (76, .aload_n 0, 1, 0, 0) := by decide +kernel
theorem f96_77 : aF 77 zM96.2.2.2.2.2.2.2 = some (77, .aload_n 1, 1, 0, 0) := by decide +kernel
theorem f96_78 : aF 78 zM96.2.2.2.2.2.2.2 = some (78, .putfield 40, 3, 8, 0) := by decide +kernel
theorem f96_81 : aF 81 zM96.2.2.2.2.2.2.2 = some (81, .aload_n 0, 1, 0, 0) := by decide +kernel
theorem f96_82 : aF 82 zM96.2.2.2.2.2.2.2 = some (82, .aload_n 2, 1, 0, 0) := by decide +kernel
theorem f96_83 : aF 83 zM96.2.2.2.2.2.2.2 = some (83, .putfield 44, 3, 8, 1) := by decide +kernel
theorem f96_86 : aF 86 zM96.2.2.2.2.2.2.2 = some (86, .aload_n 0, 1, 0, 0) := by decide +kernel
theorem f96_87 : aF 87 zM96.2.2.2.2.2.2.2 = some (87, .iload_n 3, 1, 0, 0) := by decide +kernel
theorem f96_88 : aF 88 zM96.2.2.2.2.2.2.2 = some (88, .putfield 48, 3, 8, 2) := by decide +kernel
theorem f96_91 : aF 91 zM96.2.2.2.2.2.2.2 = some (91, .return_, 1, 0, 0) := by decide +kernel
theorem f97_0 : aF 0 zM97.2.2.2.2.2.2.2 = some (0, .aload_n 0, 1, 0, 0) := by decide +kernel
theorem f97_1 : aF 1 zM97.2.2.2.2.2.2.2 = some (1, .iload_n 1, 1, 0, 0) := by decide +kernel
theorem f97_2 : aF 2 zM97.2.2.2.2.2.2.2 = some (2, .putfield 9, 3, 8, 3) := by decide +kernel
theorem f97_5 : aF 5 zM97.2.2.2.2.2.2.2 = some (5, .aload_n 0, 1, 0, 0) := by decide +kernel
theorem f97_6 : aF 6 zM97.2.2.2.2.2.2.2 = some (6, .iload_n 2, 1, 0, 0) := by decide +kernel
theorem f97_7 : aF 7 zM97.2.2.2.2.2.2.2 = some (7, .putfield 15, 3, 8, 4) := by decide +kernel
theorem f97_10 : aF 10 zM97.2.2.2.2.2.2.2 = some (10, .aload_n 0, 1, 0, 0) := by decide +kernel
theorem f97_11 : aF 11 zM97.2.2.2.2.2.2.2 = some (11, .iconst 0, 1, 0, 0) := by decide +kernel
theorem f97_12 : aF 12 zM97.2.2.2.2.2.2.2 = some (12, .putfield 51, 3, 8, 5) := by decide +kernel
theorem f97_15 : aF 15 zM97.2.2.2.2.2.2.2 = some (15, .iconst 0, 1, 0, 0) := by decide +kernel
theorem f97_16 : aF 16 zM97.2.2.2.2.2.2.2 = some (16, .istore_n 3, 1, 0, 0) := by decide +kernel
theorem f97_17 : aF 17 zM97.2.2.2.2.2.2.2 = some (17, .iload_n 3, 1, 0, 0) := by decide +kernel
theorem f97_18 : aF 18 zM97.2.2.2.2.2.2.2 = some (18, .aload_n 0, 1, 0, 0) := by decide +kernel
theorem f97_19 : aF 19 zM97.2.2.2.2.2.2.2 = some (19, .getfield 44, 3, 8, 1) := by decide +kernel
theorem f97_22 : aF 22 zM97.2.2.2.2.2.2.2 = some (22, .getfield 54, 3, 2, 1) := by decide +kernel
theorem f97_25 : aF 25 zM97.2.2.2.2.2.2.2 = some (25, .if_icmp .ge 56, 3, 81, 0) := by decide +kernel
theorem f97_81 : aF 81 zM97.2.2.2.2.2.2.2 = some (81, .aload_n 0, 1, 0, 0) := by decide +kernel
theorem f97_82 : aF 82 zM97.2.2.2.2.2.2.2 = some (82, .getfield 22, 3, 8, 7) := by decide +kernel
theorem f97_85 : aF 85 zM97.2.2.2.2.2.2.2 = some (85, .iconst 0, 1, 0, 0) := by decide +kernel
theorem f97_86 : aF 86 zM97.2.2.2.2.2.2.2 = some (86, .invokestatic 64, 3, 332, 0) := by decide +kernel
theorem f97_89 : aF 89 zM97.2.2.2.2.2.2.2 = some (89, .iconst 0, 1, 0, 0) := by decide +kernel
theorem f97_90 : aF 90 zM97.2.2.2.2.2.2.2 = some (90, .istore_n 3, 1, 0, 0) := by decide +kernel
theorem f97_91 : aF 91 zM97.2.2.2.2.2.2.2 = some (91, .iload_n 3, 1, 0, 0) := by decide +kernel
theorem f97_92 : aF 92 zM97.2.2.2.2.2.2.2 = some (92, .bipush 24, 2, 0, 0) := by decide +kernel
theorem f97_94 : aF 94 zM97.2.2.2.2.2.2.2 = some (94, .if_icmp .ge 25, 3, 119, 0) := by decide +kernel
theorem f97_97 : aF 97 zM97.2.2.2.2.2.2.2 = some (97, .aload_n 0, 1, 0, 0) := by decide +kernel
theorem f97_98 : aF 98 zM97.2.2.2.2.2.2.2 = some (98, .getfield 28, 3, 8, 9) := by decide +kernel
theorem f97_101 : aF 101 zM97.2.2.2.2.2.2.2 = some (101, .iload_n 3, 1, 0, 0) := by decide +kernel
theorem f97_102 : aF 102 zM97.2.2.2.2.2.2.2 = some (102, .aload_n 0, 1, 0, 0) := by decide +kernel
theorem f97_103 : aF 103 zM97.2.2.2.2.2.2.2 = some (103, .iload_n 3, 1, 0, 0) := by decide +kernel
theorem f97_104 : aF 104 zM97.2.2.2.2.2.2.2 = some (104, .invokevirtual 70, 3, 103, 0) := by decide +kernel
theorem f97_107 : aF 107 zM97.2.2.2.2.2.2.2 = some (107, .iastore, 1, 0, 0) := by decide +kernel
theorem f97_108 : aF 108 zM97.2.2.2.2.2.2.2 = some (108, .aload_n 0, 1, 0, 0) := by decide +kernel
theorem f97_109 : aF 109 zM97.2.2.2.2.2.2.2 = some (109, .iload_n 3, 1, 0, 0) := by decide +kernel
theorem f97_110 : aF 110 zM97.2.2.2.2.2.2.2 = some (110, .invokevirtual 74, 3, 104, 0) := by decide +kernel
theorem f97_113 : aF 113 zM97.2.2.2.2.2.2.2 = some (113, .iinc 3 1, 3, 0, 0) := by decide +kernel
theorem f97_116 : aF 116 zM97.2.2.2.2.2.2.2 = some (116, .goto (-25), 3, 91, 0) := by decide +kernel
theorem f97_119 : aF 119 zM97.2.2.2.2.2.2.2 = some (119, .aload_n 0, 1, 0, 0) := by decide +kernel
theorem f97_120 : aF 120 zM97.2.2.2.2.2.2.2 = some (120, .invokevirtual 78, 3, 105, 0) := by decide +kernel
theorem f97_123 : aF 123 zM97.2.2.2.2.2.2.2 = some (123, .return_, 1, 0, 0) := by decide +kernel
theorem f103_0 : aF 0 zM103.2.2.2.2.2.2.2 = some (0, .iconst 0, 1, 0, 0) := by decide +kernel
theorem f103_1 : aF 1 zM103.2.2.2.2.2.2.2 = some (1, .istore_n 2, 1, 0, 0) := by decide +kernel
theorem f103_2 : aF 2 zM103.2.2.2.2.2.2.2 = some (2, .iconst 0, 1, 0, 0) := by decide +kernel
theorem f103_3 : aF 3 zM103.2.2.2.2.2.2.2 = some (3, .istore_n 3, 1, 0, 0) := by decide +kernel
theorem f103_4 : aF 4 zM103.2.2.2.2.2.2.2 = some (4, .iconst 0, 1, 0, 0) := by decide +kernel
theorem f103_5 : aF 5 zM103.2.2.2.2.2.2.2 = some (5, .istore 4, 2, 0, 0) := by decide +kernel
theorem f103_7 : aF 7 zM103.2.2.2.2.2.2.2 = some (7, .iconst 0, 1, 0, 0) := by decide +kernel
theorem f103_8 : aF 8 zM103.2.2.2.2.2.2.2 = some (8, .istore 5, 2, 0, 0) := by decide +kernel
theorem f103_10 : aF 10 zM103.2.2.2.2.2.2.2 = some (10, .iload 5, 2, 0, 0) := by decide +kernel
theorem f103_12 : aF 12 zM103.2.2.2.2.2.2.2 = some (12, .aload_n 0, 1, 0, 0) := by decide +kernel
theorem f103_13 : aF 13 zM103.2.2.2.2.2.2.2 = some (13, .getfield 51, 3, 8, 5) := by decide +kernel
theorem f103_16 : aF 16 zM103.2.2.2.2.2.2.2 = some (16, .if_icmp .ge 65, 3, 81, 0) := by decide +kernel
theorem f103_81 : aF 81 zM103.2.2.2.2.2.2.2 = some (81, .iload_n 3, 1, 0, 0) := by decide +kernel
theorem f103_82 : aF 82 zM103.2.2.2.2.2.2.2 = some (82, .iload_n 2, 1, 0, 0) := by decide +kernel
theorem f103_83 : aF 83 zM103.2.2.2.2.2.2.2 = some (83, .iload 4, 2, 0, 0) := by decide +kernel
theorem f103_85 : aF 85 zM103.2.2.2.2.2.2.2 = some (85, .iand, 1, 0, 0) := by decide +kernel
theorem f103_86 : aF 86 zM103.2.2.2.2.2.2.2 = some (86, .ior, 1, 0, 0) := by decide +kernel
theorem f103_87 : aF 87 zM103.2.2.2.2.2.2.2 = some (87, .ireturn, 1, 0, 0) := by decide +kernel
theorem f104_0 : aF 0 zM104.2.2.2.2.2.2.2 = some (0, .aload_n 0, 1, 0, 0) := by decide +kernel
theorem f104_1 : aF 1 zM104.2.2.2.2.2.2.2 = some (1, .getfield 28, 3, 8, 9) := by decide +kernel
theorem f104_4 : aF 4 zM104.2.2.2.2.2.2.2 = some (4, .iload_n 1, 1, 0, 0) := by decide +kernel
theorem f104_5 : aF 5 zM104.2.2.2.2.2.2.2 = some (5, .iaload, 1, 0, 0) := by decide +kernel
theorem f104_6 : aF 6 zM104.2.2.2.2.2.2.2 = some (6, .aload_n 0, 1, 0, 0) := by decide +kernel
theorem f104_7 : aF 7 zM104.2.2.2.2.2.2.2 = some (7, .getfield 44, 3, 8, 1) := by decide +kernel
theorem f104_10 : aF 10 zM104.2.2.2.2.2.2.2 = some (10, .iload_n 1, 1, 0, 0) := by decide +kernel
theorem f104_11 : aF 11 zM104.2.2.2.2.2.2.2 = some (11, .aload_n 0, 1, 0, 0) := by decide +kernel
theorem f104_12 : aF 12 zM104.2.2.2.2.2.2.2 = some (12, .getfield 48, 3, 8, 2) := by decide +kernel
theorem f104_15 : aF 15 zM104.2.2.2.2.2.2.2 = some (15, .aload_n 0, 1, 0, 0) := by decide +kernel
theorem f104_16 : aF 16 zM104.2.2.2.2.2.2.2 = some (16, .getfield 9, 3, 8, 3) := by decide +kernel
theorem f104_19 : aF 19 zM104.2.2.2.2.2.2.2 = some (19, .invokevirtual 104, 3, 33, 0) := by decide +kernel
theorem f104_22 : aF 22 zM104.2.2.2.2.2.2.2 = some (22, .ior, 1, 0, 0) := by decide +kernel
theorem f104_23 : aF 23 zM104.2.2.2.2.2.2.2 = some (23, .istore_n 2, 1, 0, 0) := by decide +kernel
theorem f104_24 : aF 24 zM104.2.2.2.2.2.2.2 = some (24, .iconst 0, 1, 0, 0) := by decide +kernel
theorem f104_25 : aF 25 zM104.2.2.2.2.2.2.2 = some (25, .istore_n 3, 1, 0, 0) := by decide +kernel
theorem f104_26 : aF 26 zM104.2.2.2.2.2.2.2 = some (26, .iconst 0, 1, 0, 0) := by decide +kernel
theorem f104_27 : aF 27 zM104.2.2.2.2.2.2.2 = some (27, .istore 4, 2, 0, 0) := by decide +kernel
theorem f104_29 : aF 29 zM104.2.2.2.2.2.2.2 = some (29, .iload 4, 2, 0, 0) := by decide +kernel
theorem f104_31 : aF 31 zM104.2.2.2.2.2.2.2 = some (31, .aload_n 0, 1, 0, 0) := by decide +kernel
theorem f104_32 : aF 32 zM104.2.2.2.2.2.2.2 = some (32, .getfield 51, 3, 8, 5) := by decide +kernel
theorem f104_35 : aF 35 zM104.2.2.2.2.2.2.2 = some (35, .if_icmp .ge 77, 3, 112, 0) := by decide +kernel
theorem f104_112 : aF 112 zM104.2.2.2.2.2.2.2 = some (112, .return_, 1, 0, 0) := by decide +kernel
theorem f105_0 : aF 0 zM105.2.2.2.2.2.2.2 = some (0, .aload_n 0, 1, 0, 0) := by decide +kernel
theorem f105_1 : aF 1 zM105.2.2.2.2.2.2.2 = some (1, .getfield 31, 3, 8, 10) := by decide +kernel
theorem f105_4 : aF 4 zM105.2.2.2.2.2.2.2 = some (4, .iconst 0, 1, 0, 0) := by decide +kernel
theorem f105_5 : aF 5 zM105.2.2.2.2.2.2.2 = some (5, .invokestatic 64, 3, 332, 0) := by decide +kernel
theorem f105_8 : aF 8 zM105.2.2.2.2.2.2.2 = some (8, .aload_n 0, 1, 0, 0) := by decide +kernel
theorem f105_9 : aF 9 zM105.2.2.2.2.2.2.2 = some (9, .getfield 34, 3, 8, 11) := by decide +kernel
theorem f105_12 : aF 12 zM105.2.2.2.2.2.2.2 = some (12, .iconst 0, 1, 0, 0) := by decide +kernel
theorem f105_13 : aF 13 zM105.2.2.2.2.2.2.2 = some (13, .invokestatic 64, 3, 332, 0) := by decide +kernel
theorem f105_16 : aF 16 zM105.2.2.2.2.2.2.2 = some (16, .aload_n 0, 1, 0, 0) := by decide +kernel
theorem f105_17 : aF 17 zM105.2.2.2.2.2.2.2 = some (17, .getfield 37, 3, 8, 12) := by decide +kernel
theorem f105_20 : aF 20 zM105.2.2.2.2.2.2.2 = some (20, .iconst (-1), 1, 0, 0) := by decide +kernel
theorem f105_21 : aF 21 zM105.2.2.2.2.2.2.2 = some (21, .invokestatic 64, 3, 332, 0) := by decide +kernel
theorem f105_24 : aF 24 zM105.2.2.2.2.2.2.2 = some (24, .iconst 0, 1, 0, 0) := by decide +kernel
theorem f105_25 : aF 25 zM105.2.2.2.2.2.2.2 = some (25, .istore_n 1, 1, 0, 0) := by decide +kernel
theorem f105_26 : aF 26 zM105.2.2.2.2.2.2.2 = some (26, .iload_n 1, 1, 0, 0) := by decide +kernel
theorem f105_27 : aF 27 zM105.2.2.2.2.2.2.2 = some (27, .aload_n 0, 1, 0, 0) := by decide +kernel
theorem f105_28 : aF 28 zM105.2.2.2.2.2.2.2 = some (28, .getfield 51, 3, 8, 5) := by decide +kernel
theorem f105_31 : aF 31 zM105.2.2.2.2.2.2.2 = some (31, .if_icmp .ge 102, 3, 133, 0) := by decide +kernel
theorem f105_133 : aF 133 zM105.2.2.2.2.2.2.2 = some (133, .return_, 1, 0, 0) := by decide +kernel
theorem f109_0 : aF 0 zM109.2.2.2.2.2.2.2 = some (0, .aload_n 0, 1, 0, 0) := by decide +kernel
theorem f109_1 : aF 1 zM109.2.2.2.2.2.2.2 = some (1, .getfield 9, 3, 9, 0) := by decide +kernel
theorem f109_4 : aF 4 zM109.2.2.2.2.2.2.2 = some (4, .iload_n 1, 1, 0, 0) := by decide +kernel
theorem f109_5 : aF 5 zM109.2.2.2.2.2.2.2 = some (5, .iload_n 2, 1, 0, 0) := by decide +kernel
theorem f109_6 : aF 6 zM109.2.2.2.2.2.2.2 = some (6, .iastore, 1, 0, 0) := by decide +kernel
theorem f109_7 : aF 7 zM109.2.2.2.2.2.2.2 = some (7, .aload_n 0, 1, 0, 0) := by decide +kernel
theorem f109_8 : aF 8 zM109.2.2.2.2.2.2.2 = some (8, .getfield 15, 3, 9, 1) := by decide +kernel
theorem f109_11 : aF 11 zM109.2.2.2.2.2.2.2 = some (11, .iload_n 1, 1, 0, 0) := by decide +kernel
theorem f109_12 : aF 12 zM109.2.2.2.2.2.2.2 = some (12, .iload_n 3, 1, 0, 0) := by decide +kernel
theorem f109_13 : aF 13 zM109.2.2.2.2.2.2.2 = some (13, .iastore, 1, 0, 0) := by decide +kernel
theorem f109_14 : aF 14 zM109.2.2.2.2.2.2.2 = some (14, .aload_n 0, 1, 0, 0) := by decide +kernel
theorem f109_15 : aF 15 zM109.2.2.2.2.2.2.2 = some (15, .getfield 18, 3, 9, 2) := by decide +kernel
theorem f109_18 : aF 18 zM109.2.2.2.2.2.2.2 = some (18, .iload_n 1, 1, 0, 0) := by decide +kernel
theorem f109_19 : aF 19 zM109.2.2.2.2.2.2.2 = some (19, .bipush 60, 2, 0, 0) := by decide +kernel
theorem f109_21 : aF 21 zM109.2.2.2.2.2.2.2 = some (21, .imul, 1, 0, 0) := by decide +kernel
theorem f109_22 : aF 22 zM109.2.2.2.2.2.2.2 = some (22, .iload_n 1, 1, 0, 0) := by decide +kernel
theorem f109_23 : aF 23 zM109.2.2.2.2.2.2.2 = some (23, .bipush 60, 2, 0, 0) := by decide +kernel
theorem f109_25 : aF 25 zM109.2.2.2.2.2.2.2 = some (25, .imul, 1, 0, 0) := by decide +kernel
theorem f109_26 : aF 26 zM109.2.2.2.2.2.2.2 = some (26, .iload_n 3, 1, 0, 0) := by decide +kernel
theorem f109_27 : aF 27 zM109.2.2.2.2.2.2.2 = some (27, .iadd, 1, 0, 0) := by decide +kernel
theorem f109_28 : aF 28 zM109.2.2.2.2.2.2.2 = some (28, .lconst 0, 1, 0, 0) := by decide +kernel
theorem f109_29 : aF 29 zM109.2.2.2.2.2.2.2 = some (29, .invokestatic 22, 3, 331, 0) := by decide +kernel
theorem f109_32 : aF 32 zM109.2.2.2.2.2.2.2 = some (32, .iconst 1, 1, 0, 0) := by decide +kernel
theorem f109_33 : aF 33 zM109.2.2.2.2.2.2.2 = some (33, .ireturn, 1, 0, 0) := by decide +kernel
theorem f175_0 : aF 0 zM175.2.2.2.2.2.2.2 = some (0, .iload_n 1, 1, 0, 0) := by decide +kernel
theorem f175_1 : aF 1 zM175.2.2.2.2.2.2.2 = some (1, .invokestatic 187, 3, 139, 0) := by decide +kernel
theorem f175_4 : aF 4 zM175.2.2.2.2.2.2.2 = some (4, .ifCond .eq 28, 3, 32, 0) := by decide +kernel
theorem f175_7 : aF 7 zM175.2.2.2.2.2.2.2 = some (7, .aload_n 0, 1, 0, 0) := by decide +kernel
theorem f175_8 : aF 8 zM175.2.2.2.2.2.2.2 = some (8, .getfield 53, 3, 11, 5) := by decide +kernel
theorem f175_11 : aF 11 zM175.2.2.2.2.2.2.2 = some (11, .aload_n 0, 1, 0, 0) := by decide +kernel
theorem f175_12 : aF 12 zM175.2.2.2.2.2.2.2 = some (12, .getfield 44, 3, 11, 4) := by decide +kernel
theorem f175_15 : aF 15 zM175.2.2.2.2.2.2.2 = some (15, .iload_n 1, 1, 0, 0) := by decide +kernel
theorem f175_16 : aF 16 zM175.2.2.2.2.2.2.2 = some (16, .aload_n 0, 1, 0, 0) := by decide +kernel
theorem f175_17 : aF 17 zM175.2.2.2.2.2.2.2 = some (17, .getfield 12, 3, 11, 0) := by decide +kernel
theorem f175_20 : aF 20 zM175.2.2.2.2.2.2.2 = some (20, .getfield 93, 3, 6, 0) := by decide +kernel
theorem f175_23 : aF 23 zM175.2.2.2.2.2.2.2 = some (23, .invokevirtual 190, 3, 1, 0) := by decide +kernel
theorem f175_26 : aF 26 zM175.2.2.2.2.2.2.2 = some (26, .invokevirtual 293, 3, 53, 0) := by decide +kernel
theorem f175_29 : aF 29 zM175.2.2.2.2.2.2.2 = some (29, .goto 4, 3, 33, 0) := by decide +kernel
theorem f175_32 : aF 32 zM175.2.2.2.2.2.2.2 = some (32, .iconst (-1), 1, 0, 0) := by decide +kernel
theorem f175_33 : aF 33 zM175.2.2.2.2.2.2.2 = some (33, .ireturn, 1, 0, 0) := by decide +kernel
theorem f178_0 : aF 0 zM178.2.2.2.2.2.2.2 = some (0, .iload_n 1, 1, 0, 0) := by decide +kernel
theorem f178_1 : aF 1 zM178.2.2.2.2.2.2.2 = some (1, .invokestatic 89, 3, 140, 0) := by decide +kernel
theorem f178_4 : aF 4 zM178.2.2.2.2.2.2.2 = some (4, .ifCond .eq 20, 3, 24, 0) := by decide +kernel
theorem f178_7 : aF 7 zM178.2.2.2.2.2.2.2 = some (7, .iload_n 2, 1, 0, 0) := by decide +kernel
theorem f178_8 : aF 8 zM178.2.2.2.2.2.2.2 = some (8, .invokestatic 187, 3, 139, 0) := by decide +kernel
theorem f178_11 : aF 11 zM178.2.2.2.2.2.2.2 = some (11, .ifCond .eq 13, 3, 24, 0) := by decide +kernel
theorem f178_14 : aF 14 zM178.2.2.2.2.2.2.2 = some (14, .iload_n 3, 1, 0, 0) := by decide +kernel
theorem f178_15 : aF 15 zM178.2.2.2.2.2.2.2 = some (15, .iconst 1, 1, 0, 0) := by decide +kernel
theorem f178_16 : aF 16 zM178.2.2.2.2.2.2.2 = some (16, .bipush 9, 2, 0, 0) := by decide +kernel
theorem f178_18 : aF 18 zM178.2.2.2.2.2.2.2 = some (18, .invokestatic 85, 3, 137, 0) := by decide +kernel
theorem f178_21 : aF 21 zM178.2.2.2.2.2.2.2 = some (21, .ifCond .ne 5, 3, 26, 0) := by decide +kernel
theorem f178_24 : aF 24 zM178.2.2.2.2.2.2.2 = some (24, .iconst (-1), 1, 0, 0) := by decide +kernel
theorem f178_25 : aF 25 zM178.2.2.2.2.2.2.2 = some (25, .ireturn, 1, 0, 0) := by decide +kernel
theorem f178_26 : aF 26 zM178.2.2.2.2.2.2.2 = some (26, .aload_n 0, 1, 0, 0) := by decide +kernel
theorem f178_27 : aF 27 zM178.2.2.2.2.2.2.2 = some (27, .getfield 53, 3, 11, 5) := by decide +kernel
theorem f178_30 : aF 30 zM178.2.2.2.2.2.2.2 = some (30, .iload_n 1, 1, 0, 0) := by decide +kernel
theorem f178_31 : aF 31 zM178.2.2.2.2.2.2.2 = some (31, .iload_n 2, 1, 0, 0) := by decide +kernel
theorem f178_32 : aF 32 zM178.2.2.2.2.2.2.2 = some (32, .iload_n 3, 1, 0, 0) := by decide +kernel
theorem f178_33 : aF 33 zM178.2.2.2.2.2.2.2 = some (33, .invokevirtual 306, 3, 61, 0) := by decide +kernel
theorem f178_36 : aF 36 zM178.2.2.2.2.2.2.2 = some (36, .ireturn, 1, 0, 0) := by decide +kernel
theorem f180_0 : aF 0 zM180.2.2.2.2.2.2.2 = some (0, .iload_n 1, 1, 0, 0) := by decide +kernel
theorem f180_1 : aF 1 zM180.2.2.2.2.2.2.2 = some (1, .invokestatic 187, 3, 139, 0) := by decide +kernel
theorem f180_4 : aF 4 zM180.2.2.2.2.2.2.2 = some (4, .ifCond .eq 12, 3, 16, 0) := by decide +kernel
theorem f180_7 : aF 7 zM180.2.2.2.2.2.2.2 = some (7, .iload_n 2, 1, 0, 0) := by decide +kernel
theorem f180_8 : aF 8 zM180.2.2.2.2.2.2.2 = some (8, .iconst 0, 1, 0, 0) := by decide +kernel
theorem f180_9 : aF 9 zM180.2.2.2.2.2.2.2 = some (9, .iconst 2, 1, 0, 0) := by decide +kernel
theorem f180_10 : aF 10 zM180.2.2.2.2.2.2.2 = some (10, .invokestatic 85, 3, 137, 0) := by decide +kernel
theorem f180_13 : aF 13 zM180.2.2.2.2.2.2.2 = some (13, .ifCond .ne 5, 3, 18, 0) := by decide +kernel
theorem f180_16 : aF 16 zM180.2.2.2.2.2.2.2 = some (16, .iconst (-1), 1, 0, 0) := by decide +kernel
theorem f180_17 : aF 17 zM180.2.2.2.2.2.2.2 = some (17, .ireturn, 1, 0, 0) := by decide +kernel
theorem f180_18 : aF 18 zM180.2.2.2.2.2.2.2 = some (18, .iload_n 2, 1, 0, 0) := by decide +kernel
theorem f180_19 : aF 19 zM180.2.2.2.2.2.2.2 = some (19, .iconst 2, 1, 0, 0) := by decide +kernel
theorem f180_20 : aF 20 zM180.2.2.2.2.2.2.2 = some (20, .if_icmp .ne 31, 3, 51, 0) := by decide +kernel
theorem f180_23 : aF 23 zM180.2.2.2.2.2.2.2 = some (23, .iload_n 3, 1, 0, 0) := by decide +kernel
theorem f180_24 : aF 24 zM180.2.2.2.2.2.2.2 = some (24, .bipush 100, 2, 0, 0) := by decide +kernel
theorem f180_26 : aF 26 zM180.2.2.2.2.2.2.2 = some (26, .idiv, 1, 0, 0) := by decide +kernel
theorem f180_27 : aF 27 zM180.2.2.2.2.2.2.2 = some (27, .iconst 1, 1, 0, 0) := by decide +kernel
theorem f180_28 : aF 28 zM180.2.2.2.2.2.2.2 = some (28, .bipush 99, 2, 0, 0) := by decide +kernel
theorem f180_30 : aF 30 zM180.2.2.2.2.2.2.2 = some (30, .invokestatic 85, 3, 137, 0) := by decide +kernel
theorem f180_33 : aF 33 zM180.2.2.2.2.2.2.2 = some (33, .ifCond .eq 16, 3, 49, 0) := by decide +kernel
theorem f180_36 : aF 36 zM180.2.2.2.2.2.2.2 = some (36, .iload_n 3, 1, 0, 0) := by decide +kernel
theorem f180_37 : aF 37 zM180.2.2.2.2.2.2.2 = some (37, .bipush 100, 2, 0, 0) := by decide +kernel
theorem f180_39 : aF 39 zM180.2.2.2.2.2.2.2 = some (39, .irem, 1, 0, 0) := by decide +kernel
theorem f180_40 : aF 40 zM180.2.2.2.2.2.2.2 = some (40, .iconst 1, 1, 0, 0) := by decide +kernel
theorem f180_41 : aF 41 zM180.2.2.2.2.2.2.2 = some (41, .bipush 49, 2, 0, 0) := by decide +kernel
theorem f180_43 : aF 43 zM180.2.2.2.2.2.2.2 = some (43, .invokestatic 85, 3, 137, 0) := by decide +kernel
theorem f180_46 : aF 46 zM180.2.2.2.2.2.2.2 = some (46, .ifCond .ne 5, 3, 51, 0) := by decide +kernel
theorem f180_49 : aF 49 zM180.2.2.2.2.2.2.2 = some (49, .iconst (-1), 1, 0, 0) := by decide +kernel
theorem f180_50 : aF 50 zM180.2.2.2.2.2.2.2 = some (50, .ireturn, 1, 0, 0) := by decide +kernel
theorem f180_51 : aF 51 zM180.2.2.2.2.2.2.2 = some (51, .aload_n 0, 1, 0, 0) := by decide +kernel
theorem f180_52 : aF 52 zM180.2.2.2.2.2.2.2 = some (52, .getfield 53, 3, 11, 5) := by decide +kernel
theorem f180_55 : aF 55 zM180.2.2.2.2.2.2.2 = some (55, .iload_n 1, 1, 0, 0) := by decide +kernel
theorem f180_56 : aF 56 zM180.2.2.2.2.2.2.2 = some (56, .invokevirtual 315, 3, 66, 0) := by decide +kernel
theorem f180_59 : aF 59 zM180.2.2.2.2.2.2.2 = some (59, .iload_n 2, 1, 0, 0) := by decide +kernel
theorem f180_60 : aF 60 zM180.2.2.2.2.2.2.2 = some (60, .lookupswitch 44 #[(0, 28), (1, 36)], 28, 0, 0) := by decide +kernel
theorem f180_88 : aF 88 zM180.2.2.2.2.2.2.2 = some (88, .aload_n 0, 1, 0, 0) := by decide +kernel
theorem f180_89 : aF 89 zM180.2.2.2.2.2.2.2 = some (89, .getfield 53, 3, 11, 5) := by decide +kernel
theorem f180_92 : aF 92 zM180.2.2.2.2.2.2.2 = some (92, .getfield 318, 3, 5, 13) := by decide +kernel
theorem f180_95 : aF 95 zM180.2.2.2.2.2.2.2 = some (95, .ireturn, 1, 0, 0) := by decide +kernel
theorem f180_96 : aF 96 zM180.2.2.2.2.2.2.2 = some (96, .aload_n 0, 1, 0, 0) := by decide +kernel
theorem f180_97 : aF 97 zM180.2.2.2.2.2.2.2 = some (97, .getfield 53, 3, 11, 5) := by decide +kernel
theorem f180_100 : aF 100 zM180.2.2.2.2.2.2.2 = some (100, .getfield 321, 3, 5, 14) := by decide +kernel
theorem f180_103 : aF 103 zM180.2.2.2.2.2.2.2 = some (103, .ireturn, 1, 0, 0) := by decide +kernel
theorem f180_104 : aF 104 zM180.2.2.2.2.2.2.2 = some (104, .aload_n 0, 1, 0, 0) := by decide +kernel
theorem f180_105 : aF 105 zM180.2.2.2.2.2.2.2 = some (105, .getfield 53, 3, 11, 5) := by decide +kernel
theorem f180_108 : aF 108 zM180.2.2.2.2.2.2.2 = some (108, .iload_n 3, 1, 0, 0) := by decide +kernel
theorem f180_109 : aF 109 zM180.2.2.2.2.2.2.2 = some (109, .bipush 100, 2, 0, 0) := by decide +kernel
theorem f180_111 : aF 111 zM180.2.2.2.2.2.2.2 = some (111, .idiv, 1, 0, 0) := by decide +kernel
theorem f180_112 : aF 112 zM180.2.2.2.2.2.2.2 = some (112, .iload_n 3, 1, 0, 0) := by decide +kernel
theorem f180_113 : aF 113 zM180.2.2.2.2.2.2.2 = some (113, .bipush 100, 2, 0, 0) := by decide +kernel
theorem f180_115 : aF 115 zM180.2.2.2.2.2.2.2 = some (115, .irem, 1, 0, 0) := by decide +kernel
theorem f180_116 : aF 116 zM180.2.2.2.2.2.2.2 = some (116, .invokevirtual 324, 3, 67, 0) := by decide +kernel
theorem f180_119 : aF 119 zM180.2.2.2.2.2.2.2 = some (119, .ireturn, 1, 0, 0) := by decide +kernel
theorem f189_0 : aF 0 zM189.2.2.2.2.2.2.2 = some (0, .iload_n 1, 1, 0, 0) := by decide +kernel
theorem f189_1 : aF 1 zM189.2.2.2.2.2.2.2 = some (1, .invokestatic 235, 3, 142, 0) := by decide +kernel
theorem f189_4 : aF 4 zM189.2.2.2.2.2.2.2 = some (4, .ifCond .eq 18, 3, 22, 0) := by decide +kernel
theorem f189_7 : aF 7 zM189.2.2.2.2.2.2.2 = some (7, .iload_n 2, 1, 0, 0) := by decide +kernel
theorem f189_8 : aF 8 zM189.2.2.2.2.2.2.2 = some (8, .iconst 0, 1, 0, 0) := by decide +kernel
theorem f189_9 : aF 9 zM189.2.2.2.2.2.2.2 = some (9, .iconst 4, 1, 0, 0) := by decide +kernel
theorem f189_10 : aF 10 zM189.2.2.2.2.2.2.2 = some (10, .invokestatic 85, 3, 137, 0) := by decide +kernel
theorem f189_13 : aF 13 zM189.2.2.2.2.2.2.2 = some (13, .ifCond .eq 9, 3, 22, 0) := by decide +kernel
theorem f189_16 : aF 16 zM189.2.2.2.2.2.2.2 = some (16, .iload_n 3, 1, 0, 0) := by decide +kernel
theorem f189_17 : aF 17 zM189.2.2.2.2.2.2.2 = some (17, .bipush 60, 2, 0, 0) := by decide +kernel
theorem f189_19 : aF 19 zM189.2.2.2.2.2.2.2 = some (19, .if_icmp .le 5, 3, 24, 0) := by decide +kernel
theorem f189_22 : aF 22 zM189.2.2.2.2.2.2.2 = some (22, .iconst (-1), 1, 0, 0) := by decide +kernel
theorem f189_23 : aF 23 zM189.2.2.2.2.2.2.2 = some (23, .ireturn, 1, 0, 0) := by decide +kernel
theorem f189_24 : aF 24 zM189.2.2.2.2.2.2.2 = some (24, .iload_n 3, 1, 0, 0) := by decide +kernel
theorem f189_25 : aF 25 zM189.2.2.2.2.2.2.2 = some (25, .ifCond .ge 8, 3, 33, 0) := by decide +kernel
theorem f189_28 : aF 28 zM189.2.2.2.2.2.2.2 = some (28, .bipush (-14), 2, 0, 0) := by decide +kernel
theorem f189_30 : aF 30 zM189.2.2.2.2.2.2.2 = some (30, .goto 13, 3, 43, 0) := by decide +kernel
theorem f189_33 : aF 33 zM189.2.2.2.2.2.2.2 = some (33, .aload_n 0, 1, 0, 0) := by decide +kernel
theorem f189_34 : aF 34 zM189.2.2.2.2.2.2.2 = some (34, .getfield 81, 3, 11, 9) := by decide +kernel
theorem f189_37 : aF 37 zM189.2.2.2.2.2.2.2 = some (37, .iload_n 1, 1, 0, 0) := by decide +kernel
theorem f189_38 : aF 38 zM189.2.2.2.2.2.2.2 = some (38, .iload_n 2, 1, 0, 0) := by decide +kernel
theorem f189_39 : aF 39 zM189.2.2.2.2.2.2.2 = some (39, .iload_n 3, 1, 0, 0) := by decide +kernel
theorem f189_40 : aF 40 zM189.2.2.2.2.2.2.2 = some (40, .invokevirtual 370, 3, 109, 0) := by decide +kernel
theorem f189_43 : aF 43 zM189.2.2.2.2.2.2.2 = some (43, .ireturn, 1, 0, 0) := by decide +kernel
theorem f211_0 : aF 0 zM211.2.2.2.2.2.2.2 = some (0, .iload_n 0, 1, 0, 0) := by decide +kernel
theorem f211_1 : aF 1 zM211.2.2.2.2.2.2.2 = some (1, .iload_n 1, 1, 0, 0) := by decide +kernel
theorem f211_2 : aF 2 zM211.2.2.2.2.2.2.2 = some (2, .if_icmp .ge 7, 3, 9, 0) := by decide +kernel
theorem f211_9 : aF 9 zM211.2.2.2.2.2.2.2 = some (9, .iload_n 1, 1, 0, 0) := by decide +kernel
theorem f211_10 : aF 10 zM211.2.2.2.2.2.2.2 = some (10, .ireturn, 1, 0, 0) := by decide +kernel
theorem f233_0 : aF 0 zM233.2.2.2.2.2.2.2 = some (0, .iconst 0, 1, 0, 0) := by decide +kernel
theorem f233_1 : aF 1 zM233.2.2.2.2.2.2.2 = some (1, .istore 5, 2, 0, 0) := by decide +kernel
theorem f233_3 : aF 3 zM233.2.2.2.2.2.2.2 = some (3, .iload 5, 2, 0, 0) := by decide +kernel
theorem f233_5 : aF 5 zM233.2.2.2.2.2.2.2 = some (5, .aload_n 0, 1, 0, 0) := by decide +kernel
theorem f233_6 : aF 6 zM233.2.2.2.2.2.2.2 = some (6, .getfield 339, 3, 12, 25) := by decide +kernel
theorem f233_9 : aF 9 zM233.2.2.2.2.2.2.2 = some (9, .if_icmp .ge 80, 3, 89, 0) := by decide +kernel
theorem f233_89 : aF 89 zM233.2.2.2.2.2.2.2 = some (89, .iconst 0, 1, 0, 0) := by decide +kernel
theorem f233_90 : aF 90 zM233.2.2.2.2.2.2.2 = some (90, .ireturn, 1, 0, 0) := by decide +kernel
theorem f236_0 : aF 0 zM236.2.2.2.2.2.2.2 = some (0, .iconst 0, 1, 0, 0) := by decide +kernel
theorem f236_1 : aF 1 zM236.2.2.2.2.2.2.2 = some (1, .istore_n 3, 1, 0, 0) := by decide +kernel
theorem f236_2 : aF 2 zM236.2.2.2.2.2.2.2 = some (2, .iload_n 3, 1, 0, 0) := by decide +kernel
theorem f236_3 : aF 3 zM236.2.2.2.2.2.2.2 = some (3, .sipush 576, 3, 0, 0) := by decide +kernel
theorem f236_6 : aF 6 zM236.2.2.2.2.2.2.2 = some (6, .if_icmp .ge 43, 3, 49, 0) := by decide +kernel
theorem f236_9 : aF 9 zM236.2.2.2.2.2.2.2 = some (9, .aload_n 0, 1, 0, 0) := by decide +kernel
theorem f236_10 : aF 10 zM236.2.2.2.2.2.2.2 = some (10, .getfield 121, 3, 12, 44) := by decide +kernel
theorem f236_13 : aF 13 zM236.2.2.2.2.2.2.2 = some (13, .iload_n 3, 1, 0, 0) := by decide +kernel
theorem f236_14 : aF 14 zM236.2.2.2.2.2.2.2 = some (14, .iconst (-1), 1, 0, 0) := by decide +kernel
theorem f236_15 : aF 15 zM236.2.2.2.2.2.2.2 = some (15, .iastore, 1, 0, 0) := by decide +kernel
theorem f236_16 : aF 16 zM236.2.2.2.2.2.2.2 = some (16, .aload_n 0, 1, 0, 0) := by decide +kernel
theorem f236_17 : aF 17 zM236.2.2.2.2.2.2.2 = some (17, .getfield 124, 3, 12, 45) := by decide +kernel
theorem f236_20 : aF 20 zM236.2.2.2.2.2.2.2 = some (20, .iload_n 3, 1, 0, 0) := by decide +kernel
theorem f236_21 : aF 21 zM236.2.2.2.2.2.2.2 = some (21, .iconst 0, 1, 0, 0) := by decide +kernel
theorem f236_22 : aF 22 zM236.2.2.2.2.2.2.2 = some (22, .bastore, 1, 0, 0) := by decide +kernel
theorem f236_23 : aF 23 zM236.2.2.2.2.2.2.2 = some (23, .aload_n 0, 1, 0, 0) := by decide +kernel
theorem f236_24 : aF 24 zM236.2.2.2.2.2.2.2 = some (24, .getfield 127, 3, 12, 46) := by decide +kernel
theorem f236_27 : aF 27 zM236.2.2.2.2.2.2.2 = some (27, .iload_n 3, 1, 0, 0) := by decide +kernel
theorem f236_28 : aF 28 zM236.2.2.2.2.2.2.2 = some (28, .aload_n 0, 1, 0, 0) := by decide +kernel
theorem f236_29 : aF 29 zM236.2.2.2.2.2.2.2 = some (29, .iload_n 3, 1, 0, 0) := by decide +kernel
theorem f236_30 : aF 30 zM236.2.2.2.2.2.2.2 = some (30, .bipush 24, 2, 0, 0) := by decide +kernel
theorem f236_32 : aF 32 zM236.2.2.2.2.2.2.2 = some (32, .irem, 1, 0, 0) := by decide +kernel
theorem f236_33 : aF 33 zM236.2.2.2.2.2.2.2 = some (33, .iload_n 3, 1, 0, 0) := by decide +kernel
theorem f236_34 : aF 34 zM236.2.2.2.2.2.2.2 = some (34, .bipush 24, 2, 0, 0) := by decide +kernel
theorem f236_36 : aF 36 zM236.2.2.2.2.2.2.2 = some (36, .idiv, 1, 0, 0) := by decide +kernel
theorem f236_37 : aF 37 zM236.2.2.2.2.2.2.2 = some (37, .iload_n 1, 1, 0, 0) := by decide +kernel
theorem f236_38 : aF 38 zM236.2.2.2.2.2.2.2 = some (38, .iload_n 2, 1, 0, 0) := by decide +kernel
theorem f236_39 : aF 39 zM236.2.2.2.2.2.2.2 = some (39, .invokevirtual 345, 3, 233, 0) := by decide +kernel
theorem f236_42 : aF 42 zM236.2.2.2.2.2.2.2 = some (42, .bastore, 1, 0, 0) := by decide +kernel
theorem f236_43 : aF 43 zM236.2.2.2.2.2.2.2 = some (43, .iinc 3 1, 3, 0, 0) := by decide +kernel
theorem f236_46 : aF 46 zM236.2.2.2.2.2.2.2 = some (46, .goto (-44), 3, 2, 0) := by decide +kernel
theorem f236_49 : aF 49 zM236.2.2.2.2.2.2.2 = some (49, .iconst 0, 1, 0, 0) := by decide +kernel
theorem f236_50 : aF 50 zM236.2.2.2.2.2.2.2 = some (50, .istore_n 3, 1, 0, 0) := by decide +kernel
theorem f236_51 : aF 51 zM236.2.2.2.2.2.2.2 = some (51, .iload_n 3, 1, 0, 0) := by decide +kernel
theorem f236_52 : aF 52 zM236.2.2.2.2.2.2.2 = some (52, .aload_n 0, 1, 0, 0) := by decide +kernel
theorem f236_53 : aF 53 zM236.2.2.2.2.2.2.2 = some (53, .getfield 336, 3, 12, 19) := by decide +kernel
theorem f236_56 : aF 56 zM236.2.2.2.2.2.2.2 = some (56, .if_icmp .ge 115, 3, 171, 0) := by decide +kernel
theorem f236_171 : aF 171 zM236.2.2.2.2.2.2.2 = some (171, .return_, 1, 0, 0) := by decide +kernel
theorem f239_0 : aF 0 zM239.2.2.2.2.2.2.2 = some (0, .aload_n 0, 1, 0, 0) := by decide +kernel
theorem f239_1 : aF 1 zM239.2.2.2.2.2.2.2 = some (1, .getfield 100, 3, 12, 38) := by decide +kernel
theorem f239_4 : aF 4 zM239.2.2.2.2.2.2.2 = some (4, .ifCond .ne 12, 3, 16, 0) := by decide +kernel
theorem f239_16 : aF 16 zM239.2.2.2.2.2.2.2 = some (16, .aload_n 0, 1, 0, 0) := by decide +kernel
theorem f239_17 : aF 17 zM239.2.2.2.2.2.2.2 = some (17, .iconst 0, 1, 0, 0) := by decide +kernel
theorem f239_18 : aF 18 zM239.2.2.2.2.2.2.2 = some (18, .putfield 100, 3, 12, 38) := by decide +kernel
theorem f239_21 : aF 21 zM239.2.2.2.2.2.2.2 = some (21, .aload_n 0, 1, 0, 0) := by decide +kernel
theorem f239_22 : aF 22 zM239.2.2.2.2.2.2.2 = some (22, .iload_n 1, 1, 0, 0) := by decide +kernel
theorem f239_23 : aF 23 zM239.2.2.2.2.2.2.2 = some (23, .putfield 104, 3, 12, 39) := by decide +kernel
theorem f239_26 : aF 26 zM239.2.2.2.2.2.2.2 = some (26, .iconst 0, 1, 0, 0) := by decide +kernel
theorem f239_27 : aF 27 zM239.2.2.2.2.2.2.2 = some (27, .istore_n 2, 1, 0, 0) := by decide +kernel
theorem f239_28 : aF 28 zM239.2.2.2.2.2.2.2 = some (28, .iload_n 2, 1, 0, 0) := by decide +kernel
theorem f239_29 : aF 29 zM239.2.2.2.2.2.2.2 = some (29, .aload_n 0, 1, 0, 0) := by decide +kernel
theorem f239_30 : aF 30 zM239.2.2.2.2.2.2.2 = some (30, .getfield 336, 3, 12, 19) := by decide +kernel
theorem f239_33 : aF 33 zM239.2.2.2.2.2.2.2 = some (33, .if_icmp .ge 21, 3, 54, 0) := by decide +kernel
theorem f239_54 : aF 54 zM239.2.2.2.2.2.2.2 = some (54, .iconst 0, 1, 0, 0) := by decide +kernel
theorem f239_55 : aF 55 zM239.2.2.2.2.2.2.2 = some (55, .istore_n 2, 1, 0, 0) := by decide +kernel
theorem f239_56 : aF 56 zM239.2.2.2.2.2.2.2 = some (56, .iload_n 2, 1, 0, 0) := by decide +kernel
theorem f239_57 : aF 57 zM239.2.2.2.2.2.2.2 = some (57, .bipush 10, 2, 0, 0) := by decide +kernel
theorem f239_59 : aF 59 zM239.2.2.2.2.2.2.2 = some (59, .if_icmp .ge 90, 3, 149, 0) := by decide +kernel
theorem f239_62 : aF 62 zM239.2.2.2.2.2.2.2 = some (62, .aload_n 0, 1, 0, 0) := by decide +kernel
theorem f239_63 : aF 63 zM239.2.2.2.2.2.2.2 = some (63, .iload_n 2, 1, 0, 0) := by decide +kernel
theorem f239_64 : aF 64 zM239.2.2.2.2.2.2.2 = some (64, .iload_n 1, 1, 0, 0) := by decide +kernel
theorem f239_65 : aF 65 zM239.2.2.2.2.2.2.2 = some (65, .invokevirtual 358, 3, 236, 0) := by decide +kernel
theorem f239_68 : aF 68 zM239.2.2.2.2.2.2.2 = some (68, .iconst 0, 1, 0, 0) := by decide +kernel
theorem f239_69 : aF 69 zM239.2.2.2.2.2.2.2 = some (69, .istore_n 3, 1, 0, 0) := by decide +kernel
theorem f239_70 : aF 70 zM239.2.2.2.2.2.2.2 = some (70, .iload_n 3, 1, 0, 0) := by decide +kernel
theorem f239_71 : aF 71 zM239.2.2.2.2.2.2.2 = some (71, .aload_n 0, 1, 0, 0) := by decide +kernel
theorem f239_72 : aF 72 zM239.2.2.2.2.2.2.2 = some (72, .getfield 336, 3, 12, 19) := by decide +kernel
theorem f239_75 : aF 75 zM239.2.2.2.2.2.2.2 = some (75, .if_icmp .ge 68, 3, 143, 0) := by decide +kernel
theorem f239_143 : aF 143 zM239.2.2.2.2.2.2.2 = some (143, .iinc 2 1, 3, 0, 0) := by decide +kernel
theorem f239_146 : aF 146 zM239.2.2.2.2.2.2.2 = some (146, .goto (-90), 3, 56, 0) := by decide +kernel
theorem f239_149 : aF 149 zM239.2.2.2.2.2.2.2 = some (149, .return_, 1, 0, 0) := by decide +kernel
theorem f286_0 : aF 0 zM286.2.2.2.2.2.2.2 = some (0, .iconst 0, 1, 0, 0) := by decide +kernel
theorem f286_1 : aF 1 zM286.2.2.2.2.2.2.2 = some (1, .istore_n 3, 1, 0, 0) := by decide +kernel
theorem f286_2 : aF 2 zM286.2.2.2.2.2.2.2 = some (2, .iload_n 3, 1, 0, 0) := by decide +kernel
theorem f286_3 : aF 3 zM286.2.2.2.2.2.2.2 = some (3, .aload_n 0, 1, 0, 0) := by decide +kernel
theorem f286_4 : aF 4 zM286.2.2.2.2.2.2.2 = some (4, .getfield 336, 3, 12, 19) := by decide +kernel
theorem f286_7 : aF 7 zM286.2.2.2.2.2.2.2 = some (7, .if_icmp .ge 111, 3, 118, 0) := by decide +kernel
theorem f286_118 : aF 118 zM286.2.2.2.2.2.2.2 = some (118, .iconst 1, 1, 0, 0) := by decide +kernel
theorem f286_119 : aF 119 zM286.2.2.2.2.2.2.2 = some (119, .ireturn, 1, 0, 0) := by decide +kernel
theorem f288_0 : aF 0 zM288.2.2.2.2.2.2.2 = some (0, .iload_n 1, 1, 0, 0) := by decide +kernel
theorem f288_1 : aF 1 zM288.2.2.2.2.2.2.2 = some (1, .invokestatic 372, 3, 198, 0) := by decide +kernel
theorem f288_4 : aF 4 zM288.2.2.2.2.2.2.2 = some (4, .ifCond .ne 5, 3, 9, 0) := by decide +kernel
theorem f288_7 : aF 7 zM288.2.2.2.2.2.2.2 = some (7, .iconst (-1), 1, 0, 0) := by decide +kernel
theorem f288_8 : aF 8 zM288.2.2.2.2.2.2.2 = some (8, .ireturn, 1, 0, 0) := by decide +kernel
theorem f288_9 : aF 9 zM288.2.2.2.2.2.2.2 = some (9, .aload_n 0, 1, 0, 0) := by decide +kernel
theorem f288_10 : aF 10 zM288.2.2.2.2.2.2.2 = some (10, .aload_n 0, 1, 0, 0) := by decide +kernel
theorem f288_11 : aF 11 zM288.2.2.2.2.2.2.2 = some (11, .getfield 262, 3, 12, 1) := by decide +kernel
theorem f288_14 : aF 14 zM288.2.2.2.2.2.2.2 = some (14, .invokevirtual 368, 3, 239, 0) := by decide +kernel
theorem f288_17 : aF 17 zM288.2.2.2.2.2.2.2 = some (17, .iconst 0, 1, 0, 0) := by decide +kernel
theorem f288_18 : aF 18 zM288.2.2.2.2.2.2.2 = some (18, .istore_n 2, 1, 0, 0) := by decide +kernel
theorem f288_19 : aF 19 zM288.2.2.2.2.2.2.2 = some (19, .iconst 0, 1, 0, 0) := by decide +kernel
theorem f288_20 : aF 20 zM288.2.2.2.2.2.2.2 = some (20, .istore_n 3, 1, 0, 0) := by decide +kernel
theorem f288_21 : aF 21 zM288.2.2.2.2.2.2.2 = some (21, .iload_n 3, 1, 0, 0) := by decide +kernel
theorem f288_22 : aF 22 zM288.2.2.2.2.2.2.2 = some (22, .aload_n 0, 1, 0, 0) := by decide +kernel
theorem f288_23 : aF 23 zM288.2.2.2.2.2.2.2 = some (23, .getfield 265, 3, 12, 2) := by decide +kernel
theorem f288_26 : aF 26 zM288.2.2.2.2.2.2.2 = some (26, .if_icmp .ge 34, 3, 60, 0) := by decide +kernel
theorem f288_60 : aF 60 zM288.2.2.2.2.2.2.2 = some (60, .iload_n 2, 1, 0, 0) := by decide +kernel
theorem f288_61 : aF 61 zM288.2.2.2.2.2.2.2 = some (61, .bipush 10, 2, 0, 0) := by decide +kernel
theorem f288_63 : aF 63 zM288.2.2.2.2.2.2.2 = some (63, .if_icmp .le 6, 3, 69, 0) := by decide +kernel
theorem f288_69 : aF 69 zM288.2.2.2.2.2.2.2 = some (69, .aload_n 0, 1, 0, 0) := by decide +kernel
theorem f288_70 : aF 70 zM288.2.2.2.2.2.2.2 = some (70, .iconst 0, 1, 0, 0) := by decide +kernel
theorem f288_71 : aF 71 zM288.2.2.2.2.2.2.2 = some (71, .putfield 514, 3, 12, 79) := by decide +kernel
theorem f288_74 : aF 74 zM288.2.2.2.2.2.2.2 = some (74, .iconst 0, 1, 0, 0) := by decide +kernel
theorem f288_75 : aF 75 zM288.2.2.2.2.2.2.2 = some (75, .istore_n 3, 1, 0, 0) := by decide +kernel
theorem f288_76 : aF 76 zM288.2.2.2.2.2.2.2 = some (76, .iload_n 3, 1, 0, 0) := by decide +kernel
theorem f288_77 : aF 77 zM288.2.2.2.2.2.2.2 = some (77, .aload_n 0, 1, 0, 0) := by decide +kernel
theorem f288_78 : aF 78 zM288.2.2.2.2.2.2.2 = some (78, .getfield 265, 3, 12, 2) := by decide +kernel
theorem f288_81 : aF 81 zM288.2.2.2.2.2.2.2 = some (81, .if_icmp .ge 49, 3, 130, 0) := by decide +kernel
theorem f288_130 : aF 130 zM288.2.2.2.2.2.2.2 = some (130, .iconst (-1), 1, 0, 0) := by decide +kernel
theorem f288_131 : aF 131 zM288.2.2.2.2.2.2.2 = some (131, .istore_n 3, 1, 0, 0) := by decide +kernel
theorem f288_132 : aF 132 zM288.2.2.2.2.2.2.2 = some (132, .iconst 0, 1, 0, 0) := by decide +kernel
theorem f288_133 : aF 133 zM288.2.2.2.2.2.2.2 = some (133, .istore 4, 2, 0, 0) := by decide +kernel
theorem f288_135 : aF 135 zM288.2.2.2.2.2.2.2 = some (135, .iconst 0, 1, 0, 0) := by decide +kernel
theorem f288_136 : aF 136 zM288.2.2.2.2.2.2.2 = some (136, .istore 5, 2, 0, 0) := by decide +kernel
theorem f288_138 : aF 138 zM288.2.2.2.2.2.2.2 = some (138, .iload 5, 2, 0, 0) := by decide +kernel
theorem f288_140 : aF 140 zM288.2.2.2.2.2.2.2 = some (140, .iconst 1, 1, 0, 0) := by decide +kernel
theorem f288_141 : aF 141 zM288.2.2.2.2.2.2.2 = some (141, .aload_n 0, 1, 0, 0) := by decide +kernel
theorem f288_142 : aF 142 zM288.2.2.2.2.2.2.2 = some (142, .getfield 514, 3, 12, 79) := by decide +kernel
theorem f288_145 : aF 145 zM288.2.2.2.2.2.2.2 = some (145, .ishl, 1, 0, 0) := by decide +kernel
theorem f288_146 : aF 146 zM288.2.2.2.2.2.2.2 = some (146, .if_icmp .ge 112, 3, 258, 0) := by decide +kernel
theorem f288_149 : aF 149 zM288.2.2.2.2.2.2.2 = some (149, .iconst 0, 1, 0, 0) := by decide +kernel
theorem f288_150 : aF 150 zM288.2.2.2.2.2.2.2 = some (150, .istore 6, 2, 0, 0) := by decide +kernel
theorem f288_152 : aF 152 zM288.2.2.2.2.2.2.2 = some (152, .iconst 0, 1, 0, 0) := by decide +kernel
theorem f288_153 : aF 153 zM288.2.2.2.2.2.2.2 = some (153, .istore 7, 2, 0, 0) := by decide +kernel
theorem f288_155 : aF 155 zM288.2.2.2.2.2.2.2 = some (155, .iload 7, 2, 0, 0) := by decide +kernel
theorem f288_157 : aF 157 zM288.2.2.2.2.2.2.2 = some (157, .aload_n 0, 1, 0, 0) := by decide +kernel
theorem f288_158 : aF 158 zM288.2.2.2.2.2.2.2 = some (158, .getfield 514, 3, 12, 79) := by decide +kernel
theorem f288_161 : aF 161 zM288.2.2.2.2.2.2.2 = some (161, .if_icmp .ge 41, 3, 202, 0) := by decide +kernel
theorem f288_202 : aF 202 zM288.2.2.2.2.2.2.2 = some (202, .iload_n 3, 1, 0, 0) := by decide +kernel
theorem f288_203 : aF 203 zM288.2.2.2.2.2.2.2 = some (203, .ifCond .lt 29, 3, 232, 0) := by decide +kernel
theorem f288_232 : aF 232 zM288.2.2.2.2.2.2.2 = some (232, .aload_n 0, 1, 0, 0) := by decide +kernel
theorem f288_233 : aF 233 zM288.2.2.2.2.2.2.2 = some (233, .iload 5, 2, 0, 0) := by decide +kernel
theorem f288_235 : aF 235 zM288.2.2.2.2.2.2.2 = some (235, .iload_n 1, 1, 0, 0) := by decide +kernel
theorem f288_236 : aF 236 zM288.2.2.2.2.2.2.2 = some (236, .invokevirtual 526, 3, 286, 0) := by decide +kernel
theorem f288_239 : aF 239 zM288.2.2.2.2.2.2.2 = some (239, .ifCond .ne 6, 3, 245, 0) := by decide +kernel
theorem f288_245 : aF 245 zM288.2.2.2.2.2.2.2 = some (245, .iload 5, 2, 0, 0) := by decide +kernel
theorem f288_247 : aF 247 zM288.2.2.2.2.2.2.2 = some (247, .istore_n 3, 1, 0, 0) := by decide +kernel
theorem f288_248 : aF 248 zM288.2.2.2.2.2.2.2 = some (248, .iload 6, 2, 0, 0) := by decide +kernel
theorem f288_250 : aF 250 zM288.2.2.2.2.2.2.2 = some (250, .istore 4, 2, 0, 0) := by decide +kernel
theorem f288_252 : aF 252 zM288.2.2.2.2.2.2.2 = some (252, .iinc 5 1, 3, 0, 0) := by decide +kernel
theorem f288_255 : aF 255 zM288.2.2.2.2.2.2.2 = some (255, .goto (-117), 3, 138, 0) := by decide +kernel
theorem f288_258 : aF 258 zM288.2.2.2.2.2.2.2 = some (258, .aload_n 0, 1, 0, 0) := by decide +kernel
theorem f288_259 : aF 259 zM288.2.2.2.2.2.2.2 = some (259, .iconst 0, 1, 0, 0) := by decide +kernel
theorem f288_260 : aF 260 zM288.2.2.2.2.2.2.2 = some (260, .putfield 204, 3, 12, 81) := by decide +kernel
theorem f288_263 : aF 263 zM288.2.2.2.2.2.2.2 = some (263, .iconst 0, 1, 0, 0) := by decide +kernel
theorem f288_264 : aF 264 zM288.2.2.2.2.2.2.2 = some (264, .istore 5, 2, 0, 0) := by decide +kernel
theorem f288_266 : aF 266 zM288.2.2.2.2.2.2.2 = some (266, .iload 5, 2, 0, 0) := by decide +kernel
theorem f288_268 : aF 268 zM288.2.2.2.2.2.2.2 = some (268, .aload_n 0, 1, 0, 0) := by decide +kernel
theorem f288_269 : aF 269 zM288.2.2.2.2.2.2.2 = some (269, .getfield 514, 3, 12, 79) := by decide +kernel
theorem f288_272 : aF 272 zM288.2.2.2.2.2.2.2 = some (272, .if_icmp .ge 47, 3, 319, 0) := by decide +kernel
theorem f288_319 : aF 319 zM288.2.2.2.2.2.2.2 = some (319, .iload 4, 2, 0, 0) := by decide +kernel
theorem f288_321 : aF 321 zM288.2.2.2.2.2.2.2 = some (321, .ireturn, 1, 0, 0) := by decide +kernel
theorem f292_0 : aF 0 zM292.2.2.2.2.2.2.2 = some (0, .iload_n 1, 1, 0, 0) := by decide +kernel
theorem f292_1 : aF 1 zM292.2.2.2.2.2.2.2 = some (1, .invokestatic 280, 3, 206, 0) := by decide +kernel
theorem f292_4 : aF 4 zM292.2.2.2.2.2.2.2 = some (4, .ifCond .eq 20, 3, 24, 0) := by decide +kernel
theorem f292_7 : aF 7 zM292.2.2.2.2.2.2.2 = some (7, .iload_n 2, 1, 0, 0) := by decide +kernel
theorem f292_8 : aF 8 zM292.2.2.2.2.2.2.2 = some (8, .invokestatic 372, 3, 198, 0) := by decide +kernel
theorem f292_11 : aF 11 zM292.2.2.2.2.2.2.2 = some (11, .ifCond .eq 13, 3, 24, 0) := by decide +kernel
theorem f292_14 : aF 14 zM292.2.2.2.2.2.2.2 = some (14, .iload_n 3, 1, 0, 0) := by decide +kernel
theorem f292_15 : aF 15 zM292.2.2.2.2.2.2.2 = some (15, .iconst 1, 1, 0, 0) := by decide +kernel
theorem f292_16 : aF 16 zM292.2.2.2.2.2.2.2 = some (16, .bipush 9, 2, 0, 0) := by decide +kernel
theorem f292_18 : aF 18 zM292.2.2.2.2.2.2.2 = some (18, .invokestatic 258, 3, 196, 0) := by decide +kernel
theorem f292_21 : aF 21 zM292.2.2.2.2.2.2.2 = some (21, .ifCond .ne 5, 3, 26, 0) := by decide +kernel
theorem f292_24 : aF 24 zM292.2.2.2.2.2.2.2 = some (24, .iconst (-1), 1, 0, 0) := by decide +kernel
theorem f292_25 : aF 25 zM292.2.2.2.2.2.2.2 = some (25, .ireturn, 1, 0, 0) := by decide +kernel
theorem f292_26 : aF 26 zM292.2.2.2.2.2.2.2 = some (26, .aload_n 0, 1, 0, 0) := by decide +kernel
theorem f292_27 : aF 27 zM292.2.2.2.2.2.2.2 = some (27, .aload_n 0, 1, 0, 0) := by decide +kernel
theorem f292_28 : aF 28 zM292.2.2.2.2.2.2.2 = some (28, .getfield 262, 3, 12, 1) := by decide +kernel
theorem f292_31 : aF 31 zM292.2.2.2.2.2.2.2 = some (31, .invokevirtual 368, 3, 239, 0) := by decide +kernel
theorem f292_34 : aF 34 zM292.2.2.2.2.2.2.2 = some (34, .iconst 0, 1, 0, 0) := by decide +kernel
theorem f292_35 : aF 35 zM292.2.2.2.2.2.2.2 = some (35, .istore 4, 2, 0, 0) := by decide +kernel
theorem f292_37 : aF 37 zM292.2.2.2.2.2.2.2 = some (37, .iconst 0, 1, 0, 0) := by decide +kernel
theorem f292_38 : aF 38 zM292.2.2.2.2.2.2.2 = some (38, .istore 5, 2, 0, 0) := by decide +kernel
theorem f292_40 : aF 40 zM292.2.2.2.2.2.2.2 = some (40, .iload 5, 2, 0, 0) := by decide +kernel
theorem f292_42 : aF 42 zM292.2.2.2.2.2.2.2 = some (42, .aload_n 0, 1, 0, 0) := by decide +kernel
theorem f292_43 : aF 43 zM292.2.2.2.2.2.2.2 = some (43, .getfield 265, 3, 12, 2) := by decide +kernel
theorem f292_46 : aF 46 zM292.2.2.2.2.2.2.2 = some (46, .if_icmp .ge 71, 3, 117, 0) := by decide +kernel
theorem f292_117 : aF 117 zM292.2.2.2.2.2.2.2 = some (117, .iload_n 3, 1, 0, 0) := by decide +kernel
theorem f292_118 : aF 118 zM292.2.2.2.2.2.2.2 = some (118, .iload 4, 2, 0, 0) := by decide +kernel
theorem f292_120 : aF 120 zM292.2.2.2.2.2.2.2 = some (120, .invokestatic 289, 3, 211, 0) := by decide +kernel
theorem f292_123 : aF 123 zM292.2.2.2.2.2.2.2 = some (123, .istore 5, 2, 0, 0) := by decide +kernel
theorem f292_125 : aF 125 zM292.2.2.2.2.2.2.2 = some (125, .iconst 0, 1, 0, 0) := by decide +kernel
theorem f292_126 : aF 126 zM292.2.2.2.2.2.2.2 = some (126, .istore 6, 2, 0, 0) := by decide +kernel
theorem f292_128 : aF 128 zM292.2.2.2.2.2.2.2 = some (128, .iload 6, 2, 0, 0) := by decide +kernel
theorem f292_130 : aF 130 zM292.2.2.2.2.2.2.2 = some (130, .iload 5, 2, 0, 0) := by decide +kernel
theorem f292_132 : aF 132 zM292.2.2.2.2.2.2.2 = some (132, .if_icmp .ge 176, 3, 308, 0) := by decide +kernel
theorem f292_308 : aF 308 zM292.2.2.2.2.2.2.2 = some (308, .aload_n 0, 1, 0, 0) := by decide +kernel
theorem f292_309 : aF 309 zM292.2.2.2.2.2.2.2 = some (309, .iload 5, 2, 0, 0) := by decide +kernel
theorem f292_311 : aF 311 zM292.2.2.2.2.2.2.2 = some (311, .putfield 213, 3, 12, 84) := by decide +kernel
theorem f292_314 : aF 314 zM292.2.2.2.2.2.2.2 = some (314, .iload 5, 2, 0, 0) := by decide +kernel
theorem f292_316 : aF 316 zM292.2.2.2.2.2.2.2 = some (316, .ireturn, 1, 0, 0) := by decide +kernel
theorem f296_0 : aF 0 zM296.2.2.2.2.2.2.2 = some (0, .lconst 1, 1, 0, 0) := by decide +kernel
theorem f296_1 : aF 1 zM296.2.2.2.2.2.2.2 = some (1, .lstore_n 3, 1, 0, 0) := by decide +kernel
theorem f296_2 : aF 2 zM296.2.2.2.2.2.2.2 = some (2, .iconst 0, 1, 0, 0) := by decide +kernel
theorem f296_3 : aF 3 zM296.2.2.2.2.2.2.2 = some (3, .istore 5, 2, 0, 0) := by decide +kernel
theorem f296_5 : aF 5 zM296.2.2.2.2.2.2.2 = some (5, .iload 5, 2, 0, 0) := by decide +kernel
theorem f296_7 : aF 7 zM296.2.2.2.2.2.2.2 = some (7, .iload_n 2, 1, 0, 0) := by decide +kernel
theorem f296_8 : aF 8 zM296.2.2.2.2.2.2.2 = some (8, .if_icmp .ge 13, 3, 21, 0) := by decide +kernel
theorem f296_21 : aF 21 zM296.2.2.2.2.2.2.2 = some (21, .lload_n 3, 1, 0, 0) := by decide +kernel
theorem f296_22 : aF 22 zM296.2.2.2.2.2.2.2 = some (22, .lreturn, 1, 0, 0) := by decide +kernel
theorem f297_0 : aF 0 zM297.2.2.2.2.2.2.2 = some (0, .lconst 0, 1, 0, 0) := by decide +kernel
theorem f297_1 : aF 1 zM297.2.2.2.2.2.2.2 = some (1, .lstore 4, 2, 0, 0) := by decide +kernel
theorem f297_3 : aF 3 zM297.2.2.2.2.2.2.2 = some (3, .iload_n 1, 1, 0, 0) := by decide +kernel
theorem f297_4 : aF 4 zM297.2.2.2.2.2.2.2 = some (4, .istore 6, 2, 0, 0) := by decide +kernel
theorem f297_6 : aF 6 zM297.2.2.2.2.2.2.2 = some (6, .iload 6, 2, 0, 0) := by decide +kernel
theorem f297_8 : aF 8 zM297.2.2.2.2.2.2.2 = some (8, .iload_n 2, 1, 0, 0) := by decide +kernel
theorem f297_9 : aF 9 zM297.2.2.2.2.2.2.2 = some (9, .if_icmp .gt 73, 3, 82, 0) := by decide +kernel
theorem f297_12 : aF 12 zM297.2.2.2.2.2.2.2 = some (12, .lconst 1, 1, 0, 0) := by decide +kernel
theorem f297_13 : aF 13 zM297.2.2.2.2.2.2.2 = some (13, .lstore 7, 2, 0, 0) := by decide +kernel
theorem f297_15 : aF 15 zM297.2.2.2.2.2.2.2 = some (15, .iconst 1, 1, 0, 0) := by decide +kernel
theorem f297_16 : aF 16 zM297.2.2.2.2.2.2.2 = some (16, .istore 9, 2, 0, 0) := by decide +kernel
theorem f297_18 : aF 18 zM297.2.2.2.2.2.2.2 = some (18, .iload 9, 2, 0, 0) := by decide +kernel
theorem f297_20 : aF 20 zM297.2.2.2.2.2.2.2 = some (20, .iload 6, 2, 0, 0) := by decide +kernel
theorem f297_22 : aF 22 zM297.2.2.2.2.2.2.2 = some (22, .if_icmp .gt 26, 3, 48, 0) := by decide +kernel
theorem f297_48 : aF 48 zM297.2.2.2.2.2.2.2 = some (48, .lload 4, 2, 0, 0) := by decide +kernel
theorem f297_50 : aF 50 zM297.2.2.2.2.2.2.2 = some (50, .lload 7, 2, 0, 0) := by decide +kernel
theorem f297_52 : aF 52 zM297.2.2.2.2.2.2.2 = some (52, .iload_n 3, 1, 0, 0) := by decide +kernel
theorem f297_53 : aF 53 zM297.2.2.2.2.2.2.2 = some (53, .i2l, 1, 0, 0) := by decide +kernel
theorem f297_54 : aF 54 zM297.2.2.2.2.2.2.2 = some (54, .iload 6, 2, 0, 0) := by decide +kernel
theorem f297_56 : aF 56 zM297.2.2.2.2.2.2.2 = some (56, .invokestatic 536, 3, 296, 0) := by decide +kernel
theorem f297_59 : aF 59 zM297.2.2.2.2.2.2.2 = some (59, .lmul, 1, 0, 0) := by decide +kernel
theorem f297_60 : aF 60 zM297.2.2.2.2.2.2.2 = some (60, .bipush 100, 2, 0, 0) := by decide +kernel
theorem f297_62 : aF 62 zM297.2.2.2.2.2.2.2 = some (62, .iload_n 3, 1, 0, 0) := by decide +kernel
theorem f297_63 : aF 63 zM297.2.2.2.2.2.2.2 = some (63, .isub, 1, 0, 0) := by decide +kernel
theorem f297_64 : aF 64 zM297.2.2.2.2.2.2.2 = some (64, .i2l, 1, 0, 0) := by decide +kernel
theorem f297_65 : aF 65 zM297.2.2.2.2.2.2.2 = some (65, .iload_n 0, 1, 0, 0) := by decide +kernel
theorem f297_66 : aF 66 zM297.2.2.2.2.2.2.2 = some (66, .iload 6, 2, 0, 0) := by decide +kernel
theorem f297_68 : aF 68 zM297.2.2.2.2.2.2.2 = some (68, .isub, 1, 0, 0) := by decide +kernel
theorem f297_69 : aF 69 zM297.2.2.2.2.2.2.2 = some (69, .invokestatic 536, 3, 296, 0) := by decide +kernel
theorem f297_72 : aF 72 zM297.2.2.2.2.2.2.2 = some (72, .lmul, 1, 0, 0) := by decide +kernel
theorem f297_73 : aF 73 zM297.2.2.2.2.2.2.2 = some (73, .ladd, 1, 0, 0) := by decide +kernel
theorem f297_74 : aF 74 zM297.2.2.2.2.2.2.2 = some (74, .lstore 4, 2, 0, 0) := by decide +kernel
theorem f297_76 : aF 76 zM297.2.2.2.2.2.2.2 = some (76, .iinc 6 1, 3, 0, 0) := by decide +kernel
theorem f297_79 : aF 79 zM297.2.2.2.2.2.2.2 = some (79, .goto (-73), 3, 6, 0) := by decide +kernel
theorem f297_82 : aF 82 zM297.2.2.2.2.2.2.2 = some (82, .lload 4, 2, 0, 0) := by decide +kernel
theorem f297_84 : aF 84 zM297.2.2.2.2.2.2.2 = some (84, .lreturn, 1, 0, 0) := by decide +kernel
theorem f298_0 : aF 0 zM298.2.2.2.2.2.2.2 = some (0, .iload_n 1, 1, 0, 0) := by decide +kernel
theorem f298_1 : aF 1 zM298.2.2.2.2.2.2.2 = some (1, .invokestatic 372, 3, 198, 0) := by decide +kernel
theorem f298_4 : aF 4 zM298.2.2.2.2.2.2.2 = some (4, .ifCond .eq 42, 3, 46, 0) := by decide +kernel
theorem f298_7 : aF 7 zM298.2.2.2.2.2.2.2 = some (7, .iload_n 2, 1, 0, 0) := by decide +kernel
theorem f298_8 : aF 8 zM298.2.2.2.2.2.2.2 = some (8, .iconst 0, 1, 0, 0) := by decide +kernel
theorem f298_9 : aF 9 zM298.2.2.2.2.2.2.2 = some (9, .iconst 2, 1, 0, 0) := by decide +kernel
theorem f298_10 : aF 10 zM298.2.2.2.2.2.2.2 = some (10, .invokestatic 258, 3, 196, 0) := by decide +kernel
theorem f298_13 : aF 13 zM298.2.2.2.2.2.2.2 = some (13, .ifCond .eq 33, 3, 46, 0) := by decide +kernel
theorem f298_16 : aF 16 zM298.2.2.2.2.2.2.2 = some (16, .iload_n 2, 1, 0, 0) := by decide +kernel
theorem f298_17 : aF 17 zM298.2.2.2.2.2.2.2 = some (17, .iconst 2, 1, 0, 0) := by decide +kernel
theorem f298_18 : aF 18 zM298.2.2.2.2.2.2.2 = some (18, .if_icmp .ne 30, 3, 48, 0) := by decide +kernel
theorem f298_21 : aF 21 zM298.2.2.2.2.2.2.2 = some (21, .iload_n 3, 1, 0, 0) := by decide +kernel
theorem f298_22 : aF 22 zM298.2.2.2.2.2.2.2 = some (22, .bipush 100, 2, 0, 0) := by decide +kernel
theorem f298_24 : aF 24 zM298.2.2.2.2.2.2.2 = some (24, .sipush 9949, 3, 0, 0) := by decide +kernel
theorem f298_27 : aF 27 zM298.2.2.2.2.2.2.2 = some (27, .invokestatic 258, 3, 196, 0) := by decide +kernel
theorem f298_30 : aF 30 zM298.2.2.2.2.2.2.2 = some (30, .ifCond .eq 16, 3, 46, 0) := by decide +kernel
theorem f298_33 : aF 33 zM298.2.2.2.2.2.2.2 = some (33, .iload_n 3, 1, 0, 0) := by decide +kernel
theorem f298_34 : aF 34 zM298.2.2.2.2.2.2.2 = some (34, .bipush 100, 2, 0, 0) := by decide +kernel
theorem f298_36 : aF 36 zM298.2.2.2.2.2.2.2 = some (36, .irem, 1, 0, 0) := by decide +kernel
theorem f298_37 : aF 37 zM298.2.2.2.2.2.2.2 = some (37, .iconst 1, 1, 0, 0) := by decide +kernel
theorem f298_38 : aF 38 zM298.2.2.2.2.2.2.2 = some (38, .bipush 49, 2, 0, 0) := by decide +kernel
theorem f298_40 : aF 40 zM298.2.2.2.2.2.2.2 = some (40, .invokestatic 258, 3, 196, 0) := by decide +kernel
theorem f298_43 : aF 43 zM298.2.2.2.2.2.2.2 = some (43, .ifCond .ne 5, 3, 48, 0) := by decide +kernel
theorem f298_46 : aF 46 zM298.2.2.2.2.2.2.2 = some (46, .iconst (-1), 1, 0, 0) := by decide +kernel
theorem f298_47 : aF 47 zM298.2.2.2.2.2.2.2 = some (47, .ireturn, 1, 0, 0) := by decide +kernel
theorem f298_48 : aF 48 zM298.2.2.2.2.2.2.2 = some (48, .aload_n 0, 1, 0, 0) := by decide +kernel
theorem f298_49 : aF 49 zM298.2.2.2.2.2.2.2 = some (49, .aload_n 0, 1, 0, 0) := by decide +kernel
theorem f298_50 : aF 50 zM298.2.2.2.2.2.2.2 = some (50, .getfield 262, 3, 12, 1) := by decide +kernel
theorem f298_53 : aF 53 zM298.2.2.2.2.2.2.2 = some (53, .invokevirtual 368, 3, 239, 0) := by decide +kernel
theorem f298_56 : aF 56 zM298.2.2.2.2.2.2.2 = some (56, .iconst 0, 1, 0, 0) := by decide +kernel
theorem f298_57 : aF 57 zM298.2.2.2.2.2.2.2 = some (57, .istore 4, 2, 0, 0) := by decide +kernel
theorem f298_59 : aF 59 zM298.2.2.2.2.2.2.2 = some (59, .iconst 0, 1, 0, 0) := by decide +kernel
theorem f298_60 : aF 60 zM298.2.2.2.2.2.2.2 = some (60, .istore 5, 2, 0, 0) := by decide +kernel
theorem f298_62 : aF 62 zM298.2.2.2.2.2.2.2 = some (62, .iconst 0, 1, 0, 0) := by decide +kernel
theorem f298_63 : aF 63 zM298.2.2.2.2.2.2.2 = some (63, .istore 6, 2, 0, 0) := by decide +kernel
theorem f298_65 : aF 65 zM298.2.2.2.2.2.2.2 = some (65, .iconst 0, 1, 0, 0) := by decide +kernel
theorem f298_66 : aF 66 zM298.2.2.2.2.2.2.2 = some (66, .istore 7, 2, 0, 0) := by decide +kernel
theorem f298_68 : aF 68 zM298.2.2.2.2.2.2.2 = some (68, .iconst 0, 1, 0, 0) := by decide +kernel
theorem f298_69 : aF 69 zM298.2.2.2.2.2.2.2 = some (69, .istore 8, 2, 0, 0) := by decide +kernel
theorem f298_71 : aF 71 zM298.2.2.2.2.2.2.2 = some (71, .iload 8, 2, 0, 0) := by decide +kernel
theorem f298_73 : aF 73 zM298.2.2.2.2.2.2.2 = some (73, .aload_n 0, 1, 0, 0) := by decide +kernel
theorem f298_74 : aF 74 zM298.2.2.2.2.2.2.2 = some (74, .getfield 265, 3, 12, 2) := by decide +kernel
theorem f298_77 : aF 77 zM298.2.2.2.2.2.2.2 = some (77, .if_icmp .ge 92, 3, 169, 0) := by decide +kernel
theorem f298_169 : aF 169 zM298.2.2.2.2.2.2.2 = some (169, .iload_n 2, 1, 0, 0) := by decide +kernel
theorem f298_170 : aF 170 zM298.2.2.2.2.2.2.2 = some (170, .iconst 2, 1, 0, 0) := by decide +kernel
theorem f298_171 : aF 171 zM298.2.2.2.2.2.2.2 = some (171, .if_icmp .ge 15, 3, 186, 0) := by decide +kernel
theorem f298_174 : aF 174 zM298.2.2.2.2.2.2.2 = some (174, .iload_n 2, 1, 0, 0) := by decide +kernel
theorem f298_175 : aF 175 zM298.2.2.2.2.2.2.2 = some (175, .ifCond .ne 8, 3, 183, 0) := by decide +kernel
theorem f298_178 : aF 178 zM298.2.2.2.2.2.2.2 = some (178, .iload 4, 2, 0, 0) := by decide +kernel
theorem f298_180 : aF 180 zM298.2.2.2.2.2.2.2 = some (180, .goto 5, 3, 185, 0) := by decide +kernel
theorem f298_183 : aF 183 zM298.2.2.2.2.2.2.2 = some (183, .iload 5, 2, 0, 0) := by decide +kernel
theorem f298_185 : aF 185 zM298.2.2.2.2.2.2.2 = some (185, .ireturn, 1, 0, 0) := by decide +kernel
theorem f298_186 : aF 186 zM298.2.2.2.2.2.2.2 = some (186, .iload_n 3, 1, 0, 0) := by decide +kernel
theorem f298_187 : aF 187 zM298.2.2.2.2.2.2.2 = some (187, .bipush 100, 2, 0, 0) := by decide +kernel
theorem f298_189 : aF 189 zM298.2.2.2.2.2.2.2 = some (189, .irem, 1, 0, 0) := by decide +kernel
theorem f298_190 : aF 190 zM298.2.2.2.2.2.2.2 = some (190, .i2l, 1, 0, 0) := by decide +kernel
theorem f298_191 : aF 191 zM298.2.2.2.2.2.2.2 = some (191, .ldc2_w 500, 3, 100, 0) := by decide +kernel
theorem f298_194 : aF 194 zM298.2.2.2.2.2.2.2 = some (194, .iload 6, 2, 0, 0) := by decide +kernel
theorem f298_196 : aF 196 zM298.2.2.2.2.2.2.2 = some (196, .invokestatic 536, 3, 296, 0) := by decide +kernel
theorem f298_199 : aF 199 zM298.2.2.2.2.2.2.2 = some (199, .lmul, 1, 0, 0) := by decide +kernel
theorem f298_200 : aF 200 zM298.2.2.2.2.2.2.2 = some (200, .lstore 8, 2, 0, 0) := by decide +kernel
theorem f298_202 : aF 202 zM298.2.2.2.2.2.2.2 = some (202, .ldc2_w 500, 3, 100, 0) := by decide +kernel
theorem f298_205 : aF 205 zM298.2.2.2.2.2.2.2 = some (205, .iload 6, 2, 0, 0) := by decide +kernel
theorem f298_207 : aF 207 zM298.2.2.2.2.2.2.2 = some (207, .iload 7, 2, 0, 0) := by decide +kernel
theorem f298_209 : aF 209 zM298.2.2.2.2.2.2.2 = some (209, .iload 6, 2, 0, 0) := by decide +kernel
theorem f298_211 : aF 211 zM298.2.2.2.2.2.2.2 = some (211, .iload_n 3, 1, 0, 0) := by decide +kernel
theorem f298_212 : aF 212 zM298.2.2.2.2.2.2.2 = some (212, .bipush 100, 2, 0, 0) := by decide +kernel
theorem f298_214 : aF 214 zM298.2.2.2.2.2.2.2 = some (214, .idiv, 1, 0, 0) := by decide +kernel
theorem f298_215 : aF 215 zM298.2.2.2.2.2.2.2 = some (215, .invokestatic 543, 3, 297, 0) := by decide +kernel
theorem f298_218 : aF 218 zM298.2.2.2.2.2.2.2 = some (218, .lmul, 1, 0, 0) := by decide +kernel
theorem f298_219 : aF 219 zM298.2.2.2.2.2.2.2 = some (219, .lload 8, 2, 0, 0) := by decide +kernel
theorem f298_221 : aF 221 zM298.2.2.2.2.2.2.2 = some (221, .lcmp, 1, 0, 0) := by decide +kernel
theorem f298_222 : aF 222 zM298.2.2.2.2.2.2.2 = some (222, .ifCond .ge 5, 3, 227, 0) := by decide +kernel
theorem f298_225 : aF 225 zM298.2.2.2.2.2.2.2 = some (225, .iconst 1, 1, 0, 0) := by decide +kernel
theorem f298_226 : aF 226 zM298.2.2.2.2.2.2.2 = some (226, .ireturn, 1, 0, 0) := by decide +kernel
theorem f298_227 : aF 227 zM298.2.2.2.2.2.2.2 = some (227, .ldc2_w 500, 3, 100, 0) := by decide +kernel
theorem f298_230 : aF 230 zM298.2.2.2.2.2.2.2 = some (230, .iload 6, 2, 0, 0) := by decide +kernel
theorem f298_232 : aF 232 zM298.2.2.2.2.2.2.2 = some (232, .iconst 0, 1, 0, 0) := by decide +kernel
theorem f298_233 : aF 233 zM298.2.2.2.2.2.2.2 = some (233, .iload 7, 2, 0, 0) := by decide +kernel
theorem f298_235 : aF 235 zM298.2.2.2.2.2.2.2 = some (235, .iload_n 3, 1, 0, 0) := by decide +kernel
theorem f298_236 : aF 236 zM298.2.2.2.2.2.2.2 = some (236, .bipush 100, 2, 0, 0) := by decide +kernel
theorem f298_238 : aF 238 zM298.2.2.2.2.2.2.2 = some (238, .idiv, 1, 0, 0) := by decide +kernel
theorem f298_239 : aF 239 zM298.2.2.2.2.2.2.2 = some (239, .invokestatic 543, 3, 297, 0) := by decide +kernel
theorem f298_242 : aF 242 zM298.2.2.2.2.2.2.2 = some (242, .lmul, 1, 0, 0) := by decide +kernel
theorem f298_243 : aF 243 zM298.2.2.2.2.2.2.2 = some (243, .lload 8, 2, 0, 0) := by decide +kernel
theorem f298_245 : aF 245 zM298.2.2.2.2.2.2.2 = some (245, .lcmp, 1, 0, 0) := by decide +kernel
theorem f298_246 : aF 246 zM298.2.2.2.2.2.2.2 = some (246, .ifCond .ge 7, 3, 253, 0) := by decide +kernel
theorem f298_253 : aF 253 zM298.2.2.2.2.2.2.2 = some (253, .iconst 0, 1, 0, 0) := by decide +kernel
theorem f298_254 : aF 254 zM298.2.2.2.2.2.2.2 = some (254, .ireturn, 1, 0, 0) := by decide +kernel
theorem f320_0 : aF 0 zM320.2.2.2.2.2.2.2 = some (0, .iload_n 1, 1, 0, 0) := by decide +kernel
theorem f320_1 : aF 1 zM320.2.2.2.2.2.2.2 = some (1, .invokestatic 382, 3, 318, 0) := by decide +kernel
theorem f320_4 : aF 4 zM320.2.2.2.2.2.2.2 = some (4, .ifCond .eq 18, 3, 22, 0) := by decide +kernel
theorem f320_7 : aF 7 zM320.2.2.2.2.2.2.2 = some (7, .iload_n 2, 1, 0, 0) := by decide +kernel
theorem f320_8 : aF 8 zM320.2.2.2.2.2.2.2 = some (8, .iconst 0, 1, 0, 0) := by decide +kernel
theorem f320_9 : aF 9 zM320.2.2.2.2.2.2.2 = some (9, .iconst 4, 1, 0, 0) := by decide +kernel
theorem f320_10 : aF 10 zM320.2.2.2.2.2.2.2 = some (10, .invokestatic 258, 3, 196, 0) := by decide +kernel
theorem f320_13 : aF 13 zM320.2.2.2.2.2.2.2 = some (13, .ifCond .eq 9, 3, 22, 0) := by decide +kernel
theorem f320_16 : aF 16 zM320.2.2.2.2.2.2.2 = some (16, .iload_n 3, 1, 0, 0) := by decide +kernel
theorem f320_17 : aF 17 zM320.2.2.2.2.2.2.2 = some (17, .bipush 60, 2, 0, 0) := by decide +kernel
theorem f320_19 : aF 19 zM320.2.2.2.2.2.2.2 = some (19, .if_icmp .le 5, 3, 24, 0) := by decide +kernel
theorem f320_22 : aF 22 zM320.2.2.2.2.2.2.2 = some (22, .iconst (-1), 1, 0, 0) := by decide +kernel
theorem f320_23 : aF 23 zM320.2.2.2.2.2.2.2 = some (23, .ireturn, 1, 0, 0) := by decide +kernel
theorem f320_24 : aF 24 zM320.2.2.2.2.2.2.2 = some (24, .iload_n 3, 1, 0, 0) := by decide +kernel
theorem f320_25 : aF 25 zM320.2.2.2.2.2.2.2 = some (25, .ifCond .ge 6, 3, 31, 0) := by decide +kernel
theorem f320_28 : aF 28 zM320.2.2.2.2.2.2.2 = some (28, .bipush (-14), 2, 0, 0) := by decide +kernel
theorem f320_30 : aF 30 zM320.2.2.2.2.2.2.2 = some (30, .ireturn, 1, 0, 0) := by decide +kernel
theorem f320_31 : aF 31 zM320.2.2.2.2.2.2.2 = some (31, .aload_n 0, 1, 0, 0) := by decide +kernel
theorem f320_32 : aF 32 zM320.2.2.2.2.2.2.2 = some (32, .getfield 243, 3, 12, 97) := by decide +kernel
theorem f320_35 : aF 35 zM320.2.2.2.2.2.2.2 = some (35, .iload_n 1, 1, 0, 0) := by decide +kernel
theorem f320_36 : aF 36 zM320.2.2.2.2.2.2.2 = some (36, .bipush (-2), 2, 0, 0) := by decide +kernel
theorem f320_38 : aF 38 zM320.2.2.2.2.2.2.2 = some (38, .iload_n 2, 1, 0, 0) := by decide +kernel
theorem f320_39 : aF 39 zM320.2.2.2.2.2.2.2 = some (39, .isub, 1, 0, 0) := by decide +kernel
theorem f320_40 : aF 40 zM320.2.2.2.2.2.2.2 = some (40, .iastore, 1, 0, 0) := by decide +kernel
theorem f320_41 : aF 41 zM320.2.2.2.2.2.2.2 = some (41, .aload_n 0, 1, 0, 0) := by decide +kernel
theorem f320_42 : aF 42 zM320.2.2.2.2.2.2.2 = some (42, .getfield 246, 3, 12, 98) := by decide +kernel
theorem f320_45 : aF 45 zM320.2.2.2.2.2.2.2 = some (45, .iload_n 1, 1, 0, 0) := by decide +kernel
theorem f320_46 : aF 46 zM320.2.2.2.2.2.2.2 = some (46, .iload_n 3, 1, 0, 0) := by decide +kernel
theorem f320_47 : aF 47 zM320.2.2.2.2.2.2.2 = some (47, .iastore, 1, 0, 0) := by decide +kernel
theorem f320_48 : aF 48 zM320.2.2.2.2.2.2.2 = some (48, .bipush 60, 2, 0, 0) := by decide +kernel
theorem f320_50 : aF 50 zM320.2.2.2.2.2.2.2 = some (50, .iload_n 1, 1, 0, 0) := by decide +kernel
theorem f320_51 : aF 51 zM320.2.2.2.2.2.2.2 = some (51, .imul, 1, 0, 0) := by decide +kernel
theorem f320_52 : aF 52 zM320.2.2.2.2.2.2.2 = some (52, .istore 4, 2, 0, 0) := by decide +kernel
theorem f320_54 : aF 54 zM320.2.2.2.2.2.2.2 = some (54, .iload 4, 2, 0, 0) := by decide +kernel
theorem f320_56 : aF 56 zM320.2.2.2.2.2.2.2 = some (56, .bipush 60, 2, 0, 0) := by decide +kernel
theorem f320_58 : aF 58 zM320.2.2.2.2.2.2.2 = some (58, .iload_n 1, 1, 0, 0) := by decide +kernel
theorem f320_59 : aF 59 zM320.2.2.2.2.2.2.2 = some (59, .imul, 1, 0, 0) := by decide +kernel
theorem f320_60 : aF 60 zM320.2.2.2.2.2.2.2 = some (60, .bipush 60, 2, 0, 0) := by decide +kernel
theorem f320_62 : aF 62 zM320.2.2.2.2.2.2.2 = some (62, .iadd, 1, 0, 0) := by decide +kernel
theorem f320_63 : aF 63 zM320.2.2.2.2.2.2.2 = some (63, .if_icmp .ge 17, 3, 80, 0) := by decide +kernel
theorem f320_66 : aF 66 zM320.2.2.2.2.2.2.2 = some (66, .aload_n 0, 1, 0, 0) := by decide +kernel
theorem f320_67 : aF 67 zM320.2.2.2.2.2.2.2 = some (67, .getfield 249, 3, 12, 99) := by decide +kernel
theorem f320_70 : aF 70 zM320.2.2.2.2.2.2.2 = some (70, .iload 4, 2, 0, 0) := by decide +kernel
theorem f320_72 : aF 72 zM320.2.2.2.2.2.2.2 = some (72, .lconst 0, 1, 0, 0) := by decide +kernel
theorem f320_73 : aF 73 zM320.2.2.2.2.2.2.2 = some (73, .lastore, 1, 0, 0) := by decide +kernel
theorem f320_74 : aF 74 zM320.2.2.2.2.2.2.2 = some (74, .iinc 4 1, 3, 0, 0) := by decide +kernel
theorem f320_77 : aF 77 zM320.2.2.2.2.2.2.2 = some (77, .goto (-23), 3, 54, 0) := by decide +kernel
theorem f320_80 : aF 80 zM320.2.2.2.2.2.2.2 = some (80, .iconst 1, 1, 0, 0) := by decide +kernel
theorem f320_81 : aF 81 zM320.2.2.2.2.2.2.2 = some (81, .ireturn, 1, 0, 0) := by decide +kernel
theorem f328_0 : aF 0 zM328.2.2.2.2.2.2.2 = some (0, .iload_n 0, 1, 0, 0) := by decide +kernel
theorem f328_1 : aF 1 zM328.2.2.2.2.2.2.2 = some (1, .iload_n 1, 1, 0, 0) := by decide +kernel
theorem f328_2 : aF 2 zM328.2.2.2.2.2.2.2 = some (2, .if_icmp .ge 7, 3, 9, 0) := by decide +kernel
theorem f328_9 : aF 9 zM328.2.2.2.2.2.2.2 = some (9, .iload_n 0, 1, 0, 0) := by decide +kernel
theorem f328_10 : aF 10 zM328.2.2.2.2.2.2.2 = some (10, .iload_n 1, 1, 0, 0) := by decide +kernel
theorem f328_11 : aF 11 zM328.2.2.2.2.2.2.2 = some (11, .if_icmp .ne 7, 3, 18, 0) := by decide +kernel
theorem f328_14 : aF 14 zM328.2.2.2.2.2.2.2 = some (14, .iconst 0, 1, 0, 0) := by decide +kernel
theorem f328_15 : aF 15 zM328.2.2.2.2.2.2.2 = some (15, .goto 4, 3, 19, 0) := by decide +kernel
theorem f328_19 : aF 19 zM328.2.2.2.2.2.2.2 = some (19, .ireturn, 1, 0, 0) := by decide +kernel
theorem f329_0 : aF 0 zM329.2.2.2.2.2.2.2 = some (0, .iload_n 0, 1, 0, 0) := by decide +kernel
theorem f329_1 : aF 1 zM329.2.2.2.2.2.2.2 = some (1, .iload_n 0, 1, 0, 0) := by decide +kernel
theorem f329_2 : aF 2 zM329.2.2.2.2.2.2.2 = some (2, .iconst 1, 1, 0, 0) := by decide +kernel
theorem f329_3 : aF 3 zM329.2.2.2.2.2.2.2 = some (3, .iushr, 1, 0, 0) := by decide +kernel
theorem f329_4 : aF 4 zM329.2.2.2.2.2.2.2 = some (4, .ldc_w 265, 3, 1431655765, 0) := by decide +kernel
theorem f329_7 : aF 7 zM329.2.2.2.2.2.2.2 = some (7, .iand, 1, 0, 0) := by decide +kernel
theorem f329_8 : aF 8 zM329.2.2.2.2.2.2.2 = some (8, .isub, 1, 0, 0) := by decide +kernel
theorem f329_9 : aF 9 zM329.2.2.2.2.2.2.2 = some (9, .istore_n 0, 1, 0, 0) := by decide +kernel
theorem f329_10 : aF 10 zM329.2.2.2.2.2.2.2 = some (10, .iload_n 0, 1, 0, 0) := by decide +kernel
theorem f329_11 : aF 11 zM329.2.2.2.2.2.2.2 = some (11, .ldc_w 266, 3, 858993459, 0) := by decide +kernel
theorem f329_14 : aF 14 zM329.2.2.2.2.2.2.2 = some (14, .iand, 1, 0, 0) := by decide +kernel
theorem f329_15 : aF 15 zM329.2.2.2.2.2.2.2 = some (15, .iload_n 0, 1, 0, 0) := by decide +kernel
theorem f329_16 : aF 16 zM329.2.2.2.2.2.2.2 = some (16, .iconst 2, 1, 0, 0) := by decide +kernel
theorem f329_17 : aF 17 zM329.2.2.2.2.2.2.2 = some (17, .iushr, 1, 0, 0) := by decide +kernel
theorem f329_18 : aF 18 zM329.2.2.2.2.2.2.2 = some (18, .ldc_w 266, 3, 858993459, 0) := by decide +kernel
theorem f329_21 : aF 21 zM329.2.2.2.2.2.2.2 = some (21, .iand, 1, 0, 0) := by decide +kernel
theorem f329_22 : aF 22 zM329.2.2.2.2.2.2.2 = some (22, .iadd, 1, 0, 0) := by decide +kernel
theorem f329_23 : aF 23 zM329.2.2.2.2.2.2.2 = some (23, .istore_n 0, 1, 0, 0) := by decide +kernel
theorem f329_24 : aF 24 zM329.2.2.2.2.2.2.2 = some (24, .iload_n 0, 1, 0, 0) := by decide +kernel
theorem f329_25 : aF 25 zM329.2.2.2.2.2.2.2 = some (25, .iload_n 0, 1, 0, 0) := by decide +kernel
theorem f329_26 : aF 26 zM329.2.2.2.2.2.2.2 = some (26, .iconst 4, 1, 0, 0) := by decide +kernel
theorem f329_27 : aF 27 zM329.2.2.2.2.2.2.2 = some (27, .iushr, 1, 0, 0) := by decide +kernel
theorem f329_28 : aF 28 zM329.2.2.2.2.2.2.2 = some (28, .iadd, 1, 0, 0) := by decide +kernel
theorem f329_29 : aF 29 zM329.2.2.2.2.2.2.2 = some (29, .ldc_w 267, 3, 252645135, 0) := by decide +kernel
theorem f329_32 : aF 32 zM329.2.2.2.2.2.2.2 = some (32, .iand, 1, 0, 0) := by decide +kernel
theorem f329_33 : aF 33 zM329.2.2.2.2.2.2.2 = some (33, .istore_n 0, 1, 0, 0) := by decide +kernel
theorem f329_34 : aF 34 zM329.2.2.2.2.2.2.2 = some (34, .iload_n 0, 1, 0, 0) := by decide +kernel
theorem f329_35 : aF 35 zM329.2.2.2.2.2.2.2 = some (35, .iload_n 0, 1, 0, 0) := by decide +kernel
theorem f329_36 : aF 36 zM329.2.2.2.2.2.2.2 = some (36, .bipush 8, 2, 0, 0) := by decide +kernel
theorem f329_38 : aF 38 zM329.2.2.2.2.2.2.2 = some (38, .iushr, 1, 0, 0) := by decide +kernel
theorem f329_39 : aF 39 zM329.2.2.2.2.2.2.2 = some (39, .iadd, 1, 0, 0) := by decide +kernel
theorem f329_40 : aF 40 zM329.2.2.2.2.2.2.2 = some (40, .istore_n 0, 1, 0, 0) := by decide +kernel
theorem f329_41 : aF 41 zM329.2.2.2.2.2.2.2 = some (41, .iload_n 0, 1, 0, 0) := by decide +kernel
theorem f329_42 : aF 42 zM329.2.2.2.2.2.2.2 = some (42, .iload_n 0, 1, 0, 0) := by decide +kernel
theorem f329_43 : aF 43 zM329.2.2.2.2.2.2.2 = some (43, .bipush 16, 2, 0, 0) := by decide +kernel
theorem f329_45 : aF 45 zM329.2.2.2.2.2.2.2 = some (45, .iushr, 1, 0, 0) := by decide +kernel
theorem f329_46 : aF 46 zM329.2.2.2.2.2.2.2 = some (46, .iadd, 1, 0, 0) := by decide +kernel
theorem f329_47 : aF 47 zM329.2.2.2.2.2.2.2 = some (47, .istore_n 0, 1, 0, 0) := by decide +kernel
theorem f329_48 : aF 48 zM329.2.2.2.2.2.2.2 = some (48, .iload_n 0, 1, 0, 0) := by decide +kernel
theorem f329_49 : aF 49 zM329.2.2.2.2.2.2.2 = some (49, .bipush 63, 2, 0, 0) := by decide +kernel
theorem f329_51 : aF 51 zM329.2.2.2.2.2.2.2 = some (51, .iand, 1, 0, 0) := by decide +kernel
theorem f329_52 : aF 52 zM329.2.2.2.2.2.2.2 = some (52, .ireturn, 1, 0, 0) := by decide +kernel
theorem f330_0 : aF 0 zM330.2.2.2.2.2.2.2 = some (0, .iload_n 1, 1, 0, 0) := by decide +kernel
theorem f330_1 : aF 1 zM330.2.2.2.2.2.2.2 = some (1, .iload_n 2, 1, 0, 0) := by decide +kernel
theorem f330_2 : aF 2 zM330.2.2.2.2.2.2.2 = some (2, .if_icmp .le 44, 3, 46, 0) := by decide +kernel
theorem f330_46 : aF 46 zM330.2.2.2.2.2.2.2 = some (46, .iload_n 1, 1, 0, 0) := by decide +kernel
theorem f330_47 : aF 47 zM330.2.2.2.2.2.2.2 = some (47, .ifCond .ge 12, 3, 59, 0) := by decide +kernel
theorem f330_59 : aF 59 zM330.2.2.2.2.2.2.2 = some (59, .iload_n 2, 1, 0, 0) := by decide +kernel
theorem f330_60 : aF 60 zM330.2.2.2.2.2.2.2 = some (60, .iload_n 0, 1, 0, 0) := by decide +kernel
theorem f330_61 : aF 61 zM330.2.2.2.2.2.2.2 = some (61, .if_icmp .le 12, 3, 73, 0) := by decide +kernel
theorem f330_73 : aF 73 zM330.2.2.2.2.2.2.2 = some (73, .return_, 1, 0, 0) := by decide +kernel
theorem f331_0 : aF 0 zM331.2.2.2.2.2.2.2 = some (0, .aload_n 0, 1, 0, 0) := by decide +kernel
theorem f331_1 : aF 1 zM331.2.2.2.2.2.2.2 = some (1, .arraylength, 1, 0, 0) := by decide +kernel
theorem f331_2 : aF 2 zM331.2.2.2.2.2.2.2 = some (2, .iload_n 1, 1, 0, 0) := by decide +kernel
theorem f331_3 : aF 3 zM331.2.2.2.2.2.2.2 = some (3, .iload_n 2, 1, 0, 0) := by decide +kernel
theorem f331_4 : aF 4 zM331.2.2.2.2.2.2.2 = some (4, .invokestatic 13, 3, 330, 0) := by decide +kernel
theorem f331_7 : aF 7 zM331.2.2.2.2.2.2.2 = some (7, .iload_n 1, 1, 0, 0) := by decide +kernel
theorem f331_8 : aF 8 zM331.2.2.2.2.2.2.2 = some (8, .istore 5, 2, 0, 0) := by decide +kernel
theorem f331_10 : aF 10 zM331.2.2.2.2.2.2.2 = some (10, .iload 5, 2, 0, 0) := by decide +kernel
theorem f331_12 : aF 12 zM331.2.2.2.2.2.2.2 = some (12, .iload_n 2, 1, 0, 0) := by decide +kernel
theorem f331_13 : aF 13 zM331.2.2.2.2.2.2.2 = some (13, .if_icmp .ge 14, 3, 27, 0) := by decide +kernel
theorem f331_16 : aF 16 zM331.2.2.2.2.2.2.2 = some (16, .aload_n 0, 1, 0, 0) := by decide +kernel
theorem f331_17 : aF 17 zM331.2.2.2.2.2.2.2 = some (17, .iload 5, 2, 0, 0) := by decide +kernel
theorem f331_19 : aF 19 zM331.2.2.2.2.2.2.2 = some (19, .lload_n 3, 1, 0, 0) := by decide +kernel
theorem f331_20 : aF 20 zM331.2.2.2.2.2.2.2 = some (20, .lastore, 1, 0, 0) := by decide +kernel
theorem f331_21 : aF 21 zM331.2.2.2.2.2.2.2 = some (21, .iinc 5 1, 3, 0, 0) := by decide +kernel
theorem f331_24 : aF 24 zM331.2.2.2.2.2.2.2 = some (24, .goto (-14), 3, 10, 0) := by decide +kernel
theorem f331_27 : aF 27 zM331.2.2.2.2.2.2.2 = some (27, .return_, 1, 0, 0) := by decide +kernel
theorem f332_0 : aF 0 zM332.2.2.2.2.2.2.2 = some (0, .iconst 0, 1, 0, 0) := by decide +kernel
theorem f332_1 : aF 1 zM332.2.2.2.2.2.2.2 = some (1, .istore_n 2, 1, 0, 0) := by decide +kernel
theorem f332_2 : aF 2 zM332.2.2.2.2.2.2.2 = some (2, .aload_n 0, 1, 0, 0) := by decide +kernel
theorem f332_3 : aF 3 zM332.2.2.2.2.2.2.2 = some (3, .arraylength, 1, 0, 0) := by decide +kernel
theorem f332_4 : aF 4 zM332.2.2.2.2.2.2.2 = some (4, .istore_n 3, 1, 0, 0) := by decide +kernel
theorem f332_5 : aF 5 zM332.2.2.2.2.2.2.2 = some (5, .iload_n 2, 1, 0, 0) := by decide +kernel
theorem f332_6 : aF 6 zM332.2.2.2.2.2.2.2 = some (6, .iload_n 3, 1, 0, 0) := by decide +kernel
theorem f332_7 : aF 7 zM332.2.2.2.2.2.2.2 = some (7, .if_icmp .ge 13, 3, 20, 0) := by decide +kernel
theorem f332_10 : aF 10 zM332.2.2.2.2.2.2.2 = some (10, .aload_n 0, 1, 0, 0) := by decide +kernel
theorem f332_11 : aF 11 zM332.2.2.2.2.2.2.2 = some (11, .iload_n 2, 1, 0, 0) := by decide +kernel
theorem f332_12 : aF 12 zM332.2.2.2.2.2.2.2 = some (12, .iload_n 1, 1, 0, 0) := by decide +kernel
theorem f332_13 : aF 13 zM332.2.2.2.2.2.2.2 = some (13, .iastore, 1, 0, 0) := by decide +kernel
theorem f332_14 : aF 14 zM332.2.2.2.2.2.2.2 = some (14, .iinc 2 1, 3, 0, 0) := by decide +kernel
theorem f332_17 : aF 17 zM332.2.2.2.2.2.2.2 = some (17, .goto (-12), 3, 5, 0) := by decide +kernel
theorem f332_20 : aF 20 zM332.2.2.2.2.2.2.2 = some (20, .return_, 1, 0, 0) := by decide +kernel
set_option maxRecDepth 20000 in
theorem zg1 : zmt[1]? = some zM1 := rfl
set_option maxRecDepth 20000 in
theorem zg33 : zmt[33]? = some zM33 := rfl
set_option maxRecDepth 20000 in
theorem zg53 : zmt[53]? = some zM53 := rfl
set_option maxRecDepth 20000 in
theorem zg56 : zmt[56]? = some zM56 := rfl
set_option maxRecDepth 20000 in
theorem zg57 : zmt[57]? = some zM57 := rfl
set_option maxRecDepth 20000 in
theorem zg58 : zmt[58]? = some zM58 := rfl
set_option maxRecDepth 20000 in
theorem zg59 : zmt[59]? = some zM59 := rfl
set_option maxRecDepth 20000 in
theorem zg60 : zmt[60]? = some zM60 := rfl
set_option maxRecDepth 20000 in
theorem zg61 : zmt[61]? = some zM61 := rfl
set_option maxRecDepth 20000 in
theorem zg62 : zmt[62]? = some zM62 := rfl
set_option maxRecDepth 20000 in
theorem zg66 : zmt[66]? = some zM66 := rfl
set_option maxRecDepth 20000 in
theorem zg67 : zmt[67]? = some zM67 := rfl
set_option maxRecDepth 20000 in
theorem zg68 : zmt[68]? = some zM68 := rfl
set_option maxRecDepth 20000 in
theorem zg69 : zmt[69]? = some zM69 := rfl
set_option maxRecDepth 20000 in
theorem zg96 : zmt[96]? = some zM96 := rfl
set_option maxRecDepth 20000 in
theorem zg97 : zmt[97]? = some zM97 := rfl
set_option maxRecDepth 20000 in
theorem zg103 : zmt[103]? = some zM103 := rfl
set_option maxRecDepth 20000 in
theorem zg104 : zmt[104]? = some zM104 := rfl
set_option maxRecDepth 20000 in
theorem zg105 : zmt[105]? = some zM105 := rfl
set_option maxRecDepth 20000 in
theorem zg109 : zmt[109]? = some zM109 := rfl
set_option maxRecDepth 20000 in
theorem zg175 : zmt[175]? = some zM175 := rfl
set_option maxRecDepth 20000 in
theorem zg178 : zmt[178]? = some zM178 := rfl
set_option maxRecDepth 20000 in
theorem zg180 : zmt[180]? = some zM180 := rfl
set_option maxRecDepth 20000 in
theorem zg189 : zmt[189]? = some zM189 := rfl
set_option maxRecDepth 20000 in
theorem zg211 : zmt[211]? = some zM211 := rfl
set_option maxRecDepth 20000 in
theorem zg233 : zmt[233]? = some zM233 := rfl
set_option maxRecDepth 20000 in
theorem zg236 : zmt[236]? = some zM236 := rfl
set_option maxRecDepth 20000 in
theorem zg239 : zmt[239]? = some zM239 := rfl
set_option maxRecDepth 20000 in
theorem zg286 : zmt[286]? = some zM286 := rfl
set_option maxRecDepth 20000 in
theorem zg288 : zmt[288]? = some zM288 := rfl
set_option maxRecDepth 20000 in
theorem zg292 : zmt[292]? = some zM292 := rfl
set_option maxRecDepth 20000 in
theorem zg296 : zmt[296]? = some zM296 := rfl
set_option maxRecDepth 20000 in
theorem zg297 : zmt[297]? = some zM297 := rfl
set_option maxRecDepth 20000 in
theorem zg298 : zmt[298]? = some zM298 := rfl
set_option maxRecDepth 20000 in
theorem zg320 : zmt[320]? = some zM320 := rfl
set_option maxRecDepth 20000 in
theorem zg328 : zmt[328]? = some zM328 := rfl
set_option maxRecDepth 20000 in
theorem zg329 : zmt[329]? = some zM329 := rfl
set_option maxRecDepth 20000 in
theorem zg330 : zmt[330]? = some zM330 := rfl
set_option maxRecDepth 20000 in
theorem zg331 : zmt[331]? = some zM331 := rfl
set_option maxRecDepth 20000 in
theorem zg332 : zmt[332]? = some zM332 := rfl

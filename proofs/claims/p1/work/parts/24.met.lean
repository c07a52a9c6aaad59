-- ===== the instructions that are met (by program) =====
theorem f32_0 : aF 0 zM32.2.2.2.2.2.2.2 = some (0, .aload_n 0, 1, 0, 0) := by decide +kernel
theorem f32_1 : aF 1 zM32.2.2.2.2.2.2.2 = some (1, .getfield 96, 3, 2, 2) := by decide +kernel
theorem f32_4 : aF 4 zM32.2.2.2.2.2.2.2 = some (4, .bipush 40, 2, 0, 0) := by decide +kernel
theorem f32_6 : aF 6 zM32.2.2.2.2.2.2.2 = some (6, .if_icmp .ge 59, 3, 65, 0) := by decide +kernel
theorem f32_9 : aF 9 zM32.2.2.2.2.2.2.2 = some (9, .aload_n 0, 1, 0, 0) := by decide +kernel
theorem f32_10 : aF 10 zM32.2.2.2.2.2.2.2 = some (10, .getfield 30, 3, 2, 10) := by decide +kernel
theorem f32_13 : aF 13 zM32.2.2.2.2.2.2.2 = some (13, .aload_n 0, 1, 0, 0) := by decide +kernel
theorem f32_14 : aF 14 zM32.2.2.2.2.2.2.2 = some (14, .getfield 96, 3, 2, 2) := by decide +kernel
theorem f32_17 : aF 17 zM32.2.2.2.2.2.2.2 = some (17, .iload_n 1, 1, 0, 0) := by decide +kernel
theorem f32_18 : aF 18 zM32.2.2.2.2.2.2.2 = some (18, .iastore, 1, 0, 0) := by decide +kernel
theorem f32_19 : aF 19 zM32.2.2.2.2.2.2.2 = some (19, .aload_n 0, 1, 0, 0) := by decide +kernel
theorem f32_20 : aF 20 zM32.2.2.2.2.2.2.2 = some (20, .getfield 33, 3, 2, 11) := by decide +kernel
theorem f32_23 : aF 23 zM32.2.2.2.2.2.2.2 = some (23, .aload_n 0, 1, 0, 0) := by decide +kernel
theorem f32_24 : aF 24 zM32.2.2.2.2.2.2.2 = some (24, .getfield 96, 3, 2, 2) := by decide +kernel
theorem f32_27 : aF 27 zM32.2.2.2.2.2.2.2 = some (27, .iload_n 2, 1, 0, 0) := by decide +kernel
theorem f32_28 : aF 28 zM32.2.2.2.2.2.2.2 = some (28, .iastore, 1, 0, 0) := by decide +kernel
theorem f32_29 : aF 29 zM32.2.2.2.2.2.2.2 = some (29, .aload_n 0, 1, 0, 0) := by decide +kernel
theorem f32_30 : aF 30 zM32.2.2.2.2.2.2.2 = some (30, .getfield 36, 3, 2, 12) := by decide +kernel
theorem f32_33 : aF 33 zM32.2.2.2.2.2.2.2 = some (33, .aload_n 0, 1, 0, 0) := by decide +kernel
theorem f32_34 : aF 34 zM32.2.2.2.2.2.2.2 = some (34, .getfield 96, 3, 2, 2) := by decide +kernel
theorem f32_37 : aF 37 zM32.2.2.2.2.2.2.2 = some (37, .iload_n 3, 1, 0, 0) := by decide +kernel
theorem f32_38 : aF 38 zM32.2.2.2.2.2.2.2 = some (38, .iastore, 1, 0, 0) := by decide +kernel
theorem f32_39 : aF 39 zM32.2.2.2.2.2.2.2 = some (39, .aload_n 0, 1, 0, 0) := by decide +kernel
theorem f32_40 : aF 40 zM32.2.2.2.2.2.2.2 = some (40, .getfield 39, 3, 2, 13) := by decide +kernel
theorem f32_43 : aF 43 zM32.2.2.2.2.2.2.2 = some (43, .aload_n 0, 1, 0, 0) := by decide +kernel
theorem f32_44 : aF 44 zM32.2.2.2.2.2.2.2 = some (44, .getfield 96, 3, 2, 2) := by decide +kernel
theorem f32_47 : aF 47 zM32.2.2.2.2.2.2.2 = some (47, .aload_n 0, 1, 0, 0) := by decide +kernel
theorem f32_48 : aF 48 zM32.2.2.2.2.2.2.2 = some (48, .getfield 60, 3, 2, 0) := by decide +kernel
theorem f32_51 : aF 51 zM32.2.2.2.2.2.2.2 = some (51, .getfield 68, 3, 6, 0) := by decide +kernel
theorem f32_54 : aF 54 zM32.2.2.2.2.2.2.2 = some (54, .iastore, 1, 0, 0) := by decide +kernel
theorem f32_55 : aF 55 zM32.2.2.2.2.2.2.2 = some (55, .aload_n 0, 1, 0, 0) := by decide +kernel
theorem f32_56 : aF 56 zM32.2.2.2.2.2.2.2 = some (56, .dup, 1, 0, 0) := by decide +kernel
theorem f32_57 : aF 57 zM32.2.2.2.2.2.2.2 = some (57, .getfield 96, 3, 2, 2) := by decide +kernel
theorem f32_60 : aF 60 zM32.2.2.2.2.2.2.2 = some (60, .iconst 1, 1, 0, 0) := by decide +kernel
theorem f32_61 : aF 61 zM32.2.2.2.2.2.2.2 = some (61, .iadd, 1, 0, 0) := by decide +kernel
theorem f32_62 : aF 62 zM32.2.2.2.2.2.2.2 = some (62, .putfield 96, 3, 2, 2) := by decide +kernel
theorem f32_65 : aF 65 zM32.2.2.2.2.2.2.2 = some (65, .aload_n 0, 1, 0, 0) := by decide +kernel
theorem f32_66 : aF 66 zM32.2.2.2.2.2.2.2 = some (66, .getfield 96, 3, 2, 2) := by decide +kernel
theorem f32_69 : aF 69 zM32.2.2.2.2.2.2.2 = some (69, .ireturn, 1, 0, 0) := by decide +kernel
theorem f40_0 : aF 0 zM40.2.2.2.2.2.2.2 = some (0, .iload_n 1, 1, 0, 0) := by decide +kernel
theorem f40_1 : aF 1 zM40.2.2.2.2.2.2.2 = some (1, .bipush 6, 2, 0, 0) := by decide +kernel
theorem f40_3 : aF 3 zM40.2.2.2.2.2.2.2 = some (3, .imul, 1, 0, 0) := by decide +kernel
theorem f40_4 : aF 4 zM40.2.2.2.2.2.2.2 = some (4, .iload_n 2, 1, 0, 0) := by decide +kernel
theorem f40_5 : aF 5 zM40.2.2.2.2.2.2.2 = some (5, .iadd, 1, 0, 0) := by decide +kernel
theorem f40_6 : aF 6 zM40.2.2.2.2.2.2.2 = some (6, .istore 4, 2, 0, 0) := by decide +kernel
theorem f40_8 : aF 8 zM40.2.2.2.2.2.2.2 = some (8, .aload_n 0, 1, 0, 0) := by decide +kernel
theorem f40_9 : aF 9 zM40.2.2.2.2.2.2.2 = some (9, .getfield 9, 3, 3, 0) := by decide +kernel
theorem f40_12 : aF 12 zM40.2.2.2.2.2.2.2 = some (12, .iload 4, 2, 0, 0) := by decide +kernel
theorem f40_14 : aF 14 zM40.2.2.2.2.2.2.2 = some (14, .iaload, 1, 0, 0) := by decide +kernel
theorem f40_15 : aF 15 zM40.2.2.2.2.2.2.2 = some (15, .istore 5, 2, 0, 0) := by decide +kernel
theorem f40_17 : aF 17 zM40.2.2.2.2.2.2.2 = some (17, .aload_n 0, 1, 0, 0) := by decide +kernel
theorem f40_18 : aF 18 zM40.2.2.2.2.2.2.2 = some (18, .getfield 9, 3, 3, 0) := by decide +kernel
theorem f40_21 : aF 21 zM40.2.2.2.2.2.2.2 = some (21, .iload 4, 2, 0, 0) := by decide +kernel
theorem f40_23 : aF 23 zM40.2.2.2.2.2.2.2 = some (23, .iload_n 3, 1, 0, 0) := by decide +kernel
theorem f40_24 : aF 24 zM40.2.2.2.2.2.2.2 = some (24, .iastore, 1, 0, 0) := by decide +kernel
theorem f40_25 : aF 25 zM40.2.2.2.2.2.2.2 = some (25, .iload 5, 2, 0, 0) := by decide +kernel
theorem f40_27 : aF 27 zM40.2.2.2.2.2.2.2 = some (27, .ireturn, 1, 0, 0) := by decide +kernel
theorem f45_0 : aF 0 zM45.2.2.2.2.2.2.2 = some (0, .aload_n 0, 1, 0, 0) := by decide +kernel
theorem f45_1 : aF 1 zM45.2.2.2.2.2.2.2 = some (1, .getfield 33, 3, 4, 1) := by decide +kernel
theorem f45_4 : aF 4 zM45.2.2.2.2.2.2.2 = some (4, .bipush 6, 2, 0, 0) := by decide +kernel
theorem f45_6 : aF 6 zM45.2.2.2.2.2.2.2 = some (6, .if_icmp .ge 23, 3, 29, 0) := by decide +kernel
theorem f45_9 : aF 9 zM45.2.2.2.2.2.2.2 = some (9, .aload_n 0, 1, 0, 0) := by decide +kernel
theorem f45_10 : aF 10 zM45.2.2.2.2.2.2.2 = some (10, .getfield 9, 3, 4, 0) := by decide +kernel
theorem f45_13 : aF 13 zM45.2.2.2.2.2.2.2 = some (13, .aload_n 0, 1, 0, 0) := by decide +kernel
theorem f45_14 : aF 14 zM45.2.2.2.2.2.2.2 = some (14, .getfield 33, 3, 4, 1) := by decide +kernel
theorem f45_17 : aF 17 zM45.2.2.2.2.2.2.2 = some (17, .iload_n 1, 1, 0, 0) := by decide +kernel
theorem f45_18 : aF 18 zM45.2.2.2.2.2.2.2 = some (18, .iastore, 1, 0, 0) := by decide +kernel
theorem f45_19 : aF 19 zM45.2.2.2.2.2.2.2 = some (19, .aload_n 0, 1, 0, 0) := by decide +kernel
theorem f45_20 : aF 20 zM45.2.2.2.2.2.2.2 = some (20, .dup, 1, 0, 0) := by decide +kernel
theorem f45_21 : aF 21 zM45.2.2.2.2.2.2.2 = some (21, .getfield 33, 3, 4, 1) := by decide +kernel
theorem f45_24 : aF 24 zM45.2.2.2.2.2.2.2 = some (24, .iconst 1, 1, 0, 0) := by decide +kernel
theorem f45_25 : aF 25 zM45.2.2.2.2.2.2.2 = some (25, .iadd, 1, 0, 0) := by decide +kernel
theorem f45_26 : aF 26 zM45.2.2.2.2.2.2.2 = some (26, .putfield 33, 3, 4, 1) := by decide +kernel
theorem f45_29 : aF 29 zM45.2.2.2.2.2.2.2 = some (29, .aload_n 0, 1, 0, 0) := by decide +kernel
theorem f45_30 : aF 30 zM45.2.2.2.2.2.2.2 = some (30, .getfield 33, 3, 4, 1) := by decide +kernel
theorem f45_33 : aF 33 zM45.2.2.2.2.2.2.2 = some (33, .ireturn, 1, 0, 0) := by decide +kernel
theorem f71_0 : aF 0 zM71.2.2.2.2.2.2.2 = some (0, .iload_n 0, 1, 0, 0) := by decide +kernel
theorem f71_1 : aF 1 zM71.2.2.2.2.2.2.2 = some (1, .iconst 1, 1, 0, 0) := by decide +kernel
theorem f71_2 : aF 2 zM71.2.2.2.2.2.2.2 = some (2, .iconst 3, 1, 0, 0) := by decide +kernel
theorem f71_3 : aF 3 zM71.2.2.2.2.2.2.2 = some (3, .invokestatic 45, 3, 137, 0) := by decide +kernel
theorem f71_6 : aF 6 zM71.2.2.2.2.2.2.2 = some (6, .ifCond .ne 9, 3, 15, 0) := by decide +kernel
theorem f71_9 : aF 9 zM71.2.2.2.2.2.2.2 = some (9, .iload_n 0, 1, 0, 0) := by decide +kernel
theorem f71_10 : aF 10 zM71.2.2.2.2.2.2.2 = some (10, .bipush 7, 2, 0, 0) := by decide +kernel
theorem f71_12 : aF 12 zM71.2.2.2.2.2.2.2 = some (12, .if_icmp .ne 7, 3, 19, 0) := by decide +kernel
theorem f71_15 : aF 15 zM71.2.2.2.2.2.2.2 = some (15, .iconst 1, 1, 0, 0) := by decide +kernel
theorem f71_16 : aF 16 zM71.2.2.2.2.2.2.2 = some (16, .goto 4, 3, 20, 0) := by decide +kernel
theorem f71_19 : aF 19 zM71.2.2.2.2.2.2.2 = some (19, .iconst 0, 1, 0, 0) := by decide +kernel
theorem f71_20 : aF 20 zM71.2.2.2.2.2.2.2 = some (20, .ireturn, 1, 0, 0) := by decide +kernel
theorem f73_0 : aF 0 zM73.2.2.2.2.2.2.2 = some (0, .aload_n 0, 1, 0, 0) := by decide +kernel
theorem f73_1 : aF 1 zM73.2.2.2.2.2.2.2 = some (1, .getfield 52, 3, 6, 1) := by decide +kernel
theorem f73_4 : aF 4 zM73.2.2.2.2.2.2.2 = some (4, .sipush 150, 3, 0, 0) := by decide +kernel
theorem f73_7 : aF 7 zM73.2.2.2.2.2.2.2 = some (7, .if_icmp .lt 7, 3, 14, 0) := by decide +kernel
theorem f73_14 : aF 14 zM73.2.2.2.2.2.2.2 = some (14, .iconst 0, 1, 0, 0) := by decide +kernel
theorem f73_15 : aF 15 zM73.2.2.2.2.2.2.2 = some (15, .ireturn, 1, 0, 0) := by decide +kernel
theorem f74_0 : aF 0 zM74.2.2.2.2.2.2.2 = some (0, .iload_n 1, 1, 0, 0) := by decide +kernel
theorem f74_1 : aF 1 zM74.2.2.2.2.2.2.2 = some (1, .iconst 0, 1, 0, 0) := by decide +kernel
theorem f74_2 : aF 2 zM74.2.2.2.2.2.2.2 = some (2, .aload_n 0, 1, 0, 0) := by decide +kernel
theorem f74_3 : aF 3 zM74.2.2.2.2.2.2.2 = some (3, .getfield 52, 3, 6, 1) := by decide +kernel
theorem f74_6 : aF 6 zM74.2.2.2.2.2.2.2 = some (6, .iconst 1, 1, 0, 0) := by decide +kernel
theorem f74_7 : aF 7 zM74.2.2.2.2.2.2.2 = some (7, .isub, 1, 0, 0) := by decide +kernel
theorem f74_8 : aF 8 zM74.2.2.2.2.2.2.2 = some (8, .invokestatic 45, 3, 137, 0) := by decide +kernel
theorem f74_11 : aF 11 zM74.2.2.2.2.2.2.2 = some (11, .ireturn, 1, 0, 0) := by decide +kernel
theorem f75_0 : aF 0 zM75.2.2.2.2.2.2.2 = some (0, .aload_n 0, 1, 0, 0) := by decide +kernel
theorem f75_1 : aF 1 zM75.2.2.2.2.2.2.2 = some (1, .iload_n 1, 1, 0, 0) := by decide +kernel
theorem f75_2 : aF 2 zM75.2.2.2.2.2.2.2 = some (2, .invokevirtual 56, 3, 74, 0) := by decide +kernel
theorem f75_5 : aF 5 zM75.2.2.2.2.2.2.2 = some (5, .ifCond .eq 19, 3, 24, 0) := by decide +kernel
theorem f75_24 : aF 24 zM75.2.2.2.2.2.2.2 = some (24, .iconst 0, 1, 0, 0) := by decide +kernel
theorem f75_25 : aF 25 zM75.2.2.2.2.2.2.2 = some (25, .ireturn, 1, 0, 0) := by decide +kernel
theorem f77_0 : aF 0 zM77.2.2.2.2.2.2.2 = some (0, .aload_n 0, 1, 0, 0) := by decide +kernel
theorem f77_1 : aF 1 zM77.2.2.2.2.2.2.2 = some (1, .iload_n 1, 1, 0, 0) := by decide +kernel
theorem f77_2 : aF 2 zM77.2.2.2.2.2.2.2 = some (2, .invokevirtual 56, 3, 74, 0) := by decide +kernel
theorem f77_5 : aF 5 zM77.2.2.2.2.2.2.2 = some (5, .ifCond .eq 21, 3, 26, 0) := by decide +kernel
theorem f77_26 : aF 26 zM77.2.2.2.2.2.2.2 = some (26, .iconst 0, 1, 0, 0) := by decide +kernel
theorem f77_27 : aF 27 zM77.2.2.2.2.2.2.2 = some (27, .ireturn, 1, 0, 0) := by decide +kernel
theorem f78_0 : aF 0 zM78.2.2.2.2.2.2.2 = some (0, .aload_n 0, 1, 0, 0) := by decide +kernel
theorem f78_1 : aF 1 zM78.2.2.2.2.2.2.2 = some (1, .iload_n 1, 1, 0, 0) := by decide +kernel
theorem f78_2 : aF 2 zM78.2.2.2.2.2.2.2 = some (2, .invokevirtual 56, 3, 74, 0) := by decide +kernel
theorem f78_5 : aF 5 zM78.2.2.2.2.2.2.2 = some (5, .ifCond .eq 22, 3, 27, 0) := by decide +kernel
theorem f78_27 : aF 27 zM78.2.2.2.2.2.2.2 = some (27, .iconst 0, 1, 0, 0) := by decide +kernel
theorem f78_28 : aF 28 zM78.2.2.2.2.2.2.2 = some (28, .ireturn, 1, 0, 0) := by decide +kernel
theorem f79_0 : aF 0 zM79.2.2.2.2.2.2.2 = some (0, .aload_n 0, 1, 0, 0) := by decide +kernel
theorem f79_1 : aF 1 zM79.2.2.2.2.2.2.2 = some (1, .getfield 52, 3, 6, 1) := by decide +kernel
theorem f79_4 : aF 4 zM79.2.2.2.2.2.2.2 = some (4, .istore 4, 2, 0, 0) := by decide +kernel
theorem f79_6 : aF 6 zM79.2.2.2.2.2.2.2 = some (6, .aload_n 0, 1, 0, 0) := by decide +kernel
theorem f79_7 : aF 7 zM79.2.2.2.2.2.2.2 = some (7, .invokevirtual 66, 3, 73, 0) := by decide +kernel
theorem f79_10 : aF 10 zM79.2.2.2.2.2.2.2 = some (10, .ifCond .eq 6, 3, 16, 0) := by decide +kernel
theorem f79_16 : aF 16 zM79.2.2.2.2.2.2.2 = some (16, .aload_n 0, 1, 0, 0) := by decide +kernel
theorem f79_17 : aF 17 zM79.2.2.2.2.2.2.2 = some (17, .getfield 9, 3, 6, 7) := by decide +kernel
theorem f79_20 : aF 20 zM79.2.2.2.2.2.2.2 = some (20, .iload 4, 2, 0, 0) := by decide +kernel
theorem f79_22 : aF 22 zM79.2.2.2.2.2.2.2 = some (22, .iload_n 1, 1, 0, 0) := by decide +kernel
theorem f79_23 : aF 23 zM79.2.2.2.2.2.2.2 = some (23, .iastore, 1, 0, 0) := by decide +kernel
theorem f79_24 : aF 24 zM79.2.2.2.2.2.2.2 = some (24, .aload_n 0, 1, 0, 0) := by decide +kernel
theorem f79_25 : aF 25 zM79.2.2.2.2.2.2.2 = some (25, .getfield 15, 3, 6, 8) := by decide +kernel
theorem f79_28 : aF 28 zM79.2.2.2.2.2.2.2 = some (28, .iload 4, 2, 0, 0) := by decide +kernel
theorem f79_30 : aF 30 zM79.2.2.2.2.2.2.2 = some (30, .iload_n 2, 1, 0, 0) := by decide +kernel
theorem f79_31 : aF 31 zM79.2.2.2.2.2.2.2 = some (31, .iastore, 1, 0, 0) := by decide +kernel
theorem f79_32 : aF 32 zM79.2.2.2.2.2.2.2 = some (32, .aload_n 0, 1, 0, 0) := by decide +kernel
theorem f79_33 : aF 33 zM79.2.2.2.2.2.2.2 = some (33, .getfield 27, 3, 6, 12) := by decide +kernel
theorem f79_36 : aF 36 zM79.2.2.2.2.2.2.2 = some (36, .iload 4, 2, 0, 0) := by decide +kernel
theorem f79_38 : aF 38 zM79.2.2.2.2.2.2.2 = some (38, .iload_n 3, 1, 0, 0) := by decide +kernel
theorem f79_39 : aF 39 zM79.2.2.2.2.2.2.2 = some (39, .iastore, 1, 0, 0) := by decide +kernel
theorem f79_40 : aF 40 zM79.2.2.2.2.2.2.2 = some (40, .aload_n 0, 1, 0, 0) := by decide +kernel
theorem f79_41 : aF 41 zM79.2.2.2.2.2.2.2 = some (41, .getfield 18, 3, 6, 9) := by decide +kernel
theorem f79_44 : aF 44 zM79.2.2.2.2.2.2.2 = some (44, .iload 4, 2, 0, 0) := by decide +kernel
theorem f79_46 : aF 46 zM79.2.2.2.2.2.2.2 = some (46, .aload_n 0, 1, 0, 0) := by decide +kernel
theorem f79_47 : aF 47 zM79.2.2.2.2.2.2.2 = some (47, .getfield 70, 3, 6, 0) := by decide +kernel
theorem f79_50 : aF 50 zM79.2.2.2.2.2.2.2 = some (50, .iastore, 1, 0, 0) := by decide +kernel
theorem f79_51 : aF 51 zM79.2.2.2.2.2.2.2 = some (51, .aload_n 0, 1, 0, 0) := by decide +kernel
theorem f79_52 : aF 52 zM79.2.2.2.2.2.2.2 = some (52, .getfield 21, 3, 6, 10) := by decide +kernel
theorem f79_55 : aF 55 zM79.2.2.2.2.2.2.2 = some (55, .iload 4, 2, 0, 0) := by decide +kernel
theorem f79_57 : aF 57 zM79.2.2.2.2.2.2.2 = some (57, .iconst (-1), 1, 0, 0) := by decide +kernel
theorem f79_58 : aF 58 zM79.2.2.2.2.2.2.2 = some (58, .iastore, 1, 0, 0) := by decide +kernel
theorem f79_59 : aF 59 zM79.2.2.2.2.2.2.2 = some (59, .aload_n 0, 1, 0, 0) := by decide +kernel
theorem f79_60 : aF 60 zM79.2.2.2.2.2.2.2 = some (60, .dup, 1, 0, 0) := by decide +kernel
theorem f79_61 : aF 61 zM79.2.2.2.2.2.2.2 = some (61, .getfield 73, 3, 6, 2) := by decide +kernel
theorem f79_64 : aF 64 zM79.2.2.2.2.2.2.2 = some (64, .iload_n 1, 1, 0, 0) := by decide +kernel
theorem f79_65 : aF 65 zM79.2.2.2.2.2.2.2 = some (65, .invokestatic 60, 3, 71, 0) := by decide +kernel
theorem f79_68 : aF 68 zM79.2.2.2.2.2.2.2 = some (68, .ifCond .eq 7, 3, 75, 0) := by decide +kernel
theorem f79_71 : aF 71 zM79.2.2.2.2.2.2.2 = some (71, .iconst 1, 1, 0, 0) := by decide +kernel
theorem f79_72 : aF 72 zM79.2.2.2.2.2.2.2 = some (72, .goto 4, 3, 76, 0) := by decide +kernel
theorem f79_75 : aF 75 zM79.2.2.2.2.2.2.2 = some (75, .iconst 0, 1, 0, 0) := by decide +kernel
theorem f79_76 : aF 76 zM79.2.2.2.2.2.2.2 = some (76, .iadd, 1, 0, 0) := by decide +kernel
theorem f79_77 : aF 77 zM79.2.2.2.2.2.2.2 = some (77, .putfield 73, 3, 6, 2) := by decide +kernel
theorem f79_80 : aF 80 zM79.2.2.2.2.2.2.2 = some (80, .aload_n 0, 1, 0, 0) := by decide +kernel
theorem f79_81 : aF 81 zM79.2.2.2.2.2.2.2 = some (81, .dup, 1, 0, 0) := by decide +kernel
theorem f79_82 : aF 82 zM79.2.2.2.2.2.2.2 = some (82, .getfield 76, 3, 6, 3) := by decide +kernel
theorem f79_85 : aF 85 zM79.2.2.2.2.2.2.2 = some (85, .iload_n 1, 1, 0, 0) := by decide +kernel
theorem f79_86 : aF 86 zM79.2.2.2.2.2.2.2 = some (86, .iconst 4, 1, 0, 0) := by decide +kernel
theorem f79_87 : aF 87 zM79.2.2.2.2.2.2.2 = some (87, .iconst 5, 1, 0, 0) := by decide +kernel
theorem f79_88 : aF 88 zM79.2.2.2.2.2.2.2 = some (88, .invokestatic 45, 3, 137, 0) := by decide +kernel
theorem f79_91 : aF 91 zM79.2.2.2.2.2.2.2 = some (91, .ifCond .eq 7, 3, 98, 0) := by decide +kernel
theorem f79_98 : aF 98 zM79.2.2.2.2.2.2.2 = some (98, .iconst 0, 1, 0, 0) := by decide +kernel
theorem f79_99 : aF 99 zM79.2.2.2.2.2.2.2 = some (99, .iadd, 1, 0, 0) := by decide +kernel
theorem f79_100 : aF 100 zM79.2.2.2.2.2.2.2 = some (100, .putfield 76, 3, 6, 3) := by decide +kernel
theorem f79_103 : aF 103 zM79.2.2.2.2.2.2.2 = some (103, .aload_n 0, 1, 0, 0) := by decide +kernel
theorem f79_104 : aF 104 zM79.2.2.2.2.2.2.2 = some (104, .dup, 1, 0, 0) := by decide +kernel
theorem f79_105 : aF 105 zM79.2.2.2.2.2.2.2 = some (105, .getfield 52, 3, 6, 1) := by decide +kernel
theorem f79_108 : aF 108 zM79.2.2.2.2.2.2.2 = some (108, .iconst 1, 1, 0, 0) := by decide +kernel
theorem f79_109 : aF 109 zM79.2.2.2.2.2.2.2 = some (109, .iadd, 1, 0, 0) := by decide +kernel
theorem f79_110 : aF 110 zM79.2.2.2.2.2.2.2 = some (110, .putfield 52, 3, 6, 1) := by decide +kernel
theorem f79_113 : aF 113 zM79.2.2.2.2.2.2.2 = some (113, .iload 4, 2, 0, 0) := by decide +kernel
theorem f79_115 : aF 115 zM79.2.2.2.2.2.2.2 = some (115, .ireturn, 1, 0, 0) := by decide +kernel
theorem f80_0 : aF 0 zM80.2.2.2.2.2.2.2 = some (0, .aload_n 0, 1, 0, 0) := by decide +kernel
theorem f80_1 : aF 1 zM80.2.2.2.2.2.2.2 = some (1, .bipush 6, 2, 0, 0) := by decide +kernel
theorem f80_3 : aF 3 zM80.2.2.2.2.2.2.2 = some (3, .iload_n 1, 1, 0, 0) := by decide +kernel
theorem f80_4 : aF 4 zM80.2.2.2.2.2.2.2 = some (4, .iconst (-1), 1, 0, 0) := by decide +kernel
theorem f80_5 : aF 5 zM80.2.2.2.2.2.2.2 = some (5, .invokevirtual 79, 3, 79, 0) := by decide +kernel
theorem f80_8 : aF 8 zM80.2.2.2.2.2.2.2 = some (8, .istore_n 2, 1, 0, 0) := by decide +kernel
theorem f80_9 : aF 9 zM80.2.2.2.2.2.2.2 = some (9, .iload_n 2, 1, 0, 0) := by decide +kernel
theorem f80_10 : aF 10 zM80.2.2.2.2.2.2.2 = some (10, .ifCond .ge 5, 3, 15, 0) := by decide +kernel
theorem f80_15 : aF 15 zM80.2.2.2.2.2.2.2 = some (15, .aload_n 0, 1, 0, 0) := by decide +kernel
theorem f80_16 : aF 16 zM80.2.2.2.2.2.2.2 = some (16, .getfield 83, 3, 6, 4) := by decide +kernel
theorem f80_19 : aF 19 zM80.2.2.2.2.2.2.2 = some (19, .istore_n 3, 1, 0, 0) := by decide +kernel
theorem f80_20 : aF 20 zM80.2.2.2.2.2.2.2 = some (20, .iload_n 3, 1, 0, 0) := by decide +kernel
theorem f80_21 : aF 21 zM80.2.2.2.2.2.2.2 = some (21, .ifCond .le 40, 3, 61, 0) := by decide +kernel
theorem f80_61 : aF 61 zM80.2.2.2.2.2.2.2 = some (61, .aload_n 0, 1, 0, 0) := by decide +kernel
theorem f80_62 : aF 62 zM80.2.2.2.2.2.2.2 = some (62, .getfield 24, 3, 6, 11) := by decide +kernel
theorem f80_65 : aF 65 zM80.2.2.2.2.2.2.2 = some (65, .iload_n 3, 1, 0, 0) := by decide +kernel
theorem f80_66 : aF 66 zM80.2.2.2.2.2.2.2 = some (66, .iload_n 2, 1, 0, 0) := by decide +kernel
theorem f80_67 : aF 67 zM80.2.2.2.2.2.2.2 = some (67, .iastore, 1, 0, 0) := by decide +kernel
theorem f80_68 : aF 68 zM80.2.2.2.2.2.2.2 = some (68, .aload_n 0, 1, 0, 0) := by decide +kernel
theorem f80_69 : aF 69 zM80.2.2.2.2.2.2.2 = some (69, .dup, 1, 0, 0) := by decide +kernel
theorem f80_70 : aF 70 zM80.2.2.2.2.2.2.2 = some (70, .getfield 83, 3, 6, 4) := by decide +kernel
theorem f80_73 : aF 73 zM80.2.2.2.2.2.2.2 = some (73, .iconst 1, 1, 0, 0) := by decide +kernel
theorem f80_74 : aF 74 zM80.2.2.2.2.2.2.2 = some (74, .iadd, 1, 0, 0) := by decide +kernel
theorem f80_75 : aF 75 zM80.2.2.2.2.2.2.2 = some (75, .putfield 83, 3, 6, 4) := by decide +kernel
theorem f80_78 : aF 78 zM80.2.2.2.2.2.2.2 = some (78, .iload_n 2, 1, 0, 0) := by decide +kernel
theorem f80_79 : aF 79 zM80.2.2.2.2.2.2.2 = some (79, .ireturn, 1, 0, 0) := by decide +kernel
theorem f88_0 : aF 0 zM88.2.2.2.2.2.2.2 = some (0, .aload_n 0, 1, 0, 0) := by decide +kernel
theorem f88_1 : aF 1 zM88.2.2.2.2.2.2.2 = some (1, .getfield 18, 3, 7, 2) := by decide +kernel
theorem f88_4 : aF 4 zM88.2.2.2.2.2.2.2 = some (4, .bipush 12, 2, 0, 0) := by decide +kernel
theorem f88_6 : aF 6 zM88.2.2.2.2.2.2.2 = some (6, .if_icmp .ge 33, 3, 39, 0) := by decide +kernel
theorem f88_9 : aF 9 zM88.2.2.2.2.2.2.2 = some (9, .aload_n 0, 1, 0, 0) := by decide +kernel
theorem f88_10 : aF 10 zM88.2.2.2.2.2.2.2 = some (10, .getfield 9, 3, 7, 0) := by decide +kernel
theorem f88_13 : aF 13 zM88.2.2.2.2.2.2.2 = some (13, .aload_n 0, 1, 0, 0) := by decide +kernel
theorem f88_14 : aF 14 zM88.2.2.2.2.2.2.2 = some (14, .getfield 18, 3, 7, 2) := by decide +kernel
theorem f88_17 : aF 17 zM88.2.2.2.2.2.2.2 = some (17, .iload_n 1, 1, 0, 0) := by decide +kernel
theorem f88_18 : aF 18 zM88.2.2.2.2.2.2.2 = some (18, .iastore, 1, 0, 0) := by decide +kernel
theorem f88_19 : aF 19 zM88.2.2.2.2.2.2.2 = some (19, .aload_n 0, 1, 0, 0) := by decide +kernel
theorem f88_20 : aF 20 zM88.2.2.2.2.2.2.2 = some (20, .getfield 15, 3, 7, 1) := by decide +kernel
theorem f88_23 : aF 23 zM88.2.2.2.2.2.2.2 = some (23, .aload_n 0, 1, 0, 0) := by decide +kernel
theorem f88_24 : aF 24 zM88.2.2.2.2.2.2.2 = some (24, .getfield 18, 3, 7, 2) := by decide +kernel
theorem f88_27 : aF 27 zM88.2.2.2.2.2.2.2 = some (27, .iload_n 2, 1, 0, 0) := by decide +kernel
theorem f88_28 : aF 28 zM88.2.2.2.2.2.2.2 = some (28, .iastore, 1, 0, 0) := by decide +kernel
theorem f88_29 : aF 29 zM88.2.2.2.2.2.2.2 = some (29, .aload_n 0, 1, 0, 0) := by decide +kernel
theorem f88_30 : aF 30 zM88.2.2.2.2.2.2.2 = some (30, .dup, 1, 0, 0) := by decide +kernel
theorem f88_31 : aF 31 zM88.2.2.2.2.2.2.2 = some (31, .getfield 18, 3, 7, 2) := by decide +kernel
theorem f88_34 : aF 34 zM88.2.2.2.2.2.2.2 = some (34, .iconst 1, 1, 0, 0) := by decide +kernel
theorem f88_35 : aF 35 zM88.2.2.2.2.2.2.2 = some (35, .iadd, 1, 0, 0) := by decide +kernel
theorem f88_36 : aF 36 zM88.2.2.2.2.2.2.2 = some (36, .putfield 18, 3, 7, 2) := by decide +kernel
theorem f88_39 : aF 39 zM88.2.2.2.2.2.2.2 = some (39, .aload_n 0, 1, 0, 0) := by decide +kernel
theorem f88_40 : aF 40 zM88.2.2.2.2.2.2.2 = some (40, .getfield 18, 3, 7, 2) := by decide +kernel
theorem f88_43 : aF 43 zM88.2.2.2.2.2.2.2 = some (43, .ireturn, 1, 0, 0) := by decide +kernel
theorem f89_0 : aF 0 zM89.2.2.2.2.2.2.2 = some (0, .aload_n 0, 1, 0, 0) := by decide +kernel
theorem f89_1 : aF 1 zM89.2.2.2.2.2.2.2 = some (1, .getfield 18, 3, 7, 2) := by decide +kernel
theorem f89_4 : aF 4 zM89.2.2.2.2.2.2.2 = some (4, .iconst 4, 1, 0, 0) := by decide +kernel
theorem f89_5 : aF 5 zM89.2.2.2.2.2.2.2 = some (5, .if_icmp .lt 12, 3, 17, 0) := by decide +kernel
theorem f89_17 : aF 17 zM89.2.2.2.2.2.2.2 = some (17, .iconst 0, 1, 0, 0) := by decide +kernel
theorem f89_18 : aF 18 zM89.2.2.2.2.2.2.2 = some (18, .ireturn, 1, 0, 0) := by decide +kernel
theorem f107_0 : aF 0 zM107.2.2.2.2.2.2.2 = some (0, .aload_n 0, 1, 0, 0) := by decide +kernel
theorem f107_1 : aF 1 zM107.2.2.2.2.2.2.2 = some (1, .getfield 9, 3, 9, 0) := by decide +kernel
theorem f107_4 : aF 4 zM107.2.2.2.2.2.2.2 = some (4, .iload_n 1, 1, 0, 0) := by decide +kernel
theorem f107_5 : aF 5 zM107.2.2.2.2.2.2.2 = some (5, .iconst (-1), 1, 0, 0) := by decide +kernel
theorem f107_6 : aF 6 zM107.2.2.2.2.2.2.2 = some (6, .iastore, 1, 0, 0) := by decide +kernel
theorem f107_7 : aF 7 zM107.2.2.2.2.2.2.2 = some (7, .aload_n 0, 1, 0, 0) := by decide +kernel
theorem f107_8 : aF 8 zM107.2.2.2.2.2.2.2 = some (8, .getfield 15, 3, 9, 1) := by decide +kernel
theorem f107_11 : aF 11 zM107.2.2.2.2.2.2.2 = some (11, .iload_n 1, 1, 0, 0) := by decide +kernel
theorem f107_12 : aF 12 zM107.2.2.2.2.2.2.2 = some (12, .iconst 0, 1, 0, 0) := by decide +kernel
theorem f107_13 : aF 13 zM107.2.2.2.2.2.2.2 = some (13, .iastore, 1, 0, 0) := by decide +kernel
theorem f107_14 : aF 14 zM107.2.2.2.2.2.2.2 = some (14, .iconst 1, 1, 0, 0) := by decide +kernel
theorem f107_15 : aF 15 zM107.2.2.2.2.2.2.2 = some (15, .ireturn, 1, 0, 0) := by decide +kernel
theorem f110_0 : aF 0 zM110.2.2.2.2.2.2.2 = some (0, .aload_n 0, 1, 0, 0) := by decide +kernel
theorem f110_1 : aF 1 zM110.2.2.2.2.2.2.2 = some (1, .getfield 9, 3, 9, 0) := by decide +kernel
theorem f110_4 : aF 4 zM110.2.2.2.2.2.2.2 = some (4, .iload_n 1, 1, 0, 0) := by decide +kernel
theorem f110_5 : aF 5 zM110.2.2.2.2.2.2.2 = some (5, .iaload, 1, 0, 0) := by decide +kernel
theorem f110_6 : aF 6 zM110.2.2.2.2.2.2.2 = some (6, .iconst (-1), 1, 0, 0) := by decide +kernel
theorem f110_7 : aF 7 zM110.2.2.2.2.2.2.2 = some (7, .if_icmp .ne 6, 3, 13, 0) := by decide +kernel
theorem f110_10 : aF 10 zM110.2.2.2.2.2.2.2 = some (10, .bipush (-11), 2, 0, 0) := by decide +kernel
theorem f110_12 : aF 12 zM110.2.2.2.2.2.2.2 = some (12, .ireturn, 1, 0, 0) := by decide +kernel
theorem f111_0 : aF 0 zM111.2.2.2.2.2.2.2 = some (0, .aload_n 0, 1, 0, 0) := by decide +kernel
theorem f111_1 : aF 1 zM111.2.2.2.2.2.2.2 = some (1, .iload_n 1, 1, 0, 0) := by decide +kernel
theorem f111_2 : aF 2 zM111.2.2.2.2.2.2.2 = some (2, .invokevirtual 28, 3, 110, 0) := by decide +kernel
theorem f111_5 : aF 5 zM111.2.2.2.2.2.2.2 = some (5, .iconst 1, 1, 0, 0) := by decide +kernel
theorem f111_6 : aF 6 zM111.2.2.2.2.2.2.2 = some (6, .if_icmp .ne 25, 3, 31, 0) := by decide +kernel
theorem f111_31 : aF 31 zM111.2.2.2.2.2.2.2 = some (31, .iconst 0, 1, 0, 0) := by decide +kernel
theorem f111_32 : aF 32 zM111.2.2.2.2.2.2.2 = some (32, .ireturn, 1, 0, 0) := by decide +kernel
theorem f112_0 : aF 0 zM112.2.2.2.2.2.2.2 = some (0, .aload_n 0, 1, 0, 0) := by decide +kernel
theorem f112_1 : aF 1 zM112.2.2.2.2.2.2.2 = some (1, .iload_n 1, 1, 0, 0) := by decide +kernel
theorem f112_2 : aF 2 zM112.2.2.2.2.2.2.2 = some (2, .invokevirtual 28, 3, 110, 0) := by decide +kernel
theorem f112_5 : aF 5 zM112.2.2.2.2.2.2.2 = some (5, .istore 5, 2, 0, 0) := by decide +kernel
theorem f112_7 : aF 7 zM112.2.2.2.2.2.2.2 = some (7, .iload 5, 2, 0, 0) := by decide +kernel
theorem f112_9 : aF 9 zM112.2.2.2.2.2.2.2 = some (9, .iconst 1, 1, 0, 0) := by decide +kernel
theorem f112_10 : aF 10 zM112.2.2.2.2.2.2.2 = some (10, .if_icmp .eq 6, 3, 16, 0) := by decide +kernel
theorem f112_13 : aF 13 zM112.2.2.2.2.2.2.2 = some (13, .iload 5, 2, 0, 0) := by decide +kernel
theorem f112_15 : aF 15 zM112.2.2.2.2.2.2.2 = some (15, .ireturn, 1, 0, 0) := by decide +kernel
theorem f114_0 : aF 0 zM114.2.2.2.2.2.2.2 = some (0, .aload_n 0, 1, 0, 0) := by decide +kernel
theorem f114_1 : aF 1 zM114.2.2.2.2.2.2.2 = some (1, .iload_n 1, 1, 0, 0) := by decide +kernel
theorem f114_2 : aF 2 zM114.2.2.2.2.2.2.2 = some (2, .iload_n 2, 1, 0, 0) := by decide +kernel
theorem f114_3 : aF 3 zM114.2.2.2.2.2.2.2 = some (3, .i2l, 1, 0, 0) := by decide +kernel
theorem f114_4 : aF 4 zM114.2.2.2.2.2.2.2 = some (4, .invokevirtual 32, 3, 111, 0) := by decide +kernel
theorem f114_7 : aF 7 zM114.2.2.2.2.2.2.2 = some (7, .ifCond .eq 17, 3, 24, 0) := by decide +kernel
theorem f114_24 : aF 24 zM114.2.2.2.2.2.2.2 = some (24, .ldc2_w 42, 3, 9223372036854775808, 0) := by decide +kernel
theorem f114_27 : aF 27 zM114.2.2.2.2.2.2.2 = some (27, .lreturn, 1, 0, 0) := by decide +kernel
theorem f115_0 : aF 0 zM115.2.2.2.2.2.2.2 = some (0, .aload_n 0, 1, 0, 0) := by decide +kernel
theorem f115_1 : aF 1 zM115.2.2.2.2.2.2.2 = some (1, .iload_n 1, 1, 0, 0) := by decide +kernel
theorem f115_2 : aF 2 zM115.2.2.2.2.2.2.2 = some (2, .invokevirtual 28, 3, 110, 0) := by decide +kernel
theorem f115_5 : aF 5 zM115.2.2.2.2.2.2.2 = some (5, .istore 6, 2, 0, 0) := by decide +kernel
theorem f115_7 : aF 7 zM115.2.2.2.2.2.2.2 = some (7, .aload_n 0, 1, 0, 0) := by decide +kernel
theorem f115_8 : aF 8 zM115.2.2.2.2.2.2.2 = some (8, .iload_n 3, 1, 0, 0) := by decide +kernel
theorem f115_9 : aF 9 zM115.2.2.2.2.2.2.2 = some (9, .invokevirtual 28, 3, 110, 0) := by decide +kernel
theorem f115_12 : aF 12 zM115.2.2.2.2.2.2.2 = some (12, .istore 7, 2, 0, 0) := by decide +kernel
theorem f115_14 : aF 14 zM115.2.2.2.2.2.2.2 = some (14, .iload 6, 2, 0, 0) := by decide +kernel
theorem f115_16 : aF 16 zM115.2.2.2.2.2.2.2 = some (16, .bipush (-11), 2, 0, 0) := by decide +kernel
theorem f115_18 : aF 18 zM115.2.2.2.2.2.2.2 = some (18, .if_icmp .eq 10, 3, 28, 0) := by decide +kernel
theorem f115_28 : aF 28 zM115.2.2.2.2.2.2.2 = some (28, .bipush (-11), 2, 0, 0) := by decide +kernel
theorem f115_30 : aF 30 zM115.2.2.2.2.2.2.2 = some (30, .ireturn, 1, 0, 0) := by decide +kernel
theorem f117_0 : aF 0 zM117.2.2.2.2.2.2.2 = some (0, .iconst 0, 1, 0, 0) := by decide +kernel
theorem f117_1 : aF 1 zM117.2.2.2.2.2.2.2 = some (1, .istore_n 3, 1, 0, 0) := by decide +kernel
theorem f117_2 : aF 2 zM117.2.2.2.2.2.2.2 = some (2, .iload_n 3, 1, 0, 0) := by decide +kernel
theorem f117_3 : aF 3 zM117.2.2.2.2.2.2.2 = some (3, .iload_n 1, 1, 0, 0) := by decide +kernel
theorem f117_4 : aF 4 zM117.2.2.2.2.2.2.2 = some (4, .if_icmp .ge 45, 3, 49, 0) := by decide +kernel
theorem f117_7 : aF 7 zM117.2.2.2.2.2.2.2 = some (7, .aload_n 0, 1, 0, 0) := by decide +kernel
theorem f117_8 : aF 8 zM117.2.2.2.2.2.2.2 = some (8, .getfield 37, 3, 10, 1) := by decide +kernel
theorem f117_11 : aF 11 zM117.2.2.2.2.2.2.2 = some (11, .sipush 160, 3, 0, 0) := by decide +kernel
theorem f117_14 : aF 14 zM117.2.2.2.2.2.2.2 = some (14, .if_icmp .ge 35, 3, 49, 0) := by decide +kernel
theorem f117_17 : aF 17 zM117.2.2.2.2.2.2.2 = some (17, .aload_n 0, 1, 0, 0) := by decide +kernel
theorem f117_18 : aF 18 zM117.2.2.2.2.2.2.2 = some (18, .getfield 9, 3, 10, 0) := by decide +kernel
theorem f117_21 : aF 21 zM117.2.2.2.2.2.2.2 = some (21, .aload_n 0, 1, 0, 0) := by decide +kernel
theorem f117_22 : aF 22 zM117.2.2.2.2.2.2.2 = some (22, .getfield 37, 3, 10, 1) := by decide +kernel
theorem f117_25 : aF 25 zM117.2.2.2.2.2.2.2 = some (25, .iload_n 2, 1, 0, 0) := by decide +kernel
theorem f117_26 : aF 26 zM117.2.2.2.2.2.2.2 = some (26, .bipush 8, 2, 0, 0) := by decide +kernel
theorem f117_28 : aF 28 zM117.2.2.2.2.2.2.2 = some (28, .iload_n 3, 1, 0, 0) := by decide +kernel
theorem f117_29 : aF 29 zM117.2.2.2.2.2.2.2 = some (29, .imul, 1, 0, 0) := by decide +kernel
theorem f117_30 : aF 30 zM117.2.2.2.2.2.2.2 = some (30, .ishr, 1, 0, 0) := by decide +kernel
theorem f117_31 : aF 31 zM117.2.2.2.2.2.2.2 = some (31, .i2b, 1, 0, 0) := by decide +kernel
theorem f117_32 : aF 32 zM117.2.2.2.2.2.2.2 = some (32, .bastore, 1, 0, 0) := by decide +kernel
theorem f117_33 : aF 33 zM117.2.2.2.2.2.2.2 = some (33, .aload_n 0, 1, 0, 0) := by decide +kernel
theorem f117_34 : aF 34 zM117.2.2.2.2.2.2.2 = some (34, .dup, 1, 0, 0) := by decide +kernel
theorem f117_35 : aF 35 zM117.2.2.2.2.2.2.2 = some (35, .getfield 37, 3, 10, 1) := by decide +kernel
theorem f117_38 : aF 38 zM117.2.2.2.2.2.2.2 = some (38, .iconst 1, 1, 0, 0) := by decide +kernel
theorem f117_39 : aF 39 zM117.2.2.2.2.2.2.2 = some (39, .iadd, 1, 0, 0) := by decide +kernel
theorem f117_40 : aF 40 zM117.2.2.2.2.2.2.2 = some (40, .putfield 37, 3, 10, 1) := by decide +kernel
theorem f117_43 : aF 43 zM117.2.2.2.2.2.2.2 = some (43, .iinc 3 1, 3, 0, 0) := by decide +kernel
theorem f117_46 : aF 46 zM117.2.2.2.2.2.2.2 = some (46, .goto (-44), 3, 2, 0) := by decide +kernel
theorem f117_49 : aF 49 zM117.2.2.2.2.2.2.2 = some (49, .aload_n 0, 1, 0, 0) := by decide +kernel
theorem f117_50 : aF 50 zM117.2.2.2.2.2.2.2 = some (50, .getfield 37, 3, 10, 1) := by decide +kernel
theorem f117_53 : aF 53 zM117.2.2.2.2.2.2.2 = some (53, .ireturn, 1, 0, 0) := by decide +kernel
theorem f118_0 : aF 0 zM118.2.2.2.2.2.2.2 = some (0, .aload_n 0, 1, 0, 0) := by decide +kernel
theorem f118_1 : aF 1 zM118.2.2.2.2.2.2.2 = some (1, .getfield 41, 3, 10, 7) := by decide +kernel
theorem f118_4 : aF 4 zM118.2.2.2.2.2.2.2 = some (4, .bipush 16, 2, 0, 0) := by decide +kernel
theorem f118_6 : aF 6 zM118.2.2.2.2.2.2.2 = some (6, .if_icmp .lt 6, 3, 12, 0) := by decide +kernel
theorem f118_12 : aF 12 zM118.2.2.2.2.2.2.2 = some (12, .aload_n 0, 1, 0, 0) := by decide +kernel
theorem f118_13 : aF 13 zM118.2.2.2.2.2.2.2 = some (13, .getfield 9, 3, 10, 0) := by decide +kernel
theorem f118_16 : aF 16 zM118.2.2.2.2.2.2.2 = some (16, .iconst 0, 1, 0, 0) := by decide +kernel
theorem f118_17 : aF 17 zM118.2.2.2.2.2.2.2 = some (17, .aload_n 0, 1, 0, 0) := by decide +kernel
theorem f118_18 : aF 18 zM118.2.2.2.2.2.2.2 = some (18, .getfield 15, 3, 10, 2) := by decide +kernel
theorem f118_21 : aF 21 zM118.2.2.2.2.2.2.2 = some (21, .aload_n 0, 1, 0, 0) := by decide +kernel
theorem f118_22 : aF 22 zM118.2.2.2.2.2.2.2 = some (22, .getfield 41, 3, 10, 7) := by decide +kernel
theorem f118_25 : aF 25 zM118.2.2.2.2.2.2.2 = some (25, .sipush 160, 3, 0, 0) := by decide +kernel
theorem f118_28 : aF 28 zM118.2.2.2.2.2.2.2 = some (28, .imul, 1, 0, 0) := by decide +kernel
theorem f118_29 : aF 29 zM118.2.2.2.2.2.2.2 = some (29, .aload_n 0, 1, 0, 0) := by decide +kernel
theorem f118_30 : aF 30 zM118.2.2.2.2.2.2.2 = some (30, .getfield 37, 3, 10, 1) := by decide +kernel
theorem f118_33 : aF 33 zM118.2.2.2.2.2.2.2 = some (33, .invokestatic 44, 3, 1002, 0) := by decide +kernel
theorem f118_36 : aF 36 zM118.2.2.2.2.2.2.2 = some (36, .aload_n 0, 1, 0, 0) := by decide +kernel
theorem f118_37 : aF 37 zM118.2.2.2.2.2.2.2 = some (37, .getfield 18, 3, 10, 3) := by decide +kernel
theorem f118_40 : aF 40 zM118.2.2.2.2.2.2.2 = some (40, .aload_n 0, 1, 0, 0) := by decide +kernel
theorem f118_41 : aF 41 zM118.2.2.2.2.2.2.2 = some (41, .getfield 41, 3, 10, 7) := by decide +kernel
theorem f118_44 : aF 44 zM118.2.2.2.2.2.2.2 = some (44, .aload_n 0, 1, 0, 0) := by decide +kernel
theorem f118_45 : aF 45 zM118.2.2.2.2.2.2.2 = some (45, .getfield 37, 3, 10, 1) := by decide +kernel
theorem f118_48 : aF 48 zM118.2.2.2.2.2.2.2 = some (48, .iastore, 1, 0, 0) := by decide +kernel
theorem f118_49 : aF 49 zM118.2.2.2.2.2.2.2 = some (49, .aload_n 0, 1, 0, 0) := by decide +kernel
theorem f118_50 : aF 50 zM118.2.2.2.2.2.2.2 = some (50, .iconst 0, 1, 0, 0) := by decide +kernel
theorem f118_51 : aF 51 zM118.2.2.2.2.2.2.2 = some (51, .putfield 37, 3, 10, 1) := by decide +kernel
theorem f118_54 : aF 54 zM118.2.2.2.2.2.2.2 = some (54, .aload_n 0, 1, 0, 0) := by decide +kernel
theorem f118_55 : aF 55 zM118.2.2.2.2.2.2.2 = some (55, .aload_n 0, 1, 0, 0) := by decide +kernel
theorem f118_56 : aF 56 zM118.2.2.2.2.2.2.2 = some (56, .getfield 41, 3, 10, 7) := by decide +kernel
theorem f118_59 : aF 59 zM118.2.2.2.2.2.2.2 = some (59, .invokevirtual 50, 3, 122, 0) := by decide +kernel
theorem f118_62 : aF 62 zM118.2.2.2.2.2.2.2 = some (62, .istore 4, 2, 0, 0) := by decide +kernel
theorem f118_64 : aF 64 zM118.2.2.2.2.2.2.2 = some (64, .iload 4, 2, 0, 0) := by decide +kernel
theorem f118_66 : aF 66 zM118.2.2.2.2.2.2.2 = some (66, .iconst (-1), 1, 0, 0) := by decide +kernel
theorem f118_67 : aF 67 zM118.2.2.2.2.2.2.2 = some (67, .if_icmp .eq 9, 3, 76, 0) := by decide +kernel
theorem f118_70 : aF 70 zM118.2.2.2.2.2.2.2 = some (70, .bipush (-100), 2, 0, 0) := by decide +kernel
theorem f118_72 : aF 72 zM118.2.2.2.2.2.2.2 = some (72, .iload 4, 2, 0, 0) := by decide +kernel
theorem f118_74 : aF 74 zM118.2.2.2.2.2.2.2 = some (74, .isub, 1, 0, 0) := by decide +kernel
theorem f118_75 : aF 75 zM118.2.2.2.2.2.2.2 = some (75, .ireturn, 1, 0, 0) := by decide +kernel
theorem f119_0 : aF 0 zM119.2.2.2.2.2.2.2 = some (0, .iload_n 1, 1, 0, 0) := by decide +kernel
theorem f119_1 : aF 1 zM119.2.2.2.2.2.2.2 = some (1, .iconst 0, 1, 0, 0) := by decide +kernel
theorem f119_2 : aF 2 zM119.2.2.2.2.2.2.2 = some (2, .aload_n 0, 1, 0, 0) := by decide +kernel
theorem f119_3 : aF 3 zM119.2.2.2.2.2.2.2 = some (3, .getfield 41, 3, 10, 7) := by decide +kernel
theorem f119_6 : aF 6 zM119.2.2.2.2.2.2.2 = some (6, .iconst 1, 1, 0, 0) := by decide +kernel
theorem f119_7 : aF 7 zM119.2.2.2.2.2.2.2 = some (7, .isub, 1, 0, 0) := by decide +kernel
theorem f119_8 : aF 8 zM119.2.2.2.2.2.2.2 = some (8, .invokestatic 54, 3, 137, 0) := by decide +kernel
theorem f119_11 : aF 11 zM119.2.2.2.2.2.2.2 = some (11, .ifCond .eq 19, 3, 30, 0) := by decide +kernel
theorem f119_30 : aF 30 zM119.2.2.2.2.2.2.2 = some (30, .iconst 0, 1, 0, 0) := by decide +kernel
theorem f119_31 : aF 31 zM119.2.2.2.2.2.2.2 = some (31, .ireturn, 1, 0, 0) := by decide +kernel
theorem f120_0 : aF 0 zM120.2.2.2.2.2.2.2 = some (0, .aload_n 0, 1, 0, 0) := by decide +kernel
theorem f120_1 : aF 1 zM120.2.2.2.2.2.2.2 = some (1, .getfield 41, 3, 10, 7) := by decide +kernel
theorem f120_4 : aF 4 zM120.2.2.2.2.2.2.2 = some (4, .iconst 1, 1, 0, 0) := by decide +kernel
theorem f120_5 : aF 5 zM120.2.2.2.2.2.2.2 = some (5, .isub, 1, 0, 0) := by decide +kernel
theorem f120_6 : aF 6 zM120.2.2.2.2.2.2.2 = some (6, .istore 4, 2, 0, 0) := by decide +kernel
theorem f120_8 : aF 8 zM120.2.2.2.2.2.2.2 = some (8, .iload 4, 2, 0, 0) := by decide +kernel
theorem f120_10 : aF 10 zM120.2.2.2.2.2.2.2 = some (10, .ifCond .lt 45, 3, 55, 0) := by decide +kernel
theorem f120_55 : aF 55 zM120.2.2.2.2.2.2.2 = some (55, .iconst (-1), 1, 0, 0) := by decide +kernel
theorem f120_56 : aF 56 zM120.2.2.2.2.2.2.2 = some (56, .ireturn, 1, 0, 0) := by decide +kernel
theorem f122_0 : aF 0 zM122.2.2.2.2.2.2.2 = some (0, .aload_n 0, 1, 0, 0) := by decide +kernel
theorem f122_1 : aF 1 zM122.2.2.2.2.2.2.2 = some (1, .iload_n 1, 1, 0, 0) := by decide +kernel
theorem f122_2 : aF 2 zM122.2.2.2.2.2.2.2 = some (2, .aload_n 0, 1, 0, 0) := by decide +kernel
theorem f122_3 : aF 3 zM122.2.2.2.2.2.2.2 = some (3, .getfield 31, 3, 10, 8) := by decide +kernel
theorem f122_6 : aF 6 zM122.2.2.2.2.2.2.2 = some (6, .invokevirtual 58, 3, 123, 0) := by decide +kernel
theorem f122_9 : aF 9 zM122.2.2.2.2.2.2.2 = some (9, .iconst 1, 1, 0, 0) := by decide +kernel
theorem f122_10 : aF 10 zM122.2.2.2.2.2.2.2 = some (10, .istore_n 2, 1, 0, 0) := by decide +kernel
theorem f122_11 : aF 11 zM122.2.2.2.2.2.2.2 = some (11, .iconst 0, 1, 0, 0) := by decide +kernel
theorem f122_12 : aF 12 zM122.2.2.2.2.2.2.2 = some (12, .istore_n 3, 1, 0, 0) := by decide +kernel
theorem f122_13 : aF 13 zM122.2.2.2.2.2.2.2 = some (13, .iload_n 3, 1, 0, 0) := by decide +kernel
theorem f122_14 : aF 14 zM122.2.2.2.2.2.2.2 = some (14, .sipush 160, 3, 0, 0) := by decide +kernel
theorem f122_17 : aF 17 zM122.2.2.2.2.2.2.2 = some (17, .if_icmp .ge 41, 3, 58, 0) := by decide +kernel
theorem f122_20 : aF 20 zM122.2.2.2.2.2.2.2 = some (20, .iload_n 2, 1, 0, 0) := by decide +kernel
theorem f122_21 : aF 21 zM122.2.2.2.2.2.2.2 = some (21, .ifCond .eq 37, 3, 58, 0) := by decide +kernel
theorem f122_24 : aF 24 zM122.2.2.2.2.2.2.2 = some (24, .aload_n 0, 1, 0, 0) := by decide +kernel
theorem f122_25 : aF 25 zM122.2.2.2.2.2.2.2 = some (25, .iconst 0, 1, 0, 0) := by decide +kernel
theorem f122_26 : aF 26 zM122.2.2.2.2.2.2.2 = some (26, .invokevirtual 62, 3, 128, 0) := by decide +kernel
theorem f122_29 : aF 29 zM122.2.2.2.2.2.2.2 = some (29, .pop, 1, 0, 0) := by decide +kernel
theorem f122_30 : aF 30 zM122.2.2.2.2.2.2.2 = some (30, .aload_n 0, 1, 0, 0) := by decide +kernel
theorem f122_31 : aF 31 zM122.2.2.2.2.2.2.2 = some (31, .bipush 63, 2, 0, 0) := by decide +kernel
theorem f122_33 : aF 33 zM122.2.2.2.2.2.2.2 = some (33, .invokevirtual 65, 3, 125, 0) := by decide +kernel
theorem f122_36 : aF 36 zM122.2.2.2.2.2.2.2 = some (36, .ifCond .eq 9, 3, 45, 0) := by decide +kernel
theorem f122_45 : aF 45 zM122.2.2.2.2.2.2.2 = some (45, .aload_n 0, 1, 0, 0) := by decide +kernel
theorem f122_46 : aF 46 zM122.2.2.2.2.2.2.2 = some (46, .bipush 59, 2, 0, 0) := by decide +kernel
theorem f122_48 : aF 48 zM122.2.2.2.2.2.2.2 = some (48, .invokevirtual 65, 3, 125, 0) := by decide +kernel
theorem f122_51 : aF 51 zM122.2.2.2.2.2.2.2 = some (51, .istore_n 2, 1, 0, 0) := by decide +kernel
theorem f122_52 : aF 52 zM122.2.2.2.2.2.2.2 = some (52, .iinc 3 1, 3, 0, 0) := by decide +kernel
theorem f122_55 : aF 55 zM122.2.2.2.2.2.2.2 = some (55, .goto (-42), 3, 13, 0) := by decide +kernel
theorem f122_58 : aF 58 zM122.2.2.2.2.2.2.2 = some (58, .aload_n 0, 1, 0, 0) := by decide +kernel
theorem f122_59 : aF 59 zM122.2.2.2.2.2.2.2 = some (59, .getfield 72, 3, 10, 12) := by decide +kernel
theorem f122_62 : aF 62 zM122.2.2.2.2.2.2.2 = some (62, .iconst (-1), 1, 0, 0) := by decide +kernel
theorem f122_63 : aF 63 zM122.2.2.2.2.2.2.2 = some (63, .if_icmp .ne 22, 3, 85, 0) := by decide +kernel
theorem f122_85 : aF 85 zM122.2.2.2.2.2.2.2 = some (85, .aload_n 0, 1, 0, 0) := by decide +kernel
theorem f122_86 : aF 86 zM122.2.2.2.2.2.2.2 = some (86, .getfield 72, 3, 10, 12) := by decide +kernel
theorem f122_89 : aF 89 zM122.2.2.2.2.2.2.2 = some (89, .ireturn, 1, 0, 0) := by decide +kernel
theorem f123_0 : aF 0 zM123.2.2.2.2.2.2.2 = some (0, .aload_n 0, 1, 0, 0) := by decide +kernel
theorem f123_1 : aF 1 zM123.2.2.2.2.2.2.2 = some (1, .iload_n 1, 1, 0, 0) := by decide +kernel
theorem f123_2 : aF 2 zM123.2.2.2.2.2.2.2 = some (2, .sipush 160, 3, 0, 0) := by decide +kernel
theorem f123_5 : aF 5 zM123.2.2.2.2.2.2.2 = some (5, .imul, 1, 0, 0) := by decide +kernel
theorem f123_6 : aF 6 zM123.2.2.2.2.2.2.2 = some (6, .putfield 81, 3, 10, 9) := by decide +kernel
theorem f123_9 : aF 9 zM123.2.2.2.2.2.2.2 = some (9, .aload_n 0, 1, 0, 0) := by decide +kernel
theorem f123_10 : aF 10 zM123.2.2.2.2.2.2.2 = some (10, .aload_n 0, 1, 0, 0) := by decide +kernel
theorem f123_11 : aF 11 zM123.2.2.2.2.2.2.2 = some (11, .getfield 18, 3, 10, 3) := by decide +kernel
theorem f123_14 : aF 14 zM123.2.2.2.2.2.2.2 = some (14, .iload_n 1, 1, 0, 0) := by decide +kernel
theorem f123_15 : aF 15 zM123.2.2.2.2.2.2.2 = some (15, .iaload, 1, 0, 0) := by decide +kernel
theorem f123_16 : aF 16 zM123.2.2.2.2.2.2.2 = some (16, .putfield 78, 3, 10, 10) := by decide +kernel
theorem f123_19 : aF 19 zM123.2.2.2.2.2.2.2 = some (19, .aload_n 0, 1, 0, 0) := by decide +kernel
theorem f123_20 : aF 20 zM123.2.2.2.2.2.2.2 = some (20, .iconst 0, 1, 0, 0) := by decide +kernel
theorem f123_21 : aF 21 zM123.2.2.2.2.2.2.2 = some (21, .putfield 75, 3, 10, 11) := by decide +kernel
theorem f123_24 : aF 24 zM123.2.2.2.2.2.2.2 = some (24, .aload_n 0, 1, 0, 0) := by decide +kernel
theorem f123_25 : aF 25 zM123.2.2.2.2.2.2.2 = some (25, .iconst (-1), 1, 0, 0) := by decide +kernel
theorem f123_26 : aF 26 zM123.2.2.2.2.2.2.2 = some (26, .putfield 72, 3, 10, 12) := by decide +kernel
theorem f123_29 : aF 29 zM123.2.2.2.2.2.2.2 = some (29, .aload_n 0, 1, 0, 0) := by decide +kernel
theorem f123_30 : aF 30 zM123.2.2.2.2.2.2.2 = some (30, .aload_n 2, 1, 0, 0) := by decide +kernel
theorem f123_31 : aF 31 zM123.2.2.2.2.2.2.2 = some (31, .putfield 34, 3, 10, 13) := by decide +kernel
theorem f123_34 : aF 34 zM123.2.2.2.2.2.2.2 = some (34, .aload_n 0, 1, 0, 0) := by decide +kernel
theorem f123_35 : aF 35 zM123.2.2.2.2.2.2.2 = some (35, .iconst (-1), 1, 0, 0) := by decide +kernel
theorem f123_36 : aF 36 zM123.2.2.2.2.2.2.2 = some (36, .putfield 69, 3, 10, 14) := by decide +kernel
theorem f123_39 : aF 39 zM123.2.2.2.2.2.2.2 = some (39, .return_, 1, 0, 0) := by decide +kernel
theorem f124_0 : aF 0 zM124.2.2.2.2.2.2.2 = some (0, .aload_n 0, 1, 0, 0) := by decide +kernel
theorem f124_1 : aF 1 zM124.2.2.2.2.2.2.2 = some (1, .getfield 72, 3, 10, 12) := by decide +kernel
theorem f124_4 : aF 4 zM124.2.2.2.2.2.2.2 = some (4, .iconst (-1), 1, 0, 0) := by decide +kernel
theorem f124_5 : aF 5 zM124.2.2.2.2.2.2.2 = some (5, .if_icmp .ne 35, 3, 40, 0) := by decide +kernel
theorem f124_8 : aF 8 zM124.2.2.2.2.2.2.2 = some (8, .aload_n 0, 1, 0, 0) := by decide +kernel
theorem f124_9 : aF 9 zM124.2.2.2.2.2.2.2 = some (9, .getfield 75, 3, 10, 11) := by decide +kernel
theorem f124_12 : aF 12 zM124.2.2.2.2.2.2.2 = some (12, .aload_n 0, 1, 0, 0) := by decide +kernel
theorem f124_13 : aF 13 zM124.2.2.2.2.2.2.2 = some (13, .getfield 78, 3, 10, 10) := by decide +kernel
theorem f124_16 : aF 16 zM124.2.2.2.2.2.2.2 = some (16, .if_icmp .ge 24, 3, 40, 0) := by decide +kernel
theorem f124_40 : aF 40 zM124.2.2.2.2.2.2.2 = some (40, .iconst (-1), 1, 0, 0) := by decide +kernel
theorem f124_41 : aF 41 zM124.2.2.2.2.2.2.2 = some (41, .ireturn, 1, 0, 0) := by decide +kernel
theorem f125_0 : aF 0 zM125.2.2.2.2.2.2.2 = some (0, .aload_n 0, 1, 0, 0) := by decide +kernel
theorem f125_1 : aF 1 zM125.2.2.2.2.2.2.2 = some (1, .invokevirtual 84, 3, 124, 0) := by decide +kernel
theorem f125_4 : aF 4 zM125.2.2.2.2.2.2.2 = some (4, .iload_n 1, 1, 0, 0) := by decide +kernel
theorem f125_5 : aF 5 zM125.2.2.2.2.2.2.2 = some (5, .if_icmp .ne 7, 3, 12, 0) := by decide +kernel
theorem f125_12 : aF 12 zM125.2.2.2.2.2.2.2 = some (12, .iconst 0, 1, 0, 0) := by decide +kernel
theorem f125_13 : aF 13 zM125.2.2.2.2.2.2.2 = some (13, .istore_n 2, 1, 0, 0) := by decide +kernel
theorem f125_14 : aF 14 zM125.2.2.2.2.2.2.2 = some (14, .aload_n 0, 1, 0, 0) := by decide +kernel
theorem f125_15 : aF 15 zM125.2.2.2.2.2.2.2 = some (15, .dup, 1, 0, 0) := by decide +kernel
theorem f125_16 : aF 16 zM125.2.2.2.2.2.2.2 = some (16, .getfield 75, 3, 10, 11) := by decide +kernel
theorem f125_19 : aF 19 zM125.2.2.2.2.2.2.2 = some (19, .iload_n 2, 1, 0, 0) := by decide +kernel
theorem f125_20 : aF 20 zM125.2.2.2.2.2.2.2 = some (20, .ifCond .eq 7, 3, 27, 0) := by decide +kernel
theorem f125_27 : aF 27 zM125.2.2.2.2.2.2.2 = some (27, .iconst 0, 1, 0, 0) := by decide +kernel
theorem f125_28 : aF 28 zM125.2.2.2.2.2.2.2 = some (28, .iadd, 1, 0, 0) := by decide +kernel
theorem f125_29 : aF 29 zM125.2.2.2.2.2.2.2 = some (29, .putfield 75, 3, 10, 11) := by decide +kernel
theorem f125_32 : aF 32 zM125.2.2.2.2.2.2.2 = some (32, .iload_n 2, 1, 0, 0) := by decide +kernel
theorem f125_33 : aF 33 zM125.2.2.2.2.2.2.2 = some (33, .ireturn, 1, 0, 0) := by decide +kernel
theorem f126_0 : aF 0 zM126.2.2.2.2.2.2.2 = some (0, .aload_n 0, 1, 0, 0) := by decide +kernel
theorem f126_1 : aF 1 zM126.2.2.2.2.2.2.2 = some (1, .getfield 72, 3, 10, 12) := by decide +kernel
theorem f126_4 : aF 4 zM126.2.2.2.2.2.2.2 = some (4, .iconst (-1), 1, 0, 0) := by decide +kernel
theorem f126_5 : aF 5 zM126.2.2.2.2.2.2.2 = some (5, .if_icmp .ne 11, 3, 16, 0) := by decide +kernel
theorem f126_8 : aF 8 zM126.2.2.2.2.2.2.2 = some (8, .aload_n 0, 1, 0, 0) := by decide +kernel
theorem f126_9 : aF 9 zM126.2.2.2.2.2.2.2 = some (9, .aload_n 0, 1, 0, 0) := by decide +kernel
theorem f126_10 : aF 10 zM126.2.2.2.2.2.2.2 = some (10, .getfield 75, 3, 10, 11) := by decide +kernel
theorem f126_13 : aF 13 zM126.2.2.2.2.2.2.2 = some (13, .putfield 72, 3, 10, 12) := by decide +kernel
theorem f126_16 : aF 16 zM126.2.2.2.2.2.2.2 = some (16, .return_, 1, 0, 0) := by decide +kernel
theorem f128_0 : aF 0 zM128.2.2.2.2.2.2.2 = some (0, .aload_n 0, 1, 0, 0) := by decide +kernel
theorem f128_1 : aF 1 zM128.2.2.2.2.2.2.2 = some (1, .iload_n 1, 1, 0, 0) := by decide +kernel
theorem f128_2 : aF 2 zM128.2.2.2.2.2.2.2 = some (2, .invokevirtual 88, 3, 129, 0) := by decide +kernel
theorem f128_5 : aF 5 zM128.2.2.2.2.2.2.2 = some (5, .istore_n 2, 1, 0, 0) := by decide +kernel
theorem f128_6 : aF 6 zM128.2.2.2.2.2.2.2 = some (6, .iconst 0, 1, 0, 0) := by decide +kernel
theorem f128_7 : aF 7 zM128.2.2.2.2.2.2.2 = some (7, .istore_n 3, 1, 0, 0) := by decide +kernel
theorem f128_8 : aF 8 zM128.2.2.2.2.2.2.2 = some (8, .iload_n 3, 1, 0, 0) := by decide +kernel
theorem f128_9 : aF 9 zM128.2.2.2.2.2.2.2 = some (9, .sipush 160, 3, 0, 0) := by decide +kernel
theorem f128_12 : aF 12 zM128.2.2.2.2.2.2.2 = some (12, .if_icmp .ge 43, 3, 55, 0) := by decide +kernel
theorem f128_15 : aF 15 zM128.2.2.2.2.2.2.2 = some (15, .aload_n 0, 1, 0, 0) := by decide +kernel
theorem f128_16 : aF 16 zM128.2.2.2.2.2.2.2 = some (16, .bipush 124, 2, 0, 0) := by decide +kernel
theorem f128_18 : aF 18 zM128.2.2.2.2.2.2.2 = some (18, .invokevirtual 65, 3, 125, 0) := by decide +kernel
theorem f128_21 : aF 21 zM128.2.2.2.2.2.2.2 = some (21, .ifCond .eq 34, 3, 55, 0) := by decide +kernel
theorem f128_55 : aF 55 zM128.2.2.2.2.2.2.2 = some (55, .iload_n 2, 1, 0, 0) := by decide +kernel
theorem f128_56 : aF 56 zM128.2.2.2.2.2.2.2 = some (56, .ireturn, 1, 0, 0) := by decide +kernel
theorem f129_0 : aF 0 zM129.2.2.2.2.2.2.2 = some (0, .aload_n 0, 1, 0, 0) := by decide +kernel
theorem f129_1 : aF 1 zM129.2.2.2.2.2.2.2 = some (1, .iload_n 1, 1, 0, 0) := by decide +kernel
theorem f129_2 : aF 2 zM129.2.2.2.2.2.2.2 = some (2, .invokevirtual 95, 3, 130, 0) := by decide +kernel
theorem f129_5 : aF 5 zM129.2.2.2.2.2.2.2 = some (5, .istore_n 2, 1, 0, 0) := by decide +kernel
theorem f129_6 : aF 6 zM129.2.2.2.2.2.2.2 = some (6, .iconst 0, 1, 0, 0) := by decide +kernel
theorem f129_7 : aF 7 zM129.2.2.2.2.2.2.2 = some (7, .istore_n 3, 1, 0, 0) := by decide +kernel
theorem f129_8 : aF 8 zM129.2.2.2.2.2.2.2 = some (8, .iload_n 3, 1, 0, 0) := by decide +kernel
theorem f129_9 : aF 9 zM129.2.2.2.2.2.2.2 = some (9, .sipush 160, 3, 0, 0) := by decide +kernel
theorem f129_12 : aF 12 zM129.2.2.2.2.2.2.2 = some (12, .if_icmp .ge 43, 3, 55, 0) := by decide +kernel
theorem f129_15 : aF 15 zM129.2.2.2.2.2.2.2 = some (15, .aload_n 0, 1, 0, 0) := by decide +kernel
theorem f129_16 : aF 16 zM129.2.2.2.2.2.2.2 = some (16, .bipush 38, 2, 0, 0) := by decide +kernel
theorem f129_18 : aF 18 zM129.2.2.2.2.2.2.2 = some (18, .invokevirtual 65, 3, 125, 0) := by decide +kernel
theorem f129_21 : aF 21 zM129.2.2.2.2.2.2.2 = some (21, .ifCond .eq 34, 3, 55, 0) := by decide +kernel
theorem f129_55 : aF 55 zM129.2.2.2.2.2.2.2 = some (55, .iload_n 2, 1, 0, 0) := by decide +kernel
theorem f129_56 : aF 56 zM129.2.2.2.2.2.2.2 = some (56, .ireturn, 1, 0, 0) := by decide +kernel
theorem f130_0 : aF 0 zM130.2.2.2.2.2.2.2 = some (0, .aload_n 0, 1, 0, 0) := by decide +kernel
theorem f130_1 : aF 1 zM130.2.2.2.2.2.2.2 = some (1, .iload_n 1, 1, 0, 0) := by decide +kernel
theorem f130_2 : aF 2 zM130.2.2.2.2.2.2.2 = some (2, .invokevirtual 98, 3, 131, 0) := by decide +kernel
theorem f130_5 : aF 5 zM130.2.2.2.2.2.2.2 = some (5, .istore_n 2, 1, 0, 0) := by decide +kernel
theorem f130_6 : aF 6 zM130.2.2.2.2.2.2.2 = some (6, .aload_n 0, 1, 0, 0) := by decide +kernel
theorem f130_7 : aF 7 zM130.2.2.2.2.2.2.2 = some (7, .bipush 60, 2, 0, 0) := by decide +kernel
theorem f130_9 : aF 9 zM130.2.2.2.2.2.2.2 = some (9, .invokevirtual 65, 3, 125, 0) := by decide +kernel
theorem f130_12 : aF 12 zM130.2.2.2.2.2.2.2 = some (12, .ifCond .eq 21, 3, 33, 0) := by decide +kernel
theorem f130_33 : aF 33 zM130.2.2.2.2.2.2.2 = some (33, .aload_n 0, 1, 0, 0) := by decide +kernel
theorem f130_34 : aF 34 zM130.2.2.2.2.2.2.2 = some (34, .bipush 61, 2, 0, 0) := by decide +kernel
theorem f130_36 : aF 36 zM130.2.2.2.2.2.2.2 = some (36, .invokevirtual 65, 3, 125, 0) := by decide +kernel
theorem f130_39 : aF 39 zM130.2.2.2.2.2.2.2 = some (39, .ifCond .eq 21, 3, 60, 0) := by decide +kernel
theorem f130_60 : aF 60 zM130.2.2.2.2.2.2.2 = some (60, .aload_n 0, 1, 0, 0) := by decide +kernel
theorem f130_61 : aF 61 zM130.2.2.2.2.2.2.2 = some (61, .bipush 62, 2, 0, 0) := by decide +kernel
theorem f130_63 : aF 63 zM130.2.2.2.2.2.2.2 = some (63, .invokevirtual 65, 3, 125, 0) := by decide +kernel
theorem f130_66 : aF 66 zM130.2.2.2.2.2.2.2 = some (66, .ifCond .eq 21, 3, 87, 0) := by decide +kernel
theorem f130_87 : aF 87 zM130.2.2.2.2.2.2.2 = some (87, .iload_n 2, 1, 0, 0) := by decide +kernel
theorem f130_88 : aF 88 zM130.2.2.2.2.2.2.2 = some (88, .ireturn, 1, 0, 0) := by decide +kernel
theorem f131_0 : aF 0 zM131.2.2.2.2.2.2.2 = some (0, .aload_n 0, 1, 0, 0) := by decide +kernel
theorem f131_1 : aF 1 zM131.2.2.2.2.2.2.2 = some (1, .iload_n 1, 1, 0, 0) := by decide +kernel
theorem f131_2 : aF 2 zM131.2.2.2.2.2.2.2 = some (2, .invokevirtual 101, 3, 132, 0) := by decide +kernel
theorem f131_5 : aF 5 zM131.2.2.2.2.2.2.2 = some (5, .istore_n 2, 1, 0, 0) := by decide +kernel
theorem f131_6 : aF 6 zM131.2.2.2.2.2.2.2 = some (6, .iconst 0, 1, 0, 0) := by decide +kernel
theorem f131_7 : aF 7 zM131.2.2.2.2.2.2.2 = some (7, .istore_n 3, 1, 0, 0) := by decide +kernel
theorem f131_8 : aF 8 zM131.2.2.2.2.2.2.2 = some (8, .iload_n 3, 1, 0, 0) := by decide +kernel
theorem f131_9 : aF 9 zM131.2.2.2.2.2.2.2 = some (9, .sipush 160, 3, 0, 0) := by decide +kernel
theorem f131_12 : aF 12 zM131.2.2.2.2.2.2.2 = some (12, .if_icmp .ge 51, 3, 63, 0) := by decide +kernel
theorem f131_15 : aF 15 zM131.2.2.2.2.2.2.2 = some (15, .aload_n 0, 1, 0, 0) := by decide +kernel
theorem f131_16 : aF 16 zM131.2.2.2.2.2.2.2 = some (16, .bipush 43, 2, 0, 0) := by decide +kernel
theorem f131_18 : aF 18 zM131.2.2.2.2.2.2.2 = some (18, .invokevirtual 65, 3, 125, 0) := by decide +kernel
theorem f131_21 : aF 21 zM131.2.2.2.2.2.2.2 = some (21, .ifCond .eq 14, 3, 35, 0) := by decide +kernel
theorem f131_35 : aF 35 zM131.2.2.2.2.2.2.2 = some (35, .aload_n 0, 1, 0, 0) := by decide +kernel
theorem f131_36 : aF 36 zM131.2.2.2.2.2.2.2 = some (36, .bipush 45, 2, 0, 0) := by decide +kernel
theorem f131_38 : aF 38 zM131.2.2.2.2.2.2.2 = some (38, .invokevirtual 65, 3, 125, 0) := by decide +kernel
theorem f131_41 : aF 41 zM131.2.2.2.2.2.2.2 = some (41, .ifCond .eq 14, 3, 55, 0) := by decide +kernel
theorem f131_55 : aF 55 zM131.2.2.2.2.2.2.2 = some (55, .iload_n 2, 1, 0, 0) := by decide +kernel
theorem f131_56 : aF 56 zM131.2.2.2.2.2.2.2 = some (56, .ireturn, 1, 0, 0) := by decide +kernel
theorem f132_0 : aF 0 zM132.2.2.2.2.2.2.2 = some (0, .aload_n 0, 1, 0, 0) := by decide +kernel
theorem f132_1 : aF 1 zM132.2.2.2.2.2.2.2 = some (1, .iload_n 1, 1, 0, 0) := by decide +kernel
theorem f132_2 : aF 2 zM132.2.2.2.2.2.2.2 = some (2, .invokevirtual 104, 3, 133, 0) := by decide +kernel
theorem f132_5 : aF 5 zM132.2.2.2.2.2.2.2 = some (5, .istore_n 2, 1, 0, 0) := by decide +kernel
theorem f132_6 : aF 6 zM132.2.2.2.2.2.2.2 = some (6, .iconst 0, 1, 0, 0) := by decide +kernel
theorem f132_7 : aF 7 zM132.2.2.2.2.2.2.2 = some (7, .istore_n 3, 1, 0, 0) := by decide +kernel
theorem f132_8 : aF 8 zM132.2.2.2.2.2.2.2 = some (8, .iload_n 3, 1, 0, 0) := by decide +kernel
theorem f132_9 : aF 9 zM132.2.2.2.2.2.2.2 = some (9, .sipush 160, 3, 0, 0) := by decide +kernel
theorem f132_12 : aF 12 zM132.2.2.2.2.2.2.2 = some (12, .if_icmp .ge 97, 3, 109, 0) := by decide +kernel
theorem f132_15 : aF 15 zM132.2.2.2.2.2.2.2 = some (15, .aload_n 0, 1, 0, 0) := by decide +kernel
theorem f132_16 : aF 16 zM132.2.2.2.2.2.2.2 = some (16, .bipush 42, 2, 0, 0) := by decide +kernel
theorem f132_18 : aF 18 zM132.2.2.2.2.2.2.2 = some (18, .invokevirtual 65, 3, 125, 0) := by decide +kernel
theorem f132_21 : aF 21 zM132.2.2.2.2.2.2.2 = some (21, .ifCond .eq 14, 3, 35, 0) := by decide +kernel
theorem f132_35 : aF 35 zM132.2.2.2.2.2.2.2 = some (35, .aload_n 0, 1, 0, 0) := by decide +kernel
theorem f132_36 : aF 36 zM132.2.2.2.2.2.2.2 = some (36, .bipush 47, 2, 0, 0) := by decide +kernel
theorem f132_38 : aF 38 zM132.2.2.2.2.2.2.2 = some (38, .invokevirtual 65, 3, 125, 0) := by decide +kernel
theorem f132_41 : aF 41 zM132.2.2.2.2.2.2.2 = some (41, .ifCond .eq 27, 3, 68, 0) := by decide +kernel
theorem f132_68 : aF 68 zM132.2.2.2.2.2.2.2 = some (68, .aload_n 0, 1, 0, 0) := by decide +kernel
theorem f132_69 : aF 69 zM132.2.2.2.2.2.2.2 = some (69, .bipush 37, 2, 0, 0) := by decide +kernel
theorem f132_71 : aF 71 zM132.2.2.2.2.2.2.2 = some (71, .invokevirtual 65, 3, 125, 0) := by decide +kernel
theorem f132_74 : aF 74 zM132.2.2.2.2.2.2.2 = some (74, .ifCond .eq 27, 3, 101, 0) := by decide +kernel
theorem f132_101 : aF 101 zM132.2.2.2.2.2.2.2 = some (101, .iload_n 2, 1, 0, 0) := by decide +kernel
theorem f132_102 : aF 102 zM132.2.2.2.2.2.2.2 = some (102, .ireturn, 1, 0, 0) := by decide +kernel
theorem f133_0 : aF 0 zM133.2.2.2.2.2.2.2 = some (0, .aload_n 0, 1, 0, 0) := by decide +kernel
theorem f133_1 : aF 1 zM133.2.2.2.2.2.2.2 = some (1, .invokevirtual 84, 3, 124, 0) := by decide +kernel
theorem f133_4 : aF 4 zM133.2.2.2.2.2.2.2 = some (4, .istore_n 2, 1, 0, 0) := by decide +kernel
theorem f133_5 : aF 5 zM133.2.2.2.2.2.2.2 = some (5, .iload_n 2, 1, 0, 0) := by decide +kernel
theorem f133_6 : aF 6 zM133.2.2.2.2.2.2.2 = some (6, .invokestatic 107, 3, 134, 0) := by decide +kernel
theorem f133_9 : aF 9 zM133.2.2.2.2.2.2.2 = some (9, .ifCond .eq 8, 3, 17, 0) := by decide +kernel
theorem f133_17 : aF 17 zM133.2.2.2.2.2.2.2 = some (17, .iload_n 2, 1, 0, 0) := by decide +kernel
theorem f133_18 : aF 18 zM133.2.2.2.2.2.2.2 = some (18, .iconst (-1), 1, 0, 0) := by decide +kernel
theorem f133_19 : aF 19 zM133.2.2.2.2.2.2.2 = some (19, .if_icmp .ne 7, 3, 26, 0) := by decide +kernel
theorem f133_22 : aF 22 zM133.2.2.2.2.2.2.2 = some (22, .iconst (-1), 1, 0, 0) := by decide +kernel
theorem f133_23 : aF 23 zM133.2.2.2.2.2.2.2 = some (23, .goto 10, 3, 33, 0) := by decide +kernel
theorem f133_33 : aF 33 zM133.2.2.2.2.2.2.2 = some (33, .istore_n 3, 1, 0, 0) := by decide +kernel
theorem f133_34 : aF 34 zM133.2.2.2.2.2.2.2 = some (34, .iload_n 3, 1, 0, 0) := by decide +kernel
theorem f133_35 : aF 35 zM133.2.2.2.2.2.2.2 = some (35, .iconst (-1), 1, 0, 0) := by decide +kernel
theorem f133_36 : aF 36 zM133.2.2.2.2.2.2.2 = some (36, .if_icmp .eq 20, 3, 56, 0) := by decide +kernel
theorem f133_56 : aF 56 zM133.2.2.2.2.2.2.2 = some (56, .iload_n 1, 1, 0, 0) := by decide +kernel
theorem f133_57 : aF 57 zM133.2.2.2.2.2.2.2 = some (57, .bipush 8, 2, 0, 0) := by decide +kernel
theorem f133_59 : aF 59 zM133.2.2.2.2.2.2.2 = some (59, .if_icmp .lt 9, 3, 68, 0) := by decide +kernel
theorem f133_68 : aF 68 zM133.2.2.2.2.2.2.2 = some (68, .aload_n 0, 1, 0, 0) := by decide +kernel
theorem f133_69 : aF 69 zM133.2.2.2.2.2.2.2 = some (69, .bipush 33, 2, 0, 0) := by decide +kernel
theorem f133_71 : aF 71 zM133.2.2.2.2.2.2.2 = some (71, .invokevirtual 65, 3, 125, 0) := by decide +kernel
theorem f133_74 : aF 74 zM133.2.2.2.2.2.2.2 = some (74, .ifCond .eq 22, 3, 96, 0) := by decide +kernel
theorem f133_96 : aF 96 zM133.2.2.2.2.2.2.2 = some (96, .aload_n 0, 1, 0, 0) := by decide +kernel
theorem f133_97 : aF 97 zM133.2.2.2.2.2.2.2 = some (97, .bipush 45, 2, 0, 0) := by decide +kernel
theorem f133_99 : aF 99 zM133.2.2.2.2.2.2.2 = some (99, .invokevirtual 65, 3, 125, 0) := by decide +kernel
theorem f133_102 : aF 102 zM133.2.2.2.2.2.2.2 = some (102, .ifCond .eq 12, 3, 114, 0) := by decide +kernel
theorem f133_114 : aF 114 zM133.2.2.2.2.2.2.2 = some (114, .aload_n 0, 1, 0, 0) := by decide +kernel
theorem f133_115 : aF 115 zM133.2.2.2.2.2.2.2 = some (115, .bipush 40, 2, 0, 0) := by decide +kernel
theorem f133_117 : aF 117 zM133.2.2.2.2.2.2.2 = some (117, .invokevirtual 65, 3, 125, 0) := by decide +kernel
theorem f133_120 : aF 120 zM133.2.2.2.2.2.2.2 = some (120, .ifCond .ne 9, 3, 129, 0) := by decide +kernel
theorem f133_123 : aF 123 zM133.2.2.2.2.2.2.2 = some (123, .aload_n 0, 1, 0, 0) := by decide +kernel
theorem f133_124 : aF 124 zM133.2.2.2.2.2.2.2 = some (124, .invokevirtual 121, 3, 126, 0) := by decide +kernel
theorem f133_127 : aF 127 zM133.2.2.2.2.2.2.2 = some (127, .iconst 0, 1, 0, 0) := by decide +kernel
theorem f133_128 : aF 128 zM133.2.2.2.2.2.2.2 = some (128, .ireturn, 1, 0, 0) := by decide +kernel
theorem f134_0 : aF 0 zM134.2.2.2.2.2.2.2 = some (0, .bipush 48, 2, 0, 0) := by decide +kernel
theorem f134_2 : aF 2 zM134.2.2.2.2.2.2.2 = some (2, .iload_n 0, 1, 0, 0) := by decide +kernel
theorem f134_3 : aF 3 zM134.2.2.2.2.2.2.2 = some (3, .if_icmp .gt 13, 3, 16, 0) := by decide +kernel
theorem f134_16 : aF 16 zM134.2.2.2.2.2.2.2 = some (16, .iconst 0, 1, 0, 0) := by decide +kernel
theorem f134_17 : aF 17 zM134.2.2.2.2.2.2.2 = some (17, .ireturn, 1, 0, 0) := by decide +kernel
theorem f137_0 : aF 0 zM137.2.2.2.2.2.2.2 = some (0, .iload_n 1, 1, 0, 0) := by decide +kernel
theorem f137_1 : aF 1 zM137.2.2.2.2.2.2.2 = some (1, .iload_n 0, 1, 0, 0) := by decide +kernel
theorem f137_2 : aF 2 zM137.2.2.2.2.2.2.2 = some (2, .if_icmp .gt 12, 3, 14, 0) := by decide +kernel
theorem f137_5 : aF 5 zM137.2.2.2.2.2.2.2 = some (5, .iload_n 0, 1, 0, 0) := by decide +kernel
theorem f137_6 : aF 6 zM137.2.2.2.2.2.2.2 = some (6, .iload_n 2, 1, 0, 0) := by decide +kernel
theorem f137_7 : aF 7 zM137.2.2.2.2.2.2.2 = some (7, .if_icmp .gt 7, 3, 14, 0) := by decide +kernel
theorem f137_10 : aF 10 zM137.2.2.2.2.2.2.2 = some (10, .iconst 1, 1, 0, 0) := by decide +kernel
theorem f137_11 : aF 11 zM137.2.2.2.2.2.2.2 = some (11, .goto 4, 3, 15, 0) := by decide +kernel
theorem f137_14 : aF 14 zM137.2.2.2.2.2.2.2 = some (14, .iconst 0, 1, 0, 0) := by decide +kernel
theorem f137_15 : aF 15 zM137.2.2.2.2.2.2.2 = some (15, .ireturn, 1, 0, 0) := by decide +kernel
theorem f138_0 : aF 0 zM138.2.2.2.2.2.2.2 = some (0, .iload_n 0, 1, 0, 0) := by decide +kernel
theorem f138_1 : aF 1 zM138.2.2.2.2.2.2.2 = some (1, .iconst 0, 1, 0, 0) := by decide +kernel
theorem f138_2 : aF 2 zM138.2.2.2.2.2.2.2 = some (2, .sipush 3649, 3, 0, 0) := by decide +kernel
theorem f138_5 : aF 5 zM138.2.2.2.2.2.2.2 = some (5, .invokestatic 85, 3, 137, 0) := by decide +kernel
theorem f138_8 : aF 8 zM138.2.2.2.2.2.2.2 = some (8, .ireturn, 1, 0, 0) := by decide +kernel
theorem f139_0 : aF 0 zM139.2.2.2.2.2.2.2 = some (0, .iload_n 0, 1, 0, 0) := by decide +kernel
theorem f139_1 : aF 1 zM139.2.2.2.2.2.2.2 = some (1, .iconst 0, 1, 0, 0) := by decide +kernel
theorem f139_2 : aF 2 zM139.2.2.2.2.2.2.2 = some (2, .bipush 9, 2, 0, 0) := by decide +kernel
theorem f139_4 : aF 4 zM139.2.2.2.2.2.2.2 = some (4, .invokestatic 85, 3, 137, 0) := by decide +kernel
theorem f139_7 : aF 7 zM139.2.2.2.2.2.2.2 = some (7, .ireturn, 1, 0, 0) := by decide +kernel
theorem f140_0 : aF 0 zM140.2.2.2.2.2.2.2 = some (0, .iload_n 0, 1, 0, 0) := by decide +kernel
theorem f140_1 : aF 1 zM140.2.2.2.2.2.2.2 = some (1, .iconst 0, 1, 0, 0) := by decide +kernel
theorem f140_2 : aF 2 zM140.2.2.2.2.2.2.2 = some (2, .iconst 3, 1, 0, 0) := by decide +kernel
theorem f140_3 : aF 3 zM140.2.2.2.2.2.2.2 = some (3, .invokestatic 85, 3, 137, 0) := by decide +kernel
theorem f140_6 : aF 6 zM140.2.2.2.2.2.2.2 = some (6, .ireturn, 1, 0, 0) := by decide +kernel
theorem f141_0 : aF 0 zM141.2.2.2.2.2.2.2 = some (0, .iload_n 0, 1, 0, 0) := by decide +kernel
theorem f141_1 : aF 1 zM141.2.2.2.2.2.2.2 = some (1, .iconst 0, 1, 0, 0) := by decide +kernel
theorem f141_2 : aF 2 zM141.2.2.2.2.2.2.2 = some (2, .bipush 7, 2, 0, 0) := by decide +kernel
theorem f141_4 : aF 4 zM141.2.2.2.2.2.2.2 = some (4, .invokestatic 85, 3, 137, 0) := by decide +kernel
theorem f141_7 : aF 7 zM141.2.2.2.2.2.2.2 = some (7, .ireturn, 1, 0, 0) := by decide +kernel
theorem f142_0 : aF 0 zM142.2.2.2.2.2.2.2 = some (0, .iload_n 0, 1, 0, 0) := by decide +kernel
theorem f142_1 : aF 1 zM142.2.2.2.2.2.2.2 = some (1, .iconst 0, 1, 0, 0) := by decide +kernel
theorem f142_2 : aF 2 zM142.2.2.2.2.2.2.2 = some (2, .iconst 5, 1, 0, 0) := by decide +kernel
theorem f142_3 : aF 3 zM142.2.2.2.2.2.2.2 = some (3, .invokestatic 85, 3, 137, 0) := by decide +kernel
theorem f142_6 : aF 6 zM142.2.2.2.2.2.2.2 = some (6, .ireturn, 1, 0, 0) := by decide +kernel
theorem f143_0 : aF 0 zM143.2.2.2.2.2.2.2 = some (0, .iload_n 0, 1, 0, 0) := by decide +kernel
theorem f143_1 : aF 1 zM143.2.2.2.2.2.2.2 = some (1, .ifCond .lt 25, 3, 26, 0) := by decide +kernel
theorem f143_4 : aF 4 zM143.2.2.2.2.2.2.2 = some (4, .iload_n 0, 1, 0, 0) := by decide +kernel
theorem f143_5 : aF 5 zM143.2.2.2.2.2.2.2 = some (5, .bipush 10, 2, 0, 0) := by decide +kernel
theorem f143_7 : aF 7 zM143.2.2.2.2.2.2.2 = some (7, .idiv, 1, 0, 0) := by decide +kernel
theorem f143_8 : aF 8 zM143.2.2.2.2.2.2.2 = some (8, .invokestatic 89, 3, 140, 0) := by decide +kernel
theorem f143_11 : aF 11 zM143.2.2.2.2.2.2.2 = some (11, .ifCond .eq 15, 3, 26, 0) := by decide +kernel
theorem f143_14 : aF 14 zM143.2.2.2.2.2.2.2 = some (14, .iload_n 0, 1, 0, 0) := by decide +kernel
theorem f143_15 : aF 15 zM143.2.2.2.2.2.2.2 = some (15, .bipush 10, 2, 0, 0) := by decide +kernel
theorem f143_17 : aF 17 zM143.2.2.2.2.2.2.2 = some (17, .irem, 1, 0, 0) := by decide +kernel
theorem f143_18 : aF 18 zM143.2.2.2.2.2.2.2 = some (18, .iconst 4, 1, 0, 0) := by decide +kernel
theorem f143_19 : aF 19 zM143.2.2.2.2.2.2.2 = some (19, .if_icmp .ge 7, 3, 26, 0) := by decide +kernel
theorem f143_22 : aF 22 zM143.2.2.2.2.2.2.2 = some (22, .iconst 1, 1, 0, 0) := by decide +kernel
theorem f143_23 : aF 23 zM143.2.2.2.2.2.2.2 = some (23, .goto 4, 3, 27, 0) := by decide +kernel
theorem f143_26 : aF 26 zM143.2.2.2.2.2.2.2 = some (26, .iconst 0, 1, 0, 0) := by decide +kernel
theorem f143_27 : aF 27 zM143.2.2.2.2.2.2.2 = some (27, .ireturn, 1, 0, 0) := by decide +kernel
theorem f144_0 : aF 0 zM144.2.2.2.2.2.2.2 = some (0, .iload_n 1, 1, 0, 0) := by decide +kernel
theorem f144_1 : aF 1 zM144.2.2.2.2.2.2.2 = some (1, .iconst 1, 1, 0, 0) := by decide +kernel
theorem f144_2 : aF 2 zM144.2.2.2.2.2.2.2 = some (2, .sipush 365, 3, 0, 0) := by decide +kernel
theorem f144_5 : aF 5 zM144.2.2.2.2.2.2.2 = some (5, .invokestatic 85, 3, 137, 0) := by decide +kernel
theorem f144_8 : aF 8 zM144.2.2.2.2.2.2.2 = some (8, .ifCond .eq 18, 3, 26, 0) := by decide +kernel
theorem f144_11 : aF 11 zM144.2.2.2.2.2.2.2 = some (11, .aload_n 0, 1, 0, 0) := by decide +kernel
theorem f144_12 : aF 12 zM144.2.2.2.2.2.2.2 = some (12, .getfield 12, 3, 11, 0) := by decide +kernel
theorem f144_15 : aF 15 zM144.2.2.2.2.2.2.2 = some (15, .getfield 93, 3, 6, 0) := by decide +kernel
theorem f144_18 : aF 18 zM144.2.2.2.2.2.2.2 = some (18, .iload_n 1, 1, 0, 0) := by decide +kernel
theorem f144_19 : aF 19 zM144.2.2.2.2.2.2.2 = some (19, .iadd, 1, 0, 0) := by decide +kernel
theorem f144_20 : aF 20 zM144.2.2.2.2.2.2.2 = some (20, .sipush 3649, 3, 0, 0) := by decide +kernel
theorem f144_23 : aF 23 zM144.2.2.2.2.2.2.2 = some (23, .if_icmp .le 5, 3, 28, 0) := by decide +kernel
theorem f144_26 : aF 26 zM144.2.2.2.2.2.2.2 = some (26, .iconst (-1), 1, 0, 0) := by decide +kernel
theorem f144_27 : aF 27 zM144.2.2.2.2.2.2.2 = some (27, .ireturn, 1, 0, 0) := by decide +kernel
theorem f144_28 : aF 28 zM144.2.2.2.2.2.2.2 = some (28, .aload_n 0, 1, 0, 0) := by decide +kernel
theorem f144_29 : aF 29 zM144.2.2.2.2.2.2.2 = some (29, .getfield 12, 3, 11, 0) := by decide +kernel
theorem f144_32 : aF 32 zM144.2.2.2.2.2.2.2 = some (32, .dup, 1, 0, 0) := by decide +kernel
theorem f144_33 : aF 33 zM144.2.2.2.2.2.2.2 = some (33, .getfield 93, 3, 6, 0) := by decide +kernel
theorem f144_36 : aF 36 zM144.2.2.2.2.2.2.2 = some (36, .iload_n 1, 1, 0, 0) := by decide +kernel
theorem f144_37 : aF 37 zM144.2.2.2.2.2.2.2 = some (37, .iadd, 1, 0, 0) := by decide +kernel
theorem f144_38 : aF 38 zM144.2.2.2.2.2.2.2 = some (38, .putfield 93, 3, 6, 0) := by decide +kernel
theorem f144_41 : aF 41 zM144.2.2.2.2.2.2.2 = some (41, .aload_n 0, 1, 0, 0) := by decide +kernel
theorem f144_42 : aF 42 zM144.2.2.2.2.2.2.2 = some (42, .getfield 12, 3, 11, 0) := by decide +kernel
theorem f144_45 : aF 45 zM144.2.2.2.2.2.2.2 = some (45, .getfield 93, 3, 6, 0) := by decide +kernel
theorem f144_48 : aF 48 zM144.2.2.2.2.2.2.2 = some (48, .ireturn, 1, 0, 0) := by decide +kernel
theorem f145_0 : aF 0 zM145.2.2.2.2.2.2.2 = some (0, .aload_n 0, 1, 0, 0) := by decide +kernel
theorem f145_1 : aF 1 zM145.2.2.2.2.2.2.2 = some (1, .getfield 12, 3, 11, 0) := by decide +kernel
theorem f145_4 : aF 4 zM145.2.2.2.2.2.2.2 = some (4, .invokevirtual 97, 3, 73, 0) := by decide +kernel
theorem f145_7 : aF 7 zM145.2.2.2.2.2.2.2 = some (7, .ifCond .eq 8, 3, 15, 0) := by decide +kernel
theorem f145_15 : aF 15 zM145.2.2.2.2.2.2.2 = some (15, .aload_n 0, 1, 0, 0) := by decide +kernel
theorem f145_16 : aF 16 zM145.2.2.2.2.2.2.2 = some (16, .getfield 12, 3, 11, 0) := by decide +kernel
theorem f145_19 : aF 19 zM145.2.2.2.2.2.2.2 = some (19, .iconst 0, 1, 0, 0) := by decide +kernel
theorem f145_20 : aF 20 zM145.2.2.2.2.2.2.2 = some (20, .iconst 0, 1, 0, 0) := by decide +kernel
theorem f145_21 : aF 21 zM145.2.2.2.2.2.2.2 = some (21, .iconst (-1), 1, 0, 0) := by decide +kernel
theorem f145_22 : aF 22 zM145.2.2.2.2.2.2.2 = some (22, .invokevirtual 101, 3, 79, 0) := by decide +kernel
theorem f145_25 : aF 25 zM145.2.2.2.2.2.2.2 = some (25, .ireturn, 1, 0, 0) := by decide +kernel
theorem f146_0 : aF 0 zM146.2.2.2.2.2.2.2 = some (0, .iload_n 1, 1, 0, 0) := by decide +kernel
theorem f146_1 : aF 1 zM146.2.2.2.2.2.2.2 = some (1, .invokestatic 105, 3, 71, 0) := by decide +kernel
theorem f146_4 : aF 4 zM146.2.2.2.2.2.2.2 = some (4, .ifCond .eq 10, 3, 14, 0) := by decide +kernel
theorem f146_7 : aF 7 zM146.2.2.2.2.2.2.2 = some (7, .iload_n 2, 1, 0, 0) := by decide +kernel
theorem f146_8 : aF 8 zM146.2.2.2.2.2.2.2 = some (8, .invokestatic 89, 3, 140, 0) := by decide +kernel
theorem f146_11 : aF 11 zM146.2.2.2.2.2.2.2 = some (11, .ifCond .ne 5, 3, 16, 0) := by decide +kernel
theorem f146_14 : aF 14 zM146.2.2.2.2.2.2.2 = some (14, .iconst (-1), 1, 0, 0) := by decide +kernel
theorem f146_15 : aF 15 zM146.2.2.2.2.2.2.2 = some (15, .ireturn, 1, 0, 0) := by decide +kernel
theorem f146_16 : aF 16 zM146.2.2.2.2.2.2.2 = some (16, .aload_n 0, 1, 0, 0) := by decide +kernel
theorem f146_17 : aF 17 zM146.2.2.2.2.2.2.2 = some (17, .getfield 12, 3, 11, 0) := by decide +kernel
theorem f146_20 : aF 20 zM146.2.2.2.2.2.2.2 = some (20, .invokevirtual 97, 3, 73, 0) := by decide +kernel
theorem f146_23 : aF 23 zM146.2.2.2.2.2.2.2 = some (23, .ifCond .eq 8, 3, 31, 0) := by decide +kernel
theorem f146_31 : aF 31 zM146.2.2.2.2.2.2.2 = some (31, .aload_n 0, 1, 0, 0) := by decide +kernel
theorem f146_32 : aF 32 zM146.2.2.2.2.2.2.2 = some (32, .getfield 12, 3, 11, 0) := by decide +kernel
theorem f146_35 : aF 35 zM146.2.2.2.2.2.2.2 = some (35, .iload_n 1, 1, 0, 0) := by decide +kernel
theorem f146_36 : aF 36 zM146.2.2.2.2.2.2.2 = some (36, .iload_n 2, 1, 0, 0) := by decide +kernel
theorem f146_37 : aF 37 zM146.2.2.2.2.2.2.2 = some (37, .iconst (-1), 1, 0, 0) := by decide +kernel
theorem f146_38 : aF 38 zM146.2.2.2.2.2.2.2 = some (38, .invokevirtual 101, 3, 79, 0) := by decide +kernel
theorem f146_41 : aF 41 zM146.2.2.2.2.2.2.2 = some (41, .ireturn, 1, 0, 0) := by decide +kernel
theorem f147_0 : aF 0 zM147.2.2.2.2.2.2.2 = some (0, .iload_n 1, 1, 0, 0) := by decide +kernel
theorem f147_1 : aF 1 zM147.2.2.2.2.2.2.2 = some (1, .iconst 0, 1, 0, 0) := by decide +kernel
theorem f147_2 : aF 2 zM147.2.2.2.2.2.2.2 = some (2, .bipush 24, 2, 0, 0) := by decide +kernel
theorem f147_4 : aF 4 zM147.2.2.2.2.2.2.2 = some (4, .invokestatic 85, 3, 137, 0) := by decide +kernel
theorem f147_7 : aF 7 zM147.2.2.2.2.2.2.2 = some (7, .ifCond .eq 13, 3, 20, 0) := by decide +kernel
theorem f147_10 : aF 10 zM147.2.2.2.2.2.2.2 = some (10, .iload_n 2, 1, 0, 0) := by decide +kernel
theorem f147_11 : aF 11 zM147.2.2.2.2.2.2.2 = some (11, .iconst 0, 1, 0, 0) := by decide +kernel
theorem f147_12 : aF 12 zM147.2.2.2.2.2.2.2 = some (12, .bipush 24, 2, 0, 0) := by decide +kernel
theorem f147_14 : aF 14 zM147.2.2.2.2.2.2.2 = some (14, .invokestatic 85, 3, 137, 0) := by decide +kernel
theorem f147_17 : aF 17 zM147.2.2.2.2.2.2.2 = some (17, .ifCond .ne 5, 3, 22, 0) := by decide +kernel
theorem f147_20 : aF 20 zM147.2.2.2.2.2.2.2 = some (20, .iconst (-1), 1, 0, 0) := by decide +kernel
theorem f147_21 : aF 21 zM147.2.2.2.2.2.2.2 = some (21, .ireturn, 1, 0, 0) := by decide +kernel
theorem f147_22 : aF 22 zM147.2.2.2.2.2.2.2 = some (22, .aload_n 0, 1, 0, 0) := by decide +kernel
theorem f147_23 : aF 23 zM147.2.2.2.2.2.2.2 = some (23, .getfield 19, 3, 11, 1) := by decide +kernel
theorem f147_26 : aF 26 zM147.2.2.2.2.2.2.2 = some (26, .getfield 108, 3, 7, 2) := by decide +kernel
theorem f147_29 : aF 29 zM147.2.2.2.2.2.2.2 = some (29, .bipush 12, 2, 0, 0) := by decide +kernel
theorem f147_31 : aF 31 zM147.2.2.2.2.2.2.2 = some (31, .if_icmp .lt 8, 3, 39, 0) := by decide +kernel
theorem f147_39 : aF 39 zM147.2.2.2.2.2.2.2 = some (39, .aload_n 0, 1, 0, 0) := by decide +kernel
theorem f147_40 : aF 40 zM147.2.2.2.2.2.2.2 = some (40, .getfield 19, 3, 11, 1) := by decide +kernel
theorem f147_43 : aF 43 zM147.2.2.2.2.2.2.2 = some (43, .iload_n 1, 1, 0, 0) := by decide +kernel
theorem f147_44 : aF 44 zM147.2.2.2.2.2.2.2 = some (44, .iload_n 2, 1, 0, 0) := by decide +kernel
theorem f147_45 : aF 45 zM147.2.2.2.2.2.2.2 = some (45, .invokevirtual 111, 3, 88, 0) := by decide +kernel
theorem f147_48 : aF 48 zM147.2.2.2.2.2.2.2 = some (48, .ireturn, 1, 0, 0) := by decide +kernel
theorem f148_0 : aF 0 zM148.2.2.2.2.2.2.2 = some (0, .aload_n 0, 1, 0, 0) := by decide +kernel
theorem f148_1 : aF 1 zM148.2.2.2.2.2.2.2 = some (1, .getfield 19, 3, 11, 1) := by decide +kernel
theorem f148_4 : aF 4 zM148.2.2.2.2.2.2.2 = some (4, .getfield 108, 3, 7, 2) := by decide +kernel
theorem f148_7 : aF 7 zM148.2.2.2.2.2.2.2 = some (7, .istore_n 1, 1, 0, 0) := by decide +kernel
theorem f148_8 : aF 8 zM148.2.2.2.2.2.2.2 = some (8, .aload_n 0, 1, 0, 0) := by decide +kernel
theorem f148_9 : aF 9 zM148.2.2.2.2.2.2.2 = some (9, .getfield 19, 3, 11, 1) := by decide +kernel
theorem f148_12 : aF 12 zM148.2.2.2.2.2.2.2 = some (12, .iconst 0, 1, 0, 0) := by decide +kernel
theorem f148_13 : aF 13 zM148.2.2.2.2.2.2.2 = some (13, .putfield 108, 3, 7, 2) := by decide +kernel
theorem f148_16 : aF 16 zM148.2.2.2.2.2.2.2 = some (16, .iload_n 1, 1, 0, 0) := by decide +kernel
theorem f148_17 : aF 17 zM148.2.2.2.2.2.2.2 = some (17, .ireturn, 1, 0, 0) := by decide +kernel
theorem f149_0 : aF 0 zM149.2.2.2.2.2.2.2 = some (0, .aload_n 0, 1, 0, 0) := by decide +kernel
theorem f149_1 : aF 1 zM149.2.2.2.2.2.2.2 = some (1, .getfield 19, 3, 11, 1) := by decide +kernel
theorem f149_4 : aF 4 zM149.2.2.2.2.2.2.2 = some (4, .invokevirtual 114, 3, 89, 0) := by decide +kernel
theorem f149_7 : aF 7 zM149.2.2.2.2.2.2.2 = some (7, .ifCond .eq 13, 3, 20, 0) := by decide +kernel
theorem f149_20 : aF 20 zM149.2.2.2.2.2.2.2 = some (20, .bipush (-2), 2, 0, 0) := by decide +kernel
theorem f149_22 : aF 22 zM149.2.2.2.2.2.2.2 = some (22, .ireturn, 1, 0, 0) := by decide +kernel
theorem f150_0 : aF 0 zM150.2.2.2.2.2.2.2 = some (0, .aload_n 0, 1, 0, 0) := by decide +kernel
theorem f150_1 : aF 1 zM150.2.2.2.2.2.2.2 = some (1, .getfield 12, 3, 11, 0) := by decide +kernel
theorem f150_4 : aF 4 zM150.2.2.2.2.2.2.2 = some (4, .iload_n 1, 1, 0, 0) := by decide +kernel
theorem f150_5 : aF 5 zM150.2.2.2.2.2.2.2 = some (5, .invokevirtual 121, 3, 75, 0) := by decide +kernel
theorem f150_8 : aF 8 zM150.2.2.2.2.2.2.2 = some (8, .ifCond .eq 12, 3, 20, 0) := by decide +kernel
theorem f150_20 : aF 20 zM150.2.2.2.2.2.2.2 = some (20, .iconst (-1), 1, 0, 0) := by decide +kernel
theorem f150_21 : aF 21 zM150.2.2.2.2.2.2.2 = some (21, .ireturn, 1, 0, 0) := by decide +kernel
theorem f151_0 : aF 0 zM151.2.2.2.2.2.2.2 = some (0, .iload_n 1, 1, 0, 0) := by decide +kernel
theorem f151_1 : aF 1 zM151.2.2.2.2.2.2.2 = some (1, .iconst 1, 1, 0, 0) := by decide +kernel
theorem f151_2 : aF 2 zM151.2.2.2.2.2.2.2 = some (2, .sipush 999, 3, 0, 0) := by decide +kernel
theorem f151_5 : aF 5 zM151.2.2.2.2.2.2.2 = some (5, .invokestatic 85, 3, 137, 0) := by decide +kernel
theorem f151_8 : aF 8 zM151.2.2.2.2.2.2.2 = some (8, .ifCond .ne 5, 3, 13, 0) := by decide +kernel
theorem f151_11 : aF 11 zM151.2.2.2.2.2.2.2 = some (11, .iconst (-1), 1, 0, 0) := by decide +kernel
theorem f151_12 : aF 12 zM151.2.2.2.2.2.2.2 = some (12, .ireturn, 1, 0, 0) := by decide +kernel
theorem f151_13 : aF 13 zM151.2.2.2.2.2.2.2 = some (13, .aload_n 0, 1, 0, 0) := by decide +kernel
theorem f151_14 : aF 14 zM151.2.2.2.2.2.2.2 = some (14, .getfield 12, 3, 11, 0) := by decide +kernel
theorem f151_17 : aF 17 zM151.2.2.2.2.2.2.2 = some (17, .invokevirtual 97, 3, 73, 0) := by decide +kernel
theorem f151_20 : aF 20 zM151.2.2.2.2.2.2.2 = some (20, .ifCond .eq 8, 3, 28, 0) := by decide +kernel
theorem f151_28 : aF 28 zM151.2.2.2.2.2.2.2 = some (28, .aload_n 0, 1, 0, 0) := by decide +kernel
theorem f151_29 : aF 29 zM151.2.2.2.2.2.2.2 = some (29, .getfield 12, 3, 11, 0) := by decide +kernel
theorem f151_32 : aF 32 zM151.2.2.2.2.2.2.2 = some (32, .iload_n 1, 1, 0, 0) := by decide +kernel
theorem f151_33 : aF 33 zM151.2.2.2.2.2.2.2 = some (33, .invokevirtual 128, 3, 80, 0) := by decide +kernel
theorem f151_36 : aF 36 zM151.2.2.2.2.2.2.2 = some (36, .ireturn, 1, 0, 0) := by decide +kernel
theorem f152_0 : aF 0 zM152.2.2.2.2.2.2.2 = some (0, .aload_n 0, 1, 0, 0) := by decide +kernel
theorem f152_1 : aF 1 zM152.2.2.2.2.2.2.2 = some (1, .getfield 12, 3, 11, 0) := by decide +kernel
theorem f152_4 : aF 4 zM152.2.2.2.2.2.2.2 = some (4, .iload_n 1, 1, 0, 0) := by decide +kernel
theorem f152_5 : aF 5 zM152.2.2.2.2.2.2.2 = some (5, .invokevirtual 132, 3, 74, 0) := by decide +kernel
theorem f152_8 : aF 8 zM152.2.2.2.2.2.2.2 = some (8, .ifCond .ne 6, 3, 14, 0) := by decide +kernel
theorem f152_11 : aF 11 zM152.2.2.2.2.2.2.2 = some (11, .ldc 135, 2, 2294967296, 0) := by decide +kernel
theorem f152_13 : aF 13 zM152.2.2.2.2.2.2.2 = some (13, .ireturn, 1, 0, 0) := by decide +kernel
theorem f153_0 : aF 0 zM153.2.2.2.2.2.2.2 = some (0, .aload_n 0, 1, 0, 0) := by decide +kernel
theorem f153_1 : aF 1 zM153.2.2.2.2.2.2.2 = some (1, .getfield 12, 3, 11, 0) := by decide +kernel
theorem f153_4 : aF 4 zM153.2.2.2.2.2.2.2 = some (4, .iload_n 1, 1, 0, 0) := by decide +kernel
theorem f153_5 : aF 5 zM153.2.2.2.2.2.2.2 = some (5, .invokevirtual 136, 3, 77, 0) := by decide +kernel
theorem f153_8 : aF 8 zM153.2.2.2.2.2.2.2 = some (8, .ifCond .eq 23, 3, 31, 0) := by decide +kernel
theorem f153_31 : aF 31 zM153.2.2.2.2.2.2.2 = some (31, .iconst (-1), 1, 0, 0) := by decide +kernel
theorem f153_32 : aF 32 zM153.2.2.2.2.2.2.2 = some (32, .ireturn, 1, 0, 0) := by decide +kernel
theorem f154_0 : aF 0 zM154.2.2.2.2.2.2.2 = some (0, .aload_n 0, 1, 0, 0) := by decide +kernel
theorem f154_1 : aF 1 zM154.2.2.2.2.2.2.2 = some (1, .getfield 12, 3, 11, 0) := by decide +kernel
theorem f154_4 : aF 4 zM154.2.2.2.2.2.2.2 = some (4, .iload_n 1, 1, 0, 0) := by decide +kernel
theorem f154_5 : aF 5 zM154.2.2.2.2.2.2.2 = some (5, .invokevirtual 136, 3, 77, 0) := by decide +kernel
theorem f154_8 : aF 8 zM154.2.2.2.2.2.2.2 = some (8, .ifCond .ne 5, 3, 13, 0) := by decide +kernel
theorem f154_11 : aF 11 zM154.2.2.2.2.2.2.2 = some (11, .iconst (-1), 1, 0, 0) := by decide +kernel
theorem f154_12 : aF 12 zM154.2.2.2.2.2.2.2 = some (12, .ireturn, 1, 0, 0) := by decide +kernel
theorem f155_0 : aF 0 zM155.2.2.2.2.2.2.2 = some (0, .aload_n 0, 1, 0, 0) := by decide +kernel
theorem f155_1 : aF 1 zM155.2.2.2.2.2.2.2 = some (1, .getfield 12, 3, 11, 0) := by decide +kernel
theorem f155_4 : aF 4 zM155.2.2.2.2.2.2.2 = some (4, .iload_n 1, 1, 0, 0) := by decide +kernel
theorem f155_5 : aF 5 zM155.2.2.2.2.2.2.2 = some (5, .invokevirtual 161, 3, 78, 0) := by decide +kernel
theorem f155_8 : aF 8 zM155.2.2.2.2.2.2.2 = some (8, .ifCond .eq 21, 3, 29, 0) := by decide +kernel
theorem f155_29 : aF 29 zM155.2.2.2.2.2.2.2 = some (29, .iconst (-1), 1, 0, 0) := by decide +kernel
theorem f155_30 : aF 30 zM155.2.2.2.2.2.2.2 = some (30, .ireturn, 1, 0, 0) := by decide +kernel
theorem f156_0 : aF 0 zM156.2.2.2.2.2.2.2 = some (0, .aload_n 0, 1, 0, 0) := by decide +kernel
theorem f156_1 : aF 1 zM156.2.2.2.2.2.2.2 = some (1, .getfield 12, 3, 11, 0) := by decide +kernel
theorem f156_4 : aF 4 zM156.2.2.2.2.2.2.2 = some (4, .iload_n 1, 1, 0, 0) := by decide +kernel
theorem f156_5 : aF 5 zM156.2.2.2.2.2.2.2 = some (5, .invokevirtual 161, 3, 78, 0) := by decide +kernel
theorem f156_8 : aF 8 zM156.2.2.2.2.2.2.2 = some (8, .ifCond .eq 17, 3, 25, 0) := by decide +kernel
theorem f156_25 : aF 25 zM156.2.2.2.2.2.2.2 = some (25, .iconst (-1), 1, 0, 0) := by decide +kernel
theorem f156_26 : aF 26 zM156.2.2.2.2.2.2.2 = some (26, .ireturn, 1, 0, 0) := by decide +kernel
theorem f157_0 : aF 0 zM157.2.2.2.2.2.2.2 = some (0, .aload_n 0, 1, 0, 0) := by decide +kernel
theorem f157_1 : aF 1 zM157.2.2.2.2.2.2.2 = some (1, .getfield 12, 3, 11, 0) := by decide +kernel
theorem f157_4 : aF 4 zM157.2.2.2.2.2.2.2 = some (4, .iload_n 1, 1, 0, 0) := by decide +kernel
theorem f157_5 : aF 5 zM157.2.2.2.2.2.2.2 = some (5, .invokevirtual 121, 3, 75, 0) := by decide +kernel
theorem f157_8 : aF 8 zM157.2.2.2.2.2.2.2 = some (8, .ifCond .eq 21, 3, 29, 0) := by decide +kernel
theorem f157_29 : aF 29 zM157.2.2.2.2.2.2.2 = some (29, .iconst (-1), 1, 0, 0) := by decide +kernel
theorem f157_30 : aF 30 zM157.2.2.2.2.2.2.2 = some (30, .ireturn, 1, 0, 0) := by decide +kernel
theorem f158_0 : aF 0 zM158.2.2.2.2.2.2.2 = some (0, .iload_n 1, 1, 0, 0) := by decide +kernel
theorem f158_1 : aF 1 zM158.2.2.2.2.2.2.2 = some (1, .invokestatic 89, 3, 140, 0) := by decide +kernel
theorem f158_4 : aF 4 zM158.2.2.2.2.2.2.2 = some (4, .ifCond .eq 14, 3, 18, 0) := by decide +kernel
theorem f158_7 : aF 7 zM158.2.2.2.2.2.2.2 = some (7, .iload_n 2, 1, 0, 0) := by decide +kernel
theorem f158_8 : aF 8 zM158.2.2.2.2.2.2.2 = some (8, .iconst 0, 1, 0, 0) := by decide +kernel
theorem f158_9 : aF 9 zM158.2.2.2.2.2.2.2 = some (9, .sipush 364, 3, 0, 0) := by decide +kernel
theorem f158_12 : aF 12 zM158.2.2.2.2.2.2.2 = some (12, .invokestatic 85, 3, 137, 0) := by decide +kernel
theorem f158_15 : aF 15 zM158.2.2.2.2.2.2.2 = some (15, .ifCond .ne 5, 3, 20, 0) := by decide +kernel
theorem f158_18 : aF 18 zM158.2.2.2.2.2.2.2 = some (18, .iconst (-1), 1, 0, 0) := by decide +kernel
theorem f158_19 : aF 19 zM158.2.2.2.2.2.2.2 = some (19, .ireturn, 1, 0, 0) := by decide +kernel
theorem f158_20 : aF 20 zM158.2.2.2.2.2.2.2 = some (20, .aload_n 0, 1, 0, 0) := by decide +kernel
theorem f158_21 : aF 21 zM158.2.2.2.2.2.2.2 = some (21, .getfield 28, 3, 11, 2) := by decide +kernel
theorem f158_24 : aF 24 zM158.2.2.2.2.2.2.2 = some (24, .getfield 178, 3, 2, 9) := by decide +kernel
theorem f158_27 : aF 27 zM158.2.2.2.2.2.2.2 = some (27, .iload_n 1, 1, 0, 0) := by decide +kernel
theorem f158_28 : aF 28 zM158.2.2.2.2.2.2.2 = some (28, .iaload, 1, 0, 0) := by decide +kernel
theorem f158_29 : aF 29 zM158.2.2.2.2.2.2.2 = some (29, .istore_n 3, 1, 0, 0) := by decide +kernel
theorem f158_30 : aF 30 zM158.2.2.2.2.2.2.2 = some (30, .aload_n 0, 1, 0, 0) := by decide +kernel
theorem f158_31 : aF 31 zM158.2.2.2.2.2.2.2 = some (31, .getfield 28, 3, 11, 2) := by decide +kernel
theorem f158_34 : aF 34 zM158.2.2.2.2.2.2.2 = some (34, .getfield 178, 3, 2, 9) := by decide +kernel
theorem f158_37 : aF 37 zM158.2.2.2.2.2.2.2 = some (37, .iload_n 1, 1, 0, 0) := by decide +kernel
theorem f158_38 : aF 38 zM158.2.2.2.2.2.2.2 = some (38, .iload_n 2, 1, 0, 0) := by decide +kernel
theorem f158_39 : aF 39 zM158.2.2.2.2.2.2.2 = some (39, .iastore, 1, 0, 0) := by decide +kernel
theorem f158_40 : aF 40 zM158.2.2.2.2.2.2.2 = some (40, .iload_n 3, 1, 0, 0) := by decide +kernel
theorem f158_41 : aF 41 zM158.2.2.2.2.2.2.2 = some (41, .ireturn, 1, 0, 0) := by decide +kernel
theorem f159_0 : aF 0 zM159.2.2.2.2.2.2.2 = some (0, .iload_n 1, 1, 0, 0) := by decide +kernel
theorem f159_1 : aF 1 zM159.2.2.2.2.2.2.2 = some (1, .ifCond .lt 14, 3, 15, 0) := by decide +kernel
theorem f159_4 : aF 4 zM159.2.2.2.2.2.2.2 = some (4, .iload_n 2, 1, 0, 0) := by decide +kernel
theorem f159_5 : aF 5 zM159.2.2.2.2.2.2.2 = some (5, .ifCond .lt 10, 3, 15, 0) := by decide +kernel
theorem f159_8 : aF 8 zM159.2.2.2.2.2.2.2 = some (8, .iload_n 3, 1, 0, 0) := by decide +kernel
theorem f159_9 : aF 9 zM159.2.2.2.2.2.2.2 = some (9, .invokestatic 164, 3, 138, 0) := by decide +kernel
theorem f159_12 : aF 12 zM159.2.2.2.2.2.2.2 = some (12, .ifCond .ne 5, 3, 17, 0) := by decide +kernel
theorem f159_15 : aF 15 zM159.2.2.2.2.2.2.2 = some (15, .iconst (-1), 1, 0, 0) := by decide +kernel
theorem f159_16 : aF 16 zM159.2.2.2.2.2.2.2 = some (16, .ireturn, 1, 0, 0) := by decide +kernel
theorem f159_17 : aF 17 zM159.2.2.2.2.2.2.2 = some (17, .iload_n 1, 1, 0, 0) := by decide +kernel
theorem f159_18 : aF 18 zM159.2.2.2.2.2.2.2 = some (18, .bipush 100, 2, 0, 0) := by decide +kernel
theorem f159_20 : aF 20 zM159.2.2.2.2.2.2.2 = some (20, .idiv, 1, 0, 0) := by decide +kernel
theorem f159_21 : aF 21 zM159.2.2.2.2.2.2.2 = some (21, .istore 4, 2, 0, 0) := by decide +kernel
theorem f159_23 : aF 23 zM159.2.2.2.2.2.2.2 = some (23, .iload_n 1, 1, 0, 0) := by decide +kernel
theorem f159_24 : aF 24 zM159.2.2.2.2.2.2.2 = some (24, .bipush 100, 2, 0, 0) := by decide +kernel
theorem f159_26 : aF 26 zM159.2.2.2.2.2.2.2 = some (26, .irem, 1, 0, 0) := by decide +kernel
theorem f159_27 : aF 27 zM159.2.2.2.2.2.2.2 = some (27, .istore 5, 2, 0, 0) := by decide +kernel
theorem f159_29 : aF 29 zM159.2.2.2.2.2.2.2 = some (29, .iload_n 2, 1, 0, 0) := by decide +kernel
theorem f159_30 : aF 30 zM159.2.2.2.2.2.2.2 = some (30, .bipush 100, 2, 0, 0) := by decide +kernel
theorem f159_32 : aF 32 zM159.2.2.2.2.2.2.2 = some (32, .idiv, 1, 0, 0) := by decide +kernel
theorem f159_33 : aF 33 zM159.2.2.2.2.2.2.2 = some (33, .istore 6, 2, 0, 0) := by decide +kernel
theorem f159_35 : aF 35 zM159.2.2.2.2.2.2.2 = some (35, .iload_n 2, 1, 0, 0) := by decide +kernel
theorem f159_36 : aF 36 zM159.2.2.2.2.2.2.2 = some (36, .bipush 100, 2, 0, 0) := by decide +kernel
theorem f159_38 : aF 38 zM159.2.2.2.2.2.2.2 = some (38, .irem, 1, 0, 0) := by decide +kernel
theorem f159_39 : aF 39 zM159.2.2.2.2.2.2.2 = some (39, .istore 7, 2, 0, 0) := by decide +kernel
theorem f159_41 : aF 41 zM159.2.2.2.2.2.2.2 = some (41, .iload 4, 2, 0, 0) := by decide +kernel
theorem f159_43 : aF 43 zM159.2.2.2.2.2.2.2 = some (43, .iload 6, 2, 0, 0) := by decide +kernel
theorem f159_45 : aF 45 zM159.2.2.2.2.2.2.2 = some (45, .if_icmp .gt 24, 3, 69, 0) := by decide +kernel
theorem f159_48 : aF 48 zM159.2.2.2.2.2.2.2 = some (48, .iload 5, 2, 0, 0) := by decide +kernel
theorem f159_50 : aF 50 zM159.2.2.2.2.2.2.2 = some (50, .iload 7, 2, 0, 0) := by decide +kernel
theorem f159_52 : aF 52 zM159.2.2.2.2.2.2.2 = some (52, .if_icmp .gt 17, 3, 69, 0) := by decide +kernel
theorem f159_55 : aF 55 zM159.2.2.2.2.2.2.2 = some (55, .iload 6, 2, 0, 0) := by decide +kernel
theorem f159_57 : aF 57 zM159.2.2.2.2.2.2.2 = some (57, .bipush 24, 2, 0, 0) := by decide +kernel
theorem f159_59 : aF 59 zM159.2.2.2.2.2.2.2 = some (59, .if_icmp .ge 10, 3, 69, 0) := by decide +kernel
theorem f159_62 : aF 62 zM159.2.2.2.2.2.2.2 = some (62, .iload 7, 2, 0, 0) := by decide +kernel
theorem f159_64 : aF 64 zM159.2.2.2.2.2.2.2 = some (64, .bipush 24, 2, 0, 0) := by decide +kernel
theorem f159_66 : aF 66 zM159.2.2.2.2.2.2.2 = some (66, .if_icmp .lt 5, 3, 71, 0) := by decide +kernel
theorem f159_69 : aF 69 zM159.2.2.2.2.2.2.2 = some (69, .iconst (-1), 1, 0, 0) := by decide +kernel
theorem f159_70 : aF 70 zM159.2.2.2.2.2.2.2 = some (70, .ireturn, 1, 0, 0) := by decide +kernel
theorem f159_71 : aF 71 zM159.2.2.2.2.2.2.2 = some (71, .aload_n 0, 1, 0, 0) := by decide +kernel
theorem f159_72 : aF 72 zM159.2.2.2.2.2.2.2 = some (72, .getfield 28, 3, 11, 2) := by decide +kernel
theorem f159_75 : aF 75 zM159.2.2.2.2.2.2.2 = some (75, .getfield 181, 3, 2, 2) := by decide +kernel
theorem f159_78 : aF 78 zM159.2.2.2.2.2.2.2 = some (78, .bipush 40, 2, 0, 0) := by decide +kernel
theorem f159_80 : aF 80 zM159.2.2.2.2.2.2.2 = some (80, .if_icmp .lt 8, 3, 88, 0) := by decide +kernel
theorem f159_88 : aF 88 zM159.2.2.2.2.2.2.2 = some (88, .aload_n 0, 1, 0, 0) := by decide +kernel
theorem f159_89 : aF 89 zM159.2.2.2.2.2.2.2 = some (89, .getfield 28, 3, 11, 2) := by decide +kernel
theorem f159_92 : aF 92 zM159.2.2.2.2.2.2.2 = some (92, .iload_n 1, 1, 0, 0) := by decide +kernel
theorem f159_93 : aF 93 zM159.2.2.2.2.2.2.2 = some (93, .iload_n 2, 1, 0, 0) := by decide +kernel
theorem f159_94 : aF 94 zM159.2.2.2.2.2.2.2 = some (94, .iload_n 3, 1, 0, 0) := by decide +kernel
theorem f159_95 : aF 95 zM159.2.2.2.2.2.2.2 = some (95, .invokevirtual 184, 3, 32, 0) := by decide +kernel
theorem f159_98 : aF 98 zM159.2.2.2.2.2.2.2 = some (98, .ireturn, 1, 0, 0) := by decide +kernel
theorem f160_0 : aF 0 zM160.2.2.2.2.2.2.2 = some (0, .aload_n 0, 1, 0, 0) := by decide +kernel
theorem f160_1 : aF 1 zM160.2.2.2.2.2.2.2 = some (1, .getfield 12, 3, 11, 0) := by decide +kernel
theorem f160_4 : aF 4 zM160.2.2.2.2.2.2.2 = some (4, .iload_n 1, 1, 0, 0) := by decide +kernel
theorem f160_5 : aF 5 zM160.2.2.2.2.2.2.2 = some (5, .invokevirtual 121, 3, 75, 0) := by decide +kernel
theorem f160_8 : aF 8 zM160.2.2.2.2.2.2.2 = some (8, .ifCond .eq 39, 3, 47, 0) := by decide +kernel
theorem f160_47 : aF 47 zM160.2.2.2.2.2.2.2 = some (47, .iconst (-1), 1, 0, 0) := by decide +kernel
theorem f160_48 : aF 48 zM160.2.2.2.2.2.2.2 = some (48, .ireturn, 1, 0, 0) := by decide +kernel
theorem f161_0 : aF 0 zM161.2.2.2.2.2.2.2 = some (0, .aload_n 0, 1, 0, 0) := by decide +kernel
theorem f161_1 : aF 1 zM161.2.2.2.2.2.2.2 = some (1, .getfield 12, 3, 11, 0) := by decide +kernel
theorem f161_4 : aF 4 zM161.2.2.2.2.2.2.2 = some (4, .iload_n 1, 1, 0, 0) := by decide +kernel
theorem f161_5 : aF 5 zM161.2.2.2.2.2.2.2 = some (5, .invokevirtual 121, 3, 75, 0) := by decide +kernel
theorem f161_8 : aF 8 zM161.2.2.2.2.2.2.2 = some (8, .ifCond .eq 33, 3, 41, 0) := by decide +kernel
theorem f161_41 : aF 41 zM161.2.2.2.2.2.2.2 = some (41, .iconst (-1), 1, 0, 0) := by decide +kernel
theorem f161_42 : aF 42 zM161.2.2.2.2.2.2.2 = some (42, .ireturn, 1, 0, 0) := by decide +kernel
theorem f162_0 : aF 0 zM162.2.2.2.2.2.2.2 = some (0, .aload_n 0, 1, 0, 0) := by decide +kernel
theorem f162_1 : aF 1 zM162.2.2.2.2.2.2.2 = some (1, .getfield 12, 3, 11, 0) := by decide +kernel
theorem f162_4 : aF 4 zM162.2.2.2.2.2.2.2 = some (4, .iload_n 1, 1, 0, 0) := by decide +kernel
theorem f162_5 : aF 5 zM162.2.2.2.2.2.2.2 = some (5, .invokevirtual 121, 3, 75, 0) := by decide +kernel
theorem f162_8 : aF 8 zM162.2.2.2.2.2.2.2 = some (8, .ifCond .eq 10, 3, 18, 0) := by decide +kernel
theorem f162_18 : aF 18 zM162.2.2.2.2.2.2.2 = some (18, .iconst (-1), 1, 0, 0) := by decide +kernel
theorem f162_19 : aF 19 zM162.2.2.2.2.2.2.2 = some (19, .ireturn, 1, 0, 0) := by decide +kernel
theorem f163_0 : aF 0 zM163.2.2.2.2.2.2.2 = some (0, .iload_n 1, 1, 0, 0) := by decide +kernel
theorem f163_1 : aF 1 zM163.2.2.2.2.2.2.2 = some (1, .invokestatic 173, 3, 141, 0) := by decide +kernel
theorem f163_4 : aF 4 zM163.2.2.2.2.2.2.2 = some (4, .ifCond .eq 22, 3, 26, 0) := by decide +kernel
theorem f163_7 : aF 7 zM163.2.2.2.2.2.2.2 = some (7, .iload_n 2, 1, 0, 0) := by decide +kernel
theorem f163_8 : aF 8 zM163.2.2.2.2.2.2.2 = some (8, .iconst 0, 1, 0, 0) := by decide +kernel
theorem f163_9 : aF 9 zM163.2.2.2.2.2.2.2 = some (9, .iconst 5, 1, 0, 0) := by decide +kernel
theorem f163_10 : aF 10 zM163.2.2.2.2.2.2.2 = some (10, .invokestatic 85, 3, 137, 0) := by decide +kernel
theorem f163_13 : aF 13 zM163.2.2.2.2.2.2.2 = some (13, .ifCond .eq 13, 3, 26, 0) := by decide +kernel
theorem f163_16 : aF 16 zM163.2.2.2.2.2.2.2 = some (16, .iload_n 3, 1, 0, 0) := by decide +kernel
theorem f163_17 : aF 17 zM163.2.2.2.2.2.2.2 = some (17, .iconst 0, 1, 0, 0) := by decide +kernel
theorem f163_18 : aF 18 zM163.2.2.2.2.2.2.2 = some (18, .bipush 99, 2, 0, 0) := by decide +kernel
theorem f163_20 : aF 20 zM163.2.2.2.2.2.2.2 = some (20, .invokestatic 85, 3, 137, 0) := by decide +kernel
theorem f163_23 : aF 23 zM163.2.2.2.2.2.2.2 = some (23, .ifCond .ne 5, 3, 28, 0) := by decide +kernel
theorem f163_26 : aF 26 zM163.2.2.2.2.2.2.2 = some (26, .iconst (-1), 1, 0, 0) := by decide +kernel
theorem f163_27 : aF 27 zM163.2.2.2.2.2.2.2 = some (27, .ireturn, 1, 0, 0) := by decide +kernel
theorem f163_28 : aF 28 zM163.2.2.2.2.2.2.2 = some (28, .aload_n 0, 1, 0, 0) := by decide +kernel
theorem f163_29 : aF 29 zM163.2.2.2.2.2.2.2 = some (29, .getfield 67, 3, 11, 7) := by decide +kernel
theorem f163_32 : aF 32 zM163.2.2.2.2.2.2.2 = some (32, .iload_n 1, 1, 0, 0) := by decide +kernel
theorem f163_33 : aF 33 zM163.2.2.2.2.2.2.2 = some (33, .iload_n 2, 1, 0, 0) := by decide +kernel
theorem f163_34 : aF 34 zM163.2.2.2.2.2.2.2 = some (34, .iload_n 3, 1, 0, 0) := by decide +kernel
theorem f163_35 : aF 35 zM163.2.2.2.2.2.2.2 = some (35, .invokevirtual 232, 3, 40, 0) := by decide +kernel
theorem f163_38 : aF 38 zM163.2.2.2.2.2.2.2 = some (38, .ireturn, 1, 0, 0) := by decide +kernel
theorem f164_0 : aF 0 zM164.2.2.2.2.2.2.2 = some (0, .aload_n 0, 1, 0, 0) := by decide +kernel
theorem f164_1 : aF 1 zM164.2.2.2.2.2.2.2 = some (1, .getfield 12, 3, 11, 0) := by decide +kernel
theorem f164_4 : aF 4 zM164.2.2.2.2.2.2.2 = some (4, .iload_n 1, 1, 0, 0) := by decide +kernel
theorem f164_5 : aF 5 zM164.2.2.2.2.2.2.2 = some (5, .invokevirtual 136, 3, 77, 0) := by decide +kernel
theorem f164_8 : aF 8 zM164.2.2.2.2.2.2.2 = some (8, .ifCond .eq 17, 3, 25, 0) := by decide +kernel
theorem f164_25 : aF 25 zM164.2.2.2.2.2.2.2 = some (25, .iconst (-1), 1, 0, 0) := by decide +kernel
theorem f164_26 : aF 26 zM164.2.2.2.2.2.2.2 = some (26, .ireturn, 1, 0, 0) := by decide +kernel
theorem f165_0 : aF 0 zM165.2.2.2.2.2.2.2 = some (0, .aload_n 0, 1, 0, 0) := by decide +kernel
theorem f165_1 : aF 1 zM165.2.2.2.2.2.2.2 = some (1, .getfield 67, 3, 11, 7) := by decide +kernel
theorem f165_4 : aF 4 zM165.2.2.2.2.2.2.2 = some (4, .getfield 245, 3, 3, 1) := by decide +kernel
theorem f165_7 : aF 7 zM165.2.2.2.2.2.2.2 = some (7, .istore_n 2, 1, 0, 0) := by decide +kernel
theorem f165_8 : aF 8 zM165.2.2.2.2.2.2.2 = some (8, .aload_n 0, 1, 0, 0) := by decide +kernel
theorem f165_9 : aF 9 zM165.2.2.2.2.2.2.2 = some (9, .getfield 67, 3, 11, 7) := by decide +kernel
theorem f165_12 : aF 12 zM165.2.2.2.2.2.2.2 = some (12, .iload_n 1, 1, 0, 0) := by decide +kernel
theorem f165_13 : aF 13 zM165.2.2.2.2.2.2.2 = some (13, .putfield 245, 3, 3, 1) := by decide +kernel
theorem f165_16 : aF 16 zM165.2.2.2.2.2.2.2 = some (16, .iload_n 2, 1, 0, 0) := by decide +kernel
theorem f165_17 : aF 17 zM165.2.2.2.2.2.2.2 = some (17, .ireturn, 1, 0, 0) := by decide +kernel
theorem f166_0 : aF 0 zM166.2.2.2.2.2.2.2 = some (0, .aload_n 0, 1, 0, 0) := by decide +kernel
theorem f166_1 : aF 1 zM166.2.2.2.2.2.2.2 = some (1, .getfield 12, 3, 11, 0) := by decide +kernel
theorem f166_4 : aF 4 zM166.2.2.2.2.2.2.2 = some (4, .iload_n 1, 1, 0, 0) := by decide +kernel
theorem f166_5 : aF 5 zM166.2.2.2.2.2.2.2 = some (5, .invokevirtual 136, 3, 77, 0) := by decide +kernel
theorem f166_8 : aF 8 zM166.2.2.2.2.2.2.2 = some (8, .ifCond .eq 19, 3, 27, 0) := by decide +kernel
theorem f166_27 : aF 27 zM166.2.2.2.2.2.2.2 = some (27, .iconst (-1), 1, 0, 0) := by decide +kernel
theorem f166_28 : aF 28 zM166.2.2.2.2.2.2.2 = some (28, .ireturn, 1, 0, 0) := by decide +kernel
theorem f167_0 : aF 0 zM167.2.2.2.2.2.2.2 = some (0, .iload_n 1, 1, 0, 0) := by decide +kernel
theorem f167_1 : aF 1 zM167.2.2.2.2.2.2.2 = some (1, .iconst 1, 1, 0, 0) := by decide +kernel
theorem f167_2 : aF 2 zM167.2.2.2.2.2.2.2 = some (2, .iconst 4, 1, 0, 0) := by decide +kernel
theorem f167_3 : aF 3 zM167.2.2.2.2.2.2.2 = some (3, .invokestatic 85, 3, 137, 0) := by decide +kernel
theorem f167_6 : aF 6 zM167.2.2.2.2.2.2.2 = some (6, .ifCond .ne 5, 3, 11, 0) := by decide +kernel
theorem f167_9 : aF 9 zM167.2.2.2.2.2.2.2 = some (9, .iconst (-1), 1, 0, 0) := by decide +kernel
theorem f167_10 : aF 10 zM167.2.2.2.2.2.2.2 = some (10, .ireturn, 1, 0, 0) := by decide +kernel
theorem f167_11 : aF 11 zM167.2.2.2.2.2.2.2 = some (11, .aload_n 0, 1, 0, 0) := by decide +kernel
theorem f167_12 : aF 12 zM167.2.2.2.2.2.2.2 = some (12, .getfield 35, 3, 11, 3) := by decide +kernel
theorem f167_15 : aF 15 zM167.2.2.2.2.2.2.2 = some (15, .getfield 251, 3, 10, 1) := by decide +kernel
theorem f167_18 : aF 18 zM167.2.2.2.2.2.2.2 = some (18, .iload_n 1, 1, 0, 0) := by decide +kernel
theorem f167_19 : aF 19 zM167.2.2.2.2.2.2.2 = some (19, .iadd, 1, 0, 0) := by decide +kernel
theorem f167_20 : aF 20 zM167.2.2.2.2.2.2.2 = some (20, .sipush 160, 3, 0, 0) := by decide +kernel
theorem f167_23 : aF 23 zM167.2.2.2.2.2.2.2 = some (23, .if_icmp .le 8, 3, 31, 0) := by decide +kernel
theorem f167_26 : aF 26 zM167.2.2.2.2.2.2.2 = some (26, .bipush (-3), 2, 0, 0) := by decide +kernel
theorem f167_28 : aF 28 zM167.2.2.2.2.2.2.2 = some (28, .goto 12, 3, 40, 0) := by decide +kernel
theorem f167_31 : aF 31 zM167.2.2.2.2.2.2.2 = some (31, .aload_n 0, 1, 0, 0) := by decide +kernel
theorem f167_32 : aF 32 zM167.2.2.2.2.2.2.2 = some (32, .getfield 35, 3, 11, 3) := by decide +kernel
theorem f167_35 : aF 35 zM167.2.2.2.2.2.2.2 = some (35, .iload_n 1, 1, 0, 0) := by decide +kernel
theorem f167_36 : aF 36 zM167.2.2.2.2.2.2.2 = some (36, .iload_n 2, 1, 0, 0) := by decide +kernel
theorem f167_37 : aF 37 zM167.2.2.2.2.2.2.2 = some (37, .invokevirtual 254, 3, 117, 0) := by decide +kernel
theorem f167_40 : aF 40 zM167.2.2.2.2.2.2.2 = some (40, .ireturn, 1, 0, 0) := by decide +kernel
theorem f168_0 : aF 0 zM168.2.2.2.2.2.2.2 = some (0, .iload_n 1, 1, 0, 0) := by decide +kernel
theorem f168_1 : aF 1 zM168.2.2.2.2.2.2.2 = some (1, .invokestatic 257, 3, 143, 0) := by decide +kernel
theorem f168_4 : aF 4 zM168.2.2.2.2.2.2.2 = some (4, .ifCond .eq 10, 3, 14, 0) := by decide +kernel
theorem f168_7 : aF 7 zM168.2.2.2.2.2.2.2 = some (7, .iload_n 2, 1, 0, 0) := by decide +kernel
theorem f168_8 : aF 8 zM168.2.2.2.2.2.2.2 = some (8, .invokestatic 187, 3, 139, 0) := by decide +kernel
theorem f168_11 : aF 11 zM168.2.2.2.2.2.2.2 = some (11, .ifCond .ne 5, 3, 16, 0) := by decide +kernel
theorem f168_14 : aF 14 zM168.2.2.2.2.2.2.2 = some (14, .iconst (-1), 1, 0, 0) := by decide +kernel
theorem f168_15 : aF 15 zM168.2.2.2.2.2.2.2 = some (15, .ireturn, 1, 0, 0) := by decide +kernel
theorem f168_16 : aF 16 zM168.2.2.2.2.2.2.2 = some (16, .aload_n 0, 1, 0, 0) := by decide +kernel
theorem f168_17 : aF 17 zM168.2.2.2.2.2.2.2 = some (17, .getfield 35, 3, 11, 3) := by decide +kernel
theorem f168_20 : aF 20 zM168.2.2.2.2.2.2.2 = some (20, .getfield 260, 3, 10, 7) := by decide +kernel
theorem f168_23 : aF 23 zM168.2.2.2.2.2.2.2 = some (23, .bipush 16, 2, 0, 0) := by decide +kernel
theorem f168_25 : aF 25 zM168.2.2.2.2.2.2.2 = some (25, .if_icmp .lt 8, 3, 33, 0) := by decide +kernel
theorem f168_33 : aF 33 zM168.2.2.2.2.2.2.2 = some (33, .aload_n 0, 1, 0, 0) := by decide +kernel
theorem f168_34 : aF 34 zM168.2.2.2.2.2.2.2 = some (34, .getfield 35, 3, 11, 3) := by decide +kernel
theorem f168_37 : aF 37 zM168.2.2.2.2.2.2.2 = some (37, .iload_n 1, 1, 0, 0) := by decide +kernel
theorem f168_38 : aF 38 zM168.2.2.2.2.2.2.2 = some (38, .iload_n 2, 1, 0, 0) := by decide +kernel
theorem f168_39 : aF 39 zM168.2.2.2.2.2.2.2 = some (39, .aload_n 0, 1, 0, 0) := by decide +kernel
theorem f168_40 : aF 40 zM168.2.2.2.2.2.2.2 = some (40, .getfield 12, 3, 11, 0) := by decide +kernel
theorem f168_43 : aF 43 zM168.2.2.2.2.2.2.2 = some (43, .getfield 93, 3, 6, 0) := by decide +kernel
theorem f168_46 : aF 46 zM168.2.2.2.2.2.2.2 = some (46, .invokevirtual 261, 3, 118, 0) := by decide +kernel
theorem f168_49 : aF 49 zM168.2.2.2.2.2.2.2 = some (49, .ireturn, 1, 0, 0) := by decide +kernel
theorem f169_0 : aF 0 zM169.2.2.2.2.2.2.2 = some (0, .iload_n 1, 1, 0, 0) := by decide +kernel
theorem f169_1 : aF 1 zM169.2.2.2.2.2.2.2 = some (1, .invokestatic 257, 3, 143, 0) := by decide +kernel
theorem f169_4 : aF 4 zM169.2.2.2.2.2.2.2 = some (4, .ifCond .eq 17, 3, 21, 0) := by decide +kernel
theorem f169_7 : aF 7 zM169.2.2.2.2.2.2.2 = some (7, .iload_n 2, 1, 0, 0) := by decide +kernel
theorem f169_8 : aF 8 zM169.2.2.2.2.2.2.2 = some (8, .invokestatic 187, 3, 139, 0) := by decide +kernel
theorem f169_11 : aF 11 zM169.2.2.2.2.2.2.2 = some (11, .ifCond .eq 10, 3, 21, 0) := by decide +kernel
theorem f169_14 : aF 14 zM169.2.2.2.2.2.2.2 = some (14, .iload_n 3, 1, 0, 0) := by decide +kernel
theorem f169_15 : aF 15 zM169.2.2.2.2.2.2.2 = some (15, .invokestatic 164, 3, 138, 0) := by decide +kernel
theorem f169_18 : aF 18 zM169.2.2.2.2.2.2.2 = some (18, .ifCond .ne 5, 3, 23, 0) := by decide +kernel
theorem f169_21 : aF 21 zM169.2.2.2.2.2.2.2 = some (21, .iconst (-1), 1, 0, 0) := by decide +kernel
theorem f169_22 : aF 22 zM169.2.2.2.2.2.2.2 = some (22, .ireturn, 1, 0, 0) := by decide +kernel
theorem f169_23 : aF 23 zM169.2.2.2.2.2.2.2 = some (23, .aload_n 0, 1, 0, 0) := by decide +kernel
theorem f169_24 : aF 24 zM169.2.2.2.2.2.2.2 = some (24, .getfield 35, 3, 11, 3) := by decide +kernel
theorem f169_27 : aF 27 zM169.2.2.2.2.2.2.2 = some (27, .iload_n 1, 1, 0, 0) := by decide +kernel
theorem f169_28 : aF 28 zM169.2.2.2.2.2.2.2 = some (28, .iload_n 2, 1, 0, 0) := by decide +kernel
theorem f169_29 : aF 29 zM169.2.2.2.2.2.2.2 = some (29, .iload_n 3, 1, 0, 0) := by decide +kernel
theorem f169_30 : aF 30 zM169.2.2.2.2.2.2.2 = some (30, .invokevirtual 264, 3, 120, 0) := by decide +kernel
theorem f169_33 : aF 33 zM169.2.2.2.2.2.2.2 = some (33, .istore 4, 2, 0, 0) := by decide +kernel
theorem f169_35 : aF 35 zM169.2.2.2.2.2.2.2 = some (35, .iload 4, 2, 0, 0) := by decide +kernel
theorem f169_37 : aF 37 zM169.2.2.2.2.2.2.2 = some (37, .iconst (-1), 1, 0, 0) := by decide +kernel
theorem f169_38 : aF 38 zM169.2.2.2.2.2.2.2 = some (38, .if_icmp .ne 8, 3, 46, 0) := by decide +kernel
theorem f169_41 : aF 41 zM169.2.2.2.2.2.2.2 = some (41, .bipush (-2), 2, 0, 0) := by decide +kernel
theorem f169_43 : aF 43 zM169.2.2.2.2.2.2.2 = some (43, .goto 5, 3, 48, 0) := by decide +kernel
theorem f169_48 : aF 48 zM169.2.2.2.2.2.2.2 = some (48, .ireturn, 1, 0, 0) := by decide +kernel
theorem f170_0 : aF 0 zM170.2.2.2.2.2.2.2 = some (0, .aload_n 0, 1, 0, 0) := by decide +kernel
theorem f170_1 : aF 1 zM170.2.2.2.2.2.2.2 = some (1, .getfield 12, 3, 11, 0) := by decide +kernel
theorem f170_4 : aF 4 zM170.2.2.2.2.2.2.2 = some (4, .iload_n 1, 1, 0, 0) := by decide +kernel
theorem f170_5 : aF 5 zM170.2.2.2.2.2.2.2 = some (5, .invokevirtual 121, 3, 75, 0) := by decide +kernel
theorem f170_8 : aF 8 zM170.2.2.2.2.2.2.2 = some (8, .ifCond .eq 28, 3, 36, 0) := by decide +kernel
theorem f170_36 : aF 36 zM170.2.2.2.2.2.2.2 = some (36, .iconst (-1), 1, 0, 0) := by decide +kernel
theorem f170_37 : aF 37 zM170.2.2.2.2.2.2.2 = some (37, .ireturn, 1, 0, 0) := by decide +kernel
theorem f171_0 : aF 0 zM171.2.2.2.2.2.2.2 = some (0, .aload_n 0, 1, 0, 0) := by decide +kernel
theorem f171_1 : aF 1 zM171.2.2.2.2.2.2.2 = some (1, .getfield 12, 3, 11, 0) := by decide +kernel
theorem f171_4 : aF 4 zM171.2.2.2.2.2.2.2 = some (4, .iload_n 1, 1, 0, 0) := by decide +kernel
theorem f171_5 : aF 5 zM171.2.2.2.2.2.2.2 = some (5, .invokevirtual 121, 3, 75, 0) := by decide +kernel
theorem f171_8 : aF 8 zM171.2.2.2.2.2.2.2 = some (8, .ifCond .eq 28, 3, 36, 0) := by decide +kernel
theorem f171_36 : aF 36 zM171.2.2.2.2.2.2.2 = some (36, .ldc 135, 2, 2294967296, 0) := by decide +kernel
theorem f171_38 : aF 38 zM171.2.2.2.2.2.2.2 = some (38, .ireturn, 1, 0, 0) := by decide +kernel
theorem f172_0 : aF 0 zM172.2.2.2.2.2.2.2 = some (0, .aload_n 0, 1, 0, 0) := by decide +kernel
theorem f172_1 : aF 1 zM172.2.2.2.2.2.2.2 = some (1, .getfield 12, 3, 11, 0) := by decide +kernel
theorem f172_4 : aF 4 zM172.2.2.2.2.2.2.2 = some (4, .iload_n 1, 1, 0, 0) := by decide +kernel
theorem f172_5 : aF 5 zM172.2.2.2.2.2.2.2 = some (5, .invokevirtual 121, 3, 75, 0) := by decide +kernel
theorem f172_8 : aF 8 zM172.2.2.2.2.2.2.2 = some (8, .ifCond .eq 22, 3, 30, 0) := by decide +kernel
theorem f172_30 : aF 30 zM172.2.2.2.2.2.2.2 = some (30, .iconst (-1), 1, 0, 0) := by decide +kernel
theorem f172_31 : aF 31 zM172.2.2.2.2.2.2.2 = some (31, .ireturn, 1, 0, 0) := by decide +kernel
theorem f173_0 : aF 0 zM173.2.2.2.2.2.2.2 = some (0, .aload_n 0, 1, 0, 0) := by decide +kernel
theorem f173_1 : aF 1 zM173.2.2.2.2.2.2.2 = some (1, .getfield 12, 3, 11, 0) := by decide +kernel
theorem f173_4 : aF 4 zM173.2.2.2.2.2.2.2 = some (4, .iload_n 1, 1, 0, 0) := by decide +kernel
theorem f173_5 : aF 5 zM173.2.2.2.2.2.2.2 = some (5, .invokevirtual 121, 3, 75, 0) := by decide +kernel
theorem f173_8 : aF 8 zM173.2.2.2.2.2.2.2 = some (8, .ifCond .eq 14, 3, 22, 0) := by decide +kernel
theorem f173_22 : aF 22 zM173.2.2.2.2.2.2.2 = some (22, .ldc 135, 2, 2294967296, 0) := by decide +kernel
theorem f173_24 : aF 24 zM173.2.2.2.2.2.2.2 = some (24, .ireturn, 1, 0, 0) := by decide +kernel
theorem f174_0 : aF 0 zM174.2.2.2.2.2.2.2 = some (0, .aload_n 0, 1, 0, 0) := by decide +kernel
theorem f174_1 : aF 1 zM174.2.2.2.2.2.2.2 = some (1, .getfield 12, 3, 11, 0) := by decide +kernel
theorem f174_4 : aF 4 zM174.2.2.2.2.2.2.2 = some (4, .iload_n 1, 1, 0, 0) := by decide +kernel
theorem f174_5 : aF 5 zM174.2.2.2.2.2.2.2 = some (5, .invokevirtual 121, 3, 75, 0) := by decide +kernel
theorem f174_8 : aF 8 zM174.2.2.2.2.2.2.2 = some (8, .ifCond .eq 21, 3, 29, 0) := by decide +kernel
theorem f174_29 : aF 29 zM174.2.2.2.2.2.2.2 = some (29, .iconst (-1), 1, 0, 0) := by decide +kernel
theorem f174_30 : aF 30 zM174.2.2.2.2.2.2.2 = some (30, .ireturn, 1, 0, 0) := by decide +kernel
theorem f176_0 : aF 0 zM176.2.2.2.2.2.2.2 = some (0, .iload_n 1, 1, 0, 0) := by decide +kernel
theorem f176_1 : aF 1 zM176.2.2.2.2.2.2.2 = some (1, .iconst 0, 1, 0, 0) := by decide +kernel
theorem f176_2 : aF 2 zM176.2.2.2.2.2.2.2 = some (2, .aload_n 0, 1, 0, 0) := by decide +kernel
theorem f176_3 : aF 3 zM176.2.2.2.2.2.2.2 = some (3, .getfield 53, 3, 11, 5) := by decide +kernel
theorem f176_6 : aF 6 zM176.2.2.2.2.2.2.2 = some (6, .getfield 297, 3, 5, 4) := by decide +kernel
theorem f176_9 : aF 9 zM176.2.2.2.2.2.2.2 = some (9, .iconst 1, 1, 0, 0) := by decide +kernel
theorem f176_10 : aF 10 zM176.2.2.2.2.2.2.2 = some (10, .isub, 1, 0, 0) := by decide +kernel
theorem f176_11 : aF 11 zM176.2.2.2.2.2.2.2 = some (11, .invokestatic 85, 3, 137, 0) := by decide +kernel
theorem f176_14 : aF 14 zM176.2.2.2.2.2.2.2 = some (14, .ifCond .eq 15, 3, 29, 0) := by decide +kernel
theorem f176_29 : aF 29 zM176.2.2.2.2.2.2.2 = some (29, .iconst (-1), 1, 0, 0) := by decide +kernel
theorem f176_30 : aF 30 zM176.2.2.2.2.2.2.2 = some (30, .ireturn, 1, 0, 0) := by decide +kernel
theorem f177_0 : aF 0 zM177.2.2.2.2.2.2.2 = some (0, .aload_n 0, 1, 0, 0) := by decide +kernel
theorem f177_1 : aF 1 zM177.2.2.2.2.2.2.2 = some (1, .getfield 53, 3, 11, 5) := by decide +kernel
theorem f177_4 : aF 4 zM177.2.2.2.2.2.2.2 = some (4, .iload_n 1, 1, 0, 0) := by decide +kernel
theorem f177_5 : aF 5 zM177.2.2.2.2.2.2.2 = some (5, .putfield 303, 3, 5, 7) := by decide +kernel
theorem f177_8 : aF 8 zM177.2.2.2.2.2.2.2 = some (8, .iconst 1, 1, 0, 0) := by decide +kernel
theorem f177_9 : aF 9 zM177.2.2.2.2.2.2.2 = some (9, .ireturn, 1, 0, 0) := by decide +kernel
theorem f179_0 : aF 0 zM179.2.2.2.2.2.2.2 = some (0, .iload_n 1, 1, 0, 0) := by decide +kernel
theorem f179_1 : aF 1 zM179.2.2.2.2.2.2.2 = some (1, .iconst 0, 1, 0, 0) := by decide +kernel
theorem f179_2 : aF 2 zM179.2.2.2.2.2.2.2 = some (2, .aload_n 0, 1, 0, 0) := by decide +kernel
theorem f179_3 : aF 3 zM179.2.2.2.2.2.2.2 = some (3, .getfield 53, 3, 11, 5) := by decide +kernel
theorem f179_6 : aF 6 zM179.2.2.2.2.2.2.2 = some (6, .getfield 309, 3, 5, 9) := by decide +kernel
theorem f179_9 : aF 9 zM179.2.2.2.2.2.2.2 = some (9, .iconst 1, 1, 0, 0) := by decide +kernel
theorem f179_10 : aF 10 zM179.2.2.2.2.2.2.2 = some (10, .isub, 1, 0, 0) := by decide +kernel
theorem f179_11 : aF 11 zM179.2.2.2.2.2.2.2 = some (11, .invokestatic 85, 3, 137, 0) := by decide +kernel
theorem f179_14 : aF 14 zM179.2.2.2.2.2.2.2 = some (14, .ifCond .eq 15, 3, 29, 0) := by decide +kernel
theorem f179_29 : aF 29 zM179.2.2.2.2.2.2.2 = some (29, .iconst (-1), 1, 0, 0) := by decide +kernel
theorem f179_30 : aF 30 zM179.2.2.2.2.2.2.2 = some (30, .ireturn, 1, 0, 0) := by decide +kernel
theorem f181_0 : aF 0 zM181.2.2.2.2.2.2.2 = some (0, .iload_n 1, 1, 0, 0) := by decide +kernel
theorem f181_1 : aF 1 zM181.2.2.2.2.2.2.2 = some (1, .iconst 1, 1, 0, 0) := by decide +kernel
theorem f181_2 : aF 2 zM181.2.2.2.2.2.2.2 = some (2, .sipush 576, 3, 0, 0) := by decide +kernel
theorem f181_5 : aF 5 zM181.2.2.2.2.2.2.2 = some (5, .invokestatic 85, 3, 137, 0) := by decide +kernel
theorem f181_8 : aF 8 zM181.2.2.2.2.2.2.2 = some (8, .ifCond .ne 5, 3, 13, 0) := by decide +kernel
theorem f181_11 : aF 11 zM181.2.2.2.2.2.2.2 = some (11, .iconst (-1), 1, 0, 0) := by decide +kernel
theorem f181_12 : aF 12 zM181.2.2.2.2.2.2.2 = some (12, .ireturn, 1, 0, 0) := by decide +kernel
theorem f181_13 : aF 13 zM181.2.2.2.2.2.2.2 = some (13, .aload_n 0, 1, 0, 0) := by decide +kernel
theorem f181_14 : aF 14 zM181.2.2.2.2.2.2.2 = some (14, .getfield 60, 3, 11, 6) := by decide +kernel
theorem f181_17 : aF 17 zM181.2.2.2.2.2.2.2 = some (17, .getfield 327, 3, 4, 1) := by decide +kernel
theorem f181_20 : aF 20 zM181.2.2.2.2.2.2.2 = some (20, .bipush 6, 2, 0, 0) := by decide +kernel
theorem f181_22 : aF 22 zM181.2.2.2.2.2.2.2 = some (22, .if_icmp .lt 8, 3, 30, 0) := by decide +kernel
theorem f181_30 : aF 30 zM181.2.2.2.2.2.2.2 = some (30, .aload_n 0, 1, 0, 0) := by decide +kernel
theorem f181_31 : aF 31 zM181.2.2.2.2.2.2.2 = some (31, .getfield 60, 3, 11, 6) := by decide +kernel
theorem f181_34 : aF 34 zM181.2.2.2.2.2.2.2 = some (34, .iload_n 1, 1, 0, 0) := by decide +kernel
theorem f181_35 : aF 35 zM181.2.2.2.2.2.2.2 = some (35, .invokevirtual 328, 3, 45, 0) := by decide +kernel
theorem f181_38 : aF 38 zM181.2.2.2.2.2.2.2 = some (38, .ireturn, 1, 0, 0) := by decide +kernel
theorem f182_0 : aF 0 zM182.2.2.2.2.2.2.2 = some (0, .iload_n 1, 1, 0, 0) := by decide +kernel
theorem f182_1 : aF 1 zM182.2.2.2.2.2.2.2 = some (1, .invokestatic 173, 3, 141, 0) := by decide +kernel
theorem f182_4 : aF 4 zM182.2.2.2.2.2.2.2 = some (4, .ifCond .eq 13, 3, 17, 0) := by decide +kernel
theorem f182_7 : aF 7 zM182.2.2.2.2.2.2.2 = some (7, .iload_n 2, 1, 0, 0) := by decide +kernel
theorem f182_8 : aF 8 zM182.2.2.2.2.2.2.2 = some (8, .iconst 0, 1, 0, 0) := by decide +kernel
theorem f182_9 : aF 9 zM182.2.2.2.2.2.2.2 = some (9, .bipush 99, 2, 0, 0) := by decide +kernel
theorem f182_11 : aF 11 zM182.2.2.2.2.2.2.2 = some (11, .invokestatic 85, 3, 137, 0) := by decide +kernel
theorem f182_14 : aF 14 zM182.2.2.2.2.2.2.2 = some (14, .ifCond .ne 5, 3, 19, 0) := by decide +kernel
theorem f182_17 : aF 17 zM182.2.2.2.2.2.2.2 = some (17, .iconst (-1), 1, 0, 0) := by decide +kernel
theorem f182_18 : aF 18 zM182.2.2.2.2.2.2.2 = some (18, .ireturn, 1, 0, 0) := by decide +kernel
theorem f182_19 : aF 19 zM182.2.2.2.2.2.2.2 = some (19, .aload_n 0, 1, 0, 0) := by decide +kernel
theorem f182_20 : aF 20 zM182.2.2.2.2.2.2.2 = some (20, .getfield 60, 3, 11, 6) := by decide +kernel
theorem f182_23 : aF 23 zM182.2.2.2.2.2.2.2 = some (23, .getfield 330, 3, 4, 2) := by decide +kernel
theorem f182_26 : aF 26 zM182.2.2.2.2.2.2.2 = some (26, .iload_n 1, 1, 0, 0) := by decide +kernel
theorem f182_27 : aF 27 zM182.2.2.2.2.2.2.2 = some (27, .iaload, 1, 0, 0) := by decide +kernel
theorem f182_28 : aF 28 zM182.2.2.2.2.2.2.2 = some (28, .istore_n 3, 1, 0, 0) := by decide +kernel
theorem f182_29 : aF 29 zM182.2.2.2.2.2.2.2 = some (29, .aload_n 0, 1, 0, 0) := by decide +kernel
theorem f182_30 : aF 30 zM182.2.2.2.2.2.2.2 = some (30, .getfield 60, 3, 11, 6) := by decide +kernel
theorem f182_33 : aF 33 zM182.2.2.2.2.2.2.2 = some (33, .getfield 330, 3, 4, 2) := by decide +kernel
theorem f182_36 : aF 36 zM182.2.2.2.2.2.2.2 = some (36, .iload_n 1, 1, 0, 0) := by decide +kernel
theorem f182_37 : aF 37 zM182.2.2.2.2.2.2.2 = some (37, .iload_n 2, 1, 0, 0) := by decide +kernel
theorem f182_38 : aF 38 zM182.2.2.2.2.2.2.2 = some (38, .iastore, 1, 0, 0) := by decide +kernel
theorem f182_39 : aF 39 zM182.2.2.2.2.2.2.2 = some (39, .iload_n 3, 1, 0, 0) := by decide +kernel
theorem f182_40 : aF 40 zM182.2.2.2.2.2.2.2 = some (40, .ireturn, 1, 0, 0) := by decide +kernel
theorem f183_0 : aF 0 zM183.2.2.2.2.2.2.2 = some (0, .iload_n 1, 1, 0, 0) := by decide +kernel
theorem f183_1 : aF 1 zM183.2.2.2.2.2.2.2 = some (1, .iconst 1, 1, 0, 0) := by decide +kernel
theorem f183_2 : aF 2 zM183.2.2.2.2.2.2.2 = some (2, .bipush 100, 2, 0, 0) := by decide +kernel
theorem f183_4 : aF 4 zM183.2.2.2.2.2.2.2 = some (4, .invokestatic 85, 3, 137, 0) := by decide +kernel
theorem f183_7 : aF 7 zM183.2.2.2.2.2.2.2 = some (7, .ifCond .eq 22, 3, 29, 0) := by decide +kernel
theorem f183_10 : aF 10 zM183.2.2.2.2.2.2.2 = some (10, .iload_n 2, 1, 0, 0) := by decide +kernel
theorem f183_11 : aF 11 zM183.2.2.2.2.2.2.2 = some (11, .iconst 1, 1, 0, 0) := by decide +kernel
theorem f183_12 : aF 12 zM183.2.2.2.2.2.2.2 = some (12, .iconst 3, 1, 0, 0) := by decide +kernel
theorem f183_13 : aF 13 zM183.2.2.2.2.2.2.2 = some (13, .invokestatic 85, 3, 137, 0) := by decide +kernel
theorem f183_16 : aF 16 zM183.2.2.2.2.2.2.2 = some (16, .ifCond .eq 13, 3, 29, 0) := by decide +kernel
theorem f183_19 : aF 19 zM183.2.2.2.2.2.2.2 = some (19, .aload_n 0, 1, 0, 0) := by decide +kernel
theorem f183_20 : aF 20 zM183.2.2.2.2.2.2.2 = some (20, .getfield 60, 3, 11, 6) := by decide +kernel
theorem f183_23 : aF 23 zM183.2.2.2.2.2.2.2 = some (23, .getfield 327, 3, 4, 1) := by decide +kernel
theorem f183_26 : aF 26 zM183.2.2.2.2.2.2.2 = some (26, .ifCond .ne 5, 3, 31, 0) := by decide +kernel
theorem f183_29 : aF 29 zM183.2.2.2.2.2.2.2 = some (29, .iconst (-1), 1, 0, 0) := by decide +kernel
theorem f183_30 : aF 30 zM183.2.2.2.2.2.2.2 = some (30, .ireturn, 1, 0, 0) := by decide +kernel
theorem f184_0 : aF 0 zM184.2.2.2.2.2.2.2 = some (0, .iload_n 1, 1, 0, 0) := by decide +kernel
theorem f184_1 : aF 1 zM184.2.2.2.2.2.2.2 = some (1, .iconst 0, 1, 0, 0) := by decide +kernel
theorem f184_2 : aF 2 zM184.2.2.2.2.2.2.2 = some (2, .aload_n 0, 1, 0, 0) := by decide +kernel
theorem f184_3 : aF 3 zM184.2.2.2.2.2.2.2 = some (3, .getfield 60, 3, 11, 6) := by decide +kernel
theorem f184_6 : aF 6 zM184.2.2.2.2.2.2.2 = some (6, .getfield 336, 3, 4, 4) := by decide +kernel
theorem f184_9 : aF 9 zM184.2.2.2.2.2.2.2 = some (9, .iconst 1, 1, 0, 0) := by decide +kernel
theorem f184_10 : aF 10 zM184.2.2.2.2.2.2.2 = some (10, .isub, 1, 0, 0) := by decide +kernel
theorem f184_11 : aF 11 zM184.2.2.2.2.2.2.2 = some (11, .invokestatic 85, 3, 137, 0) := by decide +kernel
theorem f184_14 : aF 14 zM184.2.2.2.2.2.2.2 = some (14, .ifCond .eq 15, 3, 29, 0) := by decide +kernel
theorem f184_29 : aF 29 zM184.2.2.2.2.2.2.2 = some (29, .iconst (-1), 1, 0, 0) := by decide +kernel
theorem f184_30 : aF 30 zM184.2.2.2.2.2.2.2 = some (30, .ireturn, 1, 0, 0) := by decide +kernel
theorem f185_0 : aF 0 zM185.2.2.2.2.2.2.2 = some (0, .aload_n 0, 1, 0, 0) := by decide +kernel
theorem f185_1 : aF 1 zM185.2.2.2.2.2.2.2 = some (1, .getfield 35, 3, 11, 3) := by decide +kernel
theorem f185_4 : aF 4 zM185.2.2.2.2.2.2.2 = some (4, .iload_n 1, 1, 0, 0) := by decide +kernel
theorem f185_5 : aF 5 zM185.2.2.2.2.2.2.2 = some (5, .invokevirtual 342, 3, 119, 0) := by decide +kernel
theorem f185_8 : aF 8 zM185.2.2.2.2.2.2.2 = some (8, .ifCond .eq 27, 3, 35, 0) := by decide +kernel
theorem f185_35 : aF 35 zM185.2.2.2.2.2.2.2 = some (35, .iconst (-1), 1, 0, 0) := by decide +kernel
theorem f185_36 : aF 36 zM185.2.2.2.2.2.2.2 = some (36, .ireturn, 1, 0, 0) := by decide +kernel
theorem f186_0 : aF 0 zM186.2.2.2.2.2.2.2 = some (0, .aload_n 0, 1, 0, 0) := by decide +kernel
theorem f186_1 : aF 1 zM186.2.2.2.2.2.2.2 = some (1, .getfield 12, 3, 11, 0) := by decide +kernel
theorem f186_4 : aF 4 zM186.2.2.2.2.2.2.2 = some (4, .iload_n 1, 1, 0, 0) := by decide +kernel
theorem f186_5 : aF 5 zM186.2.2.2.2.2.2.2 = some (5, .invokevirtual 132, 3, 74, 0) := by decide +kernel
theorem f186_8 : aF 8 zM186.2.2.2.2.2.2.2 = some (8, .ifCond .eq 12, 3, 20, 0) := by decide +kernel
theorem f186_20 : aF 20 zM186.2.2.2.2.2.2.2 = some (20, .aload_n 0, 1, 0, 0) := by decide +kernel
theorem f186_21 : aF 21 zM186.2.2.2.2.2.2.2 = some (21, .getfield 74, 3, 11, 8) := by decide +kernel
theorem f186_24 : aF 24 zM186.2.2.2.2.2.2.2 = some (24, .iconst 0, 1, 0, 0) := by decide +kernel
theorem f186_25 : aF 25 zM186.2.2.2.2.2.2.2 = some (25, .putfield 349, 3, 1, 1) := by decide +kernel
theorem f186_28 : aF 28 zM186.2.2.2.2.2.2.2 = some (28, .iconst 0, 1, 0, 0) := by decide +kernel
theorem f186_29 : aF 29 zM186.2.2.2.2.2.2.2 = some (29, .ireturn, 1, 0, 0) := by decide +kernel
theorem f187_0 : aF 0 zM187.2.2.2.2.2.2.2 = some (0, .iload_n 1, 1, 0, 0) := by decide +kernel
theorem f187_1 : aF 1 zM187.2.2.2.2.2.2.2 = some (1, .iconst 0, 1, 0, 0) := by decide +kernel
theorem f187_2 : aF 2 zM187.2.2.2.2.2.2.2 = some (2, .aload_n 0, 1, 0, 0) := by decide +kernel
theorem f187_3 : aF 3 zM187.2.2.2.2.2.2.2 = some (3, .getfield 74, 3, 11, 8) := by decide +kernel
theorem f187_6 : aF 6 zM187.2.2.2.2.2.2.2 = some (6, .getfield 349, 3, 1, 1) := by decide +kernel
theorem f187_9 : aF 9 zM187.2.2.2.2.2.2.2 = some (9, .bipush 24, 2, 0, 0) := by decide +kernel
theorem f187_11 : aF 11 zM187.2.2.2.2.2.2.2 = some (11, .invokestatic 356, 3, 1011, 0) := by decide +kernel
theorem f187_14 : aF 14 zM187.2.2.2.2.2.2.2 = some (14, .iconst 1, 1, 0, 0) := by decide +kernel
theorem f187_15 : aF 15 zM187.2.2.2.2.2.2.2 = some (15, .isub, 1, 0, 0) := by decide +kernel
theorem f187_16 : aF 16 zM187.2.2.2.2.2.2.2 = some (16, .invokestatic 85, 3, 137, 0) := by decide +kernel
theorem f187_19 : aF 19 zM187.2.2.2.2.2.2.2 = some (19, .ifCond .eq 15, 3, 34, 0) := by decide +kernel
theorem f187_34 : aF 34 zM187.2.2.2.2.2.2.2 = some (34, .iconst (-1), 1, 0, 0) := by decide +kernel
theorem f187_35 : aF 35 zM187.2.2.2.2.2.2.2 = some (35, .ireturn, 1, 0, 0) := by decide +kernel
theorem f188_0 : aF 0 zM188.2.2.2.2.2.2.2 = some (0, .iload_n 1, 1, 0, 0) := by decide +kernel
theorem f188_1 : aF 1 zM188.2.2.2.2.2.2.2 = some (1, .invokestatic 235, 3, 142, 0) := by decide +kernel
theorem f188_4 : aF 4 zM188.2.2.2.2.2.2.2 = some (4, .ifCond .eq 19, 3, 23, 0) := by decide +kernel
theorem f188_7 : aF 7 zM188.2.2.2.2.2.2.2 = some (7, .iload_n 2, 1, 0, 0) := by decide +kernel
theorem f188_8 : aF 8 zM188.2.2.2.2.2.2.2 = some (8, .iconst (-1), 1, 0, 0) := by decide +kernel
theorem f188_9 : aF 9 zM188.2.2.2.2.2.2.2 = some (9, .if_icmp .eq 16, 3, 25, 0) := by decide +kernel
theorem f188_12 : aF 12 zM188.2.2.2.2.2.2.2 = some (12, .aload_n 0, 1, 0, 0) := by decide +kernel
theorem f188_13 : aF 13 zM188.2.2.2.2.2.2.2 = some (13, .getfield 12, 3, 11, 0) := by decide +kernel
theorem f188_16 : aF 16 zM188.2.2.2.2.2.2.2 = some (16, .iload_n 2, 1, 0, 0) := by decide +kernel
theorem f188_17 : aF 17 zM188.2.2.2.2.2.2.2 = some (17, .invokevirtual 132, 3, 74, 0) := by decide +kernel
theorem f188_20 : aF 20 zM188.2.2.2.2.2.2.2 = some (20, .ifCond .ne 5, 3, 25, 0) := by decide +kernel
theorem f188_23 : aF 23 zM188.2.2.2.2.2.2.2 = some (23, .iconst (-1), 1, 0, 0) := by decide +kernel
theorem f188_24 : aF 24 zM188.2.2.2.2.2.2.2 = some (24, .ireturn, 1, 0, 0) := by decide +kernel
theorem f188_25 : aF 25 zM188.2.2.2.2.2.2.2 = some (25, .iload_n 2, 1, 0, 0) := by decide +kernel
theorem f188_26 : aF 26 zM188.2.2.2.2.2.2.2 = some (26, .iconst (-1), 1, 0, 0) := by decide +kernel
theorem f188_27 : aF 27 zM188.2.2.2.2.2.2.2 = some (27, .if_icmp .ne 14, 3, 41, 0) := by decide +kernel
theorem f188_30 : aF 30 zM188.2.2.2.2.2.2.2 = some (30, .aload_n 0, 1, 0, 0) := by decide +kernel
theorem f188_31 : aF 31 zM188.2.2.2.2.2.2.2 = some (31, .getfield 81, 3, 11, 9) := by decide +kernel
theorem f188_34 : aF 34 zM188.2.2.2.2.2.2.2 = some (34, .iload_n 1, 1, 0, 0) := by decide +kernel
theorem f188_35 : aF 35 zM188.2.2.2.2.2.2.2 = some (35, .invokevirtual 364, 3, 107, 0) := by decide +kernel
theorem f188_38 : aF 38 zM188.2.2.2.2.2.2.2 = some (38, .goto 12, 3, 50, 0) := by decide +kernel
theorem f188_50 : aF 50 zM188.2.2.2.2.2.2.2 = some (50, .ireturn, 1, 0, 0) := by decide +kernel
theorem f190_0 : aF 0 zM190.2.2.2.2.2.2.2 = some (0, .iload_n 1, 1, 0, 0) := by decide +kernel
theorem f190_1 : aF 1 zM190.2.2.2.2.2.2.2 = some (1, .invokestatic 235, 3, 142, 0) := by decide +kernel
theorem f190_4 : aF 4 zM190.2.2.2.2.2.2.2 = some (4, .ifCond .eq 16, 3, 20, 0) := by decide +kernel
theorem f190_7 : aF 7 zM190.2.2.2.2.2.2.2 = some (7, .aload_n 0, 1, 0, 0) := by decide +kernel
theorem f190_8 : aF 8 zM190.2.2.2.2.2.2.2 = some (8, .getfield 81, 3, 11, 9) := by decide +kernel
theorem f190_11 : aF 11 zM190.2.2.2.2.2.2.2 = some (11, .iload_n 1, 1, 0, 0) := by decide +kernel
theorem f190_12 : aF 12 zM190.2.2.2.2.2.2.2 = some (12, .iload_n 2, 1, 0, 0) := by decide +kernel
theorem f190_13 : aF 13 zM190.2.2.2.2.2.2.2 = some (13, .lload_n 3, 1, 0, 0) := by decide +kernel
theorem f190_14 : aF 14 zM190.2.2.2.2.2.2.2 = some (14, .invokevirtual 373, 3, 112, 0) := by decide +kernel
theorem f190_17 : aF 17 zM190.2.2.2.2.2.2.2 = some (17, .goto 4, 3, 21, 0) := by decide +kernel
theorem f190_20 : aF 20 zM190.2.2.2.2.2.2.2 = some (20, .iconst (-1), 1, 0, 0) := by decide +kernel
theorem f190_21 : aF 21 zM190.2.2.2.2.2.2.2 = some (21, .ireturn, 1, 0, 0) := by decide +kernel
theorem f191_0 : aF 0 zM191.2.2.2.2.2.2.2 = some (0, .iload_n 1, 1, 0, 0) := by decide +kernel
theorem f191_1 : aF 1 zM191.2.2.2.2.2.2.2 = some (1, .invokestatic 235, 3, 142, 0) := by decide +kernel
theorem f191_4 : aF 4 zM191.2.2.2.2.2.2.2 = some (4, .ifCond .eq 15, 3, 19, 0) := by decide +kernel
theorem f191_7 : aF 7 zM191.2.2.2.2.2.2.2 = some (7, .aload_n 0, 1, 0, 0) := by decide +kernel
theorem f191_8 : aF 8 zM191.2.2.2.2.2.2.2 = some (8, .getfield 81, 3, 11, 9) := by decide +kernel
theorem f191_11 : aF 11 zM191.2.2.2.2.2.2.2 = some (11, .iload_n 1, 1, 0, 0) := by decide +kernel
theorem f191_12 : aF 12 zM191.2.2.2.2.2.2.2 = some (12, .iload_n 2, 1, 0, 0) := by decide +kernel
theorem f191_13 : aF 13 zM191.2.2.2.2.2.2.2 = some (13, .invokevirtual 377, 3, 114, 0) := by decide +kernel
theorem f191_16 : aF 16 zM191.2.2.2.2.2.2.2 = some (16, .goto 6, 3, 22, 0) := by decide +kernel
theorem f191_19 : aF 19 zM191.2.2.2.2.2.2.2 = some (19, .ldc2_w 383, 3, 9223372036854775808, 0) := by decide +kernel
theorem f191_22 : aF 22 zM191.2.2.2.2.2.2.2 = some (22, .lreturn, 1, 0, 0) := by decide +kernel
theorem f192_0 : aF 0 zM192.2.2.2.2.2.2.2 = some (0, .iload_n 1, 1, 0, 0) := by decide +kernel
theorem f192_1 : aF 1 zM192.2.2.2.2.2.2.2 = some (1, .invokestatic 235, 3, 142, 0) := by decide +kernel
theorem f192_4 : aF 4 zM192.2.2.2.2.2.2.2 = some (4, .ifCond .eq 27, 3, 31, 0) := by decide +kernel
theorem f192_7 : aF 7 zM192.2.2.2.2.2.2.2 = some (7, .iload_n 3, 1, 0, 0) := by decide +kernel
theorem f192_8 : aF 8 zM192.2.2.2.2.2.2.2 = some (8, .invokestatic 235, 3, 142, 0) := by decide +kernel
theorem f192_11 : aF 11 zM192.2.2.2.2.2.2.2 = some (11, .ifCond .eq 20, 3, 31, 0) := by decide +kernel
theorem f192_14 : aF 14 zM192.2.2.2.2.2.2.2 = some (14, .aload_n 0, 1, 0, 0) := by decide +kernel
theorem f192_15 : aF 15 zM192.2.2.2.2.2.2.2 = some (15, .getfield 81, 3, 11, 9) := by decide +kernel
theorem f192_18 : aF 18 zM192.2.2.2.2.2.2.2 = some (18, .iload_n 1, 1, 0, 0) := by decide +kernel
theorem f192_19 : aF 19 zM192.2.2.2.2.2.2.2 = some (19, .iload_n 2, 1, 0, 0) := by decide +kernel
theorem f192_20 : aF 20 zM192.2.2.2.2.2.2.2 = some (20, .iload_n 3, 1, 0, 0) := by decide +kernel
theorem f192_21 : aF 21 zM192.2.2.2.2.2.2.2 = some (21, .iload 4, 2, 0, 0) := by decide +kernel
theorem f192_23 : aF 23 zM192.2.2.2.2.2.2.2 = some (23, .iload 5, 2, 0, 0) := by decide +kernel
theorem f192_25 : aF 25 zM192.2.2.2.2.2.2.2 = some (25, .invokevirtual 385, 3, 115, 0) := by decide +kernel
theorem f192_28 : aF 28 zM192.2.2.2.2.2.2.2 = some (28, .goto 4, 3, 32, 0) := by decide +kernel
theorem f192_31 : aF 31 zM192.2.2.2.2.2.2.2 = some (31, .iconst (-1), 1, 0, 0) := by decide +kernel
theorem f192_32 : aF 32 zM192.2.2.2.2.2.2.2 = some (32, .ireturn, 1, 0, 0) := by decide +kernel
theorem f193_0 : aF 0 zM193.2.2.2.2.2.2.2 = some (0, .iload_n 1, 1, 0, 0) := by decide +kernel
theorem f193_1 : aF 1 zM193.2.2.2.2.2.2.2 = some (1, .invokestatic 235, 3, 142, 0) := by decide +kernel
theorem f193_4 : aF 4 zM193.2.2.2.2.2.2.2 = some (4, .ifCond .eq 13, 3, 17, 0) := by decide +kernel
theorem f193_7 : aF 7 zM193.2.2.2.2.2.2.2 = some (7, .iload_n 2, 1, 0, 0) := by decide +kernel
theorem f193_8 : aF 8 zM193.2.2.2.2.2.2.2 = some (8, .iconst 0, 1, 0, 0) := by decide +kernel
theorem f193_9 : aF 9 zM193.2.2.2.2.2.2.2 = some (9, .bipush 7, 2, 0, 0) := by decide +kernel
theorem f193_11 : aF 11 zM193.2.2.2.2.2.2.2 = some (11, .invokestatic 85, 3, 137, 0) := by decide +kernel
theorem f193_14 : aF 14 zM193.2.2.2.2.2.2.2 = some (14, .ifCond .ne 5, 3, 19, 0) := by decide +kernel
theorem f193_17 : aF 17 zM193.2.2.2.2.2.2.2 = some (17, .iconst (-1), 1, 0, 0) := by decide +kernel
theorem f193_18 : aF 18 zM193.2.2.2.2.2.2.2 = some (18, .ireturn, 1, 0, 0) := by decide +kernel
theorem f193_19 : aF 19 zM193.2.2.2.2.2.2.2 = some (19, .aload_n 0, 1, 0, 0) := by decide +kernel
theorem f193_20 : aF 20 zM193.2.2.2.2.2.2.2 = some (20, .getfield 81, 3, 11, 9) := by decide +kernel
theorem f193_23 : aF 23 zM193.2.2.2.2.2.2.2 = some (23, .getfield 238, 3, 9, 0) := by decide +kernel
theorem f193_26 : aF 26 zM193.2.2.2.2.2.2.2 = some (26, .iload_n 1, 1, 0, 0) := by decide +kernel
theorem f193_27 : aF 27 zM193.2.2.2.2.2.2.2 = some (27, .iaload, 1, 0, 0) := by decide +kernel
theorem f193_28 : aF 28 zM193.2.2.2.2.2.2.2 = some (28, .istore_n 3, 1, 0, 0) := by decide +kernel
theorem f193_29 : aF 29 zM193.2.2.2.2.2.2.2 = some (29, .iload_n 3, 1, 0, 0) := by decide +kernel
theorem f193_30 : aF 30 zM193.2.2.2.2.2.2.2 = some (30, .iconst (-1), 1, 0, 0) := by decide +kernel
theorem f193_31 : aF 31 zM193.2.2.2.2.2.2.2 = some (31, .if_icmp .ne 6, 3, 37, 0) := by decide +kernel
theorem f193_34 : aF 34 zM193.2.2.2.2.2.2.2 = some (34, .bipush (-11), 2, 0, 0) := by decide +kernel
theorem f193_36 : aF 36 zM193.2.2.2.2.2.2.2 = some (36, .ireturn, 1, 0, 0) := by decide +kernel
theorem f194_0 : aF 0 zM194.2.2.2.2.2.2.2 = some (0, .iload_n 1, 1, 0, 0) := by decide +kernel
theorem f194_1 : aF 1 zM194.2.2.2.2.2.2.2 = some (1, .tableswitch 159 0 11 #[63, 71, 79, 87, 95, 103, 111, 119, 127, 135, 143, 151], 63, 0, 0) := by decide +kernel
theorem f194_64 : aF 64 zM194.2.2.2.2.2.2.2 = some (64, .aload_n 0, 1, 0, 0) := by decide +kernel
theorem f194_65 : aF 65 zM194.2.2.2.2.2.2.2 = some (65, .getfield 12, 3, 11, 0) := by decide +kernel
theorem f194_68 : aF 68 zM194.2.2.2.2.2.2.2 = some (68, .getfield 394, 3, 6, 1) := by decide +kernel
theorem f194_71 : aF 71 zM194.2.2.2.2.2.2.2 = some (71, .ireturn, 1, 0, 0) := by decide +kernel
theorem f194_72 : aF 72 zM194.2.2.2.2.2.2.2 = some (72, .aload_n 0, 1, 0, 0) := by decide +kernel
theorem f194_73 : aF 73 zM194.2.2.2.2.2.2.2 = some (73, .getfield 12, 3, 11, 0) := by decide +kernel
theorem f194_76 : aF 76 zM194.2.2.2.2.2.2.2 = some (76, .getfield 395, 3, 6, 2) := by decide +kernel
theorem f194_79 : aF 79 zM194.2.2.2.2.2.2.2 = some (79, .ireturn, 1, 0, 0) := by decide +kernel
theorem f194_80 : aF 80 zM194.2.2.2.2.2.2.2 = some (80, .aload_n 0, 1, 0, 0) := by decide +kernel
theorem f194_81 : aF 81 zM194.2.2.2.2.2.2.2 = some (81, .getfield 12, 3, 11, 0) := by decide +kernel
theorem f194_84 : aF 84 zM194.2.2.2.2.2.2.2 = some (84, .getfield 398, 3, 6, 3) := by decide +kernel
theorem f194_87 : aF 87 zM194.2.2.2.2.2.2.2 = some (87, .ireturn, 1, 0, 0) := by decide +kernel
theorem f194_88 : aF 88 zM194.2.2.2.2.2.2.2 = some (88, .aload_n 0, 1, 0, 0) := by decide +kernel
theorem f194_89 : aF 89 zM194.2.2.2.2.2.2.2 = some (89, .getfield 12, 3, 11, 0) := by decide +kernel
theorem f194_92 : aF 92 zM194.2.2.2.2.2.2.2 = some (92, .getfield 401, 3, 6, 4) := by decide +kernel
theorem f194_95 : aF 95 zM194.2.2.2.2.2.2.2 = some (95, .ireturn, 1, 0, 0) := by decide +kernel
theorem f194_96 : aF 96 zM194.2.2.2.2.2.2.2 = some (96, .aload_n 0, 1, 0, 0) := by decide +kernel
theorem f194_97 : aF 97 zM194.2.2.2.2.2.2.2 = some (97, .getfield 28, 3, 11, 2) := by decide +kernel
theorem f194_100 : aF 100 zM194.2.2.2.2.2.2.2 = some (100, .getfield 176, 3, 2, 1) := by decide +kernel
theorem f194_103 : aF 103 zM194.2.2.2.2.2.2.2 = some (103, .ireturn, 1, 0, 0) := by decide +kernel
theorem f194_104 : aF 104 zM194.2.2.2.2.2.2.2 = some (104, .aload_n 0, 1, 0, 0) := by decide +kernel
theorem f194_105 : aF 105 zM194.2.2.2.2.2.2.2 = some (105, .getfield 12, 3, 11, 0) := by decide +kernel
theorem f194_108 : aF 108 zM194.2.2.2.2.2.2.2 = some (108, .getfield 167, 3, 6, 6) := by decide +kernel
theorem f194_111 : aF 111 zM194.2.2.2.2.2.2.2 = some (111, .ireturn, 1, 0, 0) := by decide +kernel
theorem f194_112 : aF 112 zM194.2.2.2.2.2.2.2 = some (112, .aload_n 0, 1, 0, 0) := by decide +kernel
theorem f194_113 : aF 113 zM194.2.2.2.2.2.2.2 = some (113, .getfield 28, 3, 11, 2) := by decide +kernel
theorem f194_116 : aF 116 zM194.2.2.2.2.2.2.2 = some (116, .getfield 221, 3, 2, 3) := by decide +kernel
theorem f194_119 : aF 119 zM194.2.2.2.2.2.2.2 = some (119, .ireturn, 1, 0, 0) := by decide +kernel
theorem f194_120 : aF 120 zM194.2.2.2.2.2.2.2 = some (120, .aload_n 0, 1, 0, 0) := by decide +kernel
theorem f194_121 : aF 121 zM194.2.2.2.2.2.2.2 = some (121, .getfield 12, 3, 11, 0) := by decide +kernel
theorem f194_124 : aF 124 zM194.2.2.2.2.2.2.2 = some (124, .getfield 93, 3, 6, 0) := by decide +kernel
theorem f194_127 : aF 127 zM194.2.2.2.2.2.2.2 = some (127, .ireturn, 1, 0, 0) := by decide +kernel
theorem f194_128 : aF 128 zM194.2.2.2.2.2.2.2 = some (128, .aload_n 0, 1, 0, 0) := by decide +kernel
theorem f194_129 : aF 129 zM194.2.2.2.2.2.2.2 = some (129, .getfield 35, 3, 11, 3) := by decide +kernel
theorem f194_132 : aF 132 zM194.2.2.2.2.2.2.2 = some (132, .getfield 260, 3, 10, 7) := by decide +kernel
theorem f194_135 : aF 135 zM194.2.2.2.2.2.2.2 = some (135, .ireturn, 1, 0, 0) := by decide +kernel
theorem f194_136 : aF 136 zM194.2.2.2.2.2.2.2 = some (136, .aload_n 0, 1, 0, 0) := by decide +kernel
theorem f194_137 : aF 137 zM194.2.2.2.2.2.2.2 = some (137, .getfield 35, 3, 11, 3) := by decide +kernel
theorem f194_140 : aF 140 zM194.2.2.2.2.2.2.2 = some (140, .getfield 251, 3, 10, 1) := by decide +kernel
theorem f194_143 : aF 143 zM194.2.2.2.2.2.2.2 = some (143, .ireturn, 1, 0, 0) := by decide +kernel
theorem f194_144 : aF 144 zM194.2.2.2.2.2.2.2 = some (144, .aload_n 0, 1, 0, 0) := by decide +kernel
theorem f194_145 : aF 145 zM194.2.2.2.2.2.2.2 = some (145, .getfield 19, 3, 11, 1) := by decide +kernel
theorem f194_148 : aF 148 zM194.2.2.2.2.2.2.2 = some (148, .getfield 108, 3, 7, 2) := by decide +kernel
theorem f194_151 : aF 151 zM194.2.2.2.2.2.2.2 = some (151, .ireturn, 1, 0, 0) := by decide +kernel
theorem f194_152 : aF 152 zM194.2.2.2.2.2.2.2 = some (152, .aload_n 0, 1, 0, 0) := by decide +kernel
theorem f194_153 : aF 153 zM194.2.2.2.2.2.2.2 = some (153, .getfield 74, 3, 11, 8) := by decide +kernel
theorem f194_156 : aF 156 zM194.2.2.2.2.2.2.2 = some (156, .getfield 349, 3, 1, 1) := by decide +kernel
theorem f194_159 : aF 159 zM194.2.2.2.2.2.2.2 = some (159, .ireturn, 1, 0, 0) := by decide +kernel
theorem f194_160 : aF 160 zM194.2.2.2.2.2.2.2 = some (160, .iconst (-1), 1, 0, 0) := by decide +kernel
theorem f194_161 : aF 161 zM194.2.2.2.2.2.2.2 = some (161, .ireturn, 1, 0, 0) := by decide +kernel
theorem f196_0 : aF 0 zM196.2.2.2.2.2.2.2 = some (0, .iload_n 0, 1, 0, 0) := by decide +kernel
theorem f196_1 : aF 1 zM196.2.2.2.2.2.2.2 = some (1, .iload_n 1, 1, 0, 0) := by decide +kernel
theorem f196_2 : aF 2 zM196.2.2.2.2.2.2.2 = some (2, .if_icmp .lt 12, 3, 14, 0) := by decide +kernel
theorem f196_5 : aF 5 zM196.2.2.2.2.2.2.2 = some (5, .iload_n 0, 1, 0, 0) := by decide +kernel
theorem f196_6 : aF 6 zM196.2.2.2.2.2.2.2 = some (6, .iload_n 2, 1, 0, 0) := by decide +kernel
theorem f196_7 : aF 7 zM196.2.2.2.2.2.2.2 = some (7, .if_icmp .gt 7, 3, 14, 0) := by decide +kernel
theorem f196_10 : aF 10 zM196.2.2.2.2.2.2.2 = some (10, .iconst 1, 1, 0, 0) := by decide +kernel
theorem f196_11 : aF 11 zM196.2.2.2.2.2.2.2 = some (11, .goto 4, 3, 15, 0) := by decide +kernel
theorem f196_14 : aF 14 zM196.2.2.2.2.2.2.2 = some (14, .iconst 0, 1, 0, 0) := by decide +kernel
theorem f196_15 : aF 15 zM196.2.2.2.2.2.2.2 = some (15, .ireturn, 1, 0, 0) := by decide +kernel
theorem f197_0 : aF 0 zM197.2.2.2.2.2.2.2 = some (0, .iload_n 0, 1, 0, 0) := by decide +kernel
theorem f197_1 : aF 1 zM197.2.2.2.2.2.2.2 = some (1, .iconst 0, 1, 0, 0) := by decide +kernel
theorem f197_2 : aF 2 zM197.2.2.2.2.2.2.2 = some (2, .sipush 3649, 3, 0, 0) := by decide +kernel
theorem f197_5 : aF 5 zM197.2.2.2.2.2.2.2 = some (5, .invokestatic 258, 3, 196, 0) := by decide +kernel
theorem f197_8 : aF 8 zM197.2.2.2.2.2.2.2 = some (8, .ireturn, 1, 0, 0) := by decide +kernel
theorem f198_0 : aF 0 zM198.2.2.2.2.2.2.2 = some (0, .iload_n 0, 1, 0, 0) := by decide +kernel
theorem f198_1 : aF 1 zM198.2.2.2.2.2.2.2 = some (1, .iconst 0, 1, 0, 0) := by decide +kernel
theorem f198_2 : aF 2 zM198.2.2.2.2.2.2.2 = some (2, .bipush 9, 2, 0, 0) := by decide +kernel
theorem f198_4 : aF 4 zM198.2.2.2.2.2.2.2 = some (4, .invokestatic 258, 3, 196, 0) := by decide +kernel
theorem f198_7 : aF 7 zM198.2.2.2.2.2.2.2 = some (7, .ireturn, 1, 0, 0) := by decide +kernel
theorem f199_0 : aF 0 zM199.2.2.2.2.2.2.2 = some (0, .iload_n 1, 1, 0, 0) := by decide +kernel
theorem f199_1 : aF 1 zM199.2.2.2.2.2.2.2 = some (1, .iconst 1, 1, 0, 0) := by decide +kernel
theorem f199_2 : aF 2 zM199.2.2.2.2.2.2.2 = some (2, .sipush 365, 3, 0, 0) := by decide +kernel
theorem f199_5 : aF 5 zM199.2.2.2.2.2.2.2 = some (5, .invokestatic 258, 3, 196, 0) := by decide +kernel
theorem f199_8 : aF 8 zM199.2.2.2.2.2.2.2 = some (8, .ifCond .eq 15, 3, 23, 0) := by decide +kernel
theorem f199_11 : aF 11 zM199.2.2.2.2.2.2.2 = some (11, .aload_n 0, 1, 0, 0) := by decide +kernel
theorem f199_12 : aF 12 zM199.2.2.2.2.2.2.2 = some (12, .getfield 262, 3, 12, 1) := by decide +kernel
theorem f199_15 : aF 15 zM199.2.2.2.2.2.2.2 = some (15, .iload_n 1, 1, 0, 0) := by decide +kernel
theorem f199_16 : aF 16 zM199.2.2.2.2.2.2.2 = some (16, .iadd, 1, 0, 0) := by decide +kernel
theorem f199_17 : aF 17 zM199.2.2.2.2.2.2.2 = some (17, .sipush 3649, 3, 0, 0) := by decide +kernel
theorem f199_20 : aF 20 zM199.2.2.2.2.2.2.2 = some (20, .if_icmp .le 5, 3, 25, 0) := by decide +kernel
theorem f199_23 : aF 23 zM199.2.2.2.2.2.2.2 = some (23, .iconst (-1), 1, 0, 0) := by decide +kernel
theorem f199_24 : aF 24 zM199.2.2.2.2.2.2.2 = some (24, .ireturn, 1, 0, 0) := by decide +kernel
theorem f199_25 : aF 25 zM199.2.2.2.2.2.2.2 = some (25, .aload_n 0, 1, 0, 0) := by decide +kernel
theorem f199_26 : aF 26 zM199.2.2.2.2.2.2.2 = some (26, .dup, 1, 0, 0) := by decide +kernel
theorem f199_27 : aF 27 zM199.2.2.2.2.2.2.2 = some (27, .getfield 262, 3, 12, 1) := by decide +kernel
theorem f199_30 : aF 30 zM199.2.2.2.2.2.2.2 = some (30, .iload_n 1, 1, 0, 0) := by decide +kernel
theorem f199_31 : aF 31 zM199.2.2.2.2.2.2.2 = some (31, .iadd, 1, 0, 0) := by decide +kernel
theorem f199_32 : aF 32 zM199.2.2.2.2.2.2.2 = some (32, .putfield 262, 3, 12, 1) := by decide +kernel
theorem f199_35 : aF 35 zM199.2.2.2.2.2.2.2 = some (35, .aload_n 0, 1, 0, 0) := by decide +kernel
theorem f199_36 : aF 36 zM199.2.2.2.2.2.2.2 = some (36, .getfield 262, 3, 12, 1) := by decide +kernel
theorem f199_39 : aF 39 zM199.2.2.2.2.2.2.2 = some (39, .ireturn, 1, 0, 0) := by decide +kernel
theorem f200_0 : aF 0 zM200.2.2.2.2.2.2.2 = some (0, .iload_n 1, 1, 0, 0) := by decide +kernel
theorem f200_1 : aF 1 zM200.2.2.2.2.2.2.2 = some (1, .iconst 0, 1, 0, 0) := by decide +kernel
theorem f200_2 : aF 2 zM200.2.2.2.2.2.2.2 = some (2, .aload_n 0, 1, 0, 0) := by decide +kernel
theorem f200_3 : aF 3 zM200.2.2.2.2.2.2.2 = some (3, .getfield 265, 3, 12, 2) := by decide +kernel
theorem f200_6 : aF 6 zM200.2.2.2.2.2.2.2 = some (6, .iconst 1, 1, 0, 0) := by decide +kernel
theorem f200_7 : aF 7 zM200.2.2.2.2.2.2.2 = some (7, .isub, 1, 0, 0) := by decide +kernel
theorem f200_8 : aF 8 zM200.2.2.2.2.2.2.2 = some (8, .invokestatic 258, 3, 196, 0) := by decide +kernel
theorem f200_11 : aF 11 zM200.2.2.2.2.2.2.2 = some (11, .ireturn, 1, 0, 0) := by decide +kernel
theorem f201_0 : aF 0 zM201.2.2.2.2.2.2.2 = some (0, .iload_n 1, 1, 0, 0) := by decide +kernel
theorem f201_1 : aF 1 zM201.2.2.2.2.2.2.2 = some (1, .ifCond .eq 8, 3, 9, 0) := by decide +kernel
theorem f201_4 : aF 4 zM201.2.2.2.2.2.2.2 = some (4, .iload_n 0, 1, 0, 0) := by decide +kernel
theorem f201_5 : aF 5 zM201.2.2.2.2.2.2.2 = some (5, .iload_n 1, 1, 0, 0) := by decide +kernel
theorem f201_6 : aF 6 zM201.2.2.2.2.2.2.2 = some (6, .if_icmp .ne 5, 3, 11, 0) := by decide +kernel
theorem f201_9 : aF 9 zM201.2.2.2.2.2.2.2 = some (9, .iconst 1, 1, 0, 0) := by decide +kernel
theorem f201_10 : aF 10 zM201.2.2.2.2.2.2.2 = some (10, .ireturn, 1, 0, 0) := by decide +kernel
theorem f201_11 : aF 11 zM201.2.2.2.2.2.2.2 = some (11, .iload_n 1, 1, 0, 0) := by decide +kernel
theorem f201_12 : aF 12 zM201.2.2.2.2.2.2.2 = some (12, .iconst 1, 1, 0, 0) := by decide +kernel
theorem f201_13 : aF 13 zM201.2.2.2.2.2.2.2 = some (13, .if_icmp .ne 25, 3, 38, 0) := by decide +kernel
theorem f201_16 : aF 16 zM201.2.2.2.2.2.2.2 = some (16, .iload_n 0, 1, 0, 0) := by decide +kernel
theorem f201_17 : aF 17 zM201.2.2.2.2.2.2.2 = some (17, .iconst 2, 1, 0, 0) := by decide +kernel
theorem f201_18 : aF 18 zM201.2.2.2.2.2.2.2 = some (18, .if_icmp .eq 14, 3, 32, 0) := by decide +kernel
theorem f201_21 : aF 21 zM201.2.2.2.2.2.2.2 = some (21, .iload_n 0, 1, 0, 0) := by decide +kernel
theorem f201_22 : aF 22 zM201.2.2.2.2.2.2.2 = some (22, .iconst 3, 1, 0, 0) := by decide +kernel
theorem f201_23 : aF 23 zM201.2.2.2.2.2.2.2 = some (23, .if_icmp .eq 9, 3, 32, 0) := by decide +kernel
theorem f201_26 : aF 26 zM201.2.2.2.2.2.2.2 = some (26, .iload_n 0, 1, 0, 0) := by decide +kernel
theorem f201_27 : aF 27 zM201.2.2.2.2.2.2.2 = some (27, .bipush 7, 2, 0, 0) := by decide +kernel
theorem f201_29 : aF 29 zM201.2.2.2.2.2.2.2 = some (29, .if_icmp .ne 7, 3, 36, 0) := by decide +kernel
theorem f201_32 : aF 32 zM201.2.2.2.2.2.2.2 = some (32, .iconst 1, 1, 0, 0) := by decide +kernel
theorem f201_33 : aF 33 zM201.2.2.2.2.2.2.2 = some (33, .goto 4, 3, 37, 0) := by decide +kernel
theorem f201_36 : aF 36 zM201.2.2.2.2.2.2.2 = some (36, .iconst 0, 1, 0, 0) := by decide +kernel
theorem f201_37 : aF 37 zM201.2.2.2.2.2.2.2 = some (37, .ireturn, 1, 0, 0) := by decide +kernel
theorem f202_0 : aF 0 zM202.2.2.2.2.2.2.2 = some (0, .aload_n 0, 1, 0, 0) := by decide +kernel
theorem f202_1 : aF 1 zM202.2.2.2.2.2.2.2 = some (1, .iload_n 1, 1, 0, 0) := by decide +kernel
theorem f202_2 : aF 2 zM202.2.2.2.2.2.2.2 = some (2, .invokevirtual 268, 3, 200, 0) := by decide +kernel
theorem f202_5 : aF 5 zM202.2.2.2.2.2.2.2 = some (5, .ifCond .eq 20, 3, 25, 0) := by decide +kernel
theorem f202_25 : aF 25 zM202.2.2.2.2.2.2.2 = some (25, .iconst 0, 1, 0, 0) := by decide +kernel
theorem f202_26 : aF 26 zM202.2.2.2.2.2.2.2 = some (26, .ireturn, 1, 0, 0) := by decide +kernel
theorem f203_0 : aF 0 zM203.2.2.2.2.2.2.2 = some (0, .aload_n 0, 1, 0, 0) := by decide +kernel
theorem f203_1 : aF 1 zM203.2.2.2.2.2.2.2 = some (1, .iload_n 1, 1, 0, 0) := by decide +kernel
theorem f203_2 : aF 2 zM203.2.2.2.2.2.2.2 = some (2, .invokevirtual 268, 3, 200, 0) := by decide +kernel
theorem f203_5 : aF 5 zM203.2.2.2.2.2.2.2 = some (5, .ifCond .eq 20, 3, 25, 0) := by decide +kernel
theorem f203_25 : aF 25 zM203.2.2.2.2.2.2.2 = some (25, .iconst 0, 1, 0, 0) := by decide +kernel
theorem f203_26 : aF 26 zM203.2.2.2.2.2.2.2 = some (26, .ireturn, 1, 0, 0) := by decide +kernel
theorem f204_0 : aF 0 zM204.2.2.2.2.2.2.2 = some (0, .aload_n 0, 1, 0, 0) := by decide +kernel
theorem f204_1 : aF 1 zM204.2.2.2.2.2.2.2 = some (1, .getfield 7, 3, 12, 3) := by decide +kernel
theorem f204_4 : aF 4 zM204.2.2.2.2.2.2.2 = some (4, .aload_n 0, 1, 0, 0) := by decide +kernel
theorem f204_5 : aF 5 zM204.2.2.2.2.2.2.2 = some (5, .getfield 265, 3, 12, 2) := by decide +kernel
theorem f204_8 : aF 8 zM204.2.2.2.2.2.2.2 = some (8, .iload_n 1, 1, 0, 0) := by decide +kernel
theorem f204_9 : aF 9 zM204.2.2.2.2.2.2.2 = some (9, .iastore, 1, 0, 0) := by decide +kernel
theorem f204_10 : aF 10 zM204.2.2.2.2.2.2.2 = some (10, .aload_n 0, 1, 0, 0) := by decide +kernel
theorem f204_11 : aF 11 zM204.2.2.2.2.2.2.2 = some (11, .getfield 16, 3, 12, 5) := by decide +kernel
theorem f204_14 : aF 14 zM204.2.2.2.2.2.2.2 = some (14, .aload_n 0, 1, 0, 0) := by decide +kernel
theorem f204_15 : aF 15 zM204.2.2.2.2.2.2.2 = some (15, .getfield 265, 3, 12, 2) := by decide +kernel
theorem f204_18 : aF 18 zM204.2.2.2.2.2.2.2 = some (18, .iconst (-1), 1, 0, 0) := by decide +kernel
theorem f204_19 : aF 19 zM204.2.2.2.2.2.2.2 = some (19, .iastore, 1, 0, 0) := by decide +kernel
theorem f204_20 : aF 20 zM204.2.2.2.2.2.2.2 = some (20, .aload_n 0, 1, 0, 0) := by decide +kernel
theorem f204_21 : aF 21 zM204.2.2.2.2.2.2.2 = some (21, .getfield 19, 3, 12, 6) := by decide +kernel
theorem f204_24 : aF 24 zM204.2.2.2.2.2.2.2 = some (24, .aload_n 0, 1, 0, 0) := by decide +kernel
theorem f204_25 : aF 25 zM204.2.2.2.2.2.2.2 = some (25, .getfield 265, 3, 12, 2) := by decide +kernel
theorem f204_28 : aF 28 zM204.2.2.2.2.2.2.2 = some (28, .aload_n 0, 1, 0, 0) := by decide +kernel
theorem f204_29 : aF 29 zM204.2.2.2.2.2.2.2 = some (29, .getfield 262, 3, 12, 1) := by decide +kernel
theorem f204_32 : aF 32 zM204.2.2.2.2.2.2.2 = some (32, .iastore, 1, 0, 0) := by decide +kernel
theorem f204_33 : aF 33 zM204.2.2.2.2.2.2.2 = some (33, .aload_n 0, 1, 0, 0) := by decide +kernel
theorem f204_34 : aF 34 zM204.2.2.2.2.2.2.2 = some (34, .getfield 22, 3, 12, 7) := by decide +kernel
theorem f204_37 : aF 37 zM204.2.2.2.2.2.2.2 = some (37, .aload_n 0, 1, 0, 0) := by decide +kernel
theorem f204_38 : aF 38 zM204.2.2.2.2.2.2.2 = some (38, .getfield 265, 3, 12, 2) := by decide +kernel
theorem f204_41 : aF 41 zM204.2.2.2.2.2.2.2 = some (41, .iconst (-1), 1, 0, 0) := by decide +kernel
theorem f204_42 : aF 42 zM204.2.2.2.2.2.2.2 = some (42, .iastore, 1, 0, 0) := by decide +kernel
theorem f204_43 : aF 43 zM204.2.2.2.2.2.2.2 = some (43, .aload_n 0, 1, 0, 0) := by decide +kernel
theorem f204_44 : aF 44 zM204.2.2.2.2.2.2.2 = some (44, .dup, 1, 0, 0) := by decide +kernel
theorem f204_45 : aF 45 zM204.2.2.2.2.2.2.2 = some (45, .getfield 265, 3, 12, 2) := by decide +kernel
theorem f204_48 : aF 48 zM204.2.2.2.2.2.2.2 = some (48, .iconst 1, 1, 0, 0) := by decide +kernel
theorem f204_49 : aF 49 zM204.2.2.2.2.2.2.2 = some (49, .iadd, 1, 0, 0) := by decide +kernel
theorem f204_50 : aF 50 zM204.2.2.2.2.2.2.2 = some (50, .putfield 265, 3, 12, 2) := by decide +kernel
theorem f204_53 : aF 53 zM204.2.2.2.2.2.2.2 = some (53, .aload_n 0, 1, 0, 0) := by decide +kernel
theorem f204_54 : aF 54 zM204.2.2.2.2.2.2.2 = some (54, .getfield 265, 3, 12, 2) := by decide +kernel
theorem f204_57 : aF 57 zM204.2.2.2.2.2.2.2 = some (57, .iconst 1, 1, 0, 0) := by decide +kernel
theorem f204_58 : aF 58 zM204.2.2.2.2.2.2.2 = some (58, .isub, 1, 0, 0) := by decide +kernel
theorem f204_59 : aF 59 zM204.2.2.2.2.2.2.2 = some (59, .ireturn, 1, 0, 0) := by decide +kernel
theorem f205_0 : aF 0 zM205.2.2.2.2.2.2.2 = some (0, .aload_n 0, 1, 0, 0) := by decide +kernel
theorem f205_1 : aF 1 zM205.2.2.2.2.2.2.2 = some (1, .getfield 265, 3, 12, 2) := by decide +kernel
theorem f205_4 : aF 4 zM205.2.2.2.2.2.2.2 = some (4, .sipush 150, 3, 0, 0) := by decide +kernel
theorem f205_7 : aF 7 zM205.2.2.2.2.2.2.2 = some (7, .if_icmp .ne 8, 3, 15, 0) := by decide +kernel
theorem f205_15 : aF 15 zM205.2.2.2.2.2.2.2 = some (15, .aload_n 0, 1, 0, 0) := by decide +kernel
theorem f205_16 : aF 16 zM205.2.2.2.2.2.2.2 = some (16, .iconst 0, 1, 0, 0) := by decide +kernel
theorem f205_17 : aF 17 zM205.2.2.2.2.2.2.2 = some (17, .invokevirtual 276, 3, 204, 0) := by decide +kernel
theorem f205_20 : aF 20 zM205.2.2.2.2.2.2.2 = some (20, .ireturn, 1, 0, 0) := by decide +kernel
theorem f206_0 : aF 0 zM206.2.2.2.2.2.2.2 = some (0, .iload_n 0, 1, 0, 0) := by decide +kernel
theorem f206_1 : aF 1 zM206.2.2.2.2.2.2.2 = some (1, .iconst 0, 1, 0, 0) := by decide +kernel
theorem f206_2 : aF 2 zM206.2.2.2.2.2.2.2 = some (2, .iconst 3, 1, 0, 0) := by decide +kernel
theorem f206_3 : aF 3 zM206.2.2.2.2.2.2.2 = some (3, .invokestatic 258, 3, 196, 0) := by decide +kernel
theorem f206_6 : aF 6 zM206.2.2.2.2.2.2.2 = some (6, .ireturn, 1, 0, 0) := by decide +kernel
theorem f207_0 : aF 0 zM207.2.2.2.2.2.2.2 = some (0, .iload_n 1, 1, 0, 0) := by decide +kernel
theorem f207_1 : aF 1 zM207.2.2.2.2.2.2.2 = some (1, .iconst 1, 1, 0, 0) := by decide +kernel
theorem f207_2 : aF 2 zM207.2.2.2.2.2.2.2 = some (2, .invokestatic 272, 3, 201, 0) := by decide +kernel
theorem f207_5 : aF 5 zM207.2.2.2.2.2.2.2 = some (5, .ifCond .eq 20, 3, 25, 0) := by decide +kernel
theorem f207_8 : aF 8 zM207.2.2.2.2.2.2.2 = some (8, .iload_n 1, 1, 0, 0) := by decide +kernel
theorem f207_9 : aF 9 zM207.2.2.2.2.2.2.2 = some (9, .iconst 0, 1, 0, 0) := by decide +kernel
theorem f207_10 : aF 10 zM207.2.2.2.2.2.2.2 = some (10, .bipush 7, 2, 0, 0) := by decide +kernel
theorem f207_12 : aF 12 zM207.2.2.2.2.2.2.2 = some (12, .invokestatic 258, 3, 196, 0) := by decide +kernel
theorem f207_15 : aF 15 zM207.2.2.2.2.2.2.2 = some (15, .ifCond .eq 10, 3, 25, 0) := by decide +kernel
theorem f207_18 : aF 18 zM207.2.2.2.2.2.2.2 = some (18, .iload_n 2, 1, 0, 0) := by decide +kernel
theorem f207_19 : aF 19 zM207.2.2.2.2.2.2.2 = some (19, .invokestatic 280, 3, 206, 0) := by decide +kernel
theorem f207_22 : aF 22 zM207.2.2.2.2.2.2.2 = some (22, .ifCond .ne 5, 3, 27, 0) := by decide +kernel
theorem f207_25 : aF 25 zM207.2.2.2.2.2.2.2 = some (25, .iconst (-1), 1, 0, 0) := by decide +kernel
theorem f207_26 : aF 26 zM207.2.2.2.2.2.2.2 = some (26, .ireturn, 1, 0, 0) := by decide +kernel
theorem f207_27 : aF 27 zM207.2.2.2.2.2.2.2 = some (27, .aload_n 0, 1, 0, 0) := by decide +kernel
theorem f207_28 : aF 28 zM207.2.2.2.2.2.2.2 = some (28, .getfield 265, 3, 12, 2) := by decide +kernel
theorem f207_31 : aF 31 zM207.2.2.2.2.2.2.2 = some (31, .sipush 150, 3, 0, 0) := by decide +kernel
theorem f207_34 : aF 34 zM207.2.2.2.2.2.2.2 = some (34, .if_icmp .ne 6, 3, 40, 0) := by decide +kernel
theorem f207_40 : aF 40 zM207.2.2.2.2.2.2.2 = some (40, .aload_n 0, 1, 0, 0) := by decide +kernel
theorem f207_41 : aF 41 zM207.2.2.2.2.2.2.2 = some (41, .iload_n 1, 1, 0, 0) := by decide +kernel
theorem f207_42 : aF 42 zM207.2.2.2.2.2.2.2 = some (42, .invokevirtual 276, 3, 204, 0) := by decide +kernel
theorem f207_45 : aF 45 zM207.2.2.2.2.2.2.2 = some (45, .istore_n 3, 1, 0, 0) := by decide +kernel
theorem f207_46 : aF 46 zM207.2.2.2.2.2.2.2 = some (46, .aload_n 0, 1, 0, 0) := by decide +kernel
theorem f207_47 : aF 47 zM207.2.2.2.2.2.2.2 = some (47, .getfield 13, 3, 12, 4) := by decide +kernel
theorem f207_50 : aF 50 zM207.2.2.2.2.2.2.2 = some (50, .iload_n 3, 1, 0, 0) := by decide +kernel
theorem f207_51 : aF 51 zM207.2.2.2.2.2.2.2 = some (51, .iload_n 2, 1, 0, 0) := by decide +kernel
theorem f207_52 : aF 52 zM207.2.2.2.2.2.2.2 = some (52, .iastore, 1, 0, 0) := by decide +kernel
theorem f207_53 : aF 53 zM207.2.2.2.2.2.2.2 = some (53, .iload_n 3, 1, 0, 0) := by decide +kernel
theorem f207_54 : aF 54 zM207.2.2.2.2.2.2.2 = some (54, .ireturn, 1, 0, 0) := by decide +kernel
theorem f208_0 : aF 0 zM208.2.2.2.2.2.2.2 = some (0, .iload_n 1, 1, 0, 0) := by decide +kernel
theorem f208_1 : aF 1 zM208.2.2.2.2.2.2.2 = some (1, .iconst 1, 1, 0, 0) := by decide +kernel
theorem f208_2 : aF 2 zM208.2.2.2.2.2.2.2 = some (2, .sipush 999, 3, 0, 0) := by decide +kernel
theorem f208_5 : aF 5 zM208.2.2.2.2.2.2.2 = some (5, .invokestatic 258, 3, 196, 0) := by decide +kernel
theorem f208_8 : aF 8 zM208.2.2.2.2.2.2.2 = some (8, .ifCond .ne 5, 3, 13, 0) := by decide +kernel
theorem f208_11 : aF 11 zM208.2.2.2.2.2.2.2 = some (11, .iconst (-1), 1, 0, 0) := by decide +kernel
theorem f208_12 : aF 12 zM208.2.2.2.2.2.2.2 = some (12, .ireturn, 1, 0, 0) := by decide +kernel
theorem f208_13 : aF 13 zM208.2.2.2.2.2.2.2 = some (13, .aload_n 0, 1, 0, 0) := by decide +kernel
theorem f208_14 : aF 14 zM208.2.2.2.2.2.2.2 = some (14, .getfield 265, 3, 12, 2) := by decide +kernel
theorem f208_17 : aF 17 zM208.2.2.2.2.2.2.2 = some (17, .sipush 150, 3, 0, 0) := by decide +kernel
theorem f208_20 : aF 20 zM208.2.2.2.2.2.2.2 = some (20, .if_icmp .ne 6, 3, 26, 0) := by decide +kernel
theorem f208_26 : aF 26 zM208.2.2.2.2.2.2.2 = some (26, .aload_n 0, 1, 0, 0) := by decide +kernel
theorem f208_27 : aF 27 zM208.2.2.2.2.2.2.2 = some (27, .bipush 6, 2, 0, 0) := by decide +kernel
theorem f208_29 : aF 29 zM208.2.2.2.2.2.2.2 = some (29, .invokevirtual 276, 3, 204, 0) := by decide +kernel
theorem f208_32 : aF 32 zM208.2.2.2.2.2.2.2 = some (32, .istore_n 2, 1, 0, 0) := by decide +kernel
theorem f208_33 : aF 33 zM208.2.2.2.2.2.2.2 = some (33, .aload_n 0, 1, 0, 0) := by decide +kernel
theorem f208_34 : aF 34 zM208.2.2.2.2.2.2.2 = some (34, .getfield 28, 3, 12, 9) := by decide +kernel
theorem f208_37 : aF 37 zM208.2.2.2.2.2.2.2 = some (37, .iload_n 2, 1, 0, 0) := by decide +kernel
theorem f208_38 : aF 38 zM208.2.2.2.2.2.2.2 = some (38, .iload_n 1, 1, 0, 0) := by decide +kernel
theorem f208_39 : aF 39 zM208.2.2.2.2.2.2.2 = some (39, .iastore, 1, 0, 0) := by decide +kernel
theorem f208_40 : aF 40 zM208.2.2.2.2.2.2.2 = some (40, .iload_n 2, 1, 0, 0) := by decide +kernel
theorem f208_41 : aF 41 zM208.2.2.2.2.2.2.2 = some (41, .ireturn, 1, 0, 0) := by decide +kernel
theorem f209_0 : aF 0 zM209.2.2.2.2.2.2.2 = some (0, .iload_n 1, 1, 0, 0) := by decide +kernel
theorem f209_1 : aF 1 zM209.2.2.2.2.2.2.2 = some (1, .iconst 0, 1, 0, 0) := by decide +kernel
theorem f209_2 : aF 2 zM209.2.2.2.2.2.2.2 = some (2, .bipush 24, 2, 0, 0) := by decide +kernel
theorem f209_4 : aF 4 zM209.2.2.2.2.2.2.2 = some (4, .invokestatic 258, 3, 196, 0) := by decide +kernel
theorem f209_7 : aF 7 zM209.2.2.2.2.2.2.2 = some (7, .ifCond .eq 13, 3, 20, 0) := by decide +kernel
theorem f209_10 : aF 10 zM209.2.2.2.2.2.2.2 = some (10, .iload_n 2, 1, 0, 0) := by decide +kernel
theorem f209_11 : aF 11 zM209.2.2.2.2.2.2.2 = some (11, .iconst 0, 1, 0, 0) := by decide +kernel
theorem f209_12 : aF 12 zM209.2.2.2.2.2.2.2 = some (12, .bipush 24, 2, 0, 0) := by decide +kernel
theorem f209_14 : aF 14 zM209.2.2.2.2.2.2.2 = some (14, .invokestatic 258, 3, 196, 0) := by decide +kernel
theorem f209_17 : aF 17 zM209.2.2.2.2.2.2.2 = some (17, .ifCond .ne 5, 3, 22, 0) := by decide +kernel
theorem f209_20 : aF 20 zM209.2.2.2.2.2.2.2 = some (20, .iconst (-1), 1, 0, 0) := by decide +kernel
theorem f209_21 : aF 21 zM209.2.2.2.2.2.2.2 = some (21, .ireturn, 1, 0, 0) := by decide +kernel
theorem f209_22 : aF 22 zM209.2.2.2.2.2.2.2 = some (22, .aload_n 0, 1, 0, 0) := by decide +kernel
theorem f209_23 : aF 23 zM209.2.2.2.2.2.2.2 = some (23, .getfield 283, 3, 12, 11) := by decide +kernel
theorem f209_26 : aF 26 zM209.2.2.2.2.2.2.2 = some (26, .bipush 12, 2, 0, 0) := by decide +kernel
theorem f209_28 : aF 28 zM209.2.2.2.2.2.2.2 = some (28, .if_icmp .ne 6, 3, 34, 0) := by decide +kernel
theorem f209_34 : aF 34 zM209.2.2.2.2.2.2.2 = some (34, .aload_n 0, 1, 0, 0) := by decide +kernel
theorem f209_35 : aF 35 zM209.2.2.2.2.2.2.2 = some (35, .getfield 34, 3, 12, 12) := by decide +kernel
theorem f209_38 : aF 38 zM209.2.2.2.2.2.2.2 = some (38, .aload_n 0, 1, 0, 0) := by decide +kernel
theorem f209_39 : aF 39 zM209.2.2.2.2.2.2.2 = some (39, .getfield 283, 3, 12, 11) := by decide +kernel
theorem f209_42 : aF 42 zM209.2.2.2.2.2.2.2 = some (42, .iload_n 1, 1, 0, 0) := by decide +kernel
theorem f209_43 : aF 43 zM209.2.2.2.2.2.2.2 = some (43, .iastore, 1, 0, 0) := by decide +kernel
theorem f209_44 : aF 44 zM209.2.2.2.2.2.2.2 = some (44, .aload_n 0, 1, 0, 0) := by decide +kernel
theorem f209_45 : aF 45 zM209.2.2.2.2.2.2.2 = some (45, .getfield 37, 3, 12, 13) := by decide +kernel
theorem f209_48 : aF 48 zM209.2.2.2.2.2.2.2 = some (48, .aload_n 0, 1, 0, 0) := by decide +kernel
theorem f209_49 : aF 49 zM209.2.2.2.2.2.2.2 = some (49, .getfield 283, 3, 12, 11) := by decide +kernel
theorem f209_52 : aF 52 zM209.2.2.2.2.2.2.2 = some (52, .iload_n 2, 1, 0, 0) := by decide +kernel
theorem f209_53 : aF 53 zM209.2.2.2.2.2.2.2 = some (53, .iastore, 1, 0, 0) := by decide +kernel
theorem f209_54 : aF 54 zM209.2.2.2.2.2.2.2 = some (54, .aload_n 0, 1, 0, 0) := by decide +kernel
theorem f209_55 : aF 55 zM209.2.2.2.2.2.2.2 = some (55, .dup, 1, 0, 0) := by decide +kernel
theorem f209_56 : aF 56 zM209.2.2.2.2.2.2.2 = some (56, .getfield 283, 3, 12, 11) := by decide +kernel
theorem f209_59 : aF 59 zM209.2.2.2.2.2.2.2 = some (59, .iconst 1, 1, 0, 0) := by decide +kernel
theorem f209_60 : aF 60 zM209.2.2.2.2.2.2.2 = some (60, .iadd, 1, 0, 0) := by decide +kernel
theorem f209_61 : aF 61 zM209.2.2.2.2.2.2.2 = some (61, .putfield 283, 3, 12, 11) := by decide +kernel
theorem f209_64 : aF 64 zM209.2.2.2.2.2.2.2 = some (64, .aload_n 0, 1, 0, 0) := by decide +kernel
theorem f209_65 : aF 65 zM209.2.2.2.2.2.2.2 = some (65, .getfield 283, 3, 12, 11) := by decide +kernel
theorem f209_68 : aF 68 zM209.2.2.2.2.2.2.2 = some (68, .ireturn, 1, 0, 0) := by decide +kernel
theorem f210_0 : aF 0 zM210.2.2.2.2.2.2.2 = some (0, .aload_n 0, 1, 0, 0) := by decide +kernel
theorem f210_1 : aF 1 zM210.2.2.2.2.2.2.2 = some (1, .getfield 283, 3, 12, 11) := by decide +kernel
theorem f210_4 : aF 4 zM210.2.2.2.2.2.2.2 = some (4, .istore_n 1, 1, 0, 0) := by decide +kernel
theorem f210_5 : aF 5 zM210.2.2.2.2.2.2.2 = some (5, .aload_n 0, 1, 0, 0) := by decide +kernel
theorem f210_6 : aF 6 zM210.2.2.2.2.2.2.2 = some (6, .iconst 0, 1, 0, 0) := by decide +kernel
theorem f210_7 : aF 7 zM210.2.2.2.2.2.2.2 = some (7, .putfield 283, 3, 12, 11) := by decide +kernel
theorem f210_10 : aF 10 zM210.2.2.2.2.2.2.2 = some (10, .iload_n 1, 1, 0, 0) := by decide +kernel
theorem f210_11 : aF 11 zM210.2.2.2.2.2.2.2 = some (11, .ireturn, 1, 0, 0) := by decide +kernel
theorem f218_0 : aF 0 zM218.2.2.2.2.2.2.2 = some (0, .aload_n 0, 1, 0, 0) := by decide +kernel
theorem f218_1 : aF 1 zM218.2.2.2.2.2.2.2 = some (1, .getfield 283, 3, 12, 11) := by decide +kernel
theorem f218_4 : aF 4 zM218.2.2.2.2.2.2.2 = some (4, .iconst 4, 1, 0, 0) := by decide +kernel
theorem f218_5 : aF 5 zM218.2.2.2.2.2.2.2 = some (5, .if_icmp .lt 13, 3, 18, 0) := by decide +kernel
theorem f218_18 : aF 18 zM218.2.2.2.2.2.2.2 = some (18, .iconst 0, 1, 0, 0) := by decide +kernel
theorem f218_19 : aF 19 zM218.2.2.2.2.2.2.2 = some (19, .ireturn, 1, 0, 0) := by decide +kernel
theorem f220_0 : aF 0 zM220.2.2.2.2.2.2.2 = some (0, .aload_n 0, 1, 0, 0) := by decide +kernel
theorem f220_1 : aF 1 zM220.2.2.2.2.2.2.2 = some (1, .invokevirtual 308, 3, 218, 0) := by decide +kernel
theorem f220_4 : aF 4 zM220.2.2.2.2.2.2.2 = some (4, .ifCond .eq 10, 3, 14, 0) := by decide +kernel
theorem f220_14 : aF 14 zM220.2.2.2.2.2.2.2 = some (14, .bipush (-2), 2, 0, 0) := by decide +kernel
theorem f220_16 : aF 16 zM220.2.2.2.2.2.2.2 = some (16, .ireturn, 1, 0, 0) := by decide +kernel
theorem f222_0 : aF 0 zM222.2.2.2.2.2.2.2 = some (0, .aload_n 0, 1, 0, 0) := by decide +kernel
theorem f222_1 : aF 1 zM222.2.2.2.2.2.2.2 = some (1, .iload_n 1, 1, 0, 0) := by decide +kernel
theorem f222_2 : aF 2 zM222.2.2.2.2.2.2.2 = some (2, .invokevirtual 316, 3, 202, 0) := by decide +kernel
theorem f222_5 : aF 5 zM222.2.2.2.2.2.2.2 = some (5, .ifCond .eq 12, 3, 17, 0) := by decide +kernel
theorem f222_17 : aF 17 zM222.2.2.2.2.2.2.2 = some (17, .iconst (-1), 1, 0, 0) := by decide +kernel
theorem f222_18 : aF 18 zM222.2.2.2.2.2.2.2 = some (18, .ireturn, 1, 0, 0) := by decide +kernel
theorem f223_0 : aF 0 zM223.2.2.2.2.2.2.2 = some (0, .aload_n 0, 1, 0, 0) := by decide +kernel
theorem f223_1 : aF 1 zM223.2.2.2.2.2.2.2 = some (1, .iload_n 1, 1, 0, 0) := by decide +kernel
theorem f223_2 : aF 2 zM223.2.2.2.2.2.2.2 = some (2, .invokevirtual 322, 3, 203, 0) := by decide +kernel
theorem f223_5 : aF 5 zM223.2.2.2.2.2.2.2 = some (5, .ifCond .eq 23, 3, 28, 0) := by decide +kernel
theorem f223_28 : aF 28 zM223.2.2.2.2.2.2.2 = some (28, .iconst (-1), 1, 0, 0) := by decide +kernel
theorem f223_29 : aF 29 zM223.2.2.2.2.2.2.2 = some (29, .goto 18, 3, 47, 0) := by decide +kernel
theorem f223_47 : aF 47 zM223.2.2.2.2.2.2.2 = some (47, .ireturn, 1, 0, 0) := by decide +kernel
theorem f224_0 : aF 0 zM224.2.2.2.2.2.2.2 = some (0, .aload_n 0, 1, 0, 0) := by decide +kernel
theorem f224_1 : aF 1 zM224.2.2.2.2.2.2.2 = some (1, .iload_n 1, 1, 0, 0) := by decide +kernel
theorem f224_2 : aF 2 zM224.2.2.2.2.2.2.2 = some (2, .invokevirtual 322, 3, 203, 0) := by decide +kernel
theorem f224_5 : aF 5 zM224.2.2.2.2.2.2.2 = some (5, .ifCond .ne 5, 3, 10, 0) := by decide +kernel
theorem f224_8 : aF 8 zM224.2.2.2.2.2.2.2 = some (8, .iconst (-1), 1, 0, 0) := by decide +kernel
theorem f224_9 : aF 9 zM224.2.2.2.2.2.2.2 = some (9, .ireturn, 1, 0, 0) := by decide +kernel
theorem f225_0 : aF 0 zM225.2.2.2.2.2.2.2 = some (0, .aload_n 0, 1, 0, 0) := by decide +kernel
theorem f225_1 : aF 1 zM225.2.2.2.2.2.2.2 = some (1, .iload_n 1, 1, 0, 0) := by decide +kernel
theorem f225_2 : aF 2 zM225.2.2.2.2.2.2.2 = some (2, .invokevirtual 268, 3, 200, 0) := by decide +kernel
theorem f225_5 : aF 5 zM225.2.2.2.2.2.2.2 = some (5, .ifCond .eq 37, 3, 42, 0) := by decide +kernel
theorem f225_42 : aF 42 zM225.2.2.2.2.2.2.2 = some (42, .iconst (-1), 1, 0, 0) := by decide +kernel
theorem f225_43 : aF 43 zM225.2.2.2.2.2.2.2 = some (43, .ireturn, 1, 0, 0) := by decide +kernel
theorem f227_0 : aF 0 zM227.2.2.2.2.2.2.2 = some (0, .aload_n 0, 1, 0, 0) := by decide +kernel
theorem f227_1 : aF 1 zM227.2.2.2.2.2.2.2 = some (1, .iload_n 1, 1, 0, 0) := by decide +kernel
theorem f227_2 : aF 2 zM227.2.2.2.2.2.2.2 = some (2, .invokevirtual 268, 3, 200, 0) := by decide +kernel
theorem f227_5 : aF 5 zM227.2.2.2.2.2.2.2 = some (5, .ifCond .eq 36, 3, 41, 0) := by decide +kernel
theorem f227_41 : aF 41 zM227.2.2.2.2.2.2.2 = some (41, .iconst (-1), 1, 0, 0) := by decide +kernel
theorem f227_42 : aF 42 zM227.2.2.2.2.2.2.2 = some (42, .ireturn, 1, 0, 0) := by decide +kernel
theorem f228_0 : aF 0 zM228.2.2.2.2.2.2.2 = some (0, .aload_n 0, 1, 0, 0) := by decide +kernel
theorem f228_1 : aF 1 zM228.2.2.2.2.2.2.2 = some (1, .iload_n 1, 1, 0, 0) := by decide +kernel
theorem f228_2 : aF 2 zM228.2.2.2.2.2.2.2 = some (2, .invokevirtual 268, 3, 200, 0) := by decide +kernel
theorem f228_5 : aF 5 zM228.2.2.2.2.2.2.2 = some (5, .ifCond .ne 7, 3, 12, 0) := by decide +kernel
theorem f228_8 : aF 8 zM228.2.2.2.2.2.2.2 = some (8, .ldc_w 335, 3, 2294967296, 0) := by decide +kernel
theorem f228_11 : aF 11 zM228.2.2.2.2.2.2.2 = some (11, .ireturn, 1, 0, 0) := by decide +kernel
theorem f230_0 : aF 0 zM230.2.2.2.2.2.2.2 = some (0, .aload_n 0, 1, 0, 0) := by decide +kernel
theorem f230_1 : aF 1 zM230.2.2.2.2.2.2.2 = some (1, .iload_n 1, 1, 0, 0) := by decide +kernel
theorem f230_2 : aF 2 zM230.2.2.2.2.2.2.2 = some (2, .invokevirtual 316, 3, 202, 0) := by decide +kernel
theorem f230_5 : aF 5 zM230.2.2.2.2.2.2.2 = some (5, .ifCond .eq 35, 3, 40, 0) := by decide +kernel
theorem f230_40 : aF 40 zM230.2.2.2.2.2.2.2 = some (40, .iconst (-1), 1, 0, 0) := by decide +kernel
theorem f230_41 : aF 41 zM230.2.2.2.2.2.2.2 = some (41, .ireturn, 1, 0, 0) := by decide +kernel
theorem f231_0 : aF 0 zM231.2.2.2.2.2.2.2 = some (0, .iload_n 1, 1, 0, 0) := by decide +kernel
theorem f231_1 : aF 1 zM231.2.2.2.2.2.2.2 = some (1, .invokestatic 280, 3, 206, 0) := by decide +kernel
theorem f231_4 : aF 4 zM231.2.2.2.2.2.2.2 = some (4, .ifCond .eq 14, 3, 18, 0) := by decide +kernel
theorem f231_7 : aF 7 zM231.2.2.2.2.2.2.2 = some (7, .iload_n 2, 1, 0, 0) := by decide +kernel
theorem f231_8 : aF 8 zM231.2.2.2.2.2.2.2 = some (8, .iconst 0, 1, 0, 0) := by decide +kernel
theorem f231_9 : aF 9 zM231.2.2.2.2.2.2.2 = some (9, .sipush 364, 3, 0, 0) := by decide +kernel
theorem f231_12 : aF 12 zM231.2.2.2.2.2.2.2 = some (12, .invokestatic 258, 3, 196, 0) := by decide +kernel
theorem f231_15 : aF 15 zM231.2.2.2.2.2.2.2 = some (15, .ifCond .ne 5, 3, 20, 0) := by decide +kernel
theorem f231_18 : aF 18 zM231.2.2.2.2.2.2.2 = some (18, .iconst (-1), 1, 0, 0) := by decide +kernel
theorem f231_19 : aF 19 zM231.2.2.2.2.2.2.2 = some (19, .ireturn, 1, 0, 0) := by decide +kernel
theorem f231_20 : aF 20 zM231.2.2.2.2.2.2.2 = some (20, .aload_n 0, 1, 0, 0) := by decide +kernel
theorem f231_21 : aF 21 zM231.2.2.2.2.2.2.2 = some (21, .getfield 64, 3, 12, 24) := by decide +kernel
theorem f231_24 : aF 24 zM231.2.2.2.2.2.2.2 = some (24, .iload_n 1, 1, 0, 0) := by decide +kernel
theorem f231_25 : aF 25 zM231.2.2.2.2.2.2.2 = some (25, .iaload, 1, 0, 0) := by decide +kernel
theorem f231_26 : aF 26 zM231.2.2.2.2.2.2.2 = some (26, .istore_n 3, 1, 0, 0) := by decide +kernel
theorem f231_27 : aF 27 zM231.2.2.2.2.2.2.2 = some (27, .aload_n 0, 1, 0, 0) := by decide +kernel
theorem f231_28 : aF 28 zM231.2.2.2.2.2.2.2 = some (28, .getfield 64, 3, 12, 24) := by decide +kernel
theorem f231_31 : aF 31 zM231.2.2.2.2.2.2.2 = some (31, .iload_n 1, 1, 0, 0) := by decide +kernel
theorem f231_32 : aF 32 zM231.2.2.2.2.2.2.2 = some (32, .iload_n 2, 1, 0, 0) := by decide +kernel
theorem f231_33 : aF 33 zM231.2.2.2.2.2.2.2 = some (33, .iastore, 1, 0, 0) := by decide +kernel
theorem f231_34 : aF 34 zM231.2.2.2.2.2.2.2 = some (34, .iload_n 3, 1, 0, 0) := by decide +kernel
theorem f231_35 : aF 35 zM231.2.2.2.2.2.2.2 = some (35, .ireturn, 1, 0, 0) := by decide +kernel
theorem f232_0 : aF 0 zM232.2.2.2.2.2.2.2 = some (0, .iload_n 1, 1, 0, 0) := by decide +kernel
theorem f232_1 : aF 1 zM232.2.2.2.2.2.2.2 = some (1, .ifCond .lt 72, 3, 73, 0) := by decide +kernel
theorem f232_4 : aF 4 zM232.2.2.2.2.2.2.2 = some (4, .iload_n 2, 1, 0, 0) := by decide +kernel
theorem f232_5 : aF 5 zM232.2.2.2.2.2.2.2 = some (5, .ifCond .lt 68, 3, 73, 0) := by decide +kernel
theorem f232_8 : aF 8 zM232.2.2.2.2.2.2.2 = some (8, .iload_n 1, 1, 0, 0) := by decide +kernel
theorem f232_9 : aF 9 zM232.2.2.2.2.2.2.2 = some (9, .bipush 100, 2, 0, 0) := by decide +kernel
theorem f232_11 : aF 11 zM232.2.2.2.2.2.2.2 = some (11, .idiv, 1, 0, 0) := by decide +kernel
theorem f232_12 : aF 12 zM232.2.2.2.2.2.2.2 = some (12, .iconst 0, 1, 0, 0) := by decide +kernel
theorem f232_13 : aF 13 zM232.2.2.2.2.2.2.2 = some (13, .bipush 23, 2, 0, 0) := by decide +kernel
theorem f232_15 : aF 15 zM232.2.2.2.2.2.2.2 = some (15, .invokestatic 258, 3, 196, 0) := by decide +kernel
theorem f232_18 : aF 18 zM232.2.2.2.2.2.2.2 = some (18, .ifCond .eq 55, 3, 73, 0) := by decide +kernel
theorem f232_21 : aF 21 zM232.2.2.2.2.2.2.2 = some (21, .iload_n 1, 1, 0, 0) := by decide +kernel
theorem f232_22 : aF 22 zM232.2.2.2.2.2.2.2 = some (22, .bipush 100, 2, 0, 0) := by decide +kernel
theorem f232_24 : aF 24 zM232.2.2.2.2.2.2.2 = some (24, .irem, 1, 0, 0) := by decide +kernel
theorem f232_25 : aF 25 zM232.2.2.2.2.2.2.2 = some (25, .iconst 0, 1, 0, 0) := by decide +kernel
theorem f232_26 : aF 26 zM232.2.2.2.2.2.2.2 = some (26, .bipush 23, 2, 0, 0) := by decide +kernel
theorem f232_28 : aF 28 zM232.2.2.2.2.2.2.2 = some (28, .invokestatic 258, 3, 196, 0) := by decide +kernel
theorem f232_31 : aF 31 zM232.2.2.2.2.2.2.2 = some (31, .ifCond .eq 42, 3, 73, 0) := by decide +kernel
theorem f232_34 : aF 34 zM232.2.2.2.2.2.2.2 = some (34, .iload_n 2, 1, 0, 0) := by decide +kernel
theorem f232_35 : aF 35 zM232.2.2.2.2.2.2.2 = some (35, .bipush 100, 2, 0, 0) := by decide +kernel
theorem f232_37 : aF 37 zM232.2.2.2.2.2.2.2 = some (37, .idiv, 1, 0, 0) := by decide +kernel
theorem f232_38 : aF 38 zM232.2.2.2.2.2.2.2 = some (38, .iload_n 1, 1, 0, 0) := by decide +kernel
theorem f232_39 : aF 39 zM232.2.2.2.2.2.2.2 = some (39, .bipush 100, 2, 0, 0) := by decide +kernel
theorem f232_41 : aF 41 zM232.2.2.2.2.2.2.2 = some (41, .idiv, 1, 0, 0) := by decide +kernel
theorem f232_42 : aF 42 zM232.2.2.2.2.2.2.2 = some (42, .bipush 23, 2, 0, 0) := by decide +kernel
theorem f232_44 : aF 44 zM232.2.2.2.2.2.2.2 = some (44, .invokestatic 258, 3, 196, 0) := by decide +kernel
theorem f232_47 : aF 47 zM232.2.2.2.2.2.2.2 = some (47, .ifCond .eq 26, 3, 73, 0) := by decide +kernel
theorem f232_50 : aF 50 zM232.2.2.2.2.2.2.2 = some (50, .iload_n 2, 1, 0, 0) := by decide +kernel
theorem f232_51 : aF 51 zM232.2.2.2.2.2.2.2 = some (51, .bipush 100, 2, 0, 0) := by decide +kernel
theorem f232_53 : aF 53 zM232.2.2.2.2.2.2.2 = some (53, .irem, 1, 0, 0) := by decide +kernel
theorem f232_54 : aF 54 zM232.2.2.2.2.2.2.2 = some (54, .iload_n 1, 1, 0, 0) := by decide +kernel
theorem f232_55 : aF 55 zM232.2.2.2.2.2.2.2 = some (55, .bipush 100, 2, 0, 0) := by decide +kernel
theorem f232_57 : aF 57 zM232.2.2.2.2.2.2.2 = some (57, .irem, 1, 0, 0) := by decide +kernel
theorem f232_58 : aF 58 zM232.2.2.2.2.2.2.2 = some (58, .bipush 23, 2, 0, 0) := by decide +kernel
theorem f232_60 : aF 60 zM232.2.2.2.2.2.2.2 = some (60, .invokestatic 258, 3, 196, 0) := by decide +kernel
theorem f232_63 : aF 63 zM232.2.2.2.2.2.2.2 = some (63, .ifCond .eq 10, 3, 73, 0) := by decide +kernel
theorem f232_66 : aF 66 zM232.2.2.2.2.2.2.2 = some (66, .iload_n 3, 1, 0, 0) := by decide +kernel
theorem f232_67 : aF 67 zM232.2.2.2.2.2.2.2 = some (67, .invokestatic 325, 3, 197, 0) := by decide +kernel
theorem f232_70 : aF 70 zM232.2.2.2.2.2.2.2 = some (70, .ifCond .ne 5, 3, 75, 0) := by decide +kernel
theorem f232_73 : aF 73 zM232.2.2.2.2.2.2.2 = some (73, .iconst (-1), 1, 0, 0) := by decide +kernel
theorem f232_74 : aF 74 zM232.2.2.2.2.2.2.2 = some (74, .ireturn, 1, 0, 0) := by decide +kernel
theorem f232_75 : aF 75 zM232.2.2.2.2.2.2.2 = some (75, .aload_n 0, 1, 0, 0) := by decide +kernel
theorem f232_76 : aF 76 zM232.2.2.2.2.2.2.2 = some (76, .getfield 339, 3, 12, 25) := by decide +kernel
theorem f232_79 : aF 79 zM232.2.2.2.2.2.2.2 = some (79, .bipush 40, 2, 0, 0) := by decide +kernel
theorem f232_81 : aF 81 zM232.2.2.2.2.2.2.2 = some (81, .if_icmp .ne 6, 3, 87, 0) := by decide +kernel
theorem f232_87 : aF 87 zM232.2.2.2.2.2.2.2 = some (87, .aload_n 0, 1, 0, 0) := by decide +kernel
theorem f232_88 : aF 88 zM232.2.2.2.2.2.2.2 = some (88, .getfield 67, 3, 12, 26) := by decide +kernel
theorem f232_91 : aF 91 zM232.2.2.2.2.2.2.2 = some (91, .aload_n 0, 1, 0, 0) := by decide +kernel
theorem f232_92 : aF 92 zM232.2.2.2.2.2.2.2 = some (92, .getfield 339, 3, 12, 25) := by decide +kernel
theorem f232_95 : aF 95 zM232.2.2.2.2.2.2.2 = some (95, .iload_n 1, 1, 0, 0) := by decide +kernel
theorem f232_96 : aF 96 zM232.2.2.2.2.2.2.2 = some (96, .bipush 100, 2, 0, 0) := by decide +kernel
theorem f232_98 : aF 98 zM232.2.2.2.2.2.2.2 = some (98, .idiv, 1, 0, 0) := by decide +kernel
theorem f232_99 : aF 99 zM232.2.2.2.2.2.2.2 = some (99, .iastore, 1, 0, 0) := by decide +kernel
theorem f232_100 : aF 100 zM232.2.2.2.2.2.2.2 = some (100, .aload_n 0, 1, 0, 0) := by decide +kernel
theorem f232_101 : aF 101 zM232.2.2.2.2.2.2.2 = some (101, .getfield 70, 3, 12, 27) := by decide +kernel
theorem f232_104 : aF 104 zM232.2.2.2.2.2.2.2 = some (104, .aload_n 0, 1, 0, 0) := by decide +kernel
theorem f232_105 : aF 105 zM232.2.2.2.2.2.2.2 = some (105, .getfield 339, 3, 12, 25) := by decide +kernel
theorem f232_108 : aF 108 zM232.2.2.2.2.2.2.2 = some (108, .iload_n 1, 1, 0, 0) := by decide +kernel
theorem f232_109 : aF 109 zM232.2.2.2.2.2.2.2 = some (109, .bipush 100, 2, 0, 0) := by decide +kernel
theorem f232_111 : aF 111 zM232.2.2.2.2.2.2.2 = some (111, .irem, 1, 0, 0) := by decide +kernel
theorem f232_112 : aF 112 zM232.2.2.2.2.2.2.2 = some (112, .iastore, 1, 0, 0) := by decide +kernel
theorem f232_113 : aF 113 zM232.2.2.2.2.2.2.2 = some (113, .aload_n 0, 1, 0, 0) := by decide +kernel
theorem f232_114 : aF 114 zM232.2.2.2.2.2.2.2 = some (114, .getfield 73, 3, 12, 28) := by decide +kernel
theorem f232_117 : aF 117 zM232.2.2.2.2.2.2.2 = some (117, .aload_n 0, 1, 0, 0) := by decide +kernel
theorem f232_118 : aF 118 zM232.2.2.2.2.2.2.2 = some (118, .getfield 339, 3, 12, 25) := by decide +kernel
theorem f232_121 : aF 121 zM232.2.2.2.2.2.2.2 = some (121, .iload_n 2, 1, 0, 0) := by decide +kernel
theorem f232_122 : aF 122 zM232.2.2.2.2.2.2.2 = some (122, .bipush 100, 2, 0, 0) := by decide +kernel
theorem f232_124 : aF 124 zM232.2.2.2.2.2.2.2 = some (124, .idiv, 1, 0, 0) := by decide +kernel
theorem f232_125 : aF 125 zM232.2.2.2.2.2.2.2 = some (125, .iastore, 1, 0, 0) := by decide +kernel
theorem f232_126 : aF 126 zM232.2.2.2.2.2.2.2 = some (126, .aload_n 0, 1, 0, 0) := by decide +kernel
theorem f232_127 : aF 127 zM232.2.2.2.2.2.2.2 = some (127, .getfield 76, 3, 12, 29) := by decide +kernel
theorem f232_130 : aF 130 zM232.2.2.2.2.2.2.2 = some (130, .aload_n 0, 1, 0, 0) := by decide +kernel
theorem f232_131 : aF 131 zM232.2.2.2.2.2.2.2 = some (131, .getfield 339, 3, 12, 25) := by decide +kernel
theorem f232_134 : aF 134 zM232.2.2.2.2.2.2.2 = some (134, .iload_n 2, 1, 0, 0) := by decide +kernel
theorem f232_135 : aF 135 zM232.2.2.2.2.2.2.2 = some (135, .bipush 100, 2, 0, 0) := by decide +kernel
theorem f232_137 : aF 137 zM232.2.2.2.2.2.2.2 = some (137, .irem, 1, 0, 0) := by decide +kernel
theorem f232_138 : aF 138 zM232.2.2.2.2.2.2.2 = some (138, .iastore, 1, 0, 0) := by decide +kernel
theorem f232_139 : aF 139 zM232.2.2.2.2.2.2.2 = some (139, .aload_n 0, 1, 0, 0) := by decide +kernel
theorem f232_140 : aF 140 zM232.2.2.2.2.2.2.2 = some (140, .getfield 79, 3, 12, 30) := by decide +kernel
theorem f232_143 : aF 143 zM232.2.2.2.2.2.2.2 = some (143, .aload_n 0, 1, 0, 0) := by decide +kernel
theorem f232_144 : aF 144 zM232.2.2.2.2.2.2.2 = some (144, .getfield 339, 3, 12, 25) := by decide +kernel
theorem f232_147 : aF 147 zM232.2.2.2.2.2.2.2 = some (147, .iload_n 3, 1, 0, 0) := by decide +kernel
theorem f232_148 : aF 148 zM232.2.2.2.2.2.2.2 = some (148, .iastore, 1, 0, 0) := by decide +kernel
theorem f232_149 : aF 149 zM232.2.2.2.2.2.2.2 = some (149, .aload_n 0, 1, 0, 0) := by decide +kernel
theorem f232_150 : aF 150 zM232.2.2.2.2.2.2.2 = some (150, .getfield 82, 3, 12, 31) := by decide +kernel
theorem f232_153 : aF 153 zM232.2.2.2.2.2.2.2 = some (153, .aload_n 0, 1, 0, 0) := by decide +kernel
theorem f232_154 : aF 154 zM232.2.2.2.2.2.2.2 = some (154, .getfield 339, 3, 12, 25) := by decide +kernel
theorem f232_157 : aF 157 zM232.2.2.2.2.2.2.2 = some (157, .aload_n 0, 1, 0, 0) := by decide +kernel
theorem f232_158 : aF 158 zM232.2.2.2.2.2.2.2 = some (158, .getfield 262, 3, 12, 1) := by decide +kernel
theorem f232_161 : aF 161 zM232.2.2.2.2.2.2.2 = some (161, .iastore, 1, 0, 0) := by decide +kernel
theorem f232_162 : aF 162 zM232.2.2.2.2.2.2.2 = some (162, .aload_n 0, 1, 0, 0) := by decide +kernel
theorem f232_163 : aF 163 zM232.2.2.2.2.2.2.2 = some (163, .dup, 1, 0, 0) := by decide +kernel
theorem f232_164 : aF 164 zM232.2.2.2.2.2.2.2 = some (164, .getfield 339, 3, 12, 25) := by decide +kernel
theorem f232_167 : aF 167 zM232.2.2.2.2.2.2.2 = some (167, .iconst 1, 1, 0, 0) := by decide +kernel
theorem f232_168 : aF 168 zM232.2.2.2.2.2.2.2 = some (168, .iadd, 1, 0, 0) := by decide +kernel
theorem f232_169 : aF 169 zM232.2.2.2.2.2.2.2 = some (169, .putfield 339, 3, 12, 25) := by decide +kernel
theorem f232_172 : aF 172 zM232.2.2.2.2.2.2.2 = some (172, .aload_n 0, 1, 0, 0) := by decide +kernel
theorem f232_173 : aF 173 zM232.2.2.2.2.2.2.2 = some (173, .iconst 1, 1, 0, 0) := by decide +kernel
theorem f232_174 : aF 174 zM232.2.2.2.2.2.2.2 = some (174, .putfield 100, 3, 12, 38) := by decide +kernel
theorem f232_177 : aF 177 zM232.2.2.2.2.2.2.2 = some (177, .aload_n 0, 1, 0, 0) := by decide +kernel
theorem f232_178 : aF 178 zM232.2.2.2.2.2.2.2 = some (178, .getfield 339, 3, 12, 25) := by decide +kernel
theorem f232_181 : aF 181 zM232.2.2.2.2.2.2.2 = some (181, .ireturn, 1, 0, 0) := by decide +kernel
theorem f242_0 : aF 0 zM242.2.2.2.2.2.2.2 = some (0, .aload_n 0, 1, 0, 0) := by decide +kernel
theorem f242_1 : aF 1 zM242.2.2.2.2.2.2.2 = some (1, .iload_n 1, 1, 0, 0) := by decide +kernel
theorem f242_2 : aF 2 zM242.2.2.2.2.2.2.2 = some (2, .invokevirtual 316, 3, 202, 0) := by decide +kernel
theorem f242_5 : aF 5 zM242.2.2.2.2.2.2.2 = some (5, .ifCond .eq 36, 3, 41, 0) := by decide +kernel
theorem f242_41 : aF 41 zM242.2.2.2.2.2.2.2 = some (41, .iconst (-1), 1, 0, 0) := by decide +kernel
theorem f242_42 : aF 42 zM242.2.2.2.2.2.2.2 = some (42, .ireturn, 1, 0, 0) := by decide +kernel
theorem f243_0 : aF 0 zM243.2.2.2.2.2.2.2 = some (0, .aload_n 0, 1, 0, 0) := by decide +kernel
theorem f243_1 : aF 1 zM243.2.2.2.2.2.2.2 = some (1, .iload_n 1, 1, 0, 0) := by decide +kernel
theorem f243_2 : aF 2 zM243.2.2.2.2.2.2.2 = some (2, .invokevirtual 316, 3, 202, 0) := by decide +kernel
theorem f243_5 : aF 5 zM243.2.2.2.2.2.2.2 = some (5, .ifCond .eq 30, 3, 35, 0) := by decide +kernel
theorem f243_35 : aF 35 zM243.2.2.2.2.2.2.2 = some (35, .iconst (-1), 1, 0, 0) := by decide +kernel
theorem f243_36 : aF 36 zM243.2.2.2.2.2.2.2 = some (36, .ireturn, 1, 0, 0) := by decide +kernel
theorem f244_0 : aF 0 zM244.2.2.2.2.2.2.2 = some (0, .aload_n 0, 1, 0, 0) := by decide +kernel
theorem f244_1 : aF 1 zM244.2.2.2.2.2.2.2 = some (1, .iload_n 1, 1, 0, 0) := by decide +kernel
theorem f244_2 : aF 2 zM244.2.2.2.2.2.2.2 = some (2, .invokevirtual 316, 3, 202, 0) := by decide +kernel
theorem f244_5 : aF 5 zM244.2.2.2.2.2.2.2 = some (5, .ifCond .eq 10, 3, 15, 0) := by decide +kernel
theorem f244_15 : aF 15 zM244.2.2.2.2.2.2.2 = some (15, .iconst (-1), 1, 0, 0) := by decide +kernel
theorem f244_16 : aF 16 zM244.2.2.2.2.2.2.2 = some (16, .ireturn, 1, 0, 0) := by decide +kernel
theorem f245_0 : aF 0 zM245.2.2.2.2.2.2.2 = some (0, .iload_n 1, 1, 0, 0) := by decide +kernel
theorem f245_1 : aF 1 zM245.2.2.2.2.2.2.2 = some (1, .iconst 0, 1, 0, 0) := by decide +kernel
theorem f245_2 : aF 2 zM245.2.2.2.2.2.2.2 = some (2, .bipush 7, 2, 0, 0) := by decide +kernel
theorem f245_4 : aF 4 zM245.2.2.2.2.2.2.2 = some (4, .invokestatic 258, 3, 196, 0) := by decide +kernel
theorem f245_7 : aF 7 zM245.2.2.2.2.2.2.2 = some (7, .ifCond .eq 22, 3, 29, 0) := by decide +kernel
theorem f245_10 : aF 10 zM245.2.2.2.2.2.2.2 = some (10, .iload_n 2, 1, 0, 0) := by decide +kernel
theorem f245_11 : aF 11 zM245.2.2.2.2.2.2.2 = some (11, .iconst 0, 1, 0, 0) := by decide +kernel
theorem f245_12 : aF 12 zM245.2.2.2.2.2.2.2 = some (12, .iconst 5, 1, 0, 0) := by decide +kernel
theorem f245_13 : aF 13 zM245.2.2.2.2.2.2.2 = some (13, .invokestatic 258, 3, 196, 0) := by decide +kernel
theorem f245_16 : aF 16 zM245.2.2.2.2.2.2.2 = some (16, .ifCond .eq 13, 3, 29, 0) := by decide +kernel
theorem f245_19 : aF 19 zM245.2.2.2.2.2.2.2 = some (19, .iload_n 3, 1, 0, 0) := by decide +kernel
theorem f245_20 : aF 20 zM245.2.2.2.2.2.2.2 = some (20, .iconst 0, 1, 0, 0) := by decide +kernel
theorem f245_21 : aF 21 zM245.2.2.2.2.2.2.2 = some (21, .bipush 99, 2, 0, 0) := by decide +kernel
theorem f245_23 : aF 23 zM245.2.2.2.2.2.2.2 = some (23, .invokestatic 258, 3, 196, 0) := by decide +kernel
theorem f245_26 : aF 26 zM245.2.2.2.2.2.2.2 = some (26, .ifCond .ne 5, 3, 31, 0) := by decide +kernel
theorem f245_29 : aF 29 zM245.2.2.2.2.2.2.2 = some (29, .iconst (-1), 1, 0, 0) := by decide +kernel
theorem f245_30 : aF 30 zM245.2.2.2.2.2.2.2 = some (30, .ireturn, 1, 0, 0) := by decide +kernel
theorem f245_31 : aF 31 zM245.2.2.2.2.2.2.2 = some (31, .aload_n 0, 1, 0, 0) := by decide +kernel
theorem f245_32 : aF 32 zM245.2.2.2.2.2.2.2 = some (32, .getfield 136, 3, 12, 49) := by decide +kernel
theorem f245_35 : aF 35 zM245.2.2.2.2.2.2.2 = some (35, .bipush 6, 2, 0, 0) := by decide +kernel
theorem f245_37 : aF 37 zM245.2.2.2.2.2.2.2 = some (37, .iload_n 1, 1, 0, 0) := by decide +kernel
theorem f245_38 : aF 38 zM245.2.2.2.2.2.2.2 = some (38, .imul, 1, 0, 0) := by decide +kernel
theorem f245_39 : aF 39 zM245.2.2.2.2.2.2.2 = some (39, .iload_n 2, 1, 0, 0) := by decide +kernel
theorem f245_40 : aF 40 zM245.2.2.2.2.2.2.2 = some (40, .iadd, 1, 0, 0) := by decide +kernel
theorem f245_41 : aF 41 zM245.2.2.2.2.2.2.2 = some (41, .iaload, 1, 0, 0) := by decide +kernel
theorem f245_42 : aF 42 zM245.2.2.2.2.2.2.2 = some (42, .istore 4, 2, 0, 0) := by decide +kernel
theorem f245_44 : aF 44 zM245.2.2.2.2.2.2.2 = some (44, .aload_n 0, 1, 0, 0) := by decide +kernel
theorem f245_45 : aF 45 zM245.2.2.2.2.2.2.2 = some (45, .getfield 136, 3, 12, 49) := by decide +kernel
theorem f245_48 : aF 48 zM245.2.2.2.2.2.2.2 = some (48, .bipush 6, 2, 0, 0) := by decide +kernel
theorem f245_50 : aF 50 zM245.2.2.2.2.2.2.2 = some (50, .iload_n 1, 1, 0, 0) := by decide +kernel
theorem f245_51 : aF 51 zM245.2.2.2.2.2.2.2 = some (51, .imul, 1, 0, 0) := by decide +kernel
theorem f245_52 : aF 52 zM245.2.2.2.2.2.2.2 = some (52, .iload_n 2, 1, 0, 0) := by decide +kernel
theorem f245_53 : aF 53 zM245.2.2.2.2.2.2.2 = some (53, .iadd, 1, 0, 0) := by decide +kernel
theorem f245_54 : aF 54 zM245.2.2.2.2.2.2.2 = some (54, .iload_n 3, 1, 0, 0) := by decide +kernel
theorem f245_55 : aF 55 zM245.2.2.2.2.2.2.2 = some (55, .iastore, 1, 0, 0) := by decide +kernel
theorem f245_56 : aF 56 zM245.2.2.2.2.2.2.2 = some (56, .iload 4, 2, 0, 0) := by decide +kernel
theorem f245_58 : aF 58 zM245.2.2.2.2.2.2.2 = some (58, .ireturn, 1, 0, 0) := by decide +kernel
theorem f246_0 : aF 0 zM246.2.2.2.2.2.2.2 = some (0, .aload_n 0, 1, 0, 0) := by decide +kernel
theorem f246_1 : aF 1 zM246.2.2.2.2.2.2.2 = some (1, .getfield 145, 3, 12, 52) := by decide +kernel
theorem f246_4 : aF 4 zM246.2.2.2.2.2.2.2 = some (4, .istore_n 2, 1, 0, 0) := by decide +kernel
theorem f246_5 : aF 5 zM246.2.2.2.2.2.2.2 = some (5, .aload_n 0, 1, 0, 0) := by decide +kernel
theorem f246_6 : aF 6 zM246.2.2.2.2.2.2.2 = some (6, .iload_n 1, 1, 0, 0) := by decide +kernel
theorem f246_7 : aF 7 zM246.2.2.2.2.2.2.2 = some (7, .putfield 145, 3, 12, 52) := by decide +kernel
theorem f246_10 : aF 10 zM246.2.2.2.2.2.2.2 = some (10, .iload_n 2, 1, 0, 0) := by decide +kernel
theorem f246_11 : aF 11 zM246.2.2.2.2.2.2.2 = some (11, .ireturn, 1, 0, 0) := by decide +kernel
theorem f247_0 : aF 0 zM247.2.2.2.2.2.2.2 = some (0, .aload_n 0, 1, 0, 0) := by decide +kernel
theorem f247_1 : aF 1 zM247.2.2.2.2.2.2.2 = some (1, .iload_n 1, 1, 0, 0) := by decide +kernel
theorem f247_2 : aF 2 zM247.2.2.2.2.2.2.2 = some (2, .invokevirtual 322, 3, 203, 0) := by decide +kernel
theorem f247_5 : aF 5 zM247.2.2.2.2.2.2.2 = some (5, .ifCond .eq 17, 3, 22, 0) := by decide +kernel
theorem f247_22 : aF 22 zM247.2.2.2.2.2.2.2 = some (22, .iconst (-1), 1, 0, 0) := by decide +kernel
theorem f247_23 : aF 23 zM247.2.2.2.2.2.2.2 = some (23, .ireturn, 1, 0, 0) := by decide +kernel
theorem f249_0 : aF 0 zM249.2.2.2.2.2.2.2 = some (0, .aload_n 0, 1, 0, 0) := by decide +kernel
theorem f249_1 : aF 1 zM249.2.2.2.2.2.2.2 = some (1, .iload_n 1, 1, 0, 0) := by decide +kernel
theorem f249_2 : aF 2 zM249.2.2.2.2.2.2.2 = some (2, .invokevirtual 322, 3, 203, 0) := by decide +kernel
theorem f249_5 : aF 5 zM249.2.2.2.2.2.2.2 = some (5, .ifCond .eq 19, 3, 24, 0) := by decide +kernel
theorem f249_24 : aF 24 zM249.2.2.2.2.2.2.2 = some (24, .iconst (-1), 1, 0, 0) := by decide +kernel
theorem f249_25 : aF 25 zM249.2.2.2.2.2.2.2 = some (25, .ireturn, 1, 0, 0) := by decide +kernel
theorem f250_0 : aF 0 zM250.2.2.2.2.2.2.2 = some (0, .iload_n 1, 1, 0, 0) := by decide +kernel
theorem f250_1 : aF 1 zM250.2.2.2.2.2.2.2 = some (1, .iconst 1, 1, 0, 0) := by decide +kernel
theorem f250_2 : aF 2 zM250.2.2.2.2.2.2.2 = some (2, .iconst 4, 1, 0, 0) := by decide +kernel
theorem f250_3 : aF 3 zM250.2.2.2.2.2.2.2 = some (3, .invokestatic 258, 3, 196, 0) := by decide +kernel
theorem f250_6 : aF 6 zM250.2.2.2.2.2.2.2 = some (6, .ifCond .ne 5, 3, 11, 0) := by decide +kernel
theorem f250_9 : aF 9 zM250.2.2.2.2.2.2.2 = some (9, .iconst (-1), 1, 0, 0) := by decide +kernel
theorem f250_10 : aF 10 zM250.2.2.2.2.2.2.2 = some (10, .ireturn, 1, 0, 0) := by decide +kernel
theorem f250_11 : aF 11 zM250.2.2.2.2.2.2.2 = some (11, .aload_n 0, 1, 0, 0) := by decide +kernel
theorem f250_12 : aF 12 zM250.2.2.2.2.2.2.2 = some (12, .getfield 391, 3, 12, 54) := by decide +kernel
theorem f250_15 : aF 15 zM250.2.2.2.2.2.2.2 = some (15, .iload_n 1, 1, 0, 0) := by decide +kernel
theorem f250_16 : aF 16 zM250.2.2.2.2.2.2.2 = some (16, .iadd, 1, 0, 0) := by decide +kernel
theorem f250_17 : aF 17 zM250.2.2.2.2.2.2.2 = some (17, .sipush 160, 3, 0, 0) := by decide +kernel
theorem f250_20 : aF 20 zM250.2.2.2.2.2.2.2 = some (20, .if_icmp .le 6, 3, 26, 0) := by decide +kernel
theorem f250_23 : aF 23 zM250.2.2.2.2.2.2.2 = some (23, .bipush (-3), 2, 0, 0) := by decide +kernel
theorem f250_25 : aF 25 zM250.2.2.2.2.2.2.2 = some (25, .ireturn, 1, 0, 0) := by decide +kernel
theorem f250_26 : aF 26 zM250.2.2.2.2.2.2.2 = some (26, .iconst 0, 1, 0, 0) := by decide +kernel
theorem f250_27 : aF 27 zM250.2.2.2.2.2.2.2 = some (27, .istore_n 3, 1, 0, 0) := by decide +kernel
theorem f250_28 : aF 28 zM250.2.2.2.2.2.2.2 = some (28, .iload_n 3, 1, 0, 0) := by decide +kernel
theorem f250_29 : aF 29 zM250.2.2.2.2.2.2.2 = some (29, .iload_n 1, 1, 0, 0) := by decide +kernel
theorem f250_30 : aF 30 zM250.2.2.2.2.2.2.2 = some (30, .if_icmp .ge 35, 3, 65, 0) := by decide +kernel
theorem f250_33 : aF 33 zM250.2.2.2.2.2.2.2 = some (33, .aload_n 0, 1, 0, 0) := by decide +kernel
theorem f250_34 : aF 34 zM250.2.2.2.2.2.2.2 = some (34, .getfield 148, 3, 12, 53) := by decide +kernel
theorem f250_37 : aF 37 zM250.2.2.2.2.2.2.2 = some (37, .aload_n 0, 1, 0, 0) := by decide +kernel
theorem f250_38 : aF 38 zM250.2.2.2.2.2.2.2 = some (38, .getfield 391, 3, 12, 54) := by decide +kernel
theorem f250_41 : aF 41 zM250.2.2.2.2.2.2.2 = some (41, .iload_n 2, 1, 0, 0) := by decide +kernel
theorem f250_42 : aF 42 zM250.2.2.2.2.2.2.2 = some (42, .bipush 8, 2, 0, 0) := by decide +kernel
theorem f250_44 : aF 44 zM250.2.2.2.2.2.2.2 = some (44, .iload_n 3, 1, 0, 0) := by decide +kernel
theorem f250_45 : aF 45 zM250.2.2.2.2.2.2.2 = some (45, .imul, 1, 0, 0) := by decide +kernel
theorem f250_46 : aF 46 zM250.2.2.2.2.2.2.2 = some (46, .ishr, 1, 0, 0) := by decide +kernel
theorem f250_47 : aF 47 zM250.2.2.2.2.2.2.2 = some (47, .i2b, 1, 0, 0) := by decide +kernel
theorem f250_48 : aF 48 zM250.2.2.2.2.2.2.2 = some (48, .bastore, 1, 0, 0) := by decide +kernel
theorem f250_49 : aF 49 zM250.2.2.2.2.2.2.2 = some (49, .aload_n 0, 1, 0, 0) := by decide +kernel
theorem f250_50 : aF 50 zM250.2.2.2.2.2.2.2 = some (50, .dup, 1, 0, 0) := by decide +kernel
theorem f250_51 : aF 51 zM250.2.2.2.2.2.2.2 = some (51, .getfield 391, 3, 12, 54) := by decide +kernel
theorem f250_54 : aF 54 zM250.2.2.2.2.2.2.2 = some (54, .iconst 1, 1, 0, 0) := by decide +kernel
theorem f250_55 : aF 55 zM250.2.2.2.2.2.2.2 = some (55, .iadd, 1, 0, 0) := by decide +kernel
theorem f250_56 : aF 56 zM250.2.2.2.2.2.2.2 = some (56, .putfield 391, 3, 12, 54) := by decide +kernel
theorem f250_59 : aF 59 zM250.2.2.2.2.2.2.2 = some (59, .iinc 3 1, 3, 0, 0) := by decide +kernel
theorem f250_62 : aF 62 zM250.2.2.2.2.2.2.2 = some (62, .goto (-34), 3, 28, 0) := by decide +kernel
theorem f250_65 : aF 65 zM250.2.2.2.2.2.2.2 = some (65, .aload_n 0, 1, 0, 0) := by decide +kernel
theorem f250_66 : aF 66 zM250.2.2.2.2.2.2.2 = some (66, .getfield 391, 3, 12, 54) := by decide +kernel
theorem f250_69 : aF 69 zM250.2.2.2.2.2.2.2 = some (69, .ireturn, 1, 0, 0) := by decide +kernel
theorem f251_0 : aF 0 zM251.2.2.2.2.2.2.2 = some (0, .aload_n 0, 1, 0, 0) := by decide +kernel
theorem f251_1 : aF 1 zM251.2.2.2.2.2.2.2 = some (1, .getfield 394, 3, 12, 64) := by decide +kernel
theorem f251_4 : aF 4 zM251.2.2.2.2.2.2.2 = some (4, .aload_n 0, 1, 0, 0) := by decide +kernel
theorem f251_5 : aF 5 zM251.2.2.2.2.2.2.2 = some (5, .getfield 391, 3, 12, 54) := by decide +kernel
theorem f251_8 : aF 8 zM251.2.2.2.2.2.2.2 = some (8, .if_icmp .ge 15, 3, 23, 0) := by decide +kernel
theorem f251_23 : aF 23 zM251.2.2.2.2.2.2.2 = some (23, .iconst (-1), 1, 0, 0) := by decide +kernel
theorem f251_24 : aF 24 zM251.2.2.2.2.2.2.2 = some (24, .ireturn, 1, 0, 0) := by decide +kernel
theorem f252_0 : aF 0 zM252.2.2.2.2.2.2.2 = some (0, .aload_n 0, 1, 0, 0) := by decide +kernel
theorem f252_1 : aF 1 zM252.2.2.2.2.2.2.2 = some (1, .getfield 397, 3, 12, 65) := by decide +kernel
theorem f252_4 : aF 4 zM252.2.2.2.2.2.2.2 = some (4, .ifCond .ge 11, 3, 15, 0) := by decide +kernel
theorem f252_7 : aF 7 zM252.2.2.2.2.2.2.2 = some (7, .aload_n 0, 1, 0, 0) := by decide +kernel
theorem f252_8 : aF 8 zM252.2.2.2.2.2.2.2 = some (8, .aload_n 0, 1, 0, 0) := by decide +kernel
theorem f252_9 : aF 9 zM252.2.2.2.2.2.2.2 = some (9, .getfield 394, 3, 12, 64) := by decide +kernel
theorem f252_12 : aF 12 zM252.2.2.2.2.2.2.2 = some (12, .putfield 397, 3, 12, 65) := by decide +kernel
theorem f252_15 : aF 15 zM252.2.2.2.2.2.2.2 = some (15, .return_, 1, 0, 0) := by decide +kernel
theorem f255_0 : aF 0 zM255.2.2.2.2.2.2.2 = some (0, .iload_n 0, 1, 0, 0) := by decide +kernel
theorem f255_1 : aF 1 zM255.2.2.2.2.2.2.2 = some (1, .tableswitch 144 98 121 #[141, 121, 144, 129, 117, 119, 144, 144, 138, 113, 126, 135, 144, 144, 132, 144, 144, 115, 123, 144, 144, 144, 144, 111], 111, 0, 0) := by decide +kernel
theorem f255_145 : aF 145 zM255.2.2.2.2.2.2.2 = some (145, .iconst (-1), 1, 0, 0) := by decide +kernel
theorem f255_146 : aF 146 zM255.2.2.2.2.2.2.2 = some (146, .ireturn, 1, 0, 0) := by decide +kernel
theorem f256_0 : aF 0 zM256.2.2.2.2.2.2.2 = some (0, .aload_n 0, 1, 0, 0) := by decide +kernel
theorem f256_1 : aF 1 zM256.2.2.2.2.2.2.2 = some (1, .invokevirtual 412, 3, 251, 0) := by decide +kernel
theorem f256_4 : aF 4 zM256.2.2.2.2.2.2.2 = some (4, .istore_n 1, 1, 0, 0) := by decide +kernel
theorem f256_5 : aF 5 zM256.2.2.2.2.2.2.2 = some (5, .iload_n 1, 1, 0, 0) := by decide +kernel
theorem f256_6 : aF 6 zM256.2.2.2.2.2.2.2 = some (6, .invokestatic 415, 3, 255, 0) := by decide +kernel
theorem f256_9 : aF 9 zM256.2.2.2.2.2.2.2 = some (9, .ifCond .lt 23, 3, 32, 0) := by decide +kernel
theorem f256_32 : aF 32 zM256.2.2.2.2.2.2.2 = some (32, .iload_n 1, 1, 0, 0) := by decide +kernel
theorem f256_33 : aF 33 zM256.2.2.2.2.2.2.2 = some (33, .bipush 33, 2, 0, 0) := by decide +kernel
theorem f256_35 : aF 35 zM256.2.2.2.2.2.2.2 = some (35, .if_icmp .eq 9, 3, 44, 0) := by decide +kernel
theorem f256_38 : aF 38 zM256.2.2.2.2.2.2.2 = some (38, .iload_n 1, 1, 0, 0) := by decide +kernel
theorem f256_39 : aF 39 zM256.2.2.2.2.2.2.2 = some (39, .bipush 45, 2, 0, 0) := by decide +kernel
theorem f256_41 : aF 41 zM256.2.2.2.2.2.2.2 = some (41, .if_icmp .ne 42, 3, 83, 0) := by decide +kernel
theorem f256_83 : aF 83 zM256.2.2.2.2.2.2.2 = some (83, .iload_n 1, 1, 0, 0) := by decide +kernel
theorem f256_84 : aF 84 zM256.2.2.2.2.2.2.2 = some (84, .bipush 40, 2, 0, 0) := by decide +kernel
theorem f256_86 : aF 86 zM256.2.2.2.2.2.2.2 = some (86, .if_icmp .ne 58, 3, 144, 0) := by decide +kernel
theorem f256_144 : aF 144 zM256.2.2.2.2.2.2.2 = some (144, .iconst 0, 1, 0, 0) := by decide +kernel
theorem f256_145 : aF 145 zM256.2.2.2.2.2.2.2 = some (145, .istore_n 2, 1, 0, 0) := by decide +kernel
theorem f256_146 : aF 146 zM256.2.2.2.2.2.2.2 = some (146, .iconst 0, 1, 0, 0) := by decide +kernel
theorem f256_147 : aF 147 zM256.2.2.2.2.2.2.2 = some (147, .istore_n 3, 1, 0, 0) := by decide +kernel
theorem f256_148 : aF 148 zM256.2.2.2.2.2.2.2 = some (148, .iload_n 2, 1, 0, 0) := by decide +kernel
theorem f256_149 : aF 149 zM256.2.2.2.2.2.2.2 = some (149, .bipush 6, 2, 0, 0) := by decide +kernel
theorem f256_151 : aF 151 zM256.2.2.2.2.2.2.2 = some (151, .if_icmp .ge 46, 3, 197, 0) := by decide +kernel
theorem f256_154 : aF 154 zM256.2.2.2.2.2.2.2 = some (154, .aload_n 0, 1, 0, 0) := by decide +kernel
theorem f256_155 : aF 155 zM256.2.2.2.2.2.2.2 = some (155, .invokevirtual 412, 3, 251, 0) := by decide +kernel
theorem f256_158 : aF 158 zM256.2.2.2.2.2.2.2 = some (158, .bipush 48, 2, 0, 0) := by decide +kernel
theorem f256_160 : aF 160 zM256.2.2.2.2.2.2.2 = some (160, .bipush 57, 2, 0, 0) := by decide +kernel
theorem f256_162 : aF 162 zM256.2.2.2.2.2.2.2 = some (162, .invokestatic 258, 3, 196, 0) := by decide +kernel
theorem f256_165 : aF 165 zM256.2.2.2.2.2.2.2 = some (165, .ifCond .eq 32, 3, 197, 0) := by decide +kernel
theorem f256_197 : aF 197 zM256.2.2.2.2.2.2.2 = some (197, .iload_n 2, 1, 0, 0) := by decide +kernel
theorem f256_198 : aF 198 zM256.2.2.2.2.2.2.2 = some (198, .ifCond .eq 17, 3, 215, 0) := by decide +kernel
theorem f256_215 : aF 215 zM256.2.2.2.2.2.2.2 = some (215, .aload_n 0, 1, 0, 0) := by decide +kernel
theorem f256_216 : aF 216 zM256.2.2.2.2.2.2.2 = some (216, .invokevirtual 409, 3, 252, 0) := by decide +kernel
theorem f256_219 : aF 219 zM256.2.2.2.2.2.2.2 = some (219, .goto 9, 3, 228, 0) := by decide +kernel
theorem f256_228 : aF 228 zM256.2.2.2.2.2.2.2 = some (228, .return_, 1, 0, 0) := by decide +kernel
theorem f257_0 : aF 0 zM257.2.2.2.2.2.2.2 = some (0, .aload_n 0, 1, 0, 0) := by decide +kernel
theorem f257_1 : aF 1 zM257.2.2.2.2.2.2.2 = some (1, .invokevirtual 424, 3, 256, 0) := by decide +kernel
theorem f257_4 : aF 4 zM257.2.2.2.2.2.2.2 = some (4, .aload_n 0, 1, 0, 0) := by decide +kernel
theorem f257_5 : aF 5 zM257.2.2.2.2.2.2.2 = some (5, .getfield 397, 3, 12, 65) := by decide +kernel
theorem f257_8 : aF 8 zM257.2.2.2.2.2.2.2 = some (8, .ifCond .ge 58, 3, 66, 0) := by decide +kernel
theorem f257_66 : aF 66 zM257.2.2.2.2.2.2.2 = some (66, .return_, 1, 0, 0) := by decide +kernel
theorem f258_0 : aF 0 zM258.2.2.2.2.2.2.2 = some (0, .aload_n 0, 1, 0, 0) := by decide +kernel
theorem f258_1 : aF 1 zM258.2.2.2.2.2.2.2 = some (1, .invokevirtual 430, 3, 257, 0) := by decide +kernel
theorem f258_4 : aF 4 zM258.2.2.2.2.2.2.2 = some (4, .aload_n 0, 1, 0, 0) := by decide +kernel
theorem f258_5 : aF 5 zM258.2.2.2.2.2.2.2 = some (5, .getfield 397, 3, 12, 65) := by decide +kernel
theorem f258_8 : aF 8 zM258.2.2.2.2.2.2.2 = some (8, .ifCond .ge 49, 3, 57, 0) := by decide +kernel
theorem f258_57 : aF 57 zM258.2.2.2.2.2.2.2 = some (57, .return_, 1, 0, 0) := by decide +kernel
theorem f259_0 : aF 0 zM259.2.2.2.2.2.2.2 = some (0, .aload_n 0, 1, 0, 0) := by decide +kernel
theorem f259_1 : aF 1 zM259.2.2.2.2.2.2.2 = some (1, .invokevirtual 433, 3, 258, 0) := by decide +kernel
theorem f259_4 : aF 4 zM259.2.2.2.2.2.2.2 = some (4, .aload_n 0, 1, 0, 0) := by decide +kernel
theorem f259_5 : aF 5 zM259.2.2.2.2.2.2.2 = some (5, .invokevirtual 412, 3, 251, 0) := by decide +kernel
theorem f259_8 : aF 8 zM259.2.2.2.2.2.2.2 = some (8, .istore_n 1, 1, 0, 0) := by decide +kernel
theorem f259_9 : aF 9 zM259.2.2.2.2.2.2.2 = some (9, .aload_n 0, 1, 0, 0) := by decide +kernel
theorem f259_10 : aF 10 zM259.2.2.2.2.2.2.2 = some (10, .getfield 397, 3, 12, 65) := by decide +kernel
theorem f259_13 : aF 13 zM259.2.2.2.2.2.2.2 = some (13, .ifCond .ge 21, 3, 34, 0) := by decide +kernel
theorem f259_34 : aF 34 zM259.2.2.2.2.2.2.2 = some (34, .return_, 1, 0, 0) := by decide +kernel
theorem f260_0 : aF 0 zM260.2.2.2.2.2.2.2 = some (0, .aload_n 0, 1, 0, 0) := by decide +kernel
theorem f260_1 : aF 1 zM260.2.2.2.2.2.2.2 = some (1, .invokevirtual 436, 3, 259, 0) := by decide +kernel
theorem f260_4 : aF 4 zM260.2.2.2.2.2.2.2 = some (4, .aload_n 0, 1, 0, 0) := by decide +kernel
theorem f260_5 : aF 5 zM260.2.2.2.2.2.2.2 = some (5, .getfield 397, 3, 12, 65) := by decide +kernel
theorem f260_8 : aF 8 zM260.2.2.2.2.2.2.2 = some (8, .ifCond .ge 36, 3, 44, 0) := by decide +kernel
theorem f260_44 : aF 44 zM260.2.2.2.2.2.2.2 = some (44, .return_, 1, 0, 0) := by decide +kernel
theorem f261_0 : aF 0 zM261.2.2.2.2.2.2.2 = some (0, .aload_n 0, 1, 0, 0) := by decide +kernel
theorem f261_1 : aF 1 zM261.2.2.2.2.2.2.2 = some (1, .invokevirtual 439, 3, 260, 0) := by decide +kernel
theorem f261_4 : aF 4 zM261.2.2.2.2.2.2.2 = some (4, .aload_n 0, 1, 0, 0) := by decide +kernel
theorem f261_5 : aF 5 zM261.2.2.2.2.2.2.2 = some (5, .getfield 397, 3, 12, 65) := by decide +kernel
theorem f261_8 : aF 8 zM261.2.2.2.2.2.2.2 = some (8, .ifCond .ge 36, 3, 44, 0) := by decide +kernel
theorem f261_44 : aF 44 zM261.2.2.2.2.2.2.2 = some (44, .return_, 1, 0, 0) := by decide +kernel
theorem f262_0 : aF 0 zM262.2.2.2.2.2.2.2 = some (0, .bipush 90, 2, 0, 0) := by decide +kernel
theorem f262_2 : aF 2 zM262.2.2.2.2.2.2.2 = some (2, .aload_n 0, 1, 0, 0) := by decide +kernel
theorem f262_3 : aF 3 zM262.2.2.2.2.2.2.2 = some (3, .getfield 400, 3, 12, 67) := by decide +kernel
theorem f262_6 : aF 6 zM262.2.2.2.2.2.2.2 = some (6, .imul, 1, 0, 0) := by decide +kernel
theorem f262_7 : aF 7 zM262.2.2.2.2.2.2.2 = some (7, .aload_n 0, 1, 0, 0) := by decide +kernel
theorem f262_8 : aF 8 zM262.2.2.2.2.2.2.2 = some (8, .getfield 161, 3, 12, 59) := by decide +kernel
theorem f262_11 : aF 11 zM262.2.2.2.2.2.2.2 = some (11, .aload_n 0, 1, 0, 0) := by decide +kernel
theorem f262_12 : aF 12 zM262.2.2.2.2.2.2.2 = some (12, .getfield 400, 3, 12, 67) := by decide +kernel
theorem f262_15 : aF 15 zM262.2.2.2.2.2.2.2 = some (15, .iaload, 1, 0, 0) := by decide +kernel
theorem f262_16 : aF 16 zM262.2.2.2.2.2.2.2 = some (16, .iadd, 1, 0, 0) := by decide +kernel
theorem f262_17 : aF 17 zM262.2.2.2.2.2.2.2 = some (17, .istore_n 1, 1, 0, 0) := by decide +kernel
theorem f262_18 : aF 18 zM262.2.2.2.2.2.2.2 = some (18, .aload_n 0, 1, 0, 0) := by decide +kernel
theorem f262_19 : aF 19 zM262.2.2.2.2.2.2.2 = some (19, .getfield 403, 3, 12, 68) := by decide +kernel
theorem f262_22 : aF 22 zM262.2.2.2.2.2.2.2 = some (22, .istore_n 2, 1, 0, 0) := by decide +kernel
theorem f262_23 : aF 23 zM262.2.2.2.2.2.2.2 = some (23, .aload_n 0, 1, 0, 0) := by decide +kernel
theorem f262_24 : aF 24 zM262.2.2.2.2.2.2.2 = some (24, .invokevirtual 427, 3, 261, 0) := by decide +kernel
theorem f262_27 : aF 27 zM262.2.2.2.2.2.2.2 = some (27, .aload_n 0, 1, 0, 0) := by decide +kernel
theorem f262_28 : aF 28 zM262.2.2.2.2.2.2.2 = some (28, .getfield 164, 3, 12, 60) := by decide +kernel
theorem f262_31 : aF 31 zM262.2.2.2.2.2.2.2 = some (31, .iload_n 1, 1, 0, 0) := by decide +kernel
theorem f262_32 : aF 32 zM262.2.2.2.2.2.2.2 = some (32, .iload_n 2, 1, 0, 0) := by decide +kernel
theorem f262_33 : aF 33 zM262.2.2.2.2.2.2.2 = some (33, .iastore, 1, 0, 0) := by decide +kernel
theorem f262_34 : aF 34 zM262.2.2.2.2.2.2.2 = some (34, .aload_n 0, 1, 0, 0) := by decide +kernel
theorem f262_35 : aF 35 zM262.2.2.2.2.2.2.2 = some (35, .getfield 397, 3, 12, 65) := by decide +kernel
theorem f262_38 : aF 38 zM262.2.2.2.2.2.2.2 = some (38, .ifCond .ge 36, 3, 74, 0) := by decide +kernel
theorem f262_74 : aF 74 zM262.2.2.2.2.2.2.2 = some (74, .aload_n 0, 1, 0, 0) := by decide +kernel
theorem f262_75 : aF 75 zM262.2.2.2.2.2.2.2 = some (75, .getfield 167, 3, 12, 61) := by decide +kernel
theorem f262_78 : aF 78 zM262.2.2.2.2.2.2.2 = some (78, .iload_n 1, 1, 0, 0) := by decide +kernel
theorem f262_79 : aF 79 zM262.2.2.2.2.2.2.2 = some (79, .aload_n 0, 1, 0, 0) := by decide +kernel
theorem f262_80 : aF 80 zM262.2.2.2.2.2.2.2 = some (80, .getfield 403, 3, 12, 68) := by decide +kernel
theorem f262_83 : aF 83 zM262.2.2.2.2.2.2.2 = some (83, .iastore, 1, 0, 0) := by decide +kernel
theorem f262_84 : aF 84 zM262.2.2.2.2.2.2.2 = some (84, .aload_n 0, 1, 0, 0) := by decide +kernel
theorem f262_85 : aF 85 zM262.2.2.2.2.2.2.2 = some (85, .getfield 161, 3, 12, 59) := by decide +kernel
theorem f262_88 : aF 88 zM262.2.2.2.2.2.2.2 = some (88, .aload_n 0, 1, 0, 0) := by decide +kernel
theorem f262_89 : aF 89 zM262.2.2.2.2.2.2.2 = some (89, .getfield 400, 3, 12, 67) := by decide +kernel
theorem f262_92 : aF 92 zM262.2.2.2.2.2.2.2 = some (92, .dup2, 1, 0, 0) := by decide +kernel
theorem f262_93 : aF 93 zM262.2.2.2.2.2.2.2 = some (93, .iaload, 1, 0, 0) := by decide +kernel
theorem f262_94 : aF 94 zM262.2.2.2.2.2.2.2 = some (94, .iconst 1, 1, 0, 0) := by decide +kernel
theorem f262_95 : aF 95 zM262.2.2.2.2.2.2.2 = some (95, .iadd, 1, 0, 0) := by decide +kernel
theorem f262_96 : aF 96 zM262.2.2.2.2.2.2.2 = some (96, .iastore, 1, 0, 0) := by decide +kernel
theorem f262_97 : aF 97 zM262.2.2.2.2.2.2.2 = some (97, .return_, 1, 0, 0) := by decide +kernel
theorem f263_0 : aF 0 zM263.2.2.2.2.2.2.2 = some (0, .iload_n 0, 1, 0, 0) := by decide +kernel
theorem f263_1 : aF 1 zM263.2.2.2.2.2.2.2 = some (1, .iconst 0, 1, 0, 0) := by decide +kernel
theorem f263_2 : aF 2 zM263.2.2.2.2.2.2.2 = some (2, .bipush 33, 2, 0, 0) := by decide +kernel
theorem f263_4 : aF 4 zM263.2.2.2.2.2.2.2 = some (4, .invokestatic 258, 3, 196, 0) := by decide +kernel
theorem f263_7 : aF 7 zM263.2.2.2.2.2.2.2 = some (7, .ifCond .eq 15, 3, 22, 0) := by decide +kernel
theorem f263_10 : aF 10 zM263.2.2.2.2.2.2.2 = some (10, .iload_n 0, 1, 0, 0) := by decide +kernel
theorem f263_11 : aF 11 zM263.2.2.2.2.2.2.2 = some (11, .bipush 10, 2, 0, 0) := by decide +kernel
theorem f263_13 : aF 13 zM263.2.2.2.2.2.2.2 = some (13, .irem, 1, 0, 0) := by decide +kernel
theorem f263_14 : aF 14 zM263.2.2.2.2.2.2.2 = some (14, .iconst 3, 1, 0, 0) := by decide +kernel
theorem f263_15 : aF 15 zM263.2.2.2.2.2.2.2 = some (15, .if_icmp .gt 7, 3, 22, 0) := by decide +kernel
theorem f263_18 : aF 18 zM263.2.2.2.2.2.2.2 = some (18, .iconst 1, 1, 0, 0) := by decide +kernel
theorem f263_19 : aF 19 zM263.2.2.2.2.2.2.2 = some (19, .goto 4, 3, 23, 0) := by decide +kernel
theorem f263_22 : aF 22 zM263.2.2.2.2.2.2.2 = some (22, .iconst 0, 1, 0, 0) := by decide +kernel
theorem f263_23 : aF 23 zM263.2.2.2.2.2.2.2 = some (23, .ireturn, 1, 0, 0) := by decide +kernel
theorem f264_0 : aF 0 zM264.2.2.2.2.2.2.2 = some (0, .iload_n 1, 1, 0, 0) := by decide +kernel
theorem f264_1 : aF 1 zM264.2.2.2.2.2.2.2 = some (1, .invokestatic 442, 3, 263, 0) := by decide +kernel
theorem f264_4 : aF 4 zM264.2.2.2.2.2.2.2 = some (4, .ifCond .eq 10, 3, 14, 0) := by decide +kernel
theorem f264_7 : aF 7 zM264.2.2.2.2.2.2.2 = some (7, .iload_n 2, 1, 0, 0) := by decide +kernel
theorem f264_8 : aF 8 zM264.2.2.2.2.2.2.2 = some (8, .invokestatic 372, 3, 198, 0) := by decide +kernel
theorem f264_11 : aF 11 zM264.2.2.2.2.2.2.2 = some (11, .ifCond .ne 5, 3, 16, 0) := by decide +kernel
theorem f264_14 : aF 14 zM264.2.2.2.2.2.2.2 = some (14, .iconst (-1), 1, 0, 0) := by decide +kernel
theorem f264_15 : aF 15 zM264.2.2.2.2.2.2.2 = some (15, .ireturn, 1, 0, 0) := by decide +kernel
theorem f264_16 : aF 16 zM264.2.2.2.2.2.2.2 = some (16, .aload_n 0, 1, 0, 0) := by decide +kernel
theorem f264_17 : aF 17 zM264.2.2.2.2.2.2.2 = some (17, .getfield 445, 3, 12, 55) := by decide +kernel
theorem f264_20 : aF 20 zM264.2.2.2.2.2.2.2 = some (20, .bipush 16, 2, 0, 0) := by decide +kernel
theorem f264_22 : aF 22 zM264.2.2.2.2.2.2.2 = some (22, .if_icmp .ne 6, 3, 28, 0) := by decide +kernel
theorem f264_28 : aF 28 zM264.2.2.2.2.2.2.2 = some (28, .aload_n 0, 1, 0, 0) := by decide +kernel
theorem f264_29 : aF 29 zM264.2.2.2.2.2.2.2 = some (29, .aload_n 0, 1, 0, 0) := by decide +kernel
theorem f264_30 : aF 30 zM264.2.2.2.2.2.2.2 = some (30, .getfield 445, 3, 12, 55) := by decide +kernel
theorem f264_33 : aF 33 zM264.2.2.2.2.2.2.2 = some (33, .putfield 400, 3, 12, 67) := by decide +kernel
theorem f264_36 : aF 36 zM264.2.2.2.2.2.2.2 = some (36, .aload_n 0, 1, 0, 0) := by decide +kernel
theorem f264_37 : aF 37 zM264.2.2.2.2.2.2.2 = some (37, .getfield 161, 3, 12, 59) := by decide +kernel
theorem f264_40 : aF 40 zM264.2.2.2.2.2.2.2 = some (40, .aload_n 0, 1, 0, 0) := by decide +kernel
theorem f264_41 : aF 41 zM264.2.2.2.2.2.2.2 = some (41, .getfield 400, 3, 12, 67) := by decide +kernel
theorem f264_44 : aF 44 zM264.2.2.2.2.2.2.2 = some (44, .iconst 0, 1, 0, 0) := by decide +kernel
theorem f264_45 : aF 45 zM264.2.2.2.2.2.2.2 = some (45, .iastore, 1, 0, 0) := by decide +kernel
theorem f264_46 : aF 46 zM264.2.2.2.2.2.2.2 = some (46, .aload_n 0, 1, 0, 0) := by decide +kernel
theorem f264_47 : aF 47 zM264.2.2.2.2.2.2.2 = some (47, .iconst 0, 1, 0, 0) := by decide +kernel
theorem f264_48 : aF 48 zM264.2.2.2.2.2.2.2 = some (48, .putfield 403, 3, 12, 68) := by decide +kernel
theorem f264_51 : aF 51 zM264.2.2.2.2.2.2.2 = some (51, .aload_n 0, 1, 0, 0) := by decide +kernel
theorem f264_52 : aF 52 zM264.2.2.2.2.2.2.2 = some (52, .iconst 0, 1, 0, 0) := by decide +kernel
theorem f264_53 : aF 53 zM264.2.2.2.2.2.2.2 = some (53, .putfield 394, 3, 12, 64) := by decide +kernel
theorem f264_56 : aF 56 zM264.2.2.2.2.2.2.2 = some (56, .aload_n 0, 1, 0, 0) := by decide +kernel
theorem f264_57 : aF 57 zM264.2.2.2.2.2.2.2 = some (57, .iconst (-1), 1, 0, 0) := by decide +kernel
theorem f264_58 : aF 58 zM264.2.2.2.2.2.2.2 = some (58, .putfield 397, 3, 12, 65) := by decide +kernel
theorem f264_61 : aF 61 zM264.2.2.2.2.2.2.2 = some (61, .aload_n 0, 1, 0, 0) := by decide +kernel
theorem f264_62 : aF 62 zM264.2.2.2.2.2.2.2 = some (62, .iconst 0, 1, 0, 0) := by decide +kernel
theorem f264_63 : aF 63 zM264.2.2.2.2.2.2.2 = some (63, .putfield 406, 3, 12, 66) := by decide +kernel
theorem f264_66 : aF 66 zM264.2.2.2.2.2.2.2 = some (66, .aload_n 0, 1, 0, 0) := by decide +kernel
theorem f264_67 : aF 67 zM264.2.2.2.2.2.2.2 = some (67, .invokevirtual 448, 3, 262, 0) := by decide +kernel
theorem f264_70 : aF 70 zM264.2.2.2.2.2.2.2 = some (70, .aload_n 0, 1, 0, 0) := by decide +kernel
theorem f264_71 : aF 71 zM264.2.2.2.2.2.2.2 = some (71, .getfield 397, 3, 12, 65) := by decide +kernel
theorem f264_74 : aF 74 zM264.2.2.2.2.2.2.2 = some (74, .ifCond .ge 29, 3, 103, 0) := by decide +kernel
theorem f264_103 : aF 103 zM264.2.2.2.2.2.2.2 = some (103, .aload_n 0, 1, 0, 0) := by decide +kernel
theorem f264_104 : aF 104 zM264.2.2.2.2.2.2.2 = some (104, .getfield 397, 3, 12, 65) := by decide +kernel
theorem f264_107 : aF 107 zM264.2.2.2.2.2.2.2 = some (107, .ifCond .ge 18, 3, 125, 0) := by decide +kernel
theorem f264_125 : aF 125 zM264.2.2.2.2.2.2.2 = some (125, .aload_n 0, 1, 0, 0) := by decide +kernel
theorem f264_126 : aF 126 zM264.2.2.2.2.2.2.2 = some (126, .iconst 0, 1, 0, 0) := by decide +kernel
theorem f264_127 : aF 127 zM264.2.2.2.2.2.2.2 = some (127, .putfield 391, 3, 12, 54) := by decide +kernel
theorem f264_130 : aF 130 zM264.2.2.2.2.2.2.2 = some (130, .aload_n 0, 1, 0, 0) := by decide +kernel
theorem f264_131 : aF 131 zM264.2.2.2.2.2.2.2 = some (131, .getfield 397, 3, 12, 65) := by decide +kernel
theorem f264_134 : aF 134 zM264.2.2.2.2.2.2.2 = some (134, .ifCond .lt 11, 3, 145, 0) := by decide +kernel
theorem f264_137 : aF 137 zM264.2.2.2.2.2.2.2 = some (137, .bipush (-100), 2, 0, 0) := by decide +kernel
theorem f264_139 : aF 139 zM264.2.2.2.2.2.2.2 = some (139, .aload_n 0, 1, 0, 0) := by decide +kernel
theorem f264_140 : aF 140 zM264.2.2.2.2.2.2.2 = some (140, .getfield 397, 3, 12, 65) := by decide +kernel
theorem f264_143 : aF 143 zM264.2.2.2.2.2.2.2 = some (143, .isub, 1, 0, 0) := by decide +kernel
theorem f264_144 : aF 144 zM264.2.2.2.2.2.2.2 = some (144, .ireturn, 1, 0, 0) := by decide +kernel
theorem f265_0 : aF 0 zM265.2.2.2.2.2.2.2 = some (0, .aload_n 0, 1, 0, 0) := by decide +kernel
theorem f265_1 : aF 1 zM265.2.2.2.2.2.2.2 = some (1, .getfield 445, 3, 12, 55) := by decide +kernel
theorem f265_4 : aF 4 zM265.2.2.2.2.2.2.2 = some (4, .iconst 1, 1, 0, 0) := by decide +kernel
theorem f265_5 : aF 5 zM265.2.2.2.2.2.2.2 = some (5, .isub, 1, 0, 0) := by decide +kernel
theorem f265_6 : aF 6 zM265.2.2.2.2.2.2.2 = some (6, .istore 4, 2, 0, 0) := by decide +kernel
theorem f265_8 : aF 8 zM265.2.2.2.2.2.2.2 = some (8, .iload 4, 2, 0, 0) := by decide +kernel
theorem f265_10 : aF 10 zM265.2.2.2.2.2.2.2 = some (10, .ifCond .lt 45, 3, 55, 0) := by decide +kernel
theorem f265_55 : aF 55 zM265.2.2.2.2.2.2.2 = some (55, .bipush (-2), 2, 0, 0) := by decide +kernel
theorem f265_57 : aF 57 zM265.2.2.2.2.2.2.2 = some (57, .ireturn, 1, 0, 0) := by decide +kernel
theorem f266_0 : aF 0 zM266.2.2.2.2.2.2.2 = some (0, .iload_n 1, 1, 0, 0) := by decide +kernel
theorem f266_1 : aF 1 zM266.2.2.2.2.2.2.2 = some (1, .invokestatic 442, 3, 263, 0) := by decide +kernel
theorem f266_4 : aF 4 zM266.2.2.2.2.2.2.2 = some (4, .ifCond .eq 27, 3, 31, 0) := by decide +kernel
theorem f266_7 : aF 7 zM266.2.2.2.2.2.2.2 = some (7, .iload_n 2, 1, 0, 0) := by decide +kernel
theorem f266_8 : aF 8 zM266.2.2.2.2.2.2.2 = some (8, .invokestatic 372, 3, 198, 0) := by decide +kernel
theorem f266_11 : aF 11 zM266.2.2.2.2.2.2.2 = some (11, .ifCond .eq 20, 3, 31, 0) := by decide +kernel
theorem f266_14 : aF 14 zM266.2.2.2.2.2.2.2 = some (14, .iload_n 3, 1, 0, 0) := by decide +kernel
theorem f266_15 : aF 15 zM266.2.2.2.2.2.2.2 = some (15, .invokestatic 325, 3, 197, 0) := by decide +kernel
theorem f266_18 : aF 18 zM266.2.2.2.2.2.2.2 = some (18, .ifCond .eq 13, 3, 31, 0) := by decide +kernel
theorem f266_21 : aF 21 zM266.2.2.2.2.2.2.2 = some (21, .aload_n 0, 1, 0, 0) := by decide +kernel
theorem f266_22 : aF 22 zM266.2.2.2.2.2.2.2 = some (22, .iload_n 1, 1, 0, 0) := by decide +kernel
theorem f266_23 : aF 23 zM266.2.2.2.2.2.2.2 = some (23, .iload_n 2, 1, 0, 0) := by decide +kernel
theorem f266_24 : aF 24 zM266.2.2.2.2.2.2.2 = some (24, .iload_n 3, 1, 0, 0) := by decide +kernel
theorem f266_25 : aF 25 zM266.2.2.2.2.2.2.2 = some (25, .invokevirtual 451, 3, 265, 0) := by decide +kernel
theorem f266_28 : aF 28 zM266.2.2.2.2.2.2.2 = some (28, .goto 4, 3, 32, 0) := by decide +kernel
theorem f266_31 : aF 31 zM266.2.2.2.2.2.2.2 = some (31, .iconst (-1), 1, 0, 0) := by decide +kernel
theorem f266_32 : aF 32 zM266.2.2.2.2.2.2.2 = some (32, .ireturn, 1, 0, 0) := by decide +kernel
theorem f274_0 : aF 0 zM274.2.2.2.2.2.2.2 = some (0, .aload_n 0, 1, 0, 0) := by decide +kernel
theorem f274_1 : aF 1 zM274.2.2.2.2.2.2.2 = some (1, .iload_n 1, 1, 0, 0) := by decide +kernel
theorem f274_2 : aF 2 zM274.2.2.2.2.2.2.2 = some (2, .invokevirtual 316, 3, 202, 0) := by decide +kernel
theorem f274_5 : aF 5 zM274.2.2.2.2.2.2.2 = some (5, .ifCond .eq 28, 3, 33, 0) := by decide +kernel
theorem f274_33 : aF 33 zM274.2.2.2.2.2.2.2 = some (33, .iconst (-1), 1, 0, 0) := by decide +kernel
theorem f274_34 : aF 34 zM274.2.2.2.2.2.2.2 = some (34, .ireturn, 1, 0, 0) := by decide +kernel
theorem f278_0 : aF 0 zM278.2.2.2.2.2.2.2 = some (0, .aload_n 0, 1, 0, 0) := by decide +kernel
theorem f278_1 : aF 1 zM278.2.2.2.2.2.2.2 = some (1, .iload_n 1, 1, 0, 0) := by decide +kernel
theorem f278_2 : aF 2 zM278.2.2.2.2.2.2.2 = some (2, .invokevirtual 316, 3, 202, 0) := by decide +kernel
theorem f278_5 : aF 5 zM278.2.2.2.2.2.2.2 = some (5, .ifCond .eq 28, 3, 33, 0) := by decide +kernel
theorem f278_33 : aF 33 zM278.2.2.2.2.2.2.2 = some (33, .ldc_w 335, 3, 2294967296, 0) := by decide +kernel
theorem f278_36 : aF 36 zM278.2.2.2.2.2.2.2 = some (36, .ireturn, 1, 0, 0) := by decide +kernel
theorem f279_0 : aF 0 zM279.2.2.2.2.2.2.2 = some (0, .aload_n 0, 1, 0, 0) := by decide +kernel
theorem f279_1 : aF 1 zM279.2.2.2.2.2.2.2 = some (1, .iload_n 1, 1, 0, 0) := by decide +kernel
theorem f279_2 : aF 2 zM279.2.2.2.2.2.2.2 = some (2, .invokevirtual 316, 3, 202, 0) := by decide +kernel
theorem f279_5 : aF 5 zM279.2.2.2.2.2.2.2 = some (5, .ifCond .eq 19, 3, 24, 0) := by decide +kernel
theorem f279_24 : aF 24 zM279.2.2.2.2.2.2.2 = some (24, .iconst (-1), 1, 0, 0) := by decide +kernel
theorem f279_25 : aF 25 zM279.2.2.2.2.2.2.2 = some (25, .ireturn, 1, 0, 0) := by decide +kernel
theorem f280_0 : aF 0 zM280.2.2.2.2.2.2.2 = some (0, .aload_n 0, 1, 0, 0) := by decide +kernel
theorem f280_1 : aF 1 zM280.2.2.2.2.2.2.2 = some (1, .iload_n 1, 1, 0, 0) := by decide +kernel
theorem f280_2 : aF 2 zM280.2.2.2.2.2.2.2 = some (2, .invokevirtual 316, 3, 202, 0) := by decide +kernel
theorem f280_5 : aF 5 zM280.2.2.2.2.2.2.2 = some (5, .ifCond .ne 7, 3, 12, 0) := by decide +kernel
theorem f280_8 : aF 8 zM280.2.2.2.2.2.2.2 = some (8, .ldc_w 335, 3, 2294967296, 0) := by decide +kernel
theorem f280_11 : aF 11 zM280.2.2.2.2.2.2.2 = some (11, .ireturn, 1, 0, 0) := by decide +kernel
theorem f281_0 : aF 0 zM281.2.2.2.2.2.2.2 = some (0, .aload_n 0, 1, 0, 0) := by decide +kernel
theorem f281_1 : aF 1 zM281.2.2.2.2.2.2.2 = some (1, .iload_n 1, 1, 0, 0) := by decide +kernel
theorem f281_2 : aF 2 zM281.2.2.2.2.2.2.2 = some (2, .invokevirtual 316, 3, 202, 0) := by decide +kernel
theorem f281_5 : aF 5 zM281.2.2.2.2.2.2.2 = some (5, .ifCond .eq 21, 3, 26, 0) := by decide +kernel
theorem f281_26 : aF 26 zM281.2.2.2.2.2.2.2 = some (26, .iconst (-1), 1, 0, 0) := by decide +kernel
theorem f281_27 : aF 27 zM281.2.2.2.2.2.2.2 = some (27, .ireturn, 1, 0, 0) := by decide +kernel
theorem f289_0 : aF 0 zM289.2.2.2.2.2.2.2 = some (0, .iload_n 1, 1, 0, 0) := by decide +kernel
theorem f289_1 : aF 1 zM289.2.2.2.2.2.2.2 = some (1, .iconst 0, 1, 0, 0) := by decide +kernel
theorem f289_2 : aF 2 zM289.2.2.2.2.2.2.2 = some (2, .aload_n 0, 1, 0, 0) := by decide +kernel
theorem f289_3 : aF 3 zM289.2.2.2.2.2.2.2 = some (3, .getfield 204, 3, 12, 81) := by decide +kernel
theorem f289_6 : aF 6 zM289.2.2.2.2.2.2.2 = some (6, .iconst 1, 1, 0, 0) := by decide +kernel
theorem f289_7 : aF 7 zM289.2.2.2.2.2.2.2 = some (7, .isub, 1, 0, 0) := by decide +kernel
theorem f289_8 : aF 8 zM289.2.2.2.2.2.2.2 = some (8, .invokestatic 258, 3, 196, 0) := by decide +kernel
theorem f289_11 : aF 11 zM289.2.2.2.2.2.2.2 = some (11, .ifCond .eq 12, 3, 23, 0) := by decide +kernel
theorem f289_23 : aF 23 zM289.2.2.2.2.2.2.2 = some (23, .iconst (-1), 1, 0, 0) := by decide +kernel
theorem f289_24 : aF 24 zM289.2.2.2.2.2.2.2 = some (24, .ireturn, 1, 0, 0) := by decide +kernel
theorem f290_0 : aF 0 zM290.2.2.2.2.2.2.2 = some (0, .aload_n 0, 1, 0, 0) := by decide +kernel
theorem f290_1 : aF 1 zM290.2.2.2.2.2.2.2 = some (1, .iload_n 1, 1, 0, 0) := by decide +kernel
theorem f290_2 : aF 2 zM290.2.2.2.2.2.2.2 = some (2, .putfield 210, 3, 12, 83) := by decide +kernel
theorem f290_5 : aF 5 zM290.2.2.2.2.2.2.2 = some (5, .iconst 1, 1, 0, 0) := by decide +kernel
theorem f290_6 : aF 6 zM290.2.2.2.2.2.2.2 = some (6, .ireturn, 1, 0, 0) := by decide +kernel
theorem f294_0 : aF 0 zM294.2.2.2.2.2.2.2 = some (0, .iload_n 1, 1, 0, 0) := by decide +kernel
theorem f294_1 : aF 1 zM294.2.2.2.2.2.2.2 = some (1, .iconst 0, 1, 0, 0) := by decide +kernel
theorem f294_2 : aF 2 zM294.2.2.2.2.2.2.2 = some (2, .aload_n 0, 1, 0, 0) := by decide +kernel
theorem f294_3 : aF 3 zM294.2.2.2.2.2.2.2 = some (3, .getfield 213, 3, 12, 84) := by decide +kernel
theorem f294_6 : aF 6 zM294.2.2.2.2.2.2.2 = some (6, .iconst 1, 1, 0, 0) := by decide +kernel
theorem f294_7 : aF 7 zM294.2.2.2.2.2.2.2 = some (7, .isub, 1, 0, 0) := by decide +kernel
theorem f294_8 : aF 8 zM294.2.2.2.2.2.2.2 = some (8, .invokestatic 258, 3, 196, 0) := by decide +kernel
theorem f294_11 : aF 11 zM294.2.2.2.2.2.2.2 = some (11, .ifCond .eq 12, 3, 23, 0) := by decide +kernel
theorem f294_23 : aF 23 zM294.2.2.2.2.2.2.2 = some (23, .iconst (-1), 1, 0, 0) := by decide +kernel
theorem f294_24 : aF 24 zM294.2.2.2.2.2.2.2 = some (24, .ireturn, 1, 0, 0) := by decide +kernel
theorem f299_0 : aF 0 zM299.2.2.2.2.2.2.2 = some (0, .iload_n 1, 1, 0, 0) := by decide +kernel
theorem f299_1 : aF 1 zM299.2.2.2.2.2.2.2 = some (1, .iconst 1, 1, 0, 0) := by decide +kernel
theorem f299_2 : aF 2 zM299.2.2.2.2.2.2.2 = some (2, .sipush 576, 3, 0, 0) := by decide +kernel
theorem f299_5 : aF 5 zM299.2.2.2.2.2.2.2 = some (5, .invokestatic 258, 3, 196, 0) := by decide +kernel
theorem f299_8 : aF 8 zM299.2.2.2.2.2.2.2 = some (8, .ifCond .ne 5, 3, 13, 0) := by decide +kernel
theorem f299_11 : aF 11 zM299.2.2.2.2.2.2.2 = some (11, .iconst (-1), 1, 0, 0) := by decide +kernel
theorem f299_12 : aF 12 zM299.2.2.2.2.2.2.2 = some (12, .ireturn, 1, 0, 0) := by decide +kernel
theorem f299_13 : aF 13 zM299.2.2.2.2.2.2.2 = some (13, .aload_n 0, 1, 0, 0) := by decide +kernel
theorem f299_14 : aF 14 zM299.2.2.2.2.2.2.2 = some (14, .getfield 546, 3, 12, 87) := by decide +kernel
theorem f299_17 : aF 17 zM299.2.2.2.2.2.2.2 = some (17, .bipush 6, 2, 0, 0) := by decide +kernel
theorem f299_19 : aF 19 zM299.2.2.2.2.2.2.2 = some (19, .if_icmp .ne 6, 3, 25, 0) := by decide +kernel
theorem f299_25 : aF 25 zM299.2.2.2.2.2.2.2 = some (25, .aload_n 0, 1, 0, 0) := by decide +kernel
theorem f299_26 : aF 26 zM299.2.2.2.2.2.2.2 = some (26, .getfield 222, 3, 12, 88) := by decide +kernel
theorem f299_29 : aF 29 zM299.2.2.2.2.2.2.2 = some (29, .aload_n 0, 1, 0, 0) := by decide +kernel
theorem f299_30 : aF 30 zM299.2.2.2.2.2.2.2 = some (30, .getfield 546, 3, 12, 87) := by decide +kernel
theorem f299_33 : aF 33 zM299.2.2.2.2.2.2.2 = some (33, .iload_n 1, 1, 0, 0) := by decide +kernel
theorem f299_34 : aF 34 zM299.2.2.2.2.2.2.2 = some (34, .iastore, 1, 0, 0) := by decide +kernel
theorem f299_35 : aF 35 zM299.2.2.2.2.2.2.2 = some (35, .aload_n 0, 1, 0, 0) := by decide +kernel
theorem f299_36 : aF 36 zM299.2.2.2.2.2.2.2 = some (36, .dup, 1, 0, 0) := by decide +kernel
theorem f299_37 : aF 37 zM299.2.2.2.2.2.2.2 = some (37, .getfield 546, 3, 12, 87) := by decide +kernel
theorem f299_40 : aF 40 zM299.2.2.2.2.2.2.2 = some (40, .iconst 1, 1, 0, 0) := by decide +kernel
theorem f299_41 : aF 41 zM299.2.2.2.2.2.2.2 = some (41, .iadd, 1, 0, 0) := by decide +kernel
theorem f299_42 : aF 42 zM299.2.2.2.2.2.2.2 = some (42, .putfield 546, 3, 12, 87) := by decide +kernel
theorem f299_45 : aF 45 zM299.2.2.2.2.2.2.2 = some (45, .aload_n 0, 1, 0, 0) := by decide +kernel
theorem f299_46 : aF 46 zM299.2.2.2.2.2.2.2 = some (46, .getfield 546, 3, 12, 87) := by decide +kernel
theorem f299_49 : aF 49 zM299.2.2.2.2.2.2.2 = some (49, .ireturn, 1, 0, 0) := by decide +kernel
theorem f300_0 : aF 0 zM300.2.2.2.2.2.2.2 = some (0, .iload_n 1, 1, 0, 0) := by decide +kernel
theorem f300_1 : aF 1 zM300.2.2.2.2.2.2.2 = some (1, .iconst 0, 1, 0, 0) := by decide +kernel
theorem f300_2 : aF 2 zM300.2.2.2.2.2.2.2 = some (2, .bipush 7, 2, 0, 0) := by decide +kernel
theorem f300_4 : aF 4 zM300.2.2.2.2.2.2.2 = some (4, .invokestatic 258, 3, 196, 0) := by decide +kernel
theorem f300_7 : aF 7 zM300.2.2.2.2.2.2.2 = some (7, .ifCond .eq 13, 3, 20, 0) := by decide +kernel
theorem f300_10 : aF 10 zM300.2.2.2.2.2.2.2 = some (10, .iload_n 2, 1, 0, 0) := by decide +kernel
theorem f300_11 : aF 11 zM300.2.2.2.2.2.2.2 = some (11, .iconst 0, 1, 0, 0) := by decide +kernel
theorem f300_12 : aF 12 zM300.2.2.2.2.2.2.2 = some (12, .bipush 99, 2, 0, 0) := by decide +kernel
theorem f300_14 : aF 14 zM300.2.2.2.2.2.2.2 = some (14, .invokestatic 258, 3, 196, 0) := by decide +kernel
theorem f300_17 : aF 17 zM300.2.2.2.2.2.2.2 = some (17, .ifCond .ne 5, 3, 22, 0) := by decide +kernel
theorem f300_20 : aF 20 zM300.2.2.2.2.2.2.2 = some (20, .iconst (-1), 1, 0, 0) := by decide +kernel
theorem f300_21 : aF 21 zM300.2.2.2.2.2.2.2 = some (21, .ireturn, 1, 0, 0) := by decide +kernel
theorem f300_22 : aF 22 zM300.2.2.2.2.2.2.2 = some (22, .aload_n 0, 1, 0, 0) := by decide +kernel
theorem f300_23 : aF 23 zM300.2.2.2.2.2.2.2 = some (23, .getfield 225, 3, 12, 89) := by decide +kernel
theorem f300_26 : aF 26 zM300.2.2.2.2.2.2.2 = some (26, .iload_n 1, 1, 0, 0) := by decide +kernel
theorem f300_27 : aF 27 zM300.2.2.2.2.2.2.2 = some (27, .iaload, 1, 0, 0) := by decide +kernel
theorem f300_28 : aF 28 zM300.2.2.2.2.2.2.2 = some (28, .istore_n 3, 1, 0, 0) := by decide +kernel
theorem f300_29 : aF 29 zM300.2.2.2.2.2.2.2 = some (29, .aload_n 0, 1, 0, 0) := by decide +kernel
theorem f300_30 : aF 30 zM300.2.2.2.2.2.2.2 = some (30, .getfield 225, 3, 12, 89) := by decide +kernel
theorem f300_33 : aF 33 zM300.2.2.2.2.2.2.2 = some (33, .iload_n 1, 1, 0, 0) := by decide +kernel
theorem f300_34 : aF 34 zM300.2.2.2.2.2.2.2 = some (34, .iload_n 2, 1, 0, 0) := by decide +kernel
theorem f300_35 : aF 35 zM300.2.2.2.2.2.2.2 = some (35, .iastore, 1, 0, 0) := by decide +kernel
theorem f300_36 : aF 36 zM300.2.2.2.2.2.2.2 = some (36, .iload_n 3, 1, 0, 0) := by decide +kernel
theorem f300_37 : aF 37 zM300.2.2.2.2.2.2.2 = some (37, .ireturn, 1, 0, 0) := by decide +kernel
theorem f302_0 : aF 0 zM302.2.2.2.2.2.2.2 = some (0, .aload_n 0, 1, 0, 0) := by decide +kernel
theorem f302_1 : aF 1 zM302.2.2.2.2.2.2.2 = some (1, .getfield 546, 3, 12, 87) := by decide +kernel
theorem f302_4 : aF 4 zM302.2.2.2.2.2.2.2 = some (4, .ifCond .eq 22, 3, 26, 0) := by decide +kernel
theorem f302_26 : aF 26 zM302.2.2.2.2.2.2.2 = some (26, .iconst (-1), 1, 0, 0) := by decide +kernel
theorem f302_27 : aF 27 zM302.2.2.2.2.2.2.2 = some (27, .ireturn, 1, 0, 0) := by decide +kernel
theorem f303_0 : aF 0 zM303.2.2.2.2.2.2.2 = some (0, .iload_n 1, 1, 0, 0) := by decide +kernel
theorem f303_1 : aF 1 zM303.2.2.2.2.2.2.2 = some (1, .iconst 0, 1, 0, 0) := by decide +kernel
theorem f303_2 : aF 2 zM303.2.2.2.2.2.2.2 = some (2, .aload_n 0, 1, 0, 0) := by decide +kernel
theorem f303_3 : aF 3 zM303.2.2.2.2.2.2.2 = some (3, .getfield 237, 3, 12, 93) := by decide +kernel
theorem f303_6 : aF 6 zM303.2.2.2.2.2.2.2 = some (6, .iconst 1, 1, 0, 0) := by decide +kernel
theorem f303_7 : aF 7 zM303.2.2.2.2.2.2.2 = some (7, .isub, 1, 0, 0) := by decide +kernel
theorem f303_8 : aF 8 zM303.2.2.2.2.2.2.2 = some (8, .invokestatic 258, 3, 196, 0) := by decide +kernel
theorem f303_11 : aF 11 zM303.2.2.2.2.2.2.2 = some (11, .ifCond .eq 12, 3, 23, 0) := by decide +kernel
theorem f303_23 : aF 23 zM303.2.2.2.2.2.2.2 = some (23, .iconst (-1), 1, 0, 0) := by decide +kernel
theorem f303_24 : aF 24 zM303.2.2.2.2.2.2.2 = some (24, .ireturn, 1, 0, 0) := by decide +kernel
theorem f304_0 : aF 0 zM304.2.2.2.2.2.2.2 = some (0, .iload_n 1, 1, 0, 0) := by decide +kernel
theorem f304_1 : aF 1 zM304.2.2.2.2.2.2.2 = some (1, .iconst 0, 1, 0, 0) := by decide +kernel
theorem f304_2 : aF 2 zM304.2.2.2.2.2.2.2 = some (2, .aload_n 0, 1, 0, 0) := by decide +kernel
theorem f304_3 : aF 3 zM304.2.2.2.2.2.2.2 = some (3, .getfield 445, 3, 12, 55) := by decide +kernel
theorem f304_6 : aF 6 zM304.2.2.2.2.2.2.2 = some (6, .iconst 1, 1, 0, 0) := by decide +kernel
theorem f304_7 : aF 7 zM304.2.2.2.2.2.2.2 = some (7, .isub, 1, 0, 0) := by decide +kernel
theorem f304_8 : aF 8 zM304.2.2.2.2.2.2.2 = some (8, .invokestatic 258, 3, 196, 0) := by decide +kernel
theorem f304_11 : aF 11 zM304.2.2.2.2.2.2.2 = some (11, .ifCond .eq 39, 3, 50, 0) := by decide +kernel
theorem f304_50 : aF 50 zM304.2.2.2.2.2.2.2 = some (50, .iconst (-1), 1, 0, 0) := by decide +kernel
theorem f304_51 : aF 51 zM304.2.2.2.2.2.2.2 = some (51, .ireturn, 1, 0, 0) := by decide +kernel
theorem f316_0 : aF 0 zM316.2.2.2.2.2.2.2 = some (0, .aload_n 0, 1, 0, 0) := by decide +kernel
theorem f316_1 : aF 1 zM316.2.2.2.2.2.2.2 = some (1, .iconst 0, 1, 0, 0) := by decide +kernel
theorem f316_2 : aF 2 zM316.2.2.2.2.2.2.2 = some (2, .putfield 556, 3, 12, 95) := by decide +kernel
theorem f316_5 : aF 5 zM316.2.2.2.2.2.2.2 = some (5, .aload_n 0, 1, 0, 0) := by decide +kernel
theorem f316_6 : aF 6 zM316.2.2.2.2.2.2.2 = some (6, .iload_n 1, 1, 0, 0) := by decide +kernel
theorem f316_7 : aF 7 zM316.2.2.2.2.2.2.2 = some (7, .invokevirtual 268, 3, 200, 0) := by decide +kernel
theorem f316_10 : aF 10 zM316.2.2.2.2.2.2.2 = some (10, .ifCond .eq 12, 3, 22, 0) := by decide +kernel
theorem f316_22 : aF 22 zM316.2.2.2.2.2.2.2 = some (22, .iconst 0, 1, 0, 0) := by decide +kernel
theorem f316_23 : aF 23 zM316.2.2.2.2.2.2.2 = some (23, .ireturn, 1, 0, 0) := by decide +kernel
theorem f317_0 : aF 0 zM317.2.2.2.2.2.2.2 = some (0, .iload_n 1, 1, 0, 0) := by decide +kernel
theorem f317_1 : aF 1 zM317.2.2.2.2.2.2.2 = some (1, .ifCond .lt 26, 3, 27, 0) := by decide +kernel
theorem f317_4 : aF 4 zM317.2.2.2.2.2.2.2 = some (4, .iload_n 1, 1, 0, 0) := by decide +kernel
theorem f317_5 : aF 5 zM317.2.2.2.2.2.2.2 = some (5, .aload_n 0, 1, 0, 0) := by decide +kernel
theorem f317_6 : aF 6 zM317.2.2.2.2.2.2.2 = some (6, .getfield 556, 3, 12, 95) := by decide +kernel
theorem f317_9 : aF 9 zM317.2.2.2.2.2.2.2 = some (9, .if_icmp .ge 18, 3, 27, 0) := by decide +kernel
theorem f317_27 : aF 27 zM317.2.2.2.2.2.2.2 = some (27, .iconst (-1), 1, 0, 0) := by decide +kernel
theorem f317_28 : aF 28 zM317.2.2.2.2.2.2.2 = some (28, .ireturn, 1, 0, 0) := by decide +kernel
theorem f318_0 : aF 0 zM318.2.2.2.2.2.2.2 = some (0, .iload_n 0, 1, 0, 0) := by decide +kernel
theorem f318_1 : aF 1 zM318.2.2.2.2.2.2.2 = some (1, .iconst 0, 1, 0, 0) := by decide +kernel
theorem f318_2 : aF 2 zM318.2.2.2.2.2.2.2 = some (2, .iconst 5, 1, 0, 0) := by decide +kernel
theorem f318_3 : aF 3 zM318.2.2.2.2.2.2.2 = some (3, .invokestatic 258, 3, 196, 0) := by decide +kernel
theorem f318_6 : aF 6 zM318.2.2.2.2.2.2.2 = some (6, .ireturn, 1, 0, 0) := by decide +kernel
theorem f319_0 : aF 0 zM319.2.2.2.2.2.2.2 = some (0, .iload_n 1, 1, 0, 0) := by decide +kernel
theorem f319_1 : aF 1 zM319.2.2.2.2.2.2.2 = some (1, .invokestatic 382, 3, 318, 0) := by decide +kernel
theorem f319_4 : aF 4 zM319.2.2.2.2.2.2.2 = some (4, .ifCond .eq 16, 3, 20, 0) := by decide +kernel
theorem f319_7 : aF 7 zM319.2.2.2.2.2.2.2 = some (7, .iload_n 2, 1, 0, 0) := by decide +kernel
theorem f319_8 : aF 8 zM319.2.2.2.2.2.2.2 = some (8, .iconst (-1), 1, 0, 0) := by decide +kernel
theorem f319_9 : aF 9 zM319.2.2.2.2.2.2.2 = some (9, .if_icmp .eq 13, 3, 22, 0) := by decide +kernel
theorem f319_12 : aF 12 zM319.2.2.2.2.2.2.2 = some (12, .aload_n 0, 1, 0, 0) := by decide +kernel
theorem f319_13 : aF 13 zM319.2.2.2.2.2.2.2 = some (13, .iload_n 2, 1, 0, 0) := by decide +kernel
theorem f319_14 : aF 14 zM319.2.2.2.2.2.2.2 = some (14, .invokevirtual 268, 3, 200, 0) := by decide +kernel
theorem f319_17 : aF 17 zM319.2.2.2.2.2.2.2 = some (17, .ifCond .ne 5, 3, 22, 0) := by decide +kernel
theorem f319_20 : aF 20 zM319.2.2.2.2.2.2.2 = some (20, .iconst (-1), 1, 0, 0) := by decide +kernel
theorem f319_21 : aF 21 zM319.2.2.2.2.2.2.2 = some (21, .ireturn, 1, 0, 0) := by decide +kernel
theorem f319_22 : aF 22 zM319.2.2.2.2.2.2.2 = some (22, .aload_n 0, 1, 0, 0) := by decide +kernel
theorem f319_23 : aF 23 zM319.2.2.2.2.2.2.2 = some (23, .getfield 243, 3, 12, 97) := by decide +kernel
theorem f319_26 : aF 26 zM319.2.2.2.2.2.2.2 = some (26, .iload_n 1, 1, 0, 0) := by decide +kernel
theorem f319_27 : aF 27 zM319.2.2.2.2.2.2.2 = some (27, .iload_n 2, 1, 0, 0) := by decide +kernel
theorem f319_28 : aF 28 zM319.2.2.2.2.2.2.2 = some (28, .iastore, 1, 0, 0) := by decide +kernel
theorem f319_29 : aF 29 zM319.2.2.2.2.2.2.2 = some (29, .iconst 1, 1, 0, 0) := by decide +kernel
theorem f319_30 : aF 30 zM319.2.2.2.2.2.2.2 = some (30, .ireturn, 1, 0, 0) := by decide +kernel
theorem f321_0 : aF 0 zM321.2.2.2.2.2.2.2 = some (0, .iload_n 1, 1, 0, 0) := by decide +kernel
theorem f321_1 : aF 1 zM321.2.2.2.2.2.2.2 = some (1, .invokestatic 382, 3, 318, 0) := by decide +kernel
theorem f321_4 : aF 4 zM321.2.2.2.2.2.2.2 = some (4, .ifCond .ne 5, 3, 9, 0) := by decide +kernel
theorem f321_7 : aF 7 zM321.2.2.2.2.2.2.2 = some (7, .iconst (-1), 1, 0, 0) := by decide +kernel
theorem f321_8 : aF 8 zM321.2.2.2.2.2.2.2 = some (8, .ireturn, 1, 0, 0) := by decide +kernel
theorem f321_9 : aF 9 zM321.2.2.2.2.2.2.2 = some (9, .aload_n 0, 1, 0, 0) := by decide +kernel
theorem f321_10 : aF 10 zM321.2.2.2.2.2.2.2 = some (10, .getfield 243, 3, 12, 97) := by decide +kernel
theorem f321_13 : aF 13 zM321.2.2.2.2.2.2.2 = some (13, .iload_n 1, 1, 0, 0) := by decide +kernel
theorem f321_14 : aF 14 zM321.2.2.2.2.2.2.2 = some (14, .iaload, 1, 0, 0) := by decide +kernel
theorem f321_15 : aF 15 zM321.2.2.2.2.2.2.2 = some (15, .iconst (-1), 1, 0, 0) := by decide +kernel
theorem f321_16 : aF 16 zM321.2.2.2.2.2.2.2 = some (16, .if_icmp .ne 6, 3, 22, 0) := by decide +kernel
theorem f321_19 : aF 19 zM321.2.2.2.2.2.2.2 = some (19, .bipush (-11), 2, 0, 0) := by decide +kernel
theorem f321_21 : aF 21 zM321.2.2.2.2.2.2.2 = some (21, .ireturn, 1, 0, 0) := by decide +kernel
theorem f322_0 : aF 0 zM322.2.2.2.2.2.2.2 = some (0, .aload_n 0, 1, 0, 0) := by decide +kernel
theorem f322_1 : aF 1 zM322.2.2.2.2.2.2.2 = some (1, .iload_n 1, 1, 0, 0) := by decide +kernel
theorem f322_2 : aF 2 zM322.2.2.2.2.2.2.2 = some (2, .iload_n 2, 1, 0, 0) := by decide +kernel
theorem f322_3 : aF 3 zM322.2.2.2.2.2.2.2 = some (3, .invokevirtual 592, 3, 321, 0) := by decide +kernel
theorem f322_6 : aF 6 zM322.2.2.2.2.2.2.2 = some (6, .istore 5, 2, 0, 0) := by decide +kernel
theorem f322_8 : aF 8 zM322.2.2.2.2.2.2.2 = some (8, .iload 5, 2, 0, 0) := by decide +kernel
theorem f322_10 : aF 10 zM322.2.2.2.2.2.2.2 = some (10, .ifCond .ge 6, 3, 16, 0) := by decide +kernel
theorem f322_13 : aF 13 zM322.2.2.2.2.2.2.2 = some (13, .iload 5, 2, 0, 0) := by decide +kernel
theorem f322_15 : aF 15 zM322.2.2.2.2.2.2.2 = some (15, .ireturn, 1, 0, 0) := by decide +kernel
theorem f323_0 : aF 0 zM323.2.2.2.2.2.2.2 = some (0, .aload_n 0, 1, 0, 0) := by decide +kernel
theorem f323_1 : aF 1 zM323.2.2.2.2.2.2.2 = some (1, .iload_n 1, 1, 0, 0) := by decide +kernel
theorem f323_2 : aF 2 zM323.2.2.2.2.2.2.2 = some (2, .iload_n 2, 1, 0, 0) := by decide +kernel
theorem f323_3 : aF 3 zM323.2.2.2.2.2.2.2 = some (3, .invokevirtual 592, 3, 321, 0) := by decide +kernel
theorem f323_6 : aF 6 zM323.2.2.2.2.2.2.2 = some (6, .ifCond .ge 9, 3, 15, 0) := by decide +kernel
theorem f323_9 : aF 9 zM323.2.2.2.2.2.2.2 = some (9, .ldc2_w 597, 3, 9223372036854775808, 0) := by decide +kernel
theorem f323_12 : aF 12 zM323.2.2.2.2.2.2.2 = some (12, .goto 14, 3, 26, 0) := by decide +kernel
theorem f323_26 : aF 26 zM323.2.2.2.2.2.2.2 = some (26, .lreturn, 1, 0, 0) := by decide +kernel
theorem f324_0 : aF 0 zM324.2.2.2.2.2.2.2 = some (0, .iload_n 1, 1, 0, 0) := by decide +kernel
theorem f324_1 : aF 1 zM324.2.2.2.2.2.2.2 = some (1, .invokestatic 382, 3, 318, 0) := by decide +kernel
theorem f324_4 : aF 4 zM324.2.2.2.2.2.2.2 = some (4, .ifCond .eq 10, 3, 14, 0) := by decide +kernel
theorem f324_7 : aF 7 zM324.2.2.2.2.2.2.2 = some (7, .iload_n 3, 1, 0, 0) := by decide +kernel
theorem f324_8 : aF 8 zM324.2.2.2.2.2.2.2 = some (8, .invokestatic 382, 3, 318, 0) := by decide +kernel
theorem f324_11 : aF 11 zM324.2.2.2.2.2.2.2 = some (11, .ifCond .ne 5, 3, 16, 0) := by decide +kernel
theorem f324_14 : aF 14 zM324.2.2.2.2.2.2.2 = some (14, .iconst (-1), 1, 0, 0) := by decide +kernel
theorem f324_15 : aF 15 zM324.2.2.2.2.2.2.2 = some (15, .ireturn, 1, 0, 0) := by decide +kernel
theorem f324_16 : aF 16 zM324.2.2.2.2.2.2.2 = some (16, .aload_n 0, 1, 0, 0) := by decide +kernel
theorem f324_17 : aF 17 zM324.2.2.2.2.2.2.2 = some (17, .getfield 243, 3, 12, 97) := by decide +kernel
theorem f324_20 : aF 20 zM324.2.2.2.2.2.2.2 = some (20, .iload_n 1, 1, 0, 0) := by decide +kernel
theorem f324_21 : aF 21 zM324.2.2.2.2.2.2.2 = some (21, .iaload, 1, 0, 0) := by decide +kernel
theorem f324_22 : aF 22 zM324.2.2.2.2.2.2.2 = some (22, .iconst (-1), 1, 0, 0) := by decide +kernel
theorem f324_23 : aF 23 zM324.2.2.2.2.2.2.2 = some (23, .if_icmp .eq 13, 3, 36, 0) := by decide +kernel
theorem f324_36 : aF 36 zM324.2.2.2.2.2.2.2 = some (36, .bipush (-11), 2, 0, 0) := by decide +kernel
theorem f324_38 : aF 38 zM324.2.2.2.2.2.2.2 = some (38, .ireturn, 1, 0, 0) := by decide +kernel
theorem f325_0 : aF 0 zM325.2.2.2.2.2.2.2 = some (0, .iload_n 1, 1, 0, 0) := by decide +kernel
theorem f325_1 : aF 1 zM325.2.2.2.2.2.2.2 = some (1, .invokestatic 382, 3, 318, 0) := by decide +kernel
theorem f325_4 : aF 4 zM325.2.2.2.2.2.2.2 = some (4, .ifCond .eq 13, 3, 17, 0) := by decide +kernel
theorem f325_7 : aF 7 zM325.2.2.2.2.2.2.2 = some (7, .iload_n 2, 1, 0, 0) := by decide +kernel
theorem f325_8 : aF 8 zM325.2.2.2.2.2.2.2 = some (8, .iconst 0, 1, 0, 0) := by decide +kernel
theorem f325_9 : aF 9 zM325.2.2.2.2.2.2.2 = some (9, .bipush 7, 2, 0, 0) := by decide +kernel
theorem f325_11 : aF 11 zM325.2.2.2.2.2.2.2 = some (11, .invokestatic 258, 3, 196, 0) := by decide +kernel
theorem f325_14 : aF 14 zM325.2.2.2.2.2.2.2 = some (14, .ifCond .ne 5, 3, 19, 0) := by decide +kernel
theorem f325_17 : aF 17 zM325.2.2.2.2.2.2.2 = some (17, .iconst (-1), 1, 0, 0) := by decide +kernel
theorem f325_18 : aF 18 zM325.2.2.2.2.2.2.2 = some (18, .ireturn, 1, 0, 0) := by decide +kernel
theorem f325_19 : aF 19 zM325.2.2.2.2.2.2.2 = some (19, .aload_n 0, 1, 0, 0) := by decide +kernel
theorem f325_20 : aF 20 zM325.2.2.2.2.2.2.2 = some (20, .getfield 243, 3, 12, 97) := by decide +kernel
theorem f325_23 : aF 23 zM325.2.2.2.2.2.2.2 = some (23, .iload_n 1, 1, 0, 0) := by decide +kernel
theorem f325_24 : aF 24 zM325.2.2.2.2.2.2.2 = some (24, .iaload, 1, 0, 0) := by decide +kernel
theorem f325_25 : aF 25 zM325.2.2.2.2.2.2.2 = some (25, .iconst (-1), 1, 0, 0) := by decide +kernel
theorem f325_26 : aF 26 zM325.2.2.2.2.2.2.2 = some (26, .if_icmp .ne 6, 3, 32, 0) := by decide +kernel
theorem f325_29 : aF 29 zM325.2.2.2.2.2.2.2 = some (29, .bipush (-11), 2, 0, 0) := by decide +kernel
theorem f325_31 : aF 31 zM325.2.2.2.2.2.2.2 = some (31, .ireturn, 1, 0, 0) := by decide +kernel
theorem f326_0 : aF 0 zM326.2.2.2.2.2.2.2 = some (0, .iconst 0, 1, 0, 0) := by decide +kernel
theorem f326_1 : aF 1 zM326.2.2.2.2.2.2.2 = some (1, .istore_n 2, 1, 0, 0) := by decide +kernel
theorem f326_2 : aF 2 zM326.2.2.2.2.2.2.2 = some (2, .iconst 0, 1, 0, 0) := by decide +kernel
theorem f326_3 : aF 3 zM326.2.2.2.2.2.2.2 = some (3, .istore_n 3, 1, 0, 0) := by decide +kernel
theorem f326_4 : aF 4 zM326.2.2.2.2.2.2.2 = some (4, .iload_n 3, 1, 0, 0) := by decide +kernel
theorem f326_5 : aF 5 zM326.2.2.2.2.2.2.2 = some (5, .aload_n 0, 1, 0, 0) := by decide +kernel
theorem f326_6 : aF 6 zM326.2.2.2.2.2.2.2 = some (6, .getfield 265, 3, 12, 2) := by decide +kernel
theorem f326_9 : aF 9 zM326.2.2.2.2.2.2.2 = some (9, .if_icmp .ge 30, 3, 39, 0) := by decide +kernel
theorem f326_39 : aF 39 zM326.2.2.2.2.2.2.2 = some (39, .iload_n 2, 1, 0, 0) := by decide +kernel
theorem f326_40 : aF 40 zM326.2.2.2.2.2.2.2 = some (40, .ireturn, 1, 0, 0) := by decide +kernel
theorem f327_0 : aF 0 zM327.2.2.2.2.2.2.2 = some (0, .iload_n 1, 1, 0, 0) := by decide +kernel
theorem f327_1 : aF 1 zM327.2.2.2.2.2.2.2 = some (1, .tableswitch 127 0 11 #[63, 68, 74, 80, 87, 92, 97, 102, 107, 112, 117, 122], 63, 0, 0) := by decide +kernel
theorem f327_64 : aF 64 zM327.2.2.2.2.2.2.2 = some (64, .aload_n 0, 1, 0, 0) := by decide +kernel
theorem f327_65 : aF 65 zM327.2.2.2.2.2.2.2 = some (65, .getfield 265, 3, 12, 2) := by decide +kernel
theorem f327_68 : aF 68 zM327.2.2.2.2.2.2.2 = some (68, .ireturn, 1, 0, 0) := by decide +kernel
theorem f327_69 : aF 69 zM327.2.2.2.2.2.2.2 = some (69, .aload_n 0, 1, 0, 0) := by decide +kernel
theorem f327_70 : aF 70 zM327.2.2.2.2.2.2.2 = some (70, .iconst 1, 1, 0, 0) := by decide +kernel
theorem f327_71 : aF 71 zM327.2.2.2.2.2.2.2 = some (71, .invokevirtual 599, 3, 326, 0) := by decide +kernel
theorem f327_74 : aF 74 zM327.2.2.2.2.2.2.2 = some (74, .ireturn, 1, 0, 0) := by decide +kernel
theorem f327_75 : aF 75 zM327.2.2.2.2.2.2.2 = some (75, .aload_n 0, 1, 0, 0) := by decide +kernel
theorem f327_76 : aF 76 zM327.2.2.2.2.2.2.2 = some (76, .iconst 4, 1, 0, 0) := by decide +kernel
theorem f327_77 : aF 77 zM327.2.2.2.2.2.2.2 = some (77, .invokevirtual 599, 3, 326, 0) := by decide +kernel
theorem f327_80 : aF 80 zM327.2.2.2.2.2.2.2 = some (80, .ireturn, 1, 0, 0) := by decide +kernel
theorem f327_81 : aF 81 zM327.2.2.2.2.2.2.2 = some (81, .aload_n 0, 1, 0, 0) := by decide +kernel
theorem f327_82 : aF 82 zM327.2.2.2.2.2.2.2 = some (82, .bipush 6, 2, 0, 0) := by decide +kernel
theorem f327_84 : aF 84 zM327.2.2.2.2.2.2.2 = some (84, .invokevirtual 599, 3, 326, 0) := by decide +kernel
theorem f327_87 : aF 87 zM327.2.2.2.2.2.2.2 = some (87, .ireturn, 1, 0, 0) := by decide +kernel
theorem f327_88 : aF 88 zM327.2.2.2.2.2.2.2 = some (88, .aload_n 0, 1, 0, 0) := by decide +kernel
theorem f327_89 : aF 89 zM327.2.2.2.2.2.2.2 = some (89, .getfield 336, 3, 12, 19) := by decide +kernel
theorem f327_92 : aF 92 zM327.2.2.2.2.2.2.2 = some (92, .ireturn, 1, 0, 0) := by decide +kernel
theorem f327_93 : aF 93 zM327.2.2.2.2.2.2.2 = some (93, .aload_n 0, 1, 0, 0) := by decide +kernel
theorem f327_94 : aF 94 zM327.2.2.2.2.2.2.2 = some (94, .getfield 328, 3, 12, 14) := by decide +kernel
theorem f327_97 : aF 97 zM327.2.2.2.2.2.2.2 = some (97, .ireturn, 1, 0, 0) := by decide +kernel
theorem f327_98 : aF 98 zM327.2.2.2.2.2.2.2 = some (98, .aload_n 0, 1, 0, 0) := by decide +kernel
theorem f327_99 : aF 99 zM327.2.2.2.2.2.2.2 = some (99, .getfield 352, 3, 12, 32) := by decide +kernel
theorem f327_102 : aF 102 zM327.2.2.2.2.2.2.2 = some (102, .ireturn, 1, 0, 0) := by decide +kernel
theorem f327_103 : aF 103 zM327.2.2.2.2.2.2.2 = some (103, .aload_n 0, 1, 0, 0) := by decide +kernel
theorem f327_104 : aF 104 zM327.2.2.2.2.2.2.2 = some (104, .getfield 262, 3, 12, 1) := by decide +kernel
theorem f327_107 : aF 107 zM327.2.2.2.2.2.2.2 = some (107, .ireturn, 1, 0, 0) := by decide +kernel
theorem f327_108 : aF 108 zM327.2.2.2.2.2.2.2 = some (108, .aload_n 0, 1, 0, 0) := by decide +kernel
theorem f327_109 : aF 109 zM327.2.2.2.2.2.2.2 = some (109, .getfield 445, 3, 12, 55) := by decide +kernel
theorem f327_112 : aF 112 zM327.2.2.2.2.2.2.2 = some (112, .ireturn, 1, 0, 0) := by decide +kernel
theorem f327_113 : aF 113 zM327.2.2.2.2.2.2.2 = some (113, .aload_n 0, 1, 0, 0) := by decide +kernel
theorem f327_114 : aF 114 zM327.2.2.2.2.2.2.2 = some (114, .getfield 391, 3, 12, 54) := by decide +kernel
theorem f327_117 : aF 117 zM327.2.2.2.2.2.2.2 = some (117, .ireturn, 1, 0, 0) := by decide +kernel
theorem f327_118 : aF 118 zM327.2.2.2.2.2.2.2 = some (118, .aload_n 0, 1, 0, 0) := by decide +kernel
theorem f327_119 : aF 119 zM327.2.2.2.2.2.2.2 = some (119, .getfield 283, 3, 12, 11) := by decide +kernel
theorem f327_122 : aF 122 zM327.2.2.2.2.2.2.2 = some (122, .ireturn, 1, 0, 0) := by decide +kernel
theorem f327_123 : aF 123 zM327.2.2.2.2.2.2.2 = some (123, .aload_n 0, 1, 0, 0) := by decide +kernel
theorem f327_124 : aF 124 zM327.2.2.2.2.2.2.2 = some (124, .getfield 556, 3, 12, 95) := by decide +kernel
theorem f327_127 : aF 127 zM327.2.2.2.2.2.2.2 = some (127, .ireturn, 1, 0, 0) := by decide +kernel
theorem f327_128 : aF 128 zM327.2.2.2.2.2.2.2 = some (128, .iconst (-1), 1, 0, 0) := by decide +kernel
theorem f327_129 : aF 129 zM327.2.2.2.2.2.2.2 = some (129, .ireturn, 1, 0, 0) := by decide +kernel
set_option maxRecDepth 20000 in
theorem zg32 : zmt[32]? = some zM32 := rfl
set_option maxRecDepth 20000 in
theorem zg40 : zmt[40]? = some zM40 := rfl
set_option maxRecDepth 20000 in
theorem zg45 : zmt[45]? = some zM45 := rfl
set_option maxRecDepth 20000 in
theorem zg71 : zmt[71]? = some zM71 := rfl
set_option maxRecDepth 20000 in
theorem zg73 : zmt[73]? = some zM73 := rfl
set_option maxRecDepth 20000 in
theorem zg74 : zmt[74]? = some zM74 := rfl
set_option maxRecDepth 20000 in
theorem zg75 : zmt[75]? = some zM75 := rfl
set_option maxRecDepth 20000 in
theorem zg77 : zmt[77]? = some zM77 := rfl
set_option maxRecDepth 20000 in
theorem zg78 : zmt[78]? = some zM78 := rfl
set_option maxRecDepth 20000 in
theorem zg79 : zmt[79]? = some zM79 := rfl
set_option maxRecDepth 20000 in
theorem zg80 : zmt[80]? = some zM80 := rfl
set_option maxRecDepth 20000 in
theorem zg88 : zmt[88]? = some zM88 := rfl
set_option maxRecDepth 20000 in
theorem zg89 : zmt[89]? = some zM89 := rfl
set_option maxRecDepth 20000 in
theorem zg107 : zmt[107]? = some zM107 := rfl
set_option maxRecDepth 20000 in
theorem zg110 : zmt[110]? = some zM110 := rfl
set_option maxRecDepth 20000 in
theorem zg111 : zmt[111]? = some zM111 := rfl
set_option maxRecDepth 20000 in
theorem zg112 : zmt[112]? = some zM112 := rfl
set_option maxRecDepth 20000 in
theorem zg114 : zmt[114]? = some zM114 := rfl
set_option maxRecDepth 20000 in
theorem zg115 : zmt[115]? = some zM115 := rfl
set_option maxRecDepth 20000 in
theorem zg117 : zmt[117]? = some zM117 := rfl
set_option maxRecDepth 20000 in
theorem zg118 : zmt[118]? = some zM118 := rfl
set_option maxRecDepth 20000 in
theorem zg119 : zmt[119]? = some zM119 := rfl
set_option maxRecDepth 20000 in
theorem zg120 : zmt[120]? = some zM120 := rfl
set_option maxRecDepth 20000 in
theorem zg122 : zmt[122]? = some zM122 := rfl
set_option maxRecDepth 20000 in
theorem zg123 : zmt[123]? = some zM123 := rfl
set_option maxRecDepth 20000 in
theorem zg124 : zmt[124]? = some zM124 := rfl
set_option maxRecDepth 20000 in
theorem zg125 : zmt[125]? = some zM125 := rfl
set_option maxRecDepth 20000 in
theorem zg126 : zmt[126]? = some zM126 := rfl
set_option maxRecDepth 20000 in
theorem zg128 : zmt[128]? = some zM128 := rfl
set_option maxRecDepth 20000 in
theorem zg129 : zmt[129]? = some zM129 := rfl
set_option maxRecDepth 20000 in
theorem zg130 : zmt[130]? = some zM130 := rfl
set_option maxRecDepth 20000 in
theorem zg131 : zmt[131]? = some zM131 := rfl
set_option maxRecDepth 20000 in
theorem zg132 : zmt[132]? = some zM132 := rfl
set_option maxRecDepth 20000 in
theorem zg133 : zmt[133]? = some zM133 := rfl
set_option maxRecDepth 20000 in
theorem zg134 : zmt[134]? = some zM134 := rfl
set_option maxRecDepth 20000 in
theorem zg137 : zmt[137]? = some zM137 := rfl
set_option maxRecDepth 20000 in
theorem zg138 : zmt[138]? = some zM138 := rfl
set_option maxRecDepth 20000 in
theorem zg139 : zmt[139]? = some zM139 := rfl
set_option maxRecDepth 20000 in
theorem zg140 : zmt[140]? = some zM140 := rfl
set_option maxRecDepth 20000 in
theorem zg141 : zmt[141]? = some zM141 := rfl
set_option maxRecDepth 20000 in
theorem zg142 : zmt[142]? = some zM142 := rfl
set_option maxRecDepth 20000 in
theorem zg143 : zmt[143]? = some zM143 := rfl
set_option maxRecDepth 20000 in
theorem zg144 : zmt[144]? = some zM144 := rfl
set_option maxRecDepth 20000 in
theorem zg145 : zmt[145]? = some zM145 := rfl
set_option maxRecDepth 20000 in
theorem zg146 : zmt[146]? = some zM146 := rfl
set_option maxRecDepth 20000 in
theorem zg147 : zmt[147]? = some zM147 := rfl
set_option maxRecDepth 20000 in
theorem zg148 : zmt[148]? = some zM148 := rfl
set_option maxRecDepth 20000 in
theorem zg149 : zmt[149]? = some zM149 := rfl
set_option maxRecDepth 20000 in
theorem zg150 : zmt[150]? = some zM150 := rfl
set_option maxRecDepth 20000 in
theorem zg151 : zmt[151]? = some zM151 := rfl
set_option maxRecDepth 20000 in
theorem zg152 : zmt[152]? = some zM152 := rfl
set_option maxRecDepth 20000 in
theorem zg153 : zmt[153]? = some zM153 := rfl
set_option maxRecDepth 20000 in
theorem zg154 : zmt[154]? = some zM154 := rfl
set_option maxRecDepth 20000 in
theorem zg155 : zmt[155]? = some zM155 := rfl
set_option maxRecDepth 20000 in
theorem zg156 : zmt[156]? = some zM156 := rfl
set_option maxRecDepth 20000 in
theorem zg157 : zmt[157]? = some zM157 := rfl
set_option maxRecDepth 20000 in
theorem zg158 : zmt[158]? = some zM158 := rfl
set_option maxRecDepth 20000 in
theorem zg159 : zmt[159]? = some zM159 := rfl
set_option maxRecDepth 20000 in
theorem zg160 : zmt[160]? = some zM160 := rfl
set_option maxRecDepth 20000 in
theorem zg161 : zmt[161]? = some zM161 := rfl
set_option maxRecDepth 20000 in
theorem zg162 : zmt[162]? = some zM162 := rfl
set_option maxRecDepth 20000 in
theorem zg163 : zmt[163]? = some zM163 := rfl
set_option maxRecDepth 20000 in
theorem zg164 : zmt[164]? = some zM164 := rfl
set_option maxRecDepth 20000 in
theorem zg165 : zmt[165]? = some zM165 := rfl
set_option maxRecDepth 20000 in
theorem zg166 : zmt[166]? = some zM166 := rfl
set_option maxRecDepth 20000 in
theorem zg167 : zmt[167]? = some zM167 := rfl
set_option maxRecDepth 20000 in
theorem zg168 : zmt[168]? = some zM168 := rfl
set_option maxRecDepth 20000 in
theorem zg169 : zmt[169]? = some zM169 := rfl
set_option maxRecDepth 20000 in
theorem zg170 : zmt[170]? = some zM170 := rfl
set_option maxRecDepth 20000 in
theorem zg171 : zmt[171]? = some zM171 := rfl
set_option maxRecDepth 20000 in
theorem zg172 : zmt[172]? = some zM172 := rfl
set_option maxRecDepth 20000 in
theorem zg173 : zmt[173]? = some zM173 := rfl
set_option maxRecDepth 20000 in
theorem zg174 : zmt[174]? = some zM174 := rfl
set_option maxRecDepth 20000 in
theorem zg176 : zmt[176]? = some zM176 := rfl
set_option maxRecDepth 20000 in
theorem zg177 : zmt[177]? = some zM177 := rfl
set_option maxRecDepth 20000 in
theorem zg179 : zmt[179]? = some zM179 := rfl
set_option maxRecDepth 20000 in
theorem zg181 : zmt[181]? = some zM181 := rfl
set_option maxRecDepth 20000 in
theorem zg182 : zmt[182]? = some zM182 := rfl
set_option maxRecDepth 20000 in
theorem zg183 : zmt[183]? = some zM183 := rfl
set_option maxRecDepth 20000 in
theorem zg184 : zmt[184]? = some zM184 := rfl
set_option maxRecDepth 20000 in
theorem zg185 : zmt[185]? = some zM185 := rfl
set_option maxRecDepth 20000 in
theorem zg186 : zmt[186]? = some zM186 := rfl
set_option maxRecDepth 20000 in
theorem zg187 : zmt[187]? = some zM187 := rfl
set_option maxRecDepth 20000 in
theorem zg188 : zmt[188]? = some zM188 := rfl
set_option maxRecDepth 20000 in
theorem zg190 : zmt[190]? = some zM190 := rfl
set_option maxRecDepth 20000 in
theorem zg191 : zmt[191]? = some zM191 := rfl
set_option maxRecDepth 20000 in
theorem zg192 : zmt[192]? = some zM192 := rfl
set_option maxRecDepth 20000 in
theorem zg193 : zmt[193]? = some zM193 := rfl
set_option maxRecDepth 20000 in
theorem zg194 : zmt[194]? = some zM194 := rfl
set_option maxRecDepth 20000 in
theorem zg196 : zmt[196]? = some zM196 := rfl
set_option maxRecDepth 20000 in
theorem zg197 : zmt[197]? = some zM197 := rfl
set_option maxRecDepth 20000 in
theorem zg198 : zmt[198]? = some zM198 := rfl
set_option maxRecDepth 20000 in
theorem zg199 : zmt[199]? = some zM199 := rfl
set_option maxRecDepth 20000 in
theorem zg200 : zmt[200]? = some zM200 := rfl
set_option maxRecDepth 20000 in
theorem zg201 : zmt[201]? = some zM201 := rfl
set_option maxRecDepth 20000 in
theorem zg202 : zmt[202]? = some zM202 := rfl
set_option maxRecDepth 20000 in
theorem zg203 : zmt[203]? = some zM203 := rfl
set_option maxRecDepth 20000 in
theorem zg204 : zmt[204]? = some zM204 := rfl
set_option maxRecDepth 20000 in
theorem zg205 : zmt[205]? = some zM205 := rfl
set_option maxRecDepth 20000 in
theorem zg206 : zmt[206]? = some zM206 := rfl
set_option maxRecDepth 20000 in
theorem zg207 : zmt[207]? = some zM207 := rfl
set_option maxRecDepth 20000 in
theorem zg208 : zmt[208]? = some zM208 := rfl
set_option maxRecDepth 20000 in
theorem zg209 : zmt[209]? = some zM209 := rfl
set_option maxRecDepth 20000 in
theorem zg210 : zmt[210]? = some zM210 := rfl
set_option maxRecDepth 20000 in
theorem zg218 : zmt[218]? = some zM218 := rfl
set_option maxRecDepth 20000 in
theorem zg220 : zmt[220]? = some zM220 := rfl
set_option maxRecDepth 20000 in
theorem zg222 : zmt[222]? = some zM222 := rfl
set_option maxRecDepth 20000 in
theorem zg223 : zmt[223]? = some zM223 := rfl
set_option maxRecDepth 20000 in
theorem zg224 : zmt[224]? = some zM224 := rfl
set_option maxRecDepth 20000 in
theorem zg225 : zmt[225]? = some zM225 := rfl
set_option maxRecDepth 20000 in
theorem zg227 : zmt[227]? = some zM227 := rfl
set_option maxRecDepth 20000 in
theorem zg228 : zmt[228]? = some zM228 := rfl
set_option maxRecDepth 20000 in
theorem zg230 : zmt[230]? = some zM230 := rfl
set_option maxRecDepth 20000 in
theorem zg231 : zmt[231]? = some zM231 := rfl
set_option maxRecDepth 20000 in
theorem zg232 : zmt[232]? = some zM232 := rfl
set_option maxRecDepth 20000 in
theorem zg242 : zmt[242]? = some zM242 := rfl
set_option maxRecDepth 20000 in
theorem zg243 : zmt[243]? = some zM243 := rfl
set_option maxRecDepth 20000 in
theorem zg244 : zmt[244]? = some zM244 := rfl
set_option maxRecDepth 20000 in
theorem zg245 : zmt[245]? = some zM245 := rfl
set_option maxRecDepth 20000 in
theorem zg246 : zmt[246]? = some zM246 := rfl
set_option maxRecDepth 20000 in
theorem zg247 : zmt[247]? = some zM247 := rfl
set_option maxRecDepth 20000 in
theorem zg249 : zmt[249]? = some zM249 := rfl
set_option maxRecDepth 20000 in
theorem zg250 : zmt[250]? = some zM250 := rfl
set_option maxRecDepth 20000 in
theorem zg251 : zmt[251]? = some zM251 := rfl
set_option maxRecDepth 20000 in
theorem zg252 : zmt[252]? = some zM252 := rfl
set_option maxRecDepth 20000 in
theorem zg255 : zmt[255]? = some zM255 := rfl
set_option maxRecDepth 20000 in
theorem zg256 : zmt[256]? = some zM256 := rfl
set_option maxRecDepth 20000 in
theorem zg257 : zmt[257]? = some zM257 := rfl
set_option maxRecDepth 20000 in
theorem zg258 : zmt[258]? = some zM258 := rfl
set_option maxRecDepth 20000 in
theorem zg259 : zmt[259]? = some zM259 := rfl
set_option maxRecDepth 20000 in
theorem zg260 : zmt[260]? = some zM260 := rfl
set_option maxRecDepth 20000 in
theorem zg261 : zmt[261]? = some zM261 := rfl
set_option maxRecDepth 20000 in
theorem zg262 : zmt[262]? = some zM262 := rfl
set_option maxRecDepth 20000 in
theorem zg263 : zmt[263]? = some zM263 := rfl
set_option maxRecDepth 20000 in
theorem zg264 : zmt[264]? = some zM264 := rfl
set_option maxRecDepth 20000 in
theorem zg265 : zmt[265]? = some zM265 := rfl
set_option maxRecDepth 20000 in
theorem zg266 : zmt[266]? = some zM266 := rfl
set_option maxRecDepth 20000 in
theorem zg274 : zmt[274]? = some zM274 := rfl
set_option maxRecDepth 20000 in
theorem zg278 : zmt[278]? = some zM278 := rfl
set_option maxRecDepth 20000 in
theorem zg279 : zmt[279]? = some zM279 := rfl
set_option maxRecDepth 20000 in
theorem zg280 : zmt[280]? = some zM280 := rfl
set_option maxRecDepth 20000 in
theorem zg281 : zmt[281]? = some zM281 := rfl
set_option maxRecDepth 20000 in
theorem zg289 : zmt[289]? = some zM289 := rfl
set_option maxRecDepth 20000 in
theorem zg290 : zmt[290]? = some zM290 := rfl
set_option maxRecDepth 20000 in
theorem zg294 : zmt[294]? = some zM294 := rfl
set_option maxRecDepth 20000 in
theorem zg299 : zmt[299]? = some zM299 := rfl
set_option maxRecDepth 20000 in
theorem zg300 : zmt[300]? = some zM300 := rfl
set_option maxRecDepth 20000 in
theorem zg302 : zmt[302]? = some zM302 := rfl
set_option maxRecDepth 20000 in
theorem zg303 : zmt[303]? = some zM303 := rfl
set_option maxRecDepth 20000 in
theorem zg304 : zmt[304]? = some zM304 := rfl
set_option maxRecDepth 20000 in
theorem zg316 : zmt[316]? = some zM316 := rfl
set_option maxRecDepth 20000 in
theorem zg317 : zmt[317]? = some zM317 := rfl
set_option maxRecDepth 20000 in
theorem zg318 : zmt[318]? = some zM318 := rfl
set_option maxRecDepth 20000 in
theorem zg319 : zmt[319]? = some zM319 := rfl
set_option maxRecDepth 20000 in
theorem zg321 : zmt[321]? = some zM321 := rfl
set_option maxRecDepth 20000 in
theorem zg322 : zmt[322]? = some zM322 := rfl
set_option maxRecDepth 20000 in
theorem zg323 : zmt[323]? = some zM323 := rfl
set_option maxRecDepth 20000 in
theorem zg324 : zmt[324]? = some zM324 := rfl
set_option maxRecDepth 20000 in
theorem zg325 : zmt[325]? = some zM325 := rfl
set_option maxRecDepth 20000 in
theorem zg326 : zmt[326]? = some zM326 := rfl
set_option maxRecDepth 20000 in
theorem zg327 : zmt[327]? = some zM327 := rfl

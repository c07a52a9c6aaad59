-- ===== shelves =====
theorem tl_71 : tkL 71 1 360 = true := by decide +kernel
theorem tl_69 : tkL 69 0 6 = true := by decide +kernel
theorem tl_70 : tkL 70 0 6 = true := by decide +kernel
theorem tl_142 : tkL 142 0 6 = true := by decide +kernel
theorem tl_143 : tkL 143 0 6 = true := by decide +kernel
theorem tl_144 : tkL 144 1 360 = true := by decide +kernel
theorem tl_145 : tkL 145 1 60 = true := by decide +kernel
theorem tr_68_0 : tkR 68 0 69 = true := by decide +kernel
theorem tr_68_1 : tkR 68 1 70 = true := by decide +kernel
theorem tr_68_2 : tkR 68 2 71 = true := by decide +kernel
theorem tr_72_97 : tkR 72 97 142 = true := by decide +kernel
theorem tr_72_98 : tkR 72 98 143 = true := by decide +kernel
theorem tr_0_9 : tkR 0 9 68 = true := by decide +kernel
theorem tr_72_99 : tkR 72 99 144 = true := by decide +kernel
theorem tr_72_100 : tkR 72 100 145 = true := by decide +kernel
theorem gx330_0 : aF 0 zM330.2.2.2.2.2.2.2 = some (0, (.iload_n 1), 1, 0, 0) := by decide +kernel
theorem gx330_1 : aF 1 zM330.2.2.2.2.2.2.2 = some (1, (.iload_n 2), 1, 0, 0) := by decide +kernel
theorem gx330_2 : aF 2 zM330.2.2.2.2.2.2.2 = some (2, (.if_icmp .le 44), 3, 46, 0) := by decide +kernel
theorem gx330_46 : aF 46 zM330.2.2.2.2.2.2.2 = some (46, (.iload_n 1), 1, 0, 0) := by decide +kernel
theorem gx330_47 : aF 47 zM330.2.2.2.2.2.2.2 = some (47, (.ifCond .ge 12), 3, 59, 0) := by decide +kernel
theorem gx330_59 : aF 59 zM330.2.2.2.2.2.2.2 = some (59, (.iload_n 2), 1, 0, 0) := by decide +kernel
theorem gx330_60 : aF 60 zM330.2.2.2.2.2.2.2 = some (60, (.iload_n 0), 1, 0, 0) := by decide +kernel
theorem gx330_61 : aF 61 zM330.2.2.2.2.2.2.2 = some (61, (.if_icmp .le 12), 3, 73, 0) := by decide +kernel
theorem gx330_73 : aF 73 zM330.2.2.2.2.2.2.2 = some (73, .return_, 1, 0, 0) := by decide +kernel
theorem gn330_64 : aF 64 zM330.2.2.2.2.2.2.2 = none := by decide +kernel
theorem gn330_50 : aF 50 zM330.2.2.2.2.2.2.2 = none := by decide +kernel
theorem gn330_5 : aF 5 zM330.2.2.2.2.2.2.2 = none := by decide +kernel
theorem gx331_0 : aF 0 zM331.2.2.2.2.2.2.2 = some (0, (.aload_n 0), 1, 0, 0) := by decide +kernel
theorem gx331_1 : aF 1 zM331.2.2.2.2.2.2.2 = some (1, .arraylength, 1, 0, 0) := by decide +kernel
theorem gx331_2 : aF 2 zM331.2.2.2.2.2.2.2 = some (2, (.iload_n 1), 1, 0, 0) := by decide +kernel
theorem gx331_3 : aF 3 zM331.2.2.2.2.2.2.2 = some (3, (.iload_n 2), 1, 0, 0) := by decide +kernel
theorem gx331_4 : aF 4 zM331.2.2.2.2.2.2.2 = some (4, (.invokestatic 13), 3, 330, 0) := by decide +kernel
theorem gx331_7 : aF 7 zM331.2.2.2.2.2.2.2 = some (7, (.iload_n 1), 1, 0, 0) := by decide +kernel
theorem gx331_8 : aF 8 zM331.2.2.2.2.2.2.2 = some (8, (.istore 5), 2, 0, 0) := by decide +kernel
theorem gx331_10 : aF 10 zM331.2.2.2.2.2.2.2 = some (10, (.iload 5), 2, 0, 0) := by decide +kernel
theorem gx331_12 : aF 12 zM331.2.2.2.2.2.2.2 = some (12, (.iload_n 2), 1, 0, 0) := by decide +kernel
theorem gx331_13 : aF 13 zM331.2.2.2.2.2.2.2 = some (13, (.if_icmp .ge 14), 3, 27, 0) := by decide +kernel
theorem gx331_27 : aF 27 zM331.2.2.2.2.2.2.2 = some (27, .return_, 1, 0, 0) := by decide +kernel
theorem gx331_16 : aF 16 zM331.2.2.2.2.2.2.2 = some (16, (.aload_n 0), 1, 0, 0) := by decide +kernel
theorem gx331_17 : aF 17 zM331.2.2.2.2.2.2.2 = some (17, (.iload 5), 2, 0, 0) := by decide +kernel
theorem gx331_19 : aF 19 zM331.2.2.2.2.2.2.2 = some (19, (.lload_n 3), 1, 0, 0) := by decide +kernel
theorem gx331_20 : aF 20 zM331.2.2.2.2.2.2.2 = some (20, .lastore, 1, 0, 0) := by decide +kernel
theorem gx331_21 : aF 21 zM331.2.2.2.2.2.2.2 = some (21, (.iinc 5 1), 3, 0, 0) := by decide +kernel
theorem gx331_24 : aF 24 zM331.2.2.2.2.2.2.2 = some (24, (.goto (-14)), 3, 10, 0) := by decide +kernel
theorem gx107_0 : aF 0 zM107.2.2.2.2.2.2.2 = some (0, (.aload_n 0), 1, 0, 0) := by decide +kernel
theorem gx107_1 : aF 1 zM107.2.2.2.2.2.2.2 = some (1, (.getfield 9), 3, 9, 0) := by decide +kernel
theorem gx107_4 : aF 4 zM107.2.2.2.2.2.2.2 = some (4, (.iload_n 1), 1, 0, 0) := by decide +kernel
theorem gx107_5 : aF 5 zM107.2.2.2.2.2.2.2 = some (5, (.iconst (-1)), 1, 0, 0) := by decide +kernel
theorem gx107_6 : aF 6 zM107.2.2.2.2.2.2.2 = some (6, .iastore, 1, 0, 0) := by decide +kernel
theorem gx107_7 : aF 7 zM107.2.2.2.2.2.2.2 = some (7, (.aload_n 0), 1, 0, 0) := by decide +kernel
theorem gx107_8 : aF 8 zM107.2.2.2.2.2.2.2 = some (8, (.getfield 15), 3, 9, 1) := by decide +kernel
theorem gx107_11 : aF 11 zM107.2.2.2.2.2.2.2 = some (11, (.iload_n 1), 1, 0, 0) := by decide +kernel
theorem gx107_12 : aF 12 zM107.2.2.2.2.2.2.2 = some (12, (.iconst 0), 1, 0, 0) := by decide +kernel
theorem gx107_13 : aF 13 zM107.2.2.2.2.2.2.2 = some (13, .iastore, 1, 0, 0) := by decide +kernel
theorem gx107_14 : aF 14 zM107.2.2.2.2.2.2.2 = some (14, (.iconst 1), 1, 0, 0) := by decide +kernel
theorem gx107_15 : aF 15 zM107.2.2.2.2.2.2.2 = some (15, .ireturn, 1, 0, 0) := by decide +kernel
theorem gx108_0 : aF 0 zM108.2.2.2.2.2.2.2 = some (0, (.aload_n 0), 1, 0, 0) := by decide +kernel
theorem gx108_1 : aF 1 zM108.2.2.2.2.2.2.2 = some (1, (.getfield 9), 3, 9, 0) := by decide +kernel
theorem gx108_4 : aF 4 zM108.2.2.2.2.2.2.2 = some (4, (.iload_n 1), 1, 0, 0) := by decide +kernel
theorem gx108_5 : aF 5 zM108.2.2.2.2.2.2.2 = some (5, (.iconst 5), 1, 0, 0) := by decide +kernel
theorem gx108_6 : aF 6 zM108.2.2.2.2.2.2.2 = some (6, .iastore, 1, 0, 0) := by decide +kernel
theorem gx108_7 : aF 7 zM108.2.2.2.2.2.2.2 = some (7, (.aload_n 0), 1, 0, 0) := by decide +kernel
theorem gx108_8 : aF 8 zM108.2.2.2.2.2.2.2 = some (8, (.getfield 15), 3, 9, 1) := by decide +kernel
theorem gx108_11 : aF 11 zM108.2.2.2.2.2.2.2 = some (11, (.iload_n 1), 1, 0, 0) := by decide +kernel
theorem gx108_12 : aF 12 zM108.2.2.2.2.2.2.2 = some (12, (.iload_n 2), 1, 0, 0) := by decide +kernel
theorem gx108_13 : aF 13 zM108.2.2.2.2.2.2.2 = some (13, .iastore, 1, 0, 0) := by decide +kernel
theorem gx108_14 : aF 14 zM108.2.2.2.2.2.2.2 = some (14, (.iconst 1), 1, 0, 0) := by decide +kernel
theorem gx108_15 : aF 15 zM108.2.2.2.2.2.2.2 = some (15, .ireturn, 1, 0, 0) := by decide +kernel
theorem gx109_0 : aF 0 zM109.2.2.2.2.2.2.2 = some (0, (.aload_n 0), 1, 0, 0) := by decide +kernel
theorem gx109_1 : aF 1 zM109.2.2.2.2.2.2.2 = some (1, (.getfield 9), 3, 9, 0) := by decide +kernel
theorem gx109_4 : aF 4 zM109.2.2.2.2.2.2.2 = some (4, (.iload_n 1), 1, 0, 0) := by decide +kernel
theorem gx109_5 : aF 5 zM109.2.2.2.2.2.2.2 = some (5, (.iload_n 2), 1, 0, 0) := by decide +kernel
theorem gx109_6 : aF 6 zM109.2.2.2.2.2.2.2 = some (6, .iastore, 1, 0, 0) := by decide +kernel
theorem gx109_7 : aF 7 zM109.2.2.2.2.2.2.2 = some (7, (.aload_n 0), 1, 0, 0) := by decide +kernel
theorem gx109_8 : aF 8 zM109.2.2.2.2.2.2.2 = some (8, (.getfield 15), 3, 9, 1) := by decide +kernel
theorem gx109_11 : aF 11 zM109.2.2.2.2.2.2.2 = some (11, (.iload_n 1), 1, 0, 0) := by decide +kernel
theorem gx109_12 : aF 12 zM109.2.2.2.2.2.2.2 = some (12, (.iload_n 3), 1, 0, 0) := by decide +kernel
theorem gx109_13 : aF 13 zM109.2.2.2.2.2.2.2 = some (13, .iastore, 1, 0, 0) := by decide +kernel
theorem gx109_14 : aF 14 zM109.2.2.2.2.2.2.2 = some (14, (.aload_n 0), 1, 0, 0) := by decide +kernel
theorem gx109_15 : aF 15 zM109.2.2.2.2.2.2.2 = some (15, (.getfield 18), 3, 9, 2) := by decide +kernel
theorem gx109_18 : aF 18 zM109.2.2.2.2.2.2.2 = some (18, (.iload_n 1), 1, 0, 0) := by decide +kernel
theorem gx109_19 : aF 19 zM109.2.2.2.2.2.2.2 = some (19, (.bipush 60), 2, 0, 0) := by decide +kernel
theorem gx109_21 : aF 21 zM109.2.2.2.2.2.2.2 = some (21, .imul, 1, 0, 0) := by decide +kernel
theorem gx109_22 : aF 22 zM109.2.2.2.2.2.2.2 = some (22, (.iload_n 1), 1, 0, 0) := by decide +kernel
theorem gx109_23 : aF 23 zM109.2.2.2.2.2.2.2 = some (23, (.bipush 60), 2, 0, 0) := by decide +kernel
theorem gx109_25 : aF 25 zM109.2.2.2.2.2.2.2 = some (25, .imul, 1, 0, 0) := by decide +kernel
theorem gx109_26 : aF 26 zM109.2.2.2.2.2.2.2 = some (26, (.iload_n 3), 1, 0, 0) := by decide +kernel
theorem gx109_27 : aF 27 zM109.2.2.2.2.2.2.2 = some (27, .iadd, 1, 0, 0) := by decide +kernel
theorem gx109_28 : aF 28 zM109.2.2.2.2.2.2.2 = some (28, (.lconst 0), 1, 0, 0) := by decide +kernel
theorem gx109_29 : aF 29 zM109.2.2.2.2.2.2.2 = some (29, (.invokestatic 22), 3, 331, 0) := by decide +kernel
theorem gx109_32 : aF 32 zM109.2.2.2.2.2.2.2 = some (32, (.iconst 1), 1, 0, 0) := by decide +kernel
theorem gx109_33 : aF 33 zM109.2.2.2.2.2.2.2 = some (33, .ireturn, 1, 0, 0) := by decide +kernel
theorem gx110_0 : aF 0 zM110.2.2.2.2.2.2.2 = some (0, (.aload_n 0), 1, 0, 0) := by decide +kernel
theorem gx110_1 : aF 1 zM110.2.2.2.2.2.2.2 = some (1, (.getfield 9), 3, 9, 0) := by decide +kernel
theorem gx110_4 : aF 4 zM110.2.2.2.2.2.2.2 = some (4, (.iload_n 1), 1, 0, 0) := by decide +kernel
theorem gx110_5 : aF 5 zM110.2.2.2.2.2.2.2 = some (5, .iaload, 1, 0, 0) := by decide +kernel
theorem gx110_6 : aF 6 zM110.2.2.2.2.2.2.2 = some (6, (.iconst (-1)), 1, 0, 0) := by decide +kernel
theorem gx110_7 : aF 7 zM110.2.2.2.2.2.2.2 = some (7, (.if_icmp .ne 6), 3, 13, 0) := by decide +kernel
theorem gx110_13 : aF 13 zM110.2.2.2.2.2.2.2 = some (13, (.aload_n 0), 1, 0, 0) := by decide +kernel
theorem gx110_14 : aF 14 zM110.2.2.2.2.2.2.2 = some (14, (.getfield 9), 3, 9, 0) := by decide +kernel
theorem gx110_17 : aF 17 zM110.2.2.2.2.2.2.2 = some (17, (.iload_n 1), 1, 0, 0) := by decide +kernel
theorem gx110_18 : aF 18 zM110.2.2.2.2.2.2.2 = some (18, .iaload, 1, 0, 0) := by decide +kernel
theorem gx110_19 : aF 19 zM110.2.2.2.2.2.2.2 = some (19, (.iconst 5), 1, 0, 0) := by decide +kernel
theorem gx110_20 : aF 20 zM110.2.2.2.2.2.2.2 = some (20, (.if_icmp .ne 8), 3, 28, 0) := by decide +kernel
theorem gx110_28 : aF 28 zM110.2.2.2.2.2.2.2 = some (28, (.iconst 1), 1, 0, 0) := by decide +kernel
theorem gx110_29 : aF 29 zM110.2.2.2.2.2.2.2 = some (29, .ireturn, 1, 0, 0) := by decide +kernel
theorem gx110_23 : aF 23 zM110.2.2.2.2.2.2.2 = some (23, (.bipush (-12)), 2, 0, 0) := by decide +kernel
theorem gx110_25 : aF 25 zM110.2.2.2.2.2.2.2 = some (25, (.goto 4), 3, 29, 0) := by decide +kernel
theorem gx110_10 : aF 10 zM110.2.2.2.2.2.2.2 = some (10, (.bipush (-11)), 2, 0, 0) := by decide +kernel
theorem gx110_12 : aF 12 zM110.2.2.2.2.2.2.2 = some (12, .ireturn, 1, 0, 0) := by decide +kernel
theorem gx111_0 : aF 0 zM111.2.2.2.2.2.2.2 = some (0, (.aload_n 0), 1, 0, 0) := by decide +kernel
theorem gx111_1 : aF 1 zM111.2.2.2.2.2.2.2 = some (1, (.iload_n 1), 1, 0, 0) := by decide +kernel
theorem gx111_2 : aF 2 zM111.2.2.2.2.2.2.2 = some (2, (.invokevirtual 28), 3, 110, 0) := by decide +kernel
theorem gx111_5 : aF 5 zM111.2.2.2.2.2.2.2 = some (5, (.iconst 1), 1, 0, 0) := by decide +kernel
theorem gx111_6 : aF 6 zM111.2.2.2.2.2.2.2 = some (6, (.if_icmp .ne 25), 3, 31, 0) := by decide +kernel
theorem gx111_31 : aF 31 zM111.2.2.2.2.2.2.2 = some (31, (.iconst 0), 1, 0, 0) := by decide +kernel
theorem gx111_32 : aF 32 zM111.2.2.2.2.2.2.2 = some (32, .ireturn, 1, 0, 0) := by decide +kernel
theorem gx111_9 : aF 9 zM111.2.2.2.2.2.2.2 = some (9, (.lconst 0), 1, 0, 0) := by decide +kernel
theorem gx111_10 : aF 10 zM111.2.2.2.2.2.2.2 = some (10, (.lload_n 2), 1, 0, 0) := by decide +kernel
theorem gx111_11 : aF 11 zM111.2.2.2.2.2.2.2 = some (11, .lcmp, 1, 0, 0) := by decide +kernel
theorem gx111_12 : aF 12 zM111.2.2.2.2.2.2.2 = some (12, (.ifCond .gt 19), 3, 31, 0) := by decide +kernel
theorem gx111_15 : aF 15 zM111.2.2.2.2.2.2.2 = some (15, (.lload_n 2), 1, 0, 0) := by decide +kernel
theorem gx111_16 : aF 16 zM111.2.2.2.2.2.2.2 = some (16, (.aload_n 0), 1, 0, 0) := by decide +kernel
theorem gx111_17 : aF 17 zM111.2.2.2.2.2.2.2 = some (17, (.getfield 15), 3, 9, 1) := by decide +kernel
theorem gx111_20 : aF 20 zM111.2.2.2.2.2.2.2 = some (20, (.iload_n 1), 1, 0, 0) := by decide +kernel
theorem gx111_21 : aF 21 zM111.2.2.2.2.2.2.2 = some (21, .iaload, 1, 0, 0) := by decide +kernel
theorem gx111_22 : aF 22 zM111.2.2.2.2.2.2.2 = some (22, .i2l, 1, 0, 0) := by decide +kernel
theorem gx111_23 : aF 23 zM111.2.2.2.2.2.2.2 = some (23, .lcmp, 1, 0, 0) := by decide +kernel
theorem gx111_24 : aF 24 zM111.2.2.2.2.2.2.2 = some (24, (.ifCond .ge 7), 3, 31, 0) := by decide +kernel
theorem gx111_27 : aF 27 zM111.2.2.2.2.2.2.2 = some (27, (.iconst 1), 1, 0, 0) := by decide +kernel
theorem gx111_28 : aF 28 zM111.2.2.2.2.2.2.2 = some (28, (.goto 4), 3, 32, 0) := by decide +kernel
theorem gx113_0 : aF 0 zM113.2.2.2.2.2.2.2 = some (0, (.iload_n 0), 1, 0, 0) := by decide +kernel
theorem gx113_1 : aF 1 zM113.2.2.2.2.2.2.2 = some (1, (.tableswitch 47 0 3 #[31, 36, 41, 45]), 31, 0, 0) := by decide +kernel
theorem gx113_32 : aF 32 zM113.2.2.2.2.2.2.2 = some (32, (.lload_n 1), 1, 0, 0) := by decide +kernel
theorem gx113_33 : aF 33 zM113.2.2.2.2.2.2.2 = some (33, .l2i, 1, 0, 0) := by decide +kernel
theorem gx113_34 : aF 34 zM113.2.2.2.2.2.2.2 = some (34, .i2b, 1, 0, 0) := by decide +kernel
theorem gx113_35 : aF 35 zM113.2.2.2.2.2.2.2 = some (35, .i2l, 1, 0, 0) := by decide +kernel
theorem gx113_36 : aF 36 zM113.2.2.2.2.2.2.2 = some (36, .lreturn, 1, 0, 0) := by decide +kernel
theorem gx113_37 : aF 37 zM113.2.2.2.2.2.2.2 = some (37, (.lload_n 1), 1, 0, 0) := by decide +kernel
theorem gx113_38 : aF 38 zM113.2.2.2.2.2.2.2 = some (38, .l2i, 1, 0, 0) := by decide +kernel
theorem gx113_39 : aF 39 zM113.2.2.2.2.2.2.2 = some (39, .i2s, 1, 0, 0) := by decide +kernel
theorem gx113_40 : aF 40 zM113.2.2.2.2.2.2.2 = some (40, .i2l, 1, 0, 0) := by decide +kernel
theorem gx113_41 : aF 41 zM113.2.2.2.2.2.2.2 = some (41, .lreturn, 1, 0, 0) := by decide +kernel
theorem gx113_42 : aF 42 zM113.2.2.2.2.2.2.2 = some (42, (.lload_n 1), 1, 0, 0) := by decide +kernel
theorem gx113_43 : aF 43 zM113.2.2.2.2.2.2.2 = some (43, .l2i, 1, 0, 0) := by decide +kernel
theorem gx113_44 : aF 44 zM113.2.2.2.2.2.2.2 = some (44, .i2l, 1, 0, 0) := by decide +kernel
theorem gx113_45 : aF 45 zM113.2.2.2.2.2.2.2 = some (45, .lreturn, 1, 0, 0) := by decide +kernel
theorem gx113_46 : aF 46 zM113.2.2.2.2.2.2.2 = some (46, (.lload_n 1), 1, 0, 0) := by decide +kernel
theorem gx113_47 : aF 47 zM113.2.2.2.2.2.2.2 = some (47, .lreturn, 1, 0, 0) := by decide +kernel
theorem gx113_48 : aF 48 zM113.2.2.2.2.2.2.2 = some (48, (.lload_n 1), 1, 0, 0) := by decide +kernel
theorem gx113_49 : aF 49 zM113.2.2.2.2.2.2.2 = some (49, (.lconst 0), 1, 0, 0) := by decide +kernel
theorem gx113_50 : aF 50 zM113.2.2.2.2.2.2.2 = some (50, .lcmp, 1, 0, 0) := by decide +kernel
theorem gx113_51 : aF 51 zM113.2.2.2.2.2.2.2 = some (51, (.ifCond .eq 7), 3, 58, 0) := by decide +kernel
theorem gx113_58 : aF 58 zM113.2.2.2.2.2.2.2 = some (58, (.lconst 0), 1, 0, 0) := by decide +kernel
theorem gx113_59 : aF 59 zM113.2.2.2.2.2.2.2 = some (59, .lreturn, 1, 0, 0) := by decide +kernel
theorem gx113_54 : aF 54 zM113.2.2.2.2.2.2.2 = some (54, (.lconst 1), 1, 0, 0) := by decide +kernel
theorem gx113_55 : aF 55 zM113.2.2.2.2.2.2.2 = some (55, (.goto 4), 3, 59, 0) := by decide +kernel
theorem gx112_0 : aF 0 zM112.2.2.2.2.2.2.2 = some (0, (.aload_n 0), 1, 0, 0) := by decide +kernel
theorem gx112_1 : aF 1 zM112.2.2.2.2.2.2.2 = some (1, (.iload_n 1), 1, 0, 0) := by decide +kernel
theorem gx112_2 : aF 2 zM112.2.2.2.2.2.2.2 = some (2, (.invokevirtual 28), 3, 110, 0) := by decide +kernel
theorem gx112_5 : aF 5 zM112.2.2.2.2.2.2.2 = some (5, (.istore 5), 2, 0, 0) := by decide +kernel
theorem gx112_7 : aF 7 zM112.2.2.2.2.2.2.2 = some (7, (.iload 5), 2, 0, 0) := by decide +kernel
theorem gx112_9 : aF 9 zM112.2.2.2.2.2.2.2 = some (9, (.iconst 1), 1, 0, 0) := by decide +kernel
theorem gx112_10 : aF 10 zM112.2.2.2.2.2.2.2 = some (10, (.if_icmp .eq 6), 3, 16, 0) := by decide +kernel
theorem gx112_16 : aF 16 zM112.2.2.2.2.2.2.2 = some (16, (.aload_n 0), 1, 0, 0) := by decide +kernel
theorem gx112_17 : aF 17 zM112.2.2.2.2.2.2.2 = some (17, (.iload_n 1), 1, 0, 0) := by decide +kernel
theorem gx112_18 : aF 18 zM112.2.2.2.2.2.2.2 = some (18, (.iload_n 2), 1, 0, 0) := by decide +kernel
theorem gx112_19 : aF 19 zM112.2.2.2.2.2.2.2 = some (19, .i2l, 1, 0, 0) := by decide +kernel
theorem gx112_20 : aF 20 zM112.2.2.2.2.2.2.2 = some (20, (.invokevirtual 32), 3, 111, 0) := by decide +kernel
theorem gx112_23 : aF 23 zM112.2.2.2.2.2.2.2 = some (23, (.ifCond .ne 6), 3, 29, 0) := by decide +kernel
theorem gx112_29 : aF 29 zM112.2.2.2.2.2.2.2 = some (29, (.aload_n 0), 1, 0, 0) := by decide +kernel
theorem gx112_30 : aF 30 zM112.2.2.2.2.2.2.2 = some (30, (.getfield 18), 3, 9, 2) := by decide +kernel
theorem gx112_33 : aF 33 zM112.2.2.2.2.2.2.2 = some (33, (.iload_n 1), 1, 0, 0) := by decide +kernel
theorem gx112_34 : aF 34 zM112.2.2.2.2.2.2.2 = some (34, (.bipush 60), 2, 0, 0) := by decide +kernel
theorem gx112_36 : aF 36 zM112.2.2.2.2.2.2.2 = some (36, .imul, 1, 0, 0) := by decide +kernel
theorem gx112_37 : aF 37 zM112.2.2.2.2.2.2.2 = some (37, (.iload_n 2), 1, 0, 0) := by decide +kernel
theorem gx112_38 : aF 38 zM112.2.2.2.2.2.2.2 = some (38, .iadd, 1, 0, 0) := by decide +kernel
theorem gx112_39 : aF 39 zM112.2.2.2.2.2.2.2 = some (39, (.aload_n 0), 1, 0, 0) := by decide +kernel
theorem gx112_40 : aF 40 zM112.2.2.2.2.2.2.2 = some (40, (.getfield 9), 3, 9, 0) := by decide +kernel
theorem gx112_43 : aF 43 zM112.2.2.2.2.2.2.2 = some (43, (.iload_n 1), 1, 0, 0) := by decide +kernel
theorem gx112_44 : aF 44 zM112.2.2.2.2.2.2.2 = some (44, .iaload, 1, 0, 0) := by decide +kernel
theorem gx112_45 : aF 45 zM112.2.2.2.2.2.2.2 = some (45, (.lload_n 3), 1, 0, 0) := by decide +kernel
theorem gx112_46 : aF 46 zM112.2.2.2.2.2.2.2 = some (46, (.invokestatic 36), 3, 113, 0) := by decide +kernel
theorem gx112_49 : aF 49 zM112.2.2.2.2.2.2.2 = some (49, .lastore, 1, 0, 0) := by decide +kernel
theorem gx112_50 : aF 50 zM112.2.2.2.2.2.2.2 = some (50, (.iconst 1), 1, 0, 0) := by decide +kernel
theorem gx112_51 : aF 51 zM112.2.2.2.2.2.2.2 = some (51, .ireturn, 1, 0, 0) := by decide +kernel
theorem gx112_26 : aF 26 zM112.2.2.2.2.2.2.2 = some (26, (.bipush (-13)), 2, 0, 0) := by decide +kernel
theorem gx112_28 : aF 28 zM112.2.2.2.2.2.2.2 = some (28, .ireturn, 1, 0, 0) := by decide +kernel
theorem gx112_13 : aF 13 zM112.2.2.2.2.2.2.2 = some (13, (.iload 5), 2, 0, 0) := by decide +kernel
theorem gx112_15 : aF 15 zM112.2.2.2.2.2.2.2 = some (15, .ireturn, 1, 0, 0) := by decide +kernel
theorem gx115_0 : aF 0 zM115.2.2.2.2.2.2.2 = some (0, (.aload_n 0), 1, 0, 0) := by decide +kernel
theorem gx115_1 : aF 1 zM115.2.2.2.2.2.2.2 = some (1, (.iload_n 1), 1, 0, 0) := by decide +kernel
theorem gx115_2 : aF 2 zM115.2.2.2.2.2.2.2 = some (2, (.invokevirtual 28), 3, 110, 0) := by decide +kernel
theorem gx115_5 : aF 5 zM115.2.2.2.2.2.2.2 = some (5, (.istore 6), 2, 0, 0) := by decide +kernel
theorem gx115_7 : aF 7 zM115.2.2.2.2.2.2.2 = some (7, (.aload_n 0), 1, 0, 0) := by decide +kernel
theorem gx115_8 : aF 8 zM115.2.2.2.2.2.2.2 = some (8, (.iload_n 3), 1, 0, 0) := by decide +kernel
theorem gx115_9 : aF 9 zM115.2.2.2.2.2.2.2 = some (9, (.invokevirtual 28), 3, 110, 0) := by decide +kernel
theorem gx115_12 : aF 12 zM115.2.2.2.2.2.2.2 = some (12, (.istore 7), 2, 0, 0) := by decide +kernel
theorem gx115_14 : aF 14 zM115.2.2.2.2.2.2.2 = some (14, (.iload 6), 2, 0, 0) := by decide +kernel
theorem gx115_16 : aF 16 zM115.2.2.2.2.2.2.2 = some (16, (.bipush (-11)), 2, 0, 0) := by decide +kernel
theorem gx115_18 : aF 18 zM115.2.2.2.2.2.2.2 = some (18, (.if_icmp .eq 10), 3, 28, 0) := by decide +kernel
theorem gx115_28 : aF 28 zM115.2.2.2.2.2.2.2 = some (28, (.bipush (-11)), 2, 0, 0) := by decide +kernel
theorem gx115_30 : aF 30 zM115.2.2.2.2.2.2.2 = some (30, .ireturn, 1, 0, 0) := by decide +kernel
theorem gx115_21 : aF 21 zM115.2.2.2.2.2.2.2 = some (21, (.iload 7), 2, 0, 0) := by decide +kernel
theorem gx115_23 : aF 23 zM115.2.2.2.2.2.2.2 = some (23, (.bipush (-11)), 2, 0, 0) := by decide +kernel
theorem gx115_25 : aF 25 zM115.2.2.2.2.2.2.2 = some (25, (.if_icmp .ne 6), 3, 31, 0) := by decide +kernel
theorem gx115_31 : aF 31 zM115.2.2.2.2.2.2.2 = some (31, (.iload 6), 2, 0, 0) := by decide +kernel
theorem gx115_33 : aF 33 zM115.2.2.2.2.2.2.2 = some (33, (.bipush (-12)), 2, 0, 0) := by decide +kernel
theorem gx115_35 : aF 35 zM115.2.2.2.2.2.2.2 = some (35, (.if_icmp .eq 25), 3, 60, 0) := by decide +kernel
theorem gx115_60 : aF 60 zM115.2.2.2.2.2.2.2 = some (60, (.bipush (-12)), 2, 0, 0) := by decide +kernel
theorem gx115_62 : aF 62 zM115.2.2.2.2.2.2.2 = some (62, .ireturn, 1, 0, 0) := by decide +kernel
theorem gx115_38 : aF 38 zM115.2.2.2.2.2.2.2 = some (38, (.iload 7), 2, 0, 0) := by decide +kernel
theorem gx115_40 : aF 40 zM115.2.2.2.2.2.2.2 = some (40, (.bipush (-12)), 2, 0, 0) := by decide +kernel
theorem gx115_42 : aF 42 zM115.2.2.2.2.2.2.2 = some (42, (.if_icmp .eq 18), 3, 60, 0) := by decide +kernel
theorem gx115_45 : aF 45 zM115.2.2.2.2.2.2.2 = some (45, (.aload_n 0), 1, 0, 0) := by decide +kernel
theorem gx115_46 : aF 46 zM115.2.2.2.2.2.2.2 = some (46, (.getfield 9), 3, 9, 0) := by decide +kernel
theorem gx115_49 : aF 49 zM115.2.2.2.2.2.2.2 = some (49, (.iload_n 1), 1, 0, 0) := by decide +kernel
theorem gx115_50 : aF 50 zM115.2.2.2.2.2.2.2 = some (50, .iaload, 1, 0, 0) := by decide +kernel
theorem gx115_51 : aF 51 zM115.2.2.2.2.2.2.2 = some (51, (.aload_n 0), 1, 0, 0) := by decide +kernel
theorem gx115_52 : aF 52 zM115.2.2.2.2.2.2.2 = some (52, (.getfield 9), 3, 9, 0) := by decide +kernel
theorem gx115_55 : aF 55 zM115.2.2.2.2.2.2.2 = some (55, (.iload_n 3), 1, 0, 0) := by decide +kernel
theorem gx115_56 : aF 56 zM115.2.2.2.2.2.2.2 = some (56, .iaload, 1, 0, 0) := by decide +kernel
theorem gx115_57 : aF 57 zM115.2.2.2.2.2.2.2 = some (57, (.if_icmp .eq 6), 3, 63, 0) := by decide +kernel
theorem gx115_63 : aF 63 zM115.2.2.2.2.2.2.2 = some (63, (.iload 5), 2, 0, 0) := by decide +kernel
theorem gx115_65 : aF 65 zM115.2.2.2.2.2.2.2 = some (65, (.ifCond .lt 39), 3, 104, 0) := by decide +kernel
theorem gx115_104 : aF 104 zM115.2.2.2.2.2.2.2 = some (104, (.bipush (-13)), 2, 0, 0) := by decide +kernel
theorem gx115_106 : aF 106 zM115.2.2.2.2.2.2.2 = some (106, .ireturn, 1, 0, 0) := by decide +kernel
theorem gx115_68 : aF 68 zM115.2.2.2.2.2.2.2 = some (68, (.iload_n 2), 1, 0, 0) := by decide +kernel
theorem gx115_69 : aF 69 zM115.2.2.2.2.2.2.2 = some (69, (.ifCond .lt 35), 3, 104, 0) := by decide +kernel
theorem gx115_72 : aF 72 zM115.2.2.2.2.2.2.2 = some (72, (.iload 4), 2, 0, 0) := by decide +kernel
theorem gx115_74 : aF 74 zM115.2.2.2.2.2.2.2 = some (74, (.ifCond .lt 30), 3, 104, 0) := by decide +kernel
theorem gx115_77 : aF 77 zM115.2.2.2.2.2.2.2 = some (77, (.iload_n 2), 1, 0, 0) := by decide +kernel
theorem gx115_78 : aF 78 zM115.2.2.2.2.2.2.2 = some (78, (.aload_n 0), 1, 0, 0) := by decide +kernel
theorem gx115_79 : aF 79 zM115.2.2.2.2.2.2.2 = some (79, (.getfield 15), 3, 9, 1) := by decide +kernel
theorem gx115_82 : aF 82 zM115.2.2.2.2.2.2.2 = some (82, (.iload_n 1), 1, 0, 0) := by decide +kernel
theorem gx115_83 : aF 83 zM115.2.2.2.2.2.2.2 = some (83, .iaload, 1, 0, 0) := by decide +kernel
theorem gx115_84 : aF 84 zM115.2.2.2.2.2.2.2 = some (84, (.iload 5), 2, 0, 0) := by decide +kernel
theorem gx115_86 : aF 86 zM115.2.2.2.2.2.2.2 = some (86, .isub, 1, 0, 0) := by decide +kernel
theorem gx115_87 : aF 87 zM115.2.2.2.2.2.2.2 = some (87, (.if_icmp .gt 17), 3, 104, 0) := by decide +kernel
theorem gx115_90 : aF 90 zM115.2.2.2.2.2.2.2 = some (90, (.iload 4), 2, 0, 0) := by decide +kernel
theorem gx115_92 : aF 92 zM115.2.2.2.2.2.2.2 = some (92, (.aload_n 0), 1, 0, 0) := by decide +kernel
theorem gx115_93 : aF 93 zM115.2.2.2.2.2.2.2 = some (93, (.getfield 15), 3, 9, 1) := by decide +kernel
theorem gx115_96 : aF 96 zM115.2.2.2.2.2.2.2 = some (96, (.iload_n 3), 1, 0, 0) := by decide +kernel
theorem gx115_97 : aF 97 zM115.2.2.2.2.2.2.2 = some (97, .iaload, 1, 0, 0) := by decide +kernel
theorem gx115_98 : aF 98 zM115.2.2.2.2.2.2.2 = some (98, (.iload 5), 2, 0, 0) := by decide +kernel
theorem gx115_100 : aF 100 zM115.2.2.2.2.2.2.2 = some (100, .isub, 1, 0, 0) := by decide +kernel
theorem gx115_101 : aF 101 zM115.2.2.2.2.2.2.2 = some (101, (.if_icmp .le 6), 3, 107, 0) := by decide +kernel
theorem gx115_107 : aF 107 zM115.2.2.2.2.2.2.2 = some (107, (.aload_n 0), 1, 0, 0) := by decide +kernel
theorem gx115_108 : aF 108 zM115.2.2.2.2.2.2.2 = some (108, (.getfield 18), 3, 9, 2) := by decide +kernel
theorem gx115_111 : aF 111 zM115.2.2.2.2.2.2.2 = some (111, (.iload_n 1), 1, 0, 0) := by decide +kernel
theorem gx115_112 : aF 112 zM115.2.2.2.2.2.2.2 = some (112, (.bipush 60), 2, 0, 0) := by decide +kernel
theorem gx115_114 : aF 114 zM115.2.2.2.2.2.2.2 = some (114, .imul, 1, 0, 0) := by decide +kernel
theorem gx115_115 : aF 115 zM115.2.2.2.2.2.2.2 = some (115, (.iload_n 2), 1, 0, 0) := by decide +kernel
theorem gx115_116 : aF 116 zM115.2.2.2.2.2.2.2 = some (116, .iadd, 1, 0, 0) := by decide +kernel
theorem gx115_117 : aF 117 zM115.2.2.2.2.2.2.2 = some (117, (.aload_n 0), 1, 0, 0) := by decide +kernel
theorem gx115_118 : aF 118 zM115.2.2.2.2.2.2.2 = some (118, (.getfield 18), 3, 9, 2) := by decide +kernel
theorem gx115_121 : aF 121 zM115.2.2.2.2.2.2.2 = some (121, (.iload_n 3), 1, 0, 0) := by decide +kernel
theorem gx115_122 : aF 122 zM115.2.2.2.2.2.2.2 = some (122, (.bipush 60), 2, 0, 0) := by decide +kernel
theorem gx115_124 : aF 124 zM115.2.2.2.2.2.2.2 = some (124, .imul, 1, 0, 0) := by decide +kernel
theorem gx115_125 : aF 125 zM115.2.2.2.2.2.2.2 = some (125, (.iload 4), 2, 0, 0) := by decide +kernel
theorem gx115_127 : aF 127 zM115.2.2.2.2.2.2.2 = some (127, .iadd, 1, 0, 0) := by decide +kernel
theorem gx115_128 : aF 128 zM115.2.2.2.2.2.2.2 = some (128, (.iload 5), 2, 0, 0) := by decide +kernel
theorem gx115_130 : aF 130 zM115.2.2.2.2.2.2.2 = some (130, (.invokestatic 44), 3, 1002, 0) := by decide +kernel
theorem gx115_133 : aF 133 zM115.2.2.2.2.2.2.2 = some (133, (.iload 5), 2, 0, 0) := by decide +kernel
theorem gx115_135 : aF 135 zM115.2.2.2.2.2.2.2 = some (135, .ireturn, 1, 0, 0) := by decide +kernel
theorem gx72_0 : aF 0 zM72.2.2.2.2.2.2.2 = some (0, (.iload_n 0), 1, 0, 0) := by decide +kernel
theorem gx72_1 : aF 1 zM72.2.2.2.2.2.2.2 = some (1, (.istore_n 2), 1, 0, 0) := by decide +kernel
theorem gx72_2 : aF 2 zM72.2.2.2.2.2.2.2 = some (2, (.iconst 0), 1, 0, 0) := by decide +kernel
theorem gx72_3 : aF 3 zM72.2.2.2.2.2.2.2 = some (3, (.istore_n 3), 1, 0, 0) := by decide +kernel
theorem gx72_4 : aF 4 zM72.2.2.2.2.2.2.2 = some (4, (.iload_n 3), 1, 0, 0) := by decide +kernel
theorem gx72_5 : aF 5 zM72.2.2.2.2.2.2.2 = some (5, (.bipush 8), 2, 0, 0) := by decide +kernel
theorem gx72_7 : aF 7 zM72.2.2.2.2.2.2.2 = some (7, (.if_icmp .ge 27), 3, 34, 0) := by decide +kernel
theorem gx72_34 : aF 34 zM72.2.2.2.2.2.2.2 = some (34, (.iconst 0), 1, 0, 0) := by decide +kernel
theorem gx72_35 : aF 35 zM72.2.2.2.2.2.2.2 = some (35, .ireturn, 1, 0, 0) := by decide +kernel
theorem gx72_10 : aF 10 zM72.2.2.2.2.2.2.2 = some (10, (.iload_n 2), 1, 0, 0) := by decide +kernel
theorem gx72_11 : aF 11 zM72.2.2.2.2.2.2.2 = some (11, (.iconst (-1)), 1, 0, 0) := by decide +kernel
theorem gx72_12 : aF 12 zM72.2.2.2.2.2.2.2 = some (12, (.if_icmp .eq 22), 3, 34, 0) := by decide +kernel
theorem gx72_15 : aF 15 zM72.2.2.2.2.2.2.2 = some (15, (.iload_n 2), 1, 0, 0) := by decide +kernel
theorem gx72_16 : aF 16 zM72.2.2.2.2.2.2.2 = some (16, (.iload_n 1), 1, 0, 0) := by decide +kernel
theorem gx72_17 : aF 17 zM72.2.2.2.2.2.2.2 = some (17, (.if_icmp .ne 5), 3, 22, 0) := by decide +kernel
theorem gx72_22 : aF 22 zM72.2.2.2.2.2.2.2 = some (22, (.getstatic 49), 3, 0, 0) := by decide +kernel
theorem gx72_25 : aF 25 zM72.2.2.2.2.2.2.2 = some (25, (.iload_n 2), 1, 0, 0) := by decide +kernel
theorem gx72_26 : aF 26 zM72.2.2.2.2.2.2.2 = some (26, .iaload, 1, 0, 0) := by decide +kernel
theorem gx72_27 : aF 27 zM72.2.2.2.2.2.2.2 = some (27, (.istore_n 2), 1, 0, 0) := by decide +kernel
theorem gx72_28 : aF 28 zM72.2.2.2.2.2.2.2 = some (28, (.iinc 3 1), 3, 0, 0) := by decide +kernel
theorem gx72_31 : aF 31 zM72.2.2.2.2.2.2.2 = some (31, (.goto (-27)), 3, 4, 0) := by decide +kernel
theorem gx72_20 : aF 20 zM72.2.2.2.2.2.2.2 = some (20, (.iconst 1), 1, 0, 0) := by decide +kernel
theorem gx72_21 : aF 21 zM72.2.2.2.2.2.2.2 = some (21, .ireturn, 1, 0, 0) := by decide +kernel
theorem gx321_0 : aF 0 zM321.2.2.2.2.2.2.2 = some (0, (.iload_n 1), 1, 0, 0) := by decide +kernel
theorem gx321_1 : aF 1 zM321.2.2.2.2.2.2.2 = some (1, (.invokestatic 382), 3, 318, 0) := by decide +kernel
theorem gx321_4 : aF 4 zM321.2.2.2.2.2.2.2 = some (4, (.ifCond .ne 5), 3, 9, 0) := by decide +kernel
theorem gx321_9 : aF 9 zM321.2.2.2.2.2.2.2 = some (9, (.aload_n 0), 1, 0, 0) := by decide +kernel
theorem gx321_10 : aF 10 zM321.2.2.2.2.2.2.2 = some (10, (.getfield 243), 3, 12, 97) := by decide +kernel
theorem gx321_13 : aF 13 zM321.2.2.2.2.2.2.2 = some (13, (.iload_n 1), 1, 0, 0) := by decide +kernel
theorem gx321_14 : aF 14 zM321.2.2.2.2.2.2.2 = some (14, .iaload, 1, 0, 0) := by decide +kernel
theorem gx321_15 : aF 15 zM321.2.2.2.2.2.2.2 = some (15, (.iconst (-1)), 1, 0, 0) := by decide +kernel
theorem gx321_16 : aF 16 zM321.2.2.2.2.2.2.2 = some (16, (.if_icmp .ne 6), 3, 22, 0) := by decide +kernel
theorem gx321_22 : aF 22 zM321.2.2.2.2.2.2.2 = some (22, (.aload_n 0), 1, 0, 0) := by decide +kernel
theorem gx321_23 : aF 23 zM321.2.2.2.2.2.2.2 = some (23, (.getfield 243), 3, 12, 97) := by decide +kernel
theorem gx321_26 : aF 26 zM321.2.2.2.2.2.2.2 = some (26, (.iload_n 1), 1, 0, 0) := by decide +kernel
theorem gx321_27 : aF 27 zM321.2.2.2.2.2.2.2 = some (27, .iaload, 1, 0, 0) := by decide +kernel
theorem gx321_28 : aF 28 zM321.2.2.2.2.2.2.2 = some (28, (.ifCond .lt 6), 3, 34, 0) := by decide +kernel
theorem gx321_34 : aF 34 zM321.2.2.2.2.2.2.2 = some (34, (.iload_n 2), 1, 0, 0) := by decide +kernel
theorem gx321_35 : aF 35 zM321.2.2.2.2.2.2.2 = some (35, (.iconst 0), 1, 0, 0) := by decide +kernel
theorem gx321_36 : aF 36 zM321.2.2.2.2.2.2.2 = some (36, (.aload_n 0), 1, 0, 0) := by decide +kernel
theorem gx321_37 : aF 37 zM321.2.2.2.2.2.2.2 = some (37, (.getfield 246), 3, 12, 98) := by decide +kernel
theorem gx321_40 : aF 40 zM321.2.2.2.2.2.2.2 = some (40, (.iload_n 1), 1, 0, 0) := by decide +kernel
theorem gx321_41 : aF 41 zM321.2.2.2.2.2.2.2 = some (41, .iaload, 1, 0, 0) := by decide +kernel
theorem gx321_42 : aF 42 zM321.2.2.2.2.2.2.2 = some (42, (.iconst 1), 1, 0, 0) := by decide +kernel
theorem gx321_43 : aF 43 zM321.2.2.2.2.2.2.2 = some (43, .isub, 1, 0, 0) := by decide +kernel
theorem gx321_44 : aF 44 zM321.2.2.2.2.2.2.2 = some (44, (.invokestatic 258), 3, 196, 0) := by decide +kernel
theorem gx321_47 : aF 47 zM321.2.2.2.2.2.2.2 = some (47, (.ifCond .eq 7), 3, 54, 0) := by decide +kernel
theorem gx321_54 : aF 54 zM321.2.2.2.2.2.2.2 = some (54, (.bipush (-13)), 2, 0, 0) := by decide +kernel
theorem gx321_56 : aF 56 zM321.2.2.2.2.2.2.2 = some (56, .ireturn, 1, 0, 0) := by decide +kernel
theorem gx321_50 : aF 50 zM321.2.2.2.2.2.2.2 = some (50, (.iconst 0), 1, 0, 0) := by decide +kernel
theorem gx321_51 : aF 51 zM321.2.2.2.2.2.2.2 = some (51, (.goto 5), 3, 56, 0) := by decide +kernel
theorem gx321_31 : aF 31 zM321.2.2.2.2.2.2.2 = some (31, (.bipush (-12)), 2, 0, 0) := by decide +kernel
theorem gx321_33 : aF 33 zM321.2.2.2.2.2.2.2 = some (33, .ireturn, 1, 0, 0) := by decide +kernel
theorem gx321_19 : aF 19 zM321.2.2.2.2.2.2.2 = some (19, (.bipush (-11)), 2, 0, 0) := by decide +kernel
theorem gx321_21 : aF 21 zM321.2.2.2.2.2.2.2 = some (21, .ireturn, 1, 0, 0) := by decide +kernel
theorem gx321_7 : aF 7 zM321.2.2.2.2.2.2.2 = some (7, (.iconst (-1)), 1, 0, 0) := by decide +kernel
theorem gx321_8 : aF 8 zM321.2.2.2.2.2.2.2 = some (8, .ireturn, 1, 0, 0) := by decide +kernel
theorem gx188_0 : aF 0 zM188.2.2.2.2.2.2.2 = some (0, (.iload_n 1), 1, 0, 0) := by decide +kernel
theorem gx188_1 : aF 1 zM188.2.2.2.2.2.2.2 = some (1, (.invokestatic 235), 3, 142, 0) := by decide +kernel
theorem gx188_4 : aF 4 zM188.2.2.2.2.2.2.2 = some (4, (.ifCond .eq 19), 3, 23, 0) := by decide +kernel
theorem gx188_23 : aF 23 zM188.2.2.2.2.2.2.2 = some (23, (.iconst (-1)), 1, 0, 0) := by decide +kernel
theorem gx188_24 : aF 24 zM188.2.2.2.2.2.2.2 = some (24, .ireturn, 1, 0, 0) := by decide +kernel
theorem gx188_7 : aF 7 zM188.2.2.2.2.2.2.2 = some (7, (.iload_n 2), 1, 0, 0) := by decide +kernel
theorem gx188_8 : aF 8 zM188.2.2.2.2.2.2.2 = some (8, (.iconst (-1)), 1, 0, 0) := by decide +kernel
theorem gx188_9 : aF 9 zM188.2.2.2.2.2.2.2 = some (9, (.if_icmp .eq 16), 3, 25, 0) := by decide +kernel
theorem gx188_25 : aF 25 zM188.2.2.2.2.2.2.2 = some (25, (.iload_n 2), 1, 0, 0) := by decide +kernel
theorem gx188_26 : aF 26 zM188.2.2.2.2.2.2.2 = some (26, (.iconst (-1)), 1, 0, 0) := by decide +kernel
theorem gx188_27 : aF 27 zM188.2.2.2.2.2.2.2 = some (27, (.if_icmp .ne 14), 3, 41, 0) := by decide +kernel
theorem gx188_41 : aF 41 zM188.2.2.2.2.2.2.2 = some (41, (.aload_n 0), 1, 0, 0) := by decide +kernel
theorem gx188_42 : aF 42 zM188.2.2.2.2.2.2.2 = some (42, (.getfield 81), 3, 11, 9) := by decide +kernel
theorem gx188_45 : aF 45 zM188.2.2.2.2.2.2.2 = some (45, (.iload_n 1), 1, 0, 0) := by decide +kernel
theorem gx188_46 : aF 46 zM188.2.2.2.2.2.2.2 = some (46, (.iload_n 2), 1, 0, 0) := by decide +kernel
theorem gx188_47 : aF 47 zM188.2.2.2.2.2.2.2 = some (47, (.invokevirtual 367), 3, 108, 0) := by decide +kernel
theorem gx188_50 : aF 50 zM188.2.2.2.2.2.2.2 = some (50, .ireturn, 1, 0, 0) := by decide +kernel
theorem gx188_30 : aF 30 zM188.2.2.2.2.2.2.2 = some (30, (.aload_n 0), 1, 0, 0) := by decide +kernel
theorem gx188_31 : aF 31 zM188.2.2.2.2.2.2.2 = some (31, (.getfield 81), 3, 11, 9) := by decide +kernel
theorem gx188_34 : aF 34 zM188.2.2.2.2.2.2.2 = some (34, (.iload_n 1), 1, 0, 0) := by decide +kernel
theorem gx188_35 : aF 35 zM188.2.2.2.2.2.2.2 = some (35, (.invokevirtual 364), 3, 107, 0) := by decide +kernel
theorem gx188_38 : aF 38 zM188.2.2.2.2.2.2.2 = some (38, (.goto 12), 3, 50, 0) := by decide +kernel
theorem gx188_12 : aF 12 zM188.2.2.2.2.2.2.2 = some (12, (.aload_n 0), 1, 0, 0) := by decide +kernel
theorem gx188_13 : aF 13 zM188.2.2.2.2.2.2.2 = some (13, (.getfield 12), 3, 11, 0) := by decide +kernel
theorem gx188_16 : aF 16 zM188.2.2.2.2.2.2.2 = some (16, (.iload_n 2), 1, 0, 0) := by decide +kernel
theorem gx188_17 : aF 17 zM188.2.2.2.2.2.2.2 = some (17, (.invokevirtual 132), 3, 74, 0) := by decide +kernel
theorem gx188_20 : aF 20 zM188.2.2.2.2.2.2.2 = some (20, (.ifCond .ne 5), 3, 25, 0) := by decide +kernel
theorem gx319_0 : aF 0 zM319.2.2.2.2.2.2.2 = some (0, (.iload_n 1), 1, 0, 0) := by decide +kernel
theorem gx319_1 : aF 1 zM319.2.2.2.2.2.2.2 = some (1, (.invokestatic 382), 3, 318, 0) := by decide +kernel
theorem gx319_4 : aF 4 zM319.2.2.2.2.2.2.2 = some (4, (.ifCond .eq 16), 3, 20, 0) := by decide +kernel
theorem gx319_20 : aF 20 zM319.2.2.2.2.2.2.2 = some (20, (.iconst (-1)), 1, 0, 0) := by decide +kernel
theorem gx319_21 : aF 21 zM319.2.2.2.2.2.2.2 = some (21, .ireturn, 1, 0, 0) := by decide +kernel
theorem gx319_7 : aF 7 zM319.2.2.2.2.2.2.2 = some (7, (.iload_n 2), 1, 0, 0) := by decide +kernel
theorem gx319_8 : aF 8 zM319.2.2.2.2.2.2.2 = some (8, (.iconst (-1)), 1, 0, 0) := by decide +kernel
theorem gx319_9 : aF 9 zM319.2.2.2.2.2.2.2 = some (9, (.if_icmp .eq 13), 3, 22, 0) := by decide +kernel
theorem gx319_22 : aF 22 zM319.2.2.2.2.2.2.2 = some (22, (.aload_n 0), 1, 0, 0) := by decide +kernel
theorem gx319_23 : aF 23 zM319.2.2.2.2.2.2.2 = some (23, (.getfield 243), 3, 12, 97) := by decide +kernel
theorem gx319_26 : aF 26 zM319.2.2.2.2.2.2.2 = some (26, (.iload_n 1), 1, 0, 0) := by decide +kernel
theorem gx319_27 : aF 27 zM319.2.2.2.2.2.2.2 = some (27, (.iload_n 2), 1, 0, 0) := by decide +kernel
theorem gx319_28 : aF 28 zM319.2.2.2.2.2.2.2 = some (28, .iastore, 1, 0, 0) := by decide +kernel
theorem gx319_29 : aF 29 zM319.2.2.2.2.2.2.2 = some (29, (.iconst 1), 1, 0, 0) := by decide +kernel
theorem gx319_30 : aF 30 zM319.2.2.2.2.2.2.2 = some (30, .ireturn, 1, 0, 0) := by decide +kernel
theorem gx319_12 : aF 12 zM319.2.2.2.2.2.2.2 = some (12, (.aload_n 0), 1, 0, 0) := by decide +kernel
theorem gx319_13 : aF 13 zM319.2.2.2.2.2.2.2 = some (13, (.iload_n 2), 1, 0, 0) := by decide +kernel
theorem gx319_14 : aF 14 zM319.2.2.2.2.2.2.2 = some (14, (.invokevirtual 268), 3, 200, 0) := by decide +kernel
theorem gx319_17 : aF 17 zM319.2.2.2.2.2.2.2 = some (17, (.ifCond .ne 5), 3, 22, 0) := by decide +kernel
theorem gx189_0 : aF 0 zM189.2.2.2.2.2.2.2 = some (0, (.iload_n 1), 1, 0, 0) := by decide +kernel
theorem gx189_1 : aF 1 zM189.2.2.2.2.2.2.2 = some (1, (.invokestatic 235), 3, 142, 0) := by decide +kernel
theorem gx189_4 : aF 4 zM189.2.2.2.2.2.2.2 = some (4, (.ifCond .eq 18), 3, 22, 0) := by decide +kernel
theorem gx189_22 : aF 22 zM189.2.2.2.2.2.2.2 = some (22, (.iconst (-1)), 1, 0, 0) := by decide +kernel
theorem gx189_23 : aF 23 zM189.2.2.2.2.2.2.2 = some (23, .ireturn, 1, 0, 0) := by decide +kernel
theorem gx189_7 : aF 7 zM189.2.2.2.2.2.2.2 = some (7, (.iload_n 2), 1, 0, 0) := by decide +kernel
theorem gx189_8 : aF 8 zM189.2.2.2.2.2.2.2 = some (8, (.iconst 0), 1, 0, 0) := by decide +kernel
theorem gx189_9 : aF 9 zM189.2.2.2.2.2.2.2 = some (9, (.iconst 4), 1, 0, 0) := by decide +kernel
theorem gx189_10 : aF 10 zM189.2.2.2.2.2.2.2 = some (10, (.invokestatic 85), 3, 137, 0) := by decide +kernel
theorem gx189_13 : aF 13 zM189.2.2.2.2.2.2.2 = some (13, (.ifCond .eq 9), 3, 22, 0) := by decide +kernel
theorem gx189_16 : aF 16 zM189.2.2.2.2.2.2.2 = some (16, (.iload_n 3), 1, 0, 0) := by decide +kernel
theorem gx189_17 : aF 17 zM189.2.2.2.2.2.2.2 = some (17, (.bipush 60), 2, 0, 0) := by decide +kernel
theorem gx189_19 : aF 19 zM189.2.2.2.2.2.2.2 = some (19, (.if_icmp .le 5), 3, 24, 0) := by decide +kernel
theorem gx189_24 : aF 24 zM189.2.2.2.2.2.2.2 = some (24, (.iload_n 3), 1, 0, 0) := by decide +kernel
theorem gx189_25 : aF 25 zM189.2.2.2.2.2.2.2 = some (25, (.ifCond .ge 8), 3, 33, 0) := by decide +kernel
theorem gx189_33 : aF 33 zM189.2.2.2.2.2.2.2 = some (33, (.aload_n 0), 1, 0, 0) := by decide +kernel
theorem gx189_34 : aF 34 zM189.2.2.2.2.2.2.2 = some (34, (.getfield 81), 3, 11, 9) := by decide +kernel
theorem gx189_37 : aF 37 zM189.2.2.2.2.2.2.2 = some (37, (.iload_n 1), 1, 0, 0) := by decide +kernel
theorem gx189_38 : aF 38 zM189.2.2.2.2.2.2.2 = some (38, (.iload_n 2), 1, 0, 0) := by decide +kernel
theorem gx189_39 : aF 39 zM189.2.2.2.2.2.2.2 = some (39, (.iload_n 3), 1, 0, 0) := by decide +kernel
theorem gx189_40 : aF 40 zM189.2.2.2.2.2.2.2 = some (40, (.invokevirtual 370), 3, 109, 0) := by decide +kernel
theorem gx189_43 : aF 43 zM189.2.2.2.2.2.2.2 = some (43, .ireturn, 1, 0, 0) := by decide +kernel
theorem gx189_28 : aF 28 zM189.2.2.2.2.2.2.2 = some (28, (.bipush (-14)), 2, 0, 0) := by decide +kernel
theorem gx189_30 : aF 30 zM189.2.2.2.2.2.2.2 = some (30, (.goto 13), 3, 43, 0) := by decide +kernel
theorem gx320_0 : aF 0 zM320.2.2.2.2.2.2.2 = some (0, (.iload_n 1), 1, 0, 0) := by decide +kernel
theorem gx320_1 : aF 1 zM320.2.2.2.2.2.2.2 = some (1, (.invokestatic 382), 3, 318, 0) := by decide +kernel
theorem gx320_4 : aF 4 zM320.2.2.2.2.2.2.2 = some (4, (.ifCond .eq 18), 3, 22, 0) := by decide +kernel
theorem gx320_22 : aF 22 zM320.2.2.2.2.2.2.2 = some (22, (.iconst (-1)), 1, 0, 0) := by decide +kernel
theorem gx320_23 : aF 23 zM320.2.2.2.2.2.2.2 = some (23, .ireturn, 1, 0, 0) := by decide +kernel
theorem gx320_7 : aF 7 zM320.2.2.2.2.2.2.2 = some (7, (.iload_n 2), 1, 0, 0) := by decide +kernel
theorem gx320_8 : aF 8 zM320.2.2.2.2.2.2.2 = some (8, (.iconst 0), 1, 0, 0) := by decide +kernel
theorem gx320_9 : aF 9 zM320.2.2.2.2.2.2.2 = some (9, (.iconst 4), 1, 0, 0) := by decide +kernel
theorem gx320_10 : aF 10 zM320.2.2.2.2.2.2.2 = some (10, (.invokestatic 258), 3, 196, 0) := by decide +kernel
theorem gx320_13 : aF 13 zM320.2.2.2.2.2.2.2 = some (13, (.ifCond .eq 9), 3, 22, 0) := by decide +kernel
theorem gx320_16 : aF 16 zM320.2.2.2.2.2.2.2 = some (16, (.iload_n 3), 1, 0, 0) := by decide +kernel
theorem gx320_17 : aF 17 zM320.2.2.2.2.2.2.2 = some (17, (.bipush 60), 2, 0, 0) := by decide +kernel
theorem gx320_19 : aF 19 zM320.2.2.2.2.2.2.2 = some (19, (.if_icmp .le 5), 3, 24, 0) := by decide +kernel
theorem gx320_24 : aF 24 zM320.2.2.2.2.2.2.2 = some (24, (.iload_n 3), 1, 0, 0) := by decide +kernel
theorem gx320_25 : aF 25 zM320.2.2.2.2.2.2.2 = some (25, (.ifCond .ge 6), 3, 31, 0) := by decide +kernel
theorem gx320_31 : aF 31 zM320.2.2.2.2.2.2.2 = some (31, (.aload_n 0), 1, 0, 0) := by decide +kernel
theorem gx320_32 : aF 32 zM320.2.2.2.2.2.2.2 = some (32, (.getfield 243), 3, 12, 97) := by decide +kernel
theorem gx320_35 : aF 35 zM320.2.2.2.2.2.2.2 = some (35, (.iload_n 1), 1, 0, 0) := by decide +kernel
theorem gx320_36 : aF 36 zM320.2.2.2.2.2.2.2 = some (36, (.bipush (-2)), 2, 0, 0) := by decide +kernel
theorem gx320_38 : aF 38 zM320.2.2.2.2.2.2.2 = some (38, (.iload_n 2), 1, 0, 0) := by decide +kernel
theorem gx320_39 : aF 39 zM320.2.2.2.2.2.2.2 = some (39, .isub, 1, 0, 0) := by decide +kernel
theorem gx320_40 : aF 40 zM320.2.2.2.2.2.2.2 = some (40, .iastore, 1, 0, 0) := by decide +kernel
theorem gx320_41 : aF 41 zM320.2.2.2.2.2.2.2 = some (41, (.aload_n 0), 1, 0, 0) := by decide +kernel
theorem gx320_42 : aF 42 zM320.2.2.2.2.2.2.2 = some (42, (.getfield 246), 3, 12, 98) := by decide +kernel
theorem gx320_45 : aF 45 zM320.2.2.2.2.2.2.2 = some (45, (.iload_n 1), 1, 0, 0) := by decide +kernel
theorem gx320_46 : aF 46 zM320.2.2.2.2.2.2.2 = some (46, (.iload_n 3), 1, 0, 0) := by decide +kernel
theorem gx320_47 : aF 47 zM320.2.2.2.2.2.2.2 = some (47, .iastore, 1, 0, 0) := by decide +kernel
theorem gx320_48 : aF 48 zM320.2.2.2.2.2.2.2 = some (48, (.bipush 60), 2, 0, 0) := by decide +kernel
theorem gx320_50 : aF 50 zM320.2.2.2.2.2.2.2 = some (50, (.iload_n 1), 1, 0, 0) := by decide +kernel
theorem gx320_51 : aF 51 zM320.2.2.2.2.2.2.2 = some (51, .imul, 1, 0, 0) := by decide +kernel
theorem gx320_52 : aF 52 zM320.2.2.2.2.2.2.2 = some (52, (.istore 4), 2, 0, 0) := by decide +kernel
theorem gx320_28 : aF 28 zM320.2.2.2.2.2.2.2 = some (28, (.bipush (-14)), 2, 0, 0) := by decide +kernel
theorem gx320_30 : aF 30 zM320.2.2.2.2.2.2.2 = some (30, .ireturn, 1, 0, 0) := by decide +kernel
theorem gx320_54 : aF 54 zM320.2.2.2.2.2.2.2 = some (54, (.iload 4), 2, 0, 0) := by decide +kernel
theorem gx320_56 : aF 56 zM320.2.2.2.2.2.2.2 = some (56, (.bipush 60), 2, 0, 0) := by decide +kernel
theorem gx320_58 : aF 58 zM320.2.2.2.2.2.2.2 = some (58, (.iload_n 1), 1, 0, 0) := by decide +kernel
theorem gx320_59 : aF 59 zM320.2.2.2.2.2.2.2 = some (59, .imul, 1, 0, 0) := by decide +kernel
theorem gx320_60 : aF 60 zM320.2.2.2.2.2.2.2 = some (60, (.bipush 60), 2, 0, 0) := by decide +kernel
theorem gx320_62 : aF 62 zM320.2.2.2.2.2.2.2 = some (62, .iadd, 1, 0, 0) := by decide +kernel
theorem gx320_63 : aF 63 zM320.2.2.2.2.2.2.2 = some (63, (.if_icmp .ge 17), 3, 80, 0) := by decide +kernel
theorem gx320_80 : aF 80 zM320.2.2.2.2.2.2.2 = some (80, (.iconst 1), 1, 0, 0) := by decide +kernel
theorem gx320_81 : aF 81 zM320.2.2.2.2.2.2.2 = some (81, .ireturn, 1, 0, 0) := by decide +kernel
theorem gx320_66 : aF 66 zM320.2.2.2.2.2.2.2 = some (66, (.aload_n 0), 1, 0, 0) := by decide +kernel
theorem gx320_67 : aF 67 zM320.2.2.2.2.2.2.2 = some (67, (.getfield 249), 3, 12, 99) := by decide +kernel
theorem gx320_70 : aF 70 zM320.2.2.2.2.2.2.2 = some (70, (.iload 4), 2, 0, 0) := by decide +kernel
theorem gx320_72 : aF 72 zM320.2.2.2.2.2.2.2 = some (72, (.lconst 0), 1, 0, 0) := by decide +kernel
theorem gx320_73 : aF 73 zM320.2.2.2.2.2.2.2 = some (73, .lastore, 1, 0, 0) := by decide +kernel
theorem gx320_74 : aF 74 zM320.2.2.2.2.2.2.2 = some (74, (.iinc 4 1), 3, 0, 0) := by decide +kernel
theorem gx320_77 : aF 77 zM320.2.2.2.2.2.2.2 = some (77, (.goto (-23)), 3, 54, 0) := by decide +kernel
theorem gx190_0 : aF 0 zM190.2.2.2.2.2.2.2 = some (0, (.iload_n 1), 1, 0, 0) := by decide +kernel
theorem gx190_1 : aF 1 zM190.2.2.2.2.2.2.2 = some (1, (.invokestatic 235), 3, 142, 0) := by decide +kernel
theorem gx190_4 : aF 4 zM190.2.2.2.2.2.2.2 = some (4, (.ifCond .eq 16), 3, 20, 0) := by decide +kernel
theorem gx190_20 : aF 20 zM190.2.2.2.2.2.2.2 = some (20, (.iconst (-1)), 1, 0, 0) := by decide +kernel
theorem gx190_21 : aF 21 zM190.2.2.2.2.2.2.2 = some (21, .ireturn, 1, 0, 0) := by decide +kernel
theorem gx190_7 : aF 7 zM190.2.2.2.2.2.2.2 = some (7, (.aload_n 0), 1, 0, 0) := by decide +kernel
theorem gx190_8 : aF 8 zM190.2.2.2.2.2.2.2 = some (8, (.getfield 81), 3, 11, 9) := by decide +kernel
theorem gx190_11 : aF 11 zM190.2.2.2.2.2.2.2 = some (11, (.iload_n 1), 1, 0, 0) := by decide +kernel
theorem gx190_12 : aF 12 zM190.2.2.2.2.2.2.2 = some (12, (.iload_n 2), 1, 0, 0) := by decide +kernel
theorem gx190_13 : aF 13 zM190.2.2.2.2.2.2.2 = some (13, (.lload_n 3), 1, 0, 0) := by decide +kernel
theorem gx190_14 : aF 14 zM190.2.2.2.2.2.2.2 = some (14, (.invokevirtual 373), 3, 112, 0) := by decide +kernel
theorem gx190_17 : aF 17 zM190.2.2.2.2.2.2.2 = some (17, (.goto 4), 3, 21, 0) := by decide +kernel
theorem gx322_0 : aF 0 zM322.2.2.2.2.2.2.2 = some (0, (.aload_n 0), 1, 0, 0) := by decide +kernel
theorem gx322_1 : aF 1 zM322.2.2.2.2.2.2.2 = some (1, (.iload_n 1), 1, 0, 0) := by decide +kernel
theorem gx322_2 : aF 2 zM322.2.2.2.2.2.2.2 = some (2, (.iload_n 2), 1, 0, 0) := by decide +kernel
theorem gx322_3 : aF 3 zM322.2.2.2.2.2.2.2 = some (3, (.invokevirtual 592), 3, 321, 0) := by decide +kernel
theorem gx322_6 : aF 6 zM322.2.2.2.2.2.2.2 = some (6, (.istore 5), 2, 0, 0) := by decide +kernel
theorem gx322_8 : aF 8 zM322.2.2.2.2.2.2.2 = some (8, (.iload 5), 2, 0, 0) := by decide +kernel
theorem gx322_10 : aF 10 zM322.2.2.2.2.2.2.2 = some (10, (.ifCond .ge 6), 3, 16, 0) := by decide +kernel
theorem gx322_16 : aF 16 zM322.2.2.2.2.2.2.2 = some (16, (.bipush (-2)), 2, 0, 0) := by decide +kernel
theorem gx322_18 : aF 18 zM322.2.2.2.2.2.2.2 = some (18, (.aload_n 0), 1, 0, 0) := by decide +kernel
theorem gx322_19 : aF 19 zM322.2.2.2.2.2.2.2 = some (19, (.getfield 243), 3, 12, 97) := by decide +kernel
theorem gx322_22 : aF 22 zM322.2.2.2.2.2.2.2 = some (22, (.iload_n 1), 1, 0, 0) := by decide +kernel
theorem gx322_23 : aF 23 zM322.2.2.2.2.2.2.2 = some (23, .iaload, 1, 0, 0) := by decide +kernel
theorem gx322_24 : aF 24 zM322.2.2.2.2.2.2.2 = some (24, .isub, 1, 0, 0) := by decide +kernel
theorem gx322_25 : aF 25 zM322.2.2.2.2.2.2.2 = some (25, (.istore 6), 2, 0, 0) := by decide +kernel
theorem gx322_27 : aF 27 zM322.2.2.2.2.2.2.2 = some (27, (.aload_n 0), 1, 0, 0) := by decide +kernel
theorem gx322_28 : aF 28 zM322.2.2.2.2.2.2.2 = some (28, (.getfield 249), 3, 12, 99) := by decide +kernel
theorem gx322_31 : aF 31 zM322.2.2.2.2.2.2.2 = some (31, (.bipush 60), 2, 0, 0) := by decide +kernel
theorem gx322_33 : aF 33 zM322.2.2.2.2.2.2.2 = some (33, (.iload_n 1), 1, 0, 0) := by decide +kernel
theorem gx322_34 : aF 34 zM322.2.2.2.2.2.2.2 = some (34, .imul, 1, 0, 0) := by decide +kernel
theorem gx322_35 : aF 35 zM322.2.2.2.2.2.2.2 = some (35, (.iload_n 2), 1, 0, 0) := by decide +kernel
theorem gx322_36 : aF 36 zM322.2.2.2.2.2.2.2 = some (36, .iadd, 1, 0, 0) := by decide +kernel
theorem gx322_37 : aF 37 zM322.2.2.2.2.2.2.2 = some (37, (.iload 6), 2, 0, 0) := by decide +kernel
theorem gx322_39 : aF 39 zM322.2.2.2.2.2.2.2 = some (39, (.ifCond .ne 10), 3, 49, 0) := by decide +kernel
theorem gx322_49 : aF 49 zM322.2.2.2.2.2.2.2 = some (49, (.iload 6), 2, 0, 0) := by decide +kernel
theorem gx322_51 : aF 51 zM322.2.2.2.2.2.2.2 = some (51, (.iconst 1), 1, 0, 0) := by decide +kernel
theorem gx322_52 : aF 52 zM322.2.2.2.2.2.2.2 = some (52, (.if_icmp .ne 10), 3, 62, 0) := by decide +kernel
theorem gx322_62 : aF 62 zM322.2.2.2.2.2.2.2 = some (62, (.iload 6), 2, 0, 0) := by decide +kernel
theorem gx322_64 : aF 64 zM322.2.2.2.2.2.2.2 = some (64, (.iconst 2), 1, 0, 0) := by decide +kernel
theorem gx322_65 : aF 65 zM322.2.2.2.2.2.2.2 = some (65, (.if_icmp .ne 9), 3, 74, 0) := by decide +kernel
theorem gx322_74 : aF 74 zM322.2.2.2.2.2.2.2 = some (74, (.iload 6), 2, 0, 0) := by decide +kernel
theorem gx322_76 : aF 76 zM322.2.2.2.2.2.2.2 = some (76, (.iconst 3), 1, 0, 0) := by decide +kernel
theorem gx322_77 : aF 77 zM322.2.2.2.2.2.2.2 = some (77, (.if_icmp .ne 7), 3, 84, 0) := by decide +kernel
theorem gx322_84 : aF 84 zM322.2.2.2.2.2.2.2 = some (84, (.lload_n 3), 1, 0, 0) := by decide +kernel
theorem gx322_85 : aF 85 zM322.2.2.2.2.2.2.2 = some (85, (.lconst 0), 1, 0, 0) := by decide +kernel
theorem gx322_86 : aF 86 zM322.2.2.2.2.2.2.2 = some (86, .lcmp, 1, 0, 0) := by decide +kernel
theorem gx322_87 : aF 87 zM322.2.2.2.2.2.2.2 = some (87, (.ifCond .eq 7), 3, 94, 0) := by decide +kernel
theorem gx322_94 : aF 94 zM322.2.2.2.2.2.2.2 = some (94, (.lconst 0), 1, 0, 0) := by decide +kernel
theorem gx322_95 : aF 95 zM322.2.2.2.2.2.2.2 = some (95, .lastore, 1, 0, 0) := by decide +kernel
theorem gx322_96 : aF 96 zM322.2.2.2.2.2.2.2 = some (96, (.iconst 1), 1, 0, 0) := by decide +kernel
theorem gx322_97 : aF 97 zM322.2.2.2.2.2.2.2 = some (97, .ireturn, 1, 0, 0) := by decide +kernel
theorem gx322_90 : aF 90 zM322.2.2.2.2.2.2.2 = some (90, (.lconst 1), 1, 0, 0) := by decide +kernel
theorem gx322_91 : aF 91 zM322.2.2.2.2.2.2.2 = some (91, (.goto 4), 3, 95, 0) := by decide +kernel
theorem gx322_80 : aF 80 zM322.2.2.2.2.2.2.2 = some (80, (.lload_n 3), 1, 0, 0) := by decide +kernel
theorem gx322_81 : aF 81 zM322.2.2.2.2.2.2.2 = some (81, (.goto 14), 3, 95, 0) := by decide +kernel
theorem gx322_68 : aF 68 zM322.2.2.2.2.2.2.2 = some (68, (.lload_n 3), 1, 0, 0) := by decide +kernel
theorem gx322_69 : aF 69 zM322.2.2.2.2.2.2.2 = some (69, .l2i, 1, 0, 0) := by decide +kernel
theorem gx322_70 : aF 70 zM322.2.2.2.2.2.2.2 = some (70, .i2l, 1, 0, 0) := by decide +kernel
theorem gx322_71 : aF 71 zM322.2.2.2.2.2.2.2 = some (71, (.goto 24), 3, 95, 0) := by decide +kernel
theorem gx322_55 : aF 55 zM322.2.2.2.2.2.2.2 = some (55, (.lload_n 3), 1, 0, 0) := by decide +kernel
theorem gx322_56 : aF 56 zM322.2.2.2.2.2.2.2 = some (56, .l2i, 1, 0, 0) := by decide +kernel
theorem gx322_57 : aF 57 zM322.2.2.2.2.2.2.2 = some (57, .i2s, 1, 0, 0) := by decide +kernel
theorem gx322_58 : aF 58 zM322.2.2.2.2.2.2.2 = some (58, .i2l, 1, 0, 0) := by decide +kernel
theorem gx322_59 : aF 59 zM322.2.2.2.2.2.2.2 = some (59, (.goto 36), 3, 95, 0) := by decide +kernel
theorem gx322_42 : aF 42 zM322.2.2.2.2.2.2.2 = some (42, (.lload_n 3), 1, 0, 0) := by decide +kernel
theorem gx322_43 : aF 43 zM322.2.2.2.2.2.2.2 = some (43, .l2i, 1, 0, 0) := by decide +kernel
theorem gx322_44 : aF 44 zM322.2.2.2.2.2.2.2 = some (44, .i2b, 1, 0, 0) := by decide +kernel
theorem gx322_45 : aF 45 zM322.2.2.2.2.2.2.2 = some (45, .i2l, 1, 0, 0) := by decide +kernel
theorem gx322_46 : aF 46 zM322.2.2.2.2.2.2.2 = some (46, (.goto 49), 3, 95, 0) := by decide +kernel
theorem gx322_13 : aF 13 zM322.2.2.2.2.2.2.2 = some (13, (.iload 5), 2, 0, 0) := by decide +kernel
theorem gx322_15 : aF 15 zM322.2.2.2.2.2.2.2 = some (15, .ireturn, 1, 0, 0) := by decide +kernel
theorem gx192_0 : aF 0 zM192.2.2.2.2.2.2.2 = some (0, (.iload_n 1), 1, 0, 0) := by decide +kernel
theorem gx192_1 : aF 1 zM192.2.2.2.2.2.2.2 = some (1, (.invokestatic 235), 3, 142, 0) := by decide +kernel
theorem gx192_4 : aF 4 zM192.2.2.2.2.2.2.2 = some (4, (.ifCond .eq 27), 3, 31, 0) := by decide +kernel
theorem gx192_31 : aF 31 zM192.2.2.2.2.2.2.2 = some (31, (.iconst (-1)), 1, 0, 0) := by decide +kernel
theorem gx192_32 : aF 32 zM192.2.2.2.2.2.2.2 = some (32, .ireturn, 1, 0, 0) := by decide +kernel
theorem gx192_7 : aF 7 zM192.2.2.2.2.2.2.2 = some (7, (.iload_n 3), 1, 0, 0) := by decide +kernel
theorem gx192_8 : aF 8 zM192.2.2.2.2.2.2.2 = some (8, (.invokestatic 235), 3, 142, 0) := by decide +kernel
theorem gx192_11 : aF 11 zM192.2.2.2.2.2.2.2 = some (11, (.ifCond .eq 20), 3, 31, 0) := by decide +kernel
theorem gx192_14 : aF 14 zM192.2.2.2.2.2.2.2 = some (14, (.aload_n 0), 1, 0, 0) := by decide +kernel
theorem gx192_15 : aF 15 zM192.2.2.2.2.2.2.2 = some (15, (.getfield 81), 3, 11, 9) := by decide +kernel
theorem gx192_18 : aF 18 zM192.2.2.2.2.2.2.2 = some (18, (.iload_n 1), 1, 0, 0) := by decide +kernel
theorem gx192_19 : aF 19 zM192.2.2.2.2.2.2.2 = some (19, (.iload_n 2), 1, 0, 0) := by decide +kernel
theorem gx192_20 : aF 20 zM192.2.2.2.2.2.2.2 = some (20, (.iload_n 3), 1, 0, 0) := by decide +kernel
theorem gx192_21 : aF 21 zM192.2.2.2.2.2.2.2 = some (21, (.iload 4), 2, 0, 0) := by decide +kernel
theorem gx192_23 : aF 23 zM192.2.2.2.2.2.2.2 = some (23, (.iload 5), 2, 0, 0) := by decide +kernel
theorem gx192_25 : aF 25 zM192.2.2.2.2.2.2.2 = some (25, (.invokevirtual 385), 3, 115, 0) := by decide +kernel
theorem gx192_28 : aF 28 zM192.2.2.2.2.2.2.2 = some (28, (.goto 4), 3, 32, 0) := by decide +kernel
theorem gx324_0 : aF 0 zM324.2.2.2.2.2.2.2 = some (0, (.iload_n 1), 1, 0, 0) := by decide +kernel
theorem gx324_1 : aF 1 zM324.2.2.2.2.2.2.2 = some (1, (.invokestatic 382), 3, 318, 0) := by decide +kernel
theorem gx324_4 : aF 4 zM324.2.2.2.2.2.2.2 = some (4, (.ifCond .eq 10), 3, 14, 0) := by decide +kernel
theorem gx324_14 : aF 14 zM324.2.2.2.2.2.2.2 = some (14, (.iconst (-1)), 1, 0, 0) := by decide +kernel
theorem gx324_15 : aF 15 zM324.2.2.2.2.2.2.2 = some (15, .ireturn, 1, 0, 0) := by decide +kernel
theorem gx324_7 : aF 7 zM324.2.2.2.2.2.2.2 = some (7, (.iload_n 3), 1, 0, 0) := by decide +kernel
theorem gx324_8 : aF 8 zM324.2.2.2.2.2.2.2 = some (8, (.invokestatic 382), 3, 318, 0) := by decide +kernel
theorem gx324_11 : aF 11 zM324.2.2.2.2.2.2.2 = some (11, (.ifCond .ne 5), 3, 16, 0) := by decide +kernel
theorem gx324_16 : aF 16 zM324.2.2.2.2.2.2.2 = some (16, (.aload_n 0), 1, 0, 0) := by decide +kernel
theorem gx324_17 : aF 17 zM324.2.2.2.2.2.2.2 = some (17, (.getfield 243), 3, 12, 97) := by decide +kernel
theorem gx324_20 : aF 20 zM324.2.2.2.2.2.2.2 = some (20, (.iload_n 1), 1, 0, 0) := by decide +kernel
theorem gx324_21 : aF 21 zM324.2.2.2.2.2.2.2 = some (21, .iaload, 1, 0, 0) := by decide +kernel
theorem gx324_22 : aF 22 zM324.2.2.2.2.2.2.2 = some (22, (.iconst (-1)), 1, 0, 0) := by decide +kernel
theorem gx324_23 : aF 23 zM324.2.2.2.2.2.2.2 = some (23, (.if_icmp .eq 13), 3, 36, 0) := by decide +kernel
theorem gx324_36 : aF 36 zM324.2.2.2.2.2.2.2 = some (36, (.bipush (-11)), 2, 0, 0) := by decide +kernel
theorem gx324_38 : aF 38 zM324.2.2.2.2.2.2.2 = some (38, .ireturn, 1, 0, 0) := by decide +kernel
theorem gx324_26 : aF 26 zM324.2.2.2.2.2.2.2 = some (26, (.aload_n 0), 1, 0, 0) := by decide +kernel
theorem gx324_27 : aF 27 zM324.2.2.2.2.2.2.2 = some (27, (.getfield 243), 3, 12, 97) := by decide +kernel
theorem gx324_30 : aF 30 zM324.2.2.2.2.2.2.2 = some (30, (.iload_n 3), 1, 0, 0) := by decide +kernel
theorem gx324_31 : aF 31 zM324.2.2.2.2.2.2.2 = some (31, .iaload, 1, 0, 0) := by decide +kernel
theorem gx324_32 : aF 32 zM324.2.2.2.2.2.2.2 = some (32, (.iconst (-1)), 1, 0, 0) := by decide +kernel
theorem gx324_33 : aF 33 zM324.2.2.2.2.2.2.2 = some (33, (.if_icmp .ne 6), 3, 39, 0) := by decide +kernel
theorem gx324_39 : aF 39 zM324.2.2.2.2.2.2.2 = some (39, (.aload_n 0), 1, 0, 0) := by decide +kernel
theorem gx324_40 : aF 40 zM324.2.2.2.2.2.2.2 = some (40, (.getfield 243), 3, 12, 97) := by decide +kernel
theorem gx324_43 : aF 43 zM324.2.2.2.2.2.2.2 = some (43, (.iload_n 1), 1, 0, 0) := by decide +kernel
theorem gx324_44 : aF 44 zM324.2.2.2.2.2.2.2 = some (44, .iaload, 1, 0, 0) := by decide +kernel
theorem gx324_45 : aF 45 zM324.2.2.2.2.2.2.2 = some (45, (.ifCond .ge 18), 3, 63, 0) := by decide +kernel
theorem gx324_63 : aF 63 zM324.2.2.2.2.2.2.2 = some (63, (.bipush (-12)), 2, 0, 0) := by decide +kernel
theorem gx324_65 : aF 65 zM324.2.2.2.2.2.2.2 = some (65, .ireturn, 1, 0, 0) := by decide +kernel
theorem gx324_48 : aF 48 zM324.2.2.2.2.2.2.2 = some (48, (.aload_n 0), 1, 0, 0) := by decide +kernel
theorem gx324_49 : aF 49 zM324.2.2.2.2.2.2.2 = some (49, (.getfield 243), 3, 12, 97) := by decide +kernel
theorem gx324_52 : aF 52 zM324.2.2.2.2.2.2.2 = some (52, (.iload_n 1), 1, 0, 0) := by decide +kernel
theorem gx324_53 : aF 53 zM324.2.2.2.2.2.2.2 = some (53, .iaload, 1, 0, 0) := by decide +kernel
theorem gx324_54 : aF 54 zM324.2.2.2.2.2.2.2 = some (54, (.aload_n 0), 1, 0, 0) := by decide +kernel
theorem gx324_55 : aF 55 zM324.2.2.2.2.2.2.2 = some (55, (.getfield 243), 3, 12, 97) := by decide +kernel
theorem gx324_58 : aF 58 zM324.2.2.2.2.2.2.2 = some (58, (.iload_n 3), 1, 0, 0) := by decide +kernel
theorem gx324_59 : aF 59 zM324.2.2.2.2.2.2.2 = some (59, .iaload, 1, 0, 0) := by decide +kernel
theorem gx324_60 : aF 60 zM324.2.2.2.2.2.2.2 = some (60, (.if_icmp .eq 6), 3, 66, 0) := by decide +kernel
theorem gx324_66 : aF 66 zM324.2.2.2.2.2.2.2 = some (66, (.iload 5), 2, 0, 0) := by decide +kernel
theorem gx324_68 : aF 68 zM324.2.2.2.2.2.2.2 = some (68, (.ifCond .lt 39), 3, 107, 0) := by decide +kernel
theorem gx324_107 : aF 107 zM324.2.2.2.2.2.2.2 = some (107, (.bipush (-13)), 2, 0, 0) := by decide +kernel
theorem gx324_109 : aF 109 zM324.2.2.2.2.2.2.2 = some (109, .ireturn, 1, 0, 0) := by decide +kernel
theorem gx324_71 : aF 71 zM324.2.2.2.2.2.2.2 = some (71, (.iload_n 2), 1, 0, 0) := by decide +kernel
theorem gx324_72 : aF 72 zM324.2.2.2.2.2.2.2 = some (72, (.ifCond .lt 35), 3, 107, 0) := by decide +kernel
theorem gx324_75 : aF 75 zM324.2.2.2.2.2.2.2 = some (75, (.iload 4), 2, 0, 0) := by decide +kernel
theorem gx324_77 : aF 77 zM324.2.2.2.2.2.2.2 = some (77, (.ifCond .lt 30), 3, 107, 0) := by decide +kernel
theorem gx324_80 : aF 80 zM324.2.2.2.2.2.2.2 = some (80, (.iload_n 2), 1, 0, 0) := by decide +kernel
theorem gx324_81 : aF 81 zM324.2.2.2.2.2.2.2 = some (81, (.aload_n 0), 1, 0, 0) := by decide +kernel
theorem gx324_82 : aF 82 zM324.2.2.2.2.2.2.2 = some (82, (.getfield 246), 3, 12, 98) := by decide +kernel
theorem gx324_85 : aF 85 zM324.2.2.2.2.2.2.2 = some (85, (.iload_n 1), 1, 0, 0) := by decide +kernel
theorem gx324_86 : aF 86 zM324.2.2.2.2.2.2.2 = some (86, .iaload, 1, 0, 0) := by decide +kernel
theorem gx324_87 : aF 87 zM324.2.2.2.2.2.2.2 = some (87, (.iload 5), 2, 0, 0) := by decide +kernel
theorem gx324_89 : aF 89 zM324.2.2.2.2.2.2.2 = some (89, .isub, 1, 0, 0) := by decide +kernel
theorem gx324_90 : aF 90 zM324.2.2.2.2.2.2.2 = some (90, (.if_icmp .gt 17), 3, 107, 0) := by decide +kernel
theorem gx324_93 : aF 93 zM324.2.2.2.2.2.2.2 = some (93, (.iload 4), 2, 0, 0) := by decide +kernel
theorem gx324_95 : aF 95 zM324.2.2.2.2.2.2.2 = some (95, (.aload_n 0), 1, 0, 0) := by decide +kernel
theorem gx324_96 : aF 96 zM324.2.2.2.2.2.2.2 = some (96, (.getfield 246), 3, 12, 98) := by decide +kernel
theorem gx324_99 : aF 99 zM324.2.2.2.2.2.2.2 = some (99, (.iload_n 3), 1, 0, 0) := by decide +kernel
theorem gx324_100 : aF 100 zM324.2.2.2.2.2.2.2 = some (100, .iaload, 1, 0, 0) := by decide +kernel
theorem gx324_101 : aF 101 zM324.2.2.2.2.2.2.2 = some (101, (.iload 5), 2, 0, 0) := by decide +kernel
theorem gx324_103 : aF 103 zM324.2.2.2.2.2.2.2 = some (103, .isub, 1, 0, 0) := by decide +kernel
theorem gx324_104 : aF 104 zM324.2.2.2.2.2.2.2 = some (104, (.if_icmp .le 6), 3, 110, 0) := by decide +kernel
theorem gx324_110 : aF 110 zM324.2.2.2.2.2.2.2 = some (110, (.iconst 0), 1, 0, 0) := by decide +kernel
theorem gx324_111 : aF 111 zM324.2.2.2.2.2.2.2 = some (111, (.istore 6), 2, 0, 0) := by decide +kernel
theorem gx324_113 : aF 113 zM324.2.2.2.2.2.2.2 = some (113, (.iload 6), 2, 0, 0) := by decide +kernel
theorem gx324_115 : aF 115 zM324.2.2.2.2.2.2.2 = some (115, (.iload 5), 2, 0, 0) := by decide +kernel
theorem gx324_117 : aF 117 zM324.2.2.2.2.2.2.2 = some (117, (.if_icmp .ge 30), 3, 147, 0) := by decide +kernel
theorem gx324_147 : aF 147 zM324.2.2.2.2.2.2.2 = some (147, (.iconst 0), 1, 0, 0) := by decide +kernel
theorem gx324_148 : aF 148 zM324.2.2.2.2.2.2.2 = some (148, (.istore 6), 2, 0, 0) := by decide +kernel
theorem gx324_120 : aF 120 zM324.2.2.2.2.2.2.2 = some (120, (.aload_n 0), 1, 0, 0) := by decide +kernel
theorem gx324_121 : aF 121 zM324.2.2.2.2.2.2.2 = some (121, (.getfield 252), 3, 12, 100) := by decide +kernel
theorem gx324_124 : aF 124 zM324.2.2.2.2.2.2.2 = some (124, (.iload 6), 2, 0, 0) := by decide +kernel
theorem gx324_126 : aF 126 zM324.2.2.2.2.2.2.2 = some (126, (.aload_n 0), 1, 0, 0) := by decide +kernel
theorem gx324_127 : aF 127 zM324.2.2.2.2.2.2.2 = some (127, (.getfield 249), 3, 12, 99) := by decide +kernel
theorem gx324_130 : aF 130 zM324.2.2.2.2.2.2.2 = some (130, (.bipush 60), 2, 0, 0) := by decide +kernel
theorem gx324_132 : aF 132 zM324.2.2.2.2.2.2.2 = some (132, (.iload_n 1), 1, 0, 0) := by decide +kernel
theorem gx324_133 : aF 133 zM324.2.2.2.2.2.2.2 = some (133, .imul, 1, 0, 0) := by decide +kernel
theorem gx324_134 : aF 134 zM324.2.2.2.2.2.2.2 = some (134, (.iload_n 2), 1, 0, 0) := by decide +kernel
theorem gx324_135 : aF 135 zM324.2.2.2.2.2.2.2 = some (135, .iadd, 1, 0, 0) := by decide +kernel
theorem gx324_136 : aF 136 zM324.2.2.2.2.2.2.2 = some (136, (.iload 6), 2, 0, 0) := by decide +kernel
theorem gx324_138 : aF 138 zM324.2.2.2.2.2.2.2 = some (138, .iadd, 1, 0, 0) := by decide +kernel
theorem gx324_139 : aF 139 zM324.2.2.2.2.2.2.2 = some (139, .laload, 1, 0, 0) := by decide +kernel
theorem gx324_140 : aF 140 zM324.2.2.2.2.2.2.2 = some (140, .lastore, 1, 0, 0) := by decide +kernel
theorem gx324_141 : aF 141 zM324.2.2.2.2.2.2.2 = some (141, (.iinc 6 1), 3, 0, 0) := by decide +kernel
theorem gx324_144 : aF 144 zM324.2.2.2.2.2.2.2 = some (144, (.goto (-31)), 3, 113, 0) := by decide +kernel
theorem gx324_150 : aF 150 zM324.2.2.2.2.2.2.2 = some (150, (.iload 6), 2, 0, 0) := by decide +kernel
theorem gx324_152 : aF 152 zM324.2.2.2.2.2.2.2 = some (152, (.iload 5), 2, 0, 0) := by decide +kernel
theorem gx324_154 : aF 154 zM324.2.2.2.2.2.2.2 = some (154, (.if_icmp .ge 31), 3, 185, 0) := by decide +kernel
theorem gx324_185 : aF 185 zM324.2.2.2.2.2.2.2 = some (185, (.iload 5), 2, 0, 0) := by decide +kernel
theorem gx324_187 : aF 187 zM324.2.2.2.2.2.2.2 = some (187, .ireturn, 1, 0, 0) := by decide +kernel
theorem gx324_157 : aF 157 zM324.2.2.2.2.2.2.2 = some (157, (.aload_n 0), 1, 0, 0) := by decide +kernel
theorem gx324_158 : aF 158 zM324.2.2.2.2.2.2.2 = some (158, (.getfield 249), 3, 12, 99) := by decide +kernel
theorem gx324_161 : aF 161 zM324.2.2.2.2.2.2.2 = some (161, (.bipush 60), 2, 0, 0) := by decide +kernel
theorem gx324_163 : aF 163 zM324.2.2.2.2.2.2.2 = some (163, (.iload_n 3), 1, 0, 0) := by decide +kernel
theorem gx324_164 : aF 164 zM324.2.2.2.2.2.2.2 = some (164, .imul, 1, 0, 0) := by decide +kernel
theorem gx324_165 : aF 165 zM324.2.2.2.2.2.2.2 = some (165, (.iload 4), 2, 0, 0) := by decide +kernel
theorem gx324_167 : aF 167 zM324.2.2.2.2.2.2.2 = some (167, .iadd, 1, 0, 0) := by decide +kernel
theorem gx324_168 : aF 168 zM324.2.2.2.2.2.2.2 = some (168, (.iload 6), 2, 0, 0) := by decide +kernel
theorem gx324_170 : aF 170 zM324.2.2.2.2.2.2.2 = some (170, .iadd, 1, 0, 0) := by decide +kernel
theorem gx324_171 : aF 171 zM324.2.2.2.2.2.2.2 = some (171, (.aload_n 0), 1, 0, 0) := by decide +kernel
theorem gx324_172 : aF 172 zM324.2.2.2.2.2.2.2 = some (172, (.getfield 252), 3, 12, 100) := by decide +kernel
theorem gx324_175 : aF 175 zM324.2.2.2.2.2.2.2 = some (175, (.iload 6), 2, 0, 0) := by decide +kernel
theorem gx324_177 : aF 177 zM324.2.2.2.2.2.2.2 = some (177, .laload, 1, 0, 0) := by decide +kernel
theorem gx324_178 : aF 178 zM324.2.2.2.2.2.2.2 = some (178, .lastore, 1, 0, 0) := by decide +kernel
theorem gx324_179 : aF 179 zM324.2.2.2.2.2.2.2 = some (179, (.iinc 6 1), 3, 0, 0) := by decide +kernel
theorem gx324_182 : aF 182 zM324.2.2.2.2.2.2.2 = some (182, (.goto (-32)), 3, 150, 0) := by decide +kernel
theorem gx193_0 : aF 0 zM193.2.2.2.2.2.2.2 = some (0, (.iload_n 1), 1, 0, 0) := by decide +kernel
theorem gx193_1 : aF 1 zM193.2.2.2.2.2.2.2 = some (1, (.invokestatic 235), 3, 142, 0) := by decide +kernel
theorem gx193_4 : aF 4 zM193.2.2.2.2.2.2.2 = some (4, (.ifCond .eq 13), 3, 17, 0) := by decide +kernel
theorem gx193_17 : aF 17 zM193.2.2.2.2.2.2.2 = some (17, (.iconst (-1)), 1, 0, 0) := by decide +kernel
theorem gx193_18 : aF 18 zM193.2.2.2.2.2.2.2 = some (18, .ireturn, 1, 0, 0) := by decide +kernel
theorem gx193_7 : aF 7 zM193.2.2.2.2.2.2.2 = some (7, (.iload_n 2), 1, 0, 0) := by decide +kernel
theorem gx193_8 : aF 8 zM193.2.2.2.2.2.2.2 = some (8, (.iconst 0), 1, 0, 0) := by decide +kernel
theorem gx193_9 : aF 9 zM193.2.2.2.2.2.2.2 = some (9, (.bipush 7), 2, 0, 0) := by decide +kernel
theorem gx193_11 : aF 11 zM193.2.2.2.2.2.2.2 = some (11, (.invokestatic 85), 3, 137, 0) := by decide +kernel
theorem gx193_14 : aF 14 zM193.2.2.2.2.2.2.2 = some (14, (.ifCond .ne 5), 3, 19, 0) := by decide +kernel
theorem gx193_19 : aF 19 zM193.2.2.2.2.2.2.2 = some (19, (.aload_n 0), 1, 0, 0) := by decide +kernel
theorem gx193_20 : aF 20 zM193.2.2.2.2.2.2.2 = some (20, (.getfield 81), 3, 11, 9) := by decide +kernel
theorem gx193_23 : aF 23 zM193.2.2.2.2.2.2.2 = some (23, (.getfield 238), 3, 9, 0) := by decide +kernel
theorem gx193_26 : aF 26 zM193.2.2.2.2.2.2.2 = some (26, (.iload_n 1), 1, 0, 0) := by decide +kernel
theorem gx193_27 : aF 27 zM193.2.2.2.2.2.2.2 = some (27, .iaload, 1, 0, 0) := by decide +kernel
theorem gx193_28 : aF 28 zM193.2.2.2.2.2.2.2 = some (28, (.istore_n 3), 1, 0, 0) := by decide +kernel
theorem gx193_29 : aF 29 zM193.2.2.2.2.2.2.2 = some (29, (.iload_n 3), 1, 0, 0) := by decide +kernel
theorem gx193_30 : aF 30 zM193.2.2.2.2.2.2.2 = some (30, (.iconst (-1)), 1, 0, 0) := by decide +kernel
theorem gx193_31 : aF 31 zM193.2.2.2.2.2.2.2 = some (31, (.if_icmp .ne 6), 3, 37, 0) := by decide +kernel
theorem gx193_37 : aF 37 zM193.2.2.2.2.2.2.2 = some (37, (.iload_n 3), 1, 0, 0) := by decide +kernel
theorem gx193_38 : aF 38 zM193.2.2.2.2.2.2.2 = some (38, (.iconst 5), 1, 0, 0) := by decide +kernel
theorem gx193_39 : aF 39 zM193.2.2.2.2.2.2.2 = some (39, (.if_icmp .eq 6), 3, 45, 0) := by decide +kernel
theorem gx193_45 : aF 45 zM193.2.2.2.2.2.2.2 = some (45, (.aload_n 0), 1, 0, 0) := by decide +kernel
theorem gx193_46 : aF 46 zM193.2.2.2.2.2.2.2 = some (46, (.getfield 12), 3, 11, 0) := by decide +kernel
theorem gx193_49 : aF 49 zM193.2.2.2.2.2.2.2 = some (49, (.getfield 139), 3, 6, 7) := by decide +kernel
theorem gx193_52 : aF 52 zM193.2.2.2.2.2.2.2 = some (52, (.aload_n 0), 1, 0, 0) := by decide +kernel
theorem gx193_53 : aF 53 zM193.2.2.2.2.2.2.2 = some (53, (.getfield 81), 3, 11, 9) := by decide +kernel
theorem gx193_56 : aF 56 zM193.2.2.2.2.2.2.2 = some (56, (.getfield 388), 3, 9, 1) := by decide +kernel
theorem gx193_59 : aF 59 zM193.2.2.2.2.2.2.2 = some (59, (.iload_n 1), 1, 0, 0) := by decide +kernel
theorem gx193_60 : aF 60 zM193.2.2.2.2.2.2.2 = some (60, .iaload, 1, 0, 0) := by decide +kernel
theorem gx193_61 : aF 61 zM193.2.2.2.2.2.2.2 = some (61, .iaload, 1, 0, 0) := by decide +kernel
theorem gx193_62 : aF 62 zM193.2.2.2.2.2.2.2 = some (62, (.istore 4), 2, 0, 0) := by decide +kernel
theorem gx193_64 : aF 64 zM193.2.2.2.2.2.2.2 = some (64, (.iload 4), 2, 0, 0) := by decide +kernel
theorem gx193_66 : aF 66 zM193.2.2.2.2.2.2.2 = some (66, (.iload_n 2), 1, 0, 0) := by decide +kernel
theorem gx193_67 : aF 67 zM193.2.2.2.2.2.2.2 = some (67, (.invokestatic 391), 3, 72, 0) := by decide +kernel
theorem gx193_70 : aF 70 zM193.2.2.2.2.2.2.2 = some (70, (.ifCond .eq 8), 3, 78, 0) := by decide +kernel
theorem gx193_78 : aF 78 zM193.2.2.2.2.2.2.2 = some (78, (.bipush (-12)), 2, 0, 0) := by decide +kernel
theorem gx193_80 : aF 80 zM193.2.2.2.2.2.2.2 = some (80, .ireturn, 1, 0, 0) := by decide +kernel
theorem gx193_73 : aF 73 zM193.2.2.2.2.2.2.2 = some (73, (.iload 4), 2, 0, 0) := by decide +kernel
theorem gx193_75 : aF 75 zM193.2.2.2.2.2.2.2 = some (75, (.goto 5), 3, 80, 0) := by decide +kernel
theorem gx193_42 : aF 42 zM193.2.2.2.2.2.2.2 = some (42, (.bipush (-12)), 2, 0, 0) := by decide +kernel
theorem gx193_44 : aF 44 zM193.2.2.2.2.2.2.2 = some (44, .ireturn, 1, 0, 0) := by decide +kernel
theorem gx193_34 : aF 34 zM193.2.2.2.2.2.2.2 = some (34, (.bipush (-11)), 2, 0, 0) := by decide +kernel
theorem gx193_36 : aF 36 zM193.2.2.2.2.2.2.2 = some (36, .ireturn, 1, 0, 0) := by decide +kernel
theorem gx325_0 : aF 0 zM325.2.2.2.2.2.2.2 = some (0, (.iload_n 1), 1, 0, 0) := by decide +kernel
theorem gx325_1 : aF 1 zM325.2.2.2.2.2.2.2 = some (1, (.invokestatic 382), 3, 318, 0) := by decide +kernel
theorem gx325_4 : aF 4 zM325.2.2.2.2.2.2.2 = some (4, (.ifCond .eq 13), 3, 17, 0) := by decide +kernel
theorem gx325_17 : aF 17 zM325.2.2.2.2.2.2.2 = some (17, (.iconst (-1)), 1, 0, 0) := by decide +kernel
theorem gx325_18 : aF 18 zM325.2.2.2.2.2.2.2 = some (18, .ireturn, 1, 0, 0) := by decide +kernel
theorem gx325_7 : aF 7 zM325.2.2.2.2.2.2.2 = some (7, (.iload_n 2), 1, 0, 0) := by decide +kernel
theorem gx325_8 : aF 8 zM325.2.2.2.2.2.2.2 = some (8, (.iconst 0), 1, 0, 0) := by decide +kernel
theorem gx325_9 : aF 9 zM325.2.2.2.2.2.2.2 = some (9, (.bipush 7), 2, 0, 0) := by decide +kernel
theorem gx325_11 : aF 11 zM325.2.2.2.2.2.2.2 = some (11, (.invokestatic 258), 3, 196, 0) := by decide +kernel
theorem gx325_14 : aF 14 zM325.2.2.2.2.2.2.2 = some (14, (.ifCond .ne 5), 3, 19, 0) := by decide +kernel
theorem gx325_19 : aF 19 zM325.2.2.2.2.2.2.2 = some (19, (.aload_n 0), 1, 0, 0) := by decide +kernel
theorem gx325_20 : aF 20 zM325.2.2.2.2.2.2.2 = some (20, (.getfield 243), 3, 12, 97) := by decide +kernel
theorem gx325_23 : aF 23 zM325.2.2.2.2.2.2.2 = some (23, (.iload_n 1), 1, 0, 0) := by decide +kernel
theorem gx325_24 : aF 24 zM325.2.2.2.2.2.2.2 = some (24, .iaload, 1, 0, 0) := by decide +kernel
theorem gx325_25 : aF 25 zM325.2.2.2.2.2.2.2 = some (25, (.iconst (-1)), 1, 0, 0) := by decide +kernel
theorem gx325_26 : aF 26 zM325.2.2.2.2.2.2.2 = some (26, (.if_icmp .ne 6), 3, 32, 0) := by decide +kernel
theorem gx325_32 : aF 32 zM325.2.2.2.2.2.2.2 = some (32, (.aload_n 0), 1, 0, 0) := by decide +kernel
theorem gx325_33 : aF 33 zM325.2.2.2.2.2.2.2 = some (33, (.getfield 243), 3, 12, 97) := by decide +kernel
theorem gx325_36 : aF 36 zM325.2.2.2.2.2.2.2 = some (36, (.iload_n 1), 1, 0, 0) := by decide +kernel
theorem gx325_37 : aF 37 zM325.2.2.2.2.2.2.2 = some (37, .iaload, 1, 0, 0) := by decide +kernel
theorem gx325_38 : aF 38 zM325.2.2.2.2.2.2.2 = some (38, (.ifCond .lt 35), 3, 73, 0) := by decide +kernel
theorem gx325_73 : aF 73 zM325.2.2.2.2.2.2.2 = some (73, (.bipush (-12)), 2, 0, 0) := by decide +kernel
theorem gx325_75 : aF 75 zM325.2.2.2.2.2.2.2 = some (75, .ireturn, 1, 0, 0) := by decide +kernel
theorem gx325_41 : aF 41 zM325.2.2.2.2.2.2.2 = some (41, (.aload_n 0), 1, 0, 0) := by decide +kernel
theorem gx325_42 : aF 42 zM325.2.2.2.2.2.2.2 = some (42, (.getfield 7), 3, 12, 3) := by decide +kernel
theorem gx325_45 : aF 45 zM325.2.2.2.2.2.2.2 = some (45, (.aload_n 0), 1, 0, 0) := by decide +kernel
theorem gx325_46 : aF 46 zM325.2.2.2.2.2.2.2 = some (46, (.getfield 243), 3, 12, 97) := by decide +kernel
theorem gx325_49 : aF 49 zM325.2.2.2.2.2.2.2 = some (49, (.iload_n 1), 1, 0, 0) := by decide +kernel
theorem gx325_50 : aF 50 zM325.2.2.2.2.2.2.2 = some (50, .iaload, 1, 0, 0) := by decide +kernel
theorem gx325_51 : aF 51 zM325.2.2.2.2.2.2.2 = some (51, .iaload, 1, 0, 0) := by decide +kernel
theorem gx325_52 : aF 52 zM325.2.2.2.2.2.2.2 = some (52, (.iload_n 2), 1, 0, 0) := by decide +kernel
theorem gx325_53 : aF 53 zM325.2.2.2.2.2.2.2 = some (53, (.invokestatic 272), 3, 201, 0) := by decide +kernel
theorem gx325_56 : aF 56 zM325.2.2.2.2.2.2.2 = some (56, (.ifCond .eq 17), 3, 73, 0) := by decide +kernel
theorem gx325_59 : aF 59 zM325.2.2.2.2.2.2.2 = some (59, (.aload_n 0), 1, 0, 0) := by decide +kernel
theorem gx325_60 : aF 60 zM325.2.2.2.2.2.2.2 = some (60, (.getfield 7), 3, 12, 3) := by decide +kernel
theorem gx325_63 : aF 63 zM325.2.2.2.2.2.2.2 = some (63, (.aload_n 0), 1, 0, 0) := by decide +kernel
theorem gx325_64 : aF 64 zM325.2.2.2.2.2.2.2 = some (64, (.getfield 243), 3, 12, 97) := by decide +kernel
theorem gx325_67 : aF 67 zM325.2.2.2.2.2.2.2 = some (67, (.iload_n 1), 1, 0, 0) := by decide +kernel
theorem gx325_68 : aF 68 zM325.2.2.2.2.2.2.2 = some (68, .iaload, 1, 0, 0) := by decide +kernel
theorem gx325_69 : aF 69 zM325.2.2.2.2.2.2.2 = some (69, .iaload, 1, 0, 0) := by decide +kernel
theorem gx325_70 : aF 70 zM325.2.2.2.2.2.2.2 = some (70, (.goto 5), 3, 75, 0) := by decide +kernel
theorem gx325_29 : aF 29 zM325.2.2.2.2.2.2.2 = some (29, (.bipush (-11)), 2, 0, 0) := by decide +kernel
theorem gx325_31 : aF 31 zM325.2.2.2.2.2.2.2 = some (31, .ireturn, 1, 0, 0) := by decide +kernel
theorem d330_0 {n : Nat} {X : aX} {h : aH} {P : aH → Prop} {x0 x1 x2 : Int32} {a0 a1 a2 : Int} (S : wS h) (z0 : x0.toInt = a0) (z1 : x1.toInt = a1) (z2 : x2.toInt = a2) (H : ((a1 ≤ a2 → ((0 ≤ a1 → ((a2 ≤ a0 → P h) ∧ (a0 < a2 → True))) ∧ (a1 < 0 → True))) ∧ (a2 < a1 → True))) : Pt (n + 1) X zM330 0 [some (.int x0), some (.int x1), some (.int x2)] [] h (qN P) := by
  refine pt_1 (fun n d => r_iloadn gx330_0 rfl) ?_
  refine pt_d (pt_1 (fun n d => r_iloadn gx330_1 rfl) ?_)
  refine pt_d (pt_icmp_le gx330_2 z1 z2 (fun e1 => ?_) (fun e1 => ?_))
  · have H := H.1 e1
    refine pt_d (pt_1 (fun n d => r_iloadn gx330_46 rfl) ?_)
    refine pt_d (pt_if_ge gx330_47 z1 (fun e2 => ?_) (fun e2 => ?_))
    · have H := H.1 e2
      refine pt_d (pt_1 (fun n d => r_iloadn gx330_59 rfl) ?_)
      refine pt_d (pt_1 (fun n d => r_iloadn gx330_60 rfl) ?_)
      refine pt_d (pt_icmp_le gx330_61 z2 z0 (fun e3 => ?_) (fun e3 => ?_))
      · have H := H.1 e3
        exact pt_d (pt_vret gx330_73 ⟨rfl, H⟩)
      · have H := H.2 e3
        exact pt_none gn330_64
    · have H := H.2 e2
      exact pt_none gn330_50
  · have H := H.2 e1
    exact pt_none gn330_5
theorem c_330 {n : Nat} {X : aX} {h : aH} {x0 x1 x2 : Int32} {a0 a1 a2 : Int} (S : wS h) (z0 : x0.toInt = a0) (z1 : x1.toInt = a1) (z2 : x2.toInt = a2) : Pt n X zM330 0 [some (.int x0), some (.int x1), some (.int x2)] [] h (qN (fun h' => h' = h)) := by
  refine pt_d (d330_0 S z0 z1 z2 ⟨fun e => ⟨fun e2 => ⟨fun e3 => rfl, fun e3 => trivial⟩, fun e2 => trivial⟩, fun e => trivial⟩)

theorem d331_0 {n : Nat} {X : aX} {h : aH} {P : aH → Prop} {x1 x2 : Int32} {x3 : Int64} {a1 a2 a3 : Int} (S : wS h) (z1 : x1.toInt = a1) (z2 : x2.toInt = a2) (z3 : x3.toInt = a3) (H : Pt n X zM331 10 [some (.ref 71), some (.int x1), some (.int x2), some (.long x3), none, some (.int x1)] [] h (qN P)) : Pt (n + 1) X zM331 0 [some (.ref 71), some (.int x1), some (.int x2), some (.long x3), none, none] [] h (qN P) := by
  refine pt_1 (fun n d => r_aloadn gx331_0 rfl) ?_
  refine pt_d (pt_alen (N' := 360) gx331_1 S tl_71 (fun v1 h1 => ?_))
  refine pt_d (pt_1 (fun n d => r_iloadn gx331_2 rfl) ?_)
  refine pt_d (pt_1 (fun n d => r_iloadn gx331_3 rfl) ?_)
  refine pt_d (pt_stat (as := [.int v1, .int x1, .int x2]) (r := []) gx331_4 rfl (show zmt[330]? = some zM330 from rfl) rfl rfl rfl rfl (c_330 S h1 z1 z2) (kqPN ?_))
  show Pt _ _ _ 7 _ [] _ _
  refine pt_d (pt_1 (fun n d => r_iloadn gx331_7 rfl) ?_)
  refine pt_d (pt_1 (fun n d => r_istore (L' := [some (.ref 71), some (.int x1), some (.int x2), some (.long x3), none, some (.int x1)]) gx331_8 rfl rfl) ?_)
  exact H
theorem d331_10 {n : Nat} {X : aX} {h : aH} {P : aH → Prop} {x1 x2 x5 : Int32} {x3 : Int64} {a1 a2 a5 a3 : Int} (S : wS h) (z1 : x1.toInt = a1) (z2 : x2.toInt = a2) (z3 : x3.toInt = a3) (z5 : x5.toInt = a5) (H : ((a2 ≤ a5 → P h) ∧ (a5 < a2 → (0 ≤ a5 → a5 < 360 → ∀ h_2 : aH, wS h_2 → vw h_2 = up (vw h) 71 a5 a3 → (∀ (w5 : Int32), w5.toInt = w32 (a5 + 1) → Pt n X zM331 10 [some (.ref 71), some (.int x1), some (.int x2), some (.long x3), none, some (.int w5)] [] h_2 (qN P)))))) : Pt (n + 1) X zM331 10 [some (.ref 71), some (.int x1), some (.int x2), some (.long x3), none, some (.int x5)] [] h (qN P) := by
  refine pt_1 (fun n d => r_iload gx331_10 rfl) ?_
  refine pt_d (pt_1 (fun n d => r_iloadn gx331_12 rfl) ?_)
  refine pt_d (pt_icmp_ge gx331_13 z5 z2 (fun e1 => ?_) (fun e1 => ?_))
  · have H := H.1 e1
    exact pt_d (pt_vret gx331_27 ⟨rfl, H⟩)
  · have H := H.2 e1
    refine pt_d (pt_1 (fun n d => r_aloadn gx331_16 rfl) ?_)
    refine pt_d (pt_1 (fun n d => r_iload gx331_17 rfl) ?_)
    refine pt_d (pt_1 (fun n d => r_lloadn gx331_19 rfl) ?_)
    refine pt_d (pt_last (N' := 360) gx331_20 S tl_71 z5 z3 (fun h_2 S2 p2 q2 e2 => ?_))
    have H := H p2 q2
    refine pt_d (pt_iinc (c := 1) gx331_21 rfl z5 (fun v3 h3 => ?_))
    show Pt _ _ _ _ [some (.ref 71), some (.int x1), some (.int x2), some (.long x3), none, some (.int v3)] [] _ _
    refine pt_d (pt_1 (fun n d => r_goto gx331_24) ?_)
    have H := H h_2 S2 (by rw [e2])
    exact H v3 h3
def fillV (V : vS) (c : Nat) (A B v : Int) : vS := fun c' j => if c' = c ∧ A ≤ j ∧ j < B then v else V c' j
theorem fillV_c {V : vS} {c c' : Nat} {A B v j : Int} (h : c' ≠ c) : fillV V c A B v c' j = V c' j := if_neg (fun q => h q.1)
theorem fillV_s {V : vS} {c : Nat} {A B v : Int} (h : A ≤ B) : up (fillV V c A B v) c B v = fillV V c A (B + 1) v := by
  funext c' j
  unfold up fillV
  by_cases q : c' = c
  · subst q
    by_cases q2 : j = B
    · rw [if_pos ⟨rfl, q2⟩, if_pos ⟨rfl, by omega, by omega⟩]
    · rw [if_neg (fun z => q2 z.2)]
      by_cases q3 : A ≤ j ∧ j < B
      · rw [if_pos ⟨rfl, q3⟩, if_pos ⟨rfl, by omega, by omega⟩]
      · rw [if_neg (fun z => q3 z.2), if_neg (fun z => by omega)]
  · rw [if_neg (fun z => q z.1), if_neg (fun z => q z.1), if_neg (fun z => q z.1)]
theorem fillV_0 {V : vS} {c : Nat} {A v : Int} : fillV V c A A v = V := by
  funext c' j
  unfold fillV
  rw [if_neg (fun z => by omega)]
theorem l_331 {X : aX} {V : vS} {A B v : Int} (hA : A ≤ B) (hB : B ≤ 2147483647) : ∀ (n : Nat) (h : aH) (x1 x2 x5 : Int32) (x3 : Int64), wS h → x2.toInt = B → x3.toInt = v → A ≤ x5.toInt → x5.toInt ≤ B → vw h = fillV V 71 A x5.toInt v → Pt n X zM331 10 [some (.ref 71), some (.int x1), some (.int x2), some (.long x3), none, some (.int x5)] [] h (qN (fun h' => wS h' ∧ vw h' = fillV V 71 A B v)) := by
  intro n
  induction n with
  | zero => exact fun _ _ _ _ _ _ _ _ _ _ _ => pt_z
  | succ n ih =>
    intro h x1 x2 x5 x3 S h2 h3 h5 h6 e
    refine d331_10 S rfl h2 h3 rfl ⟨fun e2 => ⟨S, ?_⟩, fun e2 p q g S2 eg w5 g5 => ?_⟩
    · rw [e, show x5.toInt = B by omega]
    · have g5 := w_1 g5 (by omega) (by omega)
      refine ih g x1 x2 w5 x3 S2 h2 h3 (by omega) (by omega) ?_
      rw [eg, e, g5]
      exact fillV_s h5
theorem c_331 {n : Nat} {X : aX} {h : aH} {x1 x2 : Int32} {x3 : Int64} {a1 a2 a3 : Int} (S : wS h) (z1 : x1.toInt = a1) (z2 : x2.toInt = a2) (z3 : x3.toInt = a3) (hA : a1 ≤ a2) : Pt n X zM331 0 [some (.ref 71), some (.int x1), some (.int x2), some (.long x3), none, none] [] h (qN (fun h' => wS h' ∧ vw h' = fillV (vw h) 71 a1 a2 a3)) := by
  subst z1
  refine pt_d (d331_0 S rfl z2 z3 (l_331 hA (by rw [← z2]; exact (iR x2).2) n h x1 x2 x1 x3 S z2 z3 (Int.le_refl _) hA (by rw [fillV_0])))

def cRow1 (V : vS) (s : Int) : Int := if V 69 s = -1 then -11 else if V 69 s = 5 then -12 else 1
def cLow (s v : Int) : Int := if s = 0 then w8 (w32 v) else if s = 1 then w16 (w32 v) else if s = 2 then w32 v else if s = 3 then v else if v = 0 then 0 else 1
theorem d107_0 {n : Nat} {X : aX} {h : aH} {P : Int → aH → Prop} {x1 : Int32} {a1 : Int} (S : wS h) (z1 : x1.toInt = a1) (H : (0 ≤ a1 → a1 < 6 → ∀ h_6 : aH, wS h_6 → vw h_6 = up (up (vw h) 69 a1 (-1)) 70 a1 0 → P 1 h_6)) : Pt (n + 1) X zM107 0 [some (.ref 68), some (.int x1)] [] h (qI P) := by
  refine pt_1 (fun n d => r_aloadn gx107_0 rfl) ?_
  refine pt_d (pt_getR gx107_1 S tr_68_0 ?_)
  refine pt_d (pt_1 (fun n d => r_iloadn gx107_4 rfl) ?_)
  refine pt_d (pt_iconst gx107_5 (fun v2 h2 => ?_))
  refine pt_d (pt_iast (N' := 6) gx107_6 S tl_69 z1 h2 (fun h_3 S3 p3 q3 e3 => ?_))
  have H := H p3 q3
  refine pt_d (pt_1 (fun n d => r_aloadn gx107_7 rfl) ?_)
  refine pt_d (pt_getR gx107_8 S3 tr_68_1 ?_)
  refine pt_d (pt_1 (fun n d => r_iloadn gx107_11 rfl) ?_)
  refine pt_d (pt_iconst gx107_12 (fun v5 h5 => ?_))
  refine pt_d (pt_iast (N' := 6) gx107_13 S3 tl_70 z1 h5 (fun h_6 S6 p6 q6 e6 => ?_))
  refine pt_d (pt_iconst gx107_14 (fun v7 h7 => ?_))
  have H := H h_6 S6 (by rw [e6, e3])
  exact pt_d (pt_iret gx107_15 ⟨_, rfl, by rw [h7]; exact H⟩)
theorem d108_0 {n : Nat} {X : aX} {h : aH} {P : Int → aH → Prop} {x1 x2 : Int32} {a1 a2 : Int} (S : wS h) (z1 : x1.toInt = a1) (z2 : x2.toInt = a2) (H : (0 ≤ a1 → a1 < 6 → ∀ h_5 : aH, wS h_5 → vw h_5 = up (up (vw h) 69 a1 5) 70 a1 a2 → P 1 h_5)) : Pt (n + 1) X zM108 0 [some (.ref 68), some (.int x1), some (.int x2)] [] h (qI P) := by
  refine pt_1 (fun n d => r_aloadn gx108_0 rfl) ?_
  refine pt_d (pt_getR gx108_1 S tr_68_0 ?_)
  refine pt_d (pt_1 (fun n d => r_iloadn gx108_4 rfl) ?_)
  refine pt_d (pt_iconst gx108_5 (fun v2 h2 => ?_))
  refine pt_d (pt_iast (N' := 6) gx108_6 S tl_69 z1 h2 (fun h_3 S3 p3 q3 e3 => ?_))
  have H := H p3 q3
  refine pt_d (pt_1 (fun n d => r_aloadn gx108_7 rfl) ?_)
  refine pt_d (pt_getR gx108_8 S3 tr_68_1 ?_)
  refine pt_d (pt_1 (fun n d => r_iloadn gx108_11 rfl) ?_)
  refine pt_d (pt_1 (fun n d => r_iloadn gx108_12 rfl) ?_)
  refine pt_d (pt_iast (N' := 6) gx108_13 S3 tl_70 z1 z2 (fun h_5 S5 p5 q5 e5 => ?_))
  refine pt_d (pt_iconst gx108_14 (fun v6 h6 => ?_))
  have H := H h_5 S5 (by rw [e5, e3])
  exact pt_d (pt_iret gx108_15 ⟨_, rfl, by rw [h6]; exact H⟩)
theorem d109_0 {n : Nat} {X : aX} {h : aH} {P : Int → aH → Prop} {x1 x2 x3 : Int32} {a1 a2 a3 : Int} (S : wS h) (z1 : x1.toInt = a1) (z2 : x2.toInt = a2) (z3 : x3.toInt = a3) (H : (0 ≤ a1 → a1 < 6 → ∀ h_4 : aH, wS h_4 → vw h_4 = up (up (vw h) 69 a1 a2) 70 a1 a3 → ((w32 (a1 * 60)) ≤ (w32 ((w32 (a1 * 60)) + a3)) ∧ ∀ (h_12 : aH), (wS h_12 ∧ vw h_12 = fillV (vw h_4) 71 (w32 (a1 * 60)) (w32 ((w32 (a1 * 60)) + a3)) 0) → P 1 h_12))) : Pt (n + 1) X zM109 0 [some (.ref 68), some (.int x1), some (.int x2), some (.int x3)] [] h (qI P) := by
  refine pt_1 (fun n d => r_aloadn gx109_0 rfl) ?_
  refine pt_d (pt_getR gx109_1 S tr_68_0 ?_)
  refine pt_d (pt_1 (fun n d => r_iloadn gx109_4 rfl) ?_)
  refine pt_d (pt_1 (fun n d => r_iloadn gx109_5 rfl) ?_)
  refine pt_d (pt_iast (N' := 6) gx109_6 S tl_69 z1 z2 (fun h_2 S2 p2 q2 e2 => ?_))
  have H := H p2 q2
  refine pt_d (pt_1 (fun n d => r_aloadn gx109_7 rfl) ?_)
  refine pt_d (pt_getR gx109_8 S2 tr_68_1 ?_)
  refine pt_d (pt_1 (fun n d => r_iloadn gx109_11 rfl) ?_)
  refine pt_d (pt_1 (fun n d => r_iloadn gx109_12 rfl) ?_)
  refine pt_d (pt_iast (N' := 6) gx109_13 S2 tl_70 z1 z3 (fun h_4 S4 p4 q4 e4 => ?_))
  refine pt_d (pt_1 (fun n d => r_aloadn gx109_14 rfl) ?_)
  refine pt_d (pt_getR gx109_15 S4 tr_68_2 ?_)
  refine pt_d (pt_1 (fun n d => r_iloadn gx109_18 rfl) ?_)
  refine pt_d (pt_bipush gx109_19 (fun v6 h6 => ?_))
  refine pt_d (pt_imul gx109_21 z1 h6 (fun v7 h7 => ?_))
  refine pt_d (pt_1 (fun n d => r_iloadn gx109_22 rfl) ?_)
  refine pt_d (pt_bipush gx109_23 (fun v8 h8 => ?_))
  refine pt_d (pt_imul gx109_25 z1 h8 (fun v9 h9 => ?_))
  refine pt_d (pt_1 (fun n d => r_iloadn gx109_26 rfl) ?_)
  refine pt_d (pt_iadd gx109_27 h9 z3 (fun v10 h10 => ?_))
  refine pt_d (pt_lconst (c := 0) gx109_28 rfl (fun v11 h11 => ?_))
  have H := H h_4 S4 (by rw [e4, e2])
  obtain ⟨pr12, H⟩ := H
  refine pt_d (pt_stat (as := [.ref 71, .int v7, .int v10, .long v11]) (r := []) gx109_29 rfl (show zmt[331]? = some zM331 from rfl) rfl rfl rfl rfl (c_331 S4 h7 h10 h11 pr12) (kqN (fun h_12 P12 => ?_)))
  have S12 := P12.1
  have H := H h_12 P12
  show Pt _ _ _ 32 _ [] _ _
  refine pt_d (pt_iconst gx109_32 (fun v13 h13 => ?_))
  exact pt_d (pt_iret gx109_33 ⟨_, rfl, by rw [h13]; exact H⟩)
theorem c_107 {n : Nat} {X : aX} {h : aH} {x1 : Int32} {a1 : Int} (S : wS h) (z1 : x1.toInt = a1) : Pt n X zM107 0 [some (.ref 68), some (.int x1)] [] h (qI (fun y h' => wS h' ∧ y = 1 ∧ vw h' = up (up (vw h) 69 a1 (-1)) 70 a1 0)) := by
  refine pt_d (d107_0 S z1 (fun p q g S2 eg => ⟨S2, rfl, eg⟩))
theorem c_108 {n : Nat} {X : aX} {h : aH} {x1 x2 : Int32} {a1 a2 : Int} (S : wS h) (z1 : x1.toInt = a1) (z2 : x2.toInt = a2) : Pt n X zM108 0 [some (.ref 68), some (.int x1), some (.int x2)] [] h (qI (fun y h' => wS h' ∧ y = 1 ∧ vw h' = up (up (vw h) 69 a1 5) 70 a1 a2)) := by
  refine pt_d (d108_0 S z1 z2 (fun p q g S2 eg => ⟨S2, rfl, eg⟩))
theorem c_109 {n : Nat} {X : aX} {h : aH} {x1 x2 x3 : Int32} {a1 a2 a3 : Int} (S : wS h) (z1 : x1.toInt = a1) (z2 : x2.toInt = a2) (z3 : x3.toInt = a3) (hp : 0 ≤ a3 ∧ a3 ≤ 60) : Pt n X zM109 0 [some (.ref 68), some (.int x1), some (.int x2), some (.int x3)] [] h (qI (fun y h' => wS h' ∧ y = 1 ∧ vw h' = fillV (up (up (vw h) 69 a1 a2) 70 a1 a3) 71 (60 * a1) (60 * a1 + a3) 0)) := by
  refine pt_d (d109_0 S z1 z2 z3 (fun p q g S2 eg => ?_))
  have e1 : w32 (a1 * 60) = 60 * a1 := by rw [w32_id (by omega) (by omega)]; omega
  have e2 : w32 (w32 (a1 * 60) + a3) = 60 * a1 + a3 := by rw [e1, w32_id (by omega) (by omega)]
  rw [e2, e1]
  exact ⟨by omega, fun g2 p2 => ⟨p2.1, rfl, by rw [p2.2, eg]⟩⟩

theorem d110_0 {n : Nat} {X : aX} {h : aH} {P : Int → aH → Prop} {x1 : Int32} {a1 : Int} (S : wS h) (z1 : x1.toInt = a1) (H : (0 ≤ a1 → a1 < 6 → ((vw h 69 a1 ≠ (-1) → ((vw h 69 a1 ≠ 5 → P 1 h) ∧ (vw h 69 a1 = 5 → P (-12) h))) ∧ (vw h 69 a1 = (-1) → P (-11) h)))) : Pt (n + 1) X zM110 0 [some (.ref 68), some (.int x1)] [] h (qI P) := by
  refine pt_1 (fun n d => r_aloadn gx110_0 rfl) ?_
  refine pt_d (pt_getR gx110_1 S tr_68_0 ?_)
  refine pt_d (pt_1 (fun n d => r_iloadn gx110_4 rfl) ?_)
  refine pt_d (pt_iald (N' := 6) gx110_5 S tl_69 z1 (fun v2 p2 q2 h2 => ?_))
  have H := H p2 q2
  refine pt_d (pt_iconst gx110_6 (fun v3 h3 => ?_))
  refine pt_d (pt_icmp_ne gx110_7 h2 h3 (fun e4 => ?_) (fun e4 => ?_))
  · have H := H.1 e4
    refine pt_d (pt_1 (fun n d => r_aloadn gx110_13 rfl) ?_)
    refine pt_d (pt_getR gx110_14 S tr_68_0 ?_)
    refine pt_d (pt_1 (fun n d => r_iloadn gx110_17 rfl) ?_)
    refine pt_d (pt_iald (N' := 6) gx110_18 S tl_69 z1 (fun v6 p6 q6 h6 => ?_))
    refine pt_d (pt_iconst gx110_19 (fun v7 h7 => ?_))
    refine pt_d (pt_icmp_ne gx110_20 h6 h7 (fun e8 => ?_) (fun e8 => ?_))
    · have H := H.1 e8
      refine pt_d (pt_iconst gx110_28 (fun v9 h9 => ?_))
      exact pt_d (pt_iret gx110_29 ⟨_, rfl, by rw [h9]; exact H⟩)
    · have H := H.2 e8
      refine pt_d (pt_bipush gx110_23 (fun v10 h10 => ?_))
      refine pt_d (pt_1 (fun n d => r_goto gx110_25) ?_)
      exact pt_d (pt_iret gx110_29 ⟨_, rfl, by rw [h10]; exact H⟩)
  · have H := H.2 e4
    refine pt_d (pt_bipush gx110_10 (fun v11 h11 => ?_))
    exact pt_d (pt_iret gx110_12 ⟨_, rfl, by rw [h11]; exact H⟩)
theorem c_110 {n : Nat} {X : aX} {h : aH} {x1 : Int32} {a1 : Int} (S : wS h) (z1 : x1.toInt = a1) : Pt n X zM110 0 [some (.ref 68), some (.int x1)] [] h (qI (fun y h' => h' = h ∧ y = cRow1 (vw h) a1)) := by
  refine pt_d (d110_0 S z1 ?_)
  repeat' (first | (refine And.intro ?_ ?_) | intro _)
  all_goals first
    | rfl
    | exact (bI_t (by omega)).symm
    | exact (bI_f (by omega)).symm
    | exact bI_c (by omega)
    | (unfold cRow1; rw [if_pos (by omega)])
    | (unfold cRow1; rw [if_neg (by omega), if_pos (by omega)])
    | (unfold cRow1; rw [if_neg (by omega), if_neg (by omega)])
theorem d111_0 {n : Nat} {X : aX} {h : aH} {P : Int → aH → Prop} {x1 : Int32} {x2 : Int64} {a1 a2 : Int} (S : wS h) (z1 : x1.toInt = a1) (z2 : x2.toInt = a2) (H : ((cRow1 (vw h) a1 ≠ 1 → P 0 h) ∧ (cRow1 (vw h) a1 = 1 → ((a2 < 0 → P 0 h) ∧ (0 ≤ a2 → (0 ≤ a1 → a1 < 6 → ((vw h 70 a1 ≤ a2 → P 0 h) ∧ (a2 < vw h 70 a1 → P 1 h)))))))) : Pt (n + 1) X zM111 0 [some (.ref 68), some (.int x1), some (.long x2), none] [] h (qI P) := by
  refine pt_1 (fun n d => r_aloadn gx111_0 rfl) ?_
  refine pt_d (pt_1 (fun n d => r_iloadn gx111_1 rfl) ?_)
  refine pt_d (pt_virt (as := [.int x1]) (r := []) gx111_2 rfl (show zmt[110]? = some zM110 from rfl) rfl rfl rfl rfl (c_110 S z1) (kqP (fun v1 h1 => ?_)))
  show Pt _ _ _ 5 _ [.int v1] _ _
  refine pt_d (pt_iconst gx111_5 (fun v2 h2 => ?_))
  refine pt_d (pt_icmp_ne gx111_6 h1 h2 (fun e3 => ?_) (fun e3 => ?_))
  · have H := H.1 e3
    refine pt_d (pt_iconst gx111_31 (fun v4 h4 => ?_))
    exact pt_d (pt_iret gx111_32 ⟨_, rfl, by rw [h4]; exact H⟩)
  · have H := H.2 e3
    refine pt_d (pt_lconst (c := 0) gx111_9 rfl (fun v5 h5 => ?_))
    refine pt_d (pt_1 (fun n d => r_lloadn gx111_10 rfl) ?_)
    refine pt_d (pt_lcmp_gt gx111_11 gx111_12 h5 z2 (fun e6 => ?_) (fun e6 => ?_))
    · have H := H.1 e6
      refine pt_d (pt_iconst gx111_31 (fun v7 h7 => ?_))
      exact pt_d (pt_iret gx111_32 ⟨_, rfl, by rw [h7]; exact H⟩)
    · have H := H.2 e6
      refine pt_d (pt_1 (fun n d => r_lloadn gx111_15 rfl) ?_)
      refine pt_d (pt_1 (fun n d => r_aloadn gx111_16 rfl) ?_)
      refine pt_d (pt_getR gx111_17 S tr_68_1 ?_)
      refine pt_d (pt_1 (fun n d => r_iloadn gx111_20 rfl) ?_)
      refine pt_d (pt_iald (N' := 6) gx111_21 S tl_70 z1 (fun v9 p9 q9 h9 => ?_))
      have H := H p9 q9
      refine pt_d (pt_i2l gx111_22 h9 (fun v10 h10 => ?_))
      refine pt_d (pt_lcmp_ge gx111_23 gx111_24 z2 h10 (fun e11 => ?_) (fun e11 => ?_))
      · have H := H.1 e11
        refine pt_d (pt_iconst gx111_31 (fun v12 h12 => ?_))
        exact pt_d (pt_iret gx111_32 ⟨_, rfl, by rw [h12]; exact H⟩)
      · have H := H.2 e11
        refine pt_d (pt_iconst gx111_27 (fun v13 h13 => ?_))
        refine pt_d (pt_1 (fun n d => r_goto gx111_28) ?_)
        exact pt_d (pt_iret gx111_32 ⟨_, rfl, by rw [h13]; exact H⟩)
theorem c_111 {n : Nat} {X : aX} {h : aH} {x1 : Int32} {x2 : Int64} {a1 a2 : Int} (S : wS h) (z1 : x1.toInt = a1) (z2 : x2.toInt = a2) : Pt n X zM111 0 [some (.ref 68), some (.int x1), some (.long x2), none] [] h (qI (fun y h' => h' = h ∧ y = bI (cRow1 (vw h) a1 = 1 ∧ 0 ≤ a2 ∧ a2 < (vw h) 70 a1))) := by
  refine pt_d (d111_0 S z1 z2 ?_)
  repeat' (first | (refine And.intro ?_ ?_) | intro _)
  all_goals first
    | rfl
    | exact (bI_t (by omega)).symm
    | exact (bI_f (by omega)).symm
    | exact bI_c (by omega)
    | omega
theorem d113_0 {n : Nat} {X : aX} {h : aH} {P : Int → aH → Prop} {x0 : Int32} {x1 : Int64} {a0 a1 : Int} (S : wS h) (z0 : x0.toInt = a0) (z1 : x1.toInt = a1) (H : ((a0 = 0 → P (w8 (w32 a1)) h) ∧ (a0 ≠ 0 → ((a0 = 1 → P (w16 (w32 a1)) h) ∧ (a0 ≠ 1 → ((a0 = 2 → P (w32 a1) h) ∧ (a0 ≠ 2 → ((a0 = 3 → P a1 h) ∧ (a0 ≠ 3 → ((a1 = 0 → P 0 h) ∧ (a1 ≠ 0 → P 1 h))))))))))) : Pt (n + 1) X zM113 0 [some (.int x0), some (.long x1), none] [] h (qJ P) := by
  refine pt_1 (fun n d => r_iloadn gx113_0 rfl) ?_
  refine pt_d (pt_tsw gx113_1 ?_)
  refine pa_c (lo := 0) (lo' := 1) (p := 32) z0 (fun e1 => ?_) (fun e1 => ?_)
  · have H := H.1 e1
    refine pt_d (pt_1 (fun n d => r_lloadn gx113_32 rfl) ?_)
    refine pt_d (pt_l2i gx113_33 z1 (fun v2 h2 => ?_))
    refine pt_d (pt_i2b gx113_34 h2 (fun v3 h3 => ?_))
    refine pt_d (pt_i2l gx113_35 h3 (fun v4 h4 => ?_))
    exact pt_d (pt_lret gx113_36 ⟨_, rfl, by rw [h4]; exact H⟩)
  have H := H.2 e1
  refine pa_c (lo := 1) (lo' := 2) (p := 37) z0 (fun e5 => ?_) (fun e5 => ?_)
  · have H := H.1 e5
    refine pt_d (pt_1 (fun n d => r_lloadn gx113_37 rfl) ?_)
    refine pt_d (pt_l2i gx113_38 z1 (fun v6 h6 => ?_))
    refine pt_d (pt_i2s gx113_39 h6 (fun v7 h7 => ?_))
    refine pt_d (pt_i2l gx113_40 h7 (fun v8 h8 => ?_))
    exact pt_d (pt_lret gx113_41 ⟨_, rfl, by rw [h8]; exact H⟩)
  have H := H.2 e5
  refine pa_c (lo := 2) (lo' := 3) (p := 42) z0 (fun e9 => ?_) (fun e9 => ?_)
  · have H := H.1 e9
    refine pt_d (pt_1 (fun n d => r_lloadn gx113_42 rfl) ?_)
    refine pt_d (pt_l2i gx113_43 z1 (fun v10 h10 => ?_))
    refine pt_d (pt_i2l gx113_44 h10 (fun v11 h11 => ?_))
    exact pt_d (pt_lret gx113_45 ⟨_, rfl, by rw [h11]; exact H⟩)
  have H := H.2 e9
  refine pa_c (lo := 3) (lo' := 4) (p := 46) z0 (fun e12 => ?_) (fun e12 => ?_)
  · have H := H.1 e12
    refine pt_d (pt_1 (fun n d => r_lloadn gx113_46 rfl) ?_)
    exact pt_d (pt_lret gx113_47 ⟨_, rfl, by rw [z1]; exact H⟩)
  have H := H.2 e12
  refine pa_0 (p := 48) ?_
  refine pt_d (pt_1 (fun n d => r_lloadn gx113_48 rfl) ?_)
  refine pt_d (pt_lconst (c := 0) gx113_49 rfl (fun v13 h13 => ?_))
  refine pt_d (pt_lcmp_eq gx113_50 gx113_51 z1 h13 (fun e14 => ?_) (fun e14 => ?_))
  · have H := H.1 e14
    refine pt_d (pt_lconst (c := 0) gx113_58 rfl (fun v15 h15 => ?_))
    exact pt_d (pt_lret gx113_59 ⟨_, rfl, by rw [h15]; exact H⟩)
  · have H := H.2 e14
    refine pt_d (pt_lconst (c := 1) gx113_54 rfl (fun v16 h16 => ?_))
    refine pt_d (pt_1 (fun n d => r_goto gx113_55) ?_)
    exact pt_d (pt_lret gx113_59 ⟨_, rfl, by rw [h16]; exact H⟩)
theorem c_113 {n : Nat} {X : aX} {h : aH} {x0 : Int32} {x1 : Int64} {a0 a1 : Int} (S : wS h) (z0 : x0.toInt = a0) (z1 : x1.toInt = a1) : Pt n X zM113 0 [some (.int x0), some (.long x1), none] [] h (qJ (fun y h' => h' = h ∧ y = cLow a0 a1)) := by
  refine pt_d (d113_0 S z0 z1 ?_)
  repeat' (first | (refine And.intro ?_ ?_) | intro _)
  all_goals first
    | rfl
    | exact (bI_t (by omega)).symm
    | exact (bI_f (by omega)).symm
    | exact bI_c (by omega)
    | (unfold cLow; rw [if_pos (by omega)])
    | (unfold cLow; rw [if_neg (by omega), if_pos (by omega)])
    | (unfold cLow; rw [if_neg (by omega), if_neg (by omega), if_pos (by omega)])
    | (unfold cLow; rw [if_neg (by omega), if_neg (by omega), if_neg (by omega), if_pos (by omega)])
    | (unfold cLow; rw [if_neg (by omega), if_neg (by omega), if_neg (by omega), if_neg (by omega), if_pos (by omega)])
    | (unfold cLow; rw [if_neg (by omega), if_neg (by omega), if_neg (by omega), if_neg (by omega), if_neg (by omega)])
theorem d112_0 {n : Nat} {X : aX} {h : aH} {P : Int → aH → Prop} {x1 x2 : Int32} {x3 : Int64} {a1 a2 a3 : Int} (S : wS h) (z1 : x1.toInt = a1) (z2 : x2.toInt = a2) (z3 : x3.toInt = a3) (H : ((cRow1 (vw h) a1 = 1 → (((cRow1 (vw h) a1 = 1 ∧ 0 ≤ a2 ∧ a2 < (vw h) 70 a1) → (0 ≤ a1 → a1 < 6 → (0 ≤ w32 ((w32 (a1 * 60)) + a2) → w32 ((w32 (a1 * 60)) + a2) < 360 → ∀ h_14 : aH, wS h_14 → vw h_14 = up (vw h) 71 (w32 ((w32 (a1 * 60)) + a2)) (cLow (vw h 69 a1) a3) → P 1 h_14))) ∧ (¬ (cRow1 (vw h) a1 = 1 ∧ 0 ≤ a2 ∧ a2 < (vw h) 70 a1) → P (-13) h))) ∧ (cRow1 (vw h) a1 ≠ 1 → P (cRow1 (vw h) a1) h))) : Pt (n + 1) X zM112 0 [some (.ref 68), some (.int x1), some (.int x2), some (.long x3), none, none] [] h (qI P) := by
  refine pt_1 (fun n d => r_aloadn gx112_0 rfl) ?_
  refine pt_d (pt_1 (fun n d => r_iloadn gx112_1 rfl) ?_)
  refine pt_d (pt_virt (as := [.int x1]) (r := []) gx112_2 rfl (show zmt[110]? = some zM110 from rfl) rfl rfl rfl rfl (c_110 S z1) (kqP (fun v1 h1 => ?_)))
  show Pt _ _ _ 5 _ [.int v1] _ _
  refine pt_d (pt_1 (fun n d => r_istore (L' := [some (.ref 68), some (.int x1), some (.int x2), some (.long x3), none, some (.int v1)]) gx112_5 rfl rfl) ?_)
  refine pt_d (pt_1 (fun n d => r_iload gx112_7 rfl) ?_)
  refine pt_d (pt_iconst gx112_9 (fun v2 h2 => ?_))
  refine pt_d (pt_icmp_eq gx112_10 h1 h2 (fun e3 => ?_) (fun e3 => ?_))
  · have H := H.1 e3
    refine pt_d (pt_1 (fun n d => r_aloadn gx112_16 rfl) ?_)
    refine pt_d (pt_1 (fun n d => r_iloadn gx112_17 rfl) ?_)
    refine pt_d (pt_1 (fun n d => r_iloadn gx112_18 rfl) ?_)
    refine pt_d (pt_i2l gx112_19 z2 (fun v4 h4 => ?_))
    refine pt_d (pt_virt (as := [.int x1, .long v4]) (r := []) gx112_20 rfl (show zmt[111]? = some zM111 from rfl) rfl rfl rfl rfl (c_111 S z1 h4) (kqP (fun v5 h5 => ?_)))
    show Pt _ _ _ 23 _ [.int v5] _ _
    refine pt_d (pt_ifB_ne gx112_23 h5 (fun e6 => ?_) (fun e6 => ?_))
    · have H := H.1 e6
      refine pt_d (pt_1 (fun n d => r_aloadn gx112_29 rfl) ?_)
      refine pt_d (pt_getR gx112_30 S tr_68_2 ?_)
      refine pt_d (pt_1 (fun n d => r_iloadn gx112_33 rfl) ?_)
      refine pt_d (pt_bipush gx112_34 (fun v8 h8 => ?_))
      refine pt_d (pt_imul gx112_36 z1 h8 (fun v9 h9 => ?_))
      refine pt_d (pt_1 (fun n d => r_iloadn gx112_37 rfl) ?_)
      refine pt_d (pt_iadd gx112_38 h9 z2 (fun v10 h10 => ?_))
      refine pt_d (pt_1 (fun n d => r_aloadn gx112_39 rfl) ?_)
      refine pt_d (pt_getR gx112_40 S tr_68_0 ?_)
      refine pt_d (pt_1 (fun n d => r_iloadn gx112_43 rfl) ?_)
      refine pt_d (pt_iald (N' := 6) gx112_44 S tl_69 z1 (fun v12 p12 q12 h12 => ?_))
      have H := H p12 q12
      refine pt_d (pt_1 (fun n d => r_lloadn gx112_45 rfl) ?_)
      refine pt_d (pt_stat (as := [.int v12, .long x3]) (r := [.int v10, .ref 71]) gx112_46 rfl (show zmt[113]? = some zM113 from rfl) rfl rfl rfl rfl (c_113 S h12 z3) (kqPJ (fun v13 h13 => ?_)))
      show Pt _ _ _ 49 _ [.long v13, .int v10, .ref 71] _ _
      refine pt_d (pt_last (N' := 360) gx112_49 S tl_71 h10 h13 (fun h_14 S14 p14 q14 e14 => ?_))
      have H := H p14 q14
      refine pt_d (pt_iconst gx112_50 (fun v15 h15 => ?_))
      have H := H h_14 S14 (by rw [e14])
      exact pt_d (pt_iret gx112_51 ⟨_, rfl, by rw [h15]; exact H⟩)
    · have H := H.2 e6
      refine pt_d (pt_bipush gx112_26 (fun v16 h16 => ?_))
      exact pt_d (pt_iret gx112_28 ⟨_, rfl, by rw [h16]; exact H⟩)
  · have H := H.2 e3
    refine pt_d (pt_1 (fun n d => r_iload gx112_13 rfl) ?_)
    exact pt_d (pt_iret gx112_15 ⟨_, rfl, by rw [h1]; exact H⟩)
theorem d115_0 {n : Nat} {X : aX} {h : aH} {P : Int → aH → Prop} {x1 x2 x3 x4 x5 : Int32} {a1 a2 a3 a4 a5 : Int} (S : wS h) (z1 : x1.toInt = a1) (z2 : x2.toInt = a2) (z3 : x3.toInt = a3) (z4 : x4.toInt = a4) (z5 : x5.toInt = a5) (H : ((cRow1 (vw h) a1 = (-11) → P (-11) h) ∧ (cRow1 (vw h) a1 ≠ (-11) → ((cRow1 (vw h) a3 ≠ (-11) → ((cRow1 (vw h) a1 = (-12) → P (-12) h) ∧ (cRow1 (vw h) a1 ≠ (-12) → ((cRow1 (vw h) a3 = (-12) → P (-12) h) ∧ (cRow1 (vw h) a3 ≠ (-12) → (0 ≤ a1 → a1 < 6 → (0 ≤ a3 → a3 < 6 → ((vw h 69 a1 = vw h 69 a3 → ((a5 < 0 → P (-13) h) ∧ (0 ≤ a5 → ((a2 < 0 → P (-13) h) ∧ (0 ≤ a2 → ((a4 < 0 → P (-13) h) ∧ (0 ≤ a4 → ((w32 ((vw h 70 a1) - a5) < a2 → P (-13) h) ∧ (a2 ≤ w32 ((vw h 70 a1) - a5) → ((a4 ≤ w32 ((vw h 70 a3) - a5) → ((0 : Int) ≤ w32 ((w32 (a1 * 60)) + a2) → (0 : Int) ≤ w32 ((w32 (a3 * 60)) + a4) → (0 : Int) ≤ a5 → ∀ h_42 : aH, wS h_42 → vw h_42 = cpy (vw h) 71 (w32 ((w32 (a1 * 60)) + a2)) 71 (w32 ((w32 (a3 * 60)) + a4)) a5 → P a5 h_42)) ∧ (w32 ((vw h 70 a3) - a5) < a4 → P (-13) h))))))))))) ∧ (vw h 69 a1 ≠ vw h 69 a3 → P (-12) h))))))))) ∧ (cRow1 (vw h) a3 = (-11) → P (-11) h))))) : Pt (n + 1) X zM115 0 [some (.ref 68), some (.int x1), some (.int x2), some (.int x3), some (.int x4), some (.int x5), none, none] [] h (qI P) := by
  refine pt_1 (fun n d => r_aloadn gx115_0 rfl) ?_
  refine pt_d (pt_1 (fun n d => r_iloadn gx115_1 rfl) ?_)
  refine pt_d (pt_virt (as := [.int x1]) (r := []) gx115_2 rfl (show zmt[110]? = some zM110 from rfl) rfl rfl rfl rfl (c_110 S z1) (kqP (fun v1 h1 => ?_)))
  show Pt _ _ _ 5 _ [.int v1] _ _
  refine pt_d (pt_1 (fun n d => r_istore (L' := [some (.ref 68), some (.int x1), some (.int x2), some (.int x3), some (.int x4), some (.int x5), some (.int v1), none]) gx115_5 rfl rfl) ?_)
  refine pt_d (pt_1 (fun n d => r_aloadn gx115_7 rfl) ?_)
  refine pt_d (pt_1 (fun n d => r_iloadn gx115_8 rfl) ?_)
  refine pt_d (pt_virt (as := [.int x3]) (r := []) gx115_9 rfl (show zmt[110]? = some zM110 from rfl) rfl rfl rfl rfl (c_110 S z3) (kqP (fun v2 h2 => ?_)))
  show Pt _ _ _ 12 _ [.int v2] _ _
  refine pt_d (pt_1 (fun n d => r_istore (L' := [some (.ref 68), some (.int x1), some (.int x2), some (.int x3), some (.int x4), some (.int x5), some (.int v1), some (.int v2)]) gx115_12 rfl rfl) ?_)
  refine pt_d (pt_1 (fun n d => r_iload gx115_14 rfl) ?_)
  refine pt_d (pt_bipush gx115_16 (fun v3 h3 => ?_))
  refine pt_d (pt_icmp_eq gx115_18 h1 h3 (fun e4 => ?_) (fun e4 => ?_))
  · have H := H.1 e4
    refine pt_d (pt_bipush gx115_28 (fun v5 h5 => ?_))
    exact pt_d (pt_iret gx115_30 ⟨_, rfl, by rw [h5]; exact H⟩)
  · have H := H.2 e4
    refine pt_d (pt_1 (fun n d => r_iload gx115_21 rfl) ?_)
    refine pt_d (pt_bipush gx115_23 (fun v6 h6 => ?_))
    refine pt_d (pt_icmp_ne gx115_25 h2 h6 (fun e7 => ?_) (fun e7 => ?_))
    · have H := H.1 e7
      refine pt_d (pt_1 (fun n d => r_iload gx115_31 rfl) ?_)
      refine pt_d (pt_bipush gx115_33 (fun v8 h8 => ?_))
      refine pt_d (pt_icmp_eq gx115_35 h1 h8 (fun e9 => ?_) (fun e9 => ?_))
      · have H := H.1 e9
        refine pt_d (pt_bipush gx115_60 (fun v10 h10 => ?_))
        exact pt_d (pt_iret gx115_62 ⟨_, rfl, by rw [h10]; exact H⟩)
      · have H := H.2 e9
        refine pt_d (pt_1 (fun n d => r_iload gx115_38 rfl) ?_)
        refine pt_d (pt_bipush gx115_40 (fun v11 h11 => ?_))
        refine pt_d (pt_icmp_eq gx115_42 h2 h11 (fun e12 => ?_) (fun e12 => ?_))
        · have H := H.1 e12
          refine pt_d (pt_bipush gx115_60 (fun v13 h13 => ?_))
          exact pt_d (pt_iret gx115_62 ⟨_, rfl, by rw [h13]; exact H⟩)
        · have H := H.2 e12
          refine pt_d (pt_1 (fun n d => r_aloadn gx115_45 rfl) ?_)
          refine pt_d (pt_getR gx115_46 S tr_68_0 ?_)
          refine pt_d (pt_1 (fun n d => r_iloadn gx115_49 rfl) ?_)
          refine pt_d (pt_iald (N' := 6) gx115_50 S tl_69 z1 (fun v15 p15 q15 h15 => ?_))
          have H := H p15 q15
          refine pt_d (pt_1 (fun n d => r_aloadn gx115_51 rfl) ?_)
          refine pt_d (pt_getR gx115_52 S tr_68_0 ?_)
          refine pt_d (pt_1 (fun n d => r_iloadn gx115_55 rfl) ?_)
          refine pt_d (pt_iald (N' := 6) gx115_56 S tl_69 z3 (fun v17 p17 q17 h17 => ?_))
          have H := H p17 q17
          refine pt_d (pt_icmp_eq gx115_57 h15 h17 (fun e18 => ?_) (fun e18 => ?_))
          · have H := H.1 e18
            refine pt_d (pt_1 (fun n d => r_iload gx115_63 rfl) ?_)
            refine pt_d (pt_if_lt gx115_65 z5 (fun e19 => ?_) (fun e19 => ?_))
            · have H := H.1 e19
              refine pt_d (pt_bipush gx115_104 (fun v20 h20 => ?_))
              exact pt_d (pt_iret gx115_106 ⟨_, rfl, by rw [h20]; exact H⟩)
            · have H := H.2 e19
              refine pt_d (pt_1 (fun n d => r_iloadn gx115_68 rfl) ?_)
              refine pt_d (pt_if_lt gx115_69 z2 (fun e21 => ?_) (fun e21 => ?_))
              · have H := H.1 e21
                refine pt_d (pt_bipush gx115_104 (fun v22 h22 => ?_))
                exact pt_d (pt_iret gx115_106 ⟨_, rfl, by rw [h22]; exact H⟩)
              · have H := H.2 e21
                refine pt_d (pt_1 (fun n d => r_iload gx115_72 rfl) ?_)
                refine pt_d (pt_if_lt gx115_74 z4 (fun e23 => ?_) (fun e23 => ?_))
                · have H := H.1 e23
                  refine pt_d (pt_bipush gx115_104 (fun v24 h24 => ?_))
                  exact pt_d (pt_iret gx115_106 ⟨_, rfl, by rw [h24]; exact H⟩)
                · have H := H.2 e23
                  refine pt_d (pt_1 (fun n d => r_iloadn gx115_77 rfl) ?_)
                  refine pt_d (pt_1 (fun n d => r_aloadn gx115_78 rfl) ?_)
                  refine pt_d (pt_getR gx115_79 S tr_68_1 ?_)
                  refine pt_d (pt_1 (fun n d => r_iloadn gx115_82 rfl) ?_)
                  refine pt_d (pt_iald (N' := 6) gx115_83 S tl_70 z1 (fun v26 p26 q26 h26 => ?_))
                  refine pt_d (pt_1 (fun n d => r_iload gx115_84 rfl) ?_)
                  refine pt_d (pt_isub gx115_86 h26 z5 (fun v27 h27 => ?_))
                  refine pt_d (pt_icmp_gt gx115_87 z2 h27 (fun e28 => ?_) (fun e28 => ?_))
                  · have H := H.1 e28
                    refine pt_d (pt_bipush gx115_104 (fun v29 h29 => ?_))
                    exact pt_d (pt_iret gx115_106 ⟨_, rfl, by rw [h29]; exact H⟩)
                  · have H := H.2 e28
                    refine pt_d (pt_1 (fun n d => r_iload gx115_90 rfl) ?_)
                    refine pt_d (pt_1 (fun n d => r_aloadn gx115_92 rfl) ?_)
                    refine pt_d (pt_getR gx115_93 S tr_68_1 ?_)
                    refine pt_d (pt_1 (fun n d => r_iloadn gx115_96 rfl) ?_)
                    refine pt_d (pt_iald (N' := 6) gx115_97 S tl_70 z3 (fun v31 p31 q31 h31 => ?_))
                    refine pt_d (pt_1 (fun n d => r_iload gx115_98 rfl) ?_)
                    refine pt_d (pt_isub gx115_100 h31 z5 (fun v32 h32 => ?_))
                    refine pt_d (pt_icmp_le gx115_101 z4 h32 (fun e33 => ?_) (fun e33 => ?_))
                    · have H := H.1 e33
                      refine pt_d (pt_1 (fun n d => r_aloadn gx115_107 rfl) ?_)
                      refine pt_d (pt_getR gx115_108 S tr_68_2 ?_)
                      refine pt_d (pt_1 (fun n d => r_iloadn gx115_111 rfl) ?_)
                      refine pt_d (pt_bipush gx115_112 (fun v35 h35 => ?_))
                      refine pt_d (pt_imul gx115_114 z1 h35 (fun v36 h36 => ?_))
                      refine pt_d (pt_1 (fun n d => r_iloadn gx115_115 rfl) ?_)
                      refine pt_d (pt_iadd gx115_116 h36 z2 (fun v37 h37 => ?_))
                      refine pt_d (pt_1 (fun n d => r_aloadn gx115_117 rfl) ?_)
                      refine pt_d (pt_getR gx115_118 S tr_68_2 ?_)
                      refine pt_d (pt_1 (fun n d => r_iloadn gx115_121 rfl) ?_)
                      refine pt_d (pt_bipush gx115_122 (fun v39 h39 => ?_))
                      refine pt_d (pt_imul gx115_124 z3 h39 (fun v40 h40 => ?_))
                      refine pt_d (pt_1 (fun n d => r_iload gx115_125 rfl) ?_)
                      refine pt_d (pt_iadd gx115_127 h40 z4 (fun v41 h41 => ?_))
                      refine pt_d (pt_1 (fun n d => r_iload gx115_128 rfl) ?_)
                      refine pt_d (pt_copy gx115_130 rfl S h37 h41 z5 (fun h_42 S42 p42 q42 r42 e42 => ?_))
                      have H := H p42 q42 r42
                      refine pt_d (pt_1 (fun n d => r_iload gx115_133 rfl) ?_)
                      have H := H h_42 S42 (by rw [e42])
                      exact pt_d (pt_iret gx115_135 ⟨_, rfl, by rw [z5]; exact H⟩)
                    · have H := H.2 e33
                      refine pt_d (pt_bipush gx115_104 (fun v43 h43 => ?_))
                      exact pt_d (pt_iret gx115_106 ⟨_, rfl, by rw [h43]; exact H⟩)
          · have H := H.2 e18
            refine pt_d (pt_bipush gx115_60 (fun v44 h44 => ?_))
            exact pt_d (pt_iret gx115_62 ⟨_, rfl, by rw [h44]; exact H⟩)
    · have H := H.2 e7
      refine pt_d (pt_bipush gx115_28 (fun v45 h45 => ?_))
      exact pt_d (pt_iret gx115_30 ⟨_, rfl, by rw [h45]; exact H⟩)
theorem sx {s i : Int} (h0 : 0 ≤ s) (h1 : s < 6) (h2 : 0 ≤ i) (h3 : i < 1000) : w32 (w32 (s * 60) + i) = 60 * s + i := by unfold w32; omega
def R112 (V : vS) (s i v r : Int) (V' : vS) : Prop := (cRow1 V s ≠ 1 ∧ r = cRow1 V s ∧ V' = V) ∨ (cRow1 V s = 1 ∧ ¬ (0 ≤ i ∧ i < V 70 s) ∧ r = -13 ∧ V' = V) ∨ (cRow1 V s = 1 ∧ (0 ≤ i ∧ i < V 70 s) ∧ r = 1 ∧ V' = up V 71 (60 * s + i) (cLow (V 69 s) v))
theorem c_112 {n : Nat} {X : aX} {h : aH} {x1 x2 : Int32} {x3 : Int64} {a1 a2 a3 : Int} (S : wS h) (z1 : x1.toInt = a1) (z2 : x2.toInt = a2) (z3 : x3.toInt = a3) (hp : vw h 70 a1 ≤ 149) : Pt n X zM112 0 [some (.ref 68), some (.int x1), some (.int x2), some (.long x3), none, none] [] h (qI (fun y h' => wS h' ∧ R112 (vw h) a1 a2 a3 y (vw h'))) := by
  refine pt_d (d112_0 S z1 z2 z3 ⟨fun e => ⟨fun e2 p q p1 q1 g S2 eg => ⟨S2, Or.inr (Or.inr ⟨e, e2.2, rfl, ?_⟩)⟩, fun e2 => ⟨S, Or.inr (Or.inl ⟨e, fun z => e2 ⟨e, z⟩, rfl, rfl⟩)⟩⟩, fun e => ⟨S, Or.inl ⟨e, rfl, rfl⟩⟩⟩)
  rw [eg, sx p q e2.2.1 (by omega)]
def R115 (V : vS) (s i o j m r : Int) (V' : vS) : Prop := ((cRow1 V s = -11 ∨ cRow1 V o = -11) ∧ r = -11 ∧ V' = V) ∨ (¬ (cRow1 V s = -11 ∨ cRow1 V o = -11) ∧ (((cRow1 V s = -12 ∨ cRow1 V o = -12 ∨ V 69 s ≠ V 69 o) ∧ r = -12 ∧ V' = V) ∨ (¬ (cRow1 V s = -12 ∨ cRow1 V o = -12 ∨ V 69 s ≠ V 69 o) ∧ (((m < 0 ∨ i < 0 ∨ j < 0 ∨ V 70 s - m < i ∨ V 70 o - m < j) ∧ r = -13 ∧ V' = V) ∨ (¬ (m < 0 ∨ i < 0 ∨ j < 0 ∨ V 70 s - m < i ∨ V 70 o - m < j) ∧ r = m ∧ V' = cpy V 71 (60 * s + i) 71 (60 * o + j) m)))))
theorem c_115 {n : Nat} {X : aX} {h : aH} {x1 x2 x3 x4 x5 : Int32} {a1 a2 a3 a4 a5 : Int} (S : wS h) (z1 : x1.toInt = a1) (z2 : x2.toInt = a2) (z3 : x3.toInt = a3) (z4 : x4.toInt = a4) (z5 : x5.toInt = a5) (hp : (0 ≤ vw h 70 a1 ∧ vw h 70 a1 ≤ 149) ∧ 0 ≤ vw h 70 a3 ∧ vw h 70 a3 ≤ 149) : Pt n X zM115 0 [some (.ref 68), some (.int x1), some (.int x2), some (.int x3), some (.int x4), some (.int x5), none, none] [] h (qI (fun y h' => wS h' ∧ R115 (vw h) a1 a2 a3 a4 a5 y (vw h'))) := by
  have r5 := iR x5
  have ew : ∀ a : Int, 0 ≤ a → a ≤ 149 → 0 ≤ a5 → w32 (a - a5) = a - a5 := fun a p q r => w32_id (by omega) (by omega)
  refine pt_d (d115_0 S z1 z2 z3 z4 z5 ⟨fun e => ⟨S, Or.inl ⟨Or.inl e, rfl, rfl⟩⟩, fun e => ⟨fun e1 => ?_, fun e1 => ⟨S, Or.inl ⟨Or.inr e1, rfl, rfl⟩⟩⟩⟩)
  have n1 : ¬ (cRow1 (vw h) a1 = -11 ∨ cRow1 (vw h) a3 = -11) := by omega
  refine ⟨fun e2 => ⟨S, Or.inr ⟨n1, Or.inl ⟨Or.inl e2, rfl, rfl⟩⟩⟩, fun e2 => ⟨fun e3 => ⟨S, Or.inr ⟨n1, Or.inl ⟨Or.inr (Or.inl e3), rfl, rfl⟩⟩⟩, fun e3 p q p3 q3 => ⟨fun e4 => ?_, fun e4 => ⟨S, Or.inr ⟨n1, Or.inl ⟨Or.inr (Or.inr e4), rfl, rfl⟩⟩⟩⟩⟩⟩
  have n2 : ¬ (cRow1 (vw h) a1 = -12 ∨ cRow1 (vw h) a3 = -12 ∨ vw h 69 a1 ≠ vw h 69 a3) := by omega
  have bad : (a5 < 0 ∨ a2 < 0 ∨ a4 < 0 ∨ vw h 70 a1 - a5 < a2 ∨ vw h 70 a3 - a5 < a4) → wS h ∧ R115 (vw h) a1 a2 a3 a4 a5 (-13) (vw h) := fun z => ⟨S, Or.inr ⟨n1, Or.inr ⟨n2, Or.inl ⟨z, rfl, rfl⟩⟩⟩⟩
  refine ⟨fun e5 => bad (by omega), fun e5 => ⟨fun e6 => bad (by omega), fun e6 => ⟨fun e7 => bad (by omega), fun e7 => ⟨fun e8 => bad ?_, fun e8 => ⟨fun e9 p9 q9 r9 g S2 eg => ⟨S2, Or.inr ⟨n1, Or.inr ⟨n2, Or.inr ⟨?_, rfl, ?_⟩⟩⟩⟩, fun e9 => bad ?_⟩⟩⟩⟩⟩
  · rw [ew _ hp.1.1 hp.1.2 e5] at e8; omega
  · rw [ew _ hp.1.1 hp.1.2 e5] at e8
    rw [ew _ hp.2.1 hp.2.2 e5] at e9
    omega
  · rw [ew _ hp.1.1 hp.1.2 e5] at e8
    rw [ew _ hp.2.1 hp.2.2 e5] at e9
    rw [eg, sx p q e6 (by omega), sx p3 q3 e7 (by omega)]
  · rw [ew _ hp.2.1 hp.2.2 e5] at e9; omega

theorem d72_0 {n : Nat} {X : aX} {h : aH} {P : Int → aH → Prop} {x0 x1 : Int32} {a0 a1 : Int} (S : wS h) (z0 : x0.toInt = a0) (z1 : x1.toInt = a1) (H : (∀ (w3 : Int32), w3.toInt = 0 → Pt n X zM72 4 [some (.int x0), some (.int x1), some (.int x0), some (.int w3)] [] h (qI P))) : Pt (n + 1) X zM72 0 [some (.int x0), some (.int x1), none, none] [] h (qI P) := by
  refine pt_1 (fun n d => r_iloadn gx72_0 rfl) ?_
  refine pt_d (pt_1 (fun n d => r_istoren (L' := [some (.int x0), some (.int x1), some (.int x0), none]) gx72_1 rfl rfl) ?_)
  refine pt_d (pt_iconst gx72_2 (fun v1 h1 => ?_))
  refine pt_d (pt_1 (fun n d => r_istoren (L' := [some (.int x0), some (.int x1), some (.int x0), some (.int v1)]) gx72_3 rfl rfl) ?_)
  exact H v1 h1
theorem d72_4 {n : Nat} {X : aX} {h : aH} {P : Int → aH → Prop} {x0 x1 x2 x3 : Int32} {a0 a1 a2 a3 : Int} (S : wS h) (hX : X 0 = some (8, zab)) (z0 : x0.toInt = a0) (z1 : x1.toInt = a1) (z2 : x2.toInt = a2) (z3 : x3.toInt = a3) (H : ((8 ≤ a3 → P 0 h) ∧ (a3 < 8 → ((a2 = (-1) → P 0 h) ∧ (a2 ≠ (-1) → ((a2 ≠ a1 → (0 ≤ a2 → a2 < 8 → (∀ (w2 : Int32) (w3 : Int32), w2.toInt = (zab (a2).toNat).toInt → w3.toInt = w32 (a3 + 1) → Pt n X zM72 4 [some (.int x0), some (.int x1), some (.int w2), some (.int w3)] [] h (qI P)))) ∧ (a2 = a1 → P 1 h))))))) : Pt (n + 1) X zM72 4 [some (.int x0), some (.int x1), some (.int x2), some (.int x3)] [] h (qI P) := by
  refine pt_1 (fun n d => r_iloadn gx72_4 rfl) ?_
  refine pt_d (pt_bipush gx72_5 (fun v1 h1 => ?_))
  refine pt_d (pt_icmp_ge gx72_7 z3 h1 (fun e2 => ?_) (fun e2 => ?_))
  · have H := H.1 e2
    refine pt_d (pt_iconst gx72_34 (fun v3 h3 => ?_))
    exact pt_d (pt_iret gx72_35 ⟨_, rfl, by rw [h3]; exact H⟩)
  · have H := H.2 e2
    refine pt_d (pt_1 (fun n d => r_iloadn gx72_10 rfl) ?_)
    refine pt_d (pt_iconst gx72_11 (fun v4 h4 => ?_))
    refine pt_d (pt_icmp_eq gx72_12 z2 h4 (fun e5 => ?_) (fun e5 => ?_))
    · have H := H.1 e5
      refine pt_d (pt_iconst gx72_34 (fun v6 h6 => ?_))
      exact pt_d (pt_iret gx72_35 ⟨_, rfl, by rw [h6]; exact H⟩)
    · have H := H.2 e5
      refine pt_d (pt_1 (fun n d => r_iloadn gx72_15 rfl) ?_)
      refine pt_d (pt_1 (fun n d => r_iloadn gx72_16 rfl) ?_)
      refine pt_d (pt_icmp_ne gx72_17 z2 z1 (fun e7 => ?_) (fun e7 => ?_))
      · have H := H.1 e7
        refine pt_d (pt_1 (fun n d => r_gets gx72_22) ?_)
        refine pt_d (pt_1 (fun n d => r_iloadn gx72_25 rfl) ?_)
        refine pt_d (pt_xald (N' := 8) gx72_26 hX z2 (fun v8 p8 q8 h8 => ?_))
        have H := H p8 q8
        refine pt_d (pt_1 (fun n d => r_istoren (L' := [some (.int x0), some (.int x1), some (.int v8), some (.int x3)]) gx72_27 rfl rfl) ?_)
        refine pt_d (pt_iinc (c := 1) gx72_28 rfl z3 (fun v9 h9 => ?_))
        show Pt _ _ _ _ [some (.int x0), some (.int x1), some (.int v8), some (.int v9)] [] _ _
        refine pt_d (pt_1 (fun n d => r_goto gx72_31) ?_)
        exact H v8 v9 h8 h9
      · have H := H.2 e7
        refine pt_d (pt_iconst gx72_20 (fun v10 h10 => ?_))
        exact pt_d (pt_iret gx72_21 ⟨_, rfl, by rw [h10]; exact H⟩)
def dpK (k : Int) : Int := if k = -1 then 0 else if k = 0 then 1 else if k = 1 then 2 else if k = 4 then 2 else if k = 6 then 2 else if k = 7 then 4 else 3
theorem zab_s {k : Int} (h0 : 0 ≤ k) (h1 : k ≤ 7) (a : Int) (hn : k ≠ a) : ((zab k.toNat).toInt = -1 ∨ (0 ≤ (zab k.toNat).toInt ∧ (zab k.toNat).toInt ≤ 7)) ∧ dpK (zab k.toNat).toInt + 1 = dpK k ∧ (uF k a ↔ ((zab k.toNat).toInt ≠ -1 ∧ uF (zab k.toNat).toInt a)) := by
  have hk : k = 0 ∨ k = 1 ∨ k = 2 ∨ k = 3 ∨ k = 4 ∨ k = 5 ∨ k = 6 ∨ k = 7 := by omega
  have e : ∀ {z : Nat} {y : Int}, (zab z).toInt = y → (((zab z).toInt = -1 ∨ (0 ≤ (zab z).toInt ∧ (zab z).toInt ≤ 7)) ∧ dpK (zab z).toInt + 1 = dpK k ∧ (uF k a ↔ ((zab z).toInt ≠ -1 ∧ uF (zab z).toInt a))) = ((y = -1 ∨ (0 ≤ y ∧ y ≤ 7)) ∧ dpK y + 1 = dpK k ∧ (uF k a ↔ (y ≠ -1 ∧ uF y a))) := by
    intro z y q
    rw [q]
  rcases hk with rfl | rfl | rfl | rfl | rfl | rfl | rfl | rfl
  · rw [e (y := -1) (by decide)]; exact ⟨Or.inl rfl, by decide, by unfold uF; omega⟩
  · rw [e (y := 0) (by decide)]; exact ⟨Or.inr (by decide), by decide, by unfold uF; omega⟩
  · rw [e (y := 1) (by decide)]; exact ⟨Or.inr (by decide), by decide, by unfold uF; omega⟩
  · rw [e (y := 1) (by decide)]; exact ⟨Or.inr (by decide), by decide, by unfold uF; omega⟩
  · rw [e (y := 0) (by decide)]; exact ⟨Or.inr (by decide), by decide, by unfold uF; omega⟩
  · rw [e (y := 4) (by decide)]; exact ⟨Or.inr (by decide), by decide, by unfold uF; omega⟩
  · rw [e (y := 0) (by decide)]; exact ⟨Or.inr (by decide), by decide, by unfold uF; omega⟩
  · rw [e (y := 2) (by decide)]; exact ⟨Or.inr (by decide), by decide, by unfold uF; omega⟩
theorem l_72 {X : aX} {h : aH} (S : wS h) (hX : X 0 = some (8, zab)) {k a : Int} : ∀ (n : Nat) (x0 x1 x2 x3 : Int32), x1.toInt = a → 0 ≤ x3.toInt → x3.toInt + dpK x2.toInt ≤ 4 → (x2.toInt = -1 ∨ (0 ≤ x2.toInt ∧ x2.toInt ≤ 7)) → (uF k a ↔ (x2.toInt ≠ -1 ∧ uF x2.toInt a)) → Pt n X zM72 4 [some (.int x0), some (.int x1), some (.int x2), some (.int x3)] [] h (qI (fun y h' => h' = h ∧ y = bI (uF k a))) := by
  intro n
  induction n with
  | zero => exact fun _ _ _ _ _ _ _ _ _ => pt_z
  | succ n ih =>
    intro x0 x1 x2 x3 h1 h3 hd h2 hu
    have d0 : 0 ≤ dpK x2.toInt := by
      unfold dpK
      split
      · omega
      · split
        · omega
        · split
          · omega
          · split
            · omega
            · split
              · omega
              · split <;> omega
    refine d72_4 S hX rfl h1 rfl rfl ⟨fun e => by omega, fun e => ⟨fun e2 => ⟨rfl, (bI_f (fun q => (hu.mp q).1 e2)).symm⟩, fun e2 => ⟨fun e3 p q w2 w3 g2 g3 => ?_, fun e3 => ⟨rfl, (bI_t (hu.mpr ⟨e2, Or.inr (Or.inl e3)⟩)).symm⟩⟩⟩⟩
    obtain ⟨s1, s2, s3⟩ := zab_s p (by omega) a e3
    rw [← g2] at s1 s2 s3
    have g3 := w_1 g3 (by omega) (by omega)
    exact ih x0 x1 w2 w3 h1 (by omega) (by omega) s1 (hu.trans ⟨fun z => s3.mp z.2, fun z => ⟨e2, s3.mpr z⟩⟩)
theorem c_72 {n : Nat} {X : aX} {h : aH} {x0 x1 : Int32} {a0 a1 : Int} (S : wS h) (hX : X 0 = some (8, zab)) (z0 : x0.toInt = a0) (z1 : x1.toInt = a1) (hp : 0 ≤ a0 ∧ a0 ≤ 7) : Pt n X zM72 0 [some (.int x0), some (.int x1), none, none] [] h (qI (fun y h' => h' = h ∧ y = bI (uF a0 a1))) := by
  have hd : dpK a0 ≤ 4 := by
    unfold dpK
    split
    · omega
    · split
      · omega
      · split
        · omega
        · split
          · omega
          · split
            · omega
            · split <;> omega
  refine pt_d (d72_0 S z0 z1 (fun w3 g3 => l_72 S hX n x0 x1 x0 w3 z1 (by omega) (by rw [z0]; omega) (by rw [z0]; omega) ?_))
  rw [z0]
  exact ⟨fun q => ⟨by omega, q⟩, fun q => q.2⟩

def mWhy (V : vS) (s i : Int) : Int := if 0 ≤ s ∧ s ≤ 5 then (if V 142 s = -1 then -11 else if 0 ≤ V 142 s then -12 else if 0 ≤ i ∧ i ≤ w32 (V 143 s - 1) then 0 else -13) else -1
theorem d321_0 {n : Nat} {X : aX} {h : aH} {P : Int → aH → Prop} {x1 x2 : Int32} {a1 a2 : Int} (S : wS h) (z1 : x1.toInt = a1) (z2 : x2.toInt = a2) (H : (((0 ≤ a1 ∧ a1 ≤ 5) → (0 ≤ a1 → a1 < 6 → ((vw h 142 a1 ≠ (-1) → ((vw h 142 a1 < 0 → ((¬ (0 ≤ a2 ∧ a2 ≤ (w32 ((vw h 143 a1) - 1))) → P (-13) h) ∧ ((0 ≤ a2 ∧ a2 ≤ (w32 ((vw h 143 a1) - 1))) → P 0 h))) ∧ (0 ≤ vw h 142 a1 → P (-12) h))) ∧ (vw h 142 a1 = (-1) → P (-11) h)))) ∧ (¬ (0 ≤ a1 ∧ a1 ≤ 5) → P (-1) h))) : Pt (n + 1) X zM321 0 [some (.ref 72), some (.int x1), some (.int x2)] [] h (qI P) := by
  refine pt_1 (fun n d => r_iloadn gx321_0 rfl) ?_
  refine pt_d (pt_stat (as := [.int x1]) (r := []) gx321_1 rfl (show zmt[318]? = some zM318 from rfl) rfl rfl rfl rfl (c_318 S z1) (kqP (fun v1 h1 => ?_)))
  show Pt _ _ _ 4 _ [.int v1] _ _
  refine pt_d (pt_ifB_ne gx321_4 h1 (fun e2 => ?_) (fun e2 => ?_))
  · have H := H.1 e2
    refine pt_d (pt_1 (fun n d => r_aloadn gx321_9 rfl) ?_)
    refine pt_d (pt_getR gx321_10 S tr_72_97 ?_)
    refine pt_d (pt_1 (fun n d => r_iloadn gx321_13 rfl) ?_)
    refine pt_d (pt_iald (N' := 6) gx321_14 S tl_142 z1 (fun v4 p4 q4 h4 => ?_))
    have H := H p4 q4
    refine pt_d (pt_iconst gx321_15 (fun v5 h5 => ?_))
    refine pt_d (pt_icmp_ne gx321_16 h4 h5 (fun e6 => ?_) (fun e6 => ?_))
    · have H := H.1 e6
      refine pt_d (pt_1 (fun n d => r_aloadn gx321_22 rfl) ?_)
      refine pt_d (pt_getR gx321_23 S tr_72_97 ?_)
      refine pt_d (pt_1 (fun n d => r_iloadn gx321_26 rfl) ?_)
      refine pt_d (pt_iald (N' := 6) gx321_27 S tl_142 z1 (fun v8 p8 q8 h8 => ?_))
      refine pt_d (pt_if_lt gx321_28 h8 (fun e9 => ?_) (fun e9 => ?_))
      · have H := H.1 e9
        refine pt_d (pt_1 (fun n d => r_iloadn gx321_34 rfl) ?_)
        refine pt_d (pt_iconst gx321_35 (fun v10 h10 => ?_))
        refine pt_d (pt_1 (fun n d => r_aloadn gx321_36 rfl) ?_)
        refine pt_d (pt_getR gx321_37 S tr_72_98 ?_)
        refine pt_d (pt_1 (fun n d => r_iloadn gx321_40 rfl) ?_)
        refine pt_d (pt_iald (N' := 6) gx321_41 S tl_143 z1 (fun v12 p12 q12 h12 => ?_))
        refine pt_d (pt_iconst gx321_42 (fun v13 h13 => ?_))
        refine pt_d (pt_isub gx321_43 h12 h13 (fun v14 h14 => ?_))
        refine pt_d (pt_stat (as := [.int x2, .int v10, .int v14]) (r := []) gx321_44 rfl (show zmt[196]? = some zM196 from rfl) rfl rfl rfl rfl (c_196 S z2 h10 h14) (kqP (fun v15 h15 => ?_)))
        show Pt _ _ _ 47 _ [.int v15] _ _
        refine pt_d (pt_ifB_eq gx321_47 h15 (fun e16 => ?_) (fun e16 => ?_))
        · have H := H.1 e16
          refine pt_d (pt_bipush gx321_54 (fun v17 h17 => ?_))
          exact pt_d (pt_iret gx321_56 ⟨_, rfl, by rw [h17]; exact H⟩)
        · have H := H.2 e16
          refine pt_d (pt_iconst gx321_50 (fun v18 h18 => ?_))
          refine pt_d (pt_1 (fun n d => r_goto gx321_51) ?_)
          exact pt_d (pt_iret gx321_56 ⟨_, rfl, by rw [h18]; exact H⟩)
      · have H := H.2 e9
        refine pt_d (pt_bipush gx321_31 (fun v19 h19 => ?_))
        exact pt_d (pt_iret gx321_33 ⟨_, rfl, by rw [h19]; exact H⟩)
    · have H := H.2 e6
      refine pt_d (pt_bipush gx321_19 (fun v20 h20 => ?_))
      exact pt_d (pt_iret gx321_21 ⟨_, rfl, by rw [h20]; exact H⟩)
  · have H := H.2 e2
    refine pt_d (pt_iconst gx321_7 (fun v21 h21 => ?_))
    exact pt_d (pt_iret gx321_8 ⟨_, rfl, by rw [h21]; exact H⟩)
theorem c_321 {n : Nat} {X : aX} {h : aH} {x1 x2 : Int32} {a1 a2 : Int} (S : wS h) (z1 : x1.toInt = a1) (z2 : x2.toInt = a2) : Pt n X zM321 0 [some (.ref 72), some (.int x1), some (.int x2)] [] h (qI (fun y h' => h' = h ∧ y = mWhy (vw h) a1 a2)) := by
  refine pt_d (d321_0 S z1 z2 ?_)
  repeat' (first | (refine And.intro ?_ ?_) | intro _)
  all_goals first
    | rfl
    | exact (bI_t (by omega)).symm
    | exact (bI_f (by omega)).symm
    | exact bI_c (by omega)
    | (unfold mWhy; rw [if_neg (by omega)])
    | (unfold mWhy; rw [if_pos (by omega), if_pos (by omega)])
    | (unfold mWhy; rw [if_pos (by omega), if_neg (by omega), if_pos (by omega)])
    | (unfold mWhy; rw [if_pos (by omega), if_neg (by omega), if_neg (by omega), if_pos (by omega)])
    | (unfold mWhy; rw [if_pos (by omega), if_neg (by omega), if_neg (by omega), if_neg (by omega)])
theorem d188_0 {n : Nat} {X : aX} {h : aH} {P : Int → aH → Prop} {x1 x2 : Int32} {a1 a2 : Int} (S : wS h) (z1 : x1.toInt = a1) (z2 : x2.toInt = a2) (H : ((¬ (0 ≤ a1 ∧ a1 ≤ 5) → P (-1) h) ∧ ((0 ≤ a1 ∧ a1 ≤ 5) → ((a2 = (-1) → ((a2 ≠ (-1) → ∀ (y9 : Int) (h_9 : aH), (wS h_9 ∧ y9 = 1 ∧ vw h_9 = up (up (vw h) 69 a1 5) 70 a1 a2) → P y9 h_9) ∧ (a2 = (-1) → ∀ (y11 : Int) (h_11 : aH), (wS h_11 ∧ y11 = 1 ∧ vw h_11 = up (up (vw h) 69 a1 (-1)) 70 a1 0) → P y11 h_11))) ∧ (a2 ≠ (-1) → (((cBody (vw h) a2) → ((a2 ≠ (-1) → ∀ (y18 : Int) (h_18 : aH), (wS h_18 ∧ y18 = 1 ∧ vw h_18 = up (up (vw h) 69 a1 5) 70 a1 a2) → P y18 h_18) ∧ (a2 = (-1) → ∀ (y20 : Int) (h_20 : aH), (wS h_20 ∧ y20 = 1 ∧ vw h_20 = up (up (vw h) 69 a1 (-1)) 70 a1 0) → P y20 h_20))) ∧ (¬ (cBody (vw h) a2) → P (-1) h))))))) : Pt (n + 1) X zM188 0 [some (.ref 0), some (.int x1), some (.int x2)] [] h (qI P) := by
  refine pt_1 (fun n d => r_iloadn gx188_0 rfl) ?_
  refine pt_d (pt_stat (as := [.int x1]) (r := []) gx188_1 rfl (show zmt[142]? = some zM142 from rfl) rfl rfl rfl rfl (c_142 S z1) (kqP (fun v1 h1 => ?_)))
  show Pt _ _ _ 4 _ [.int v1] _ _
  refine pt_d (pt_ifB_eq gx188_4 h1 (fun e2 => ?_) (fun e2 => ?_))
  · have H := H.1 e2
    refine pt_d (pt_iconst gx188_23 (fun v3 h3 => ?_))
    exact pt_d (pt_iret gx188_24 ⟨_, rfl, by rw [h3]; exact H⟩)
  · have H := H.2 e2
    refine pt_d (pt_1 (fun n d => r_iloadn gx188_7 rfl) ?_)
    refine pt_d (pt_iconst gx188_8 (fun v4 h4 => ?_))
    refine pt_d (pt_icmp_eq gx188_9 z2 h4 (fun e5 => ?_) (fun e5 => ?_))
    · have H := H.1 e5
      refine pt_d (pt_1 (fun n d => r_iloadn gx188_25 rfl) ?_)
      refine pt_d (pt_iconst gx188_26 (fun v6 h6 => ?_))
      refine pt_d (pt_icmp_ne gx188_27 z2 h6 (fun e7 => ?_) (fun e7 => ?_))
      · have H := H.1 e7
        refine pt_d (pt_1 (fun n d => r_aloadn gx188_41 rfl) ?_)
        refine pt_d (pt_getR gx188_42 S tr_0_9 ?_)
        refine pt_d (pt_1 (fun n d => r_iloadn gx188_45 rfl) ?_)
        refine pt_d (pt_1 (fun n d => r_iloadn gx188_46 rfl) ?_)
        refine pt_d (pt_virt (as := [.int x1, .int x2]) (r := []) gx188_47 rfl (show zmt[108]? = some zM108 from rfl) rfl rfl rfl rfl (c_108 S z1 z2) (kqI (fun v9 y9 h_9 h9 P9 => ?_)))
        have S9 := P9.1
        have H := H y9 h_9 P9
        show Pt _ _ _ 50 _ [.int v9] _ _
        exact pt_d (pt_iret gx188_50 ⟨_, rfl, by rw [h9]; exact H⟩)
      · have H := H.2 e7
        refine pt_d (pt_1 (fun n d => r_aloadn gx188_30 rfl) ?_)
        refine pt_d (pt_getR gx188_31 S tr_0_9 ?_)
        refine pt_d (pt_1 (fun n d => r_iloadn gx188_34 rfl) ?_)
        refine pt_d (pt_virt (as := [.int x1]) (r := []) gx188_35 rfl (show zmt[107]? = some zM107 from rfl) rfl rfl rfl rfl (c_107 S z1) (kqI (fun v11 y11 h_11 h11 P11 => ?_)))
        have S11 := P11.1
        have H := H y11 h_11 P11
        show Pt _ _ _ 38 _ [.int v11] _ _
        refine pt_d (pt_1 (fun n d => r_goto gx188_38) ?_)
        exact pt_d (pt_iret gx188_50 ⟨_, rfl, by rw [h11]; exact H⟩)
    · have H := H.2 e5
      refine pt_d (pt_1 (fun n d => r_aloadn gx188_12 rfl) ?_)
      refine pt_d (pt_getR gx188_13 S tr_0_0 ?_)
      refine pt_d (pt_1 (fun n d => r_iloadn gx188_16 rfl) ?_)
      refine pt_d (pt_virt (as := [.int x2]) (r := []) gx188_17 rfl (show zmt[74]? = some zM74 from rfl) rfl rfl rfl rfl (c_74 S z2) (kqP (fun v13 h13 => ?_)))
      show Pt _ _ _ 20 _ [.int v13] _ _
      refine pt_d (pt_ifB_ne gx188_20 h13 (fun e14 => ?_) (fun e14 => ?_))
      · have H := H.1 e14
        refine pt_d (pt_1 (fun n d => r_iloadn gx188_25 rfl) ?_)
        refine pt_d (pt_iconst gx188_26 (fun v15 h15 => ?_))
        refine pt_d (pt_icmp_ne gx188_27 z2 h15 (fun e16 => ?_) (fun e16 => ?_))
        · have H := H.1 e16
          refine pt_d (pt_1 (fun n d => r_aloadn gx188_41 rfl) ?_)
          refine pt_d (pt_getR gx188_42 S tr_0_9 ?_)
          refine pt_d (pt_1 (fun n d => r_iloadn gx188_45 rfl) ?_)
          refine pt_d (pt_1 (fun n d => r_iloadn gx188_46 rfl) ?_)
          refine pt_d (pt_virt (as := [.int x1, .int x2]) (r := []) gx188_47 rfl (show zmt[108]? = some zM108 from rfl) rfl rfl rfl rfl (c_108 S z1 z2) (kqI (fun v18 y18 h_18 h18 P18 => ?_)))
          have S18 := P18.1
          have H := H y18 h_18 P18
          show Pt _ _ _ 50 _ [.int v18] _ _
          exact pt_d (pt_iret gx188_50 ⟨_, rfl, by rw [h18]; exact H⟩)
        · have H := H.2 e16
          refine pt_d (pt_1 (fun n d => r_aloadn gx188_30 rfl) ?_)
          refine pt_d (pt_getR gx188_31 S tr_0_9 ?_)
          refine pt_d (pt_1 (fun n d => r_iloadn gx188_34 rfl) ?_)
          refine pt_d (pt_virt (as := [.int x1]) (r := []) gx188_35 rfl (show zmt[107]? = some zM107 from rfl) rfl rfl rfl rfl (c_107 S z1) (kqI (fun v20 y20 h_20 h20 P20 => ?_)))
          have S20 := P20.1
          have H := H y20 h_20 P20
          show Pt _ _ _ 38 _ [.int v20] _ _
          refine pt_d (pt_1 (fun n d => r_goto gx188_38) ?_)
          exact pt_d (pt_iret gx188_50 ⟨_, rfl, by rw [h20]; exact H⟩)
      · have H := H.2 e14
        refine pt_d (pt_iconst gx188_23 (fun v21 h21 => ?_))
        exact pt_d (pt_iret gx188_24 ⟨_, rfl, by rw [h21]; exact H⟩)
theorem d319_0 {n : Nat} {X : aX} {h : aH} {P : Int → aH → Prop} {x1 x2 : Int32} {a1 a2 : Int} (S : wS h) (z1 : x1.toInt = a1) (z2 : x2.toInt = a2) (H : ((¬ (0 ≤ a1 ∧ a1 ≤ 5) → P (-1) h) ∧ ((0 ≤ a1 ∧ a1 ≤ 5) → ((a2 = (-1) → (0 ≤ a1 → a1 < 6 → ∀ h_7 : aH, wS h_7 → vw h_7 = up (vw h) 142 a1 a2 → P 1 h_7)) ∧ (a2 ≠ (-1) → (((mBody (vw h) a2) → (0 ≤ a1 → a1 < 6 → ∀ h_12 : aH, wS h_12 → vw h_12 = up (vw h) 142 a1 a2 → P 1 h_12)) ∧ (¬ (mBody (vw h) a2) → P (-1) h))))))) : Pt (n + 1) X zM319 0 [some (.ref 72), some (.int x1), some (.int x2)] [] h (qI P) := by
  refine pt_1 (fun n d => r_iloadn gx319_0 rfl) ?_
  refine pt_d (pt_stat (as := [.int x1]) (r := []) gx319_1 rfl (show zmt[318]? = some zM318 from rfl) rfl rfl rfl rfl (c_318 S z1) (kqP (fun v1 h1 => ?_)))
  show Pt _ _ _ 4 _ [.int v1] _ _
  refine pt_d (pt_ifB_eq gx319_4 h1 (fun e2 => ?_) (fun e2 => ?_))
  · have H := H.1 e2
    refine pt_d (pt_iconst gx319_20 (fun v3 h3 => ?_))
    exact pt_d (pt_iret gx319_21 ⟨_, rfl, by rw [h3]; exact H⟩)
  · have H := H.2 e2
    refine pt_d (pt_1 (fun n d => r_iloadn gx319_7 rfl) ?_)
    refine pt_d (pt_iconst gx319_8 (fun v4 h4 => ?_))
    refine pt_d (pt_icmp_eq gx319_9 z2 h4 (fun e5 => ?_) (fun e5 => ?_))
    · have H := H.1 e5
      refine pt_d (pt_1 (fun n d => r_aloadn gx319_22 rfl) ?_)
      refine pt_d (pt_getR gx319_23 S tr_72_97 ?_)
      refine pt_d (pt_1 (fun n d => r_iloadn gx319_26 rfl) ?_)
      refine pt_d (pt_1 (fun n d => r_iloadn gx319_27 rfl) ?_)
      refine pt_d (pt_iast (N' := 6) gx319_28 S tl_142 z1 z2 (fun h_7 S7 p7 q7 e7 => ?_))
      have H := H p7 q7
      refine pt_d (pt_iconst gx319_29 (fun v8 h8 => ?_))
      have H := H h_7 S7 (by rw [e7])
      exact pt_d (pt_iret gx319_30 ⟨_, rfl, by rw [h8]; exact H⟩)
    · have H := H.2 e5
      refine pt_d (pt_1 (fun n d => r_aloadn gx319_12 rfl) ?_)
      refine pt_d (pt_1 (fun n d => r_iloadn gx319_13 rfl) ?_)
      refine pt_d (pt_virt (as := [.int x2]) (r := []) gx319_14 rfl (show zmt[200]? = some zM200 from rfl) rfl rfl rfl rfl (c_200 S z2) (kqP (fun v9 h9 => ?_)))
      show Pt _ _ _ 17 _ [.int v9] _ _
      refine pt_d (pt_ifB_ne gx319_17 h9 (fun e10 => ?_) (fun e10 => ?_))
      · have H := H.1 e10
        refine pt_d (pt_1 (fun n d => r_aloadn gx319_22 rfl) ?_)
        refine pt_d (pt_getR gx319_23 S tr_72_97 ?_)
        refine pt_d (pt_1 (fun n d => r_iloadn gx319_26 rfl) ?_)
        refine pt_d (pt_1 (fun n d => r_iloadn gx319_27 rfl) ?_)
        refine pt_d (pt_iast (N' := 6) gx319_28 S tl_142 z1 z2 (fun h_12 S12 p12 q12 e12 => ?_))
        have H := H p12 q12
        refine pt_d (pt_iconst gx319_29 (fun v13 h13 => ?_))
        have H := H h_12 S12 (by rw [e12])
        exact pt_d (pt_iret gx319_30 ⟨_, rfl, by rw [h13]; exact H⟩)
      · have H := H.2 e10
        refine pt_d (pt_iconst gx319_20 (fun v14 h14 => ?_))
        exact pt_d (pt_iret gx319_21 ⟨_, rfl, by rw [h14]; exact H⟩)
theorem d189_0 {n : Nat} {X : aX} {h : aH} {P : Int → aH → Prop} {x1 x2 x3 : Int32} {a1 a2 a3 : Int} (S : wS h) (z1 : x1.toInt = a1) (z2 : x2.toInt = a2) (z3 : x3.toInt = a3) (H : ((¬ (0 ≤ a1 ∧ a1 ≤ 5) → P (-1) h) ∧ ((0 ≤ a1 ∧ a1 ≤ 5) → ((¬ (0 ≤ a2 ∧ a2 ≤ 4) → P (-1) h) ∧ ((0 ≤ a2 ∧ a2 ≤ 4) → ((a3 ≤ 60 → ((0 ≤ a3 → ((0 ≤ a3 ∧ a3 ≤ 60) ∧ ∀ (y13 : Int) (h_13 : aH), (wS h_13 ∧ y13 = 1 ∧ vw h_13 = fillV (up (up (vw h) 69 a1 a2) 70 a1 a3) 71 (60 * a1) (60 * a1 + a3) 0) → P y13 h_13)) ∧ (a3 < 0 → P (-14) h))) ∧ (60 < a3 → P (-1) h))))))) : Pt (n + 1) X zM189 0 [some (.ref 0), some (.int x1), some (.int x2), some (.int x3)] [] h (qI P) := by
  refine pt_1 (fun n d => r_iloadn gx189_0 rfl) ?_
  refine pt_d (pt_stat (as := [.int x1]) (r := []) gx189_1 rfl (show zmt[142]? = some zM142 from rfl) rfl rfl rfl rfl (c_142 S z1) (kqP (fun v1 h1 => ?_)))
  show Pt _ _ _ 4 _ [.int v1] _ _
  refine pt_d (pt_ifB_eq gx189_4 h1 (fun e2 => ?_) (fun e2 => ?_))
  · have H := H.1 e2
    refine pt_d (pt_iconst gx189_22 (fun v3 h3 => ?_))
    exact pt_d (pt_iret gx189_23 ⟨_, rfl, by rw [h3]; exact H⟩)
  · have H := H.2 e2
    refine pt_d (pt_1 (fun n d => r_iloadn gx189_7 rfl) ?_)
    refine pt_d (pt_iconst gx189_8 (fun v4 h4 => ?_))
    refine pt_d (pt_iconst gx189_9 (fun v5 h5 => ?_))
    refine pt_d (pt_stat (as := [.int x2, .int v4, .int v5]) (r := []) gx189_10 rfl (show zmt[137]? = some zM137 from rfl) rfl rfl rfl rfl (c_137 S z2 h4 h5) (kqP (fun v6 h6 => ?_)))
    show Pt _ _ _ 13 _ [.int v6] _ _
    refine pt_d (pt_ifB_eq gx189_13 h6 (fun e7 => ?_) (fun e7 => ?_))
    · have H := H.1 e7
      refine pt_d (pt_iconst gx189_22 (fun v8 h8 => ?_))
      exact pt_d (pt_iret gx189_23 ⟨_, rfl, by rw [h8]; exact H⟩)
    · have H := H.2 e7
      refine pt_d (pt_1 (fun n d => r_iloadn gx189_16 rfl) ?_)
      refine pt_d (pt_bipush gx189_17 (fun v9 h9 => ?_))
      refine pt_d (pt_icmp_le gx189_19 z3 h9 (fun e10 => ?_) (fun e10 => ?_))
      · have H := H.1 e10
        refine pt_d (pt_1 (fun n d => r_iloadn gx189_24 rfl) ?_)
        refine pt_d (pt_if_ge gx189_25 z3 (fun e11 => ?_) (fun e11 => ?_))
        · have H := H.1 e11
          refine pt_d (pt_1 (fun n d => r_aloadn gx189_33 rfl) ?_)
          refine pt_d (pt_getR gx189_34 S tr_0_9 ?_)
          refine pt_d (pt_1 (fun n d => r_iloadn gx189_37 rfl) ?_)
          refine pt_d (pt_1 (fun n d => r_iloadn gx189_38 rfl) ?_)
          refine pt_d (pt_1 (fun n d => r_iloadn gx189_39 rfl) ?_)
          obtain ⟨pr13, H⟩ := H
          refine pt_d (pt_virt (as := [.int x1, .int x2, .int x3]) (r := []) gx189_40 rfl (show zmt[109]? = some zM109 from rfl) rfl rfl rfl rfl (c_109 S z1 z2 z3 pr13) (kqI (fun v13 y13 h_13 h13 P13 => ?_)))
          have S13 := P13.1
          have H := H y13 h_13 P13
          show Pt _ _ _ 43 _ [.int v13] _ _
          exact pt_d (pt_iret gx189_43 ⟨_, rfl, by rw [h13]; exact H⟩)
        · have H := H.2 e11
          refine pt_d (pt_bipush gx189_28 (fun v14 h14 => ?_))
          refine pt_d (pt_1 (fun n d => r_goto gx189_30) ?_)
          exact pt_d (pt_iret gx189_43 ⟨_, rfl, by rw [h14]; exact H⟩)
      · have H := H.2 e10
        refine pt_d (pt_iconst gx189_22 (fun v15 h15 => ?_))
        exact pt_d (pt_iret gx189_23 ⟨_, rfl, by rw [h15]; exact H⟩)
theorem d320_0 {n : Nat} {X : aX} {h : aH} {P : Int → aH → Prop} {x1 x2 x3 : Int32} {a1 a2 a3 : Int} (S : wS h) (z1 : x1.toInt = a1) (z2 : x2.toInt = a2) (z3 : x3.toInt = a3) (H : ((¬ (0 ≤ a1 ∧ a1 ≤ 5) → P (-1) h) ∧ ((0 ≤ a1 ∧ a1 ≤ 5) → ((¬ (0 ≤ a2 ∧ a2 ≤ 4) → P (-1) h) ∧ ((0 ≤ a2 ∧ a2 ≤ 4) → ((a3 ≤ 60 → ((0 ≤ a3 → (0 ≤ a1 → a1 < 6 → ∀ h_17 : aH, wS h_17 → vw h_17 = up (up (vw h) 142 a1 (w32 ((-2) - a2))) 143 a1 a3 → (∀ (w4 : Int32), w4.toInt = w32 (60 * a1) → Pt n X zM320 54 [some (.ref 72), some (.int x1), some (.int x2), some (.int x3), some (.int w4)] [] h_17 (qI P)))) ∧ (a3 < 0 → P (-14) h))) ∧ (60 < a3 → P (-1) h))))))) : Pt (n + 1) X zM320 0 [some (.ref 72), some (.int x1), some (.int x2), some (.int x3), none] [] h (qI P) := by
  refine pt_1 (fun n d => r_iloadn gx320_0 rfl) ?_
  refine pt_d (pt_stat (as := [.int x1]) (r := []) gx320_1 rfl (show zmt[318]? = some zM318 from rfl) rfl rfl rfl rfl (c_318 S z1) (kqP (fun v1 h1 => ?_)))
  show Pt _ _ _ 4 _ [.int v1] _ _
  refine pt_d (pt_ifB_eq gx320_4 h1 (fun e2 => ?_) (fun e2 => ?_))
  · have H := H.1 e2
    refine pt_d (pt_iconst gx320_22 (fun v3 h3 => ?_))
    exact pt_d (pt_iret gx320_23 ⟨_, rfl, by rw [h3]; exact H⟩)
  · have H := H.2 e2
    refine pt_d (pt_1 (fun n d => r_iloadn gx320_7 rfl) ?_)
    refine pt_d (pt_iconst gx320_8 (fun v4 h4 => ?_))
    refine pt_d (pt_iconst gx320_9 (fun v5 h5 => ?_))
    refine pt_d (pt_stat (as := [.int x2, .int v4, .int v5]) (r := []) gx320_10 rfl (show zmt[196]? = some zM196 from rfl) rfl rfl rfl rfl (c_196 S z2 h4 h5) (kqP (fun v6 h6 => ?_)))
    show Pt _ _ _ 13 _ [.int v6] _ _
    refine pt_d (pt_ifB_eq gx320_13 h6 (fun e7 => ?_) (fun e7 => ?_))
    · have H := H.1 e7
      refine pt_d (pt_iconst gx320_22 (fun v8 h8 => ?_))
      exact pt_d (pt_iret gx320_23 ⟨_, rfl, by rw [h8]; exact H⟩)
    · have H := H.2 e7
      refine pt_d (pt_1 (fun n d => r_iloadn gx320_16 rfl) ?_)
      refine pt_d (pt_bipush gx320_17 (fun v9 h9 => ?_))
      refine pt_d (pt_icmp_le gx320_19 z3 h9 (fun e10 => ?_) (fun e10 => ?_))
      · have H := H.1 e10
        refine pt_d (pt_1 (fun n d => r_iloadn gx320_24 rfl) ?_)
        refine pt_d (pt_if_ge gx320_25 z3 (fun e11 => ?_) (fun e11 => ?_))
        · have H := H.1 e11
          refine pt_d (pt_1 (fun n d => r_aloadn gx320_31 rfl) ?_)
          refine pt_d (pt_getR gx320_32 S tr_72_97 ?_)
          refine pt_d (pt_1 (fun n d => r_iloadn gx320_35 rfl) ?_)
          refine pt_d (pt_bipush gx320_36 (fun v13 h13 => ?_))
          refine pt_d (pt_1 (fun n d => r_iloadn gx320_38 rfl) ?_)
          refine pt_d (pt_isub gx320_39 h13 z2 (fun v14 h14 => ?_))
          refine pt_d (pt_iast (N' := 6) gx320_40 S tl_142 z1 h14 (fun h_15 S15 p15 q15 e15 => ?_))
          have H := H p15 q15
          refine pt_d (pt_1 (fun n d => r_aloadn gx320_41 rfl) ?_)
          refine pt_d (pt_getR gx320_42 S15 tr_72_98 ?_)
          refine pt_d (pt_1 (fun n d => r_iloadn gx320_45 rfl) ?_)
          refine pt_d (pt_1 (fun n d => r_iloadn gx320_46 rfl) ?_)
          refine pt_d (pt_iast (N' := 6) gx320_47 S15 tl_143 z1 z3 (fun h_17 S17 p17 q17 e17 => ?_))
          refine pt_d (pt_bipush gx320_48 (fun v18 h18 => ?_))
          refine pt_d (pt_1 (fun n d => r_iloadn gx320_50 rfl) ?_)
          refine pt_d (pt_imul gx320_51 h18 z1 (fun v19 h19 => ?_))
          refine pt_d (pt_1 (fun n d => r_istore (L' := [some (.ref 72), some (.int x1), some (.int x2), some (.int x3), some (.int v19)]) gx320_52 rfl rfl) ?_)
          have H := H h_17 S17 (by rw [e17, e15])
          exact H v19 h19
        · have H := H.2 e11
          refine pt_d (pt_bipush gx320_28 (fun v20 h20 => ?_))
          exact pt_d (pt_iret gx320_30 ⟨_, rfl, by rw [h20]; exact H⟩)
      · have H := H.2 e10
        refine pt_d (pt_iconst gx320_22 (fun v21 h21 => ?_))
        exact pt_d (pt_iret gx320_23 ⟨_, rfl, by rw [h21]; exact H⟩)
theorem d320_54 {n : Nat} {X : aX} {h : aH} {P : Int → aH → Prop} {x1 x2 x3 x4 : Int32} {a1 a2 a3 a4 : Int} (S : wS h) (z1 : x1.toInt = a1) (z2 : x2.toInt = a2) (z3 : x3.toInt = a3) (z4 : x4.toInt = a4) (H : ((w32 ((w32 (60 * a1)) + 60) ≤ a4 → P 1 h) ∧ (a4 < w32 ((w32 (60 * a1)) + 60) → (0 ≤ a4 → a4 < 360 → ∀ h_9 : aH, wS h_9 → vw h_9 = up (vw h) 144 a4 0 → (∀ (w4 : Int32), w4.toInt = w32 (a4 + 1) → Pt n X zM320 54 [some (.ref 72), some (.int x1), some (.int x2), some (.int x3), some (.int w4)] [] h_9 (qI P)))))) : Pt (n + 1) X zM320 54 [some (.ref 72), some (.int x1), some (.int x2), some (.int x3), some (.int x4)] [] h (qI P) := by
  refine pt_1 (fun n d => r_iload gx320_54 rfl) ?_
  refine pt_d (pt_bipush gx320_56 (fun v1 h1 => ?_))
  refine pt_d (pt_1 (fun n d => r_iloadn gx320_58 rfl) ?_)
  refine pt_d (pt_imul gx320_59 h1 z1 (fun v2 h2 => ?_))
  refine pt_d (pt_bipush gx320_60 (fun v3 h3 => ?_))
  refine pt_d (pt_iadd gx320_62 h2 h3 (fun v4 h4 => ?_))
  refine pt_d (pt_icmp_ge gx320_63 z4 h4 (fun e5 => ?_) (fun e5 => ?_))
  · have H := H.1 e5
    refine pt_d (pt_iconst gx320_80 (fun v6 h6 => ?_))
    exact pt_d (pt_iret gx320_81 ⟨_, rfl, by rw [h6]; exact H⟩)
  · have H := H.2 e5
    refine pt_d (pt_1 (fun n d => r_aloadn gx320_66 rfl) ?_)
    refine pt_d (pt_getR gx320_67 S tr_72_99 ?_)
    refine pt_d (pt_1 (fun n d => r_iload gx320_70 rfl) ?_)
    refine pt_d (pt_lconst (c := 0) gx320_72 rfl (fun v8 h8 => ?_))
    refine pt_d (pt_last (N' := 360) gx320_73 S tl_144 z4 h8 (fun h_9 S9 p9 q9 e9 => ?_))
    have H := H p9 q9
    refine pt_d (pt_iinc (c := 1) gx320_74 rfl z4 (fun v10 h10 => ?_))
    show Pt _ _ _ _ [some (.ref 72), some (.int x1), some (.int x2), some (.int x3), some (.int v10)] [] _ _
    refine pt_d (pt_1 (fun n d => r_goto gx320_77) ?_)
    have H := H h_9 S9 (by rw [e9])
    exact H v10 h10
theorem d190_0 {n : Nat} {X : aX} {h : aH} {P : Int → aH → Prop} {x1 x2 : Int32} {x3 : Int64} {a1 a2 a3 : Int} (S : wS h) (z1 : x1.toInt = a1) (z2 : x2.toInt = a2) (z3 : x3.toInt = a3) (H : ((¬ (0 ≤ a1 ∧ a1 ≤ 5) → P (-1) h) ∧ ((0 ≤ a1 ∧ a1 ≤ 5) → (vw h 70 a1 ≤ 149 ∧ ∀ (y5 : Int) (h_5 : aH), (wS h_5 ∧ R112 (vw h) a1 a2 a3 y5 (vw h_5)) → P y5 h_5)))) : Pt (n + 1) X zM190 0 [some (.ref 0), some (.int x1), some (.int x2), some (.long x3), none] [] h (qI P) := by
  refine pt_1 (fun n d => r_iloadn gx190_0 rfl) ?_
  refine pt_d (pt_stat (as := [.int x1]) (r := []) gx190_1 rfl (show zmt[142]? = some zM142 from rfl) rfl rfl rfl rfl (c_142 S z1) (kqP (fun v1 h1 => ?_)))
  show Pt _ _ _ 4 _ [.int v1] _ _
  refine pt_d (pt_ifB_eq gx190_4 h1 (fun e2 => ?_) (fun e2 => ?_))
  · have H := H.1 e2
    refine pt_d (pt_iconst gx190_20 (fun v3 h3 => ?_))
    exact pt_d (pt_iret gx190_21 ⟨_, rfl, by rw [h3]; exact H⟩)
  · have H := H.2 e2
    refine pt_d (pt_1 (fun n d => r_aloadn gx190_7 rfl) ?_)
    refine pt_d (pt_getR gx190_8 S tr_0_9 ?_)
    refine pt_d (pt_1 (fun n d => r_iloadn gx190_11 rfl) ?_)
    refine pt_d (pt_1 (fun n d => r_iloadn gx190_12 rfl) ?_)
    refine pt_d (pt_1 (fun n d => r_lloadn gx190_13 rfl) ?_)
    obtain ⟨pr5, H⟩ := H
    refine pt_d (pt_virt (as := [.int x1, .int x2, .long x3]) (r := []) gx190_14 rfl (show zmt[112]? = some zM112 from rfl) rfl rfl rfl rfl (c_112 S z1 z2 z3 pr5) (kqI (fun v5 y5 h_5 h5 P5 => ?_)))
    have S5 := P5.1
    have H := H y5 h_5 P5
    show Pt _ _ _ 17 _ [.int v5] _ _
    refine pt_d (pt_1 (fun n d => r_goto gx190_17) ?_)
    exact pt_d (pt_iret gx190_21 ⟨_, rfl, by rw [h5]; exact H⟩)
theorem d322_0 {n : Nat} {X : aX} {h : aH} {P : Int → aH → Prop} {x1 x2 : Int32} {x3 : Int64} {a1 a2 a3 : Int} (S : wS h) (z1 : x1.toInt = a1) (z2 : x2.toInt = a2) (z3 : x3.toInt = a3) (H : ((0 ≤ mWhy (vw h) a1 a2 → (0 ≤ a1 → a1 < 6 → ((w32 ((-2) - (vw h 142 a1)) ≠ 0 → ((w32 ((-2) - (vw h 142 a1)) ≠ 1 → ((w32 ((-2) - (vw h 142 a1)) ≠ 2 → ((w32 ((-2) - (vw h 142 a1)) ≠ 3 → ((a3 = 0 → (0 ≤ w32 ((w32 (60 * a1)) + a2) → w32 ((w32 (60 * a1)) + a2) < 360 → ∀ h_21 : aH, wS h_21 → vw h_21 = up (vw h) 144 (w32 ((w32 (60 * a1)) + a2)) 0 → P 1 h_21)) ∧ (a3 ≠ 0 → (0 ≤ w32 ((w32 (60 * a1)) + a2) → w32 ((w32 (60 * a1)) + a2) < 360 → ∀ h_24 : aH, wS h_24 → vw h_24 = up (vw h) 144 (w32 ((w32 (60 * a1)) + a2)) 1 → P 1 h_24)))) ∧ (w32 ((-2) - (vw h 142 a1)) = 3 → (0 ≤ w32 ((w32 (60 * a1)) + a2) → w32 ((w32 (60 * a1)) + a2) < 360 → ∀ h_26 : aH, wS h_26 → vw h_26 = up (vw h) 144 (w32 ((w32 (60 * a1)) + a2)) a3 → P 1 h_26)))) ∧ (w32 ((-2) - (vw h 142 a1)) = 2 → (0 ≤ w32 ((w32 (60 * a1)) + a2) → w32 ((w32 (60 * a1)) + a2) < 360 → ∀ h_30 : aH, wS h_30 → vw h_30 = up (vw h) 144 (w32 ((w32 (60 * a1)) + a2)) (w32 a3) → P 1 h_30)))) ∧ (w32 ((-2) - (vw h 142 a1)) = 1 → (0 ≤ w32 ((w32 (60 * a1)) + a2) → w32 ((w32 (60 * a1)) + a2) < 360 → ∀ h_35 : aH, wS h_35 → vw h_35 = up (vw h) 144 (w32 ((w32 (60 * a1)) + a2)) (w16 (w32 a3)) → P 1 h_35)))) ∧ (w32 ((-2) - (vw h 142 a1)) = 0 → (0 ≤ w32 ((w32 (60 * a1)) + a2) → w32 ((w32 (60 * a1)) + a2) < 360 → ∀ h_40 : aH, wS h_40 → vw h_40 = up (vw h) 144 (w32 ((w32 (60 * a1)) + a2)) (w8 (w32 a3)) → P 1 h_40))))) ∧ (mWhy (vw h) a1 a2 < 0 → P (mWhy (vw h) a1 a2) h))) : Pt (n + 1) X zM322 0 [some (.ref 72), some (.int x1), some (.int x2), some (.long x3), none, none, none] [] h (qI P) := by
  refine pt_1 (fun n d => r_aloadn gx322_0 rfl) ?_
  refine pt_d (pt_1 (fun n d => r_iloadn gx322_1 rfl) ?_)
  refine pt_d (pt_1 (fun n d => r_iloadn gx322_2 rfl) ?_)
  refine pt_d (pt_virt (as := [.int x1, .int x2]) (r := []) gx322_3 rfl (show zmt[321]? = some zM321 from rfl) rfl rfl rfl rfl (c_321 S z1 z2) (kqP (fun v1 h1 => ?_)))
  show Pt _ _ _ 6 _ [.int v1] _ _
  refine pt_d (pt_1 (fun n d => r_istore (L' := [some (.ref 72), some (.int x1), some (.int x2), some (.long x3), none, some (.int v1), none]) gx322_6 rfl rfl) ?_)
  refine pt_d (pt_1 (fun n d => r_iload gx322_8 rfl) ?_)
  refine pt_d (pt_if_ge gx322_10 h1 (fun e2 => ?_) (fun e2 => ?_))
  · have H := H.1 e2
    refine pt_d (pt_bipush gx322_16 (fun v3 h3 => ?_))
    refine pt_d (pt_1 (fun n d => r_aloadn gx322_18 rfl) ?_)
    refine pt_d (pt_getR gx322_19 S tr_72_97 ?_)
    refine pt_d (pt_1 (fun n d => r_iloadn gx322_22 rfl) ?_)
    refine pt_d (pt_iald (N' := 6) gx322_23 S tl_142 z1 (fun v5 p5 q5 h5 => ?_))
    have H := H p5 q5
    refine pt_d (pt_isub gx322_24 h3 h5 (fun v6 h6 => ?_))
    refine pt_d (pt_1 (fun n d => r_istore (L' := [some (.ref 72), some (.int x1), some (.int x2), some (.long x3), none, some (.int v1), some (.int v6)]) gx322_25 rfl rfl) ?_)
    refine pt_d (pt_1 (fun n d => r_aloadn gx322_27 rfl) ?_)
    refine pt_d (pt_getR gx322_28 S tr_72_99 ?_)
    refine pt_d (pt_bipush gx322_31 (fun v8 h8 => ?_))
    refine pt_d (pt_1 (fun n d => r_iloadn gx322_33 rfl) ?_)
    refine pt_d (pt_imul gx322_34 h8 z1 (fun v9 h9 => ?_))
    refine pt_d (pt_1 (fun n d => r_iloadn gx322_35 rfl) ?_)
    refine pt_d (pt_iadd gx322_36 h9 z2 (fun v10 h10 => ?_))
    refine pt_d (pt_1 (fun n d => r_iload gx322_37 rfl) ?_)
    refine pt_d (pt_if_ne gx322_39 h6 (fun e11 => ?_) (fun e11 => ?_))
    · have H := H.1 e11
      refine pt_d (pt_1 (fun n d => r_iload gx322_49 rfl) ?_)
      refine pt_d (pt_iconst gx322_51 (fun v12 h12 => ?_))
      refine pt_d (pt_icmp_ne gx322_52 h6 h12 (fun e13 => ?_) (fun e13 => ?_))
      · have H := H.1 e13
        refine pt_d (pt_1 (fun n d => r_iload gx322_62 rfl) ?_)
        refine pt_d (pt_iconst gx322_64 (fun v14 h14 => ?_))
        refine pt_d (pt_icmp_ne gx322_65 h6 h14 (fun e15 => ?_) (fun e15 => ?_))
        · have H := H.1 e15
          refine pt_d (pt_1 (fun n d => r_iload gx322_74 rfl) ?_)
          refine pt_d (pt_iconst gx322_76 (fun v16 h16 => ?_))
          refine pt_d (pt_icmp_ne gx322_77 h6 h16 (fun e17 => ?_) (fun e17 => ?_))
          · have H := H.1 e17
            refine pt_d (pt_1 (fun n d => r_lloadn gx322_84 rfl) ?_)
            refine pt_d (pt_lconst (c := 0) gx322_85 rfl (fun v18 h18 => ?_))
            refine pt_d (pt_lcmp_eq gx322_86 gx322_87 z3 h18 (fun e19 => ?_) (fun e19 => ?_))
            · have H := H.1 e19
              refine pt_d (pt_lconst (c := 0) gx322_94 rfl (fun v20 h20 => ?_))
              refine pt_d (pt_last (N' := 360) gx322_95 S tl_144 h10 h20 (fun h_21 S21 p21 q21 e21 => ?_))
              have H := H p21 q21
              refine pt_d (pt_iconst gx322_96 (fun v22 h22 => ?_))
              have H := H h_21 S21 (by rw [e21])
              exact pt_d (pt_iret gx322_97 ⟨_, rfl, by rw [h22]; exact H⟩)
            · have H := H.2 e19
              refine pt_d (pt_lconst (c := 1) gx322_90 rfl (fun v23 h23 => ?_))
              refine pt_d (pt_1 (fun n d => r_goto gx322_91) ?_)
              refine pt_d (pt_last (N' := 360) gx322_95 S tl_144 h10 h23 (fun h_24 S24 p24 q24 e24 => ?_))
              have H := H p24 q24
              refine pt_d (pt_iconst gx322_96 (fun v25 h25 => ?_))
              have H := H h_24 S24 (by rw [e24])
              exact pt_d (pt_iret gx322_97 ⟨_, rfl, by rw [h25]; exact H⟩)
          · have H := H.2 e17
            refine pt_d (pt_1 (fun n d => r_lloadn gx322_80 rfl) ?_)
            refine pt_d (pt_1 (fun n d => r_goto gx322_81) ?_)
            refine pt_d (pt_last (N' := 360) gx322_95 S tl_144 h10 z3 (fun h_26 S26 p26 q26 e26 => ?_))
            have H := H p26 q26
            refine pt_d (pt_iconst gx322_96 (fun v27 h27 => ?_))
            have H := H h_26 S26 (by rw [e26])
            exact pt_d (pt_iret gx322_97 ⟨_, rfl, by rw [h27]; exact H⟩)
        · have H := H.2 e15
          refine pt_d (pt_1 (fun n d => r_lloadn gx322_68 rfl) ?_)
          refine pt_d (pt_l2i gx322_69 z3 (fun v28 h28 => ?_))
          refine pt_d (pt_i2l gx322_70 h28 (fun v29 h29 => ?_))
          refine pt_d (pt_1 (fun n d => r_goto gx322_71) ?_)
          refine pt_d (pt_last (N' := 360) gx322_95 S tl_144 h10 h29 (fun h_30 S30 p30 q30 e30 => ?_))
          have H := H p30 q30
          refine pt_d (pt_iconst gx322_96 (fun v31 h31 => ?_))
          have H := H h_30 S30 (by rw [e30])
          exact pt_d (pt_iret gx322_97 ⟨_, rfl, by rw [h31]; exact H⟩)
      · have H := H.2 e13
        refine pt_d (pt_1 (fun n d => r_lloadn gx322_55 rfl) ?_)
        refine pt_d (pt_l2i gx322_56 z3 (fun v32 h32 => ?_))
        refine pt_d (pt_i2s gx322_57 h32 (fun v33 h33 => ?_))
        refine pt_d (pt_i2l gx322_58 h33 (fun v34 h34 => ?_))
        refine pt_d (pt_1 (fun n d => r_goto gx322_59) ?_)
        refine pt_d (pt_last (N' := 360) gx322_95 S tl_144 h10 h34 (fun h_35 S35 p35 q35 e35 => ?_))
        have H := H p35 q35
        refine pt_d (pt_iconst gx322_96 (fun v36 h36 => ?_))
        have H := H h_35 S35 (by rw [e35])
        exact pt_d (pt_iret gx322_97 ⟨_, rfl, by rw [h36]; exact H⟩)
    · have H := H.2 e11
      refine pt_d (pt_1 (fun n d => r_lloadn gx322_42 rfl) ?_)
      refine pt_d (pt_l2i gx322_43 z3 (fun v37 h37 => ?_))
      refine pt_d (pt_i2b gx322_44 h37 (fun v38 h38 => ?_))
      refine pt_d (pt_i2l gx322_45 h38 (fun v39 h39 => ?_))
      refine pt_d (pt_1 (fun n d => r_goto gx322_46) ?_)
      refine pt_d (pt_last (N' := 360) gx322_95 S tl_144 h10 h39 (fun h_40 S40 p40 q40 e40 => ?_))
      have H := H p40 q40
      refine pt_d (pt_iconst gx322_96 (fun v41 h41 => ?_))
      have H := H h_40 S40 (by rw [e40])
      exact pt_d (pt_iret gx322_97 ⟨_, rfl, by rw [h41]; exact H⟩)
  · have H := H.2 e2
    refine pt_d (pt_1 (fun n d => r_iload gx322_13 rfl) ?_)
    exact pt_d (pt_iret gx322_15 ⟨_, rfl, by rw [h1]; exact H⟩)
theorem d192_0 {n : Nat} {X : aX} {h : aH} {P : Int → aH → Prop} {x1 x2 x3 x4 x5 : Int32} {a1 a2 a3 a4 a5 : Int} (S : wS h) (z1 : x1.toInt = a1) (z2 : x2.toInt = a2) (z3 : x3.toInt = a3) (z4 : x4.toInt = a4) (z5 : x5.toInt = a5) (H : ((¬ (0 ≤ a1 ∧ a1 ≤ 5) → P (-1) h) ∧ ((0 ≤ a1 ∧ a1 ≤ 5) → ((¬ (0 ≤ a3 ∧ a3 ≤ 5) → P (-1) h) ∧ ((0 ≤ a3 ∧ a3 ≤ 5) → (((0 ≤ vw h 70 a1 ∧ vw h 70 a1 ≤ 149) ∧ 0 ≤ vw h 70 a3 ∧ vw h 70 a3 ≤ 149) ∧ ∀ (y8 : Int) (h_8 : aH), (wS h_8 ∧ R115 (vw h) a1 a2 a3 a4 a5 y8 (vw h_8)) → P y8 h_8)))))) : Pt (n + 1) X zM192 0 [some (.ref 0), some (.int x1), some (.int x2), some (.int x3), some (.int x4), some (.int x5)] [] h (qI P) := by
  refine pt_1 (fun n d => r_iloadn gx192_0 rfl) ?_
  refine pt_d (pt_stat (as := [.int x1]) (r := []) gx192_1 rfl (show zmt[142]? = some zM142 from rfl) rfl rfl rfl rfl (c_142 S z1) (kqP (fun v1 h1 => ?_)))
  show Pt _ _ _ 4 _ [.int v1] _ _
  refine pt_d (pt_ifB_eq gx192_4 h1 (fun e2 => ?_) (fun e2 => ?_))
  · have H := H.1 e2
    refine pt_d (pt_iconst gx192_31 (fun v3 h3 => ?_))
    exact pt_d (pt_iret gx192_32 ⟨_, rfl, by rw [h3]; exact H⟩)
  · have H := H.2 e2
    refine pt_d (pt_1 (fun n d => r_iloadn gx192_7 rfl) ?_)
    refine pt_d (pt_stat (as := [.int x3]) (r := []) gx192_8 rfl (show zmt[142]? = some zM142 from rfl) rfl rfl rfl rfl (c_142 S z3) (kqP (fun v4 h4 => ?_)))
    show Pt _ _ _ 11 _ [.int v4] _ _
    refine pt_d (pt_ifB_eq gx192_11 h4 (fun e5 => ?_) (fun e5 => ?_))
    · have H := H.1 e5
      refine pt_d (pt_iconst gx192_31 (fun v6 h6 => ?_))
      exact pt_d (pt_iret gx192_32 ⟨_, rfl, by rw [h6]; exact H⟩)
    · have H := H.2 e5
      refine pt_d (pt_1 (fun n d => r_aloadn gx192_14 rfl) ?_)
      refine pt_d (pt_getR gx192_15 S tr_0_9 ?_)
      refine pt_d (pt_1 (fun n d => r_iloadn gx192_18 rfl) ?_)
      refine pt_d (pt_1 (fun n d => r_iloadn gx192_19 rfl) ?_)
      refine pt_d (pt_1 (fun n d => r_iloadn gx192_20 rfl) ?_)
      refine pt_d (pt_1 (fun n d => r_iload gx192_21 rfl) ?_)
      refine pt_d (pt_1 (fun n d => r_iload gx192_23 rfl) ?_)
      obtain ⟨pr8, H⟩ := H
      refine pt_d (pt_virt (as := [.int x1, .int x2, .int x3, .int x4, .int x5]) (r := []) gx192_25 rfl (show zmt[115]? = some zM115 from rfl) rfl rfl rfl rfl (c_115 S z1 z2 z3 z4 z5 pr8) (kqI (fun v8 y8 h_8 h8 P8 => ?_)))
      have S8 := P8.1
      have H := H y8 h_8 P8
      show Pt _ _ _ 28 _ [.int v8] _ _
      refine pt_d (pt_1 (fun n d => r_goto gx192_28) ?_)
      exact pt_d (pt_iret gx192_32 ⟨_, rfl, by rw [h8]; exact H⟩)
theorem d324_0 {n : Nat} {X : aX} {h : aH} {P : Int → aH → Prop} {x1 x2 x3 x4 x5 : Int32} {a1 a2 a3 a4 a5 : Int} (S : wS h) (z1 : x1.toInt = a1) (z2 : x2.toInt = a2) (z3 : x3.toInt = a3) (z4 : x4.toInt = a4) (z5 : x5.toInt = a5) (H : ((¬ (0 ≤ a1 ∧ a1 ≤ 5) → P (-1) h) ∧ ((0 ≤ a1 ∧ a1 ≤ 5) → (((0 ≤ a3 ∧ a3 ≤ 5) → (0 ≤ a1 → a1 < 6 → ((vw h 142 a1 = (-1) → P (-11) h) ∧ (vw h 142 a1 ≠ (-1) → (0 ≤ a3 → a3 < 6 → ((vw h 142 a3 ≠ (-1) → ((0 ≤ vw h 142 a1 → P (-12) h) ∧ (vw h 142 a1 < 0 → ((vw h 142 a1 = vw h 142 a3 → ((a5 < 0 → P (-13) h) ∧ (0 ≤ a5 → ((a2 < 0 → P (-13) h) ∧ (0 ≤ a2 → ((a4 < 0 → P (-13) h) ∧ (0 ≤ a4 → ((w32 ((vw h 143 a1) - a5) < a2 → P (-13) h) ∧ (a2 ≤ w32 ((vw h 143 a1) - a5) → ((a4 ≤ w32 ((vw h 143 a3) - a5) → (∀ (w6 : Int32), w6.toInt = 0 → Pt n X zM324 113 [some (.ref 72), some (.int x1), some (.int x2), some (.int x3), some (.int x4), some (.int x5), some (.int w6)] [] h (qI P))) ∧ (w32 ((vw h 143 a3) - a5) < a4 → P (-13) h))))))))))) ∧ (vw h 142 a1 ≠ vw h 142 a3 → P (-12) h))))) ∧ (vw h 142 a3 = (-1) → P (-11) h))))))) ∧ (¬ (0 ≤ a3 ∧ a3 ≤ 5) → P (-1) h))))) : Pt (n + 1) X zM324 0 [some (.ref 72), some (.int x1), some (.int x2), some (.int x3), some (.int x4), some (.int x5), none] [] h (qI P) := by
  refine pt_1 (fun n d => r_iloadn gx324_0 rfl) ?_
  refine pt_d (pt_stat (as := [.int x1]) (r := []) gx324_1 rfl (show zmt[318]? = some zM318 from rfl) rfl rfl rfl rfl (c_318 S z1) (kqP (fun v1 h1 => ?_)))
  show Pt _ _ _ 4 _ [.int v1] _ _
  refine pt_d (pt_ifB_eq gx324_4 h1 (fun e2 => ?_) (fun e2 => ?_))
  · have H := H.1 e2
    refine pt_d (pt_iconst gx324_14 (fun v3 h3 => ?_))
    exact pt_d (pt_iret gx324_15 ⟨_, rfl, by rw [h3]; exact H⟩)
  · have H := H.2 e2
    refine pt_d (pt_1 (fun n d => r_iloadn gx324_7 rfl) ?_)
    refine pt_d (pt_stat (as := [.int x3]) (r := []) gx324_8 rfl (show zmt[318]? = some zM318 from rfl) rfl rfl rfl rfl (c_318 S z3) (kqP (fun v4 h4 => ?_)))
    show Pt _ _ _ 11 _ [.int v4] _ _
    refine pt_d (pt_ifB_ne gx324_11 h4 (fun e5 => ?_) (fun e5 => ?_))
    · have H := H.1 e5
      refine pt_d (pt_1 (fun n d => r_aloadn gx324_16 rfl) ?_)
      refine pt_d (pt_getR gx324_17 S tr_72_97 ?_)
      refine pt_d (pt_1 (fun n d => r_iloadn gx324_20 rfl) ?_)
      refine pt_d (pt_iald (N' := 6) gx324_21 S tl_142 z1 (fun v7 p7 q7 h7 => ?_))
      have H := H p7 q7
      refine pt_d (pt_iconst gx324_22 (fun v8 h8 => ?_))
      refine pt_d (pt_icmp_eq gx324_23 h7 h8 (fun e9 => ?_) (fun e9 => ?_))
      · have H := H.1 e9
        refine pt_d (pt_bipush gx324_36 (fun v10 h10 => ?_))
        exact pt_d (pt_iret gx324_38 ⟨_, rfl, by rw [h10]; exact H⟩)
      · have H := H.2 e9
        refine pt_d (pt_1 (fun n d => r_aloadn gx324_26 rfl) ?_)
        refine pt_d (pt_getR gx324_27 S tr_72_97 ?_)
        refine pt_d (pt_1 (fun n d => r_iloadn gx324_30 rfl) ?_)
        refine pt_d (pt_iald (N' := 6) gx324_31 S tl_142 z3 (fun v12 p12 q12 h12 => ?_))
        have H := H p12 q12
        refine pt_d (pt_iconst gx324_32 (fun v13 h13 => ?_))
        refine pt_d (pt_icmp_ne gx324_33 h12 h13 (fun e14 => ?_) (fun e14 => ?_))
        · have H := H.1 e14
          refine pt_d (pt_1 (fun n d => r_aloadn gx324_39 rfl) ?_)
          refine pt_d (pt_getR gx324_40 S tr_72_97 ?_)
          refine pt_d (pt_1 (fun n d => r_iloadn gx324_43 rfl) ?_)
          refine pt_d (pt_iald (N' := 6) gx324_44 S tl_142 z1 (fun v16 p16 q16 h16 => ?_))
          refine pt_d (pt_if_ge gx324_45 h16 (fun e17 => ?_) (fun e17 => ?_))
          · have H := H.1 e17
            refine pt_d (pt_bipush gx324_63 (fun v18 h18 => ?_))
            exact pt_d (pt_iret gx324_65 ⟨_, rfl, by rw [h18]; exact H⟩)
          · have H := H.2 e17
            refine pt_d (pt_1 (fun n d => r_aloadn gx324_48 rfl) ?_)
            refine pt_d (pt_getR gx324_49 S tr_72_97 ?_)
            refine pt_d (pt_1 (fun n d => r_iloadn gx324_52 rfl) ?_)
            refine pt_d (pt_iald (N' := 6) gx324_53 S tl_142 z1 (fun v20 p20 q20 h20 => ?_))
            refine pt_d (pt_1 (fun n d => r_aloadn gx324_54 rfl) ?_)
            refine pt_d (pt_getR gx324_55 S tr_72_97 ?_)
            refine pt_d (pt_1 (fun n d => r_iloadn gx324_58 rfl) ?_)
            refine pt_d (pt_iald (N' := 6) gx324_59 S tl_142 z3 (fun v22 p22 q22 h22 => ?_))
            refine pt_d (pt_icmp_eq gx324_60 h20 h22 (fun e23 => ?_) (fun e23 => ?_))
            · have H := H.1 e23
              refine pt_d (pt_1 (fun n d => r_iload gx324_66 rfl) ?_)
              refine pt_d (pt_if_lt gx324_68 z5 (fun e24 => ?_) (fun e24 => ?_))
              · have H := H.1 e24
                refine pt_d (pt_bipush gx324_107 (fun v25 h25 => ?_))
                exact pt_d (pt_iret gx324_109 ⟨_, rfl, by rw [h25]; exact H⟩)
              · have H := H.2 e24
                refine pt_d (pt_1 (fun n d => r_iloadn gx324_71 rfl) ?_)
                refine pt_d (pt_if_lt gx324_72 z2 (fun e26 => ?_) (fun e26 => ?_))
                · have H := H.1 e26
                  refine pt_d (pt_bipush gx324_107 (fun v27 h27 => ?_))
                  exact pt_d (pt_iret gx324_109 ⟨_, rfl, by rw [h27]; exact H⟩)
                · have H := H.2 e26
                  refine pt_d (pt_1 (fun n d => r_iload gx324_75 rfl) ?_)
                  refine pt_d (pt_if_lt gx324_77 z4 (fun e28 => ?_) (fun e28 => ?_))
                  · have H := H.1 e28
                    refine pt_d (pt_bipush gx324_107 (fun v29 h29 => ?_))
                    exact pt_d (pt_iret gx324_109 ⟨_, rfl, by rw [h29]; exact H⟩)
                  · have H := H.2 e28
                    refine pt_d (pt_1 (fun n d => r_iloadn gx324_80 rfl) ?_)
                    refine pt_d (pt_1 (fun n d => r_aloadn gx324_81 rfl) ?_)
                    refine pt_d (pt_getR gx324_82 S tr_72_98 ?_)
                    refine pt_d (pt_1 (fun n d => r_iloadn gx324_85 rfl) ?_)
                    refine pt_d (pt_iald (N' := 6) gx324_86 S tl_143 z1 (fun v31 p31 q31 h31 => ?_))
                    refine pt_d (pt_1 (fun n d => r_iload gx324_87 rfl) ?_)
                    refine pt_d (pt_isub gx324_89 h31 z5 (fun v32 h32 => ?_))
                    refine pt_d (pt_icmp_gt gx324_90 z2 h32 (fun e33 => ?_) (fun e33 => ?_))
                    · have H := H.1 e33
                      refine pt_d (pt_bipush gx324_107 (fun v34 h34 => ?_))
                      exact pt_d (pt_iret gx324_109 ⟨_, rfl, by rw [h34]; exact H⟩)
                    · have H := H.2 e33
                      refine pt_d (pt_1 (fun n d => r_iload gx324_93 rfl) ?_)
                      refine pt_d (pt_1 (fun n d => r_aloadn gx324_95 rfl) ?_)
                      refine pt_d (pt_getR gx324_96 S tr_72_98 ?_)
                      refine pt_d (pt_1 (fun n d => r_iloadn gx324_99 rfl) ?_)
                      refine pt_d (pt_iald (N' := 6) gx324_100 S tl_143 z3 (fun v36 p36 q36 h36 => ?_))
                      refine pt_d (pt_1 (fun n d => r_iload gx324_101 rfl) ?_)
                      refine pt_d (pt_isub gx324_103 h36 z5 (fun v37 h37 => ?_))
                      refine pt_d (pt_icmp_le gx324_104 z4 h37 (fun e38 => ?_) (fun e38 => ?_))
                      · have H := H.1 e38
                        refine pt_d (pt_iconst gx324_110 (fun v39 h39 => ?_))
                        refine pt_d (pt_1 (fun n d => r_istore (L' := [some (.ref 72), some (.int x1), some (.int x2), some (.int x3), some (.int x4), some (.int x5), some (.int v39)]) gx324_111 rfl rfl) ?_)
                        exact H v39 h39
                      · have H := H.2 e38
                        refine pt_d (pt_bipush gx324_107 (fun v40 h40 => ?_))
                        exact pt_d (pt_iret gx324_109 ⟨_, rfl, by rw [h40]; exact H⟩)
            · have H := H.2 e23
              refine pt_d (pt_bipush gx324_63 (fun v41 h41 => ?_))
              exact pt_d (pt_iret gx324_65 ⟨_, rfl, by rw [h41]; exact H⟩)
        · have H := H.2 e14
          refine pt_d (pt_bipush gx324_36 (fun v42 h42 => ?_))
          exact pt_d (pt_iret gx324_38 ⟨_, rfl, by rw [h42]; exact H⟩)
    · have H := H.2 e5
      refine pt_d (pt_iconst gx324_14 (fun v43 h43 => ?_))
      exact pt_d (pt_iret gx324_15 ⟨_, rfl, by rw [h43]; exact H⟩)
theorem d324_113 {n : Nat} {X : aX} {h : aH} {P : Int → aH → Prop} {x1 x2 x3 x4 x5 x6 : Int32} {a1 a2 a3 a4 a5 a6 : Int} (S : wS h) (z1 : x1.toInt = a1) (z2 : x2.toInt = a2) (z3 : x3.toInt = a3) (z4 : x4.toInt = a4) (z5 : x5.toInt = a5) (z6 : x6.toInt = a6) (H : ((a5 ≤ a6 → (∀ (w6 : Int32), w6.toInt = 0 → Pt n X zM324 150 [some (.ref 72), some (.int x1), some (.int x2), some (.int x3), some (.int x4), some (.int x5), some (.int w6)] [] h (qI P))) ∧ (a6 < a5 → (0 ≤ w32 ((w32 ((w32 (60 * a1)) + a2)) + a6) → w32 ((w32 ((w32 (60 * a1)) + a2)) + a6) < 360 → (0 ≤ a6 → a6 < 60 → ∀ h_10 : aH, wS h_10 → vw h_10 = up (vw h) 145 a6 (vw h 144 (w32 ((w32 ((w32 (60 * a1)) + a2)) + a6))) → (∀ (w6 : Int32), w6.toInt = w32 (a6 + 1) → Pt n X zM324 113 [some (.ref 72), some (.int x1), some (.int x2), some (.int x3), some (.int x4), some (.int x5), some (.int w6)] [] h_10 (qI P))))))) : Pt (n + 1) X zM324 113 [some (.ref 72), some (.int x1), some (.int x2), some (.int x3), some (.int x4), some (.int x5), some (.int x6)] [] h (qI P) := by
  refine pt_1 (fun n d => r_iload gx324_113 rfl) ?_
  refine pt_d (pt_1 (fun n d => r_iload gx324_115 rfl) ?_)
  refine pt_d (pt_icmp_ge gx324_117 z6 z5 (fun e1 => ?_) (fun e1 => ?_))
  · have H := H.1 e1
    refine pt_d (pt_iconst gx324_147 (fun v2 h2 => ?_))
    refine pt_d (pt_1 (fun n d => r_istore (L' := [some (.ref 72), some (.int x1), some (.int x2), some (.int x3), some (.int x4), some (.int x5), some (.int v2)]) gx324_148 rfl rfl) ?_)
    exact H v2 h2
  · have H := H.2 e1
    refine pt_d (pt_1 (fun n d => r_aloadn gx324_120 rfl) ?_)
    refine pt_d (pt_getR gx324_121 S tr_72_100 ?_)
    refine pt_d (pt_1 (fun n d => r_iload gx324_124 rfl) ?_)
    refine pt_d (pt_1 (fun n d => r_aloadn gx324_126 rfl) ?_)
    refine pt_d (pt_getR gx324_127 S tr_72_99 ?_)
    refine pt_d (pt_bipush gx324_130 (fun v5 h5 => ?_))
    refine pt_d (pt_1 (fun n d => r_iloadn gx324_132 rfl) ?_)
    refine pt_d (pt_imul gx324_133 h5 z1 (fun v6 h6 => ?_))
    refine pt_d (pt_1 (fun n d => r_iloadn gx324_134 rfl) ?_)
    refine pt_d (pt_iadd gx324_135 h6 z2 (fun v7 h7 => ?_))
    refine pt_d (pt_1 (fun n d => r_iload gx324_136 rfl) ?_)
    refine pt_d (pt_iadd gx324_138 h7 z6 (fun v8 h8 => ?_))
    refine pt_d (pt_lald (N' := 360) gx324_139 S tl_144 h8 (fun v9 p9 q9 h9 => ?_))
    have H := H p9 q9
    refine pt_d (pt_last (N' := 60) gx324_140 S tl_145 z6 h9 (fun h_10 S10 p10 q10 e10 => ?_))
    have H := H p10 q10
    refine pt_d (pt_iinc (c := 1) gx324_141 rfl z6 (fun v11 h11 => ?_))
    show Pt _ _ _ _ [some (.ref 72), some (.int x1), some (.int x2), some (.int x3), some (.int x4), some (.int x5), some (.int v11)] [] _ _
    refine pt_d (pt_1 (fun n d => r_goto gx324_144) ?_)
    have H := H h_10 S10 (by rw [e10])
    exact H v11 h11
theorem d324_150 {n : Nat} {X : aX} {h : aH} {P : Int → aH → Prop} {x1 x2 x3 x4 x5 x6 : Int32} {a1 a2 a3 a4 a5 a6 : Int} (S : wS h) (z1 : x1.toInt = a1) (z2 : x2.toInt = a2) (z3 : x3.toInt = a3) (z4 : x4.toInt = a4) (z5 : x5.toInt = a5) (z6 : x6.toInt = a6) (H : ((a5 ≤ a6 → P a5 h) ∧ (a6 < a5 → (0 ≤ a6 → a6 < 60 → (0 ≤ w32 ((w32 ((w32 (60 * a3)) + a4)) + a6) → w32 ((w32 ((w32 (60 * a3)) + a4)) + a6) < 360 → ∀ h_9 : aH, wS h_9 → vw h_9 = up (vw h) 144 (w32 ((w32 ((w32 (60 * a3)) + a4)) + a6)) (vw h 145 a6) → (∀ (w6 : Int32), w6.toInt = w32 (a6 + 1) → Pt n X zM324 150 [some (.ref 72), some (.int x1), some (.int x2), some (.int x3), some (.int x4), some (.int x5), some (.int w6)] [] h_9 (qI P))))))) : Pt (n + 1) X zM324 150 [some (.ref 72), some (.int x1), some (.int x2), some (.int x3), some (.int x4), some (.int x5), some (.int x6)] [] h (qI P) := by
  refine pt_1 (fun n d => r_iload gx324_150 rfl) ?_
  refine pt_d (pt_1 (fun n d => r_iload gx324_152 rfl) ?_)
  refine pt_d (pt_icmp_ge gx324_154 z6 z5 (fun e1 => ?_) (fun e1 => ?_))
  · have H := H.1 e1
    refine pt_d (pt_1 (fun n d => r_iload gx324_185 rfl) ?_)
    exact pt_d (pt_iret gx324_187 ⟨_, rfl, by rw [z5]; exact H⟩)
  · have H := H.2 e1
    refine pt_d (pt_1 (fun n d => r_aloadn gx324_157 rfl) ?_)
    refine pt_d (pt_getR gx324_158 S tr_72_99 ?_)
    refine pt_d (pt_bipush gx324_161 (fun v3 h3 => ?_))
    refine pt_d (pt_1 (fun n d => r_iloadn gx324_163 rfl) ?_)
    refine pt_d (pt_imul gx324_164 h3 z3 (fun v4 h4 => ?_))
    refine pt_d (pt_1 (fun n d => r_iload gx324_165 rfl) ?_)
    refine pt_d (pt_iadd gx324_167 h4 z4 (fun v5 h5 => ?_))
    refine pt_d (pt_1 (fun n d => r_iload gx324_168 rfl) ?_)
    refine pt_d (pt_iadd gx324_170 h5 z6 (fun v6 h6 => ?_))
    refine pt_d (pt_1 (fun n d => r_aloadn gx324_171 rfl) ?_)
    refine pt_d (pt_getR gx324_172 S tr_72_100 ?_)
    refine pt_d (pt_1 (fun n d => r_iload gx324_175 rfl) ?_)
    refine pt_d (pt_lald (N' := 60) gx324_177 S tl_145 z6 (fun v8 p8 q8 h8 => ?_))
    have H := H p8 q8
    refine pt_d (pt_last (N' := 360) gx324_178 S tl_144 h6 h8 (fun h_9 S9 p9 q9 e9 => ?_))
    have H := H p9 q9
    refine pt_d (pt_iinc (c := 1) gx324_179 rfl z6 (fun v10 h10 => ?_))
    show Pt _ _ _ _ [some (.ref 72), some (.int x1), some (.int x2), some (.int x3), some (.int x4), some (.int x5), some (.int v10)] [] _ _
    refine pt_d (pt_1 (fun n d => r_goto gx324_182) ?_)
    have H := H h_9 S9 (by rw [e9])
    exact H v10 h10
theorem d193_0 {n : Nat} {X : aX} {h : aH} {P : Int → aH → Prop} {x1 x2 : Int32} {a1 a2 : Int} (S : wS h) (hX : X 0 = some (8, zab)) (z1 : x1.toInt = a1) (z2 : x2.toInt = a2) (H : ((¬ (0 ≤ a1 ∧ a1 ≤ 5) → P (-1) h) ∧ ((0 ≤ a1 ∧ a1 ≤ 5) → (((0 ≤ a2 ∧ a2 ≤ 7) → (0 ≤ a1 → a1 < 6 → ((vw h 69 a1 ≠ (-1) → ((vw h 69 a1 = 5 → (0 ≤ vw h 70 a1 → vw h 70 a1 < 150 → ((0 ≤ (vw h 2 (vw h 70 a1)) ∧ (vw h 2 (vw h 70 a1)) ≤ 7) ∧ ((¬ (uF (vw h 2 (vw h 70 a1)) a2) → P (-12) h) ∧ ((uF (vw h 2 (vw h 70 a1)) a2) → P (vw h 2 (vw h 70 a1)) h))))) ∧ (vw h 69 a1 ≠ 5 → P (-12) h))) ∧ (vw h 69 a1 = (-1) → P (-11) h)))) ∧ (¬ (0 ≤ a2 ∧ a2 ≤ 7) → P (-1) h))))) : Pt (n + 1) X zM193 0 [some (.ref 0), some (.int x1), some (.int x2), none, none] [] h (qI P) := by
  refine pt_1 (fun n d => r_iloadn gx193_0 rfl) ?_
  refine pt_d (pt_stat (as := [.int x1]) (r := []) gx193_1 rfl (show zmt[142]? = some zM142 from rfl) rfl rfl rfl rfl (c_142 S z1) (kqP (fun v1 h1 => ?_)))
  show Pt _ _ _ 4 _ [.int v1] _ _
  refine pt_d (pt_ifB_eq gx193_4 h1 (fun e2 => ?_) (fun e2 => ?_))
  · have H := H.1 e2
    refine pt_d (pt_iconst gx193_17 (fun v3 h3 => ?_))
    exact pt_d (pt_iret gx193_18 ⟨_, rfl, by rw [h3]; exact H⟩)
  · have H := H.2 e2
    refine pt_d (pt_1 (fun n d => r_iloadn gx193_7 rfl) ?_)
    refine pt_d (pt_iconst gx193_8 (fun v4 h4 => ?_))
    refine pt_d (pt_bipush gx193_9 (fun v5 h5 => ?_))
    refine pt_d (pt_stat (as := [.int x2, .int v4, .int v5]) (r := []) gx193_11 rfl (show zmt[137]? = some zM137 from rfl) rfl rfl rfl rfl (c_137 S z2 h4 h5) (kqP (fun v6 h6 => ?_)))
    show Pt _ _ _ 14 _ [.int v6] _ _
    refine pt_d (pt_ifB_ne gx193_14 h6 (fun e7 => ?_) (fun e7 => ?_))
    · have H := H.1 e7
      refine pt_d (pt_1 (fun n d => r_aloadn gx193_19 rfl) ?_)
      refine pt_d (pt_getR gx193_20 S tr_0_9 ?_)
      refine pt_d (pt_getR gx193_23 S tr_68_0 ?_)
      refine pt_d (pt_1 (fun n d => r_iloadn gx193_26 rfl) ?_)
      refine pt_d (pt_iald (N' := 6) gx193_27 S tl_69 z1 (fun v10 p10 q10 h10 => ?_))
      have H := H p10 q10
      refine pt_d (pt_1 (fun n d => r_istoren (L' := [some (.ref 0), some (.int x1), some (.int x2), some (.int v10), none]) gx193_28 rfl rfl) ?_)
      refine pt_d (pt_1 (fun n d => r_iloadn gx193_29 rfl) ?_)
      refine pt_d (pt_iconst gx193_30 (fun v11 h11 => ?_))
      refine pt_d (pt_icmp_ne gx193_31 h10 h11 (fun e12 => ?_) (fun e12 => ?_))
      · have H := H.1 e12
        refine pt_d (pt_1 (fun n d => r_iloadn gx193_37 rfl) ?_)
        refine pt_d (pt_iconst gx193_38 (fun v13 h13 => ?_))
        refine pt_d (pt_icmp_eq gx193_39 h10 h13 (fun e14 => ?_) (fun e14 => ?_))
        · have H := H.1 e14
          refine pt_d (pt_1 (fun n d => r_aloadn gx193_45 rfl) ?_)
          refine pt_d (pt_getR gx193_46 S tr_0_0 ?_)
          refine pt_d (pt_getR gx193_49 S tr_1_7 ?_)
          refine pt_d (pt_1 (fun n d => r_aloadn gx193_52 rfl) ?_)
          refine pt_d (pt_getR gx193_53 S tr_0_9 ?_)
          refine pt_d (pt_getR gx193_56 S tr_68_1 ?_)
          refine pt_d (pt_1 (fun n d => r_iloadn gx193_59 rfl) ?_)
          refine pt_d (pt_iald (N' := 6) gx193_60 S tl_70 z1 (fun v19 p19 q19 h19 => ?_))
          refine pt_d (pt_iald (N' := 150) gx193_61 S tl_2 h19 (fun v20 p20 q20 h20 => ?_))
          have H := H p20 q20
          refine pt_d (pt_1 (fun n d => r_istore (L' := [some (.ref 0), some (.int x1), some (.int x2), some (.int v10), some (.int v20)]) gx193_62 rfl rfl) ?_)
          refine pt_d (pt_1 (fun n d => r_iload gx193_64 rfl) ?_)
          refine pt_d (pt_1 (fun n d => r_iloadn gx193_66 rfl) ?_)
          obtain ⟨pr21, H⟩ := H
          refine pt_d (pt_stat (as := [.int v20, .int x2]) (r := []) gx193_67 rfl (show zmt[72]? = some zM72 from rfl) rfl rfl rfl rfl (c_72 S hX h20 z2 pr21) (kqP (fun v21 h21 => ?_)))
          show Pt _ _ _ 70 _ [.int v21] _ _
          refine pt_d (pt_ifB_eq gx193_70 h21 (fun e22 => ?_) (fun e22 => ?_))
          · have H := H.1 e22
            refine pt_d (pt_bipush gx193_78 (fun v23 h23 => ?_))
            exact pt_d (pt_iret gx193_80 ⟨_, rfl, by rw [h23]; exact H⟩)
          · have H := H.2 e22
            refine pt_d (pt_1 (fun n d => r_iload gx193_73 rfl) ?_)
            refine pt_d (pt_1 (fun n d => r_goto gx193_75) ?_)
            exact pt_d (pt_iret gx193_80 ⟨_, rfl, by rw [h20]; exact H⟩)
        · have H := H.2 e14
          refine pt_d (pt_bipush gx193_42 (fun v24 h24 => ?_))
          exact pt_d (pt_iret gx193_44 ⟨_, rfl, by rw [h24]; exact H⟩)
      · have H := H.2 e12
        refine pt_d (pt_bipush gx193_34 (fun v25 h25 => ?_))
        exact pt_d (pt_iret gx193_36 ⟨_, rfl, by rw [h25]; exact H⟩)
    · have H := H.2 e7
      refine pt_d (pt_iconst gx193_17 (fun v26 h26 => ?_))
      exact pt_d (pt_iret gx193_18 ⟨_, rfl, by rw [h26]; exact H⟩)
theorem d325_0 {n : Nat} {X : aX} {h : aH} {P : Int → aH → Prop} {x1 x2 : Int32} {a1 a2 : Int} (S : wS h) (z1 : x1.toInt = a1) (z2 : x2.toInt = a2) (H : ((¬ (0 ≤ a1 ∧ a1 ≤ 5) → P (-1) h) ∧ ((0 ≤ a1 ∧ a1 ≤ 5) → (((0 ≤ a2 ∧ a2 ≤ 7) → (0 ≤ a1 → a1 < 6 → ((vw h 142 a1 ≠ (-1) → ((vw h 142 a1 < 0 → P (-12) h) ∧ (0 ≤ vw h 142 a1 → (0 ≤ vw h 142 a1 → vw h 142 a1 < 150 → ((¬ (uF (vw h 73 (vw h 142 a1)) a2) → P (-12) h) ∧ ((uF (vw h 73 (vw h 142 a1)) a2) → P (vw h 73 (vw h 142 a1)) h)))))) ∧ (vw h 142 a1 = (-1) → P (-11) h)))) ∧ (¬ (0 ≤ a2 ∧ a2 ≤ 7) → P (-1) h))))) : Pt (n + 1) X zM325 0 [some (.ref 72), some (.int x1), some (.int x2)] [] h (qI P) := by
  refine pt_1 (fun n d => r_iloadn gx325_0 rfl) ?_
  refine pt_d (pt_stat (as := [.int x1]) (r := []) gx325_1 rfl (show zmt[318]? = some zM318 from rfl) rfl rfl rfl rfl (c_318 S z1) (kqP (fun v1 h1 => ?_)))
  show Pt _ _ _ 4 _ [.int v1] _ _
  refine pt_d (pt_ifB_eq gx325_4 h1 (fun e2 => ?_) (fun e2 => ?_))
  · have H := H.1 e2
    refine pt_d (pt_iconst gx325_17 (fun v3 h3 => ?_))
    exact pt_d (pt_iret gx325_18 ⟨_, rfl, by rw [h3]; exact H⟩)
  · have H := H.2 e2
    refine pt_d (pt_1 (fun n d => r_iloadn gx325_7 rfl) ?_)
    refine pt_d (pt_iconst gx325_8 (fun v4 h4 => ?_))
    refine pt_d (pt_bipush gx325_9 (fun v5 h5 => ?_))
    refine pt_d (pt_stat (as := [.int x2, .int v4, .int v5]) (r := []) gx325_11 rfl (show zmt[196]? = some zM196 from rfl) rfl rfl rfl rfl (c_196 S z2 h4 h5) (kqP (fun v6 h6 => ?_)))
    show Pt _ _ _ 14 _ [.int v6] _ _
    refine pt_d (pt_ifB_ne gx325_14 h6 (fun e7 => ?_) (fun e7 => ?_))
    · have H := H.1 e7
      refine pt_d (pt_1 (fun n d => r_aloadn gx325_19 rfl) ?_)
      refine pt_d (pt_getR gx325_20 S tr_72_97 ?_)
      refine pt_d (pt_1 (fun n d => r_iloadn gx325_23 rfl) ?_)
      refine pt_d (pt_iald (N' := 6) gx325_24 S tl_142 z1 (fun v9 p9 q9 h9 => ?_))
      have H := H p9 q9
      refine pt_d (pt_iconst gx325_25 (fun v10 h10 => ?_))
      refine pt_d (pt_icmp_ne gx325_26 h9 h10 (fun e11 => ?_) (fun e11 => ?_))
      · have H := H.1 e11
        refine pt_d (pt_1 (fun n d => r_aloadn gx325_32 rfl) ?_)
        refine pt_d (pt_getR gx325_33 S tr_72_97 ?_)
        refine pt_d (pt_1 (fun n d => r_iloadn gx325_36 rfl) ?_)
        refine pt_d (pt_iald (N' := 6) gx325_37 S tl_142 z1 (fun v13 p13 q13 h13 => ?_))
        refine pt_d (pt_if_lt gx325_38 h13 (fun e14 => ?_) (fun e14 => ?_))
        · have H := H.1 e14
          refine pt_d (pt_bipush gx325_73 (fun v15 h15 => ?_))
          exact pt_d (pt_iret gx325_75 ⟨_, rfl, by rw [h15]; exact H⟩)
        · have H := H.2 e14
          refine pt_d (pt_1 (fun n d => r_aloadn gx325_41 rfl) ?_)
          refine pt_d (pt_getR gx325_42 S tr_72_3 ?_)
          refine pt_d (pt_1 (fun n d => r_aloadn gx325_45 rfl) ?_)
          refine pt_d (pt_getR gx325_46 S tr_72_97 ?_)
          refine pt_d (pt_1 (fun n d => r_iloadn gx325_49 rfl) ?_)
          refine pt_d (pt_iald (N' := 6) gx325_50 S tl_142 z1 (fun v18 p18 q18 h18 => ?_))
          refine pt_d (pt_iald (N' := 150) gx325_51 S tl_73 h18 (fun v19 p19 q19 h19 => ?_))
          have H := H p19 q19
          refine pt_d (pt_1 (fun n d => r_iloadn gx325_52 rfl) ?_)
          refine pt_d (pt_stat (as := [.int v19, .int x2]) (r := []) gx325_53 rfl (show zmt[201]? = some zM201 from rfl) rfl rfl rfl rfl (c_201 S h19 z2) (kqP (fun v20 h20 => ?_)))
          show Pt _ _ _ 56 _ [.int v20] _ _
          refine pt_d (pt_ifB_eq gx325_56 h20 (fun e21 => ?_) (fun e21 => ?_))
          · have H := H.1 e21
            refine pt_d (pt_bipush gx325_73 (fun v22 h22 => ?_))
            exact pt_d (pt_iret gx325_75 ⟨_, rfl, by rw [h22]; exact H⟩)
          · have H := H.2 e21
            refine pt_d (pt_1 (fun n d => r_aloadn gx325_59 rfl) ?_)
            refine pt_d (pt_getR gx325_60 S tr_72_3 ?_)
            refine pt_d (pt_1 (fun n d => r_aloadn gx325_63 rfl) ?_)
            refine pt_d (pt_getR gx325_64 S tr_72_97 ?_)
            refine pt_d (pt_1 (fun n d => r_iloadn gx325_67 rfl) ?_)
            refine pt_d (pt_iald (N' := 6) gx325_68 S tl_142 z1 (fun v25 p25 q25 h25 => ?_))
            refine pt_d (pt_iald (N' := 150) gx325_69 S tl_73 h25 (fun v26 p26 q26 h26 => ?_))
            refine pt_d (pt_1 (fun n d => r_goto gx325_70) ?_)
            exact pt_d (pt_iret gx325_75 ⟨_, rfl, by rw [h26]; exact H⟩)
      · have H := H.2 e11
        refine pt_d (pt_bipush gx325_29 (fun v27 h27 => ?_))
        exact pt_d (pt_iret gx325_31 ⟨_, rfl, by rw [h27]; exact H⟩)
    · have H := H.2 e7
      refine pt_d (pt_iconst gx325_17 (fun v28 h28 => ?_))
      exact pt_d (pt_iret gx325_18 ⟨_, rfl, by rw [h28]; exact H⟩)
def R188 (V : vS) (s b r : Int) (V' : vS) : Prop := (¬ ((0 ≤ s ∧ s ≤ 5) ∧ (b = -1 ∨ cBody V b)) ∧ r = -1 ∧ V' = V) ∨ ((0 ≤ s ∧ s ≤ 5) ∧ b = -1 ∧ r = 1 ∧ V' = up (up V 69 s (-1)) 70 s 0) ∨ ((0 ≤ s ∧ s ≤ 5) ∧ b ≠ -1 ∧ cBody V b ∧ r = 1 ∧ V' = up (up V 69 s 5) 70 s b)
theorem c_188 {n : Nat} {X : aX} {h : aH} {x1 x2 : Int32} {a1 a2 : Int} (S : wS h) (z1 : x1.toInt = a1) (z2 : x2.toInt = a2) : Pt n X zM188 0 [some (.ref 0), some (.int x1), some (.int x2)] [] h (qI (fun y h' => R188 (vw h) a1 a2 y (vw h'))) := by
  refine pt_d (d188_0 S z1 z2 ⟨fun e => Or.inl ⟨fun z => e z.1, rfl, rfl⟩, fun e => ⟨fun e2 => ⟨fun e3 => absurd e2 e3, fun _ y g p => Or.inr (Or.inl ⟨e, e2, p.2.1, p.2.2⟩)⟩, fun e2 => ⟨fun e4 => ⟨fun e3 y g p => Or.inr (Or.inr ⟨e, e2, e4, p.2.1, p.2.2⟩), fun e3 => absurd e3 e2⟩, fun e4 => Or.inl ⟨fun z => z.2.elim e2 e4, rfl, rfl⟩⟩⟩⟩)
def R319 (V : vS) (s b r : Int) (V' : vS) : Prop := (¬ ((0 ≤ s ∧ s ≤ 5) ∧ (b = -1 ∨ mBody V b)) ∧ r = -1 ∧ V' = V) ∨ ((0 ≤ s ∧ s ≤ 5) ∧ (b = -1 ∨ mBody V b) ∧ r = 1 ∧ V' = up V 142 s b)
theorem c_319 {n : Nat} {X : aX} {h : aH} {x1 x2 : Int32} {a1 a2 : Int} (S : wS h) (z1 : x1.toInt = a1) (z2 : x2.toInt = a2) : Pt n X zM319 0 [some (.ref 72), some (.int x1), some (.int x2)] [] h (qI (fun y h' => R319 (vw h) a1 a2 y (vw h'))) := by
  refine pt_d (d319_0 S z1 z2 ⟨fun e => Or.inl ⟨fun z => e z.1, rfl, rfl⟩, fun e => ⟨fun e2 p q g S2 eg => Or.inr ⟨e, Or.inl e2, rfl, eg⟩, fun e2 => ⟨fun e4 p q g S2 eg => Or.inr ⟨e, Or.inr e4, rfl, eg⟩, fun e4 => Or.inl ⟨fun z => z.2.elim e2 e4, rfl, rfl⟩⟩⟩⟩)
def okRow (s t m : Int) : Prop := (0 ≤ s ∧ s ≤ 5) ∧ (0 ≤ t ∧ t ≤ 4) ∧ m ≤ 60
def R189 (V : vS) (s t m r : Int) (V' : vS) : Prop := (¬ okRow s t m ∧ r = -1 ∧ V' = V) ∨ (okRow s t m ∧ m < 0 ∧ r = -14 ∧ V' = V) ∨ (okRow s t m ∧ 0 ≤ m ∧ r = 1 ∧ V' = fillV (up (up V 69 s t) 70 s m) 71 (60 * s) (60 * s + m) 0)
theorem c_189 {n : Nat} {X : aX} {h : aH} {x1 x2 x3 : Int32} {a1 a2 a3 : Int} (S : wS h) (z1 : x1.toInt = a1) (z2 : x2.toInt = a2) (z3 : x3.toInt = a3) : Pt n X zM189 0 [some (.ref 0), some (.int x1), some (.int x2), some (.int x3)] [] h (qI (fun y h' => R189 (vw h) a1 a2 a3 y (vw h'))) := by
  refine pt_d (d189_0 S z1 z2 z3 ⟨fun e => Or.inl ⟨fun z => e z.1, rfl, rfl⟩, fun e => ⟨fun e2 => Or.inl ⟨fun z => e2 z.2.1, rfl, rfl⟩, fun e2 => ⟨fun e3 => ⟨fun e4 => ⟨⟨e4, e3⟩, fun y g p => Or.inr (Or.inr ⟨⟨e, e2, e3⟩, e4, p.2.1, p.2.2⟩)⟩, fun e4 => Or.inr (Or.inl ⟨⟨e, e2, e3⟩, e4, rfl, rfl⟩)⟩, fun e3 => Or.inl ⟨fun z => absurd z.2.2 (by omega), rfl, rfl⟩⟩⟩⟩)
def R320 (V : vS) (s t m r : Int) (V' : vS) : Prop := (¬ okRow s t m ∧ r = -1 ∧ V' = V) ∨ (okRow s t m ∧ m < 0 ∧ r = -14 ∧ V' = V) ∨ (okRow s t m ∧ 0 ≤ m ∧ r = 1 ∧ V' = fillV (up (up V 142 s (-2 - t)) 143 s m) 144 (60 * s) (60 * s + 60) 0)
theorem l_320 {X : aX} {V : vS} {s : Int} (h0 : 0 ≤ s) (h1 : s ≤ 5) : ∀ (n : Nat) (h : aH) (x1 x2 x3 x4 : Int32), wS h → x1.toInt = s → 60 * s ≤ x4.toInt → x4.toInt ≤ 60 * s + 60 → vw h = fillV V 144 (60 * s) x4.toInt 0 → Pt n X zM320 54 [some (.ref 72), some (.int x1), some (.int x2), some (.int x3), some (.int x4)] [] h (qI (fun y h' => y = 1 ∧ vw h' = fillV V 144 (60 * s) (60 * s + 60) 0)) := by
  intro n
  induction n with
  | zero => exact fun _ _ _ _ _ _ _ _ _ _ => pt_z
  | succ n ih =>
    intro h x1 x2 x3 x4 S g1 g2 g3 e
    have ew : w32 (w32 (60 * s) + 60) = 60 * s + 60 := by unfold w32; omega
    refine d320_54 S g1 rfl rfl rfl ⟨fun e2 => ⟨rfl, ?_⟩, fun e2 p q g S2 eg w4 g4 => ?_⟩
    · rw [ew] at e2
      rw [e, show x4.toInt = 60 * s + 60 by omega]
    · rw [ew] at e2
      have g4 := w_1 g4 (by omega) (by omega)
      refine ih g x1 x2 x3 w4 S2 g1 (by omega) (by omega) ?_
      rw [eg, e, g4]
      exact fillV_s g2
theorem c_320 {n : Nat} {X : aX} {h : aH} {x1 x2 x3 : Int32} {a1 a2 a3 : Int} (S : wS h) (z1 : x1.toInt = a1) (z2 : x2.toInt = a2) (z3 : x3.toInt = a3) : Pt n X zM320 0 [some (.ref 72), some (.int x1), some (.int x2), some (.int x3), none] [] h (qI (fun y h' => R320 (vw h) a1 a2 a3 y (vw h'))) := by
  refine pt_d (d320_0 S z1 z2 z3 ⟨fun e => Or.inl ⟨fun z => e z.1, rfl, rfl⟩, fun e => ⟨fun e2 => Or.inl ⟨fun z => e2 z.2.1, rfl, rfl⟩, fun e2 => ⟨fun e3 => ⟨fun e4 p q g S2 eg w4 g4 => ?_, fun e4 => Or.inr (Or.inl ⟨⟨e, e2, e3⟩, e4, rfl, rfl⟩)⟩, fun e3 => Or.inl ⟨fun z => absurd z.2.2 (by omega), rfl, rfl⟩⟩⟩⟩)
  have g4 : w4.toInt = 60 * a1 := by rw [g4]; unfold w32; omega
  refine pt_q (l_320 (V := vw g) e.1 e.2 n g x1 x2 x3 w4 S2 z1 (by omega) (by omega) (by rw [g4, fillV_0])) ?_
  rintro v h' ⟨x, rfl, r1, r2⟩
  refine ⟨x, rfl, Or.inr (Or.inr ⟨⟨e, e2, e3⟩, e4, r1, ?_⟩)⟩
  rw [r2, eg, show w32 (-2 - a2) = -2 - a2 from w32_id (by omega) (by omega)]
def R190 (V : vS) (s i v r : Int) (V' : vS) : Prop := (¬ (0 ≤ s ∧ s ≤ 5) ∧ r = -1 ∧ V' = V) ∨ ((0 ≤ s ∧ s ≤ 5) ∧ R112 V s i v r V')
theorem c_190 {n : Nat} {X : aX} {h : aH} {x1 x2 : Int32} {x3 : Int64} {a1 a2 a3 : Int} (S : wS h) (z1 : x1.toInt = a1) (z2 : x2.toInt = a2) (z3 : x3.toInt = a3) (hb : ∀ j, 0 ≤ j → j < 6 → vw h 70 j ≤ 149) : Pt n X zM190 0 [some (.ref 0), some (.int x1), some (.int x2), some (.long x3), none] [] h (qI (fun y h' => R190 (vw h) a1 a2 a3 y (vw h'))) := by
  refine pt_d (d190_0 S z1 z2 z3 ⟨fun e => Or.inl ⟨e, rfl, rfl⟩, fun e => ⟨hb _ e.1 (by omega), fun y g p => Or.inr ⟨e, p.2⟩⟩⟩)
theorem mWhy_0 {V : vS} {s i : Int} (h : 0 ≤ mWhy V s i) : (0 ≤ s ∧ s ≤ 5) ∧ V 142 s ≠ -1 ∧ V 142 s < 0 ∧ 0 ≤ i ∧ i ≤ w32 (V 143 s - 1) := by
  unfold mWhy at h
  split at h
  · split at h
    · omega
    · split at h
      · omega
      · split at h
        · refine ⟨by assumption, by assumption, by omega, by omega, by omega⟩
        · omega
  · omega
def R322 (V : vS) (s i v r : Int) (V' : vS) : Prop := (mWhy V s i < 0 ∧ r = mWhy V s i ∧ V' = V) ∨ (0 ≤ mWhy V s i ∧ r = 1 ∧ V' = up V 144 (60 * s + i) (cLow (w32 (-2 - V 142 s)) v))
theorem c_322 {n : Nat} {X : aX} {h : aH} {x1 x2 : Int32} {x3 : Int64} {a1 a2 a3 : Int} (S : wS h) (z1 : x1.toInt = a1) (z2 : x2.toInt = a2) (z3 : x3.toInt = a3) (hb : ∀ j, 0 ≤ j → j < 6 → 0 ≤ vw h 143 j ∧ vw h 143 j ≤ 60) : Pt n X zM322 0 [some (.ref 72), some (.int x1), some (.int x2), some (.long x3), none, none, none] [] h (qI (fun y h' => R322 (vw h) a1 a2 a3 y (vw h'))) := by
  refine pt_d (d322_0 S z1 z2 z3 ⟨fun e p q => ?_, fun e => Or.inl ⟨e, rfl, rfl⟩⟩)
  obtain ⟨w1, w2, w3, w4, w5⟩ := mWhy_0 e
  have := hb a1 p q
  rw [w32_id (by omega) (by omega)] at w5
  have ix : w32 (w32 (60 * a1) + a2) = 60 * a1 + a2 := by unfold w32; omega
  rw [ix]
  have fin : ∀ (g : aH) (y : Int), vw g = up (vw h) 144 (60 * a1 + a2) y → y = cLow (w32 (-2 - vw h 142 a1)) a3 → R322 (vw h) a1 a2 a3 1 (vw g) := fun g y eg ey => Or.inr ⟨e, rfl, by rw [eg, ey]⟩
  refine ⟨fun e1 => ⟨fun e2 => ⟨fun e3 => ⟨fun e4 => ⟨fun e5 p1 q1 g S2 eg => fin g _ eg ?_, fun e5 p1 q1 g S2 eg => fin g _ eg ?_⟩, fun e4 p1 q1 g S2 eg => fin g _ eg ?_⟩, fun e3 p1 q1 g S2 eg => fin g _ eg ?_⟩, fun e2 p1 q1 g S2 eg => fin g _ eg ?_⟩, fun e1 p1 q1 g S2 eg => fin g _ eg ?_⟩
  · unfold cLow; rw [if_neg e1, if_neg e2, if_neg e3, if_neg e4, if_pos e5]
  · unfold cLow; rw [if_neg e1, if_neg e2, if_neg e3, if_neg e4, if_neg e5]
  · unfold cLow; rw [if_neg e1, if_neg e2, if_neg e3, if_pos e4]
  · unfold cLow; rw [if_neg e1, if_neg e2, if_pos e3]
  · unfold cLow; rw [if_neg e1, if_pos e2]
  · unfold cLow; rw [if_pos e1]
def R192 (V : vS) (s i o j m r : Int) (V' : vS) : Prop := (¬ ((0 ≤ s ∧ s ≤ 5) ∧ 0 ≤ o ∧ o ≤ 5) ∧ r = -1 ∧ V' = V) ∨ (((0 ≤ s ∧ s ≤ 5) ∧ 0 ≤ o ∧ o ≤ 5) ∧ R115 V s i o j m r V')
theorem c_192 {n : Nat} {X : aX} {h : aH} {x1 x2 x3 x4 x5 : Int32} {a1 a2 a3 a4 a5 : Int} (S : wS h) (z1 : x1.toInt = a1) (z2 : x2.toInt = a2) (z3 : x3.toInt = a3) (z4 : x4.toInt = a4) (z5 : x5.toInt = a5) (hb : ∀ j, 0 ≤ j → j < 6 → 0 ≤ vw h 70 j ∧ vw h 70 j ≤ 149) : Pt n X zM192 0 [some (.ref 0), some (.int x1), some (.int x2), some (.int x3), some (.int x4), some (.int x5)] [] h (qI (fun y h' => R192 (vw h) a1 a2 a3 a4 a5 y (vw h'))) := by
  refine pt_d (d192_0 S z1 z2 z3 z4 z5 ⟨fun e => Or.inl ⟨fun z => e z.1, rfl, rfl⟩, fun e => ⟨fun e2 => Or.inl ⟨fun z => e2 z.2, rfl, rfl⟩, fun e2 => ⟨⟨hb _ e.1 (by omega), hb _ e2.1 (by omega)⟩, fun y g p => Or.inr ⟨⟨e, e2⟩, p.2⟩⟩⟩⟩)
def R324 (V : vS) (s i o j m r : Int) (V' : vS) : Prop := (¬ ((0 ≤ s ∧ s ≤ 5) ∧ 0 ≤ o ∧ o ≤ 5) ∧ r = -1 ∧ V' = V) ∨ (((0 ≤ s ∧ s ≤ 5) ∧ 0 ≤ o ∧ o ≤ 5) ∧ (((V 142 s = -1 ∨ V 142 o = -1) ∧ r = -11 ∧ V' = V) ∨ (¬ (V 142 s = -1 ∨ V 142 o = -1) ∧ (((0 ≤ V 142 s ∨ V 142 s ≠ V 142 o) ∧ r = -12 ∧ V' = V) ∨ (¬ (0 ≤ V 142 s ∨ V 142 s ≠ V 142 o) ∧ (((m < 0 ∨ i < 0 ∨ j < 0 ∨ V 143 s - m < i ∨ V 143 o - m < j) ∧ r = -13 ∧ V' = V) ∨ (¬ (m < 0 ∨ i < 0 ∨ j < 0 ∨ V 143 s - m < i ∨ V 143 o - m < j) ∧ r = m ∧ ∀ c j', c ≠ 145 → V' c j' = cpy V 144 (60 * s + i) 144 (60 * o + j) m c j')))))))
theorem l_324 {X : aX} {V : vS} {s i o j m : Int} (hs : 0 ≤ s ∧ s ≤ 5) (ho : 0 ≤ o ∧ o ≤ 5) (hi : 0 ≤ i) (hj : 0 ≤ j) (hm : 0 ≤ m) (him : i + m ≤ 60) (hjm : j + m ≤ 60) : ∀ n : Nat, (∀ (h : aH) (x1 x2 x3 x4 x5 x6 : Int32), wS h → x1.toInt = s → x2.toInt = i → x3.toInt = o → x4.toInt = j → x5.toInt = m → 0 ≤ x6.toInt → x6.toInt ≤ m → (∀ c k, c ≠ 145 → vw h c k = V c k) → (∀ k, 0 ≤ k → k < x6.toInt → vw h 145 k = V 144 (60 * s + i + k)) → Pt n X zM324 113 [some (.ref 72), some (.int x1), some (.int x2), some (.int x3), some (.int x4), some (.int x5), some (.int x6)] [] h (qI (fun y h' => y = m ∧ ∀ c j', c ≠ 145 → vw h' c j' = cpy V 144 (60 * s + i) 144 (60 * o + j) m c j'))) ∧ (∀ (h : aH) (x1 x2 x3 x4 x5 x6 : Int32), wS h → x1.toInt = s → x2.toInt = i → x3.toInt = o → x4.toInt = j → x5.toInt = m → 0 ≤ x6.toInt → x6.toInt ≤ m → (∀ c k, c ≠ 145 → vw h c k = cpy V 144 (60 * s + i) 144 (60 * o + j) x6.toInt c k) → (∀ k, 0 ≤ k → k < m → vw h 145 k = V 144 (60 * s + i + k)) → Pt n X zM324 150 [some (.ref 72), some (.int x1), some (.int x2), some (.int x3), some (.int x4), some (.int x5), some (.int x6)] [] h (qI (fun y h' => y = m ∧ ∀ c j', c ≠ 145 → vw h' c j' = cpy V 144 (60 * s + i) 144 (60 * o + j) m c j'))) := by
  intro n
  induction n with
  | zero => exact ⟨fun _ _ _ _ _ _ _ _ _ _ _ _ _ _ _ _ _ => pt_z, fun _ _ _ _ _ _ _ _ _ _ _ _ _ _ _ _ _ => pt_z⟩
  | succ n ih =>
    obtain ⟨ih1, ih2⟩ := ih
    constructor
    · intro h x1 x2 x3 x4 x5 x6 S g1 g2 g3 g4 g5 p q F K
      refine d324_113 S g1 g2 g3 g4 g5 rfl ⟨fun e w6 g6 => ih2 h x1 x2 x3 x4 x5 w6 S g1 g2 g3 g4 g5 (by omega) (by omega) (fun c k hc => ?_) (fun k k0 k1 => K k k0 (by omega)), fun e p1 q1 p2 q2 g S2 eg w6 g6 => ?_⟩
      · rw [F c k hc]
        unfold cpy
        rw [if_neg (fun z => by omega)]
      · have g6 := w_1 g6 (by omega) (by omega)
        refine ih1 g x1 x2 x3 x4 x5 w6 S2 g1 g2 g3 g4 g5 (by omega) (by omega) (fun c k hc => by rw [eg, up_c hc]; exact F c k hc) (fun k k0 k1 => ?_)
        rw [eg, up_p]
        by_cases z : k = x6.toInt
        · rw [if_pos z, F 144 _ (by decide), z]
          congr 1
          unfold w32; omega
        · rw [if_neg z]; exact K k k0 (by omega)
    · intro h x1 x2 x3 x4 x5 x6 S g1 g2 g3 g4 g5 p q F K
      refine d324_150 S g1 g2 g3 g4 g5 rfl ⟨fun e => ⟨rfl, fun c k hc => ?_⟩, fun e p1 q1 p2 q2 g S2 eg w6 g6 => ?_⟩
      · rw [F c k hc, show x6.toInt = m by omega]
      · have g6 := w_1 g6 (by omega) (by omega)
        have ix : w32 (w32 (w32 (60 * o) + j) + x6.toInt) = 60 * o + j + x6.toInt := by unfold w32; omega
        rw [ix, K _ p e] at eg
        refine ih2 g x1 x2 x3 x4 x5 w6 S2 g1 g2 g3 g4 g5 (by omega) (by omega) (fun c k hc => ?_) (fun k k0 k1 => by rw [eg, up_c (by decide)]; exact K k k0 k1)
        rw [eg, g6]
        unfold up
        by_cases z : c = 144 ∧ k = 60 * o + j + x6.toInt
        · rw [if_pos z]
          unfold cpy
          rw [if_pos ⟨z.1, by omega, by omega⟩, z.2]
          congr 1
          omega
        · rw [if_neg z, F c k hc]
          unfold cpy
          by_cases z2 : c = 144 ∧ 60 * o + j ≤ k ∧ k < 60 * o + j + x6.toInt
          · rw [if_pos z2, if_pos ⟨z2.1, z2.2.1, by omega⟩]
          · rw [if_neg z2, if_neg (fun y => by omega)]
theorem c_324 {n : Nat} {X : aX} {h : aH} {x1 x2 x3 x4 x5 : Int32} {a1 a2 a3 a4 a5 : Int} (S : wS h) (z1 : x1.toInt = a1) (z2 : x2.toInt = a2) (z3 : x3.toInt = a3) (z4 : x4.toInt = a4) (z5 : x5.toInt = a5) (hb : ∀ j, 0 ≤ j → j < 6 → 0 ≤ vw h 143 j ∧ vw h 143 j ≤ 60) : Pt n X zM324 0 [some (.ref 72), some (.int x1), some (.int x2), some (.int x3), some (.int x4), some (.int x5), none] [] h (qI (fun y h' => R324 (vw h) a1 a2 a3 a4 a5 y (vw h'))) := by
  have r5 := iR x5
  have ew : ∀ a : Int, 0 ≤ a ∧ a ≤ 60 → 0 ≤ a5 → w32 (a - a5) = a - a5 := fun a p r => w32_id (by omega) (by omega)
  refine pt_d (d324_0 S z1 z2 z3 z4 z5 ⟨fun e => Or.inl ⟨fun z => e z.1, rfl, rfl⟩, fun e => ⟨fun e2 p q => ⟨fun e3 => Or.inr ⟨⟨e, e2⟩, Or.inl ⟨Or.inl e3, rfl, rfl⟩⟩, fun e3 p3 q3 => ⟨fun e4 => ?_, fun e4 => Or.inr ⟨⟨e, e2⟩, Or.inl ⟨Or.inr e4, rfl, rfl⟩⟩⟩⟩, fun e2 => Or.inl ⟨fun z => e2 z.2, rfl, rfl⟩⟩⟩)
  have n1 : ¬ (vw h 142 a1 = -1 ∨ vw h 142 a3 = -1) := by omega
  refine ⟨fun e5 => Or.inr ⟨⟨e, e2⟩, Or.inr ⟨n1, Or.inl ⟨Or.inl e5, rfl, rfl⟩⟩⟩, fun e5 => ⟨fun e6 => ?_, fun e6 => Or.inr ⟨⟨e, e2⟩, Or.inr ⟨n1, Or.inl ⟨Or.inr e6, rfl, rfl⟩⟩⟩⟩⟩
  have n2 : ¬ (0 ≤ vw h 142 a1 ∨ vw h 142 a1 ≠ vw h 142 a3) := by omega
  have bad : (a5 < 0 ∨ a2 < 0 ∨ a4 < 0 ∨ vw h 143 a1 - a5 < a2 ∨ vw h 143 a3 - a5 < a4) → R324 (vw h) a1 a2 a3 a4 a5 (-13) (vw h) := fun z => Or.inr ⟨⟨e, e2⟩, Or.inr ⟨n1, Or.inr ⟨n2, Or.inl ⟨z, rfl, rfl⟩⟩⟩⟩
  have b1 := hb a1 p q
  have b3 := hb a3 p3 q3
  refine ⟨fun e7 => bad (by omega), fun e7 => ⟨fun e8 => bad (by omega), fun e8 => ⟨fun e9 => bad (by omega), fun e9 => ⟨fun f0 => bad ?_, fun f0 => ⟨fun f1 w6 g6 => ?_, fun f1 => bad ?_⟩⟩⟩⟩⟩
  · rw [ew _ b1 e7] at f0; omega
  · rw [ew _ b1 e7] at f0
    rw [ew _ b3 e7] at f1
    refine pt_q ((l_324 (V := vw h) e e2 e8 e9 e7 (by omega) (by omega) n).1 h x1 x2 x3 x4 x5 w6 S z1 z2 z3 z4 z5 (by omega) (by omega) (fun _ _ _ => rfl) (fun k k0 k1 => by omega)) ?_
    rintro v h' ⟨x, rfl, r1, r2⟩
    exact ⟨x, rfl, Or.inr ⟨⟨e, e2⟩, Or.inr ⟨n1, Or.inr ⟨n2, Or.inr ⟨by omega, r1, r2⟩⟩⟩⟩⟩
  · rw [ew _ b3 e7] at f1; omega
def R193 (V : vS) (s k r : Int) : Prop := (¬ ((0 ≤ s ∧ s ≤ 5) ∧ 0 ≤ k ∧ k ≤ 7) ∧ r = -1) ∨ (((0 ≤ s ∧ s ≤ 5) ∧ 0 ≤ k ∧ k ≤ 7) ∧ ((V 69 s = -1 ∧ r = -11) ∨ (V 69 s ≠ -1 ∧ ¬ (V 69 s = 5 ∧ uF (V 2 (V 70 s)) k) ∧ r = -12) ∨ (V 69 s = 5 ∧ uF (V 2 (V 70 s)) k ∧ r = V 2 (V 70 s))))
theorem c_193 {n : Nat} {X : aX} {h : aH} {x1 x2 : Int32} {a1 a2 : Int} (S : wS h) (hX : X 0 = some (8, zab)) (z1 : x1.toInt = a1) (z2 : x2.toInt = a2) (hk : ∀ j, 0 ≤ j → j < 150 → 0 ≤ vw h 2 j ∧ vw h 2 j ≤ 7) : Pt n X zM193 0 [some (.ref 0), some (.int x1), some (.int x2), none, none] [] h (qI (fun y h' => h' = h ∧ R193 (vw h) a1 a2 y)) := by
  refine pt_d (d193_0 S hX z1 z2 ⟨fun e => ⟨rfl, Or.inl ⟨fun z => e z.1, rfl⟩⟩, fun e => ⟨fun e2 p q => ⟨fun e3 => ⟨fun e4 p4 q4 => ⟨hk _ p4 q4, ⟨fun e5 => ⟨rfl, Or.inr ⟨⟨e, e2⟩, Or.inr (Or.inl ⟨e3, fun z => e5 z.2, rfl⟩)⟩⟩, fun e5 => ⟨rfl, Or.inr ⟨⟨e, e2⟩, Or.inr (Or.inr ⟨e4, e5, rfl⟩)⟩⟩⟩⟩, fun e4 => ⟨rfl, Or.inr ⟨⟨e, e2⟩, Or.inr (Or.inl ⟨e3, fun z => e4 z.1, rfl⟩)⟩⟩⟩, fun e3 => ⟨rfl, Or.inr ⟨⟨e, e2⟩, Or.inl ⟨e3, rfl⟩⟩⟩⟩, fun e2 => ⟨rfl, Or.inl ⟨fun z => e2 z.2, rfl⟩⟩⟩⟩)
def R325 (V : vS) (s k r : Int) : Prop := (¬ ((0 ≤ s ∧ s ≤ 5) ∧ 0 ≤ k ∧ k ≤ 7) ∧ r = -1) ∨ (((0 ≤ s ∧ s ≤ 5) ∧ 0 ≤ k ∧ k ≤ 7) ∧ ((V 142 s = -1 ∧ r = -11) ∨ (V 142 s ≠ -1 ∧ ¬ (0 ≤ V 142 s ∧ uF (V 73 (V 142 s)) k) ∧ r = -12) ∨ (0 ≤ V 142 s ∧ uF (V 73 (V 142 s)) k ∧ r = V 73 (V 142 s))))
theorem c_325 {n : Nat} {X : aX} {h : aH} {x1 x2 : Int32} {a1 a2 : Int} (S : wS h) (z1 : x1.toInt = a1) (z2 : x2.toInt = a2) : Pt n X zM325 0 [some (.ref 72), some (.int x1), some (.int x2)] [] h (qI (fun y h' => h' = h ∧ R325 (vw h) a1 a2 y)) := by
  refine pt_d (d325_0 S z1 z2 ⟨fun e => ⟨rfl, Or.inl ⟨fun z => e z.1, rfl⟩⟩, fun e => ⟨fun e2 p q => ⟨fun e3 => ⟨fun e4 => ⟨rfl, Or.inr ⟨⟨e, e2⟩, Or.inr (Or.inl ⟨e3, fun z => by omega, rfl⟩)⟩⟩, fun e4 p4 q4 => ⟨fun e5 => ⟨rfl, Or.inr ⟨⟨e, e2⟩, Or.inr (Or.inl ⟨e3, fun z => e5 z.2, rfl⟩)⟩⟩, fun e5 => ⟨rfl, Or.inr ⟨⟨e, e2⟩, Or.inr (Or.inr ⟨e4, e5, rfl⟩)⟩⟩⟩⟩, fun e3 => ⟨rfl, Or.inr ⟨⟨e, e2⟩, Or.inl ⟨e3, rfl⟩⟩⟩⟩, fun e2 => ⟨rfl, Or.inl ⟨fun z => e2 z.2, rfl⟩⟩⟩⟩)


-- ===== weak contracts =====
theorem tl_44 : tkL 44 0 8 = true := by decide +kernel
theorem tl_43 : tkL 43 0 13 = true := by decide +kernel
theorem tl_45 : tkL 45 0 6 = true := by decide +kernel
theorem tl_46 : tkL 46 0 1500 = true := by decide +kernel
theorem tl_47 : tkL 47 0 150 = true := by decide +kernel
theorem tl_50 : tkL 50 0 10 = true := by decide +kernel
theorem tl_51 : tkL 51 0 10 = true := by decide +kernel
theorem tl_49 : tkL 49 0 10 = true := by decide +kernel
theorem tl_53 : tkL 53 0 150 = true := by decide +kernel
theorem tl_54 : tkL 54 0 150 = true := by decide +kernel
theorem tl_52 : tkL 52 0 9 = true := by decide +kernel
theorem tl_125 : tkL 125 0 170 = true := by decide +kernel
theorem tl_124 : tkL 124 0 13 = true := by decide +kernel
theorem tl_126 : tkL 126 0 8 = true := by decide +kernel
theorem tl_127 : tkL 127 2 150 = true := by decide +kernel
theorem tl_128 : tkL 128 0 6 = true := by decide +kernel
theorem tl_129 : tkL 129 0 1500 = true := by decide +kernel
theorem tl_130 : tkL 130 1 150 = true := by decide +kernel
theorem tl_131 : tkL 131 1 150 = true := by decide +kernel
theorem tl_132 : tkL 132 0 10 = true := by decide +kernel
theorem tl_133 : tkL 133 0 10 = true := by decide +kernel
theorem tl_135 : tkL 135 2 150 = true := by decide +kernel
theorem tl_134 : tkL 134 0 9 = true := by decide +kernel
theorem tr_41_5 : tkR 41 5 44 = true := by decide +kernel
theorem tr_41_4 : tkR 41 4 43 = true := by decide +kernel
theorem tr_41_2 : tkR 41 2 33 = true := by decide +kernel
theorem tr_41_6 : tkR 41 6 45 = true := by decide +kernel
theorem tr_41_8 : tkR 41 8 46 = true := by decide +kernel
theorem tr_41_9 : tkR 41 9 47 = true := by decide +kernel
theorem tr_48_0 : tkR 48 0 1 = true := by decide +kernel
theorem tr_48_5 : tkR 48 5 50 = true := by decide +kernel
theorem tr_48_6 : tkR 48 6 51 = true := by decide +kernel
theorem tr_48_3 : tkR 48 3 49 = true := by decide +kernel
theorem tr_48_2 : tkR 48 2 41 = true := by decide +kernel
theorem tr_48_10 : tkR 48 10 53 = true := by decide +kernel
theorem tr_48_11 : tkR 48 11 54 = true := by decide +kernel
theorem tr_48_8 : tkR 48 8 52 = true := by decide +kernel
theorem tr_48_1 : tkR 48 1 16 = true := by decide +kernel
theorem tr_0_5 : tkR 0 5 48 = true := by decide +kernel
theorem tr_72_70 : tkR 72 70 125 = true := by decide +kernel
theorem tr_72_69 : tkR 72 69 124 = true := by decide +kernel
theorem tr_72_72 : tkR 72 72 126 = true := by decide +kernel
theorem tr_72_73 : tkR 72 73 127 = true := by decide +kernel
theorem tr_72_74 : tkR 72 74 128 = true := by decide +kernel
theorem tr_72_76 : tkR 72 76 129 = true := by decide +kernel
theorem tr_72_77 : tkR 72 77 130 = true := by decide +kernel
theorem tr_72_78 : tkR 72 78 131 = true := by decide +kernel
theorem tr_72_80 : tkR 72 80 132 = true := by decide +kernel
theorem tr_72_82 : tkR 72 82 133 = true := by decide +kernel
theorem tr_72_86 : tkR 72 86 135 = true := by decide +kernel
theorem tr_72_85 : tkR 72 85 134 = true := by decide +kernel
theorem gx3_0 : aF 0 zM3.2.2.2.2.2.2.2 = some (0, (.iconst 0), 1, 0, 0) := by decide +kernel
theorem gx3_1 : aF 1 zM3.2.2.2.2.2.2.2 = some (1, (.istore_n 3), 1, 0, 0) := by decide +kernel
theorem gx3_2 : aF 2 zM3.2.2.2.2.2.2.2 = some (2, (.aload_n 0), 1, 0, 0) := by decide +kernel
theorem gx3_3 : aF 3 zM3.2.2.2.2.2.2.2 = some (3, (.getfield 21), 3, 0, 5) := by decide +kernel
theorem gx3_6 : aF 6 zM3.2.2.2.2.2.2.2 = some (6, (.iconst 0), 1, 0, 0) := by decide +kernel
theorem gx3_7 : aF 7 zM3.2.2.2.2.2.2.2 = some (7, (.invokestatic 118), 3, 332, 0) := by decide +kernel
theorem gx3_10 : aF 10 zM3.2.2.2.2.2.2.2 = some (10, (.iconst 0), 1, 0, 0) := by decide +kernel
theorem gx3_11 : aF 11 zM3.2.2.2.2.2.2.2 = some (11, (.istore 4), 2, 0, 0) := by decide +kernel
theorem gx3_13 : aF 13 zM3.2.2.2.2.2.2.2 = some (13, (.iload 4), 2, 0, 0) := by decide +kernel
theorem gx3_15 : aF 15 zM3.2.2.2.2.2.2.2 = some (15, (.aload_n 1), 1, 0, 0) := by decide +kernel
theorem gx3_16 : aF 16 zM3.2.2.2.2.2.2.2 = some (16, (.getfield 124), 3, 8, 5) := by decide +kernel
theorem gx3_19 : aF 19 zM3.2.2.2.2.2.2.2 = some (19, (.if_icmp .ge 81), 3, 100, 0) := by decide +kernel
theorem gx3_100 : aF 100 zM3.2.2.2.2.2.2.2 = some (100, (.iload_n 3), 1, 0, 0) := by decide +kernel
theorem gx3_101 : aF 101 zM3.2.2.2.2.2.2.2 = some (101, .ireturn, 1, 0, 0) := by decide +kernel
theorem gx3_22 : aF 22 zM3.2.2.2.2.2.2.2 = some (22, (.aload_n 1), 1, 0, 0) := by decide +kernel
theorem gx3_23 : aF 23 zM3.2.2.2.2.2.2.2 = some (23, (.iload 4), 2, 0, 0) := by decide +kernel
theorem gx3_25 : aF 25 zM3.2.2.2.2.2.2.2 = some (25, (.invokevirtual 125), 3, 100, 0) := by decide +kernel
theorem gx3_28 : aF 28 zM3.2.2.2.2.2.2.2 = some (28, (.iload_n 2), 1, 0, 0) := by decide +kernel
theorem gx3_29 : aF 29 zM3.2.2.2.2.2.2.2 = some (29, (.if_icmp .ne 65), 3, 94, 0) := by decide +kernel
theorem gx3_94 : aF 94 zM3.2.2.2.2.2.2.2 = some (94, (.iinc 4 1), 3, 0, 0) := by decide +kernel
theorem gx3_97 : aF 97 zM3.2.2.2.2.2.2.2 = some (97, (.goto (-84)), 3, 13, 0) := by decide +kernel
theorem gx3_32 : aF 32 zM3.2.2.2.2.2.2.2 = some (32, (.aload_n 0), 1, 0, 0) := by decide +kernel
theorem gx3_33 : aF 33 zM3.2.2.2.2.2.2.2 = some (33, (.getfield 21), 3, 0, 5) := by decide +kernel
theorem gx3_36 : aF 36 zM3.2.2.2.2.2.2.2 = some (36, (.aload_n 0), 1, 0, 0) := by decide +kernel
theorem gx3_37 : aF 37 zM3.2.2.2.2.2.2.2 = some (37, (.getfield 37), 3, 0, 1) := by decide +kernel
theorem gx3_40 : aF 40 zM3.2.2.2.2.2.2.2 = some (40, (.getfield 128), 3, 2, 6) := by decide +kernel
theorem gx3_43 : aF 43 zM3.2.2.2.2.2.2.2 = some (43, (.aload_n 1), 1, 0, 0) := by decide +kernel
theorem gx3_44 : aF 44 zM3.2.2.2.2.2.2.2 = some (44, (.getfield 131), 3, 8, 6) := by decide +kernel
theorem gx3_47 : aF 47 zM3.2.2.2.2.2.2.2 = some (47, (.iload 4), 2, 0, 0) := by decide +kernel
theorem gx3_49 : aF 49 zM3.2.2.2.2.2.2.2 = some (49, .iaload, 1, 0, 0) := by decide +kernel
theorem gx3_50 : aF 50 zM3.2.2.2.2.2.2.2 = some (50, .iaload, 1, 0, 0) := by decide +kernel
theorem gx3_51 : aF 51 zM3.2.2.2.2.2.2.2 = some (51, .dup2, 1, 0, 0) := by decide +kernel
theorem gx3_52 : aF 52 zM3.2.2.2.2.2.2.2 = some (52, .iaload, 1, 0, 0) := by decide +kernel
theorem gx3_53 : aF 53 zM3.2.2.2.2.2.2.2 = some (53, (.aload_n 1), 1, 0, 0) := by decide +kernel
theorem gx3_54 : aF 54 zM3.2.2.2.2.2.2.2 = some (54, (.getfield 134), 3, 8, 7) := by decide +kernel
theorem gx3_57 : aF 57 zM3.2.2.2.2.2.2.2 = some (57, (.iload 4), 2, 0, 0) := by decide +kernel
theorem gx3_59 : aF 59 zM3.2.2.2.2.2.2.2 = some (59, .iaload, 1, 0, 0) := by decide +kernel
theorem gx3_60 : aF 60 zM3.2.2.2.2.2.2.2 = some (60, .iadd, 1, 0, 0) := by decide +kernel
theorem gx3_61 : aF 61 zM3.2.2.2.2.2.2.2 = some (61, .iastore, 1, 0, 0) := by decide +kernel
theorem gx3_62 : aF 62 zM3.2.2.2.2.2.2.2 = some (62, (.iload_n 3), 1, 0, 0) := by decide +kernel
theorem gx3_63 : aF 63 zM3.2.2.2.2.2.2.2 = some (63, (.aload_n 0), 1, 0, 0) := by decide +kernel
theorem gx3_64 : aF 64 zM3.2.2.2.2.2.2.2 = some (64, (.getfield 33), 3, 0, 0) := by decide +kernel
theorem gx3_67 : aF 67 zM3.2.2.2.2.2.2.2 = some (67, (.getfield 87), 3, 6, 7) := by decide +kernel
theorem gx3_70 : aF 70 zM3.2.2.2.2.2.2.2 = some (70, (.aload_n 1), 1, 0, 0) := by decide +kernel
theorem gx3_71 : aF 71 zM3.2.2.2.2.2.2.2 = some (71, (.iload 4), 2, 0, 0) := by decide +kernel
theorem gx3_73 : aF 73 zM3.2.2.2.2.2.2.2 = some (73, (.invokevirtual 137), 3, 101, 0) := by decide +kernel
theorem gx3_76 : aF 76 zM3.2.2.2.2.2.2.2 = some (76, .iaload, 1, 0, 0) := by decide +kernel
theorem gx3_77 : aF 77 zM3.2.2.2.2.2.2.2 = some (77, (.iconst 5), 1, 0, 0) := by decide +kernel
theorem gx3_78 : aF 78 zM3.2.2.2.2.2.2.2 = some (78, (.if_icmp .ne 13), 3, 91, 0) := by decide +kernel
theorem gx3_91 : aF 91 zM3.2.2.2.2.2.2.2 = some (91, (.iconst 0), 1, 0, 0) := by decide +kernel
theorem gx3_92 : aF 92 zM3.2.2.2.2.2.2.2 = some (92, .iadd, 1, 0, 0) := by decide +kernel
theorem gx3_93 : aF 93 zM3.2.2.2.2.2.2.2 = some (93, (.istore_n 3), 1, 0, 0) := by decide +kernel
theorem gx3_81 : aF 81 zM3.2.2.2.2.2.2.2 = some (81, (.aload_n 1), 1, 0, 0) := by decide +kernel
theorem gx3_82 : aF 82 zM3.2.2.2.2.2.2.2 = some (82, (.getfield 134), 3, 8, 7) := by decide +kernel
theorem gx3_85 : aF 85 zM3.2.2.2.2.2.2.2 = some (85, (.iload 4), 2, 0, 0) := by decide +kernel
theorem gx3_87 : aF 87 zM3.2.2.2.2.2.2.2 = some (87, .iaload, 1, 0, 0) := by decide +kernel
theorem gx3_88 : aF 88 zM3.2.2.2.2.2.2.2 = some (88, (.goto 4), 3, 92, 0) := by decide +kernel
theorem gx4_0 : aF 0 zM4.2.2.2.2.2.2.2 = some (0, (.iconst 0), 1, 0, 0) := by decide +kernel
theorem gx4_1 : aF 1 zM4.2.2.2.2.2.2.2 = some (1, (.istore_n 1), 1, 0, 0) := by decide +kernel
theorem gx4_2 : aF 2 zM4.2.2.2.2.2.2.2 = some (2, (.iconst 0), 1, 0, 0) := by decide +kernel
theorem gx4_3 : aF 3 zM4.2.2.2.2.2.2.2 = some (3, (.istore_n 2), 1, 0, 0) := by decide +kernel
theorem gx4_4 : aF 4 zM4.2.2.2.2.2.2.2 = some (4, (.iload_n 2), 1, 0, 0) := by decide +kernel
theorem gx4_5 : aF 5 zM4.2.2.2.2.2.2.2 = some (5, (.bipush 8), 2, 0, 0) := by decide +kernel
theorem gx4_7 : aF 7 zM4.2.2.2.2.2.2.2 = some (7, (.if_icmp .ge 26), 3, 33, 0) := by decide +kernel
theorem gx4_33 : aF 33 zM4.2.2.2.2.2.2.2 = some (33, (.iload_n 1), 1, 0, 0) := by decide +kernel
theorem gx4_34 : aF 34 zM4.2.2.2.2.2.2.2 = some (34, .ireturn, 1, 0, 0) := by decide +kernel
theorem gx4_10 : aF 10 zM4.2.2.2.2.2.2.2 = some (10, (.iload_n 1), 1, 0, 0) := by decide +kernel
theorem gx4_11 : aF 11 zM4.2.2.2.2.2.2.2 = some (11, (.aload_n 0), 1, 0, 0) := by decide +kernel
theorem gx4_12 : aF 12 zM4.2.2.2.2.2.2.2 = some (12, (.getfield 21), 3, 0, 5) := by decide +kernel
theorem gx4_15 : aF 15 zM4.2.2.2.2.2.2.2 = some (15, (.iload_n 2), 1, 0, 0) := by decide +kernel
theorem gx4_16 : aF 16 zM4.2.2.2.2.2.2.2 = some (16, .iaload, 1, 0, 0) := by decide +kernel
theorem gx4_17 : aF 17 zM4.2.2.2.2.2.2.2 = some (17, (.ifCond .le 7), 3, 24, 0) := by decide +kernel
theorem gx4_24 : aF 24 zM4.2.2.2.2.2.2.2 = some (24, (.iconst 0), 1, 0, 0) := by decide +kernel
theorem gx4_25 : aF 25 zM4.2.2.2.2.2.2.2 = some (25, .iadd, 1, 0, 0) := by decide +kernel
theorem gx4_26 : aF 26 zM4.2.2.2.2.2.2.2 = some (26, (.istore_n 1), 1, 0, 0) := by decide +kernel
theorem gx4_27 : aF 27 zM4.2.2.2.2.2.2.2 = some (27, (.iinc 2 1), 3, 0, 0) := by decide +kernel
theorem gx4_30 : aF 30 zM4.2.2.2.2.2.2.2 = some (30, (.goto (-26)), 3, 4, 0) := by decide +kernel
theorem gx4_20 : aF 20 zM4.2.2.2.2.2.2.2 = some (20, (.iconst 1), 1, 0, 0) := by decide +kernel
theorem gx4_21 : aF 21 zM4.2.2.2.2.2.2.2 = some (21, (.goto 4), 3, 25, 0) := by decide +kernel
theorem gx5_0 : aF 0 zM5.2.2.2.2.2.2.2 = some (0, (.iconst 0), 1, 0, 0) := by decide +kernel
theorem gx5_1 : aF 1 zM5.2.2.2.2.2.2.2 = some (1, (.istore_n 1), 1, 0, 0) := by decide +kernel
theorem gx5_2 : aF 2 zM5.2.2.2.2.2.2.2 = some (2, (.iconst 0), 1, 0, 0) := by decide +kernel
theorem gx5_3 : aF 3 zM5.2.2.2.2.2.2.2 = some (3, (.istore_n 2), 1, 0, 0) := by decide +kernel
theorem gx5_4 : aF 4 zM5.2.2.2.2.2.2.2 = some (4, (.iload_n 2), 1, 0, 0) := by decide +kernel
theorem gx5_5 : aF 5 zM5.2.2.2.2.2.2.2 = some (5, (.bipush 8), 2, 0, 0) := by decide +kernel
theorem gx5_7 : aF 7 zM5.2.2.2.2.2.2.2 = some (7, (.if_icmp .ge 20), 3, 27, 0) := by decide +kernel
theorem gx5_27 : aF 27 zM5.2.2.2.2.2.2.2 = some (27, (.iload_n 1), 1, 0, 0) := by decide +kernel
theorem gx5_28 : aF 28 zM5.2.2.2.2.2.2.2 = some (28, .ireturn, 1, 0, 0) := by decide +kernel
theorem gx5_10 : aF 10 zM5.2.2.2.2.2.2.2 = some (10, (.iload_n 1), 1, 0, 0) := by decide +kernel
theorem gx5_11 : aF 11 zM5.2.2.2.2.2.2.2 = some (11, (.aload_n 0), 1, 0, 0) := by decide +kernel
theorem gx5_12 : aF 12 zM5.2.2.2.2.2.2.2 = some (12, (.getfield 21), 3, 0, 5) := by decide +kernel
theorem gx5_15 : aF 15 zM5.2.2.2.2.2.2.2 = some (15, (.iload_n 2), 1, 0, 0) := by decide +kernel
theorem gx5_16 : aF 16 zM5.2.2.2.2.2.2.2 = some (16, .iaload, 1, 0, 0) := by decide +kernel
theorem gx5_17 : aF 17 zM5.2.2.2.2.2.2.2 = some (17, (.invokestatic 140), 3, 1010, 0) := by decide +kernel
theorem gx5_20 : aF 20 zM5.2.2.2.2.2.2.2 = some (20, (.istore_n 1), 1, 0, 0) := by decide +kernel
theorem gx5_21 : aF 21 zM5.2.2.2.2.2.2.2 = some (21, (.iinc 2 1), 3, 0, 0) := by decide +kernel
theorem gx5_24 : aF 24 zM5.2.2.2.2.2.2.2 = some (24, (.goto (-20)), 3, 4, 0) := by decide +kernel
theorem gx7_0 : aF 0 zM7.2.2.2.2.2.2.2 = some (0, (.aload_n 0), 1, 0, 0) := by decide +kernel
theorem gx7_1 : aF 1 zM7.2.2.2.2.2.2.2 = some (1, (.getfield 33), 3, 0, 0) := by decide +kernel
theorem gx7_4 : aF 4 zM7.2.2.2.2.2.2.2 = some (4, (.iload_n 2), 1, 0, 0) := by decide +kernel
theorem gx7_5 : aF 5 zM7.2.2.2.2.2.2.2 = some (5, (.iload_n 3), 1, 0, 0) := by decide +kernel
theorem gx7_6 : aF 6 zM7.2.2.2.2.2.2.2 = some (6, (.sipush 365), 3, 0, 0) := by decide +kernel
theorem gx7_9 : aF 9 zM7.2.2.2.2.2.2.2 = some (9, .imul, 1, 0, 0) := by decide +kernel
theorem gx7_10 : aF 10 zM7.2.2.2.2.2.2.2 = some (10, (.sipush 365), 3, 0, 0) := by decide +kernel
theorem gx7_13 : aF 13 zM7.2.2.2.2.2.2.2 = some (13, .iadd, 1, 0, 0) := by decide +kernel
theorem gx7_14 : aF 14 zM7.2.2.2.2.2.2.2 = some (14, (.iconst 1), 1, 0, 0) := by decide +kernel
theorem gx7_15 : aF 15 zM7.2.2.2.2.2.2.2 = some (15, .isub, 1, 0, 0) := by decide +kernel
theorem gx7_16 : aF 16 zM7.2.2.2.2.2.2.2 = some (16, (.iload 4), 2, 0, 0) := by decide +kernel
theorem gx7_18 : aF 18 zM7.2.2.2.2.2.2.2 = some (18, (.invokevirtual 156), 3, 86, 0) := by decide +kernel
theorem gx7_21 : aF 21 zM7.2.2.2.2.2.2.2 = some (21, (.iload_n 1), 1, 0, 0) := by decide +kernel
theorem gx7_22 : aF 22 zM7.2.2.2.2.2.2.2 = some (22, (.if_icmp .ne 7), 3, 29, 0) := by decide +kernel
theorem gx7_29 : aF 29 zM7.2.2.2.2.2.2.2 = some (29, (.iconst 0), 1, 0, 0) := by decide +kernel
theorem gx7_30 : aF 30 zM7.2.2.2.2.2.2.2 = some (30, .ireturn, 1, 0, 0) := by decide +kernel
theorem gx7_25 : aF 25 zM7.2.2.2.2.2.2.2 = some (25, (.iconst 1), 1, 0, 0) := by decide +kernel
theorem gx7_26 : aF 26 zM7.2.2.2.2.2.2.2 = some (26, (.goto 4), 3, 30, 0) := by decide +kernel
theorem gx6_0 : aF 0 zM6.2.2.2.2.2.2.2 = some (0, (.iconst 0), 1, 0, 0) := by decide +kernel
theorem gx6_1 : aF 1 zM6.2.2.2.2.2.2.2 = some (1, (.istore 4), 2, 0, 0) := by decide +kernel
theorem gx6_3 : aF 3 zM6.2.2.2.2.2.2.2 = some (3, (.iconst 0), 1, 0, 0) := by decide +kernel
theorem gx6_4 : aF 4 zM6.2.2.2.2.2.2.2 = some (4, (.istore 5), 2, 0, 0) := by decide +kernel
theorem gx6_6 : aF 6 zM6.2.2.2.2.2.2.2 = some (6, (.iload 5), 2, 0, 0) := by decide +kernel
theorem gx6_8 : aF 8 zM6.2.2.2.2.2.2.2 = some (8, (.aload_n 0), 1, 0, 0) := by decide +kernel
theorem gx6_9 : aF 9 zM6.2.2.2.2.2.2.2 = some (9, (.getfield 33), 3, 0, 0) := by decide +kernel
theorem gx6_12 : aF 12 zM6.2.2.2.2.2.2.2 = some (12, (.getfield 146), 3, 6, 4) := by decide +kernel
theorem gx6_15 : aF 15 zM6.2.2.2.2.2.2.2 = some (15, (.if_icmp .ge 39), 3, 54, 0) := by decide +kernel
theorem gx6_54 : aF 54 zM6.2.2.2.2.2.2.2 = some (54, (.iload 4), 2, 0, 0) := by decide +kernel
theorem gx6_56 : aF 56 zM6.2.2.2.2.2.2.2 = some (56, .ireturn, 1, 0, 0) := by decide +kernel
theorem gx6_18 : aF 18 zM6.2.2.2.2.2.2.2 = some (18, (.iload 4), 2, 0, 0) := by decide +kernel
theorem gx6_20 : aF 20 zM6.2.2.2.2.2.2.2 = some (20, (.aload_n 0), 1, 0, 0) := by decide +kernel
theorem gx6_21 : aF 21 zM6.2.2.2.2.2.2.2 = some (21, (.iload_n 1), 1, 0, 0) := by decide +kernel
theorem gx6_22 : aF 22 zM6.2.2.2.2.2.2.2 = some (22, (.aload_n 0), 1, 0, 0) := by decide +kernel
theorem gx6_23 : aF 23 zM6.2.2.2.2.2.2.2 = some (23, (.getfield 33), 3, 0, 0) := by decide +kernel
theorem gx6_26 : aF 26 zM6.2.2.2.2.2.2.2 = some (26, (.getfield 149), 3, 6, 11) := by decide +kernel
theorem gx6_29 : aF 29 zM6.2.2.2.2.2.2.2 = some (29, (.iload 5), 2, 0, 0) := by decide +kernel
theorem gx6_31 : aF 31 zM6.2.2.2.2.2.2.2 = some (31, .iaload, 1, 0, 0) := by decide +kernel
theorem gx6_32 : aF 32 zM6.2.2.2.2.2.2.2 = some (32, (.iload_n 2), 1, 0, 0) := by decide +kernel
theorem gx6_33 : aF 33 zM6.2.2.2.2.2.2.2 = some (33, (.iload_n 3), 1, 0, 0) := by decide +kernel
theorem gx6_34 : aF 34 zM6.2.2.2.2.2.2.2 = some (34, (.invokevirtual 152), 3, 7, 0) := by decide +kernel
theorem gx6_37 : aF 37 zM6.2.2.2.2.2.2.2 = some (37, (.ifCond .eq 7), 3, 44, 0) := by decide +kernel
theorem gx6_44 : aF 44 zM6.2.2.2.2.2.2.2 = some (44, (.iconst 0), 1, 0, 0) := by decide +kernel
theorem gx6_45 : aF 45 zM6.2.2.2.2.2.2.2 = some (45, .iadd, 1, 0, 0) := by decide +kernel
theorem gx6_46 : aF 46 zM6.2.2.2.2.2.2.2 = some (46, (.istore 4), 2, 0, 0) := by decide +kernel
theorem gx6_48 : aF 48 zM6.2.2.2.2.2.2.2 = some (48, (.iinc 5 1), 3, 0, 0) := by decide +kernel
theorem gx6_51 : aF 51 zM6.2.2.2.2.2.2.2 = some (51, (.goto (-45)), 3, 6, 0) := by decide +kernel
theorem gx6_40 : aF 40 zM6.2.2.2.2.2.2.2 = some (40, (.iconst 1), 1, 0, 0) := by decide +kernel
theorem gx6_41 : aF 41 zM6.2.2.2.2.2.2.2 = some (41, (.goto 4), 3, 45, 0) := by decide +kernel
theorem gx38_0 : aF 0 zM38.2.2.2.2.2.2.2 = some (0, (.aload_n 0), 1, 0, 0) := by decide +kernel
theorem gx38_1 : aF 1 zM38.2.2.2.2.2.2.2 = some (1, (.getfield 57), 3, 2, 19) := by decide +kernel
theorem gx38_4 : aF 4 zM38.2.2.2.2.2.2.2 = some (4, (.iload_n 1), 1, 0, 0) := by decide +kernel
theorem gx38_5 : aF 5 zM38.2.2.2.2.2.2.2 = some (5, (.bipush 10), 2, 0, 0) := by decide +kernel
theorem gx38_7 : aF 7 zM38.2.2.2.2.2.2.2 = some (7, .imul, 1, 0, 0) := by decide +kernel
theorem gx38_8 : aF 8 zM38.2.2.2.2.2.2.2 = some (8, (.iload_n 2), 1, 0, 0) := by decide +kernel
theorem gx38_9 : aF 9 zM38.2.2.2.2.2.2.2 = some (9, .iadd, 1, 0, 0) := by decide +kernel
theorem gx38_10 : aF 10 zM38.2.2.2.2.2.2.2 = some (10, .iaload, 1, 0, 0) := by decide +kernel
theorem gx38_11 : aF 11 zM38.2.2.2.2.2.2.2 = some (11, (.iconst 1), 1, 0, 0) := by decide +kernel
theorem gx38_12 : aF 12 zM38.2.2.2.2.2.2.2 = some (12, (.iload_n 3), 1, 0, 0) := by decide +kernel
theorem gx38_13 : aF 13 zM38.2.2.2.2.2.2.2 = some (13, (.iconst 1), 1, 0, 0) := by decide +kernel
theorem gx38_14 : aF 14 zM38.2.2.2.2.2.2.2 = some (14, .iadd, 1, 0, 0) := by decide +kernel
theorem gx38_15 : aF 15 zM38.2.2.2.2.2.2.2 = some (15, (.invokestatic 102), 3, 137, 0) := by decide +kernel
theorem gx38_18 : aF 18 zM38.2.2.2.2.2.2.2 = some (18, .ireturn, 1, 0, 0) := by decide +kernel
theorem gx102_0 : aF 0 zM102.2.2.2.2.2.2.2 = some (0, (.aload_n 0), 1, 0, 0) := by decide +kernel
theorem gx102_1 : aF 1 zM102.2.2.2.2.2.2.2 = some (1, (.getfield 31), 3, 8, 10) := by decide +kernel
theorem gx102_4 : aF 4 zM102.2.2.2.2.2.2.2 = some (4, (.iload_n 1), 1, 0, 0) := by decide +kernel
theorem gx102_5 : aF 5 zM102.2.2.2.2.2.2.2 = some (5, .iaload, 1, 0, 0) := by decide +kernel
theorem gx102_6 : aF 6 zM102.2.2.2.2.2.2.2 = some (6, (.aload_n 0), 1, 0, 0) := by decide +kernel
theorem gx102_7 : aF 7 zM102.2.2.2.2.2.2.2 = some (7, (.getfield 34), 3, 8, 11) := by decide +kernel
theorem gx102_10 : aF 10 zM102.2.2.2.2.2.2.2 = some (10, (.iload_n 1), 1, 0, 0) := by decide +kernel
theorem gx102_11 : aF 11 zM102.2.2.2.2.2.2.2 = some (11, .iaload, 1, 0, 0) := by decide +kernel
theorem gx102_12 : aF 12 zM102.2.2.2.2.2.2.2 = some (12, .isub, 1, 0, 0) := by decide +kernel
theorem gx102_13 : aF 13 zM102.2.2.2.2.2.2.2 = some (13, (.istore_n 2), 1, 0, 0) := by decide +kernel
theorem gx102_14 : aF 14 zM102.2.2.2.2.2.2.2 = some (14, (.iload_n 2), 1, 0, 0) := by decide +kernel
theorem gx102_15 : aF 15 zM102.2.2.2.2.2.2.2 = some (15, (.ifCond .ne 20), 3, 35, 0) := by decide +kernel
theorem gx102_35 : aF 35 zM102.2.2.2.2.2.2.2 = some (35, (.sipush 999), 3, 0, 0) := by decide +kernel
theorem gx102_38 : aF 38 zM102.2.2.2.2.2.2.2 = some (38, (.bipush 100), 2, 0, 0) := by decide +kernel
theorem gx102_40 : aF 40 zM102.2.2.2.2.2.2.2 = some (40, (.aload_n 0), 1, 0, 0) := by decide +kernel
theorem gx102_41 : aF 41 zM102.2.2.2.2.2.2.2 = some (41, (.getfield 34), 3, 8, 11) := by decide +kernel
theorem gx102_44 : aF 44 zM102.2.2.2.2.2.2.2 = some (44, (.iload_n 1), 1, 0, 0) := by decide +kernel
theorem gx102_45 : aF 45 zM102.2.2.2.2.2.2.2 = some (45, .iaload, 1, 0, 0) := by decide +kernel
theorem gx102_46 : aF 46 zM102.2.2.2.2.2.2.2 = some (46, .imul, 1, 0, 0) := by decide +kernel
theorem gx102_47 : aF 47 zM102.2.2.2.2.2.2.2 = some (47, (.iload_n 2), 1, 0, 0) := by decide +kernel
theorem gx102_48 : aF 48 zM102.2.2.2.2.2.2.2 = some (48, .idiv, 1, 0, 0) := by decide +kernel
theorem gx102_49 : aF 49 zM102.2.2.2.2.2.2.2 = some (49, (.invokestatic 93), 3, 1011, 0) := by decide +kernel
theorem gx102_52 : aF 52 zM102.2.2.2.2.2.2.2 = some (52, .ireturn, 1, 0, 0) := by decide +kernel
theorem gx102_18 : aF 18 zM102.2.2.2.2.2.2.2 = some (18, (.aload_n 0), 1, 0, 0) := by decide +kernel
theorem gx102_19 : aF 19 zM102.2.2.2.2.2.2.2 = some (19, (.getfield 31), 3, 8, 10) := by decide +kernel
theorem gx102_22 : aF 22 zM102.2.2.2.2.2.2.2 = some (22, (.iload_n 1), 1, 0, 0) := by decide +kernel
theorem gx102_23 : aF 23 zM102.2.2.2.2.2.2.2 = some (23, .iaload, 1, 0, 0) := by decide +kernel
theorem gx102_24 : aF 24 zM102.2.2.2.2.2.2.2 = some (24, (.ifCond .ne 7), 3, 31, 0) := by decide +kernel
theorem gx102_31 : aF 31 zM102.2.2.2.2.2.2.2 = some (31, (.sipush 999), 3, 0, 0) := by decide +kernel
theorem gx102_34 : aF 34 zM102.2.2.2.2.2.2.2 = some (34, .ireturn, 1, 0, 0) := by decide +kernel
theorem gx102_27 : aF 27 zM102.2.2.2.2.2.2.2 = some (27, (.iconst 0), 1, 0, 0) := by decide +kernel
theorem gx102_28 : aF 28 zM102.2.2.2.2.2.2.2 = some (28, (.goto 6), 3, 34, 0) := by decide +kernel
theorem gx2_0 : aF 0 zM2.2.2.2.2.2.2.2 = some (0, (.aload_n 0), 1, 0, 0) := by decide +kernel
theorem gx2_1 : aF 1 zM2.2.2.2.2.2.2.2 = some (1, (.iload_n 2), 1, 0, 0) := by decide +kernel
theorem gx2_2 : aF 2 zM2.2.2.2.2.2.2.2 = some (2, (.iload_n 3), 1, 0, 0) := by decide +kernel
theorem gx2_3 : aF 3 zM2.2.2.2.2.2.2.2 = some (3, (.invokevirtual 76), 3, 1, 0) := by decide +kernel
theorem gx2_6 : aF 6 zM2.2.2.2.2.2.2.2 = some (6, (.astore 4), 2, 0, 0) := by decide +kernel
theorem gx2_8 : aF 8 zM2.2.2.2.2.2.2.2 = some (8, (.aload 4), 2, 0, 0) := by decide +kernel
theorem gx2_10 : aF 10 zM2.2.2.2.2.2.2.2 = some (10, (.getfield 80), 3, 8, 10) := by decide +kernel
theorem gx2_13 : aF 13 zM2.2.2.2.2.2.2.2 = some (13, (.iload_n 1), 1, 0, 0) := by decide +kernel
theorem gx2_14 : aF 14 zM2.2.2.2.2.2.2.2 = some (14, .iaload, 1, 0, 0) := by decide +kernel
theorem gx2_15 : aF 15 zM2.2.2.2.2.2.2.2 = some (15, (.istore 5), 2, 0, 0) := by decide +kernel
theorem gx2_17 : aF 17 zM2.2.2.2.2.2.2.2 = some (17, (.aload_n 0), 1, 0, 0) := by decide +kernel
theorem gx2_18 : aF 18 zM2.2.2.2.2.2.2.2 = some (18, (.aload 4), 2, 0, 0) := by decide +kernel
theorem gx2_20 : aF 20 zM2.2.2.2.2.2.2.2 = some (20, (.iload_n 1), 1, 0, 0) := by decide +kernel
theorem gx2_21 : aF 21 zM2.2.2.2.2.2.2.2 = some (21, (.invokevirtual 83), 3, 3, 0) := by decide +kernel
theorem gx2_24 : aF 24 zM2.2.2.2.2.2.2.2 = some (24, (.istore 6), 2, 0, 0) := by decide +kernel
theorem gx2_26 : aF 26 zM2.2.2.2.2.2.2.2 = some (26, (.aload_n 0), 1, 0, 0) := by decide +kernel
theorem gx2_27 : aF 27 zM2.2.2.2.2.2.2.2 = some (27, (.getfield 17), 3, 0, 4) := by decide +kernel
theorem gx2_30 : aF 30 zM2.2.2.2.2.2.2.2 = some (30, (.iconst 0), 1, 0, 0) := by decide +kernel
theorem gx2_31 : aF 31 zM2.2.2.2.2.2.2.2 = some (31, (.iload_n 2), 1, 0, 0) := by decide +kernel
theorem gx2_32 : aF 32 zM2.2.2.2.2.2.2.2 = some (32, .iastore, 1, 0, 0) := by decide +kernel
theorem gx2_33 : aF 33 zM2.2.2.2.2.2.2.2 = some (33, (.aload_n 0), 1, 0, 0) := by decide +kernel
theorem gx2_34 : aF 34 zM2.2.2.2.2.2.2.2 = some (34, (.getfield 17), 3, 0, 4) := by decide +kernel
theorem gx2_37 : aF 37 zM2.2.2.2.2.2.2.2 = some (37, (.iconst 1), 1, 0, 0) := by decide +kernel
theorem gx2_38 : aF 38 zM2.2.2.2.2.2.2.2 = some (38, (.aload_n 0), 1, 0, 0) := by decide +kernel
theorem gx2_39 : aF 39 zM2.2.2.2.2.2.2.2 = some (39, (.getfield 33), 3, 0, 0) := by decide +kernel
theorem gx2_42 : aF 42 zM2.2.2.2.2.2.2.2 = some (42, (.getfield 87), 3, 6, 7) := by decide +kernel
theorem gx2_45 : aF 45 zM2.2.2.2.2.2.2.2 = some (45, (.iload_n 1), 1, 0, 0) := by decide +kernel
theorem gx2_46 : aF 46 zM2.2.2.2.2.2.2.2 = some (46, .iaload, 1, 0, 0) := by decide +kernel
theorem gx2_47 : aF 47 zM2.2.2.2.2.2.2.2 = some (47, .iastore, 1, 0, 0) := by decide +kernel
theorem gx2_48 : aF 48 zM2.2.2.2.2.2.2.2 = some (48, (.aload_n 0), 1, 0, 0) := by decide +kernel
theorem gx2_49 : aF 49 zM2.2.2.2.2.2.2.2 = some (49, (.getfield 17), 3, 0, 4) := by decide +kernel
theorem gx2_52 : aF 52 zM2.2.2.2.2.2.2.2 = some (52, (.iconst 2), 1, 0, 0) := by decide +kernel
theorem gx2_53 : aF 53 zM2.2.2.2.2.2.2.2 = some (53, (.iload 5), 2, 0, 0) := by decide +kernel
theorem gx2_55 : aF 55 zM2.2.2.2.2.2.2.2 = some (55, .iastore, 1, 0, 0) := by decide +kernel
theorem gx2_56 : aF 56 zM2.2.2.2.2.2.2.2 = some (56, (.aload_n 0), 1, 0, 0) := by decide +kernel
theorem gx2_57 : aF 57 zM2.2.2.2.2.2.2.2 = some (57, (.getfield 17), 3, 0, 4) := by decide +kernel
theorem gx2_60 : aF 60 zM2.2.2.2.2.2.2.2 = some (60, (.iconst 3), 1, 0, 0) := by decide +kernel
theorem gx2_61 : aF 61 zM2.2.2.2.2.2.2.2 = some (61, (.iload 5), 2, 0, 0) := by decide +kernel
theorem gx2_63 : aF 63 zM2.2.2.2.2.2.2.2 = some (63, (.aload 4), 2, 0, 0) := by decide +kernel
theorem gx2_65 : aF 65 zM2.2.2.2.2.2.2.2 = some (65, (.getfield 90), 3, 8, 11) := by decide +kernel
theorem gx2_68 : aF 68 zM2.2.2.2.2.2.2.2 = some (68, (.iload_n 1), 1, 0, 0) := by decide +kernel
theorem gx2_69 : aF 69 zM2.2.2.2.2.2.2.2 = some (69, .iaload, 1, 0, 0) := by decide +kernel
theorem gx2_70 : aF 70 zM2.2.2.2.2.2.2.2 = some (70, .isub, 1, 0, 0) := by decide +kernel
theorem gx2_71 : aF 71 zM2.2.2.2.2.2.2.2 = some (71, .iastore, 1, 0, 0) := by decide +kernel
theorem gx2_72 : aF 72 zM2.2.2.2.2.2.2.2 = some (72, (.aload_n 0), 1, 0, 0) := by decide +kernel
theorem gx2_73 : aF 73 zM2.2.2.2.2.2.2.2 = some (73, (.getfield 17), 3, 0, 4) := by decide +kernel
theorem gx2_76 : aF 76 zM2.2.2.2.2.2.2.2 = some (76, (.iconst 4), 1, 0, 0) := by decide +kernel
theorem gx2_77 : aF 77 zM2.2.2.2.2.2.2.2 = some (77, (.iload 5), 2, 0, 0) := by decide +kernel
theorem gx2_79 : aF 79 zM2.2.2.2.2.2.2.2 = some (79, (.ifCond .ne 7), 3, 86, 0) := by decide +kernel
theorem gx2_86 : aF 86 zM2.2.2.2.2.2.2.2 = some (86, (.bipush 100), 2, 0, 0) := by decide +kernel
theorem gx2_88 : aF 88 zM2.2.2.2.2.2.2.2 = some (88, (.iload 6), 2, 0, 0) := by decide +kernel
theorem gx2_90 : aF 90 zM2.2.2.2.2.2.2.2 = some (90, .imul, 1, 0, 0) := by decide +kernel
theorem gx2_91 : aF 91 zM2.2.2.2.2.2.2.2 = some (91, (.iload 5), 2, 0, 0) := by decide +kernel
theorem gx2_93 : aF 93 zM2.2.2.2.2.2.2.2 = some (93, .idiv, 1, 0, 0) := by decide +kernel
theorem gx2_82 : aF 82 zM2.2.2.2.2.2.2.2 = some (82, (.iconst 0), 1, 0, 0) := by decide +kernel
theorem gx2_83 : aF 83 zM2.2.2.2.2.2.2.2 = some (83, (.goto 11), 3, 94, 0) := by decide +kernel
theorem gx2_94 : aF 94 zM2.2.2.2.2.2.2.2 = some (94, .iastore, 1, 0, 0) := by decide +kernel
theorem gx2_95 : aF 95 zM2.2.2.2.2.2.2.2 = some (95, (.aload_n 0), 1, 0, 0) := by decide +kernel
theorem gx2_96 : aF 96 zM2.2.2.2.2.2.2.2 = some (96, (.getfield 17), 3, 0, 4) := by decide +kernel
theorem gx2_99 : aF 99 zM2.2.2.2.2.2.2.2 = some (99, (.iconst 5), 1, 0, 0) := by decide +kernel
theorem gx2_100 : aF 100 zM2.2.2.2.2.2.2.2 = some (100, (.aload_n 0), 1, 0, 0) := by decide +kernel
theorem gx2_101 : aF 101 zM2.2.2.2.2.2.2.2 = some (101, (.invokevirtual 93), 3, 4, 0) := by decide +kernel
theorem gx2_104 : aF 104 zM2.2.2.2.2.2.2.2 = some (104, .iastore, 1, 0, 0) := by decide +kernel
theorem gx2_105 : aF 105 zM2.2.2.2.2.2.2.2 = some (105, (.aload_n 0), 1, 0, 0) := by decide +kernel
theorem gx2_106 : aF 106 zM2.2.2.2.2.2.2.2 = some (106, (.getfield 17), 3, 0, 4) := by decide +kernel
theorem gx2_109 : aF 109 zM2.2.2.2.2.2.2.2 = some (109, (.bipush 6), 2, 0, 0) := by decide +kernel
theorem gx2_111 : aF 111 zM2.2.2.2.2.2.2.2 = some (111, (.iload 5), 2, 0, 0) := by decide +kernel
theorem gx2_113 : aF 113 zM2.2.2.2.2.2.2.2 = some (113, (.ifCond .ne 7), 3, 120, 0) := by decide +kernel
theorem gx2_120 : aF 120 zM2.2.2.2.2.2.2.2 = some (120, (.bipush 100), 2, 0, 0) := by decide +kernel
theorem gx2_122 : aF 122 zM2.2.2.2.2.2.2.2 = some (122, (.aload_n 0), 1, 0, 0) := by decide +kernel
theorem gx2_123 : aF 123 zM2.2.2.2.2.2.2.2 = some (123, (.invokevirtual 97), 3, 5, 0) := by decide +kernel
theorem gx2_126 : aF 126 zM2.2.2.2.2.2.2.2 = some (126, .imul, 1, 0, 0) := by decide +kernel
theorem gx2_127 : aF 127 zM2.2.2.2.2.2.2.2 = some (127, (.iload 5), 2, 0, 0) := by decide +kernel
theorem gx2_129 : aF 129 zM2.2.2.2.2.2.2.2 = some (129, .idiv, 1, 0, 0) := by decide +kernel
theorem gx2_116 : aF 116 zM2.2.2.2.2.2.2.2 = some (116, (.iconst 0), 1, 0, 0) := by decide +kernel
theorem gx2_117 : aF 117 zM2.2.2.2.2.2.2.2 = some (117, (.goto 13), 3, 130, 0) := by decide +kernel
theorem gx2_130 : aF 130 zM2.2.2.2.2.2.2.2 = some (130, .iastore, 1, 0, 0) := by decide +kernel
theorem gx2_131 : aF 131 zM2.2.2.2.2.2.2.2 = some (131, (.aload_n 0), 1, 0, 0) := by decide +kernel
theorem gx2_132 : aF 132 zM2.2.2.2.2.2.2.2 = some (132, (.getfield 17), 3, 0, 4) := by decide +kernel
theorem gx2_135 : aF 135 zM2.2.2.2.2.2.2.2 = some (135, (.bipush 7), 2, 0, 0) := by decide +kernel
theorem gx2_137 : aF 137 zM2.2.2.2.2.2.2.2 = some (137, (.aload 4), 2, 0, 0) := by decide +kernel
theorem gx2_139 : aF 139 zM2.2.2.2.2.2.2.2 = some (139, (.getfield 100), 3, 8, 12) := by decide +kernel
theorem gx2_142 : aF 142 zM2.2.2.2.2.2.2.2 = some (142, (.iload_n 1), 1, 0, 0) := by decide +kernel
theorem gx2_143 : aF 143 zM2.2.2.2.2.2.2.2 = some (143, .iaload, 1, 0, 0) := by decide +kernel
theorem gx2_144 : aF 144 zM2.2.2.2.2.2.2.2 = some (144, (.iconst (-1)), 1, 0, 0) := by decide +kernel
theorem gx2_145 : aF 145 zM2.2.2.2.2.2.2.2 = some (145, (.if_icmp .ne 7), 3, 152, 0) := by decide +kernel
theorem gx2_152 : aF 152 zM2.2.2.2.2.2.2.2 = some (152, (.aload_n 0), 1, 0, 0) := by decide +kernel
theorem gx2_153 : aF 153 zM2.2.2.2.2.2.2.2 = some (153, (.getfield 37), 3, 0, 1) := by decide +kernel
theorem gx2_156 : aF 156 zM2.2.2.2.2.2.2.2 = some (156, (.aload 4), 2, 0, 0) := by decide +kernel
theorem gx2_158 : aF 158 zM2.2.2.2.2.2.2.2 = some (158, (.getfield 100), 3, 8, 12) := by decide +kernel
theorem gx2_161 : aF 161 zM2.2.2.2.2.2.2.2 = some (161, (.iload_n 1), 1, 0, 0) := by decide +kernel
theorem gx2_162 : aF 162 zM2.2.2.2.2.2.2.2 = some (162, .iaload, 1, 0, 0) := by decide +kernel
theorem gx2_163 : aF 163 zM2.2.2.2.2.2.2.2 = some (163, (.invokevirtual 103), 3, 31, 0) := by decide +kernel
theorem gx2_148 : aF 148 zM2.2.2.2.2.2.2.2 = some (148, (.iconst 0), 1, 0, 0) := by decide +kernel
theorem gx2_149 : aF 149 zM2.2.2.2.2.2.2.2 = some (149, (.goto 17), 3, 166, 0) := by decide +kernel
theorem gx2_166 : aF 166 zM2.2.2.2.2.2.2.2 = some (166, .iastore, 1, 0, 0) := by decide +kernel
theorem gx2_167 : aF 167 zM2.2.2.2.2.2.2.2 = some (167, (.aload_n 0), 1, 0, 0) := by decide +kernel
theorem gx2_168 : aF 168 zM2.2.2.2.2.2.2.2 = some (168, (.getfield 17), 3, 0, 4) := by decide +kernel
theorem gx2_171 : aF 171 zM2.2.2.2.2.2.2.2 = some (171, (.bipush 8), 2, 0, 0) := by decide +kernel
theorem gx2_173 : aF 173 zM2.2.2.2.2.2.2.2 = some (173, (.aload 4), 2, 0, 0) := by decide +kernel
theorem gx2_175 : aF 175 zM2.2.2.2.2.2.2.2 = some (175, (.iload_n 1), 1, 0, 0) := by decide +kernel
theorem gx2_176 : aF 176 zM2.2.2.2.2.2.2.2 = some (176, (.invokevirtual 107), 3, 102, 0) := by decide +kernel
theorem gx2_179 : aF 179 zM2.2.2.2.2.2.2.2 = some (179, .iastore, 1, 0, 0) := by decide +kernel
theorem gx2_180 : aF 180 zM2.2.2.2.2.2.2.2 = some (180, (.aload_n 0), 1, 0, 0) := by decide +kernel
theorem gx2_181 : aF 181 zM2.2.2.2.2.2.2.2 = some (181, (.getfield 17), 3, 0, 4) := by decide +kernel
theorem gx2_184 : aF 184 zM2.2.2.2.2.2.2.2 = some (184, (.bipush 9), 2, 0, 0) := by decide +kernel
theorem gx2_186 : aF 186 zM2.2.2.2.2.2.2.2 = some (186, (.aload_n 0), 1, 0, 0) := by decide +kernel
theorem gx2_187 : aF 187 zM2.2.2.2.2.2.2.2 = some (187, (.iload_n 1), 1, 0, 0) := by decide +kernel
theorem gx2_188 : aF 188 zM2.2.2.2.2.2.2.2 = some (188, (.iload_n 2), 1, 0, 0) := by decide +kernel
theorem gx2_189 : aF 189 zM2.2.2.2.2.2.2.2 = some (189, (.iload_n 3), 1, 0, 0) := by decide +kernel
theorem gx2_190 : aF 190 zM2.2.2.2.2.2.2.2 = some (190, (.invokevirtual 110), 3, 6, 0) := by decide +kernel
theorem gx2_193 : aF 193 zM2.2.2.2.2.2.2.2 = some (193, .iastore, 1, 0, 0) := by decide +kernel
theorem gx2_194 : aF 194 zM2.2.2.2.2.2.2.2 = some (194, (.aload_n 0), 1, 0, 0) := by decide +kernel
theorem gx2_195 : aF 195 zM2.2.2.2.2.2.2.2 = some (195, (.getfield 17), 3, 0, 4) := by decide +kernel
theorem gx2_198 : aF 198 zM2.2.2.2.2.2.2.2 = some (198, (.bipush 10), 2, 0, 0) := by decide +kernel
theorem gx2_200 : aF 200 zM2.2.2.2.2.2.2.2 = some (200, (.iconst 0), 1, 0, 0) := by decide +kernel
theorem gx2_201 : aF 201 zM2.2.2.2.2.2.2.2 = some (201, .iastore, 1, 0, 0) := by decide +kernel
theorem gx2_202 : aF 202 zM2.2.2.2.2.2.2.2 = some (202, (.aload_n 0), 1, 0, 0) := by decide +kernel
theorem gx2_203 : aF 203 zM2.2.2.2.2.2.2.2 = some (203, (.getfield 17), 3, 0, 4) := by decide +kernel
theorem gx2_206 : aF 206 zM2.2.2.2.2.2.2.2 = some (206, (.bipush 11), 2, 0, 0) := by decide +kernel
theorem gx2_208 : aF 208 zM2.2.2.2.2.2.2.2 = some (208, (.aload_n 0), 1, 0, 0) := by decide +kernel
theorem gx2_209 : aF 209 zM2.2.2.2.2.2.2.2 = some (209, (.getfield 37), 3, 0, 1) := by decide +kernel
theorem gx2_212 : aF 212 zM2.2.2.2.2.2.2.2 = some (212, (.iload_n 1), 1, 0, 0) := by decide +kernel
theorem gx2_213 : aF 213 zM2.2.2.2.2.2.2.2 = some (213, (.iload_n 2), 1, 0, 0) := by decide +kernel
theorem gx2_214 : aF 214 zM2.2.2.2.2.2.2.2 = some (214, (.iload_n 3), 1, 0, 0) := by decide +kernel
theorem gx2_215 : aF 215 zM2.2.2.2.2.2.2.2 = some (215, (.invokevirtual 114), 3, 38, 0) := by decide +kernel
theorem gx2_218 : aF 218 zM2.2.2.2.2.2.2.2 = some (218, (.ifCond .eq 7), 3, 225, 0) := by decide +kernel
theorem gx2_225 : aF 225 zM2.2.2.2.2.2.2.2 = some (225, (.iconst 0), 1, 0, 0) := by decide +kernel
theorem gx2_221 : aF 221 zM2.2.2.2.2.2.2.2 = some (221, (.iconst 1), 1, 0, 0) := by decide +kernel
theorem gx2_222 : aF 222 zM2.2.2.2.2.2.2.2 = some (222, (.goto 4), 3, 226, 0) := by decide +kernel
theorem gx2_226 : aF 226 zM2.2.2.2.2.2.2.2 = some (226, .iastore, 1, 0, 0) := by decide +kernel
theorem gx2_227 : aF 227 zM2.2.2.2.2.2.2.2 = some (227, (.aload_n 0), 1, 0, 0) := by decide +kernel
theorem gx2_228 : aF 228 zM2.2.2.2.2.2.2.2 = some (228, (.getfield 17), 3, 0, 4) := by decide +kernel
theorem gx2_231 : aF 231 zM2.2.2.2.2.2.2.2 = some (231, (.bipush 12), 2, 0, 0) := by decide +kernel
theorem gx2_233 : aF 233 zM2.2.2.2.2.2.2.2 = some (233, (.iconst 0), 1, 0, 0) := by decide +kernel
theorem gx2_234 : aF 234 zM2.2.2.2.2.2.2.2 = some (234, .iastore, 1, 0, 0) := by decide +kernel
theorem gx2_235 : aF 235 zM2.2.2.2.2.2.2.2 = some (235, (.iconst 0), 1, 0, 0) := by decide +kernel
theorem gx2_236 : aF 236 zM2.2.2.2.2.2.2.2 = some (236, (.istore 7), 2, 0, 0) := by decide +kernel
theorem gx2_238 : aF 238 zM2.2.2.2.2.2.2.2 = some (238, (.iload 7), 2, 0, 0) := by decide +kernel
theorem gx2_240 : aF 240 zM2.2.2.2.2.2.2.2 = some (240, (.iload_n 2), 1, 0, 0) := by decide +kernel
theorem gx2_241 : aF 241 zM2.2.2.2.2.2.2.2 = some (241, (.if_icmp .ge 39), 3, 280, 0) := by decide +kernel
theorem gx2_280 : aF 280 zM2.2.2.2.2.2.2.2 = some (280, .return_, 1, 0, 0) := by decide +kernel
theorem gx2_244 : aF 244 zM2.2.2.2.2.2.2.2 = some (244, (.aload_n 0), 1, 0, 0) := by decide +kernel
theorem gx2_245 : aF 245 zM2.2.2.2.2.2.2.2 = some (245, (.getfield 17), 3, 0, 4) := by decide +kernel
theorem gx2_248 : aF 248 zM2.2.2.2.2.2.2.2 = some (248, (.bipush 12), 2, 0, 0) := by decide +kernel
theorem gx2_250 : aF 250 zM2.2.2.2.2.2.2.2 = some (250, .dup2, 1, 0, 0) := by decide +kernel
theorem gx2_251 : aF 251 zM2.2.2.2.2.2.2.2 = some (251, .iaload, 1, 0, 0) := by decide +kernel
theorem gx2_252 : aF 252 zM2.2.2.2.2.2.2.2 = some (252, (.aload_n 0), 1, 0, 0) := by decide +kernel
theorem gx2_253 : aF 253 zM2.2.2.2.2.2.2.2 = some (253, (.iload 7), 2, 0, 0) := by decide +kernel
theorem gx2_255 : aF 255 zM2.2.2.2.2.2.2.2 = some (255, (.iload_n 3), 1, 0, 0) := by decide +kernel
theorem gx2_256 : aF 256 zM2.2.2.2.2.2.2.2 = some (256, (.invokevirtual 76), 3, 1, 0) := by decide +kernel
theorem gx2_259 : aF 259 zM2.2.2.2.2.2.2.2 = some (259, (.getfield 90), 3, 8, 11) := by decide +kernel
theorem gx2_262 : aF 262 zM2.2.2.2.2.2.2.2 = some (262, (.iload_n 1), 1, 0, 0) := by decide +kernel
theorem gx2_263 : aF 263 zM2.2.2.2.2.2.2.2 = some (263, .iaload, 1, 0, 0) := by decide +kernel
theorem gx2_264 : aF 264 zM2.2.2.2.2.2.2.2 = some (264, (.ifCond .le 7), 3, 271, 0) := by decide +kernel
theorem gx2_271 : aF 271 zM2.2.2.2.2.2.2.2 = some (271, (.iconst 0), 1, 0, 0) := by decide +kernel
theorem gx2_267 : aF 267 zM2.2.2.2.2.2.2.2 = some (267, (.iconst 1), 1, 0, 0) := by decide +kernel
theorem gx2_268 : aF 268 zM2.2.2.2.2.2.2.2 = some (268, (.goto 4), 3, 272, 0) := by decide +kernel
theorem gx2_272 : aF 272 zM2.2.2.2.2.2.2.2 = some (272, .iadd, 1, 0, 0) := by decide +kernel
theorem gx2_273 : aF 273 zM2.2.2.2.2.2.2.2 = some (273, .iastore, 1, 0, 0) := by decide +kernel
theorem gx2_274 : aF 274 zM2.2.2.2.2.2.2.2 = some (274, (.iinc 7 1), 3, 0, 0) := by decide +kernel
theorem gx2_277 : aF 277 zM2.2.2.2.2.2.2.2 = some (277, (.goto (-39)), 3, 238, 0) := by decide +kernel
theorem gx9_0 : aF 0 zM9.2.2.2.2.2.2.2 = some (0, (.lconst 0), 1, 0, 0) := by decide +kernel
theorem gx9_1 : aF 1 zM9.2.2.2.2.2.2.2 = some (1, (.ldc2_w 197), 3, 2000000000, 0) := by decide +kernel
theorem gx9_4 : aF 4 zM9.2.2.2.2.2.2.2 = some (4, (.lload_n 0), 1, 0, 0) := by decide +kernel
theorem gx9_5 : aF 5 zM9.2.2.2.2.2.2.2 = some (5, (.invokestatic 199), 3, 1014, 0) := by decide +kernel
theorem gx9_8 : aF 8 zM9.2.2.2.2.2.2.2 = some (8, (.invokestatic 202), 3, 1013, 0) := by decide +kernel
theorem gx9_11 : aF 11 zM9.2.2.2.2.2.2.2 = some (11, .l2i, 1, 0, 0) := by decide +kernel
theorem gx9_12 : aF 12 zM9.2.2.2.2.2.2.2 = some (12, .ireturn, 1, 0, 0) := by decide +kernel
theorem gx10_0 : aF 0 zM10.2.2.2.2.2.2.2 = some (0, (.lconst 0), 1, 0, 0) := by decide +kernel
theorem gx10_1 : aF 1 zM10.2.2.2.2.2.2.2 = some (1, (.lstore 5), 2, 0, 0) := by decide +kernel
theorem gx10_3 : aF 3 zM10.2.2.2.2.2.2.2 = some (3, (.iload_n 1), 1, 0, 0) := by decide +kernel
theorem gx10_4 : aF 4 zM10.2.2.2.2.2.2.2 = some (4, (.istore 7), 2, 0, 0) := by decide +kernel
theorem gx10_6 : aF 6 zM10.2.2.2.2.2.2.2 = some (6, (.iconst 0), 1, 0, 0) := by decide +kernel
theorem gx10_7 : aF 7 zM10.2.2.2.2.2.2.2 = some (7, (.istore 8), 2, 0, 0) := by decide +kernel
theorem gx10_9 : aF 9 zM10.2.2.2.2.2.2.2 = some (9, (.iload 8), 2, 0, 0) := by decide +kernel
theorem gx10_11 : aF 11 zM10.2.2.2.2.2.2.2 = some (11, (.aload_n 0), 1, 0, 0) := by decide +kernel
theorem gx10_12 : aF 12 zM10.2.2.2.2.2.2.2 = some (12, (.getfield 33), 3, 0, 0) := by decide +kernel
theorem gx10_15 : aF 15 zM10.2.2.2.2.2.2.2 = some (15, (.getfield 146), 3, 6, 4) := by decide +kernel
theorem gx10_18 : aF 18 zM10.2.2.2.2.2.2.2 = some (18, (.if_icmp .ge 75), 3, 93, 0) := by decide +kernel
theorem gx10_93 : aF 93 zM10.2.2.2.2.2.2.2 = some (93, (.lload 5), 2, 0, 0) := by decide +kernel
theorem gx10_95 : aF 95 zM10.2.2.2.2.2.2.2 = some (95, .lreturn, 1, 0, 0) := by decide +kernel
theorem gx10_21 : aF 21 zM10.2.2.2.2.2.2.2 = some (21, (.iload 7), 2, 0, 0) := by decide +kernel
theorem gx10_23 : aF 23 zM10.2.2.2.2.2.2.2 = some (23, (.ifCond .le 70), 3, 93, 0) := by decide +kernel
theorem gx10_26 : aF 26 zM10.2.2.2.2.2.2.2 = some (26, (.aload_n 0), 1, 0, 0) := by decide +kernel
theorem gx10_27 : aF 27 zM10.2.2.2.2.2.2.2 = some (27, (.getfield 33), 3, 0, 0) := by decide +kernel
theorem gx10_30 : aF 30 zM10.2.2.2.2.2.2.2 = some (30, (.getfield 149), 3, 6, 11) := by decide +kernel
theorem gx10_33 : aF 33 zM10.2.2.2.2.2.2.2 = some (33, (.iload 8), 2, 0, 0) := by decide +kernel
theorem gx10_35 : aF 35 zM10.2.2.2.2.2.2.2 = some (35, .iaload, 1, 0, 0) := by decide +kernel
theorem gx10_36 : aF 36 zM10.2.2.2.2.2.2.2 = some (36, (.istore 9), 2, 0, 0) := by decide +kernel
theorem gx10_38 : aF 38 zM10.2.2.2.2.2.2.2 = some (38, (.aload_n 0), 1, 0, 0) := by decide +kernel
theorem gx10_39 : aF 39 zM10.2.2.2.2.2.2.2 = some (39, (.iload_n 2), 1, 0, 0) := by decide +kernel
theorem gx10_40 : aF 40 zM10.2.2.2.2.2.2.2 = some (40, (.iload 9), 2, 0, 0) := by decide +kernel
theorem gx10_42 : aF 42 zM10.2.2.2.2.2.2.2 = some (42, (.iload_n 3), 1, 0, 0) := by decide +kernel
theorem gx10_43 : aF 43 zM10.2.2.2.2.2.2.2 = some (43, (.iload 4), 2, 0, 0) := by decide +kernel
theorem gx10_45 : aF 45 zM10.2.2.2.2.2.2.2 = some (45, (.invokevirtual 152), 3, 7, 0) := by decide +kernel
theorem gx10_48 : aF 48 zM10.2.2.2.2.2.2.2 = some (48, (.ifCond .eq 39), 3, 87, 0) := by decide +kernel
theorem gx10_87 : aF 87 zM10.2.2.2.2.2.2.2 = some (87, (.iinc 8 1), 3, 0, 0) := by decide +kernel
theorem gx10_90 : aF 90 zM10.2.2.2.2.2.2.2 = some (90, (.goto (-81)), 3, 9, 0) := by decide +kernel
theorem gx10_51 : aF 51 zM10.2.2.2.2.2.2.2 = some (51, (.iload 7), 2, 0, 0) := by decide +kernel
theorem gx10_53 : aF 53 zM10.2.2.2.2.2.2.2 = some (53, (.bipush 10), 2, 0, 0) := by decide +kernel
theorem gx10_55 : aF 55 zM10.2.2.2.2.2.2.2 = some (55, (.invokestatic 171), 3, 1011, 0) := by decide +kernel
theorem gx10_58 : aF 58 zM10.2.2.2.2.2.2.2 = some (58, (.istore 10), 2, 0, 0) := by decide +kernel
theorem gx10_60 : aF 60 zM10.2.2.2.2.2.2.2 = some (60, (.lload 5), 2, 0, 0) := by decide +kernel
theorem gx10_62 : aF 62 zM10.2.2.2.2.2.2.2 = some (62, (.iload 10), 2, 0, 0) := by decide +kernel
theorem gx10_64 : aF 64 zM10.2.2.2.2.2.2.2 = some (64, .i2l, 1, 0, 0) := by decide +kernel
theorem gx10_65 : aF 65 zM10.2.2.2.2.2.2.2 = some (65, (.aload_n 0), 1, 0, 0) := by decide +kernel
theorem gx10_66 : aF 66 zM10.2.2.2.2.2.2.2 = some (66, (.getfield 33), 3, 0, 0) := by decide +kernel
theorem gx10_69 : aF 69 zM10.2.2.2.2.2.2.2 = some (69, (.getfield 163), 3, 6, 8) := by decide +kernel
theorem gx10_72 : aF 72 zM10.2.2.2.2.2.2.2 = some (72, (.iload 9), 2, 0, 0) := by decide +kernel
theorem gx10_74 : aF 74 zM10.2.2.2.2.2.2.2 = some (74, .iaload, 1, 0, 0) := by decide +kernel
theorem gx10_75 : aF 75 zM10.2.2.2.2.2.2.2 = some (75, .i2l, 1, 0, 0) := by decide +kernel
theorem gx10_76 : aF 76 zM10.2.2.2.2.2.2.2 = some (76, .lmul, 1, 0, 0) := by decide +kernel
theorem gx10_77 : aF 77 zM10.2.2.2.2.2.2.2 = some (77, .ladd, 1, 0, 0) := by decide +kernel
theorem gx10_78 : aF 78 zM10.2.2.2.2.2.2.2 = some (78, (.lstore 5), 2, 0, 0) := by decide +kernel
theorem gx10_80 : aF 80 zM10.2.2.2.2.2.2.2 = some (80, (.iload 7), 2, 0, 0) := by decide +kernel
theorem gx10_82 : aF 82 zM10.2.2.2.2.2.2.2 = some (82, (.iload 10), 2, 0, 0) := by decide +kernel
theorem gx10_84 : aF 84 zM10.2.2.2.2.2.2.2 = some (84, .isub, 1, 0, 0) := by decide +kernel
theorem gx10_85 : aF 85 zM10.2.2.2.2.2.2.2 = some (85, (.istore 7), 2, 0, 0) := by decide +kernel
theorem gx121_0 : aF 0 zM121.2.2.2.2.2.2.2 = some (0, (.aload_n 0), 1, 0, 0) := by decide +kernel
theorem gx121_1 : aF 1 zM121.2.2.2.2.2.2.2 = some (1, (.iload_n 1), 1, 0, 0) := by decide +kernel
theorem gx121_2 : aF 2 zM121.2.2.2.2.2.2.2 = some (2, (.aload_n 2), 1, 0, 0) := by decide +kernel
theorem gx121_3 : aF 3 zM121.2.2.2.2.2.2.2 = some (3, (.invokevirtual 58), 3, 123, 0) := by decide +kernel
theorem gx121_6 : aF 6 zM121.2.2.2.2.2.2.2 = some (6, (.iconst 0), 1, 0, 0) := by decide +kernel
theorem gx121_7 : aF 7 zM121.2.2.2.2.2.2.2 = some (7, (.istore_n 3), 1, 0, 0) := by decide +kernel
theorem gx121_8 : aF 8 zM121.2.2.2.2.2.2.2 = some (8, (.iload_n 3), 1, 0, 0) := by decide +kernel
theorem gx121_9 : aF 9 zM121.2.2.2.2.2.2.2 = some (9, (.sipush 160), 3, 0, 0) := by decide +kernel
theorem gx121_12 : aF 12 zM121.2.2.2.2.2.2.2 = some (12, (.if_icmp .ge 71), 3, 83, 0) := by decide +kernel
theorem gx121_83 : aF 83 zM121.2.2.2.2.2.2.2 = some (83, (.iconst 0), 1, 0, 0) := by decide +kernel
theorem gx121_84 : aF 84 zM121.2.2.2.2.2.2.2 = some (84, .ireturn, 1, 0, 0) := by decide +kernel
theorem gx121_15 : aF 15 zM121.2.2.2.2.2.2.2 = some (15, (.aload_n 0), 1, 0, 0) := by decide +kernel
theorem gx121_16 : aF 16 zM121.2.2.2.2.2.2.2 = some (16, (.iconst 0), 1, 0, 0) := by decide +kernel
theorem gx121_17 : aF 17 zM121.2.2.2.2.2.2.2 = some (17, (.invokevirtual 62), 3, 128, 0) := by decide +kernel
theorem gx121_20 : aF 20 zM121.2.2.2.2.2.2.2 = some (20, (.istore 4), 2, 0, 0) := by decide +kernel
theorem gx121_22 : aF 22 zM121.2.2.2.2.2.2.2 = some (22, (.iconst 1), 1, 0, 0) := by decide +kernel
theorem gx121_23 : aF 23 zM121.2.2.2.2.2.2.2 = some (23, (.istore 5), 2, 0, 0) := by decide +kernel
theorem gx121_25 : aF 25 zM121.2.2.2.2.2.2.2 = some (25, (.aload_n 0), 1, 0, 0) := by decide +kernel
theorem gx121_26 : aF 26 zM121.2.2.2.2.2.2.2 = some (26, (.bipush 63), 2, 0, 0) := by decide +kernel
theorem gx121_28 : aF 28 zM121.2.2.2.2.2.2.2 = some (28, (.invokevirtual 65), 3, 125, 0) := by decide +kernel
theorem gx121_31 : aF 31 zM121.2.2.2.2.2.2.2 = some (31, (.ifCond .eq 22), 3, 53, 0) := by decide +kernel
theorem gx121_53 : aF 53 zM121.2.2.2.2.2.2.2 = some (53, (.iload 5), 2, 0, 0) := by decide +kernel
theorem gx121_55 : aF 55 zM121.2.2.2.2.2.2.2 = some (55, (.ifCond .eq 11), 3, 66, 0) := by decide +kernel
theorem gx121_58 : aF 58 zM121.2.2.2.2.2.2.2 = some (58, (.aload_n 0), 1, 0, 0) := by decide +kernel
theorem gx121_59 : aF 59 zM121.2.2.2.2.2.2.2 = some (59, (.iload_n 3), 1, 0, 0) := by decide +kernel
theorem gx121_60 : aF 60 zM121.2.2.2.2.2.2.2 = some (60, (.putfield 69), 3, 10, 14) := by decide +kernel
theorem gx121_63 : aF 63 zM121.2.2.2.2.2.2.2 = some (63, (.iload 4), 2, 0, 0) := by decide +kernel
theorem gx121_65 : aF 65 zM121.2.2.2.2.2.2.2 = some (65, .ireturn, 1, 0, 0) := by decide +kernel
theorem gx121_34 : aF 34 zM121.2.2.2.2.2.2.2 = some (34, (.iload 4), 2, 0, 0) := by decide +kernel
theorem gx121_36 : aF 36 zM121.2.2.2.2.2.2.2 = some (36, (.ifCond .eq 7), 3, 43, 0) := by decide +kernel
theorem gx121_43 : aF 43 zM121.2.2.2.2.2.2.2 = some (43, (.iconst 0), 1, 0, 0) := by decide +kernel
theorem gx121_44 : aF 44 zM121.2.2.2.2.2.2.2 = some (44, (.istore 5), 2, 0, 0) := by decide +kernel
theorem gx121_46 : aF 46 zM121.2.2.2.2.2.2.2 = some (46, (.aload_n 0), 1, 0, 0) := by decide +kernel
theorem gx121_47 : aF 47 zM121.2.2.2.2.2.2.2 = some (47, (.iconst 0), 1, 0, 0) := by decide +kernel
theorem gx121_48 : aF 48 zM121.2.2.2.2.2.2.2 = some (48, (.invokevirtual 62), 3, 128, 0) := by decide +kernel
theorem gx121_51 : aF 51 zM121.2.2.2.2.2.2.2 = some (51, (.istore 4), 2, 0, 0) := by decide +kernel
theorem gx121_66 : aF 66 zM121.2.2.2.2.2.2.2 = some (66, (.aload_n 0), 1, 0, 0) := by decide +kernel
theorem gx121_67 : aF 67 zM121.2.2.2.2.2.2.2 = some (67, (.bipush 59), 2, 0, 0) := by decide +kernel
theorem gx121_69 : aF 69 zM121.2.2.2.2.2.2.2 = some (69, (.invokevirtual 65), 3, 125, 0) := by decide +kernel
theorem gx121_72 : aF 72 zM121.2.2.2.2.2.2.2 = some (72, (.ifCond .ne 5), 3, 77, 0) := by decide +kernel
theorem gx121_77 : aF 77 zM121.2.2.2.2.2.2.2 = some (77, (.iinc 3 1), 3, 0, 0) := by decide +kernel
theorem gx121_80 : aF 80 zM121.2.2.2.2.2.2.2 = some (80, (.goto (-72)), 3, 8, 0) := by decide +kernel
theorem gx121_75 : aF 75 zM121.2.2.2.2.2.2.2 = some (75, (.iconst 0), 1, 0, 0) := by decide +kernel
theorem gx121_76 : aF 76 zM121.2.2.2.2.2.2.2 = some (76, .ireturn, 1, 0, 0) := by decide +kernel
theorem gx121_39 : aF 39 zM121.2.2.2.2.2.2.2 = some (39, (.iconst 1), 1, 0, 0) := by decide +kernel
theorem gx121_40 : aF 40 zM121.2.2.2.2.2.2.2 = some (40, (.goto 4), 3, 44, 0) := by decide +kernel
theorem gx11_0 : aF 0 zM11.2.2.2.2.2.2.2 = some (0, (.iload_n 2), 1, 0, 0) := by decide +kernel
theorem gx11_1 : aF 1 zM11.2.2.2.2.2.2.2 = some (1, (.iconst (-1)), 1, 0, 0) := by decide +kernel
theorem gx11_2 : aF 2 zM11.2.2.2.2.2.2.2 = some (2, (.if_icmp .eq 18), 3, 20, 0) := by decide +kernel
theorem gx11_20 : aF 20 zM11.2.2.2.2.2.2.2 = some (20, (.iconst 1), 1, 0, 0) := by decide +kernel
theorem gx11_21 : aF 21 zM11.2.2.2.2.2.2.2 = some (21, (.goto 4), 3, 25, 0) := by decide +kernel
theorem gx11_25 : aF 25 zM11.2.2.2.2.2.2.2 = some (25, (.istore_n 3), 1, 0, 0) := by decide +kernel
theorem gx11_26 : aF 26 zM11.2.2.2.2.2.2.2 = some (26, (.iload_n 3), 1, 0, 0) := by decide +kernel
theorem gx11_27 : aF 27 zM11.2.2.2.2.2.2.2 = some (27, (.ifCond .eq 22), 3, 49, 0) := by decide +kernel
theorem gx11_30 : aF 30 zM11.2.2.2.2.2.2.2 = some (30, (.iload_n 1), 1, 0, 0) := by decide +kernel
theorem gx11_31 : aF 31 zM11.2.2.2.2.2.2.2 = some (31, .i2l, 1, 0, 0) := by decide +kernel
theorem gx11_32 : aF 32 zM11.2.2.2.2.2.2.2 = some (32, (.iload_n 1), 1, 0, 0) := by decide +kernel
theorem gx11_33 : aF 33 zM11.2.2.2.2.2.2.2 = some (33, .i2l, 1, 0, 0) := by decide +kernel
theorem gx11_34 : aF 34 zM11.2.2.2.2.2.2.2 = some (34, (.ldc2_w 204), 3, 3, 0) := by decide +kernel
theorem gx11_37 : aF 37 zM11.2.2.2.2.2.2.2 = some (37, .lmul, 1, 0, 0) := by decide +kernel
theorem gx11_38 : aF 38 zM11.2.2.2.2.2.2.2 = some (38, (.ldc2_w 206), 3, 10, 0) := by decide +kernel
theorem gx11_41 : aF 41 zM11.2.2.2.2.2.2.2 = some (41, .ldiv, 1, 0, 0) := by decide +kernel
theorem gx11_42 : aF 42 zM11.2.2.2.2.2.2.2 = some (42, .ladd, 1, 0, 0) := by decide +kernel
theorem gx11_43 : aF 43 zM11.2.2.2.2.2.2.2 = some (43, (.invokestatic 182), 3, 9, 0) := by decide +kernel
theorem gx11_46 : aF 46 zM11.2.2.2.2.2.2.2 = some (46, (.goto 4), 3, 50, 0) := by decide +kernel
theorem gx11_50 : aF 50 zM11.2.2.2.2.2.2.2 = some (50, .ireturn, 1, 0, 0) := by decide +kernel
theorem gx11_5 : aF 5 zM11.2.2.2.2.2.2.2 = some (5, (.aload_n 0), 1, 0, 0) := by decide +kernel
theorem gx11_6 : aF 6 zM11.2.2.2.2.2.2.2 = some (6, (.getfield 41), 3, 0, 2) := by decide +kernel
theorem gx11_9 : aF 9 zM11.2.2.2.2.2.2.2 = some (9, (.iload_n 2), 1, 0, 0) := by decide +kernel
theorem gx11_10 : aF 10 zM11.2.2.2.2.2.2.2 = some (10, (.aload_n 0), 1, 0, 0) := by decide +kernel
theorem gx11_11 : aF 11 zM11.2.2.2.2.2.2.2 = some (11, (.getfield 17), 3, 0, 4) := by decide +kernel
theorem gx11_14 : aF 14 zM11.2.2.2.2.2.2.2 = some (14, (.invokevirtual 174), 3, 121, 0) := by decide +kernel
theorem gx11_17 : aF 17 zM11.2.2.2.2.2.2.2 = some (17, (.ifCond .eq 7), 3, 24, 0) := by decide +kernel
theorem gx11_24 : aF 24 zM11.2.2.2.2.2.2.2 = some (24, (.iconst 0), 1, 0, 0) := by decide +kernel
theorem gx11_49 : aF 49 zM11.2.2.2.2.2.2.2 = some (49, (.iload_n 1), 1, 0, 0) := by decide +kernel
theorem gx12_0 : aF 0 zM12.2.2.2.2.2.2.2 = some (0, (.iload_n 2), 1, 0, 0) := by decide +kernel
theorem gx12_1 : aF 1 zM12.2.2.2.2.2.2.2 = some (1, (.iconst (-1)), 1, 0, 0) := by decide +kernel
theorem gx12_2 : aF 2 zM12.2.2.2.2.2.2.2 = some (2, (.if_icmp .ne 5), 3, 7, 0) := by decide +kernel
theorem gx12_7 : aF 7 zM12.2.2.2.2.2.2.2 = some (7, (.aload_n 0), 1, 0, 0) := by decide +kernel
theorem gx12_8 : aF 8 zM12.2.2.2.2.2.2.2 = some (8, (.getfield 17), 3, 0, 4) := by decide +kernel
theorem gx12_11 : aF 11 zM12.2.2.2.2.2.2.2 = some (11, (.bipush 10), 2, 0, 0) := by decide +kernel
theorem gx12_13 : aF 13 zM12.2.2.2.2.2.2.2 = some (13, (.iload_n 1), 1, 0, 0) := by decide +kernel
theorem gx12_14 : aF 14 zM12.2.2.2.2.2.2.2 = some (14, .iastore, 1, 0, 0) := by decide +kernel
theorem gx12_15 : aF 15 zM12.2.2.2.2.2.2.2 = some (15, (.aload_n 0), 1, 0, 0) := by decide +kernel
theorem gx12_16 : aF 16 zM12.2.2.2.2.2.2.2 = some (16, (.getfield 41), 3, 0, 2) := by decide +kernel
theorem gx12_19 : aF 19 zM12.2.2.2.2.2.2.2 = some (19, (.iload_n 2), 1, 0, 0) := by decide +kernel
theorem gx12_20 : aF 20 zM12.2.2.2.2.2.2.2 = some (20, (.aload_n 0), 1, 0, 0) := by decide +kernel
theorem gx12_21 : aF 21 zM12.2.2.2.2.2.2.2 = some (21, (.getfield 17), 3, 0, 4) := by decide +kernel
theorem gx12_24 : aF 24 zM12.2.2.2.2.2.2.2 = some (24, (.invokevirtual 174), 3, 121, 0) := by decide +kernel
theorem gx12_27 : aF 27 zM12.2.2.2.2.2.2.2 = some (27, (.istore_n 3), 1, 0, 0) := by decide +kernel
theorem gx12_28 : aF 28 zM12.2.2.2.2.2.2.2 = some (28, (.aload_n 0), 1, 0, 0) := by decide +kernel
theorem gx12_29 : aF 29 zM12.2.2.2.2.2.2.2 = some (29, (.getfield 17), 3, 0, 4) := by decide +kernel
theorem gx12_32 : aF 32 zM12.2.2.2.2.2.2.2 = some (32, (.bipush 10), 2, 0, 0) := by decide +kernel
theorem gx12_34 : aF 34 zM12.2.2.2.2.2.2.2 = some (34, (.iconst 0), 1, 0, 0) := by decide +kernel
theorem gx12_35 : aF 35 zM12.2.2.2.2.2.2.2 = some (35, .iastore, 1, 0, 0) := by decide +kernel
theorem gx12_36 : aF 36 zM12.2.2.2.2.2.2.2 = some (36, (.iconst 0), 1, 0, 0) := by decide +kernel
theorem gx12_37 : aF 37 zM12.2.2.2.2.2.2.2 = some (37, (.iload_n 1), 1, 0, 0) := by decide +kernel
theorem gx12_38 : aF 38 zM12.2.2.2.2.2.2.2 = some (38, (.iload_n 3), 1, 0, 0) := by decide +kernel
theorem gx12_39 : aF 39 zM12.2.2.2.2.2.2.2 = some (39, (.invokestatic 171), 3, 1011, 0) := by decide +kernel
theorem gx12_42 : aF 42 zM12.2.2.2.2.2.2.2 = some (42, (.invokestatic 140), 3, 1010, 0) := by decide +kernel
theorem gx12_45 : aF 45 zM12.2.2.2.2.2.2.2 = some (45, .ireturn, 1, 0, 0) := by decide +kernel
theorem gx12_5 : aF 5 zM12.2.2.2.2.2.2.2 = some (5, (.iload_n 1), 1, 0, 0) := by decide +kernel
theorem gx12_6 : aF 6 zM12.2.2.2.2.2.2.2 = some (6, .ireturn, 1, 0, 0) := by decide +kernel
theorem gx13_0 : aF 0 zM13.2.2.2.2.2.2.2 = some (0, (.aload_n 0), 1, 0, 0) := by decide +kernel
theorem gx13_1 : aF 1 zM13.2.2.2.2.2.2.2 = some (1, (.iconst (-1)), 1, 0, 0) := by decide +kernel
theorem gx13_2 : aF 2 zM13.2.2.2.2.2.2.2 = some (2, (.putfield 208), 3, 0, 7) := by decide +kernel
theorem gx13_5 : aF 5 zM13.2.2.2.2.2.2.2 = some (5, (.iload_n 2), 1, 0, 0) := by decide +kernel
theorem gx13_6 : aF 6 zM13.2.2.2.2.2.2.2 = some (6, (.iconst (-1)), 1, 0, 0) := by decide +kernel
theorem gx13_7 : aF 7 zM13.2.2.2.2.2.2.2 = some (7, (.if_icmp .ne 5), 3, 12, 0) := by decide +kernel
theorem gx13_12 : aF 12 zM13.2.2.2.2.2.2.2 = some (12, (.iconst 0), 1, 0, 0) := by decide +kernel
theorem gx13_13 : aF 13 zM13.2.2.2.2.2.2.2 = some (13, (.bipush 100), 2, 0, 0) := by decide +kernel
theorem gx13_15 : aF 15 zM13.2.2.2.2.2.2.2 = some (15, (.aload_n 0), 1, 0, 0) := by decide +kernel
theorem gx13_16 : aF 16 zM13.2.2.2.2.2.2.2 = some (16, (.getfield 41), 3, 0, 2) := by decide +kernel
theorem gx13_19 : aF 19 zM13.2.2.2.2.2.2.2 = some (19, (.iload_n 2), 1, 0, 0) := by decide +kernel
theorem gx13_20 : aF 20 zM13.2.2.2.2.2.2.2 = some (20, (.aload_n 0), 1, 0, 0) := by decide +kernel
theorem gx13_21 : aF 21 zM13.2.2.2.2.2.2.2 = some (21, (.getfield 17), 3, 0, 4) := by decide +kernel
theorem gx13_24 : aF 24 zM13.2.2.2.2.2.2.2 = some (24, (.invokevirtual 174), 3, 121, 0) := by decide +kernel
theorem gx13_27 : aF 27 zM13.2.2.2.2.2.2.2 = some (27, (.invokestatic 171), 3, 1011, 0) := by decide +kernel
theorem gx13_30 : aF 30 zM13.2.2.2.2.2.2.2 = some (30, (.invokestatic 140), 3, 1010, 0) := by decide +kernel
theorem gx13_33 : aF 33 zM13.2.2.2.2.2.2.2 = some (33, (.istore_n 3), 1, 0, 0) := by decide +kernel
theorem gx13_34 : aF 34 zM13.2.2.2.2.2.2.2 = some (34, (.aload_n 0), 1, 0, 0) := by decide +kernel
theorem gx13_35 : aF 35 zM13.2.2.2.2.2.2.2 = some (35, (.aload_n 0), 1, 0, 0) := by decide +kernel
theorem gx13_36 : aF 36 zM13.2.2.2.2.2.2.2 = some (36, (.getfield 41), 3, 0, 2) := by decide +kernel
theorem gx13_39 : aF 39 zM13.2.2.2.2.2.2.2 = some (39, (.getfield 211), 3, 10, 14) := by decide +kernel
theorem gx13_42 : aF 42 zM13.2.2.2.2.2.2.2 = some (42, (.putfield 208), 3, 0, 7) := by decide +kernel
theorem gx13_45 : aF 45 zM13.2.2.2.2.2.2.2 = some (45, (.aload_n 0), 1, 0, 0) := by decide +kernel
theorem gx13_46 : aF 46 zM13.2.2.2.2.2.2.2 = some (46, (.getfield 17), 3, 0, 4) := by decide +kernel
theorem gx13_49 : aF 49 zM13.2.2.2.2.2.2.2 = some (49, (.bipush 11), 2, 0, 0) := by decide +kernel
theorem gx13_51 : aF 51 zM13.2.2.2.2.2.2.2 = some (51, .iaload, 1, 0, 0) := by decide +kernel
theorem gx13_52 : aF 52 zM13.2.2.2.2.2.2.2 = some (52, (.iconst 1), 1, 0, 0) := by decide +kernel
theorem gx13_53 : aF 53 zM13.2.2.2.2.2.2.2 = some (53, (.if_icmp .ne 5), 3, 58, 0) := by decide +kernel
theorem gx13_58 : aF 58 zM13.2.2.2.2.2.2.2 = some (58, (.iload_n 1), 1, 0, 0) := by decide +kernel
theorem gx13_59 : aF 59 zM13.2.2.2.2.2.2.2 = some (59, (.iload_n 1), 1, 0, 0) := by decide +kernel
theorem gx13_60 : aF 60 zM13.2.2.2.2.2.2.2 = some (60, .i2l, 1, 0, 0) := by decide +kernel
theorem gx13_61 : aF 61 zM13.2.2.2.2.2.2.2 = some (61, (.iload_n 3), 1, 0, 0) := by decide +kernel
theorem gx13_62 : aF 62 zM13.2.2.2.2.2.2.2 = some (62, .i2l, 1, 0, 0) := by decide +kernel
theorem gx13_63 : aF 63 zM13.2.2.2.2.2.2.2 = some (63, .lmul, 1, 0, 0) := by decide +kernel
theorem gx13_64 : aF 64 zM13.2.2.2.2.2.2.2 = some (64, (.ldc2_w 214), 3, 99, 0) := by decide +kernel
theorem gx13_67 : aF 67 zM13.2.2.2.2.2.2.2 = some (67, .ladd, 1, 0, 0) := by decide +kernel
theorem gx13_68 : aF 68 zM13.2.2.2.2.2.2.2 = some (68, (.ldc2_w 195), 3, 100, 0) := by decide +kernel
theorem gx13_71 : aF 71 zM13.2.2.2.2.2.2.2 = some (71, .ldiv, 1, 0, 0) := by decide +kernel
theorem gx13_72 : aF 72 zM13.2.2.2.2.2.2.2 = some (72, .l2i, 1, 0, 0) := by decide +kernel
theorem gx13_73 : aF 73 zM13.2.2.2.2.2.2.2 = some (73, .isub, 1, 0, 0) := by decide +kernel
theorem gx13_74 : aF 74 zM13.2.2.2.2.2.2.2 = some (74, .ireturn, 1, 0, 0) := by decide +kernel
theorem gx13_56 : aF 56 zM13.2.2.2.2.2.2.2 = some (56, (.iload_n 1), 1, 0, 0) := by decide +kernel
theorem gx13_57 : aF 57 zM13.2.2.2.2.2.2.2 = some (57, .ireturn, 1, 0, 0) := by decide +kernel
theorem gx13_10 : aF 10 zM13.2.2.2.2.2.2.2 = some (10, (.iload_n 1), 1, 0, 0) := by decide +kernel
theorem gx13_11 : aF 11 zM13.2.2.2.2.2.2.2 = some (11, .ireturn, 1, 0, 0) := by decide +kernel
theorem gx8_0 : aF 0 zM8.2.2.2.2.2.2.2 = some (0, (.aload_n 0), 1, 0, 0) := by decide +kernel
theorem gx8_1 : aF 1 zM8.2.2.2.2.2.2.2 = some (1, (.iload_n 1), 1, 0, 0) := by decide +kernel
theorem gx8_2 : aF 2 zM8.2.2.2.2.2.2.2 = some (2, (.iload_n 2), 1, 0, 0) := by decide +kernel
theorem gx8_3 : aF 3 zM8.2.2.2.2.2.2.2 = some (3, (.iload_n 3), 1, 0, 0) := by decide +kernel
theorem gx8_4 : aF 4 zM8.2.2.2.2.2.2.2 = some (4, (.invokevirtual 159), 3, 2, 0) := by decide +kernel
theorem gx8_7 : aF 7 zM8.2.2.2.2.2.2.2 = some (7, (.aload_n 0), 1, 0, 0) := by decide +kernel
theorem gx8_8 : aF 8 zM8.2.2.2.2.2.2.2 = some (8, (.getfield 33), 3, 0, 0) := by decide +kernel
theorem gx8_11 : aF 11 zM8.2.2.2.2.2.2.2 = some (11, (.getfield 163), 3, 6, 8) := by decide +kernel
theorem gx8_14 : aF 14 zM8.2.2.2.2.2.2.2 = some (14, (.iload_n 1), 1, 0, 0) := by decide +kernel
theorem gx8_15 : aF 15 zM8.2.2.2.2.2.2.2 = some (15, .iaload, 1, 0, 0) := by decide +kernel
theorem gx8_16 : aF 16 zM8.2.2.2.2.2.2.2 = some (16, (.bipush 10), 2, 0, 0) := by decide +kernel
theorem gx8_18 : aF 18 zM8.2.2.2.2.2.2.2 = some (18, .imul, 1, 0, 0) := by decide +kernel
theorem gx8_19 : aF 19 zM8.2.2.2.2.2.2.2 = some (19, (.istore 5), 2, 0, 0) := by decide +kernel
theorem gx8_21 : aF 21 zM8.2.2.2.2.2.2.2 = some (21, (.iload 4), 2, 0, 0) := by decide +kernel
theorem gx8_23 : aF 23 zM8.2.2.2.2.2.2.2 = some (23, (.iconst (-1)), 1, 0, 0) := by decide +kernel
theorem gx8_24 : aF 24 zM8.2.2.2.2.2.2.2 = some (24, (.if_icmp .ne 19), 3, 43, 0) := by decide +kernel
theorem gx8_43 : aF 43 zM8.2.2.2.2.2.2.2 = some (43, (.iload 4), 2, 0, 0) := by decide +kernel
theorem gx8_27 : aF 27 zM8.2.2.2.2.2.2.2 = some (27, (.aload_n 0), 1, 0, 0) := by decide +kernel
theorem gx8_28 : aF 28 zM8.2.2.2.2.2.2.2 = some (28, (.getfield 41), 3, 0, 2) := by decide +kernel
theorem gx8_31 : aF 31 zM8.2.2.2.2.2.2.2 = some (31, (.iload 5), 2, 0, 0) := by decide +kernel
theorem gx8_33 : aF 33 zM8.2.2.2.2.2.2.2 = some (33, (.iconst 0), 1, 0, 0) := by decide +kernel
theorem gx8_34 : aF 34 zM8.2.2.2.2.2.2.2 = some (34, .iadd, 1, 0, 0) := by decide +kernel
theorem gx8_35 : aF 35 zM8.2.2.2.2.2.2.2 = some (35, (.iload_n 2), 1, 0, 0) := by decide +kernel
theorem gx8_36 : aF 36 zM8.2.2.2.2.2.2.2 = some (36, (.iload_n 3), 1, 0, 0) := by decide +kernel
theorem gx8_37 : aF 37 zM8.2.2.2.2.2.2.2 = some (37, (.invokevirtual 166), 3, 120, 0) := by decide +kernel
theorem gx8_40 : aF 40 zM8.2.2.2.2.2.2.2 = some (40, (.goto 5), 3, 45, 0) := by decide +kernel
theorem gx8_45 : aF 45 zM8.2.2.2.2.2.2.2 = some (45, (.istore 6), 2, 0, 0) := by decide +kernel
theorem gx8_47 : aF 47 zM8.2.2.2.2.2.2.2 = some (47, (.aload_n 0), 1, 0, 0) := by decide +kernel
theorem gx8_48 : aF 48 zM8.2.2.2.2.2.2.2 = some (48, (.getfield 17), 3, 0, 4) := by decide +kernel
theorem gx8_51 : aF 51 zM8.2.2.2.2.2.2.2 = some (51, (.iconst 3), 1, 0, 0) := by decide +kernel
theorem gx8_52 : aF 52 zM8.2.2.2.2.2.2.2 = some (52, .iaload, 1, 0, 0) := by decide +kernel
theorem gx8_53 : aF 53 zM8.2.2.2.2.2.2.2 = some (53, (.bipush 10), 2, 0, 0) := by decide +kernel
theorem gx8_55 : aF 55 zM8.2.2.2.2.2.2.2 = some (55, (.aload_n 0), 1, 0, 0) := by decide +kernel
theorem gx8_56 : aF 56 zM8.2.2.2.2.2.2.2 = some (56, (.getfield 17), 3, 0, 4) := by decide +kernel
theorem gx8_59 : aF 59 zM8.2.2.2.2.2.2.2 = some (59, (.bipush 9), 2, 0, 0) := by decide +kernel
theorem gx8_61 : aF 61 zM8.2.2.2.2.2.2.2 = some (61, .iaload, 1, 0, 0) := by decide +kernel
theorem gx8_62 : aF 62 zM8.2.2.2.2.2.2.2 = some (62, .imul, 1, 0, 0) := by decide +kernel
theorem gx8_63 : aF 63 zM8.2.2.2.2.2.2.2 = some (63, (.invokestatic 171), 3, 1011, 0) := by decide +kernel
theorem gx8_66 : aF 66 zM8.2.2.2.2.2.2.2 = some (66, (.istore 7), 2, 0, 0) := by decide +kernel
theorem gx8_68 : aF 68 zM8.2.2.2.2.2.2.2 = some (68, (.iload 6), 2, 0, 0) := by decide +kernel
theorem gx8_70 : aF 70 zM8.2.2.2.2.2.2.2 = some (70, (.iconst (-1)), 1, 0, 0) := by decide +kernel
theorem gx8_71 : aF 71 zM8.2.2.2.2.2.2.2 = some (71, (.if_icmp .ne 7), 3, 78, 0) := by decide +kernel
theorem gx8_78 : aF 78 zM8.2.2.2.2.2.2.2 = some (78, (.aload_n 0), 1, 0, 0) := by decide +kernel
theorem gx8_79 : aF 79 zM8.2.2.2.2.2.2.2 = some (79, (.getfield 41), 3, 0, 2) := by decide +kernel
theorem gx8_82 : aF 82 zM8.2.2.2.2.2.2.2 = some (82, (.iload 6), 2, 0, 0) := by decide +kernel
theorem gx8_84 : aF 84 zM8.2.2.2.2.2.2.2 = some (84, (.aload_n 0), 1, 0, 0) := by decide +kernel
theorem gx8_85 : aF 85 zM8.2.2.2.2.2.2.2 = some (85, (.getfield 17), 3, 0, 4) := by decide +kernel
theorem gx8_88 : aF 88 zM8.2.2.2.2.2.2.2 = some (88, (.invokevirtual 174), 3, 121, 0) := by decide +kernel
theorem gx8_91 : aF 91 zM8.2.2.2.2.2.2.2 = some (91, .i2l, 1, 0, 0) := by decide +kernel
theorem gx8_74 : aF 74 zM8.2.2.2.2.2.2.2 = some (74, (.lconst 1), 1, 0, 0) := by decide +kernel
theorem gx8_75 : aF 75 zM8.2.2.2.2.2.2.2 = some (75, (.goto 17), 3, 92, 0) := by decide +kernel
theorem gx8_92 : aF 92 zM8.2.2.2.2.2.2.2 = some (92, (.lstore 8), 2, 0, 0) := by decide +kernel
theorem gx8_94 : aF 94 zM8.2.2.2.2.2.2.2 = some (94, (.aload_n 0), 1, 0, 0) := by decide +kernel
theorem gx8_95 : aF 95 zM8.2.2.2.2.2.2.2 = some (95, (.getfield 24), 3, 0, 6) := by decide +kernel
theorem gx8_98 : aF 98 zM8.2.2.2.2.2.2.2 = some (98, (.iconst 1), 1, 0, 0) := by decide +kernel
theorem gx8_99 : aF 99 zM8.2.2.2.2.2.2.2 = some (99, (.lload 8), 2, 0, 0) := by decide +kernel
theorem gx8_101 : aF 101 zM8.2.2.2.2.2.2.2 = some (101, (.iload 7), 2, 0, 0) := by decide +kernel
theorem gx8_103 : aF 103 zM8.2.2.2.2.2.2.2 = some (103, .i2l, 1, 0, 0) := by decide +kernel
theorem gx8_104 : aF 104 zM8.2.2.2.2.2.2.2 = some (104, .lmul, 1, 0, 0) := by decide +kernel
theorem gx8_105 : aF 105 zM8.2.2.2.2.2.2.2 = some (105, (.aload_n 0), 1, 0, 0) := by decide +kernel
theorem gx8_106 : aF 106 zM8.2.2.2.2.2.2.2 = some (106, (.iload 7), 2, 0, 0) := by decide +kernel
theorem gx8_108 : aF 108 zM8.2.2.2.2.2.2.2 = some (108, (.iload_n 1), 1, 0, 0) := by decide +kernel
theorem gx8_109 : aF 109 zM8.2.2.2.2.2.2.2 = some (109, (.iload_n 2), 1, 0, 0) := by decide +kernel
theorem gx8_110 : aF 110 zM8.2.2.2.2.2.2.2 = some (110, (.iload_n 3), 1, 0, 0) := by decide +kernel
theorem gx8_111 : aF 111 zM8.2.2.2.2.2.2.2 = some (111, (.invokevirtual 178), 3, 10, 0) := by decide +kernel
theorem gx8_114 : aF 114 zM8.2.2.2.2.2.2.2 = some (114, .ladd, 1, 0, 0) := by decide +kernel
theorem gx8_115 : aF 115 zM8.2.2.2.2.2.2.2 = some (115, (.invokestatic 182), 3, 9, 0) := by decide +kernel
theorem gx8_118 : aF 118 zM8.2.2.2.2.2.2.2 = some (118, .iastore, 1, 0, 0) := by decide +kernel
theorem gx8_119 : aF 119 zM8.2.2.2.2.2.2.2 = some (119, (.aload_n 0), 1, 0, 0) := by decide +kernel
theorem gx8_120 : aF 120 zM8.2.2.2.2.2.2.2 = some (120, (.getfield 24), 3, 0, 6) := by decide +kernel
theorem gx8_123 : aF 123 zM8.2.2.2.2.2.2.2 = some (123, (.iconst 2), 1, 0, 0) := by decide +kernel
theorem gx8_124 : aF 124 zM8.2.2.2.2.2.2.2 = some (124, (.aload_n 0), 1, 0, 0) := by decide +kernel
theorem gx8_125 : aF 125 zM8.2.2.2.2.2.2.2 = some (125, (.aload_n 0), 1, 0, 0) := by decide +kernel
theorem gx8_126 : aF 126 zM8.2.2.2.2.2.2.2 = some (126, (.getfield 24), 3, 0, 6) := by decide +kernel
theorem gx8_129 : aF 129 zM8.2.2.2.2.2.2.2 = some (129, (.iconst 1), 1, 0, 0) := by decide +kernel
theorem gx8_130 : aF 130 zM8.2.2.2.2.2.2.2 = some (130, .iaload, 1, 0, 0) := by decide +kernel
theorem gx8_131 : aF 131 zM8.2.2.2.2.2.2.2 = some (131, (.aload_n 0), 1, 0, 0) := by decide +kernel
theorem gx8_132 : aF 132 zM8.2.2.2.2.2.2.2 = some (132, (.getfield 41), 3, 0, 2) := by decide +kernel
theorem gx8_135 : aF 135 zM8.2.2.2.2.2.2.2 = some (135, (.iload 5), 2, 0, 0) := by decide +kernel
theorem gx8_137 : aF 137 zM8.2.2.2.2.2.2.2 = some (137, (.iconst 1), 1, 0, 0) := by decide +kernel
theorem gx8_138 : aF 138 zM8.2.2.2.2.2.2.2 = some (138, .iadd, 1, 0, 0) := by decide +kernel
theorem gx8_139 : aF 139 zM8.2.2.2.2.2.2.2 = some (139, (.iload_n 2), 1, 0, 0) := by decide +kernel
theorem gx8_140 : aF 140 zM8.2.2.2.2.2.2.2 = some (140, (.iload_n 3), 1, 0, 0) := by decide +kernel
theorem gx8_141 : aF 141 zM8.2.2.2.2.2.2.2 = some (141, (.invokevirtual 166), 3, 120, 0) := by decide +kernel
theorem gx8_144 : aF 144 zM8.2.2.2.2.2.2.2 = some (144, (.invokevirtual 186), 3, 11, 0) := by decide +kernel
theorem gx8_147 : aF 147 zM8.2.2.2.2.2.2.2 = some (147, .iastore, 1, 0, 0) := by decide +kernel
theorem gx8_148 : aF 148 zM8.2.2.2.2.2.2.2 = some (148, (.aload_n 0), 1, 0, 0) := by decide +kernel
theorem gx8_149 : aF 149 zM8.2.2.2.2.2.2.2 = some (149, (.getfield 24), 3, 0, 6) := by decide +kernel
theorem gx8_152 : aF 152 zM8.2.2.2.2.2.2.2 = some (152, (.iconst 3), 1, 0, 0) := by decide +kernel
theorem gx8_153 : aF 153 zM8.2.2.2.2.2.2.2 = some (153, (.aload_n 0), 1, 0, 0) := by decide +kernel
theorem gx8_154 : aF 154 zM8.2.2.2.2.2.2.2 = some (154, (.aload_n 0), 1, 0, 0) := by decide +kernel
theorem gx8_155 : aF 155 zM8.2.2.2.2.2.2.2 = some (155, (.getfield 24), 3, 0, 6) := by decide +kernel
theorem gx8_158 : aF 158 zM8.2.2.2.2.2.2.2 = some (158, (.iconst 2), 1, 0, 0) := by decide +kernel
theorem gx8_159 : aF 159 zM8.2.2.2.2.2.2.2 = some (159, .iaload, 1, 0, 0) := by decide +kernel
theorem gx8_160 : aF 160 zM8.2.2.2.2.2.2.2 = some (160, (.aload_n 0), 1, 0, 0) := by decide +kernel
theorem gx8_161 : aF 161 zM8.2.2.2.2.2.2.2 = some (161, (.getfield 41), 3, 0, 2) := by decide +kernel
theorem gx8_164 : aF 164 zM8.2.2.2.2.2.2.2 = some (164, (.iload 5), 2, 0, 0) := by decide +kernel
theorem gx8_166 : aF 166 zM8.2.2.2.2.2.2.2 = some (166, (.iconst 2), 1, 0, 0) := by decide +kernel
theorem gx8_167 : aF 167 zM8.2.2.2.2.2.2.2 = some (167, .iadd, 1, 0, 0) := by decide +kernel
theorem gx8_168 : aF 168 zM8.2.2.2.2.2.2.2 = some (168, (.iload_n 2), 1, 0, 0) := by decide +kernel
theorem gx8_169 : aF 169 zM8.2.2.2.2.2.2.2 = some (169, (.iload_n 3), 1, 0, 0) := by decide +kernel
theorem gx8_170 : aF 170 zM8.2.2.2.2.2.2.2 = some (170, (.invokevirtual 166), 3, 120, 0) := by decide +kernel
theorem gx8_173 : aF 173 zM8.2.2.2.2.2.2.2 = some (173, (.invokevirtual 189), 3, 12, 0) := by decide +kernel
theorem gx8_176 : aF 176 zM8.2.2.2.2.2.2.2 = some (176, .iastore, 1, 0, 0) := by decide +kernel
theorem gx8_177 : aF 177 zM8.2.2.2.2.2.2.2 = some (177, (.aload_n 0), 1, 0, 0) := by decide +kernel
theorem gx8_178 : aF 178 zM8.2.2.2.2.2.2.2 = some (178, (.getfield 24), 3, 0, 6) := by decide +kernel
theorem gx8_181 : aF 181 zM8.2.2.2.2.2.2.2 = some (181, (.iconst 4), 1, 0, 0) := by decide +kernel
theorem gx8_182 : aF 182 zM8.2.2.2.2.2.2.2 = some (182, (.aload_n 0), 1, 0, 0) := by decide +kernel
theorem gx8_183 : aF 183 zM8.2.2.2.2.2.2.2 = some (183, (.aload_n 0), 1, 0, 0) := by decide +kernel
theorem gx8_184 : aF 184 zM8.2.2.2.2.2.2.2 = some (184, (.getfield 24), 3, 0, 6) := by decide +kernel
theorem gx8_187 : aF 187 zM8.2.2.2.2.2.2.2 = some (187, (.iconst 3), 1, 0, 0) := by decide +kernel
theorem gx8_188 : aF 188 zM8.2.2.2.2.2.2.2 = some (188, .iaload, 1, 0, 0) := by decide +kernel
theorem gx8_189 : aF 189 zM8.2.2.2.2.2.2.2 = some (189, (.aload_n 0), 1, 0, 0) := by decide +kernel
theorem gx8_190 : aF 190 zM8.2.2.2.2.2.2.2 = some (190, (.getfield 41), 3, 0, 2) := by decide +kernel
theorem gx8_193 : aF 193 zM8.2.2.2.2.2.2.2 = some (193, (.iload 5), 2, 0, 0) := by decide +kernel
theorem gx8_195 : aF 195 zM8.2.2.2.2.2.2.2 = some (195, (.iconst 3), 1, 0, 0) := by decide +kernel
theorem gx8_196 : aF 196 zM8.2.2.2.2.2.2.2 = some (196, .iadd, 1, 0, 0) := by decide +kernel
theorem gx8_197 : aF 197 zM8.2.2.2.2.2.2.2 = some (197, (.iload_n 2), 1, 0, 0) := by decide +kernel
theorem gx8_198 : aF 198 zM8.2.2.2.2.2.2.2 = some (198, (.iload_n 3), 1, 0, 0) := by decide +kernel
theorem gx8_199 : aF 199 zM8.2.2.2.2.2.2.2 = some (199, (.invokevirtual 166), 3, 120, 0) := by decide +kernel
theorem gx8_202 : aF 202 zM8.2.2.2.2.2.2.2 = some (202, (.invokevirtual 192), 3, 13, 0) := by decide +kernel
theorem gx8_205 : aF 205 zM8.2.2.2.2.2.2.2 = some (205, .iastore, 1, 0, 0) := by decide +kernel
theorem gx8_206 : aF 206 zM8.2.2.2.2.2.2.2 = some (206, (.aload_n 0), 1, 0, 0) := by decide +kernel
theorem gx8_207 : aF 207 zM8.2.2.2.2.2.2.2 = some (207, (.getfield 24), 3, 0, 6) := by decide +kernel
theorem gx8_210 : aF 210 zM8.2.2.2.2.2.2.2 = some (210, (.iconst 5), 1, 0, 0) := by decide +kernel
theorem gx8_211 : aF 211 zM8.2.2.2.2.2.2.2 = some (211, (.aload_n 0), 1, 0, 0) := by decide +kernel
theorem gx8_212 : aF 212 zM8.2.2.2.2.2.2.2 = some (212, (.getfield 24), 3, 0, 6) := by decide +kernel
theorem gx8_215 : aF 215 zM8.2.2.2.2.2.2.2 = some (215, (.iconst 4), 1, 0, 0) := by decide +kernel
theorem gx8_216 : aF 216 zM8.2.2.2.2.2.2.2 = some (216, .iaload, 1, 0, 0) := by decide +kernel
theorem gx8_217 : aF 217 zM8.2.2.2.2.2.2.2 = some (217, (.aload_n 0), 1, 0, 0) := by decide +kernel
theorem gx8_218 : aF 218 zM8.2.2.2.2.2.2.2 = some (218, (.getfield 24), 3, 0, 6) := by decide +kernel
theorem gx8_221 : aF 221 zM8.2.2.2.2.2.2.2 = some (221, (.iconst 4), 1, 0, 0) := by decide +kernel
theorem gx8_222 : aF 222 zM8.2.2.2.2.2.2.2 = some (222, .iaload, 1, 0, 0) := by decide +kernel
theorem gx8_223 : aF 223 zM8.2.2.2.2.2.2.2 = some (223, .i2l, 1, 0, 0) := by decide +kernel
theorem gx8_224 : aF 224 zM8.2.2.2.2.2.2.2 = some (224, (.bipush 100), 2, 0, 0) := by decide +kernel
theorem gx8_226 : aF 226 zM8.2.2.2.2.2.2.2 = some (226, (.aload_n 0), 1, 0, 0) := by decide +kernel
theorem gx8_227 : aF 227 zM8.2.2.2.2.2.2.2 = some (227, (.getfield 17), 3, 0, 4) := by decide +kernel
theorem gx8_230 : aF 230 zM8.2.2.2.2.2.2.2 = some (230, (.bipush 7), 2, 0, 0) := by decide +kernel
theorem gx8_232 : aF 232 zM8.2.2.2.2.2.2.2 = some (232, .iaload, 1, 0, 0) := by decide +kernel
theorem gx8_233 : aF 233 zM8.2.2.2.2.2.2.2 = some (233, (.invokestatic 171), 3, 1011, 0) := by decide +kernel
theorem gx8_236 : aF 236 zM8.2.2.2.2.2.2.2 = some (236, .i2l, 1, 0, 0) := by decide +kernel
theorem gx8_237 : aF 237 zM8.2.2.2.2.2.2.2 = some (237, .lmul, 1, 0, 0) := by decide +kernel
theorem gx8_238 : aF 238 zM8.2.2.2.2.2.2.2 = some (238, (.ldc2_w 195), 3, 100, 0) := by decide +kernel
theorem gx8_241 : aF 241 zM8.2.2.2.2.2.2.2 = some (241, .ldiv, 1, 0, 0) := by decide +kernel
theorem gx8_242 : aF 242 zM8.2.2.2.2.2.2.2 = some (242, .l2i, 1, 0, 0) := by decide +kernel
theorem gx8_243 : aF 243 zM8.2.2.2.2.2.2.2 = some (243, .isub, 1, 0, 0) := by decide +kernel
theorem gx8_244 : aF 244 zM8.2.2.2.2.2.2.2 = some (244, .iastore, 1, 0, 0) := by decide +kernel
theorem gx8_245 : aF 245 zM8.2.2.2.2.2.2.2 = some (245, (.aload_n 0), 1, 0, 0) := by decide +kernel
theorem gx8_246 : aF 246 zM8.2.2.2.2.2.2.2 = some (246, (.getfield 24), 3, 0, 6) := by decide +kernel
theorem gx8_249 : aF 249 zM8.2.2.2.2.2.2.2 = some (249, (.iconst 5), 1, 0, 0) := by decide +kernel
theorem gx8_250 : aF 250 zM8.2.2.2.2.2.2.2 = some (250, .iaload, 1, 0, 0) := by decide +kernel
theorem gx8_251 : aF 251 zM8.2.2.2.2.2.2.2 = some (251, .ireturn, 1, 0, 0) := by decide +kernel
theorem gx14_0 : aF 0 zM14.2.2.2.2.2.2.2 = some (0, (.aload_n 0), 1, 0, 0) := by decide +kernel
theorem gx14_1 : aF 1 zM14.2.2.2.2.2.2.2 = some (1, (.iload_n 1), 1, 0, 0) := by decide +kernel
theorem gx14_2 : aF 2 zM14.2.2.2.2.2.2.2 = some (2, (.iload_n 2), 1, 0, 0) := by decide +kernel
theorem gx14_3 : aF 3 zM14.2.2.2.2.2.2.2 = some (3, (.aload_n 0), 1, 0, 0) := by decide +kernel
theorem gx14_4 : aF 4 zM14.2.2.2.2.2.2.2 = some (4, (.getfield 33), 3, 0, 0) := by decide +kernel
theorem gx14_7 : aF 7 zM14.2.2.2.2.2.2.2 = some (7, (.getfield 216), 3, 6, 0) := by decide +kernel
theorem gx14_10 : aF 10 zM14.2.2.2.2.2.2.2 = some (10, (.iconst (-1)), 1, 0, 0) := by decide +kernel
theorem gx14_11 : aF 11 zM14.2.2.2.2.2.2.2 = some (11, (.invokevirtual 219), 3, 8, 0) := by decide +kernel
theorem gx14_14 : aF 14 zM14.2.2.2.2.2.2.2 = some (14, (.istore_n 3), 1, 0, 0) := by decide +kernel
theorem gx14_15 : aF 15 zM14.2.2.2.2.2.2.2 = some (15, (.aload_n 0), 1, 0, 0) := by decide +kernel
theorem gx14_16 : aF 16 zM14.2.2.2.2.2.2.2 = some (16, (.getfield 27), 3, 0, 8) := by decide +kernel
theorem gx14_19 : aF 19 zM14.2.2.2.2.2.2.2 = some (19, (.iload_n 1), 1, 0, 0) := by decide +kernel
theorem gx14_20 : aF 20 zM14.2.2.2.2.2.2.2 = some (20, (.bipush 10), 2, 0, 0) := by decide +kernel
theorem gx14_22 : aF 22 zM14.2.2.2.2.2.2.2 = some (22, .imul, 1, 0, 0) := by decide +kernel
theorem gx14_23 : aF 23 zM14.2.2.2.2.2.2.2 = some (23, (.iload_n 2), 1, 0, 0) := by decide +kernel
theorem gx14_24 : aF 24 zM14.2.2.2.2.2.2.2 = some (24, .iadd, 1, 0, 0) := by decide +kernel
theorem gx14_25 : aF 25 zM14.2.2.2.2.2.2.2 = some (25, (.iload_n 3), 1, 0, 0) := by decide +kernel
theorem gx14_26 : aF 26 zM14.2.2.2.2.2.2.2 = some (26, .iastore, 1, 0, 0) := by decide +kernel
theorem gx14_27 : aF 27 zM14.2.2.2.2.2.2.2 = some (27, (.iload_n 3), 1, 0, 0) := by decide +kernel
theorem gx14_28 : aF 28 zM14.2.2.2.2.2.2.2 = some (28, .ireturn, 1, 0, 0) := by decide +kernel
theorem gx15_0 : aF 0 zM15.2.2.2.2.2.2.2 = some (0, (.lconst 0), 1, 0, 0) := by decide +kernel
theorem gx15_1 : aF 1 zM15.2.2.2.2.2.2.2 = some (1, (.lstore_n 2), 1, 0, 0) := by decide +kernel
theorem gx15_2 : aF 2 zM15.2.2.2.2.2.2.2 = some (2, (.aload_n 0), 1, 0, 0) := by decide +kernel
theorem gx15_3 : aF 3 zM15.2.2.2.2.2.2.2 = some (3, (.getfield 33), 3, 0, 0) := by decide +kernel
theorem gx15_6 : aF 6 zM15.2.2.2.2.2.2.2 = some (6, (.getfield 216), 3, 6, 0) := by decide +kernel
theorem gx15_9 : aF 9 zM15.2.2.2.2.2.2.2 = some (9, (.sipush 365), 3, 0, 0) := by decide +kernel
theorem gx15_12 : aF 12 zM15.2.2.2.2.2.2.2 = some (12, .idiv, 1, 0, 0) := by decide +kernel
theorem gx15_13 : aF 13 zM15.2.2.2.2.2.2.2 = some (13, (.istore 4), 2, 0, 0) := by decide +kernel
theorem gx15_15 : aF 15 zM15.2.2.2.2.2.2.2 = some (15, (.iconst 0), 1, 0, 0) := by decide +kernel
theorem gx15_16 : aF 16 zM15.2.2.2.2.2.2.2 = some (16, (.istore 5), 2, 0, 0) := by decide +kernel
theorem gx15_18 : aF 18 zM15.2.2.2.2.2.2.2 = some (18, (.iload 5), 2, 0, 0) := by decide +kernel
theorem gx15_20 : aF 20 zM15.2.2.2.2.2.2.2 = some (20, (.iload 4), 2, 0, 0) := by decide +kernel
theorem gx15_22 : aF 22 zM15.2.2.2.2.2.2.2 = some (22, (.if_icmp .ge 48), 3, 70, 0) := by decide +kernel
theorem gx15_70 : aF 70 zM15.2.2.2.2.2.2.2 = some (70, (.ldc2_w 223), 3, 18446744071709551617, 0) := by decide +kernel
theorem gx15_73 : aF 73 zM15.2.2.2.2.2.2.2 = some (73, (.ldc2_w 197), 3, 2000000000, 0) := by decide +kernel
theorem gx15_76 : aF 76 zM15.2.2.2.2.2.2.2 = some (76, (.lload_n 2), 1, 0, 0) := by decide +kernel
theorem gx15_77 : aF 77 zM15.2.2.2.2.2.2.2 = some (77, (.invokestatic 199), 3, 1014, 0) := by decide +kernel
theorem gx15_80 : aF 80 zM15.2.2.2.2.2.2.2 = some (80, (.invokestatic 202), 3, 1013, 0) := by decide +kernel
theorem gx15_83 : aF 83 zM15.2.2.2.2.2.2.2 = some (83, .l2i, 1, 0, 0) := by decide +kernel
theorem gx15_84 : aF 84 zM15.2.2.2.2.2.2.2 = some (84, .ireturn, 1, 0, 0) := by decide +kernel
theorem gx15_25 : aF 25 zM15.2.2.2.2.2.2.2 = some (25, (.iload 5), 2, 0, 0) := by decide +kernel
theorem gx15_27 : aF 27 zM15.2.2.2.2.2.2.2 = some (27, (.bipush 10), 2, 0, 0) := by decide +kernel
theorem gx15_29 : aF 29 zM15.2.2.2.2.2.2.2 = some (29, (.if_icmp .ge 41), 3, 70, 0) := by decide +kernel
theorem gx15_32 : aF 32 zM15.2.2.2.2.2.2.2 = some (32, (.lload_n 2), 1, 0, 0) := by decide +kernel
theorem gx15_33 : aF 33 zM15.2.2.2.2.2.2.2 = some (33, (.aload_n 0), 1, 0, 0) := by decide +kernel
theorem gx15_34 : aF 34 zM15.2.2.2.2.2.2.2 = some (34, (.iload_n 1), 1, 0, 0) := by decide +kernel
theorem gx15_35 : aF 35 zM15.2.2.2.2.2.2.2 = some (35, (.iload 5), 2, 0, 0) := by decide +kernel
theorem gx15_37 : aF 37 zM15.2.2.2.2.2.2.2 = some (37, (.aload_n 0), 1, 0, 0) := by decide +kernel
theorem gx15_38 : aF 38 zM15.2.2.2.2.2.2.2 = some (38, (.getfield 33), 3, 0, 0) := by decide +kernel
theorem gx15_41 : aF 41 zM15.2.2.2.2.2.2.2 = some (41, (.getfield 216), 3, 6, 0) := by decide +kernel
theorem gx15_44 : aF 44 zM15.2.2.2.2.2.2.2 = some (44, (.iconst (-1)), 1, 0, 0) := by decide +kernel
theorem gx15_45 : aF 45 zM15.2.2.2.2.2.2.2 = some (45, (.invokevirtual 219), 3, 8, 0) := by decide +kernel
theorem gx15_48 : aF 48 zM15.2.2.2.2.2.2.2 = some (48, (.aload_n 0), 1, 0, 0) := by decide +kernel
theorem gx15_49 : aF 49 zM15.2.2.2.2.2.2.2 = some (49, (.getfield 27), 3, 0, 8) := by decide +kernel
theorem gx15_52 : aF 52 zM15.2.2.2.2.2.2.2 = some (52, (.iload_n 1), 1, 0, 0) := by decide +kernel
theorem gx15_53 : aF 53 zM15.2.2.2.2.2.2.2 = some (53, (.bipush 10), 2, 0, 0) := by decide +kernel
theorem gx15_55 : aF 55 zM15.2.2.2.2.2.2.2 = some (55, .imul, 1, 0, 0) := by decide +kernel
theorem gx15_56 : aF 56 zM15.2.2.2.2.2.2.2 = some (56, (.iload 5), 2, 0, 0) := by decide +kernel
theorem gx15_58 : aF 58 zM15.2.2.2.2.2.2.2 = some (58, .iadd, 1, 0, 0) := by decide +kernel
theorem gx15_59 : aF 59 zM15.2.2.2.2.2.2.2 = some (59, .iaload, 1, 0, 0) := by decide +kernel
theorem gx15_60 : aF 60 zM15.2.2.2.2.2.2.2 = some (60, .isub, 1, 0, 0) := by decide +kernel
theorem gx15_61 : aF 61 zM15.2.2.2.2.2.2.2 = some (61, .i2l, 1, 0, 0) := by decide +kernel
theorem gx15_62 : aF 62 zM15.2.2.2.2.2.2.2 = some (62, .ladd, 1, 0, 0) := by decide +kernel
theorem gx15_63 : aF 63 zM15.2.2.2.2.2.2.2 = some (63, (.lstore_n 2), 1, 0, 0) := by decide +kernel
theorem gx15_64 : aF 64 zM15.2.2.2.2.2.2.2 = some (64, (.iinc 5 1), 3, 0, 0) := by decide +kernel
theorem gx15_67 : aF 67 zM15.2.2.2.2.2.2.2 = some (67, (.goto (-49)), 3, 18, 0) := by decide +kernel
theorem gx17_0 : aF 0 zM17.2.2.2.2.2.2.2 = some (0, (.lload_n 2), 1, 0, 0) := by decide +kernel
theorem gx17_1 : aF 1 zM17.2.2.2.2.2.2.2 = some (1, (.aload_n 0), 1, 0, 0) := by decide +kernel
theorem gx17_2 : aF 2 zM17.2.2.2.2.2.2.2 = some (2, (.getfield 30), 3, 0, 9) := by decide +kernel
theorem gx17_5 : aF 5 zM17.2.2.2.2.2.2.2 = some (5, (.iload_n 1), 1, 0, 0) := by decide +kernel
theorem gx17_6 : aF 6 zM17.2.2.2.2.2.2.2 = some (6, .iaload, 1, 0, 0) := by decide +kernel
theorem gx17_7 : aF 7 zM17.2.2.2.2.2.2.2 = some (7, .i2l, 1, 0, 0) := by decide +kernel
theorem gx17_8 : aF 8 zM17.2.2.2.2.2.2.2 = some (8, .lmul, 1, 0, 0) := by decide +kernel
theorem gx17_9 : aF 9 zM17.2.2.2.2.2.2.2 = some (9, (.lload 4), 2, 0, 0) := by decide +kernel
theorem gx17_11 : aF 11 zM17.2.2.2.2.2.2.2 = some (11, .lrem, 1, 0, 0) := by decide +kernel
theorem gx17_12 : aF 12 zM17.2.2.2.2.2.2.2 = some (12, (.lstore 6), 2, 0, 0) := by decide +kernel
theorem gx17_14 : aF 14 zM17.2.2.2.2.2.2.2 = some (14, (.lload_n 2), 1, 0, 0) := by decide +kernel
theorem gx17_15 : aF 15 zM17.2.2.2.2.2.2.2 = some (15, (.lstore 8), 2, 0, 0) := by decide +kernel
theorem gx17_17 : aF 17 zM17.2.2.2.2.2.2.2 = some (17, (.iconst 0), 1, 0, 0) := by decide +kernel
theorem gx17_18 : aF 18 zM17.2.2.2.2.2.2.2 = some (18, (.istore 10), 2, 0, 0) := by decide +kernel
theorem gx17_20 : aF 20 zM17.2.2.2.2.2.2.2 = some (20, (.iconst 0), 1, 0, 0) := by decide +kernel
theorem gx17_21 : aF 21 zM17.2.2.2.2.2.2.2 = some (21, (.istore 11), 2, 0, 0) := by decide +kernel
theorem gx17_23 : aF 23 zM17.2.2.2.2.2.2.2 = some (23, (.iload 11), 2, 0, 0) := by decide +kernel
theorem gx17_25 : aF 25 zM17.2.2.2.2.2.2.2 = some (25, (.aload_n 0), 1, 0, 0) := by decide +kernel
theorem gx17_26 : aF 26 zM17.2.2.2.2.2.2.2 = some (26, (.getfield 33), 3, 0, 0) := by decide +kernel
theorem gx17_29 : aF 29 zM17.2.2.2.2.2.2.2 = some (29, (.getfield 45), 3, 6, 1) := by decide +kernel
theorem gx17_32 : aF 32 zM17.2.2.2.2.2.2.2 = some (32, (.if_icmp .ge 74), 3, 106, 0) := by decide +kernel
theorem gx17_106 : aF 106 zM17.2.2.2.2.2.2.2 = some (106, (.lload_n 2), 1, 0, 0) := by decide +kernel
theorem gx17_107 : aF 107 zM17.2.2.2.2.2.2.2 = some (107, (.aload_n 0), 1, 0, 0) := by decide +kernel
theorem gx17_108 : aF 108 zM17.2.2.2.2.2.2.2 = some (108, (.getfield 30), 3, 0, 9) := by decide +kernel
theorem gx17_111 : aF 111 zM17.2.2.2.2.2.2.2 = some (111, (.iload_n 1), 1, 0, 0) := by decide +kernel
theorem gx17_112 : aF 112 zM17.2.2.2.2.2.2.2 = some (112, .iaload, 1, 0, 0) := by decide +kernel
theorem gx17_113 : aF 113 zM17.2.2.2.2.2.2.2 = some (113, .i2l, 1, 0, 0) := by decide +kernel
theorem gx17_114 : aF 114 zM17.2.2.2.2.2.2.2 = some (114, .lmul, 1, 0, 0) := by decide +kernel
theorem gx17_115 : aF 115 zM17.2.2.2.2.2.2.2 = some (115, (.lload 4), 2, 0, 0) := by decide +kernel
theorem gx17_117 : aF 117 zM17.2.2.2.2.2.2.2 = some (117, .ldiv, 1, 0, 0) := by decide +kernel
theorem gx17_118 : aF 118 zM17.2.2.2.2.2.2.2 = some (118, .l2i, 1, 0, 0) := by decide +kernel
theorem gx17_119 : aF 119 zM17.2.2.2.2.2.2.2 = some (119, (.iload 10), 2, 0, 0) := by decide +kernel
theorem gx17_121 : aF 121 zM17.2.2.2.2.2.2.2 = some (121, .i2l, 1, 0, 0) := by decide +kernel
theorem gx17_122 : aF 122 zM17.2.2.2.2.2.2.2 = some (122, (.lload 8), 2, 0, 0) := by decide +kernel
theorem gx17_124 : aF 124 zM17.2.2.2.2.2.2.2 = some (124, .lcmp, 1, 0, 0) := by decide +kernel
theorem gx17_125 : aF 125 zM17.2.2.2.2.2.2.2 = some (125, (.ifCond .ge 7), 3, 132, 0) := by decide +kernel
theorem gx17_132 : aF 132 zM17.2.2.2.2.2.2.2 = some (132, (.iconst 0), 1, 0, 0) := by decide +kernel
theorem gx17_128 : aF 128 zM17.2.2.2.2.2.2.2 = some (128, (.iconst 1), 1, 0, 0) := by decide +kernel
theorem gx17_129 : aF 129 zM17.2.2.2.2.2.2.2 = some (129, (.goto 4), 3, 133, 0) := by decide +kernel
theorem gx17_35 : aF 35 zM17.2.2.2.2.2.2.2 = some (35, (.lload_n 2), 1, 0, 0) := by decide +kernel
theorem gx17_36 : aF 36 zM17.2.2.2.2.2.2.2 = some (36, (.aload_n 0), 1, 0, 0) := by decide +kernel
theorem gx17_37 : aF 37 zM17.2.2.2.2.2.2.2 = some (37, (.getfield 30), 3, 0, 9) := by decide +kernel
theorem gx17_40 : aF 40 zM17.2.2.2.2.2.2.2 = some (40, (.iload 11), 2, 0, 0) := by decide +kernel
theorem gx17_42 : aF 42 zM17.2.2.2.2.2.2.2 = some (42, .iaload, 1, 0, 0) := by decide +kernel
theorem gx17_43 : aF 43 zM17.2.2.2.2.2.2.2 = some (43, .i2l, 1, 0, 0) := by decide +kernel
theorem gx17_44 : aF 44 zM17.2.2.2.2.2.2.2 = some (44, .lmul, 1, 0, 0) := by decide +kernel
theorem gx17_45 : aF 45 zM17.2.2.2.2.2.2.2 = some (45, (.lload 4), 2, 0, 0) := by decide +kernel
theorem gx17_47 : aF 47 zM17.2.2.2.2.2.2.2 = some (47, .lrem, 1, 0, 0) := by decide +kernel
theorem gx17_48 : aF 48 zM17.2.2.2.2.2.2.2 = some (48, (.lstore 12), 2, 0, 0) := by decide +kernel
theorem gx17_50 : aF 50 zM17.2.2.2.2.2.2.2 = some (50, (.lload 8), 2, 0, 0) := by decide +kernel
theorem gx17_52 : aF 52 zM17.2.2.2.2.2.2.2 = some (52, (.lload_n 2), 1, 0, 0) := by decide +kernel
theorem gx17_53 : aF 53 zM17.2.2.2.2.2.2.2 = some (53, (.aload_n 0), 1, 0, 0) := by decide +kernel
theorem gx17_54 : aF 54 zM17.2.2.2.2.2.2.2 = some (54, (.getfield 30), 3, 0, 9) := by decide +kernel
theorem gx17_57 : aF 57 zM17.2.2.2.2.2.2.2 = some (57, (.iload 11), 2, 0, 0) := by decide +kernel
theorem gx17_59 : aF 59 zM17.2.2.2.2.2.2.2 = some (59, .iaload, 1, 0, 0) := by decide +kernel
theorem gx17_60 : aF 60 zM17.2.2.2.2.2.2.2 = some (60, .i2l, 1, 0, 0) := by decide +kernel
theorem gx17_61 : aF 61 zM17.2.2.2.2.2.2.2 = some (61, .lmul, 1, 0, 0) := by decide +kernel
theorem gx17_62 : aF 62 zM17.2.2.2.2.2.2.2 = some (62, (.lload 4), 2, 0, 0) := by decide +kernel
theorem gx17_64 : aF 64 zM17.2.2.2.2.2.2.2 = some (64, .ldiv, 1, 0, 0) := by decide +kernel
theorem gx17_65 : aF 65 zM17.2.2.2.2.2.2.2 = some (65, .lsub, 1, 0, 0) := by decide +kernel
theorem gx17_66 : aF 66 zM17.2.2.2.2.2.2.2 = some (66, (.lstore 8), 2, 0, 0) := by decide +kernel
theorem gx17_68 : aF 68 zM17.2.2.2.2.2.2.2 = some (68, (.iload 10), 2, 0, 0) := by decide +kernel
theorem gx17_70 : aF 70 zM17.2.2.2.2.2.2.2 = some (70, (.lload 12), 2, 0, 0) := by decide +kernel
theorem gx17_72 : aF 72 zM17.2.2.2.2.2.2.2 = some (72, (.lload 6), 2, 0, 0) := by decide +kernel
theorem gx17_74 : aF 74 zM17.2.2.2.2.2.2.2 = some (74, .lcmp, 1, 0, 0) := by decide +kernel
theorem gx17_75 : aF 75 zM17.2.2.2.2.2.2.2 = some (75, (.ifCond .gt 17), 3, 92, 0) := by decide +kernel
theorem gx17_78 : aF 78 zM17.2.2.2.2.2.2.2 = some (78, (.lload 12), 2, 0, 0) := by decide +kernel
theorem gx17_80 : aF 80 zM17.2.2.2.2.2.2.2 = some (80, (.lload 6), 2, 0, 0) := by decide +kernel
theorem gx17_82 : aF 82 zM17.2.2.2.2.2.2.2 = some (82, .lcmp, 1, 0, 0) := by decide +kernel
theorem gx17_83 : aF 83 zM17.2.2.2.2.2.2.2 = some (83, (.ifCond .ne 13), 3, 96, 0) := by decide +kernel
theorem gx17_86 : aF 86 zM17.2.2.2.2.2.2.2 = some (86, (.iload 11), 2, 0, 0) := by decide +kernel
theorem gx17_88 : aF 88 zM17.2.2.2.2.2.2.2 = some (88, (.iload_n 1), 1, 0, 0) := by decide +kernel
theorem gx17_89 : aF 89 zM17.2.2.2.2.2.2.2 = some (89, (.if_icmp .ge 7), 3, 96, 0) := by decide +kernel
theorem gx17_92 : aF 92 zM17.2.2.2.2.2.2.2 = some (92, (.iconst 1), 1, 0, 0) := by decide +kernel
theorem gx17_93 : aF 93 zM17.2.2.2.2.2.2.2 = some (93, (.goto 4), 3, 97, 0) := by decide +kernel
theorem gx17_96 : aF 96 zM17.2.2.2.2.2.2.2 = some (96, (.iconst 0), 1, 0, 0) := by decide +kernel
theorem gx17_97 : aF 97 zM17.2.2.2.2.2.2.2 = some (97, .iadd, 1, 0, 0) := by decide +kernel
theorem gx17_98 : aF 98 zM17.2.2.2.2.2.2.2 = some (98, (.istore 10), 2, 0, 0) := by decide +kernel
theorem gx17_100 : aF 100 zM17.2.2.2.2.2.2.2 = some (100, (.iinc 11 1), 3, 0, 0) := by decide +kernel
theorem gx17_103 : aF 103 zM17.2.2.2.2.2.2.2 = some (103, (.goto (-80)), 3, 23, 0) := by decide +kernel
theorem gx17_133 : aF 133 zM17.2.2.2.2.2.2.2 = some (133, .iadd, 1, 0, 0) := by decide +kernel
theorem gx17_134 : aF 134 zM17.2.2.2.2.2.2.2 = some (134, .ireturn, 1, 0, 0) := by decide +kernel
theorem gx16_0 : aF 0 zM16.2.2.2.2.2.2.2 = some (0, (.aload_n 0), 1, 0, 0) := by decide +kernel
theorem gx16_1 : aF 1 zM16.2.2.2.2.2.2.2 = some (1, (.getfield 33), 3, 0, 0) := by decide +kernel
theorem gx16_4 : aF 4 zM16.2.2.2.2.2.2.2 = some (4, (.getfield 163), 3, 6, 8) := by decide +kernel
theorem gx16_7 : aF 7 zM16.2.2.2.2.2.2.2 = some (7, (.iload_n 1), 1, 0, 0) := by decide +kernel
theorem gx16_8 : aF 8 zM16.2.2.2.2.2.2.2 = some (8, .iaload, 1, 0, 0) := by decide +kernel
theorem gx16_9 : aF 9 zM16.2.2.2.2.2.2.2 = some (9, (.istore 4), 2, 0, 0) := by decide +kernel
theorem gx16_11 : aF 11 zM16.2.2.2.2.2.2.2 = some (11, (.lconst 0), 1, 0, 0) := by decide +kernel
theorem gx16_12 : aF 12 zM16.2.2.2.2.2.2.2 = some (12, (.lstore 5), 2, 0, 0) := by decide +kernel
theorem gx16_14 : aF 14 zM16.2.2.2.2.2.2.2 = some (14, (.iconst 0), 1, 0, 0) := by decide +kernel
theorem gx16_15 : aF 15 zM16.2.2.2.2.2.2.2 = some (15, (.istore 7), 2, 0, 0) := by decide +kernel
theorem gx16_17 : aF 17 zM16.2.2.2.2.2.2.2 = some (17, (.iload 7), 2, 0, 0) := by decide +kernel
theorem gx16_19 : aF 19 zM16.2.2.2.2.2.2.2 = some (19, (.aload_n 0), 1, 0, 0) := by decide +kernel
theorem gx16_20 : aF 20 zM16.2.2.2.2.2.2.2 = some (20, (.getfield 33), 3, 0, 0) := by decide +kernel
theorem gx16_23 : aF 23 zM16.2.2.2.2.2.2.2 = some (23, (.getfield 45), 3, 6, 1) := by decide +kernel
theorem gx16_26 : aF 26 zM16.2.2.2.2.2.2.2 = some (26, (.if_icmp .ge 62), 3, 88, 0) := by decide +kernel
theorem gx16_88 : aF 88 zM16.2.2.2.2.2.2.2 = some (88, (.lload 5), 2, 0, 0) := by decide +kernel
theorem gx16_90 : aF 90 zM16.2.2.2.2.2.2.2 = some (90, (.iload_n 3), 1, 0, 0) := by decide +kernel
theorem gx16_91 : aF 91 zM16.2.2.2.2.2.2.2 = some (91, .i2l, 1, 0, 0) := by decide +kernel
theorem gx16_92 : aF 92 zM16.2.2.2.2.2.2.2 = some (92, .lcmp, 1, 0, 0) := by decide +kernel
theorem gx16_93 : aF 93 zM16.2.2.2.2.2.2.2 = some (93, (.ifCond .le 10), 3, 103, 0) := by decide +kernel
theorem gx16_96 : aF 96 zM16.2.2.2.2.2.2.2 = some (96, (.lload 5), 2, 0, 0) := by decide +kernel
theorem gx16_98 : aF 98 zM16.2.2.2.2.2.2.2 = some (98, (.lconst 0), 1, 0, 0) := by decide +kernel
theorem gx16_99 : aF 99 zM16.2.2.2.2.2.2.2 = some (99, .lcmp, 1, 0, 0) := by decide +kernel
theorem gx16_100 : aF 100 zM16.2.2.2.2.2.2.2 = some (100, (.ifCond .gt 10), 3, 110, 0) := by decide +kernel
theorem gx16_110 : aF 110 zM16.2.2.2.2.2.2.2 = some (110, (.aload_n 0), 1, 0, 0) := by decide +kernel
theorem gx16_111 : aF 111 zM16.2.2.2.2.2.2.2 = some (111, (.iload_n 1), 1, 0, 0) := by decide +kernel
theorem gx16_112 : aF 112 zM16.2.2.2.2.2.2.2 = some (112, (.iload_n 3), 1, 0, 0) := by decide +kernel
theorem gx16_113 : aF 113 zM16.2.2.2.2.2.2.2 = some (113, .i2l, 1, 0, 0) := by decide +kernel
theorem gx16_114 : aF 114 zM16.2.2.2.2.2.2.2 = some (114, (.lload 5), 2, 0, 0) := by decide +kernel
theorem gx16_116 : aF 116 zM16.2.2.2.2.2.2.2 = some (116, (.invokevirtual 229), 3, 17, 0) := by decide +kernel
theorem gx16_119 : aF 119 zM16.2.2.2.2.2.2.2 = some (119, .ireturn, 1, 0, 0) := by decide +kernel
theorem gx16_29 : aF 29 zM16.2.2.2.2.2.2.2 = some (29, (.aload_n 0), 1, 0, 0) := by decide +kernel
theorem gx16_30 : aF 30 zM16.2.2.2.2.2.2.2 = some (30, (.getfield 30), 3, 0, 9) := by decide +kernel
theorem gx16_33 : aF 33 zM16.2.2.2.2.2.2.2 = some (33, (.iload 7), 2, 0, 0) := by decide +kernel
theorem gx16_35 : aF 35 zM16.2.2.2.2.2.2.2 = some (35, (.aload_n 0), 1, 0, 0) := by decide +kernel
theorem gx16_36 : aF 36 zM16.2.2.2.2.2.2.2 = some (36, (.getfield 33), 3, 0, 0) := by decide +kernel
theorem gx16_39 : aF 39 zM16.2.2.2.2.2.2.2 = some (39, (.iload 7), 2, 0, 0) := by decide +kernel
theorem gx16_41 : aF 41 zM16.2.2.2.2.2.2.2 = some (41, (.iload 4), 2, 0, 0) := by decide +kernel
theorem gx16_43 : aF 43 zM16.2.2.2.2.2.2.2 = some (43, (.invokevirtual 225), 3, 76, 0) := by decide +kernel
theorem gx16_46 : aF 46 zM16.2.2.2.2.2.2.2 = some (46, (.ifCond .eq 21), 3, 67, 0) := by decide +kernel
theorem gx16_67 : aF 67 zM16.2.2.2.2.2.2.2 = some (67, (.iconst 0), 1, 0, 0) := by decide +kernel
theorem gx16_49 : aF 49 zM16.2.2.2.2.2.2.2 = some (49, (.aload_n 0), 1, 0, 0) := by decide +kernel
theorem gx16_50 : aF 50 zM16.2.2.2.2.2.2.2 = some (50, (.iload 7), 2, 0, 0) := by decide +kernel
theorem gx16_52 : aF 52 zM16.2.2.2.2.2.2.2 = some (52, (.iload_n 2), 1, 0, 0) := by decide +kernel
theorem gx16_53 : aF 53 zM16.2.2.2.2.2.2.2 = some (53, (.aload_n 0), 1, 0, 0) := by decide +kernel
theorem gx16_54 : aF 54 zM16.2.2.2.2.2.2.2 = some (54, (.getfield 33), 3, 0, 0) := by decide +kernel
theorem gx16_57 : aF 57 zM16.2.2.2.2.2.2.2 = some (57, (.getfield 216), 3, 6, 0) := by decide +kernel
theorem gx16_60 : aF 60 zM16.2.2.2.2.2.2.2 = some (60, (.iconst (-1)), 1, 0, 0) := by decide +kernel
theorem gx16_61 : aF 61 zM16.2.2.2.2.2.2.2 = some (61, (.invokevirtual 219), 3, 8, 0) := by decide +kernel
theorem gx16_64 : aF 64 zM16.2.2.2.2.2.2.2 = some (64, (.goto 4), 3, 68, 0) := by decide +kernel
theorem gx16_68 : aF 68 zM16.2.2.2.2.2.2.2 = some (68, .iastore, 1, 0, 0) := by decide +kernel
theorem gx16_69 : aF 69 zM16.2.2.2.2.2.2.2 = some (69, (.lload 5), 2, 0, 0) := by decide +kernel
theorem gx16_71 : aF 71 zM16.2.2.2.2.2.2.2 = some (71, (.aload_n 0), 1, 0, 0) := by decide +kernel
theorem gx16_72 : aF 72 zM16.2.2.2.2.2.2.2 = some (72, (.getfield 30), 3, 0, 9) := by decide +kernel
theorem gx16_75 : aF 75 zM16.2.2.2.2.2.2.2 = some (75, (.iload 7), 2, 0, 0) := by decide +kernel
theorem gx16_77 : aF 77 zM16.2.2.2.2.2.2.2 = some (77, .iaload, 1, 0, 0) := by decide +kernel
theorem gx16_78 : aF 78 zM16.2.2.2.2.2.2.2 = some (78, .i2l, 1, 0, 0) := by decide +kernel
theorem gx16_79 : aF 79 zM16.2.2.2.2.2.2.2 = some (79, .ladd, 1, 0, 0) := by decide +kernel
theorem gx16_80 : aF 80 zM16.2.2.2.2.2.2.2 = some (80, (.lstore 5), 2, 0, 0) := by decide +kernel
theorem gx16_82 : aF 82 zM16.2.2.2.2.2.2.2 = some (82, (.iinc 7 1), 3, 0, 0) := by decide +kernel
theorem gx16_85 : aF 85 zM16.2.2.2.2.2.2.2 = some (85, (.goto (-68)), 3, 17, 0) := by decide +kernel
theorem gx16_103 : aF 103 zM16.2.2.2.2.2.2.2 = some (103, (.aload_n 0), 1, 0, 0) := by decide +kernel
theorem gx16_104 : aF 104 zM16.2.2.2.2.2.2.2 = some (104, (.getfield 30), 3, 0, 9) := by decide +kernel
theorem gx16_107 : aF 107 zM16.2.2.2.2.2.2.2 = some (107, (.iload_n 1), 1, 0, 0) := by decide +kernel
theorem gx16_108 : aF 108 zM16.2.2.2.2.2.2.2 = some (108, .iaload, 1, 0, 0) := by decide +kernel
theorem gx16_109 : aF 109 zM16.2.2.2.2.2.2.2 = some (109, .ireturn, 1, 0, 0) := by decide +kernel
theorem gx18_0 : aF 0 zM18.2.2.2.2.2.2.2 = some (0, (.iconst 0), 1, 0, 0) := by decide +kernel
theorem gx18_1 : aF 1 zM18.2.2.2.2.2.2.2 = some (1, (.istore 5), 2, 0, 0) := by decide +kernel
theorem gx18_3 : aF 3 zM18.2.2.2.2.2.2.2 = some (3, (.iconst 0), 1, 0, 0) := by decide +kernel
theorem gx18_4 : aF 4 zM18.2.2.2.2.2.2.2 = some (4, (.istore 6), 2, 0, 0) := by decide +kernel
theorem gx18_6 : aF 6 zM18.2.2.2.2.2.2.2 = some (6, (.iload 6), 2, 0, 0) := by decide +kernel
theorem gx18_8 : aF 8 zM18.2.2.2.2.2.2.2 = some (8, (.aload_n 0), 1, 0, 0) := by decide +kernel
theorem gx18_9 : aF 9 zM18.2.2.2.2.2.2.2 = some (9, (.getfield 33), 3, 0, 0) := by decide +kernel
theorem gx18_12 : aF 12 zM18.2.2.2.2.2.2.2 = some (12, (.getfield 45), 3, 6, 1) := by decide +kernel
theorem gx18_15 : aF 15 zM18.2.2.2.2.2.2.2 = some (15, (.if_icmp .ge 88), 3, 103, 0) := by decide +kernel
theorem gx18_103 : aF 103 zM18.2.2.2.2.2.2.2 = some (103, (.iload 5), 2, 0, 0) := by decide +kernel
theorem gx18_105 : aF 105 zM18.2.2.2.2.2.2.2 = some (105, .ireturn, 1, 0, 0) := by decide +kernel
theorem gx18_18 : aF 18 zM18.2.2.2.2.2.2.2 = some (18, (.aload_n 0), 1, 0, 0) := by decide +kernel
theorem gx18_19 : aF 19 zM18.2.2.2.2.2.2.2 = some (19, (.getfield 33), 3, 0, 0) := by decide +kernel
theorem gx18_22 : aF 22 zM18.2.2.2.2.2.2.2 = some (22, (.iload 6), 2, 0, 0) := by decide +kernel
theorem gx18_24 : aF 24 zM18.2.2.2.2.2.2.2 = some (24, (.iload_n 2), 1, 0, 0) := by decide +kernel
theorem gx18_25 : aF 25 zM18.2.2.2.2.2.2.2 = some (25, (.invokevirtual 225), 3, 76, 0) := by decide +kernel
theorem gx18_28 : aF 28 zM18.2.2.2.2.2.2.2 = some (28, (.ifCond .eq 69), 3, 97, 0) := by decide +kernel
theorem gx18_97 : aF 97 zM18.2.2.2.2.2.2.2 = some (97, (.iinc 6 1), 3, 0, 0) := by decide +kernel
theorem gx18_100 : aF 100 zM18.2.2.2.2.2.2.2 = some (100, (.goto (-94)), 3, 6, 0) := by decide +kernel
theorem gx18_31 : aF 31 zM18.2.2.2.2.2.2.2 = some (31, (.aload_n 0), 1, 0, 0) := by decide +kernel
theorem gx18_32 : aF 32 zM18.2.2.2.2.2.2.2 = some (32, (.iload 6), 2, 0, 0) := by decide +kernel
theorem gx18_34 : aF 34 zM18.2.2.2.2.2.2.2 = some (34, (.iload_n 3), 1, 0, 0) := by decide +kernel
theorem gx18_35 : aF 35 zM18.2.2.2.2.2.2.2 = some (35, (.aload_n 0), 1, 0, 0) := by decide +kernel
theorem gx18_36 : aF 36 zM18.2.2.2.2.2.2.2 = some (36, (.getfield 33), 3, 0, 0) := by decide +kernel
theorem gx18_39 : aF 39 zM18.2.2.2.2.2.2.2 = some (39, (.getfield 216), 3, 6, 0) := by decide +kernel
theorem gx18_42 : aF 42 zM18.2.2.2.2.2.2.2 = some (42, (.iconst (-1)), 1, 0, 0) := by decide +kernel
theorem gx18_43 : aF 43 zM18.2.2.2.2.2.2.2 = some (43, (.invokevirtual 219), 3, 8, 0) := by decide +kernel
theorem gx18_46 : aF 46 zM18.2.2.2.2.2.2.2 = some (46, (.istore 7), 2, 0, 0) := by decide +kernel
theorem gx18_48 : aF 48 zM18.2.2.2.2.2.2.2 = some (48, (.aload_n 0), 1, 0, 0) := by decide +kernel
theorem gx18_49 : aF 49 zM18.2.2.2.2.2.2.2 = some (49, (.iload 6), 2, 0, 0) := by decide +kernel
theorem gx18_51 : aF 51 zM18.2.2.2.2.2.2.2 = some (51, (.iload_n 3), 1, 0, 0) := by decide +kernel
theorem gx18_52 : aF 52 zM18.2.2.2.2.2.2.2 = some (52, (.aload_n 0), 1, 0, 0) := by decide +kernel
theorem gx18_53 : aF 53 zM18.2.2.2.2.2.2.2 = some (53, (.getfield 33), 3, 0, 0) := by decide +kernel
theorem gx18_56 : aF 56 zM18.2.2.2.2.2.2.2 = some (56, (.getfield 216), 3, 6, 0) := by decide +kernel
theorem gx18_59 : aF 59 zM18.2.2.2.2.2.2.2 = some (59, (.iload_n 1), 1, 0, 0) := by decide +kernel
theorem gx18_60 : aF 60 zM18.2.2.2.2.2.2.2 = some (60, (.invokevirtual 219), 3, 8, 0) := by decide +kernel
theorem gx18_63 : aF 63 zM18.2.2.2.2.2.2.2 = some (63, (.istore 8), 2, 0, 0) := by decide +kernel
theorem gx18_65 : aF 65 zM18.2.2.2.2.2.2.2 = some (65, (.iload 5), 2, 0, 0) := by decide +kernel
theorem gx18_67 : aF 67 zM18.2.2.2.2.2.2.2 = some (67, (.iload 4), 2, 0, 0) := by decide +kernel
theorem gx18_69 : aF 69 zM18.2.2.2.2.2.2.2 = some (69, (.ifCond .eq 13), 3, 82, 0) := by decide +kernel
theorem gx18_82 : aF 82 zM18.2.2.2.2.2.2.2 = some (82, (.iload 8), 2, 0, 0) := by decide +kernel
theorem gx18_84 : aF 84 zM18.2.2.2.2.2.2.2 = some (84, (.iload 7), 2, 0, 0) := by decide +kernel
theorem gx18_86 : aF 86 zM18.2.2.2.2.2.2.2 = some (86, (.if_icmp .ge 7), 3, 93, 0) := by decide +kernel
theorem gx18_93 : aF 93 zM18.2.2.2.2.2.2.2 = some (93, (.iconst 0), 1, 0, 0) := by decide +kernel
theorem gx18_94 : aF 94 zM18.2.2.2.2.2.2.2 = some (94, .iadd, 1, 0, 0) := by decide +kernel
theorem gx18_95 : aF 95 zM18.2.2.2.2.2.2.2 = some (95, (.istore 5), 2, 0, 0) := by decide +kernel
theorem gx18_89 : aF 89 zM18.2.2.2.2.2.2.2 = some (89, (.iconst 1), 1, 0, 0) := by decide +kernel
theorem gx18_90 : aF 90 zM18.2.2.2.2.2.2.2 = some (90, (.goto 4), 3, 94, 0) := by decide +kernel
theorem gx18_72 : aF 72 zM18.2.2.2.2.2.2.2 = some (72, (.iload 8), 2, 0, 0) := by decide +kernel
theorem gx18_74 : aF 74 zM18.2.2.2.2.2.2.2 = some (74, (.iload 7), 2, 0, 0) := by decide +kernel
theorem gx18_76 : aF 76 zM18.2.2.2.2.2.2.2 = some (76, (.if_icmp .le 17), 3, 93, 0) := by decide +kernel
theorem gx18_79 : aF 79 zM18.2.2.2.2.2.2.2 = some (79, (.goto 10), 3, 89, 0) := by decide +kernel
theorem gx36_0 : aF 0 zM36.2.2.2.2.2.2.2 = some (0, (.iconst 0), 1, 0, 0) := by decide +kernel
theorem gx36_1 : aF 1 zM36.2.2.2.2.2.2.2 = some (1, (.istore_n 3), 1, 0, 0) := by decide +kernel
theorem gx36_2 : aF 2 zM36.2.2.2.2.2.2.2 = some (2, (.iload_n 3), 1, 0, 0) := by decide +kernel
theorem gx36_3 : aF 3 zM36.2.2.2.2.2.2.2 = some (3, (.aload_n 0), 1, 0, 0) := by decide +kernel
theorem gx36_4 : aF 4 zM36.2.2.2.2.2.2.2 = some (4, (.getfield 99), 3, 2, 3) := by decide +kernel
theorem gx36_7 : aF 7 zM36.2.2.2.2.2.2.2 = some (7, (.if_icmp .ge 31), 3, 38, 0) := by decide +kernel
theorem gx36_38 : aF 38 zM36.2.2.2.2.2.2.2 = some (38, (.iconst 0), 1, 0, 0) := by decide +kernel
theorem gx36_39 : aF 39 zM36.2.2.2.2.2.2.2 = some (39, .ireturn, 1, 0, 0) := by decide +kernel
theorem gx36_10 : aF 10 zM36.2.2.2.2.2.2.2 = some (10, (.aload_n 0), 1, 0, 0) := by decide +kernel
theorem gx36_11 : aF 11 zM36.2.2.2.2.2.2.2 = some (11, (.getfield 42), 3, 2, 14) := by decide +kernel
theorem gx36_14 : aF 14 zM36.2.2.2.2.2.2.2 = some (14, (.iload_n 3), 1, 0, 0) := by decide +kernel
theorem gx36_15 : aF 15 zM36.2.2.2.2.2.2.2 = some (15, .iaload, 1, 0, 0) := by decide +kernel
theorem gx36_16 : aF 16 zM36.2.2.2.2.2.2.2 = some (16, (.iload_n 1), 1, 0, 0) := by decide +kernel
theorem gx36_17 : aF 17 zM36.2.2.2.2.2.2.2 = some (17, (.if_icmp .ne 15), 3, 32, 0) := by decide +kernel
theorem gx36_32 : aF 32 zM36.2.2.2.2.2.2.2 = some (32, (.iinc 3 1), 3, 0, 0) := by decide +kernel
theorem gx36_35 : aF 35 zM36.2.2.2.2.2.2.2 = some (35, (.goto (-33)), 3, 2, 0) := by decide +kernel
theorem gx36_20 : aF 20 zM36.2.2.2.2.2.2.2 = some (20, (.aload_n 0), 1, 0, 0) := by decide +kernel
theorem gx36_21 : aF 21 zM36.2.2.2.2.2.2.2 = some (21, (.getfield 48), 3, 2, 16) := by decide +kernel
theorem gx36_24 : aF 24 zM36.2.2.2.2.2.2.2 = some (24, (.iload_n 3), 1, 0, 0) := by decide +kernel
theorem gx36_25 : aF 25 zM36.2.2.2.2.2.2.2 = some (25, .iaload, 1, 0, 0) := by decide +kernel
theorem gx36_26 : aF 26 zM36.2.2.2.2.2.2.2 = some (26, (.iload_n 2), 1, 0, 0) := by decide +kernel
theorem gx36_27 : aF 27 zM36.2.2.2.2.2.2.2 = some (27, (.if_icmp .ne 5), 3, 32, 0) := by decide +kernel
theorem gx36_30 : aF 30 zM36.2.2.2.2.2.2.2 = some (30, (.iconst 1), 1, 0, 0) := by decide +kernel
theorem gx36_31 : aF 31 zM36.2.2.2.2.2.2.2 = some (31, .ireturn, 1, 0, 0) := by decide +kernel
theorem gx55_0 : aF 0 zM55.2.2.2.2.2.2.2 = some (0, (.iconst 0), 1, 0, 0) := by decide +kernel
theorem gx55_1 : aF 1 zM55.2.2.2.2.2.2.2 = some (1, (.istore_n 3), 1, 0, 0) := by decide +kernel
theorem gx55_2 : aF 2 zM55.2.2.2.2.2.2.2 = some (2, (.iload_n 3), 1, 0, 0) := by decide +kernel
theorem gx55_3 : aF 3 zM55.2.2.2.2.2.2.2 = some (3, (.aload_n 2), 1, 0, 0) := by decide +kernel
theorem gx55_4 : aF 4 zM55.2.2.2.2.2.2.2 = some (4, (.getfield 84), 3, 8, 5) := by decide +kernel
theorem gx55_7 : aF 7 zM55.2.2.2.2.2.2.2 = some (7, (.if_icmp .ge 62), 3, 69, 0) := by decide +kernel
theorem gx55_69 : aF 69 zM55.2.2.2.2.2.2.2 = some (69, (.iconst 0), 1, 0, 0) := by decide +kernel
theorem gx55_70 : aF 70 zM55.2.2.2.2.2.2.2 = some (70, .ireturn, 1, 0, 0) := by decide +kernel
theorem gx55_10 : aF 10 zM55.2.2.2.2.2.2.2 = some (10, (.iconst 0), 1, 0, 0) := by decide +kernel
theorem gx55_11 : aF 11 zM55.2.2.2.2.2.2.2 = some (11, (.istore 4), 2, 0, 0) := by decide +kernel
theorem gx55_13 : aF 13 zM55.2.2.2.2.2.2.2 = some (13, (.iload 4), 2, 0, 0) := by decide +kernel
theorem gx55_15 : aF 15 zM55.2.2.2.2.2.2.2 = some (15, (.aload_n 2), 1, 0, 0) := by decide +kernel
theorem gx55_16 : aF 16 zM55.2.2.2.2.2.2.2 = some (16, (.getfield 84), 3, 8, 5) := by decide +kernel
theorem gx55_19 : aF 19 zM55.2.2.2.2.2.2.2 = some (19, (.if_icmp .ge 44), 3, 63, 0) := by decide +kernel
theorem gx55_63 : aF 63 zM55.2.2.2.2.2.2.2 = some (63, (.iinc 3 1), 3, 0, 0) := by decide +kernel
theorem gx55_66 : aF 66 zM55.2.2.2.2.2.2.2 = some (66, (.goto (-64)), 3, 2, 0) := by decide +kernel
theorem gx55_22 : aF 22 zM55.2.2.2.2.2.2.2 = some (22, (.aload_n 2), 1, 0, 0) := by decide +kernel
theorem gx55_23 : aF 23 zM55.2.2.2.2.2.2.2 = some (23, (.iload_n 3), 1, 0, 0) := by decide +kernel
theorem gx55_24 : aF 24 zM55.2.2.2.2.2.2.2 = some (24, (.invokevirtual 85), 3, 101, 0) := by decide +kernel
theorem gx55_27 : aF 27 zM55.2.2.2.2.2.2.2 = some (27, (.iload_n 0), 1, 0, 0) := by decide +kernel
theorem gx55_28 : aF 28 zM55.2.2.2.2.2.2.2 = some (28, (.if_icmp .ne 35), 3, 63, 0) := by decide +kernel
theorem gx55_31 : aF 31 zM55.2.2.2.2.2.2.2 = some (31, (.aload_n 2), 1, 0, 0) := by decide +kernel
theorem gx55_32 : aF 32 zM55.2.2.2.2.2.2.2 = some (32, (.iload 4), 2, 0, 0) := by decide +kernel
theorem gx55_34 : aF 34 zM55.2.2.2.2.2.2.2 = some (34, (.invokevirtual 85), 3, 101, 0) := by decide +kernel
theorem gx55_37 : aF 37 zM55.2.2.2.2.2.2.2 = some (37, (.iload_n 1), 1, 0, 0) := by decide +kernel
theorem gx55_38 : aF 38 zM55.2.2.2.2.2.2.2 = some (38, (.if_icmp .ne 19), 3, 57, 0) := by decide +kernel
theorem gx55_57 : aF 57 zM55.2.2.2.2.2.2.2 = some (57, (.iinc 4 1), 3, 0, 0) := by decide +kernel
theorem gx55_60 : aF 60 zM55.2.2.2.2.2.2.2 = some (60, (.goto (-47)), 3, 13, 0) := by decide +kernel
theorem gx55_41 : aF 41 zM55.2.2.2.2.2.2.2 = some (41, (.aload_n 2), 1, 0, 0) := by decide +kernel
theorem gx55_42 : aF 42 zM55.2.2.2.2.2.2.2 = some (42, (.iload 4), 2, 0, 0) := by decide +kernel
theorem gx55_44 : aF 44 zM55.2.2.2.2.2.2.2 = some (44, (.invokevirtual 88), 3, 100, 0) := by decide +kernel
theorem gx55_47 : aF 47 zM55.2.2.2.2.2.2.2 = some (47, (.aload_n 2), 1, 0, 0) := by decide +kernel
theorem gx55_48 : aF 48 zM55.2.2.2.2.2.2.2 = some (48, (.iload_n 3), 1, 0, 0) := by decide +kernel
theorem gx55_49 : aF 49 zM55.2.2.2.2.2.2.2 = some (49, (.invokevirtual 88), 3, 100, 0) := by decide +kernel
theorem gx55_52 : aF 52 zM55.2.2.2.2.2.2.2 = some (52, (.if_icmp .eq 5), 3, 57, 0) := by decide +kernel
theorem gx55_55 : aF 55 zM55.2.2.2.2.2.2.2 = some (55, (.iconst 1), 1, 0, 0) := by decide +kernel
theorem gx55_56 : aF 56 zM55.2.2.2.2.2.2.2 = some (56, .ireturn, 1, 0, 0) := by decide +kernel
theorem gx84_0 : aF 0 zM84.2.2.2.2.2.2.2 = some (0, (.iconst 0), 1, 0, 0) := by decide +kernel
theorem gx84_1 : aF 1 zM84.2.2.2.2.2.2.2 = some (1, (.istore_n 3), 1, 0, 0) := by decide +kernel
theorem gx84_2 : aF 2 zM84.2.2.2.2.2.2.2 = some (2, (.iload_n 3), 1, 0, 0) := by decide +kernel
theorem gx84_3 : aF 3 zM84.2.2.2.2.2.2.2 = some (3, (.bipush 24), 2, 0, 0) := by decide +kernel
theorem gx84_5 : aF 5 zM84.2.2.2.2.2.2.2 = some (5, (.if_icmp .ge 27), 3, 32, 0) := by decide +kernel
theorem gx84_32 : aF 32 zM84.2.2.2.2.2.2.2 = some (32, (.iconst 0), 1, 0, 0) := by decide +kernel
theorem gx84_33 : aF 33 zM84.2.2.2.2.2.2.2 = some (33, .ireturn, 1, 0, 0) := by decide +kernel
theorem gx84_8 : aF 8 zM84.2.2.2.2.2.2.2 = some (8, (.aload_n 0), 1, 0, 0) := by decide +kernel
theorem gx84_9 : aF 9 zM84.2.2.2.2.2.2.2 = some (9, (.iload_n 1), 1, 0, 0) := by decide +kernel
theorem gx84_10 : aF 10 zM84.2.2.2.2.2.2.2 = some (10, (.iload_n 3), 1, 0, 0) := by decide +kernel
theorem gx84_11 : aF 11 zM84.2.2.2.2.2.2.2 = some (11, (.invokevirtual 92), 3, 82, 0) := by decide +kernel
theorem gx84_14 : aF 14 zM84.2.2.2.2.2.2.2 = some (14, (.aload_n 0), 1, 0, 0) := by decide +kernel
theorem gx84_15 : aF 15 zM84.2.2.2.2.2.2.2 = some (15, (.iload_n 2), 1, 0, 0) := by decide +kernel
theorem gx84_16 : aF 16 zM84.2.2.2.2.2.2.2 = some (16, (.iload_n 3), 1, 0, 0) := by decide +kernel
theorem gx84_17 : aF 17 zM84.2.2.2.2.2.2.2 = some (17, (.invokevirtual 92), 3, 82, 0) := by decide +kernel
theorem gx84_20 : aF 20 zM84.2.2.2.2.2.2.2 = some (20, .iand, 1, 0, 0) := by decide +kernel
theorem gx84_21 : aF 21 zM84.2.2.2.2.2.2.2 = some (21, (.ifCond .eq 5), 3, 26, 0) := by decide +kernel
theorem gx84_26 : aF 26 zM84.2.2.2.2.2.2.2 = some (26, (.iinc 3 1), 3, 0, 0) := by decide +kernel
theorem gx84_29 : aF 29 zM84.2.2.2.2.2.2.2 = some (29, (.goto (-27)), 3, 2, 0) := by decide +kernel
theorem gx84_24 : aF 24 zM84.2.2.2.2.2.2.2 = some (24, (.iconst 1), 1, 0, 0) := by decide +kernel
theorem gx84_25 : aF 25 zM84.2.2.2.2.2.2.2 = some (25, .ireturn, 1, 0, 0) := by decide +kernel
theorem gx54_0 : aF 0 zM54.2.2.2.2.2.2.2 = some (0, (.iconst 0), 1, 0, 0) := by decide +kernel
theorem gx54_1 : aF 1 zM54.2.2.2.2.2.2.2 = some (1, (.istore 4), 2, 0, 0) := by decide +kernel
theorem gx54_3 : aF 3 zM54.2.2.2.2.2.2.2 = some (3, (.iconst 0), 1, 0, 0) := by decide +kernel
theorem gx54_4 : aF 4 zM54.2.2.2.2.2.2.2 = some (4, (.istore 5), 2, 0, 0) := by decide +kernel
theorem gx54_6 : aF 6 zM54.2.2.2.2.2.2.2 = some (6, (.iload 5), 2, 0, 0) := by decide +kernel
theorem gx54_8 : aF 8 zM54.2.2.2.2.2.2.2 = some (8, (.iload_n 2), 1, 0, 0) := by decide +kernel
theorem gx54_9 : aF 9 zM54.2.2.2.2.2.2.2 = some (9, (.if_icmp .ge 61), 3, 70, 0) := by decide +kernel
theorem gx54_70 : aF 70 zM54.2.2.2.2.2.2.2 = some (70, (.iload 4), 2, 0, 0) := by decide +kernel
theorem gx54_72 : aF 72 zM54.2.2.2.2.2.2.2 = some (72, .ireturn, 1, 0, 0) := by decide +kernel
theorem gx54_12 : aF 12 zM54.2.2.2.2.2.2.2 = some (12, (.aload_n 0), 1, 0, 0) := by decide +kernel
theorem gx54_13 : aF 13 zM54.2.2.2.2.2.2.2 = some (13, (.getfield 30), 3, 5, 0) := by decide +kernel
theorem gx54_16 : aF 16 zM54.2.2.2.2.2.2.2 = some (16, (.aload_n 0), 1, 0, 0) := by decide +kernel
theorem gx54_17 : aF 17 zM54.2.2.2.2.2.2.2 = some (17, (.getfield 15), 3, 5, 5) := by decide +kernel
theorem gx54_20 : aF 20 zM54.2.2.2.2.2.2.2 = some (20, (.iload_n 1), 1, 0, 0) := by decide +kernel
theorem gx54_21 : aF 21 zM54.2.2.2.2.2.2.2 = some (21, .iaload, 1, 0, 0) := by decide +kernel
theorem gx54_22 : aF 22 zM54.2.2.2.2.2.2.2 = some (22, (.aload_n 0), 1, 0, 0) := by decide +kernel
theorem gx54_23 : aF 23 zM54.2.2.2.2.2.2.2 = some (23, (.getfield 15), 3, 5, 5) := by decide +kernel
theorem gx54_26 : aF 26 zM54.2.2.2.2.2.2.2 = some (26, (.iload 5), 2, 0, 0) := by decide +kernel
theorem gx54_28 : aF 28 zM54.2.2.2.2.2.2.2 = some (28, .iaload, 1, 0, 0) := by decide +kernel
theorem gx54_29 : aF 29 zM54.2.2.2.2.2.2.2 = some (29, (.invokevirtual 76), 3, 84, 0) := by decide +kernel
theorem gx54_32 : aF 32 zM54.2.2.2.2.2.2.2 = some (32, (.ifCond .eq 32), 3, 64, 0) := by decide +kernel
theorem gx54_64 : aF 64 zM54.2.2.2.2.2.2.2 = some (64, (.iinc 5 1), 3, 0, 0) := by decide +kernel
theorem gx54_67 : aF 67 zM54.2.2.2.2.2.2.2 = some (67, (.goto (-61)), 3, 6, 0) := by decide +kernel
theorem gx54_35 : aF 35 zM54.2.2.2.2.2.2.2 = some (35, (.aload_n 0), 1, 0, 0) := by decide +kernel
theorem gx54_36 : aF 36 zM54.2.2.2.2.2.2.2 = some (36, (.getfield 15), 3, 5, 5) := by decide +kernel
theorem gx54_39 : aF 39 zM54.2.2.2.2.2.2.2 = some (39, (.iload_n 1), 1, 0, 0) := by decide +kernel
theorem gx54_40 : aF 40 zM54.2.2.2.2.2.2.2 = some (40, .iaload, 1, 0, 0) := by decide +kernel
theorem gx54_41 : aF 41 zM54.2.2.2.2.2.2.2 = some (41, (.aload_n 0), 1, 0, 0) := by decide +kernel
theorem gx54_42 : aF 42 zM54.2.2.2.2.2.2.2 = some (42, (.getfield 15), 3, 5, 5) := by decide +kernel
theorem gx54_45 : aF 45 zM54.2.2.2.2.2.2.2 = some (45, (.iload 5), 2, 0, 0) := by decide +kernel
theorem gx54_47 : aF 47 zM54.2.2.2.2.2.2.2 = some (47, .iaload, 1, 0, 0) := by decide +kernel
theorem gx54_48 : aF 48 zM54.2.2.2.2.2.2.2 = some (48, (.aload_n 3), 1, 0, 0) := by decide +kernel
theorem gx54_49 : aF 49 zM54.2.2.2.2.2.2.2 = some (49, (.invokestatic 80), 3, 55, 0) := by decide +kernel
theorem gx54_52 : aF 52 zM54.2.2.2.2.2.2.2 = some (52, (.ifCond .eq 12), 3, 64, 0) := by decide +kernel
theorem gx54_55 : aF 55 zM54.2.2.2.2.2.2.2 = some (55, (.iload 4), 2, 0, 0) := by decide +kernel
theorem gx54_57 : aF 57 zM54.2.2.2.2.2.2.2 = some (57, (.iconst 1), 1, 0, 0) := by decide +kernel
theorem gx54_58 : aF 58 zM54.2.2.2.2.2.2.2 = some (58, (.iload 5), 2, 0, 0) := by decide +kernel
theorem gx54_60 : aF 60 zM54.2.2.2.2.2.2.2 = some (60, .ishl, 1, 0, 0) := by decide +kernel
theorem gx54_61 : aF 61 zM54.2.2.2.2.2.2.2 = some (61, .ior, 1, 0, 0) := by decide +kernel
theorem gx54_62 : aF 62 zM54.2.2.2.2.2.2.2 = some (62, (.istore 4), 2, 0, 0) := by decide +kernel
theorem gx57_0 : aF 0 zM57.2.2.2.2.2.2.2 = some (0, (.iconst 0), 1, 0, 0) := by decide +kernel
theorem gx57_1 : aF 1 zM57.2.2.2.2.2.2.2 = some (1, (.istore_n 3), 1, 0, 0) := by decide +kernel
theorem gx57_2 : aF 2 zM57.2.2.2.2.2.2.2 = some (2, (.iload_n 3), 1, 0, 0) := by decide +kernel
theorem gx57_3 : aF 3 zM57.2.2.2.2.2.2.2 = some (3, (.iload_n 2), 1, 0, 0) := by decide +kernel
theorem gx57_4 : aF 4 zM57.2.2.2.2.2.2.2 = some (4, (.if_icmp .ge 32), 3, 36, 0) := by decide +kernel
theorem gx57_36 : aF 36 zM57.2.2.2.2.2.2.2 = some (36, (.iconst 1), 1, 0, 0) := by decide +kernel
theorem gx57_37 : aF 37 zM57.2.2.2.2.2.2.2 = some (37, .ireturn, 1, 0, 0) := by decide +kernel
theorem gx57_7 : aF 7 zM57.2.2.2.2.2.2.2 = some (7, (.iload_n 1), 1, 0, 0) := by decide +kernel
theorem gx57_8 : aF 8 zM57.2.2.2.2.2.2.2 = some (8, (.iload_n 3), 1, 0, 0) := by decide +kernel
theorem gx57_9 : aF 9 zM57.2.2.2.2.2.2.2 = some (9, .ishr, 1, 0, 0) := by decide +kernel
theorem gx57_10 : aF 10 zM57.2.2.2.2.2.2.2 = some (10, (.iconst 1), 1, 0, 0) := by decide +kernel
theorem gx57_11 : aF 11 zM57.2.2.2.2.2.2.2 = some (11, .iand, 1, 0, 0) := by decide +kernel
theorem gx57_12 : aF 12 zM57.2.2.2.2.2.2.2 = some (12, (.ifCond .ne 18), 3, 30, 0) := by decide +kernel
theorem gx57_30 : aF 30 zM57.2.2.2.2.2.2.2 = some (30, (.iinc 3 1), 3, 0, 0) := by decide +kernel
theorem gx57_33 : aF 33 zM57.2.2.2.2.2.2.2 = some (33, (.goto (-31)), 3, 2, 0) := by decide +kernel
theorem gx57_15 : aF 15 zM57.2.2.2.2.2.2.2 = some (15, (.aload_n 0), 1, 0, 0) := by decide +kernel
theorem gx57_16 : aF 16 zM57.2.2.2.2.2.2.2 = some (16, (.getfield 18), 3, 5, 6) := by decide +kernel
theorem gx57_19 : aF 19 zM57.2.2.2.2.2.2.2 = some (19, (.iload_n 3), 1, 0, 0) := by decide +kernel
theorem gx57_20 : aF 20 zM57.2.2.2.2.2.2.2 = some (20, .iaload, 1, 0, 0) := by decide +kernel
theorem gx57_21 : aF 21 zM57.2.2.2.2.2.2.2 = some (21, (.iload_n 1), 1, 0, 0) := by decide +kernel
theorem gx57_22 : aF 22 zM57.2.2.2.2.2.2.2 = some (22, (.iconst (-1)), 1, 0, 0) := by decide +kernel
theorem gx57_23 : aF 23 zM57.2.2.2.2.2.2.2 = some (23, .ixor, 1, 0, 0) := by decide +kernel
theorem gx57_24 : aF 24 zM57.2.2.2.2.2.2.2 = some (24, .iand, 1, 0, 0) := by decide +kernel
theorem gx57_25 : aF 25 zM57.2.2.2.2.2.2.2 = some (25, (.ifCond .eq 5), 3, 30, 0) := by decide +kernel
theorem gx57_28 : aF 28 zM57.2.2.2.2.2.2.2 = some (28, (.iconst 0), 1, 0, 0) := by decide +kernel
theorem gx57_29 : aF 29 zM57.2.2.2.2.2.2.2 = some (29, .ireturn, 1, 0, 0) := by decide +kernel
theorem gx59_0 : aF 0 zM59.2.2.2.2.2.2.2 = some (0, (.iconst 0), 1, 0, 0) := by decide +kernel
theorem gx59_1 : aF 1 zM59.2.2.2.2.2.2.2 = some (1, (.istore_n 3), 1, 0, 0) := by decide +kernel
theorem gx59_2 : aF 2 zM59.2.2.2.2.2.2.2 = some (2, (.iconst 0), 1, 0, 0) := by decide +kernel
theorem gx59_3 : aF 3 zM59.2.2.2.2.2.2.2 = some (3, (.istore 4), 2, 0, 0) := by decide +kernel
theorem gx59_5 : aF 5 zM59.2.2.2.2.2.2.2 = some (5, (.iload 4), 2, 0, 0) := by decide +kernel
theorem gx59_7 : aF 7 zM59.2.2.2.2.2.2.2 = some (7, (.iload_n 2), 1, 0, 0) := by decide +kernel
theorem gx59_8 : aF 8 zM59.2.2.2.2.2.2.2 = some (8, (.if_icmp .ge 34), 3, 42, 0) := by decide +kernel
theorem gx59_42 : aF 42 zM59.2.2.2.2.2.2.2 = some (42, (.iload_n 3), 1, 0, 0) := by decide +kernel
theorem gx59_43 : aF 43 zM59.2.2.2.2.2.2.2 = some (43, .ireturn, 1, 0, 0) := by decide +kernel
theorem gx59_11 : aF 11 zM59.2.2.2.2.2.2.2 = some (11, (.iload_n 3), 1, 0, 0) := by decide +kernel
theorem gx59_12 : aF 12 zM59.2.2.2.2.2.2.2 = some (12, (.iload_n 1), 1, 0, 0) := by decide +kernel
theorem gx59_13 : aF 13 zM59.2.2.2.2.2.2.2 = some (13, (.iload 4), 2, 0, 0) := by decide +kernel
theorem gx59_15 : aF 15 zM59.2.2.2.2.2.2.2 = some (15, .ishr, 1, 0, 0) := by decide +kernel
theorem gx59_16 : aF 16 zM59.2.2.2.2.2.2.2 = some (16, (.iconst 1), 1, 0, 0) := by decide +kernel
theorem gx59_17 : aF 17 zM59.2.2.2.2.2.2.2 = some (17, .iand, 1, 0, 0) := by decide +kernel
theorem gx59_18 : aF 18 zM59.2.2.2.2.2.2.2 = some (18, (.aload_n 0), 1, 0, 0) := by decide +kernel
theorem gx59_19 : aF 19 zM59.2.2.2.2.2.2.2 = some (19, (.getfield 30), 3, 5, 0) := by decide +kernel
theorem gx59_22 : aF 22 zM59.2.2.2.2.2.2.2 = some (22, (.getfield 109), 3, 6, 8) := by decide +kernel
theorem gx59_25 : aF 25 zM59.2.2.2.2.2.2.2 = some (25, (.aload_n 0), 1, 0, 0) := by decide +kernel
theorem gx59_26 : aF 26 zM59.2.2.2.2.2.2.2 = some (26, (.getfield 15), 3, 5, 5) := by decide +kernel
theorem gx59_29 : aF 29 zM59.2.2.2.2.2.2.2 = some (29, (.iload 4), 2, 0, 0) := by decide +kernel
theorem gx59_31 : aF 31 zM59.2.2.2.2.2.2.2 = some (31, .iaload, 1, 0, 0) := by decide +kernel
theorem gx59_32 : aF 32 zM59.2.2.2.2.2.2.2 = some (32, .iaload, 1, 0, 0) := by decide +kernel
theorem gx59_33 : aF 33 zM59.2.2.2.2.2.2.2 = some (33, .imul, 1, 0, 0) := by decide +kernel
theorem gx59_34 : aF 34 zM59.2.2.2.2.2.2.2 = some (34, .iadd, 1, 0, 0) := by decide +kernel
theorem gx59_35 : aF 35 zM59.2.2.2.2.2.2.2 = some (35, (.istore_n 3), 1, 0, 0) := by decide +kernel
theorem gx59_36 : aF 36 zM59.2.2.2.2.2.2.2 = some (36, (.iinc 4 1), 3, 0, 0) := by decide +kernel
theorem gx59_39 : aF 39 zM59.2.2.2.2.2.2.2 = some (39, (.goto (-34)), 3, 5, 0) := by decide +kernel
theorem gx328_0 : aF 0 zM328.2.2.2.2.2.2.2 = some (0, (.iload_n 0), 1, 0, 0) := by decide +kernel
theorem gx328_1 : aF 1 zM328.2.2.2.2.2.2.2 = some (1, (.iload_n 1), 1, 0, 0) := by decide +kernel
theorem gx328_2 : aF 2 zM328.2.2.2.2.2.2.2 = some (2, (.if_icmp .ge 7), 3, 9, 0) := by decide +kernel
theorem gx328_9 : aF 9 zM328.2.2.2.2.2.2.2 = some (9, (.iload_n 0), 1, 0, 0) := by decide +kernel
theorem gx328_10 : aF 10 zM328.2.2.2.2.2.2.2 = some (10, (.iload_n 1), 1, 0, 0) := by decide +kernel
theorem gx328_11 : aF 11 zM328.2.2.2.2.2.2.2 = some (11, (.if_icmp .ne 7), 3, 18, 0) := by decide +kernel
theorem gx328_18 : aF 18 zM328.2.2.2.2.2.2.2 = some (18, (.iconst 1), 1, 0, 0) := by decide +kernel
theorem gx328_19 : aF 19 zM328.2.2.2.2.2.2.2 = some (19, .ireturn, 1, 0, 0) := by decide +kernel
theorem gx328_14 : aF 14 zM328.2.2.2.2.2.2.2 = some (14, (.iconst 0), 1, 0, 0) := by decide +kernel
theorem gx328_15 : aF 15 zM328.2.2.2.2.2.2.2 = some (15, (.goto 4), 3, 19, 0) := by decide +kernel
theorem gx328_5 : aF 5 zM328.2.2.2.2.2.2.2 = some (5, (.iconst (-1)), 1, 0, 0) := by decide +kernel
theorem gx328_6 : aF 6 zM328.2.2.2.2.2.2.2 = some (6, (.goto 13), 3, 19, 0) := by decide +kernel
theorem gx58_0 : aF 0 zM58.2.2.2.2.2.2.2 = some (0, (.aload_n 0), 1, 0, 0) := by decide +kernel
theorem gx58_1 : aF 1 zM58.2.2.2.2.2.2.2 = some (1, (.iload_n 1), 1, 0, 0) := by decide +kernel
theorem gx58_2 : aF 2 zM58.2.2.2.2.2.2.2 = some (2, (.iload_n 3), 1, 0, 0) := by decide +kernel
theorem gx58_3 : aF 3 zM58.2.2.2.2.2.2.2 = some (3, (.invokevirtual 98), 3, 59, 0) := by decide +kernel
theorem gx58_6 : aF 6 zM58.2.2.2.2.2.2.2 = some (6, (.istore 4), 2, 0, 0) := by decide +kernel
theorem gx58_8 : aF 8 zM58.2.2.2.2.2.2.2 = some (8, (.aload_n 0), 1, 0, 0) := by decide +kernel
theorem gx58_9 : aF 9 zM58.2.2.2.2.2.2.2 = some (9, (.iload_n 2), 1, 0, 0) := by decide +kernel
theorem gx58_10 : aF 10 zM58.2.2.2.2.2.2.2 = some (10, (.iload_n 3), 1, 0, 0) := by decide +kernel
theorem gx58_11 : aF 11 zM58.2.2.2.2.2.2.2 = some (11, (.invokevirtual 98), 3, 59, 0) := by decide +kernel
theorem gx58_14 : aF 14 zM58.2.2.2.2.2.2.2 = some (14, (.istore 5), 2, 0, 0) := by decide +kernel
theorem gx58_16 : aF 16 zM58.2.2.2.2.2.2.2 = some (16, (.iload 4), 2, 0, 0) := by decide +kernel
theorem gx58_18 : aF 18 zM58.2.2.2.2.2.2.2 = some (18, (.iload 5), 2, 0, 0) := by decide +kernel
theorem gx58_20 : aF 20 zM58.2.2.2.2.2.2.2 = some (20, (.if_icmp .eq 16), 3, 36, 0) := by decide +kernel
theorem gx58_36 : aF 36 zM58.2.2.2.2.2.2.2 = some (36, (.iload_n 1), 1, 0, 0) := by decide +kernel
theorem gx58_37 : aF 37 zM58.2.2.2.2.2.2.2 = some (37, (.invokestatic 101), 3, 329, 0) := by decide +kernel
theorem gx58_40 : aF 40 zM58.2.2.2.2.2.2.2 = some (40, (.iload_n 2), 1, 0, 0) := by decide +kernel
theorem gx58_41 : aF 41 zM58.2.2.2.2.2.2.2 = some (41, (.invokestatic 101), 3, 329, 0) := by decide +kernel
theorem gx58_44 : aF 44 zM58.2.2.2.2.2.2.2 = some (44, (.invokestatic 106), 3, 328, 0) := by decide +kernel
theorem gx58_47 : aF 47 zM58.2.2.2.2.2.2.2 = some (47, (.istore 6), 2, 0, 0) := by decide +kernel
theorem gx58_49 : aF 49 zM58.2.2.2.2.2.2.2 = some (49, (.iload 6), 2, 0, 0) := by decide +kernel
theorem gx58_51 : aF 51 zM58.2.2.2.2.2.2.2 = some (51, (.ifCond .eq 16), 3, 67, 0) := by decide +kernel
theorem gx58_67 : aF 67 zM58.2.2.2.2.2.2.2 = some (67, (.iload_n 1), 1, 0, 0) := by decide +kernel
theorem gx58_68 : aF 68 zM58.2.2.2.2.2.2.2 = some (68, (.iload_n 2), 1, 0, 0) := by decide +kernel
theorem gx58_69 : aF 69 zM58.2.2.2.2.2.2.2 = some (69, (.if_icmp .ge 7), 3, 76, 0) := by decide +kernel
theorem gx58_76 : aF 76 zM58.2.2.2.2.2.2.2 = some (76, (.iconst 0), 1, 0, 0) := by decide +kernel
theorem gx58_77 : aF 77 zM58.2.2.2.2.2.2.2 = some (77, .ireturn, 1, 0, 0) := by decide +kernel
theorem gx58_72 : aF 72 zM58.2.2.2.2.2.2.2 = some (72, (.iconst 1), 1, 0, 0) := by decide +kernel
theorem gx58_73 : aF 73 zM58.2.2.2.2.2.2.2 = some (73, (.goto 4), 3, 77, 0) := by decide +kernel
theorem gx58_54 : aF 54 zM58.2.2.2.2.2.2.2 = some (54, (.iload 6), 2, 0, 0) := by decide +kernel
theorem gx58_56 : aF 56 zM58.2.2.2.2.2.2.2 = some (56, (.ifCond .ge 7), 3, 63, 0) := by decide +kernel
theorem gx58_63 : aF 63 zM58.2.2.2.2.2.2.2 = some (63, (.iconst 0), 1, 0, 0) := by decide +kernel
theorem gx58_64 : aF 64 zM58.2.2.2.2.2.2.2 = some (64, (.goto 13), 3, 77, 0) := by decide +kernel
theorem gx58_59 : aF 59 zM58.2.2.2.2.2.2.2 = some (59, (.iconst 1), 1, 0, 0) := by decide +kernel
theorem gx58_60 : aF 60 zM58.2.2.2.2.2.2.2 = some (60, (.goto 17), 3, 77, 0) := by decide +kernel
theorem gx58_23 : aF 23 zM58.2.2.2.2.2.2.2 = some (23, (.iload 4), 2, 0, 0) := by decide +kernel
theorem gx58_25 : aF 25 zM58.2.2.2.2.2.2.2 = some (25, (.iload 5), 2, 0, 0) := by decide +kernel
theorem gx58_27 : aF 27 zM58.2.2.2.2.2.2.2 = some (27, (.if_icmp .ge 7), 3, 34, 0) := by decide +kernel
theorem gx58_34 : aF 34 zM58.2.2.2.2.2.2.2 = some (34, (.iconst 0), 1, 0, 0) := by decide +kernel
theorem gx58_35 : aF 35 zM58.2.2.2.2.2.2.2 = some (35, .ireturn, 1, 0, 0) := by decide +kernel
theorem gx58_30 : aF 30 zM58.2.2.2.2.2.2.2 = some (30, (.iconst 1), 1, 0, 0) := by decide +kernel
theorem gx58_31 : aF 31 zM58.2.2.2.2.2.2.2 = some (31, (.goto 4), 3, 35, 0) := by decide +kernel
theorem gx56_0 : aF 0 zM56.2.2.2.2.2.2.2 = some (0, (.iconst 1), 1, 0, 0) := by decide +kernel
theorem gx56_1 : aF 1 zM56.2.2.2.2.2.2.2 = some (1, (.iload_n 1), 1, 0, 0) := by decide +kernel
theorem gx56_2 : aF 2 zM56.2.2.2.2.2.2.2 = some (2, .ishl, 1, 0, 0) := by decide +kernel
theorem gx56_3 : aF 3 zM56.2.2.2.2.2.2.2 = some (3, (.iconst 1), 1, 0, 0) := by decide +kernel
theorem gx56_4 : aF 4 zM56.2.2.2.2.2.2.2 = some (4, .isub, 1, 0, 0) := by decide +kernel
theorem gx56_5 : aF 5 zM56.2.2.2.2.2.2.2 = some (5, (.istore_n 2), 1, 0, 0) := by decide +kernel
theorem gx56_6 : aF 6 zM56.2.2.2.2.2.2.2 = some (6, (.iconst 0), 1, 0, 0) := by decide +kernel
theorem gx56_7 : aF 7 zM56.2.2.2.2.2.2.2 = some (7, (.istore_n 3), 1, 0, 0) := by decide +kernel
theorem gx56_8 : aF 8 zM56.2.2.2.2.2.2.2 = some (8, (.iload_n 3), 1, 0, 0) := by decide +kernel
theorem gx56_9 : aF 9 zM56.2.2.2.2.2.2.2 = some (9, (.iconst 1), 1, 0, 0) := by decide +kernel
theorem gx56_10 : aF 10 zM56.2.2.2.2.2.2.2 = some (10, (.iload_n 1), 1, 0, 0) := by decide +kernel
theorem gx56_11 : aF 11 zM56.2.2.2.2.2.2.2 = some (11, .ishl, 1, 0, 0) := by decide +kernel
theorem gx56_12 : aF 12 zM56.2.2.2.2.2.2.2 = some (12, (.if_icmp .ge 30), 3, 42, 0) := by decide +kernel
theorem gx56_42 : aF 42 zM56.2.2.2.2.2.2.2 = some (42, (.iload_n 2), 1, 0, 0) := by decide +kernel
theorem gx56_43 : aF 43 zM56.2.2.2.2.2.2.2 = some (43, .ireturn, 1, 0, 0) := by decide +kernel
theorem gx56_15 : aF 15 zM56.2.2.2.2.2.2.2 = some (15, (.aload_n 0), 1, 0, 0) := by decide +kernel
theorem gx56_16 : aF 16 zM56.2.2.2.2.2.2.2 = some (16, (.iload_n 3), 1, 0, 0) := by decide +kernel
theorem gx56_17 : aF 17 zM56.2.2.2.2.2.2.2 = some (17, (.iload_n 1), 1, 0, 0) := by decide +kernel
theorem gx56_18 : aF 18 zM56.2.2.2.2.2.2.2 = some (18, (.invokevirtual 91), 3, 57, 0) := by decide +kernel
theorem gx56_21 : aF 21 zM56.2.2.2.2.2.2.2 = some (21, (.ifCond .eq 15), 3, 36, 0) := by decide +kernel
theorem gx56_36 : aF 36 zM56.2.2.2.2.2.2.2 = some (36, (.iinc 3 1), 3, 0, 0) := by decide +kernel
theorem gx56_39 : aF 39 zM56.2.2.2.2.2.2.2 = some (39, (.goto (-31)), 3, 8, 0) := by decide +kernel
theorem gx56_24 : aF 24 zM56.2.2.2.2.2.2.2 = some (24, (.aload_n 0), 1, 0, 0) := by decide +kernel
theorem gx56_25 : aF 25 zM56.2.2.2.2.2.2.2 = some (25, (.iload_n 3), 1, 0, 0) := by decide +kernel
theorem gx56_26 : aF 26 zM56.2.2.2.2.2.2.2 = some (26, (.iload_n 2), 1, 0, 0) := by decide +kernel
theorem gx56_27 : aF 27 zM56.2.2.2.2.2.2.2 = some (27, (.iload_n 1), 1, 0, 0) := by decide +kernel
theorem gx56_28 : aF 28 zM56.2.2.2.2.2.2.2 = some (28, (.invokevirtual 94), 3, 58, 0) := by decide +kernel
theorem gx56_31 : aF 31 zM56.2.2.2.2.2.2.2 = some (31, (.ifCond .eq 5), 3, 36, 0) := by decide +kernel
theorem gx56_34 : aF 34 zM56.2.2.2.2.2.2.2 = some (34, (.iload_n 3), 1, 0, 0) := by decide +kernel
theorem gx56_35 : aF 35 zM56.2.2.2.2.2.2.2 = some (35, (.istore_n 2), 1, 0, 0) := by decide +kernel
theorem gx60_0 : aF 0 zM60.2.2.2.2.2.2.2 = some (0, (.aload_n 0), 1, 0, 0) := by decide +kernel
theorem gx60_1 : aF 1 zM60.2.2.2.2.2.2.2 = some (1, (.iconst 0), 1, 0, 0) := by decide +kernel
theorem gx60_2 : aF 2 zM60.2.2.2.2.2.2.2 = some (2, (.putfield 112), 3, 5, 4) := by decide +kernel
theorem gx60_5 : aF 5 zM60.2.2.2.2.2.2.2 = some (5, (.iconst 0), 1, 0, 0) := by decide +kernel
theorem gx60_6 : aF 6 zM60.2.2.2.2.2.2.2 = some (6, (.istore_n 3), 1, 0, 0) := by decide +kernel
theorem gx60_7 : aF 7 zM60.2.2.2.2.2.2.2 = some (7, (.iload_n 3), 1, 0, 0) := by decide +kernel
theorem gx60_8 : aF 8 zM60.2.2.2.2.2.2.2 = some (8, (.iload_n 2), 1, 0, 0) := by decide +kernel
theorem gx60_9 : aF 9 zM60.2.2.2.2.2.2.2 = some (9, (.if_icmp .ge 43), 3, 52, 0) := by decide +kernel
theorem gx60_52 : aF 52 zM60.2.2.2.2.2.2.2 = some (52, (.aload_n 0), 1, 0, 0) := by decide +kernel
theorem gx60_53 : aF 53 zM60.2.2.2.2.2.2.2 = some (53, (.iload_n 1), 1, 0, 0) := by decide +kernel
theorem gx60_54 : aF 54 zM60.2.2.2.2.2.2.2 = some (54, (.iload_n 2), 1, 0, 0) := by decide +kernel
theorem gx60_55 : aF 55 zM60.2.2.2.2.2.2.2 = some (55, (.invokevirtual 98), 3, 59, 0) := by decide +kernel
theorem gx60_58 : aF 58 zM60.2.2.2.2.2.2.2 = some (58, .ireturn, 1, 0, 0) := by decide +kernel
theorem gx60_12 : aF 12 zM60.2.2.2.2.2.2.2 = some (12, (.iload_n 1), 1, 0, 0) := by decide +kernel
theorem gx60_13 : aF 13 zM60.2.2.2.2.2.2.2 = some (13, (.iload_n 3), 1, 0, 0) := by decide +kernel
theorem gx60_14 : aF 14 zM60.2.2.2.2.2.2.2 = some (14, .ishr, 1, 0, 0) := by decide +kernel
theorem gx60_15 : aF 15 zM60.2.2.2.2.2.2.2 = some (15, (.iconst 1), 1, 0, 0) := by decide +kernel
theorem gx60_16 : aF 16 zM60.2.2.2.2.2.2.2 = some (16, .iand, 1, 0, 0) := by decide +kernel
theorem gx60_17 : aF 17 zM60.2.2.2.2.2.2.2 = some (17, (.iconst 1), 1, 0, 0) := by decide +kernel
theorem gx60_18 : aF 18 zM60.2.2.2.2.2.2.2 = some (18, (.if_icmp .ne 28), 3, 46, 0) := by decide +kernel
theorem gx60_46 : aF 46 zM60.2.2.2.2.2.2.2 = some (46, (.iinc 3 1), 3, 0, 0) := by decide +kernel
theorem gx60_49 : aF 49 zM60.2.2.2.2.2.2.2 = some (49, (.goto (-42)), 3, 7, 0) := by decide +kernel
theorem gx60_21 : aF 21 zM60.2.2.2.2.2.2.2 = some (21, (.aload_n 0), 1, 0, 0) := by decide +kernel
theorem gx60_22 : aF 22 zM60.2.2.2.2.2.2.2 = some (22, (.getfield 9), 3, 5, 3) := by decide +kernel
theorem gx60_25 : aF 25 zM60.2.2.2.2.2.2.2 = some (25, (.aload_n 0), 1, 0, 0) := by decide +kernel
theorem gx60_26 : aF 26 zM60.2.2.2.2.2.2.2 = some (26, (.getfield 112), 3, 5, 4) := by decide +kernel
theorem gx60_29 : aF 29 zM60.2.2.2.2.2.2.2 = some (29, (.aload_n 0), 1, 0, 0) := by decide +kernel
theorem gx60_30 : aF 30 zM60.2.2.2.2.2.2.2 = some (30, (.getfield 15), 3, 5, 5) := by decide +kernel
theorem gx60_33 : aF 33 zM60.2.2.2.2.2.2.2 = some (33, (.iload_n 3), 1, 0, 0) := by decide +kernel
theorem gx60_34 : aF 34 zM60.2.2.2.2.2.2.2 = some (34, .iaload, 1, 0, 0) := by decide +kernel
theorem gx60_35 : aF 35 zM60.2.2.2.2.2.2.2 = some (35, .iastore, 1, 0, 0) := by decide +kernel
theorem gx60_36 : aF 36 zM60.2.2.2.2.2.2.2 = some (36, (.aload_n 0), 1, 0, 0) := by decide +kernel
theorem gx60_37 : aF 37 zM60.2.2.2.2.2.2.2 = some (37, .dup, 1, 0, 0) := by decide +kernel
theorem gx60_38 : aF 38 zM60.2.2.2.2.2.2.2 = some (38, (.getfield 112), 3, 5, 4) := by decide +kernel
theorem gx60_41 : aF 41 zM60.2.2.2.2.2.2.2 = some (41, (.iconst 1), 1, 0, 0) := by decide +kernel
theorem gx60_42 : aF 42 zM60.2.2.2.2.2.2.2 = some (42, .iadd, 1, 0, 0) := by decide +kernel
theorem gx60_43 : aF 43 zM60.2.2.2.2.2.2.2 = some (43, (.putfield 112), 3, 5, 4) := by decide +kernel
theorem gx99_0 : aF 0 zM99.2.2.2.2.2.2.2 = some (0, (.iconst 0), 1, 0, 0) := by decide +kernel
theorem gx99_1 : aF 1 zM99.2.2.2.2.2.2.2 = some (1, (.istore_n 2), 1, 0, 0) := by decide +kernel
theorem gx99_2 : aF 2 zM99.2.2.2.2.2.2.2 = some (2, (.iload_n 2), 1, 0, 0) := by decide +kernel
theorem gx99_3 : aF 3 zM99.2.2.2.2.2.2.2 = some (3, (.aload_n 0), 1, 0, 0) := by decide +kernel
theorem gx99_4 : aF 4 zM99.2.2.2.2.2.2.2 = some (4, (.getfield 51), 3, 8, 5) := by decide +kernel
theorem gx99_7 : aF 7 zM99.2.2.2.2.2.2.2 = some (7, (.if_icmp .ge 20), 3, 27, 0) := by decide +kernel
theorem gx99_27 : aF 27 zM99.2.2.2.2.2.2.2 = some (27, (.iconst 0), 1, 0, 0) := by decide +kernel
theorem gx99_28 : aF 28 zM99.2.2.2.2.2.2.2 = some (28, .ireturn, 1, 0, 0) := by decide +kernel
theorem gx99_10 : aF 10 zM99.2.2.2.2.2.2.2 = some (10, (.aload_n 0), 1, 0, 0) := by decide +kernel
theorem gx99_11 : aF 11 zM99.2.2.2.2.2.2.2 = some (11, (.iload_n 2), 1, 0, 0) := by decide +kernel
theorem gx99_12 : aF 12 zM99.2.2.2.2.2.2.2 = some (12, (.invokevirtual 84), 3, 101, 0) := by decide +kernel
theorem gx99_15 : aF 15 zM99.2.2.2.2.2.2.2 = some (15, (.iload_n 1), 1, 0, 0) := by decide +kernel
theorem gx99_16 : aF 16 zM99.2.2.2.2.2.2.2 = some (16, (.if_icmp .ne 5), 3, 21, 0) := by decide +kernel
theorem gx99_21 : aF 21 zM99.2.2.2.2.2.2.2 = some (21, (.iinc 2 1), 3, 0, 0) := by decide +kernel
theorem gx99_24 : aF 24 zM99.2.2.2.2.2.2.2 = some (24, (.goto (-22)), 3, 2, 0) := by decide +kernel
theorem gx99_19 : aF 19 zM99.2.2.2.2.2.2.2 = some (19, (.iconst 1), 1, 0, 0) := by decide +kernel
theorem gx99_20 : aF 20 zM99.2.2.2.2.2.2.2 = some (20, .ireturn, 1, 0, 0) := by decide +kernel
theorem gx53_0 : aF 0 zM53.2.2.2.2.2.2.2 = some (0, (.iconst 0), 1, 0, 0) := by decide +kernel
theorem gx53_1 : aF 1 zM53.2.2.2.2.2.2.2 = some (1, (.istore_n 2), 1, 0, 0) := by decide +kernel
theorem gx53_2 : aF 2 zM53.2.2.2.2.2.2.2 = some (2, (.iconst 0), 1, 0, 0) := by decide +kernel
theorem gx53_3 : aF 3 zM53.2.2.2.2.2.2.2 = some (3, (.istore_n 3), 1, 0, 0) := by decide +kernel
theorem gx53_4 : aF 4 zM53.2.2.2.2.2.2.2 = some (4, (.iload_n 3), 1, 0, 0) := by decide +kernel
theorem gx53_5 : aF 5 zM53.2.2.2.2.2.2.2 = some (5, (.aload_n 0), 1, 0, 0) := by decide +kernel
theorem gx53_6 : aF 6 zM53.2.2.2.2.2.2.2 = some (6, (.getfield 30), 3, 5, 0) := by decide +kernel
theorem gx53_9 : aF 9 zM53.2.2.2.2.2.2.2 = some (9, (.getfield 42), 3, 6, 1) := by decide +kernel
theorem gx53_12 : aF 12 zM53.2.2.2.2.2.2.2 = some (12, (.if_icmp .ge 62), 3, 74, 0) := by decide +kernel
theorem gx53_74 : aF 74 zM53.2.2.2.2.2.2.2 = some (74, (.iconst 0), 1, 0, 0) := by decide +kernel
theorem gx53_75 : aF 75 zM53.2.2.2.2.2.2.2 = some (75, (.istore_n 3), 1, 0, 0) := by decide +kernel
theorem gx53_15 : aF 15 zM53.2.2.2.2.2.2.2 = some (15, (.aload_n 0), 1, 0, 0) := by decide +kernel
theorem gx53_16 : aF 16 zM53.2.2.2.2.2.2.2 = some (16, (.getfield 30), 3, 5, 0) := by decide +kernel
theorem gx53_19 : aF 19 zM53.2.2.2.2.2.2.2 = some (19, (.iload_n 3), 1, 0, 0) := by decide +kernel
theorem gx53_20 : aF 20 zM53.2.2.2.2.2.2.2 = some (20, (.invokevirtual 48), 3, 77, 0) := by decide +kernel
theorem gx53_23 : aF 23 zM53.2.2.2.2.2.2.2 = some (23, (.ifCond .eq 45), 3, 68, 0) := by decide +kernel
theorem gx53_26 : aF 26 zM53.2.2.2.2.2.2.2 = some (26, (.aload_n 1), 1, 0, 0) := by decide +kernel
theorem gx53_27 : aF 27 zM53.2.2.2.2.2.2.2 = some (27, (.iload_n 3), 1, 0, 0) := by decide +kernel
theorem gx53_28 : aF 28 zM53.2.2.2.2.2.2.2 = some (28, (.invokevirtual 52), 3, 99, 0) := by decide +kernel
theorem gx53_31 : aF 31 zM53.2.2.2.2.2.2.2 = some (31, (.ifCond .eq 37), 3, 68, 0) := by decide +kernel
theorem gx53_34 : aF 34 zM53.2.2.2.2.2.2.2 = some (34, (.aload_n 0), 1, 0, 0) := by decide +kernel
theorem gx53_35 : aF 35 zM53.2.2.2.2.2.2.2 = some (35, (.getfield 30), 3, 5, 0) := by decide +kernel
theorem gx53_38 : aF 38 zM53.2.2.2.2.2.2.2 = some (38, (.iload_n 3), 1, 0, 0) := by decide +kernel
theorem gx53_39 : aF 39 zM53.2.2.2.2.2.2.2 = some (39, (.aload_n 1), 1, 0, 0) := by decide +kernel
theorem gx53_40 : aF 40 zM53.2.2.2.2.2.2.2 = some (40, (.getfield 57), 3, 8, 9) := by decide +kernel
theorem gx53_43 : aF 43 zM53.2.2.2.2.2.2.2 = some (43, (.invokevirtual 60), 3, 83, 0) := by decide +kernel
theorem gx53_46 : aF 46 zM53.2.2.2.2.2.2.2 = some (46, (.ifCond .le 22), 3, 68, 0) := by decide +kernel
theorem gx53_49 : aF 49 zM53.2.2.2.2.2.2.2 = some (49, (.iload_n 2), 1, 0, 0) := by decide +kernel
theorem gx53_50 : aF 50 zM53.2.2.2.2.2.2.2 = some (50, (.bipush 10), 2, 0, 0) := by decide +kernel
theorem gx53_52 : aF 52 zM53.2.2.2.2.2.2.2 = some (52, (.if_icmp .lt 6), 3, 58, 0) := by decide +kernel
theorem gx53_58 : aF 58 zM53.2.2.2.2.2.2.2 = some (58, (.aload_n 0), 1, 0, 0) := by decide +kernel
theorem gx53_59 : aF 59 zM53.2.2.2.2.2.2.2 = some (59, (.getfield 15), 3, 5, 5) := by decide +kernel
theorem gx53_62 : aF 62 zM53.2.2.2.2.2.2.2 = some (62, (.iload_n 2), 1, 0, 0) := by decide +kernel
theorem gx53_63 : aF 63 zM53.2.2.2.2.2.2.2 = some (63, (.iload_n 3), 1, 0, 0) := by decide +kernel
theorem gx53_64 : aF 64 zM53.2.2.2.2.2.2.2 = some (64, .iastore, 1, 0, 0) := by decide +kernel
theorem gx53_65 : aF 65 zM53.2.2.2.2.2.2.2 = some (65, (.iinc 2 1), 3, 0, 0) := by decide +kernel
theorem gx53_55 : aF 55 zM53.2.2.2.2.2.2.2 = some (55, (.bipush (-4)), 2, 0, 0) := by decide +kernel
theorem gx53_57 : aF 57 zM53.2.2.2.2.2.2.2 = some (57, .ireturn, 1, 0, 0) := by decide +kernel
theorem gx53_68 : aF 68 zM53.2.2.2.2.2.2.2 = some (68, (.iinc 3 1), 3, 0, 0) := by decide +kernel
theorem gx53_71 : aF 71 zM53.2.2.2.2.2.2.2 = some (71, (.goto (-67)), 3, 4, 0) := by decide +kernel
theorem gx53_76 : aF 76 zM53.2.2.2.2.2.2.2 = some (76, (.iload_n 3), 1, 0, 0) := by decide +kernel
theorem gx53_77 : aF 77 zM53.2.2.2.2.2.2.2 = some (77, (.iload_n 2), 1, 0, 0) := by decide +kernel
theorem gx53_78 : aF 78 zM53.2.2.2.2.2.2.2 = some (78, (.if_icmp .ge 22), 3, 100, 0) := by decide +kernel
theorem gx53_100 : aF 100 zM53.2.2.2.2.2.2.2 = some (100, (.aload_n 0), 1, 0, 0) := by decide +kernel
theorem gx53_101 : aF 101 zM53.2.2.2.2.2.2.2 = some (101, (.aload_n 0), 1, 0, 0) := by decide +kernel
theorem gx53_102 : aF 102 zM53.2.2.2.2.2.2.2 = some (102, (.iload_n 2), 1, 0, 0) := by decide +kernel
theorem gx53_103 : aF 103 zM53.2.2.2.2.2.2.2 = some (103, (.invokevirtual 68), 3, 56, 0) := by decide +kernel
theorem gx53_106 : aF 106 zM53.2.2.2.2.2.2.2 = some (106, (.iload_n 2), 1, 0, 0) := by decide +kernel
theorem gx53_107 : aF 107 zM53.2.2.2.2.2.2.2 = some (107, (.invokevirtual 72), 3, 60, 0) := by decide +kernel
theorem gx53_110 : aF 110 zM53.2.2.2.2.2.2.2 = some (110, .ireturn, 1, 0, 0) := by decide +kernel
theorem gx53_81 : aF 81 zM53.2.2.2.2.2.2.2 = some (81, (.aload_n 0), 1, 0, 0) := by decide +kernel
theorem gx53_82 : aF 82 zM53.2.2.2.2.2.2.2 = some (82, (.getfield 18), 3, 5, 6) := by decide +kernel
theorem gx53_85 : aF 85 zM53.2.2.2.2.2.2.2 = some (85, (.iload_n 3), 1, 0, 0) := by decide +kernel
theorem gx53_86 : aF 86 zM53.2.2.2.2.2.2.2 = some (86, (.aload_n 0), 1, 0, 0) := by decide +kernel
theorem gx53_87 : aF 87 zM53.2.2.2.2.2.2.2 = some (87, (.iload_n 3), 1, 0, 0) := by decide +kernel
theorem gx53_88 : aF 88 zM53.2.2.2.2.2.2.2 = some (88, (.iload_n 2), 1, 0, 0) := by decide +kernel
theorem gx53_89 : aF 89 zM53.2.2.2.2.2.2.2 = some (89, (.aload_n 1), 1, 0, 0) := by decide +kernel
theorem gx53_90 : aF 90 zM53.2.2.2.2.2.2.2 = some (90, (.invokevirtual 64), 3, 54, 0) := by decide +kernel
theorem gx53_93 : aF 93 zM53.2.2.2.2.2.2.2 = some (93, .iastore, 1, 0, 0) := by decide +kernel
theorem gx53_94 : aF 94 zM53.2.2.2.2.2.2.2 = some (94, (.iinc 3 1), 3, 0, 0) := by decide +kernel
theorem gx53_97 : aF 97 zM53.2.2.2.2.2.2.2 = some (97, (.goto (-21)), 3, 76, 0) := by decide +kernel
theorem gx62_0 : aF 0 zM62.2.2.2.2.2.2.2 = some (0, (.aload_n 0), 1, 0, 0) := by decide +kernel
theorem gx62_1 : aF 1 zM62.2.2.2.2.2.2.2 = some (1, (.getfield 38), 3, 5, 2) := by decide +kernel
theorem gx62_4 : aF 4 zM62.2.2.2.2.2.2.2 = some (4, (.iload_n 2), 1, 0, 0) := by decide +kernel
theorem gx62_5 : aF 5 zM62.2.2.2.2.2.2.2 = some (5, (.aload_n 0), 1, 0, 0) := by decide +kernel
theorem gx62_6 : aF 6 zM62.2.2.2.2.2.2.2 = some (6, (.getfield 30), 3, 5, 0) := by decide +kernel
theorem gx62_9 : aF 9 zM62.2.2.2.2.2.2.2 = some (9, (.getfield 141), 3, 6, 0) := by decide +kernel
theorem gx62_12 : aF 12 zM62.2.2.2.2.2.2.2 = some (12, (.invokevirtual 144), 3, 1, 0) := by decide +kernel
theorem gx62_15 : aF 15 zM62.2.2.2.2.2.2.2 = some (15, (.astore_n 3), 1, 0, 0) := by decide +kernel
theorem gx62_16 : aF 16 zM62.2.2.2.2.2.2.2 = some (16, (.aload_n 0), 1, 0, 0) := by decide +kernel
theorem gx62_17 : aF 17 zM62.2.2.2.2.2.2.2 = some (17, (.iconst 0), 1, 0, 0) := by decide +kernel
theorem gx62_18 : aF 18 zM62.2.2.2.2.2.2.2 = some (18, (.putfield 119), 3, 5, 12) := by decide +kernel
theorem gx62_21 : aF 21 zM62.2.2.2.2.2.2.2 = some (21, (.iconst 0), 1, 0, 0) := by decide +kernel
theorem gx62_22 : aF 22 zM62.2.2.2.2.2.2.2 = some (22, (.istore 4), 2, 0, 0) := by decide +kernel
theorem gx62_24 : aF 24 zM62.2.2.2.2.2.2.2 = some (24, (.iload 4), 2, 0, 0) := by decide +kernel
theorem gx62_26 : aF 26 zM62.2.2.2.2.2.2.2 = some (26, (.aload_n 0), 1, 0, 0) := by decide +kernel
theorem gx62_27 : aF 27 zM62.2.2.2.2.2.2.2 = some (27, (.getfield 30), 3, 5, 0) := by decide +kernel
theorem gx62_30 : aF 30 zM62.2.2.2.2.2.2.2 = some (30, (.getfield 42), 3, 6, 1) := by decide +kernel
theorem gx62_33 : aF 33 zM62.2.2.2.2.2.2.2 = some (33, (.if_icmp .ge 93), 3, 126, 0) := by decide +kernel
theorem gx62_126 : aF 126 zM62.2.2.2.2.2.2.2 = some (126, .return_, 1, 0, 0) := by decide +kernel
theorem gx62_36 : aF 36 zM62.2.2.2.2.2.2.2 = some (36, (.aload_n 0), 1, 0, 0) := by decide +kernel
theorem gx62_37 : aF 37 zM62.2.2.2.2.2.2.2 = some (37, (.getfield 30), 3, 5, 0) := by decide +kernel
theorem gx62_40 : aF 40 zM62.2.2.2.2.2.2.2 = some (40, (.iload 4), 2, 0, 0) := by decide +kernel
theorem gx62_42 : aF 42 zM62.2.2.2.2.2.2.2 = some (42, (.iload_n 1), 1, 0, 0) := by decide +kernel
theorem gx62_43 : aF 43 zM62.2.2.2.2.2.2.2 = some (43, (.invokevirtual 150), 3, 76, 0) := by decide +kernel
theorem gx62_46 : aF 46 zM62.2.2.2.2.2.2.2 = some (46, (.ifCond .eq 74), 3, 120, 0) := by decide +kernel
theorem gx62_49 : aF 49 zM62.2.2.2.2.2.2.2 = some (49, (.aload_n 3), 1, 0, 0) := by decide +kernel
theorem gx62_50 : aF 50 zM62.2.2.2.2.2.2.2 = some (50, (.getfield 153), 3, 8, 12) := by decide +kernel
theorem gx62_53 : aF 53 zM62.2.2.2.2.2.2.2 = some (53, (.iload 4), 2, 0, 0) := by decide +kernel
theorem gx62_55 : aF 55 zM62.2.2.2.2.2.2.2 = some (55, .iaload, 1, 0, 0) := by decide +kernel
theorem gx62_56 : aF 56 zM62.2.2.2.2.2.2.2 = some (56, (.iconst (-1)), 1, 0, 0) := by decide +kernel
theorem gx62_57 : aF 57 zM62.2.2.2.2.2.2.2 = some (57, (.if_icmp .eq 63), 3, 120, 0) := by decide +kernel
theorem gx62_60 : aF 60 zM62.2.2.2.2.2.2.2 = some (60, (.aload_n 0), 1, 0, 0) := by decide +kernel
theorem gx62_61 : aF 61 zM62.2.2.2.2.2.2.2 = some (61, (.getfield 24), 3, 5, 10) := by decide +kernel
theorem gx62_64 : aF 64 zM62.2.2.2.2.2.2.2 = some (64, (.aload_n 0), 1, 0, 0) := by decide +kernel
theorem gx62_65 : aF 65 zM62.2.2.2.2.2.2.2 = some (65, (.getfield 119), 3, 5, 12) := by decide +kernel
theorem gx62_68 : aF 68 zM62.2.2.2.2.2.2.2 = some (68, (.iload 4), 2, 0, 0) := by decide +kernel
theorem gx62_70 : aF 70 zM62.2.2.2.2.2.2.2 = some (70, .iastore, 1, 0, 0) := by decide +kernel
theorem gx62_71 : aF 71 zM62.2.2.2.2.2.2.2 = some (71, (.aload_n 0), 1, 0, 0) := by decide +kernel
theorem gx62_72 : aF 72 zM62.2.2.2.2.2.2.2 = some (72, (.getfield 27), 3, 5, 11) := by decide +kernel
theorem gx62_75 : aF 75 zM62.2.2.2.2.2.2.2 = some (75, (.aload_n 0), 1, 0, 0) := by decide +kernel
theorem gx62_76 : aF 76 zM62.2.2.2.2.2.2.2 = some (76, (.getfield 119), 3, 5, 12) := by decide +kernel
theorem gx62_79 : aF 79 zM62.2.2.2.2.2.2.2 = some (79, (.iload_n 2), 1, 0, 0) := by decide +kernel
theorem gx62_80 : aF 80 zM62.2.2.2.2.2.2.2 = some (80, (.ifCond .ne 7), 3, 87, 0) := by decide +kernel
theorem gx62_87 : aF 87 zM62.2.2.2.2.2.2.2 = some (87, (.aload_n 0), 1, 0, 0) := by decide +kernel
theorem gx62_88 : aF 88 zM62.2.2.2.2.2.2.2 = some (88, (.getfield 38), 3, 5, 2) := by decide +kernel
theorem gx62_91 : aF 91 zM62.2.2.2.2.2.2.2 = some (91, (.iload_n 2), 1, 0, 0) := by decide +kernel
theorem gx62_92 : aF 92 zM62.2.2.2.2.2.2.2 = some (92, (.iconst 1), 1, 0, 0) := by decide +kernel
theorem gx62_93 : aF 93 zM62.2.2.2.2.2.2.2 = some (93, .isub, 1, 0, 0) := by decide +kernel
theorem gx62_94 : aF 94 zM62.2.2.2.2.2.2.2 = some (94, (.aload_n 0), 1, 0, 0) := by decide +kernel
theorem gx62_95 : aF 95 zM62.2.2.2.2.2.2.2 = some (95, (.getfield 30), 3, 5, 0) := by decide +kernel
theorem gx62_98 : aF 98 zM62.2.2.2.2.2.2.2 = some (98, (.getfield 141), 3, 6, 0) := by decide +kernel
theorem gx62_101 : aF 101 zM62.2.2.2.2.2.2.2 = some (101, (.invokevirtual 144), 3, 1, 0) := by decide +kernel
theorem gx62_104 : aF 104 zM62.2.2.2.2.2.2.2 = some (104, (.iload 4), 2, 0, 0) := by decide +kernel
theorem gx62_106 : aF 106 zM62.2.2.2.2.2.2.2 = some (106, (.invokevirtual 156), 3, 102, 0) := by decide +kernel
theorem gx62_83 : aF 83 zM62.2.2.2.2.2.2.2 = some (83, (.iconst 0), 1, 0, 0) := by decide +kernel
theorem gx62_84 : aF 84 zM62.2.2.2.2.2.2.2 = some (84, (.goto 25), 3, 109, 0) := by decide +kernel
theorem gx62_109 : aF 109 zM62.2.2.2.2.2.2.2 = some (109, .iastore, 1, 0, 0) := by decide +kernel
theorem gx62_110 : aF 110 zM62.2.2.2.2.2.2.2 = some (110, (.aload_n 0), 1, 0, 0) := by decide +kernel
theorem gx62_111 : aF 111 zM62.2.2.2.2.2.2.2 = some (111, .dup, 1, 0, 0) := by decide +kernel
theorem gx62_112 : aF 112 zM62.2.2.2.2.2.2.2 = some (112, (.getfield 119), 3, 5, 12) := by decide +kernel
theorem gx62_115 : aF 115 zM62.2.2.2.2.2.2.2 = some (115, (.iconst 1), 1, 0, 0) := by decide +kernel
theorem gx62_116 : aF 116 zM62.2.2.2.2.2.2.2 = some (116, .iadd, 1, 0, 0) := by decide +kernel
theorem gx62_117 : aF 117 zM62.2.2.2.2.2.2.2 = some (117, (.putfield 119), 3, 5, 12) := by decide +kernel
theorem gx62_120 : aF 120 zM62.2.2.2.2.2.2.2 = some (120, (.iinc 4 1), 3, 0, 0) := by decide +kernel
theorem gx62_123 : aF 123 zM62.2.2.2.2.2.2.2 = some (123, (.goto (-99)), 3, 24, 0) := by decide +kernel
theorem gx63_0 : aF 0 zM63.2.2.2.2.2.2.2 = some (0, (.iconst 0), 1, 0, 0) := by decide +kernel
theorem gx63_1 : aF 1 zM63.2.2.2.2.2.2.2 = some (1, (.istore_n 1), 1, 0, 0) := by decide +kernel
theorem gx63_2 : aF 2 zM63.2.2.2.2.2.2.2 = some (2, (.iconst 1), 1, 0, 0) := by decide +kernel
theorem gx63_3 : aF 3 zM63.2.2.2.2.2.2.2 = some (3, (.istore_n 2), 1, 0, 0) := by decide +kernel
theorem gx63_4 : aF 4 zM63.2.2.2.2.2.2.2 = some (4, (.iload_n 2), 1, 0, 0) := by decide +kernel
theorem gx63_5 : aF 5 zM63.2.2.2.2.2.2.2 = some (5, (.aload_n 0), 1, 0, 0) := by decide +kernel
theorem gx63_6 : aF 6 zM63.2.2.2.2.2.2.2 = some (6, (.getfield 119), 3, 5, 12) := by decide +kernel
theorem gx63_9 : aF 9 zM63.2.2.2.2.2.2.2 = some (9, (.if_icmp .ge 26), 3, 35, 0) := by decide +kernel
theorem gx63_35 : aF 35 zM63.2.2.2.2.2.2.2 = some (35, (.iload_n 1), 1, 0, 0) := by decide +kernel
theorem gx63_36 : aF 36 zM63.2.2.2.2.2.2.2 = some (36, .ireturn, 1, 0, 0) := by decide +kernel
theorem gx63_12 : aF 12 zM63.2.2.2.2.2.2.2 = some (12, (.aload_n 0), 1, 0, 0) := by decide +kernel
theorem gx63_13 : aF 13 zM63.2.2.2.2.2.2.2 = some (13, (.getfield 27), 3, 5, 11) := by decide +kernel
theorem gx63_16 : aF 16 zM63.2.2.2.2.2.2.2 = some (16, (.iload_n 2), 1, 0, 0) := by decide +kernel
theorem gx63_17 : aF 17 zM63.2.2.2.2.2.2.2 = some (17, .iaload, 1, 0, 0) := by decide +kernel
theorem gx63_18 : aF 18 zM63.2.2.2.2.2.2.2 = some (18, (.aload_n 0), 1, 0, 0) := by decide +kernel
theorem gx63_19 : aF 19 zM63.2.2.2.2.2.2.2 = some (19, (.getfield 27), 3, 5, 11) := by decide +kernel
theorem gx63_22 : aF 22 zM63.2.2.2.2.2.2.2 = some (22, (.iload_n 1), 1, 0, 0) := by decide +kernel
theorem gx63_23 : aF 23 zM63.2.2.2.2.2.2.2 = some (23, .iaload, 1, 0, 0) := by decide +kernel
theorem gx63_24 : aF 24 zM63.2.2.2.2.2.2.2 = some (24, (.if_icmp .le 5), 3, 29, 0) := by decide +kernel
theorem gx63_29 : aF 29 zM63.2.2.2.2.2.2.2 = some (29, (.iinc 2 1), 3, 0, 0) := by decide +kernel
theorem gx63_32 : aF 32 zM63.2.2.2.2.2.2.2 = some (32, (.goto (-28)), 3, 4, 0) := by decide +kernel
theorem gx63_27 : aF 27 zM63.2.2.2.2.2.2.2 = some (27, (.iload_n 2), 1, 0, 0) := by decide +kernel
theorem gx63_28 : aF 28 zM63.2.2.2.2.2.2.2 = some (28, (.istore_n 1), 1, 0, 0) := by decide +kernel
theorem gx64_0 : aF 0 zM64.2.2.2.2.2.2.2 = some (0, (.aload_n 0), 1, 0, 0) := by decide +kernel
theorem gx64_1 : aF 1 zM64.2.2.2.2.2.2.2 = some (1, (.aload_n 0), 1, 0, 0) := by decide +kernel
theorem gx64_2 : aF 2 zM64.2.2.2.2.2.2.2 = some (2, (.getfield 159), 3, 5, 7) := by decide +kernel
theorem gx64_5 : aF 5 zM64.2.2.2.2.2.2.2 = some (5, (.ldc 162), 2, 1103515245, 0) := by decide +kernel
theorem gx64_7 : aF 7 zM64.2.2.2.2.2.2.2 = some (7, .imul, 1, 0, 0) := by decide +kernel
theorem gx64_8 : aF 8 zM64.2.2.2.2.2.2.2 = some (8, (.sipush 12345), 3, 0, 0) := by decide +kernel
theorem gx64_11 : aF 11 zM64.2.2.2.2.2.2.2 = some (11, .iadd, 1, 0, 0) := by decide +kernel
theorem gx64_12 : aF 12 zM64.2.2.2.2.2.2.2 = some (12, (.putfield 159), 3, 5, 7) := by decide +kernel
theorem gx64_15 : aF 15 zM64.2.2.2.2.2.2.2 = some (15, (.aload_n 0), 1, 0, 0) := by decide +kernel
theorem gx64_16 : aF 16 zM64.2.2.2.2.2.2.2 = some (16, (.getfield 119), 3, 5, 12) := by decide +kernel
theorem gx64_19 : aF 19 zM64.2.2.2.2.2.2.2 = some (19, (.ifCond .ne 7), 3, 26, 0) := by decide +kernel
theorem gx64_26 : aF 26 zM64.2.2.2.2.2.2.2 = some (26, (.aload_n 0), 1, 0, 0) := by decide +kernel
theorem gx64_27 : aF 27 zM64.2.2.2.2.2.2.2 = some (27, (.getfield 159), 3, 5, 7) := by decide +kernel
theorem gx64_30 : aF 30 zM64.2.2.2.2.2.2.2 = some (30, (.bipush 8), 2, 0, 0) := by decide +kernel
theorem gx64_32 : aF 32 zM64.2.2.2.2.2.2.2 = some (32, .iushr, 1, 0, 0) := by decide +kernel
theorem gx64_33 : aF 33 zM64.2.2.2.2.2.2.2 = some (33, (.aload_n 0), 1, 0, 0) := by decide +kernel
theorem gx64_34 : aF 34 zM64.2.2.2.2.2.2.2 = some (34, (.getfield 119), 3, 5, 12) := by decide +kernel
theorem gx64_37 : aF 37 zM64.2.2.2.2.2.2.2 = some (37, .irem, 1, 0, 0) := by decide +kernel
theorem gx64_38 : aF 38 zM64.2.2.2.2.2.2.2 = some (38, .ireturn, 1, 0, 0) := by decide +kernel
theorem gx64_22 : aF 22 zM64.2.2.2.2.2.2.2 = some (22, (.iconst 0), 1, 0, 0) := by decide +kernel
theorem gx64_23 : aF 23 zM64.2.2.2.2.2.2.2 = some (23, (.goto 15), 3, 38, 0) := by decide +kernel
theorem gx65_0 : aF 0 zM65.2.2.2.2.2.2.2 = some (0, (.iload_n 1), 1, 0, 0) := by decide +kernel
theorem gx65_1 : aF 1 zM65.2.2.2.2.2.2.2 = some (1, (.aload_n 0), 1, 0, 0) := by decide +kernel
theorem gx65_2 : aF 2 zM65.2.2.2.2.2.2.2 = some (2, (.getfield 119), 3, 5, 12) := by decide +kernel
theorem gx65_5 : aF 5 zM65.2.2.2.2.2.2.2 = some (5, (.if_icmp .ge 12), 3, 17, 0) := by decide +kernel
theorem gx65_17 : aF 17 zM65.2.2.2.2.2.2.2 = some (17, .return_, 1, 0, 0) := by decide +kernel
theorem gx65_8 : aF 8 zM65.2.2.2.2.2.2.2 = some (8, (.aload_n 0), 1, 0, 0) := by decide +kernel
theorem gx65_9 : aF 9 zM65.2.2.2.2.2.2.2 = some (9, (.getfield 127), 3, 5, 9) := by decide +kernel
theorem gx65_12 : aF 12 zM65.2.2.2.2.2.2.2 = some (12, (.bipush 9), 2, 0, 0) := by decide +kernel
theorem gx65_14 : aF 14 zM65.2.2.2.2.2.2.2 = some (14, (.if_icmp .lt 4), 3, 18, 0) := by decide +kernel
theorem gx65_18 : aF 18 zM65.2.2.2.2.2.2.2 = some (18, (.aload_n 0), 1, 0, 0) := by decide +kernel
theorem gx65_19 : aF 19 zM65.2.2.2.2.2.2.2 = some (19, (.getfield 21), 3, 5, 8) := by decide +kernel
theorem gx65_22 : aF 22 zM65.2.2.2.2.2.2.2 = some (22, (.aload_n 0), 1, 0, 0) := by decide +kernel
theorem gx65_23 : aF 23 zM65.2.2.2.2.2.2.2 = some (23, (.getfield 127), 3, 5, 9) := by decide +kernel
theorem gx65_26 : aF 26 zM65.2.2.2.2.2.2.2 = some (26, (.aload_n 0), 1, 0, 0) := by decide +kernel
theorem gx65_27 : aF 27 zM65.2.2.2.2.2.2.2 = some (27, (.getfield 24), 3, 5, 10) := by decide +kernel
theorem gx65_30 : aF 30 zM65.2.2.2.2.2.2.2 = some (30, (.iload_n 1), 1, 0, 0) := by decide +kernel
theorem gx65_31 : aF 31 zM65.2.2.2.2.2.2.2 = some (31, .iaload, 1, 0, 0) := by decide +kernel
theorem gx65_32 : aF 32 zM65.2.2.2.2.2.2.2 = some (32, .iastore, 1, 0, 0) := by decide +kernel
theorem gx65_33 : aF 33 zM65.2.2.2.2.2.2.2 = some (33, (.aload_n 0), 1, 0, 0) := by decide +kernel
theorem gx65_34 : aF 34 zM65.2.2.2.2.2.2.2 = some (34, .dup, 1, 0, 0) := by decide +kernel
theorem gx65_35 : aF 35 zM65.2.2.2.2.2.2.2 = some (35, (.getfield 127), 3, 5, 9) := by decide +kernel
theorem gx65_38 : aF 38 zM65.2.2.2.2.2.2.2 = some (38, (.iconst 1), 1, 0, 0) := by decide +kernel
theorem gx65_39 : aF 39 zM65.2.2.2.2.2.2.2 = some (39, .iadd, 1, 0, 0) := by decide +kernel
theorem gx65_40 : aF 40 zM65.2.2.2.2.2.2.2 = some (40, (.putfield 127), 3, 5, 9) := by decide +kernel
theorem gx65_43 : aF 43 zM65.2.2.2.2.2.2.2 = some (43, (.aload_n 0), 1, 0, 0) := by decide +kernel
theorem gx65_44 : aF 44 zM65.2.2.2.2.2.2.2 = some (44, .dup, 1, 0, 0) := by decide +kernel
theorem gx65_45 : aF 45 zM65.2.2.2.2.2.2.2 = some (45, (.getfield 119), 3, 5, 12) := by decide +kernel
theorem gx65_48 : aF 48 zM65.2.2.2.2.2.2.2 = some (48, (.iconst 1), 1, 0, 0) := by decide +kernel
theorem gx65_49 : aF 49 zM65.2.2.2.2.2.2.2 = some (49, .isub, 1, 0, 0) := by decide +kernel
theorem gx65_50 : aF 50 zM65.2.2.2.2.2.2.2 = some (50, (.putfield 119), 3, 5, 12) := by decide +kernel
theorem gx65_53 : aF 53 zM65.2.2.2.2.2.2.2 = some (53, (.iload_n 1), 1, 0, 0) := by decide +kernel
theorem gx65_54 : aF 54 zM65.2.2.2.2.2.2.2 = some (54, (.istore_n 2), 1, 0, 0) := by decide +kernel
theorem gx65_55 : aF 55 zM65.2.2.2.2.2.2.2 = some (55, (.iload_n 2), 1, 0, 0) := by decide +kernel
theorem gx65_56 : aF 56 zM65.2.2.2.2.2.2.2 = some (56, (.aload_n 0), 1, 0, 0) := by decide +kernel
theorem gx65_57 : aF 57 zM65.2.2.2.2.2.2.2 = some (57, (.getfield 119), 3, 5, 12) := by decide +kernel
theorem gx65_60 : aF 60 zM65.2.2.2.2.2.2.2 = some (60, (.if_icmp .ge 37), 3, 97, 0) := by decide +kernel
theorem gx65_97 : aF 97 zM65.2.2.2.2.2.2.2 = some (97, .return_, 1, 0, 0) := by decide +kernel
theorem gx65_63 : aF 63 zM65.2.2.2.2.2.2.2 = some (63, (.aload_n 0), 1, 0, 0) := by decide +kernel
theorem gx65_64 : aF 64 zM65.2.2.2.2.2.2.2 = some (64, (.getfield 24), 3, 5, 10) := by decide +kernel
theorem gx65_67 : aF 67 zM65.2.2.2.2.2.2.2 = some (67, (.iload_n 2), 1, 0, 0) := by decide +kernel
theorem gx65_68 : aF 68 zM65.2.2.2.2.2.2.2 = some (68, (.aload_n 0), 1, 0, 0) := by decide +kernel
theorem gx65_69 : aF 69 zM65.2.2.2.2.2.2.2 = some (69, (.getfield 24), 3, 5, 10) := by decide +kernel
theorem gx65_72 : aF 72 zM65.2.2.2.2.2.2.2 = some (72, (.iload_n 2), 1, 0, 0) := by decide +kernel
theorem gx65_73 : aF 73 zM65.2.2.2.2.2.2.2 = some (73, (.iconst 1), 1, 0, 0) := by decide +kernel
theorem gx65_74 : aF 74 zM65.2.2.2.2.2.2.2 = some (74, .iadd, 1, 0, 0) := by decide +kernel
theorem gx65_75 : aF 75 zM65.2.2.2.2.2.2.2 = some (75, .iaload, 1, 0, 0) := by decide +kernel
theorem gx65_76 : aF 76 zM65.2.2.2.2.2.2.2 = some (76, .iastore, 1, 0, 0) := by decide +kernel
theorem gx65_77 : aF 77 zM65.2.2.2.2.2.2.2 = some (77, (.aload_n 0), 1, 0, 0) := by decide +kernel
theorem gx65_78 : aF 78 zM65.2.2.2.2.2.2.2 = some (78, (.getfield 27), 3, 5, 11) := by decide +kernel
theorem gx65_81 : aF 81 zM65.2.2.2.2.2.2.2 = some (81, (.iload_n 2), 1, 0, 0) := by decide +kernel
theorem gx65_82 : aF 82 zM65.2.2.2.2.2.2.2 = some (82, (.aload_n 0), 1, 0, 0) := by decide +kernel
theorem gx65_83 : aF 83 zM65.2.2.2.2.2.2.2 = some (83, (.getfield 27), 3, 5, 11) := by decide +kernel
theorem gx65_86 : aF 86 zM65.2.2.2.2.2.2.2 = some (86, (.iload_n 2), 1, 0, 0) := by decide +kernel
theorem gx65_87 : aF 87 zM65.2.2.2.2.2.2.2 = some (87, (.iconst 1), 1, 0, 0) := by decide +kernel
theorem gx65_88 : aF 88 zM65.2.2.2.2.2.2.2 = some (88, .iadd, 1, 0, 0) := by decide +kernel
theorem gx65_89 : aF 89 zM65.2.2.2.2.2.2.2 = some (89, .iaload, 1, 0, 0) := by decide +kernel
theorem gx65_90 : aF 90 zM65.2.2.2.2.2.2.2 = some (90, .iastore, 1, 0, 0) := by decide +kernel
theorem gx65_91 : aF 91 zM65.2.2.2.2.2.2.2 = some (91, (.iinc 2 1), 3, 0, 0) := by decide +kernel
theorem gx65_94 : aF 94 zM65.2.2.2.2.2.2.2 = some (94, (.goto (-39)), 3, 55, 0) := by decide +kernel
theorem gx61_0 : aF 0 zM61.2.2.2.2.2.2.2 = some (0, (.aload_n 0), 1, 0, 0) := by decide +kernel
theorem gx61_1 : aF 1 zM61.2.2.2.2.2.2.2 = some (1, (.iload_n 1), 1, 0, 0) := by decide +kernel
theorem gx61_2 : aF 2 zM61.2.2.2.2.2.2.2 = some (2, (.iload_n 2), 1, 0, 0) := by decide +kernel
theorem gx61_3 : aF 3 zM61.2.2.2.2.2.2.2 = some (3, (.invokevirtual 115), 3, 62, 0) := by decide +kernel
theorem gx61_6 : aF 6 zM61.2.2.2.2.2.2.2 = some (6, (.iload_n 3), 1, 0, 0) := by decide +kernel
theorem gx61_7 : aF 7 zM61.2.2.2.2.2.2.2 = some (7, (.aload_n 0), 1, 0, 0) := by decide +kernel
theorem gx61_8 : aF 8 zM61.2.2.2.2.2.2.2 = some (8, (.getfield 119), 3, 5, 12) := by decide +kernel
theorem gx61_11 : aF 11 zM61.2.2.2.2.2.2.2 = some (11, (.invokestatic 122), 3, 1011, 0) := by decide +kernel
theorem gx61_14 : aF 14 zM61.2.2.2.2.2.2.2 = some (14, (.istore 4), 2, 0, 0) := by decide +kernel
theorem gx61_16 : aF 16 zM61.2.2.2.2.2.2.2 = some (16, (.iload 4), 2, 0, 0) := by decide +kernel
theorem gx61_18 : aF 18 zM61.2.2.2.2.2.2.2 = some (18, (.iconst 1), 1, 0, 0) := by decide +kernel
theorem gx61_19 : aF 19 zM61.2.2.2.2.2.2.2 = some (19, .iadd, 1, 0, 0) := by decide +kernel
theorem gx61_20 : aF 20 zM61.2.2.2.2.2.2.2 = some (20, (.iconst 2), 1, 0, 0) := by decide +kernel
theorem gx61_21 : aF 21 zM61.2.2.2.2.2.2.2 = some (21, .idiv, 1, 0, 0) := by decide +kernel
theorem gx61_22 : aF 22 zM61.2.2.2.2.2.2.2 = some (22, (.istore 5), 2, 0, 0) := by decide +kernel
theorem gx61_24 : aF 24 zM61.2.2.2.2.2.2.2 = some (24, (.aload_n 0), 1, 0, 0) := by decide +kernel
theorem gx61_25 : aF 25 zM61.2.2.2.2.2.2.2 = some (25, (.iconst 0), 1, 0, 0) := by decide +kernel
theorem gx61_26 : aF 26 zM61.2.2.2.2.2.2.2 = some (26, (.putfield 127), 3, 5, 9) := by decide +kernel
theorem gx61_29 : aF 29 zM61.2.2.2.2.2.2.2 = some (29, (.iconst 0), 1, 0, 0) := by decide +kernel
theorem gx61_30 : aF 30 zM61.2.2.2.2.2.2.2 = some (30, (.istore 6), 2, 0, 0) := by decide +kernel
theorem gx61_32 : aF 32 zM61.2.2.2.2.2.2.2 = some (32, (.iload 6), 2, 0, 0) := by decide +kernel
theorem gx61_34 : aF 34 zM61.2.2.2.2.2.2.2 = some (34, (.iload 4), 2, 0, 0) := by decide +kernel
theorem gx61_36 : aF 36 zM61.2.2.2.2.2.2.2 = some (36, (.if_icmp .ge 31), 3, 67, 0) := by decide +kernel
theorem gx61_67 : aF 67 zM61.2.2.2.2.2.2.2 = some (67, (.iload 4), 2, 0, 0) := by decide +kernel
theorem gx61_69 : aF 69 zM61.2.2.2.2.2.2.2 = some (69, .ireturn, 1, 0, 0) := by decide +kernel
theorem gx61_39 : aF 39 zM61.2.2.2.2.2.2.2 = some (39, (.aload_n 0), 1, 0, 0) := by decide +kernel
theorem gx61_40 : aF 40 zM61.2.2.2.2.2.2.2 = some (40, (.iload 6), 2, 0, 0) := by decide +kernel
theorem gx61_42 : aF 42 zM61.2.2.2.2.2.2.2 = some (42, (.iload 5), 2, 0, 0) := by decide +kernel
theorem gx61_44 : aF 44 zM61.2.2.2.2.2.2.2 = some (44, (.if_icmp .ge 10), 3, 54, 0) := by decide +kernel
theorem gx61_54 : aF 54 zM61.2.2.2.2.2.2.2 = some (54, (.aload_n 0), 1, 0, 0) := by decide +kernel
theorem gx61_55 : aF 55 zM61.2.2.2.2.2.2.2 = some (55, (.invokevirtual 134), 3, 64, 0) := by decide +kernel
theorem gx61_58 : aF 58 zM61.2.2.2.2.2.2.2 = some (58, (.invokevirtual 137), 3, 65, 0) := by decide +kernel
theorem gx61_61 : aF 61 zM61.2.2.2.2.2.2.2 = some (61, (.iinc 6 1), 3, 0, 0) := by decide +kernel
theorem gx61_64 : aF 64 zM61.2.2.2.2.2.2.2 = some (64, (.goto (-32)), 3, 32, 0) := by decide +kernel
theorem gx61_47 : aF 47 zM61.2.2.2.2.2.2.2 = some (47, (.aload_n 0), 1, 0, 0) := by decide +kernel
theorem gx61_48 : aF 48 zM61.2.2.2.2.2.2.2 = some (48, (.invokevirtual 130), 3, 63, 0) := by decide +kernel
theorem gx61_51 : aF 51 zM61.2.2.2.2.2.2.2 = some (51, (.goto 7), 3, 58, 0) := by decide +kernel
theorem gx66_0 : aF 0 zM66.2.2.2.2.2.2.2 = some (0, (.aload_n 0), 1, 0, 0) := by decide +kernel
theorem gx66_1 : aF 1 zM66.2.2.2.2.2.2.2 = some (1, (.getfield 38), 3, 5, 2) := by decide +kernel
theorem gx66_4 : aF 4 zM66.2.2.2.2.2.2.2 = some (4, (.iload_n 1), 1, 0, 0) := by decide +kernel
theorem gx66_5 : aF 5 zM66.2.2.2.2.2.2.2 = some (5, (.aload_n 0), 1, 0, 0) := by decide +kernel
theorem gx66_6 : aF 6 zM66.2.2.2.2.2.2.2 = some (6, (.getfield 30), 3, 5, 0) := by decide +kernel
theorem gx66_9 : aF 9 zM66.2.2.2.2.2.2.2 = some (9, (.getfield 141), 3, 6, 0) := by decide +kernel
theorem gx66_12 : aF 12 zM66.2.2.2.2.2.2.2 = some (12, (.invokevirtual 144), 3, 1, 0) := by decide +kernel
theorem gx66_15 : aF 15 zM66.2.2.2.2.2.2.2 = some (15, (.astore_n 2), 1, 0, 0) := by decide +kernel
theorem gx66_16 : aF 16 zM66.2.2.2.2.2.2.2 = some (16, (.aload_n 0), 1, 0, 0) := by decide +kernel
theorem gx66_17 : aF 17 zM66.2.2.2.2.2.2.2 = some (17, (.iconst 0), 1, 0, 0) := by decide +kernel
theorem gx66_18 : aF 18 zM66.2.2.2.2.2.2.2 = some (18, (.putfield 163), 3, 5, 13) := by decide +kernel
theorem gx66_21 : aF 21 zM66.2.2.2.2.2.2.2 = some (21, (.aload_n 0), 1, 0, 0) := by decide +kernel
theorem gx66_22 : aF 22 zM66.2.2.2.2.2.2.2 = some (22, (.iconst 0), 1, 0, 0) := by decide +kernel
theorem gx66_23 : aF 23 zM66.2.2.2.2.2.2.2 = some (23, (.putfield 166), 3, 5, 14) := by decide +kernel
theorem gx66_26 : aF 26 zM66.2.2.2.2.2.2.2 = some (26, (.iconst 0), 1, 0, 0) := by decide +kernel
theorem gx66_27 : aF 27 zM66.2.2.2.2.2.2.2 = some (27, (.istore_n 3), 1, 0, 0) := by decide +kernel
theorem gx66_28 : aF 28 zM66.2.2.2.2.2.2.2 = some (28, (.iload_n 3), 1, 0, 0) := by decide +kernel
theorem gx66_29 : aF 29 zM66.2.2.2.2.2.2.2 = some (29, (.aload_n 0), 1, 0, 0) := by decide +kernel
theorem gx66_30 : aF 30 zM66.2.2.2.2.2.2.2 = some (30, (.getfield 30), 3, 5, 0) := by decide +kernel
theorem gx66_33 : aF 33 zM66.2.2.2.2.2.2.2 = some (33, (.getfield 42), 3, 6, 1) := by decide +kernel
theorem gx66_36 : aF 36 zM66.2.2.2.2.2.2.2 = some (36, (.if_icmp .ge 90), 3, 126, 0) := by decide +kernel
theorem gx66_126 : aF 126 zM66.2.2.2.2.2.2.2 = some (126, (.aload_n 0), 1, 0, 0) := by decide +kernel
theorem gx66_127 : aF 127 zM66.2.2.2.2.2.2.2 = some (127, (.getfield 163), 3, 5, 13) := by decide +kernel
theorem gx66_130 : aF 130 zM66.2.2.2.2.2.2.2 = some (130, (.ifCond .ne 13), 3, 143, 0) := by decide +kernel
theorem gx66_133 : aF 133 zM66.2.2.2.2.2.2.2 = some (133, (.aload_n 0), 1, 0, 0) := by decide +kernel
theorem gx66_134 : aF 134 zM66.2.2.2.2.2.2.2 = some (134, (.iconst 0), 1, 0, 0) := by decide +kernel
theorem gx66_135 : aF 135 zM66.2.2.2.2.2.2.2 = some (135, (.putfield 177), 3, 5, 15) := by decide +kernel
theorem gx66_138 : aF 138 zM66.2.2.2.2.2.2.2 = some (138, (.aload_n 0), 1, 0, 0) := by decide +kernel
theorem gx66_139 : aF 139 zM66.2.2.2.2.2.2.2 = some (139, (.iconst 0), 1, 0, 0) := by decide +kernel
theorem gx66_140 : aF 140 zM66.2.2.2.2.2.2.2 = some (140, (.putfield 180), 3, 5, 16) := by decide +kernel
theorem gx66_39 : aF 39 zM66.2.2.2.2.2.2.2 = some (39, (.aload_n 0), 1, 0, 0) := by decide +kernel
theorem gx66_40 : aF 40 zM66.2.2.2.2.2.2.2 = some (40, (.getfield 30), 3, 5, 0) := by decide +kernel
theorem gx66_43 : aF 43 zM66.2.2.2.2.2.2.2 = some (43, (.iload_n 3), 1, 0, 0) := by decide +kernel
theorem gx66_44 : aF 44 zM66.2.2.2.2.2.2.2 = some (44, (.invokevirtual 169), 3, 75, 0) := by decide +kernel
theorem gx66_47 : aF 47 zM66.2.2.2.2.2.2.2 = some (47, (.ifCond .eq 73), 3, 120, 0) := by decide +kernel
theorem gx66_50 : aF 50 zM66.2.2.2.2.2.2.2 = some (50, (.aload_n 0), 1, 0, 0) := by decide +kernel
theorem gx66_51 : aF 51 zM66.2.2.2.2.2.2.2 = some (51, (.getfield 34), 3, 5, 1) := by decide +kernel
theorem gx66_54 : aF 54 zM66.2.2.2.2.2.2.2 = some (54, (.iload_n 3), 1, 0, 0) := by decide +kernel
theorem gx66_55 : aF 55 zM66.2.2.2.2.2.2.2 = some (55, (.iload_n 1), 1, 0, 0) := by decide +kernel
theorem gx66_56 : aF 56 zM66.2.2.2.2.2.2.2 = some (56, (.invokevirtual 172), 3, 36, 0) := by decide +kernel
theorem gx66_59 : aF 59 zM66.2.2.2.2.2.2.2 = some (59, (.ifCond .eq 61), 3, 120, 0) := by decide +kernel
theorem gx66_62 : aF 62 zM66.2.2.2.2.2.2.2 = some (62, (.aload_n 0), 1, 0, 0) := by decide +kernel
theorem gx66_63 : aF 63 zM66.2.2.2.2.2.2.2 = some (63, .dup, 1, 0, 0) := by decide +kernel
theorem gx66_64 : aF 64 zM66.2.2.2.2.2.2.2 = some (64, (.getfield 163), 3, 5, 13) := by decide +kernel
theorem gx66_67 : aF 67 zM66.2.2.2.2.2.2.2 = some (67, (.iconst 1), 1, 0, 0) := by decide +kernel
theorem gx66_68 : aF 68 zM66.2.2.2.2.2.2.2 = some (68, .iadd, 1, 0, 0) := by decide +kernel
theorem gx66_69 : aF 69 zM66.2.2.2.2.2.2.2 = some (69, (.putfield 163), 3, 5, 13) := by decide +kernel
theorem gx66_72 : aF 72 zM66.2.2.2.2.2.2.2 = some (72, (.aload_n 0), 1, 0, 0) := by decide +kernel
theorem gx66_73 : aF 73 zM66.2.2.2.2.2.2.2 = some (73, .dup, 1, 0, 0) := by decide +kernel
theorem gx66_74 : aF 74 zM66.2.2.2.2.2.2.2 = some (74, (.getfield 166), 3, 5, 14) := by decide +kernel
theorem gx66_77 : aF 77 zM66.2.2.2.2.2.2.2 = some (77, (.aload_n 2), 1, 0, 0) := by decide +kernel
theorem gx66_78 : aF 78 zM66.2.2.2.2.2.2.2 = some (78, (.iload_n 3), 1, 0, 0) := by decide +kernel
theorem gx66_79 : aF 79 zM66.2.2.2.2.2.2.2 = some (79, (.invokevirtual 156), 3, 102, 0) := by decide +kernel
theorem gx66_82 : aF 82 zM66.2.2.2.2.2.2.2 = some (82, (.iconst 2), 1, 0, 0) := by decide +kernel
theorem gx66_83 : aF 83 zM66.2.2.2.2.2.2.2 = some (83, (.if_icmp .le 7), 3, 90, 0) := by decide +kernel
theorem gx66_90 : aF 90 zM66.2.2.2.2.2.2.2 = some (90, (.iconst 0), 1, 0, 0) := by decide +kernel
theorem gx66_86 : aF 86 zM66.2.2.2.2.2.2.2 = some (86, (.iconst 1), 1, 0, 0) := by decide +kernel
theorem gx66_87 : aF 87 zM66.2.2.2.2.2.2.2 = some (87, (.goto 4), 3, 91, 0) := by decide +kernel
theorem gx66_91 : aF 91 zM66.2.2.2.2.2.2.2 = some (91, .iadd, 1, 0, 0) := by decide +kernel
theorem gx66_92 : aF 92 zM66.2.2.2.2.2.2.2 = some (92, (.putfield 166), 3, 5, 14) := by decide +kernel
theorem gx66_95 : aF 95 zM66.2.2.2.2.2.2.2 = some (95, (.aload_n 0), 1, 0, 0) := by decide +kernel
theorem gx66_96 : aF 96 zM66.2.2.2.2.2.2.2 = some (96, (.getfield 163), 3, 5, 13) := by decide +kernel
theorem gx66_99 : aF 99 zM66.2.2.2.2.2.2.2 = some (99, (.bipush 8), 2, 0, 0) := by decide +kernel
theorem gx66_101 : aF 101 zM66.2.2.2.2.2.2.2 = some (101, (.if_icmp .gt 19), 3, 120, 0) := by decide +kernel
theorem gx66_104 : aF 104 zM66.2.2.2.2.2.2.2 = some (104, (.aload_n 0), 1, 0, 0) := by decide +kernel
theorem gx66_105 : aF 105 zM66.2.2.2.2.2.2.2 = some (105, (.aload_n 0), 1, 0, 0) := by decide +kernel
theorem gx66_106 : aF 106 zM66.2.2.2.2.2.2.2 = some (106, (.getfield 163), 3, 5, 13) := by decide +kernel
theorem gx66_109 : aF 109 zM66.2.2.2.2.2.2.2 = some (109, (.putfield 177), 3, 5, 15) := by decide +kernel
theorem gx66_112 : aF 112 zM66.2.2.2.2.2.2.2 = some (112, (.aload_n 0), 1, 0, 0) := by decide +kernel
theorem gx66_113 : aF 113 zM66.2.2.2.2.2.2.2 = some (113, (.aload_n 0), 1, 0, 0) := by decide +kernel
theorem gx66_114 : aF 114 zM66.2.2.2.2.2.2.2 = some (114, (.getfield 166), 3, 5, 14) := by decide +kernel
theorem gx66_117 : aF 117 zM66.2.2.2.2.2.2.2 = some (117, (.putfield 180), 3, 5, 16) := by decide +kernel
theorem gx66_120 : aF 120 zM66.2.2.2.2.2.2.2 = some (120, (.iinc 3 1), 3, 0, 0) := by decide +kernel
theorem gx66_123 : aF 123 zM66.2.2.2.2.2.2.2 = some (123, (.goto (-95)), 3, 28, 0) := by decide +kernel
theorem gx66_143 : aF 143 zM66.2.2.2.2.2.2.2 = some (143, .return_, 1, 0, 0) := by decide +kernel
theorem gx69_0 : aF 0 zM69.2.2.2.2.2.2.2 = some (0, (.lconst 1), 1, 0, 0) := by decide +kernel
theorem gx69_1 : aF 1 zM69.2.2.2.2.2.2.2 = some (1, (.lstore_n 3), 1, 0, 0) := by decide +kernel
theorem gx69_2 : aF 2 zM69.2.2.2.2.2.2.2 = some (2, (.iconst 0), 1, 0, 0) := by decide +kernel
theorem gx69_3 : aF 3 zM69.2.2.2.2.2.2.2 = some (3, (.istore 5), 2, 0, 0) := by decide +kernel
theorem gx69_5 : aF 5 zM69.2.2.2.2.2.2.2 = some (5, (.iload 5), 2, 0, 0) := by decide +kernel
theorem gx69_7 : aF 7 zM69.2.2.2.2.2.2.2 = some (7, (.iload_n 2), 1, 0, 0) := by decide +kernel
theorem gx69_8 : aF 8 zM69.2.2.2.2.2.2.2 = some (8, (.if_icmp .ge 13), 3, 21, 0) := by decide +kernel
theorem gx69_21 : aF 21 zM69.2.2.2.2.2.2.2 = some (21, (.lload_n 3), 1, 0, 0) := by decide +kernel
theorem gx69_22 : aF 22 zM69.2.2.2.2.2.2.2 = some (22, .lreturn, 1, 0, 0) := by decide +kernel
theorem gx69_11 : aF 11 zM69.2.2.2.2.2.2.2 = some (11, (.lload_n 3), 1, 0, 0) := by decide +kernel
theorem gx69_12 : aF 12 zM69.2.2.2.2.2.2.2 = some (12, (.lload_n 0), 1, 0, 0) := by decide +kernel
theorem gx69_13 : aF 13 zM69.2.2.2.2.2.2.2 = some (13, .lmul, 1, 0, 0) := by decide +kernel
theorem gx69_14 : aF 14 zM69.2.2.2.2.2.2.2 = some (14, (.lstore_n 3), 1, 0, 0) := by decide +kernel
theorem gx69_15 : aF 15 zM69.2.2.2.2.2.2.2 = some (15, (.iinc 5 1), 3, 0, 0) := by decide +kernel
theorem gx69_18 : aF 18 zM69.2.2.2.2.2.2.2 = some (18, (.goto (-13)), 3, 5, 0) := by decide +kernel
theorem gx68_0 : aF 0 zM68.2.2.2.2.2.2.2 = some (0, (.lconst 0), 1, 0, 0) := by decide +kernel
theorem gx68_1 : aF 1 zM68.2.2.2.2.2.2.2 = some (1, (.lstore 4), 2, 0, 0) := by decide +kernel
theorem gx68_3 : aF 3 zM68.2.2.2.2.2.2.2 = some (3, (.lconst 1), 1, 0, 0) := by decide +kernel
theorem gx68_4 : aF 4 zM68.2.2.2.2.2.2.2 = some (4, (.lstore 6), 2, 0, 0) := by decide +kernel
theorem gx68_6 : aF 6 zM68.2.2.2.2.2.2.2 = some (6, (.iconst 0), 1, 0, 0) := by decide +kernel
theorem gx68_7 : aF 7 zM68.2.2.2.2.2.2.2 = some (7, (.istore 8), 2, 0, 0) := by decide +kernel
theorem gx68_9 : aF 9 zM68.2.2.2.2.2.2.2 = some (9, (.iload 8), 2, 0, 0) := by decide +kernel
theorem gx68_11 : aF 11 zM68.2.2.2.2.2.2.2 = some (11, (.aload_n 0), 1, 0, 0) := by decide +kernel
theorem gx68_12 : aF 12 zM68.2.2.2.2.2.2.2 = some (12, (.getfield 177), 3, 5, 15) := by decide +kernel
theorem gx68_15 : aF 15 zM68.2.2.2.2.2.2.2 = some (15, (.if_icmp .gt 69), 3, 84, 0) := by decide +kernel
theorem gx68_84 : aF 84 zM68.2.2.2.2.2.2.2 = some (84, (.lload 4), 2, 0, 0) := by decide +kernel
theorem gx68_86 : aF 86 zM68.2.2.2.2.2.2.2 = some (86, .lreturn, 1, 0, 0) := by decide +kernel
theorem gx68_18 : aF 18 zM68.2.2.2.2.2.2.2 = some (18, (.iload 8), 2, 0, 0) := by decide +kernel
theorem gx68_20 : aF 20 zM68.2.2.2.2.2.2.2 = some (20, (.iload_n 1), 1, 0, 0) := by decide +kernel
theorem gx68_21 : aF 21 zM68.2.2.2.2.2.2.2 = some (21, (.iload_n 2), 1, 0, 0) := by decide +kernel
theorem gx68_22 : aF 22 zM68.2.2.2.2.2.2.2 = some (22, (.invokestatic 193), 3, 137, 0) := by decide +kernel
theorem gx68_25 : aF 25 zM68.2.2.2.2.2.2.2 = some (25, (.ifCond .eq 34), 3, 59, 0) := by decide +kernel
theorem gx68_59 : aF 59 zM68.2.2.2.2.2.2.2 = some (59, (.lload 6), 2, 0, 0) := by decide +kernel
theorem gx68_61 : aF 61 zM68.2.2.2.2.2.2.2 = some (61, (.aload_n 0), 1, 0, 0) := by decide +kernel
theorem gx68_62 : aF 62 zM68.2.2.2.2.2.2.2 = some (62, (.getfield 177), 3, 5, 15) := by decide +kernel
theorem gx68_65 : aF 65 zM68.2.2.2.2.2.2.2 = some (65, (.iload 8), 2, 0, 0) := by decide +kernel
theorem gx68_67 : aF 67 zM68.2.2.2.2.2.2.2 = some (67, .isub, 1, 0, 0) := by decide +kernel
theorem gx68_68 : aF 68 zM68.2.2.2.2.2.2.2 = some (68, .i2l, 1, 0, 0) := by decide +kernel
theorem gx68_69 : aF 69 zM68.2.2.2.2.2.2.2 = some (69, .lmul, 1, 0, 0) := by decide +kernel
theorem gx68_70 : aF 70 zM68.2.2.2.2.2.2.2 = some (70, (.iload 8), 2, 0, 0) := by decide +kernel
theorem gx68_72 : aF 72 zM68.2.2.2.2.2.2.2 = some (72, (.iconst 1), 1, 0, 0) := by decide +kernel
theorem gx68_73 : aF 73 zM68.2.2.2.2.2.2.2 = some (73, .iadd, 1, 0, 0) := by decide +kernel
theorem gx68_74 : aF 74 zM68.2.2.2.2.2.2.2 = some (74, .i2l, 1, 0, 0) := by decide +kernel
theorem gx68_75 : aF 75 zM68.2.2.2.2.2.2.2 = some (75, .ldiv, 1, 0, 0) := by decide +kernel
theorem gx68_76 : aF 76 zM68.2.2.2.2.2.2.2 = some (76, (.lstore 6), 2, 0, 0) := by decide +kernel
theorem gx68_78 : aF 78 zM68.2.2.2.2.2.2.2 = some (78, (.iinc 8 1), 3, 0, 0) := by decide +kernel
theorem gx68_81 : aF 81 zM68.2.2.2.2.2.2.2 = some (81, (.goto (-72)), 3, 9, 0) := by decide +kernel
theorem gx68_28 : aF 28 zM68.2.2.2.2.2.2.2 = some (28, (.lload 4), 2, 0, 0) := by decide +kernel
theorem gx68_30 : aF 30 zM68.2.2.2.2.2.2.2 = some (30, (.lload 6), 2, 0, 0) := by decide +kernel
theorem gx68_32 : aF 32 zM68.2.2.2.2.2.2.2 = some (32, (.iload_n 3), 1, 0, 0) := by decide +kernel
theorem gx68_33 : aF 33 zM68.2.2.2.2.2.2.2 = some (33, .i2l, 1, 0, 0) := by decide +kernel
theorem gx68_34 : aF 34 zM68.2.2.2.2.2.2.2 = some (34, (.iload 8), 2, 0, 0) := by decide +kernel
theorem gx68_36 : aF 36 zM68.2.2.2.2.2.2.2 = some (36, (.invokestatic 185), 3, 69, 0) := by decide +kernel
theorem gx68_39 : aF 39 zM68.2.2.2.2.2.2.2 = some (39, .lmul, 1, 0, 0) := by decide +kernel
theorem gx68_40 : aF 40 zM68.2.2.2.2.2.2.2 = some (40, (.bipush 100), 2, 0, 0) := by decide +kernel
theorem gx68_42 : aF 42 zM68.2.2.2.2.2.2.2 = some (42, (.iload_n 3), 1, 0, 0) := by decide +kernel
theorem gx68_43 : aF 43 zM68.2.2.2.2.2.2.2 = some (43, .isub, 1, 0, 0) := by decide +kernel
theorem gx68_44 : aF 44 zM68.2.2.2.2.2.2.2 = some (44, .i2l, 1, 0, 0) := by decide +kernel
theorem gx68_45 : aF 45 zM68.2.2.2.2.2.2.2 = some (45, (.aload_n 0), 1, 0, 0) := by decide +kernel
theorem gx68_46 : aF 46 zM68.2.2.2.2.2.2.2 = some (46, (.getfield 177), 3, 5, 15) := by decide +kernel
theorem gx68_49 : aF 49 zM68.2.2.2.2.2.2.2 = some (49, (.iload 8), 2, 0, 0) := by decide +kernel
theorem gx68_51 : aF 51 zM68.2.2.2.2.2.2.2 = some (51, .isub, 1, 0, 0) := by decide +kernel
theorem gx68_52 : aF 52 zM68.2.2.2.2.2.2.2 = some (52, (.invokestatic 185), 3, 69, 0) := by decide +kernel
theorem gx68_55 : aF 55 zM68.2.2.2.2.2.2.2 = some (55, .lmul, 1, 0, 0) := by decide +kernel
theorem gx68_56 : aF 56 zM68.2.2.2.2.2.2.2 = some (56, .ladd, 1, 0, 0) := by decide +kernel
theorem gx68_57 : aF 57 zM68.2.2.2.2.2.2.2 = some (57, (.lstore 4), 2, 0, 0) := by decide +kernel
theorem gx67_0 : aF 0 zM67.2.2.2.2.2.2.2 = some (0, (.iload_n 2), 1, 0, 0) := by decide +kernel
theorem gx67_1 : aF 1 zM67.2.2.2.2.2.2.2 = some (1, .i2l, 1, 0, 0) := by decide +kernel
theorem gx67_2 : aF 2 zM67.2.2.2.2.2.2.2 = some (2, (.ldc2_w 183), 3, 100, 0) := by decide +kernel
theorem gx67_5 : aF 5 zM67.2.2.2.2.2.2.2 = some (5, (.aload_n 0), 1, 0, 0) := by decide +kernel
theorem gx67_6 : aF 6 zM67.2.2.2.2.2.2.2 = some (6, (.getfield 177), 3, 5, 15) := by decide +kernel
theorem gx67_9 : aF 9 zM67.2.2.2.2.2.2.2 = some (9, (.invokestatic 185), 3, 69, 0) := by decide +kernel
theorem gx67_12 : aF 12 zM67.2.2.2.2.2.2.2 = some (12, .lmul, 1, 0, 0) := by decide +kernel
theorem gx67_13 : aF 13 zM67.2.2.2.2.2.2.2 = some (13, (.lstore_n 3), 1, 0, 0) := by decide +kernel
theorem gx67_14 : aF 14 zM67.2.2.2.2.2.2.2 = some (14, (.ldc2_w 183), 3, 100, 0) := by decide +kernel
theorem gx67_17 : aF 17 zM67.2.2.2.2.2.2.2 = some (17, (.aload_n 0), 1, 0, 0) := by decide +kernel
theorem gx67_18 : aF 18 zM67.2.2.2.2.2.2.2 = some (18, (.aload_n 0), 1, 0, 0) := by decide +kernel
theorem gx67_19 : aF 19 zM67.2.2.2.2.2.2.2 = some (19, (.getfield 180), 3, 5, 16) := by decide +kernel
theorem gx67_22 : aF 22 zM67.2.2.2.2.2.2.2 = some (22, (.aload_n 0), 1, 0, 0) := by decide +kernel
theorem gx67_23 : aF 23 zM67.2.2.2.2.2.2.2 = some (23, (.getfield 177), 3, 5, 15) := by decide +kernel
theorem gx67_26 : aF 26 zM67.2.2.2.2.2.2.2 = some (26, (.iload_n 1), 1, 0, 0) := by decide +kernel
theorem gx67_27 : aF 27 zM67.2.2.2.2.2.2.2 = some (27, (.invokevirtual 189), 3, 68, 0) := by decide +kernel
theorem gx67_30 : aF 30 zM67.2.2.2.2.2.2.2 = some (30, .lmul, 1, 0, 0) := by decide +kernel
theorem gx67_31 : aF 31 zM67.2.2.2.2.2.2.2 = some (31, (.lload_n 3), 1, 0, 0) := by decide +kernel
theorem gx67_32 : aF 32 zM67.2.2.2.2.2.2.2 = some (32, .lcmp, 1, 0, 0) := by decide +kernel
theorem gx67_33 : aF 33 zM67.2.2.2.2.2.2.2 = some (33, (.ifCond .ge 5), 3, 38, 0) := by decide +kernel
theorem gx67_38 : aF 38 zM67.2.2.2.2.2.2.2 = some (38, (.ldc2_w 183), 3, 100, 0) := by decide +kernel
theorem gx67_41 : aF 41 zM67.2.2.2.2.2.2.2 = some (41, (.aload_n 0), 1, 0, 0) := by decide +kernel
theorem gx67_42 : aF 42 zM67.2.2.2.2.2.2.2 = some (42, (.iconst 0), 1, 0, 0) := by decide +kernel
theorem gx67_43 : aF 43 zM67.2.2.2.2.2.2.2 = some (43, (.aload_n 0), 1, 0, 0) := by decide +kernel
theorem gx67_44 : aF 44 zM67.2.2.2.2.2.2.2 = some (44, (.getfield 180), 3, 5, 16) := by decide +kernel
theorem gx67_47 : aF 47 zM67.2.2.2.2.2.2.2 = some (47, (.iload_n 1), 1, 0, 0) := by decide +kernel
theorem gx67_48 : aF 48 zM67.2.2.2.2.2.2.2 = some (48, (.invokevirtual 189), 3, 68, 0) := by decide +kernel
theorem gx67_51 : aF 51 zM67.2.2.2.2.2.2.2 = some (51, .lmul, 1, 0, 0) := by decide +kernel
theorem gx67_52 : aF 52 zM67.2.2.2.2.2.2.2 = some (52, (.lload_n 3), 1, 0, 0) := by decide +kernel
theorem gx67_53 : aF 53 zM67.2.2.2.2.2.2.2 = some (53, .lcmp, 1, 0, 0) := by decide +kernel
theorem gx67_54 : aF 54 zM67.2.2.2.2.2.2.2 = some (54, (.ifCond .ge 7), 3, 61, 0) := by decide +kernel
theorem gx67_61 : aF 61 zM67.2.2.2.2.2.2.2 = some (61, (.iconst 0), 1, 0, 0) := by decide +kernel
theorem gx67_62 : aF 62 zM67.2.2.2.2.2.2.2 = some (62, .ireturn, 1, 0, 0) := by decide +kernel
theorem gx67_57 : aF 57 zM67.2.2.2.2.2.2.2 = some (57, (.iconst 2), 1, 0, 0) := by decide +kernel
theorem gx67_58 : aF 58 zM67.2.2.2.2.2.2.2 = some (58, (.goto 4), 3, 62, 0) := by decide +kernel
theorem gx67_36 : aF 36 zM67.2.2.2.2.2.2.2 = some (36, (.iconst 1), 1, 0, 0) := by decide +kernel
theorem gx67_37 : aF 37 zM67.2.2.2.2.2.2.2 = some (37, .ireturn, 1, 0, 0) := by decide +kernel
theorem gx119_0 : aF 0 zM119.2.2.2.2.2.2.2 = some (0, (.iload_n 1), 1, 0, 0) := by decide +kernel
theorem gx119_1 : aF 1 zM119.2.2.2.2.2.2.2 = some (1, (.iconst 0), 1, 0, 0) := by decide +kernel
theorem gx119_2 : aF 2 zM119.2.2.2.2.2.2.2 = some (2, (.aload_n 0), 1, 0, 0) := by decide +kernel
theorem gx119_3 : aF 3 zM119.2.2.2.2.2.2.2 = some (3, (.getfield 41), 3, 10, 7) := by decide +kernel
theorem gx119_6 : aF 6 zM119.2.2.2.2.2.2.2 = some (6, (.iconst 1), 1, 0, 0) := by decide +kernel
theorem gx119_7 : aF 7 zM119.2.2.2.2.2.2.2 = some (7, .isub, 1, 0, 0) := by decide +kernel
theorem gx119_8 : aF 8 zM119.2.2.2.2.2.2.2 = some (8, (.invokestatic 54), 3, 137, 0) := by decide +kernel
theorem gx119_11 : aF 11 zM119.2.2.2.2.2.2.2 = some (11, (.ifCond .eq 19), 3, 30, 0) := by decide +kernel
theorem gx119_30 : aF 30 zM119.2.2.2.2.2.2.2 = some (30, (.iconst 0), 1, 0, 0) := by decide +kernel
theorem gx119_31 : aF 31 zM119.2.2.2.2.2.2.2 = some (31, .ireturn, 1, 0, 0) := by decide +kernel
theorem gx119_14 : aF 14 zM119.2.2.2.2.2.2.2 = some (14, (.aload_n 0), 1, 0, 0) := by decide +kernel
theorem gx119_15 : aF 15 zM119.2.2.2.2.2.2.2 = some (15, (.getfield 22), 3, 10, 4) := by decide +kernel
theorem gx119_18 : aF 18 zM119.2.2.2.2.2.2.2 = some (18, (.iload_n 1), 1, 0, 0) := by decide +kernel
theorem gx119_19 : aF 19 zM119.2.2.2.2.2.2.2 = some (19, .iaload, 1, 0, 0) := by decide +kernel
theorem gx119_20 : aF 20 zM119.2.2.2.2.2.2.2 = some (20, (.bipush 10), 2, 0, 0) := by decide +kernel
theorem gx119_22 : aF 22 zM119.2.2.2.2.2.2.2 = some (22, .irem, 1, 0, 0) := by decide +kernel
theorem gx119_23 : aF 23 zM119.2.2.2.2.2.2.2 = some (23, (.ifCond .ne 7), 3, 30, 0) := by decide +kernel
theorem gx119_26 : aF 26 zM119.2.2.2.2.2.2.2 = some (26, (.iconst 1), 1, 0, 0) := by decide +kernel
theorem gx119_27 : aF 27 zM119.2.2.2.2.2.2.2 = some (27, (.goto 4), 3, 31, 0) := by decide +kernel
theorem gx170_0 : aF 0 zM170.2.2.2.2.2.2.2 = some (0, (.aload_n 0), 1, 0, 0) := by decide +kernel
theorem gx170_1 : aF 1 zM170.2.2.2.2.2.2.2 = some (1, (.getfield 12), 3, 11, 0) := by decide +kernel
theorem gx170_4 : aF 4 zM170.2.2.2.2.2.2.2 = some (4, (.iload_n 1), 1, 0, 0) := by decide +kernel
theorem gx170_5 : aF 5 zM170.2.2.2.2.2.2.2 = some (5, (.invokevirtual 121), 3, 75, 0) := by decide +kernel
theorem gx170_8 : aF 8 zM170.2.2.2.2.2.2.2 = some (8, (.ifCond .eq 28), 3, 36, 0) := by decide +kernel
theorem gx170_36 : aF 36 zM170.2.2.2.2.2.2.2 = some (36, (.iconst (-1)), 1, 0, 0) := by decide +kernel
theorem gx170_37 : aF 37 zM170.2.2.2.2.2.2.2 = some (37, .ireturn, 1, 0, 0) := by decide +kernel
theorem gx170_11 : aF 11 zM170.2.2.2.2.2.2.2 = some (11, (.iload_n 2), 1, 0, 0) := by decide +kernel
theorem gx170_12 : aF 12 zM170.2.2.2.2.2.2.2 = some (12, (.invokestatic 187), 3, 139, 0) := by decide +kernel
theorem gx170_15 : aF 15 zM170.2.2.2.2.2.2.2 = some (15, (.ifCond .eq 21), 3, 36, 0) := by decide +kernel
theorem gx170_18 : aF 18 zM170.2.2.2.2.2.2.2 = some (18, (.iload_n 3), 1, 0, 0) := by decide +kernel
theorem gx170_19 : aF 19 zM170.2.2.2.2.2.2.2 = some (19, (.invokestatic 164), 3, 138, 0) := by decide +kernel
theorem gx170_22 : aF 22 zM170.2.2.2.2.2.2.2 = some (22, (.ifCond .eq 14), 3, 36, 0) := by decide +kernel
theorem gx170_25 : aF 25 zM170.2.2.2.2.2.2.2 = some (25, (.iload 4), 2, 0, 0) := by decide +kernel
theorem gx170_27 : aF 27 zM170.2.2.2.2.2.2.2 = some (27, (.iconst 0), 1, 0, 0) := by decide +kernel
theorem gx170_28 : aF 28 zM170.2.2.2.2.2.2.2 = some (28, (.bipush 12), 2, 0, 0) := by decide +kernel
theorem gx170_30 : aF 30 zM170.2.2.2.2.2.2.2 = some (30, (.invokestatic 85), 3, 137, 0) := by decide +kernel
theorem gx170_33 : aF 33 zM170.2.2.2.2.2.2.2 = some (33, (.ifCond .ne 5), 3, 38, 0) := by decide +kernel
theorem gx170_38 : aF 38 zM170.2.2.2.2.2.2.2 = some (38, (.aload_n 0), 1, 0, 0) := by decide +kernel
theorem gx170_39 : aF 39 zM170.2.2.2.2.2.2.2 = some (39, (.getfield 44), 3, 11, 4) := by decide +kernel
theorem gx170_42 : aF 42 zM170.2.2.2.2.2.2.2 = some (42, (.iload_n 1), 1, 0, 0) := by decide +kernel
theorem gx170_43 : aF 43 zM170.2.2.2.2.2.2.2 = some (43, (.iload_n 2), 1, 0, 0) := by decide +kernel
theorem gx170_44 : aF 44 zM170.2.2.2.2.2.2.2 = some (44, (.iload_n 3), 1, 0, 0) := by decide +kernel
theorem gx170_45 : aF 45 zM170.2.2.2.2.2.2.2 = some (45, (.invokevirtual 267), 3, 2, 0) := by decide +kernel
theorem gx170_48 : aF 48 zM170.2.2.2.2.2.2.2 = some (48, (.aload_n 0), 1, 0, 0) := by decide +kernel
theorem gx170_49 : aF 49 zM170.2.2.2.2.2.2.2 = some (49, (.getfield 44), 3, 11, 4) := by decide +kernel
theorem gx170_52 : aF 52 zM170.2.2.2.2.2.2.2 = some (52, (.getfield 271), 3, 0, 4) := by decide +kernel
theorem gx170_55 : aF 55 zM170.2.2.2.2.2.2.2 = some (55, (.iload 4), 2, 0, 0) := by decide +kernel
theorem gx170_57 : aF 57 zM170.2.2.2.2.2.2.2 = some (57, .iaload, 1, 0, 0) := by decide +kernel
theorem gx170_58 : aF 58 zM170.2.2.2.2.2.2.2 = some (58, .ireturn, 1, 0, 0) := by decide +kernel
theorem gx171_0 : aF 0 zM171.2.2.2.2.2.2.2 = some (0, (.aload_n 0), 1, 0, 0) := by decide +kernel
theorem gx171_1 : aF 1 zM171.2.2.2.2.2.2.2 = some (1, (.getfield 12), 3, 11, 0) := by decide +kernel
theorem gx171_4 : aF 4 zM171.2.2.2.2.2.2.2 = some (4, (.iload_n 1), 1, 0, 0) := by decide +kernel
theorem gx171_5 : aF 5 zM171.2.2.2.2.2.2.2 = some (5, (.invokevirtual 121), 3, 75, 0) := by decide +kernel
theorem gx171_8 : aF 8 zM171.2.2.2.2.2.2.2 = some (8, (.ifCond .eq 28), 3, 36, 0) := by decide +kernel
theorem gx171_36 : aF 36 zM171.2.2.2.2.2.2.2 = some (36, (.ldc 135), 2, 2294967296, 0) := by decide +kernel
theorem gx171_38 : aF 38 zM171.2.2.2.2.2.2.2 = some (38, .ireturn, 1, 0, 0) := by decide +kernel
theorem gx171_11 : aF 11 zM171.2.2.2.2.2.2.2 = some (11, (.iload_n 2), 1, 0, 0) := by decide +kernel
theorem gx171_12 : aF 12 zM171.2.2.2.2.2.2.2 = some (12, (.invokestatic 187), 3, 139, 0) := by decide +kernel
theorem gx171_15 : aF 15 zM171.2.2.2.2.2.2.2 = some (15, (.ifCond .eq 21), 3, 36, 0) := by decide +kernel
theorem gx171_18 : aF 18 zM171.2.2.2.2.2.2.2 = some (18, (.iload_n 3), 1, 0, 0) := by decide +kernel
theorem gx171_19 : aF 19 zM171.2.2.2.2.2.2.2 = some (19, (.invokestatic 164), 3, 138, 0) := by decide +kernel
theorem gx171_22 : aF 22 zM171.2.2.2.2.2.2.2 = some (22, (.ifCond .eq 14), 3, 36, 0) := by decide +kernel
theorem gx171_25 : aF 25 zM171.2.2.2.2.2.2.2 = some (25, (.iload 4), 2, 0, 0) := by decide +kernel
theorem gx171_27 : aF 27 zM171.2.2.2.2.2.2.2 = some (27, (.iconst 0), 1, 0, 0) := by decide +kernel
theorem gx171_28 : aF 28 zM171.2.2.2.2.2.2.2 = some (28, (.bipush 6), 2, 0, 0) := by decide +kernel
theorem gx171_30 : aF 30 zM171.2.2.2.2.2.2.2 = some (30, (.invokestatic 85), 3, 137, 0) := by decide +kernel
theorem gx171_33 : aF 33 zM171.2.2.2.2.2.2.2 = some (33, (.ifCond .ne 6), 3, 39, 0) := by decide +kernel
theorem gx171_39 : aF 39 zM171.2.2.2.2.2.2.2 = some (39, (.aload_n 0), 1, 0, 0) := by decide +kernel
theorem gx171_40 : aF 40 zM171.2.2.2.2.2.2.2 = some (40, (.getfield 44), 3, 11, 4) := by decide +kernel
theorem gx171_43 : aF 43 zM171.2.2.2.2.2.2.2 = some (43, (.iload_n 1), 1, 0, 0) := by decide +kernel
theorem gx171_44 : aF 44 zM171.2.2.2.2.2.2.2 = some (44, (.iload_n 2), 1, 0, 0) := by decide +kernel
theorem gx171_45 : aF 45 zM171.2.2.2.2.2.2.2 = some (45, (.iload_n 3), 1, 0, 0) := by decide +kernel
theorem gx171_46 : aF 46 zM171.2.2.2.2.2.2.2 = some (46, (.iconst (-1)), 1, 0, 0) := by decide +kernel
theorem gx171_47 : aF 47 zM171.2.2.2.2.2.2.2 = some (47, (.invokevirtual 274), 3, 8, 0) := by decide +kernel
theorem gx171_50 : aF 50 zM171.2.2.2.2.2.2.2 = some (50, (.istore 5), 2, 0, 0) := by decide +kernel
theorem gx171_52 : aF 52 zM171.2.2.2.2.2.2.2 = some (52, (.iload 4), 2, 0, 0) := by decide +kernel
theorem gx171_54 : aF 54 zM171.2.2.2.2.2.2.2 = some (54, (.ifCond .ne 6), 3, 60, 0) := by decide +kernel
theorem gx171_60 : aF 60 zM171.2.2.2.2.2.2.2 = some (60, (.iload 4), 2, 0, 0) := by decide +kernel
theorem gx171_62 : aF 62 zM171.2.2.2.2.2.2.2 = some (62, (.bipush 6), 2, 0, 0) := by decide +kernel
theorem gx171_64 : aF 64 zM171.2.2.2.2.2.2.2 = some (64, (.if_icmp .ne 13), 3, 77, 0) := by decide +kernel
theorem gx171_77 : aF 77 zM171.2.2.2.2.2.2.2 = some (77, (.aload_n 0), 1, 0, 0) := by decide +kernel
theorem gx171_78 : aF 78 zM171.2.2.2.2.2.2.2 = some (78, (.getfield 44), 3, 11, 4) := by decide +kernel
theorem gx171_81 : aF 81 zM171.2.2.2.2.2.2.2 = some (81, (.getfield 280), 3, 0, 6) := by decide +kernel
theorem gx171_84 : aF 84 zM171.2.2.2.2.2.2.2 = some (84, (.iload 4), 2, 0, 0) := by decide +kernel
theorem gx171_86 : aF 86 zM171.2.2.2.2.2.2.2 = some (86, .iaload, 1, 0, 0) := by decide +kernel
theorem gx171_87 : aF 87 zM171.2.2.2.2.2.2.2 = some (87, .ireturn, 1, 0, 0) := by decide +kernel
theorem gx171_67 : aF 67 zM171.2.2.2.2.2.2.2 = some (67, (.aload_n 0), 1, 0, 0) := by decide +kernel
theorem gx171_68 : aF 68 zM171.2.2.2.2.2.2.2 = some (68, (.getfield 44), 3, 11, 4) := by decide +kernel
theorem gx171_71 : aF 71 zM171.2.2.2.2.2.2.2 = some (71, (.getfield 277), 3, 0, 7) := by decide +kernel
theorem gx171_74 : aF 74 zM171.2.2.2.2.2.2.2 = some (74, (.goto 13), 3, 87, 0) := by decide +kernel
theorem gx171_57 : aF 57 zM171.2.2.2.2.2.2.2 = some (57, (.iload 5), 2, 0, 0) := by decide +kernel
theorem gx171_59 : aF 59 zM171.2.2.2.2.2.2.2 = some (59, .ireturn, 1, 0, 0) := by decide +kernel
theorem gx172_0 : aF 0 zM172.2.2.2.2.2.2.2 = some (0, (.aload_n 0), 1, 0, 0) := by decide +kernel
theorem gx172_1 : aF 1 zM172.2.2.2.2.2.2.2 = some (1, (.getfield 12), 3, 11, 0) := by decide +kernel
theorem gx172_4 : aF 4 zM172.2.2.2.2.2.2.2 = some (4, (.iload_n 1), 1, 0, 0) := by decide +kernel
theorem gx172_5 : aF 5 zM172.2.2.2.2.2.2.2 = some (5, (.invokevirtual 121), 3, 75, 0) := by decide +kernel
theorem gx172_8 : aF 8 zM172.2.2.2.2.2.2.2 = some (8, (.ifCond .eq 22), 3, 30, 0) := by decide +kernel
theorem gx172_30 : aF 30 zM172.2.2.2.2.2.2.2 = some (30, (.iconst (-1)), 1, 0, 0) := by decide +kernel
theorem gx172_31 : aF 31 zM172.2.2.2.2.2.2.2 = some (31, .ireturn, 1, 0, 0) := by decide +kernel
theorem gx172_11 : aF 11 zM172.2.2.2.2.2.2.2 = some (11, (.iload_n 2), 1, 0, 0) := by decide +kernel
theorem gx172_12 : aF 12 zM172.2.2.2.2.2.2.2 = some (12, (.iconst 0), 1, 0, 0) := by decide +kernel
theorem gx172_13 : aF 13 zM172.2.2.2.2.2.2.2 = some (13, (.aload_n 0), 1, 0, 0) := by decide +kernel
theorem gx172_14 : aF 14 zM172.2.2.2.2.2.2.2 = some (14, (.getfield 12), 3, 11, 0) := by decide +kernel
theorem gx172_17 : aF 17 zM172.2.2.2.2.2.2.2 = some (17, (.getfield 93), 3, 6, 0) := by decide +kernel
theorem gx172_20 : aF 20 zM172.2.2.2.2.2.2.2 = some (20, (.sipush 365), 3, 0, 0) := by decide +kernel
theorem gx172_23 : aF 23 zM172.2.2.2.2.2.2.2 = some (23, .idiv, 1, 0, 0) := by decide +kernel
theorem gx172_24 : aF 24 zM172.2.2.2.2.2.2.2 = some (24, (.invokestatic 85), 3, 137, 0) := by decide +kernel
theorem gx172_27 : aF 27 zM172.2.2.2.2.2.2.2 = some (27, (.ifCond .ne 5), 3, 32, 0) := by decide +kernel
theorem gx172_32 : aF 32 zM172.2.2.2.2.2.2.2 = some (32, (.aload_n 0), 1, 0, 0) := by decide +kernel
theorem gx172_33 : aF 33 zM172.2.2.2.2.2.2.2 = some (33, (.getfield 44), 3, 11, 4) := by decide +kernel
theorem gx172_36 : aF 36 zM172.2.2.2.2.2.2.2 = some (36, (.iload_n 1), 1, 0, 0) := by decide +kernel
theorem gx172_37 : aF 37 zM172.2.2.2.2.2.2.2 = some (37, (.iload_n 2), 1, 0, 0) := by decide +kernel
theorem gx172_38 : aF 38 zM172.2.2.2.2.2.2.2 = some (38, (.invokevirtual 283), 3, 14, 0) := by decide +kernel
theorem gx172_41 : aF 41 zM172.2.2.2.2.2.2.2 = some (41, .ireturn, 1, 0, 0) := by decide +kernel
theorem gx173_0 : aF 0 zM173.2.2.2.2.2.2.2 = some (0, (.aload_n 0), 1, 0, 0) := by decide +kernel
theorem gx173_1 : aF 1 zM173.2.2.2.2.2.2.2 = some (1, (.getfield 12), 3, 11, 0) := by decide +kernel
theorem gx173_4 : aF 4 zM173.2.2.2.2.2.2.2 = some (4, (.iload_n 1), 1, 0, 0) := by decide +kernel
theorem gx173_5 : aF 5 zM173.2.2.2.2.2.2.2 = some (5, (.invokevirtual 121), 3, 75, 0) := by decide +kernel
theorem gx173_8 : aF 8 zM173.2.2.2.2.2.2.2 = some (8, (.ifCond .eq 14), 3, 22, 0) := by decide +kernel
theorem gx173_22 : aF 22 zM173.2.2.2.2.2.2.2 = some (22, (.ldc 135), 2, 2294967296, 0) := by decide +kernel
theorem gx173_24 : aF 24 zM173.2.2.2.2.2.2.2 = some (24, .ireturn, 1, 0, 0) := by decide +kernel
theorem gx173_11 : aF 11 zM173.2.2.2.2.2.2.2 = some (11, (.aload_n 0), 1, 0, 0) := by decide +kernel
theorem gx173_12 : aF 12 zM173.2.2.2.2.2.2.2 = some (12, (.getfield 44), 3, 11, 4) := by decide +kernel
theorem gx173_15 : aF 15 zM173.2.2.2.2.2.2.2 = some (15, (.iload_n 1), 1, 0, 0) := by decide +kernel
theorem gx173_16 : aF 16 zM173.2.2.2.2.2.2.2 = some (16, (.invokevirtual 286), 3, 15, 0) := by decide +kernel
theorem gx173_19 : aF 19 zM173.2.2.2.2.2.2.2 = some (19, (.goto 5), 3, 24, 0) := by decide +kernel
theorem gx174_0 : aF 0 zM174.2.2.2.2.2.2.2 = some (0, (.aload_n 0), 1, 0, 0) := by decide +kernel
theorem gx174_1 : aF 1 zM174.2.2.2.2.2.2.2 = some (1, (.getfield 12), 3, 11, 0) := by decide +kernel
theorem gx174_4 : aF 4 zM174.2.2.2.2.2.2.2 = some (4, (.iload_n 1), 1, 0, 0) := by decide +kernel
theorem gx174_5 : aF 5 zM174.2.2.2.2.2.2.2 = some (5, (.invokevirtual 121), 3, 75, 0) := by decide +kernel
theorem gx174_8 : aF 8 zM174.2.2.2.2.2.2.2 = some (8, (.ifCond .eq 21), 3, 29, 0) := by decide +kernel
theorem gx174_29 : aF 29 zM174.2.2.2.2.2.2.2 = some (29, (.iconst (-1)), 1, 0, 0) := by decide +kernel
theorem gx174_30 : aF 30 zM174.2.2.2.2.2.2.2 = some (30, .ireturn, 1, 0, 0) := by decide +kernel
theorem gx174_11 : aF 11 zM174.2.2.2.2.2.2.2 = some (11, (.iload_n 2), 1, 0, 0) := by decide +kernel
theorem gx174_12 : aF 12 zM174.2.2.2.2.2.2.2 = some (12, (.invokestatic 187), 3, 139, 0) := by decide +kernel
theorem gx174_15 : aF 15 zM174.2.2.2.2.2.2.2 = some (15, (.ifCond .eq 14), 3, 29, 0) := by decide +kernel
theorem gx174_18 : aF 18 zM174.2.2.2.2.2.2.2 = some (18, (.iload_n 3), 1, 0, 0) := by decide +kernel
theorem gx174_19 : aF 19 zM174.2.2.2.2.2.2.2 = some (19, (.iconst 0), 1, 0, 0) := by decide +kernel
theorem gx174_20 : aF 20 zM174.2.2.2.2.2.2.2 = some (20, (.ldc_w 289), 3, 2000000000, 0) := by decide +kernel
theorem gx174_23 : aF 23 zM174.2.2.2.2.2.2.2 = some (23, (.invokestatic 85), 3, 137, 0) := by decide +kernel
theorem gx174_26 : aF 26 zM174.2.2.2.2.2.2.2 = some (26, (.ifCond .ne 5), 3, 31, 0) := by decide +kernel
theorem gx174_31 : aF 31 zM174.2.2.2.2.2.2.2 = some (31, (.aload_n 0), 1, 0, 0) := by decide +kernel
theorem gx174_32 : aF 32 zM174.2.2.2.2.2.2.2 = some (32, (.getfield 44), 3, 11, 4) := by decide +kernel
theorem gx174_35 : aF 35 zM174.2.2.2.2.2.2.2 = some (35, (.iload_n 1), 1, 0, 0) := by decide +kernel
theorem gx174_36 : aF 36 zM174.2.2.2.2.2.2.2 = some (36, (.iload_n 2), 1, 0, 0) := by decide +kernel
theorem gx174_37 : aF 37 zM174.2.2.2.2.2.2.2 = some (37, (.iload_n 3), 1, 0, 0) := by decide +kernel
theorem gx174_38 : aF 38 zM174.2.2.2.2.2.2.2 = some (38, (.invokevirtual 290), 3, 16, 0) := by decide +kernel
theorem gx174_41 : aF 41 zM174.2.2.2.2.2.2.2 = some (41, .ireturn, 1, 0, 0) := by decide +kernel
theorem gx175_0 : aF 0 zM175.2.2.2.2.2.2.2 = some (0, (.iload_n 1), 1, 0, 0) := by decide +kernel
theorem gx175_1 : aF 1 zM175.2.2.2.2.2.2.2 = some (1, (.invokestatic 187), 3, 139, 0) := by decide +kernel
theorem gx175_4 : aF 4 zM175.2.2.2.2.2.2.2 = some (4, (.ifCond .eq 28), 3, 32, 0) := by decide +kernel
theorem gx175_32 : aF 32 zM175.2.2.2.2.2.2.2 = some (32, (.iconst (-1)), 1, 0, 0) := by decide +kernel
theorem gx175_33 : aF 33 zM175.2.2.2.2.2.2.2 = some (33, .ireturn, 1, 0, 0) := by decide +kernel
theorem gx175_7 : aF 7 zM175.2.2.2.2.2.2.2 = some (7, (.aload_n 0), 1, 0, 0) := by decide +kernel
theorem gx175_8 : aF 8 zM175.2.2.2.2.2.2.2 = some (8, (.getfield 53), 3, 11, 5) := by decide +kernel
theorem gx175_11 : aF 11 zM175.2.2.2.2.2.2.2 = some (11, (.aload_n 0), 1, 0, 0) := by decide +kernel
theorem gx175_12 : aF 12 zM175.2.2.2.2.2.2.2 = some (12, (.getfield 44), 3, 11, 4) := by decide +kernel
theorem gx175_15 : aF 15 zM175.2.2.2.2.2.2.2 = some (15, (.iload_n 1), 1, 0, 0) := by decide +kernel
theorem gx175_16 : aF 16 zM175.2.2.2.2.2.2.2 = some (16, (.aload_n 0), 1, 0, 0) := by decide +kernel
theorem gx175_17 : aF 17 zM175.2.2.2.2.2.2.2 = some (17, (.getfield 12), 3, 11, 0) := by decide +kernel
theorem gx175_20 : aF 20 zM175.2.2.2.2.2.2.2 = some (20, (.getfield 93), 3, 6, 0) := by decide +kernel
theorem gx175_23 : aF 23 zM175.2.2.2.2.2.2.2 = some (23, (.invokevirtual 190), 3, 1, 0) := by decide +kernel
theorem gx175_26 : aF 26 zM175.2.2.2.2.2.2.2 = some (26, (.invokevirtual 293), 3, 53, 0) := by decide +kernel
theorem gx175_29 : aF 29 zM175.2.2.2.2.2.2.2 = some (29, (.goto 4), 3, 33, 0) := by decide +kernel
theorem gx178_0 : aF 0 zM178.2.2.2.2.2.2.2 = some (0, (.iload_n 1), 1, 0, 0) := by decide +kernel
theorem gx178_1 : aF 1 zM178.2.2.2.2.2.2.2 = some (1, (.invokestatic 89), 3, 140, 0) := by decide +kernel
theorem gx178_4 : aF 4 zM178.2.2.2.2.2.2.2 = some (4, (.ifCond .eq 20), 3, 24, 0) := by decide +kernel
theorem gx178_24 : aF 24 zM178.2.2.2.2.2.2.2 = some (24, (.iconst (-1)), 1, 0, 0) := by decide +kernel
theorem gx178_25 : aF 25 zM178.2.2.2.2.2.2.2 = some (25, .ireturn, 1, 0, 0) := by decide +kernel
theorem gx178_7 : aF 7 zM178.2.2.2.2.2.2.2 = some (7, (.iload_n 2), 1, 0, 0) := by decide +kernel
theorem gx178_8 : aF 8 zM178.2.2.2.2.2.2.2 = some (8, (.invokestatic 187), 3, 139, 0) := by decide +kernel
theorem gx178_11 : aF 11 zM178.2.2.2.2.2.2.2 = some (11, (.ifCond .eq 13), 3, 24, 0) := by decide +kernel
theorem gx178_14 : aF 14 zM178.2.2.2.2.2.2.2 = some (14, (.iload_n 3), 1, 0, 0) := by decide +kernel
theorem gx178_15 : aF 15 zM178.2.2.2.2.2.2.2 = some (15, (.iconst 1), 1, 0, 0) := by decide +kernel
theorem gx178_16 : aF 16 zM178.2.2.2.2.2.2.2 = some (16, (.bipush 9), 2, 0, 0) := by decide +kernel
theorem gx178_18 : aF 18 zM178.2.2.2.2.2.2.2 = some (18, (.invokestatic 85), 3, 137, 0) := by decide +kernel
theorem gx178_21 : aF 21 zM178.2.2.2.2.2.2.2 = some (21, (.ifCond .ne 5), 3, 26, 0) := by decide +kernel
theorem gx178_26 : aF 26 zM178.2.2.2.2.2.2.2 = some (26, (.aload_n 0), 1, 0, 0) := by decide +kernel
theorem gx178_27 : aF 27 zM178.2.2.2.2.2.2.2 = some (27, (.getfield 53), 3, 11, 5) := by decide +kernel
theorem gx178_30 : aF 30 zM178.2.2.2.2.2.2.2 = some (30, (.iload_n 1), 1, 0, 0) := by decide +kernel
theorem gx178_31 : aF 31 zM178.2.2.2.2.2.2.2 = some (31, (.iload_n 2), 1, 0, 0) := by decide +kernel
theorem gx178_32 : aF 32 zM178.2.2.2.2.2.2.2 = some (32, (.iload_n 3), 1, 0, 0) := by decide +kernel
theorem gx178_33 : aF 33 zM178.2.2.2.2.2.2.2 = some (33, (.invokevirtual 306), 3, 61, 0) := by decide +kernel
theorem gx178_36 : aF 36 zM178.2.2.2.2.2.2.2 = some (36, .ireturn, 1, 0, 0) := by decide +kernel
theorem gx180_0 : aF 0 zM180.2.2.2.2.2.2.2 = some (0, (.iload_n 1), 1, 0, 0) := by decide +kernel
theorem gx180_1 : aF 1 zM180.2.2.2.2.2.2.2 = some (1, (.invokestatic 187), 3, 139, 0) := by decide +kernel
theorem gx180_4 : aF 4 zM180.2.2.2.2.2.2.2 = some (4, (.ifCond .eq 12), 3, 16, 0) := by decide +kernel
theorem gx180_16 : aF 16 zM180.2.2.2.2.2.2.2 = some (16, (.iconst (-1)), 1, 0, 0) := by decide +kernel
theorem gx180_17 : aF 17 zM180.2.2.2.2.2.2.2 = some (17, .ireturn, 1, 0, 0) := by decide +kernel
theorem gx180_7 : aF 7 zM180.2.2.2.2.2.2.2 = some (7, (.iload_n 2), 1, 0, 0) := by decide +kernel
theorem gx180_8 : aF 8 zM180.2.2.2.2.2.2.2 = some (8, (.iconst 0), 1, 0, 0) := by decide +kernel
theorem gx180_9 : aF 9 zM180.2.2.2.2.2.2.2 = some (9, (.iconst 2), 1, 0, 0) := by decide +kernel
theorem gx180_10 : aF 10 zM180.2.2.2.2.2.2.2 = some (10, (.invokestatic 85), 3, 137, 0) := by decide +kernel
theorem gx180_13 : aF 13 zM180.2.2.2.2.2.2.2 = some (13, (.ifCond .ne 5), 3, 18, 0) := by decide +kernel
theorem gx180_18 : aF 18 zM180.2.2.2.2.2.2.2 = some (18, (.iload_n 2), 1, 0, 0) := by decide +kernel
theorem gx180_19 : aF 19 zM180.2.2.2.2.2.2.2 = some (19, (.iconst 2), 1, 0, 0) := by decide +kernel
theorem gx180_20 : aF 20 zM180.2.2.2.2.2.2.2 = some (20, (.if_icmp .ne 31), 3, 51, 0) := by decide +kernel
theorem gx180_51 : aF 51 zM180.2.2.2.2.2.2.2 = some (51, (.aload_n 0), 1, 0, 0) := by decide +kernel
theorem gx180_52 : aF 52 zM180.2.2.2.2.2.2.2 = some (52, (.getfield 53), 3, 11, 5) := by decide +kernel
theorem gx180_55 : aF 55 zM180.2.2.2.2.2.2.2 = some (55, (.iload_n 1), 1, 0, 0) := by decide +kernel
theorem gx180_56 : aF 56 zM180.2.2.2.2.2.2.2 = some (56, (.invokevirtual 315), 3, 66, 0) := by decide +kernel
theorem gx180_59 : aF 59 zM180.2.2.2.2.2.2.2 = some (59, (.iload_n 2), 1, 0, 0) := by decide +kernel
theorem gx180_60 : aF 60 zM180.2.2.2.2.2.2.2 = some (60, (.lookupswitch 44 #[(0, 28), (1, 36)]), 28, 0, 0) := by decide +kernel
theorem gx180_88 : aF 88 zM180.2.2.2.2.2.2.2 = some (88, (.aload_n 0), 1, 0, 0) := by decide +kernel
theorem gx180_89 : aF 89 zM180.2.2.2.2.2.2.2 = some (89, (.getfield 53), 3, 11, 5) := by decide +kernel
theorem gx180_92 : aF 92 zM180.2.2.2.2.2.2.2 = some (92, (.getfield 318), 3, 5, 13) := by decide +kernel
theorem gx180_95 : aF 95 zM180.2.2.2.2.2.2.2 = some (95, .ireturn, 1, 0, 0) := by decide +kernel
theorem gx180_96 : aF 96 zM180.2.2.2.2.2.2.2 = some (96, (.aload_n 0), 1, 0, 0) := by decide +kernel
theorem gx180_97 : aF 97 zM180.2.2.2.2.2.2.2 = some (97, (.getfield 53), 3, 11, 5) := by decide +kernel
theorem gx180_100 : aF 100 zM180.2.2.2.2.2.2.2 = some (100, (.getfield 321), 3, 5, 14) := by decide +kernel
theorem gx180_103 : aF 103 zM180.2.2.2.2.2.2.2 = some (103, .ireturn, 1, 0, 0) := by decide +kernel
theorem gx180_104 : aF 104 zM180.2.2.2.2.2.2.2 = some (104, (.aload_n 0), 1, 0, 0) := by decide +kernel
theorem gx180_105 : aF 105 zM180.2.2.2.2.2.2.2 = some (105, (.getfield 53), 3, 11, 5) := by decide +kernel
theorem gx180_108 : aF 108 zM180.2.2.2.2.2.2.2 = some (108, (.iload_n 3), 1, 0, 0) := by decide +kernel
theorem gx180_109 : aF 109 zM180.2.2.2.2.2.2.2 = some (109, (.bipush 100), 2, 0, 0) := by decide +kernel
theorem gx180_111 : aF 111 zM180.2.2.2.2.2.2.2 = some (111, .idiv, 1, 0, 0) := by decide +kernel
theorem gx180_112 : aF 112 zM180.2.2.2.2.2.2.2 = some (112, (.iload_n 3), 1, 0, 0) := by decide +kernel
theorem gx180_113 : aF 113 zM180.2.2.2.2.2.2.2 = some (113, (.bipush 100), 2, 0, 0) := by decide +kernel
theorem gx180_115 : aF 115 zM180.2.2.2.2.2.2.2 = some (115, .irem, 1, 0, 0) := by decide +kernel
theorem gx180_116 : aF 116 zM180.2.2.2.2.2.2.2 = some (116, (.invokevirtual 324), 3, 67, 0) := by decide +kernel
theorem gx180_119 : aF 119 zM180.2.2.2.2.2.2.2 = some (119, .ireturn, 1, 0, 0) := by decide +kernel
theorem gx180_23 : aF 23 zM180.2.2.2.2.2.2.2 = some (23, (.iload_n 3), 1, 0, 0) := by decide +kernel
theorem gx180_24 : aF 24 zM180.2.2.2.2.2.2.2 = some (24, (.bipush 100), 2, 0, 0) := by decide +kernel
theorem gx180_26 : aF 26 zM180.2.2.2.2.2.2.2 = some (26, .idiv, 1, 0, 0) := by decide +kernel
theorem gx180_27 : aF 27 zM180.2.2.2.2.2.2.2 = some (27, (.iconst 1), 1, 0, 0) := by decide +kernel
theorem gx180_28 : aF 28 zM180.2.2.2.2.2.2.2 = some (28, (.bipush 99), 2, 0, 0) := by decide +kernel
theorem gx180_30 : aF 30 zM180.2.2.2.2.2.2.2 = some (30, (.invokestatic 85), 3, 137, 0) := by decide +kernel
theorem gx180_33 : aF 33 zM180.2.2.2.2.2.2.2 = some (33, (.ifCond .eq 16), 3, 49, 0) := by decide +kernel
theorem gx180_49 : aF 49 zM180.2.2.2.2.2.2.2 = some (49, (.iconst (-1)), 1, 0, 0) := by decide +kernel
theorem gx180_50 : aF 50 zM180.2.2.2.2.2.2.2 = some (50, .ireturn, 1, 0, 0) := by decide +kernel
theorem gx180_36 : aF 36 zM180.2.2.2.2.2.2.2 = some (36, (.iload_n 3), 1, 0, 0) := by decide +kernel
theorem gx180_37 : aF 37 zM180.2.2.2.2.2.2.2 = some (37, (.bipush 100), 2, 0, 0) := by decide +kernel
theorem gx180_39 : aF 39 zM180.2.2.2.2.2.2.2 = some (39, .irem, 1, 0, 0) := by decide +kernel
theorem gx180_40 : aF 40 zM180.2.2.2.2.2.2.2 = some (40, (.iconst 1), 1, 0, 0) := by decide +kernel
theorem gx180_41 : aF 41 zM180.2.2.2.2.2.2.2 = some (41, (.bipush 49), 2, 0, 0) := by decide +kernel
theorem gx180_43 : aF 43 zM180.2.2.2.2.2.2.2 = some (43, (.invokestatic 85), 3, 137, 0) := by decide +kernel
theorem gx180_46 : aF 46 zM180.2.2.2.2.2.2.2 = some (46, (.ifCond .ne 5), 3, 51, 0) := by decide +kernel
theorem gx185_0 : aF 0 zM185.2.2.2.2.2.2.2 = some (0, (.aload_n 0), 1, 0, 0) := by decide +kernel
theorem gx185_1 : aF 1 zM185.2.2.2.2.2.2.2 = some (1, (.getfield 35), 3, 11, 3) := by decide +kernel
theorem gx185_4 : aF 4 zM185.2.2.2.2.2.2.2 = some (4, (.iload_n 1), 1, 0, 0) := by decide +kernel
theorem gx185_5 : aF 5 zM185.2.2.2.2.2.2.2 = some (5, (.invokevirtual 342), 3, 119, 0) := by decide +kernel
theorem gx185_8 : aF 8 zM185.2.2.2.2.2.2.2 = some (8, (.ifCond .eq 27), 3, 35, 0) := by decide +kernel
theorem gx185_35 : aF 35 zM185.2.2.2.2.2.2.2 = some (35, (.iconst (-1)), 1, 0, 0) := by decide +kernel
theorem gx185_36 : aF 36 zM185.2.2.2.2.2.2.2 = some (36, .ireturn, 1, 0, 0) := by decide +kernel
theorem gx185_11 : aF 11 zM185.2.2.2.2.2.2.2 = some (11, (.iload_n 2), 1, 0, 0) := by decide +kernel
theorem gx185_12 : aF 12 zM185.2.2.2.2.2.2.2 = some (12, (.invokestatic 89), 3, 140, 0) := by decide +kernel
theorem gx185_15 : aF 15 zM185.2.2.2.2.2.2.2 = some (15, (.ifCond .eq 20), 3, 35, 0) := by decide +kernel
theorem gx185_18 : aF 18 zM185.2.2.2.2.2.2.2 = some (18, (.iload_n 3), 1, 0, 0) := by decide +kernel
theorem gx185_19 : aF 19 zM185.2.2.2.2.2.2.2 = some (19, (.invokestatic 187), 3, 139, 0) := by decide +kernel
theorem gx185_22 : aF 22 zM185.2.2.2.2.2.2.2 = some (22, (.ifCond .eq 13), 3, 35, 0) := by decide +kernel
theorem gx185_25 : aF 25 zM185.2.2.2.2.2.2.2 = some (25, (.iload 4), 2, 0, 0) := by decide +kernel
theorem gx185_27 : aF 27 zM185.2.2.2.2.2.2.2 = some (27, (.iconst 0), 1, 0, 0) := by decide +kernel
theorem gx185_28 : aF 28 zM185.2.2.2.2.2.2.2 = some (28, (.iconst 1), 1, 0, 0) := by decide +kernel
theorem gx185_29 : aF 29 zM185.2.2.2.2.2.2.2 = some (29, (.invokestatic 85), 3, 137, 0) := by decide +kernel
theorem gx185_32 : aF 32 zM185.2.2.2.2.2.2.2 = some (32, (.ifCond .ne 5), 3, 37, 0) := by decide +kernel
theorem gx185_37 : aF 37 zM185.2.2.2.2.2.2.2 = some (37, (.aload_n 0), 1, 0, 0) := by decide +kernel
theorem gx185_38 : aF 38 zM185.2.2.2.2.2.2.2 = some (38, (.getfield 44), 3, 11, 4) := by decide +kernel
theorem gx185_41 : aF 41 zM185.2.2.2.2.2.2.2 = some (41, (.iload_n 1), 1, 0, 0) := by decide +kernel
theorem gx185_42 : aF 42 zM185.2.2.2.2.2.2.2 = some (42, (.iload_n 2), 1, 0, 0) := by decide +kernel
theorem gx185_43 : aF 43 zM185.2.2.2.2.2.2.2 = some (43, (.iload_n 3), 1, 0, 0) := by decide +kernel
theorem gx185_44 : aF 44 zM185.2.2.2.2.2.2.2 = some (44, (.iload 4), 2, 0, 0) := by decide +kernel
theorem gx185_46 : aF 46 zM185.2.2.2.2.2.2.2 = some (46, (.ifCond .ne 7), 3, 53, 0) := by decide +kernel
theorem gx185_53 : aF 53 zM185.2.2.2.2.2.2.2 = some (53, (.iconst 0), 1, 0, 0) := by decide +kernel
theorem gx185_54 : aF 54 zM185.2.2.2.2.2.2.2 = some (54, (.invokevirtual 345), 3, 18, 0) := by decide +kernel
theorem gx185_57 : aF 57 zM185.2.2.2.2.2.2.2 = some (57, .ireturn, 1, 0, 0) := by decide +kernel
theorem gx185_49 : aF 49 zM185.2.2.2.2.2.2.2 = some (49, (.iconst 1), 1, 0, 0) := by decide +kernel
theorem gx185_50 : aF 50 zM185.2.2.2.2.2.2.2 = some (50, (.goto 4), 3, 54, 0) := by decide +kernel
theorem gx267_0 : aF 0 zM267.2.2.2.2.2.2.2 = some (0, (.iload_n 0), 1, 0, 0) := by decide +kernel
theorem gx267_1 : aF 1 zM267.2.2.2.2.2.2.2 = some (1, (.tableswitch 217 37 62 #[153, 203, 217, 217, 217, 127, 119, 217, 123, 217, 131, 217, 217, 217, 217, 217, 217, 217, 217, 217, 217, 217, 217, 170, 181, 192]), 119, 0, 0) := by decide +kernel
theorem gx267_154 : aF 154 zM267.2.2.2.2.2.2.2 = some (154, (.iload_n 2), 1, 0, 0) := by decide +kernel
theorem gx267_155 : aF 155 zM267.2.2.2.2.2.2.2 = some (155, (.ifCond .eq 8), 3, 163, 0) := by decide +kernel
theorem gx267_158 : aF 158 zM267.2.2.2.2.2.2.2 = some (158, (.iload_n 2), 1, 0, 0) := by decide +kernel
theorem gx267_159 : aF 159 zM267.2.2.2.2.2.2.2 = some (159, (.iconst (-1)), 1, 0, 0) := by decide +kernel
theorem gx267_160 : aF 160 zM267.2.2.2.2.2.2.2 = some (160, (.if_icmp .ne 7), 3, 167, 0) := by decide +kernel
theorem gx267_167 : aF 167 zM267.2.2.2.2.2.2.2 = some (167, (.iload_n 1), 1, 0, 0) := by decide +kernel
theorem gx267_168 : aF 168 zM267.2.2.2.2.2.2.2 = some (168, (.iload_n 2), 1, 0, 0) := by decide +kernel
theorem gx267_169 : aF 169 zM267.2.2.2.2.2.2.2 = some (169, .irem, 1, 0, 0) := by decide +kernel
theorem gx267_204 : aF 204 zM267.2.2.2.2.2.2.2 = some (204, (.iload_n 1), 1, 0, 0) := by decide +kernel
theorem gx267_205 : aF 205 zM267.2.2.2.2.2.2.2 = some (205, (.ifCond .eq 11), 3, 216, 0) := by decide +kernel
theorem gx267_208 : aF 208 zM267.2.2.2.2.2.2.2 = some (208, (.iload_n 2), 1, 0, 0) := by decide +kernel
theorem gx267_209 : aF 209 zM267.2.2.2.2.2.2.2 = some (209, (.ifCond .eq 7), 3, 216, 0) := by decide +kernel
theorem gx267_212 : aF 212 zM267.2.2.2.2.2.2.2 = some (212, (.iconst 1), 1, 0, 0) := by decide +kernel
theorem gx267_213 : aF 213 zM267.2.2.2.2.2.2.2 = some (213, (.goto 4), 3, 217, 0) := by decide +kernel
theorem gx267_128 : aF 128 zM267.2.2.2.2.2.2.2 = some (128, (.iload_n 1), 1, 0, 0) := by decide +kernel
theorem gx267_129 : aF 129 zM267.2.2.2.2.2.2.2 = some (129, (.iload_n 2), 1, 0, 0) := by decide +kernel
theorem gx267_130 : aF 130 zM267.2.2.2.2.2.2.2 = some (130, .imul, 1, 0, 0) := by decide +kernel
theorem gx267_131 : aF 131 zM267.2.2.2.2.2.2.2 = some (131, .ireturn, 1, 0, 0) := by decide +kernel
theorem gx267_120 : aF 120 zM267.2.2.2.2.2.2.2 = some (120, (.iload_n 1), 1, 0, 0) := by decide +kernel
theorem gx267_121 : aF 121 zM267.2.2.2.2.2.2.2 = some (121, (.iload_n 2), 1, 0, 0) := by decide +kernel
theorem gx267_122 : aF 122 zM267.2.2.2.2.2.2.2 = some (122, .iadd, 1, 0, 0) := by decide +kernel
theorem gx267_123 : aF 123 zM267.2.2.2.2.2.2.2 = some (123, .ireturn, 1, 0, 0) := by decide +kernel
theorem gx267_124 : aF 124 zM267.2.2.2.2.2.2.2 = some (124, (.iload_n 1), 1, 0, 0) := by decide +kernel
theorem gx267_125 : aF 125 zM267.2.2.2.2.2.2.2 = some (125, (.iload_n 2), 1, 0, 0) := by decide +kernel
theorem gx267_126 : aF 126 zM267.2.2.2.2.2.2.2 = some (126, .isub, 1, 0, 0) := by decide +kernel
theorem gx267_127 : aF 127 zM267.2.2.2.2.2.2.2 = some (127, .ireturn, 1, 0, 0) := by decide +kernel
theorem gx267_132 : aF 132 zM267.2.2.2.2.2.2.2 = some (132, (.iload_n 2), 1, 0, 0) := by decide +kernel
theorem gx267_133 : aF 133 zM267.2.2.2.2.2.2.2 = some (133, (.ifCond .ne 7), 3, 140, 0) := by decide +kernel
theorem gx267_140 : aF 140 zM267.2.2.2.2.2.2.2 = some (140, (.iload_n 2), 1, 0, 0) := by decide +kernel
theorem gx267_141 : aF 141 zM267.2.2.2.2.2.2.2 = some (141, (.iconst (-1)), 1, 0, 0) := by decide +kernel
theorem gx267_142 : aF 142 zM267.2.2.2.2.2.2.2 = some (142, (.if_icmp .ne 8), 3, 150, 0) := by decide +kernel
theorem gx267_150 : aF 150 zM267.2.2.2.2.2.2.2 = some (150, (.iload_n 1), 1, 0, 0) := by decide +kernel
theorem gx267_151 : aF 151 zM267.2.2.2.2.2.2.2 = some (151, (.iload_n 2), 1, 0, 0) := by decide +kernel
theorem gx267_152 : aF 152 zM267.2.2.2.2.2.2.2 = some (152, .idiv, 1, 0, 0) := by decide +kernel
theorem gx267_145 : aF 145 zM267.2.2.2.2.2.2.2 = some (145, (.iload_n 1), 1, 0, 0) := by decide +kernel
theorem gx267_146 : aF 146 zM267.2.2.2.2.2.2.2 = some (146, .ineg, 1, 0, 0) := by decide +kernel
theorem gx267_147 : aF 147 zM267.2.2.2.2.2.2.2 = some (147, (.goto 6), 3, 153, 0) := by decide +kernel
theorem gx267_136 : aF 136 zM267.2.2.2.2.2.2.2 = some (136, (.iconst 0), 1, 0, 0) := by decide +kernel
theorem gx267_137 : aF 137 zM267.2.2.2.2.2.2.2 = some (137, (.goto 16), 3, 153, 0) := by decide +kernel
theorem gx267_171 : aF 171 zM267.2.2.2.2.2.2.2 = some (171, (.iload_n 1), 1, 0, 0) := by decide +kernel
theorem gx267_172 : aF 172 zM267.2.2.2.2.2.2.2 = some (172, (.iload_n 2), 1, 0, 0) := by decide +kernel
theorem gx267_173 : aF 173 zM267.2.2.2.2.2.2.2 = some (173, (.if_icmp .ge 7), 3, 180, 0) := by decide +kernel
theorem gx267_180 : aF 180 zM267.2.2.2.2.2.2.2 = some (180, (.iconst 0), 1, 0, 0) := by decide +kernel
theorem gx267_176 : aF 176 zM267.2.2.2.2.2.2.2 = some (176, (.iconst 1), 1, 0, 0) := by decide +kernel
theorem gx267_177 : aF 177 zM267.2.2.2.2.2.2.2 = some (177, (.goto 4), 3, 181, 0) := by decide +kernel
theorem gx267_182 : aF 182 zM267.2.2.2.2.2.2.2 = some (182, (.iload_n 1), 1, 0, 0) := by decide +kernel
theorem gx267_183 : aF 183 zM267.2.2.2.2.2.2.2 = some (183, (.iload_n 2), 1, 0, 0) := by decide +kernel
theorem gx267_184 : aF 184 zM267.2.2.2.2.2.2.2 = some (184, (.if_icmp .ne 7), 3, 191, 0) := by decide +kernel
theorem gx267_191 : aF 191 zM267.2.2.2.2.2.2.2 = some (191, (.iconst 0), 1, 0, 0) := by decide +kernel
theorem gx267_187 : aF 187 zM267.2.2.2.2.2.2.2 = some (187, (.iconst 1), 1, 0, 0) := by decide +kernel
theorem gx267_188 : aF 188 zM267.2.2.2.2.2.2.2 = some (188, (.goto 4), 3, 192, 0) := by decide +kernel
theorem gx267_193 : aF 193 zM267.2.2.2.2.2.2.2 = some (193, (.iload_n 1), 1, 0, 0) := by decide +kernel
theorem gx267_194 : aF 194 zM267.2.2.2.2.2.2.2 = some (194, (.iload_n 2), 1, 0, 0) := by decide +kernel
theorem gx267_195 : aF 195 zM267.2.2.2.2.2.2.2 = some (195, (.if_icmp .le 7), 3, 202, 0) := by decide +kernel
theorem gx267_202 : aF 202 zM267.2.2.2.2.2.2.2 = some (202, (.iconst 0), 1, 0, 0) := by decide +kernel
theorem gx267_198 : aF 198 zM267.2.2.2.2.2.2.2 = some (198, (.iconst 1), 1, 0, 0) := by decide +kernel
theorem gx267_199 : aF 199 zM267.2.2.2.2.2.2.2 = some (199, (.goto 4), 3, 203, 0) := by decide +kernel
theorem gx267_153 : aF 153 zM267.2.2.2.2.2.2.2 = some (153, .ireturn, 1, 0, 0) := by decide +kernel
theorem gx267_163 : aF 163 zM267.2.2.2.2.2.2.2 = some (163, (.iconst 0), 1, 0, 0) := by decide +kernel
theorem gx267_164 : aF 164 zM267.2.2.2.2.2.2.2 = some (164, (.goto 6), 3, 170, 0) := by decide +kernel
theorem gx267_170 : aF 170 zM267.2.2.2.2.2.2.2 = some (170, .ireturn, 1, 0, 0) := by decide +kernel
theorem gx267_181 : aF 181 zM267.2.2.2.2.2.2.2 = some (181, .ireturn, 1, 0, 0) := by decide +kernel
theorem gx267_192 : aF 192 zM267.2.2.2.2.2.2.2 = some (192, .ireturn, 1, 0, 0) := by decide +kernel
theorem gx267_203 : aF 203 zM267.2.2.2.2.2.2.2 = some (203, .ireturn, 1, 0, 0) := by decide +kernel
theorem gx267_216 : aF 216 zM267.2.2.2.2.2.2.2 = some (216, (.iconst 0), 1, 0, 0) := by decide +kernel
theorem gx267_217 : aF 217 zM267.2.2.2.2.2.2.2 = some (217, .ireturn, 1, 0, 0) := by decide +kernel
theorem gx267_218 : aF 218 zM267.2.2.2.2.2.2.2 = some (218, (.iload_n 1), 1, 0, 0) := by decide +kernel
theorem gx267_219 : aF 219 zM267.2.2.2.2.2.2.2 = some (219, (.ifCond .ne 7), 3, 226, 0) := by decide +kernel
theorem gx267_222 : aF 222 zM267.2.2.2.2.2.2.2 = some (222, (.iload_n 2), 1, 0, 0) := by decide +kernel
theorem gx267_223 : aF 223 zM267.2.2.2.2.2.2.2 = some (223, (.ifCond .eq 7), 3, 230, 0) := by decide +kernel
theorem gx267_230 : aF 230 zM267.2.2.2.2.2.2.2 = some (230, (.iconst 0), 1, 0, 0) := by decide +kernel
theorem gx267_226 : aF 226 zM267.2.2.2.2.2.2.2 = some (226, (.iconst 1), 1, 0, 0) := by decide +kernel
theorem gx267_227 : aF 227 zM267.2.2.2.2.2.2.2 = some (227, (.goto 4), 3, 231, 0) := by decide +kernel
theorem gx267_231 : aF 231 zM267.2.2.2.2.2.2.2 = some (231, .ireturn, 1, 0, 0) := by decide +kernel
theorem gx268_0 : aF 0 zM268.2.2.2.2.2.2.2 = some (0, (.iconst 0), 1, 0, 0) := by decide +kernel
theorem gx268_1 : aF 1 zM268.2.2.2.2.2.2.2 = some (1, (.istore 4), 2, 0, 0) := by decide +kernel
theorem gx268_3 : aF 3 zM268.2.2.2.2.2.2.2 = some (3, (.sipush 170), 3, 0, 0) := by decide +kernel
theorem gx268_6 : aF 6 zM268.2.2.2.2.2.2.2 = some (6, (.iload_n 1), 1, 0, 0) := by decide +kernel
theorem gx268_7 : aF 7 zM268.2.2.2.2.2.2.2 = some (7, .imul, 1, 0, 0) := by decide +kernel
theorem gx268_8 : aF 8 zM268.2.2.2.2.2.2.2 = some (8, (.iload_n 2), 1, 0, 0) := by decide +kernel
theorem gx268_9 : aF 9 zM268.2.2.2.2.2.2.2 = some (9, .iadd, 1, 0, 0) := by decide +kernel
theorem gx268_10 : aF 10 zM268.2.2.2.2.2.2.2 = some (10, (.istore 5), 2, 0, 0) := by decide +kernel
theorem gx268_12 : aF 12 zM268.2.2.2.2.2.2.2 = some (12, (.iload 5), 2, 0, 0) := by decide +kernel
theorem gx268_14 : aF 14 zM268.2.2.2.2.2.2.2 = some (14, (.sipush 170), 3, 0, 0) := by decide +kernel
theorem gx268_17 : aF 17 zM268.2.2.2.2.2.2.2 = some (17, (.iload_n 1), 1, 0, 0) := by decide +kernel
theorem gx268_18 : aF 18 zM268.2.2.2.2.2.2.2 = some (18, .imul, 1, 0, 0) := by decide +kernel
theorem gx268_19 : aF 19 zM268.2.2.2.2.2.2.2 = some (19, (.iload_n 3), 1, 0, 0) := by decide +kernel
theorem gx268_20 : aF 20 zM268.2.2.2.2.2.2.2 = some (20, .iadd, 1, 0, 0) := by decide +kernel
theorem gx268_21 : aF 21 zM268.2.2.2.2.2.2.2 = some (21, (.if_icmp .ge 167), 3, 188, 0) := by decide +kernel
theorem gx268_188 : aF 188 zM268.2.2.2.2.2.2.2 = some (188, (.aload_n 0), 1, 0, 0) := by decide +kernel
theorem gx268_189 : aF 189 zM268.2.2.2.2.2.2.2 = some (189, (.getfield 179), 3, 12, 70) := by decide +kernel
theorem gx268_192 : aF 192 zM268.2.2.2.2.2.2.2 = some (192, (.iconst 0), 1, 0, 0) := by decide +kernel
theorem gx268_193 : aF 193 zM268.2.2.2.2.2.2.2 = some (193, .iaload, 1, 0, 0) := by decide +kernel
theorem gx268_194 : aF 194 zM268.2.2.2.2.2.2.2 = some (194, .ireturn, 1, 0, 0) := by decide +kernel
theorem gx268_24 : aF 24 zM268.2.2.2.2.2.2.2 = some (24, (.aload_n 0), 1, 0, 0) := by decide +kernel
theorem gx268_25 : aF 25 zM268.2.2.2.2.2.2.2 = some (25, (.getfield 170), 3, 12, 62) := by decide +kernel
theorem gx268_28 : aF 28 zM268.2.2.2.2.2.2.2 = some (28, (.iload 5), 2, 0, 0) := by decide +kernel
theorem gx268_30 : aF 30 zM268.2.2.2.2.2.2.2 = some (30, .iaload, 1, 0, 0) := by decide +kernel
theorem gx268_31 : aF 31 zM268.2.2.2.2.2.2.2 = some (31, (.istore 6), 2, 0, 0) := by decide +kernel
theorem gx268_33 : aF 33 zM268.2.2.2.2.2.2.2 = some (33, (.iload 6), 2, 0, 0) := by decide +kernel
theorem gx268_35 : aF 35 zM268.2.2.2.2.2.2.2 = some (35, (.iconst 1), 1, 0, 0) := by decide +kernel
theorem gx268_36 : aF 36 zM268.2.2.2.2.2.2.2 = some (36, (.if_icmp .eq 9), 3, 45, 0) := by decide +kernel
theorem gx268_39 : aF 39 zM268.2.2.2.2.2.2.2 = some (39, (.iload 6), 2, 0, 0) := by decide +kernel
theorem gx268_41 : aF 41 zM268.2.2.2.2.2.2.2 = some (41, (.iconst 2), 1, 0, 0) := by decide +kernel
theorem gx268_42 : aF 42 zM268.2.2.2.2.2.2.2 = some (42, (.if_icmp .ne 44), 3, 86, 0) := by decide +kernel
theorem gx268_86 : aF 86 zM268.2.2.2.2.2.2.2 = some (86, (.iload 6), 2, 0, 0) := by decide +kernel
theorem gx268_88 : aF 88 zM268.2.2.2.2.2.2.2 = some (88, (.iconst 3), 1, 0, 0) := by decide +kernel
theorem gx268_89 : aF 89 zM268.2.2.2.2.2.2.2 = some (89, (.if_icmp .ne 32), 3, 121, 0) := by decide +kernel
theorem gx268_121 : aF 121 zM268.2.2.2.2.2.2.2 = some (121, (.iload 6), 2, 0, 0) := by decide +kernel
theorem gx268_123 : aF 123 zM268.2.2.2.2.2.2.2 = some (123, (.iconst 4), 1, 0, 0) := by decide +kernel
theorem gx268_124 : aF 124 zM268.2.2.2.2.2.2.2 = some (124, (.if_icmp .ne 25), 3, 149, 0) := by decide +kernel
theorem gx268_149 : aF 149 zM268.2.2.2.2.2.2.2 = some (149, (.iinc 4 (-1)), 3, 0, 0) := by decide +kernel
theorem gx268_152 : aF 152 zM268.2.2.2.2.2.2.2 = some (152, (.aload_n 0), 1, 0, 0) := by decide +kernel
theorem gx268_153 : aF 153 zM268.2.2.2.2.2.2.2 = some (153, (.getfield 179), 3, 12, 70) := by decide +kernel
theorem gx268_156 : aF 156 zM268.2.2.2.2.2.2.2 = some (156, (.iload 4), 2, 0, 0) := by decide +kernel
theorem gx268_158 : aF 158 zM268.2.2.2.2.2.2.2 = some (158, (.iconst 1), 1, 0, 0) := by decide +kernel
theorem gx268_159 : aF 159 zM268.2.2.2.2.2.2.2 = some (159, .isub, 1, 0, 0) := by decide +kernel
theorem gx268_160 : aF 160 zM268.2.2.2.2.2.2.2 = some (160, (.iload 6), 2, 0, 0) := by decide +kernel
theorem gx268_162 : aF 162 zM268.2.2.2.2.2.2.2 = some (162, (.aload_n 0), 1, 0, 0) := by decide +kernel
theorem gx268_163 : aF 163 zM268.2.2.2.2.2.2.2 = some (163, (.getfield 179), 3, 12, 70) := by decide +kernel
theorem gx268_166 : aF 166 zM268.2.2.2.2.2.2.2 = some (166, (.iload 4), 2, 0, 0) := by decide +kernel
theorem gx268_168 : aF 168 zM268.2.2.2.2.2.2.2 = some (168, (.iconst 1), 1, 0, 0) := by decide +kernel
theorem gx268_169 : aF 169 zM268.2.2.2.2.2.2.2 = some (169, .isub, 1, 0, 0) := by decide +kernel
theorem gx268_170 : aF 170 zM268.2.2.2.2.2.2.2 = some (170, .iaload, 1, 0, 0) := by decide +kernel
theorem gx268_171 : aF 171 zM268.2.2.2.2.2.2.2 = some (171, (.aload_n 0), 1, 0, 0) := by decide +kernel
theorem gx268_172 : aF 172 zM268.2.2.2.2.2.2.2 = some (172, (.getfield 179), 3, 12, 70) := by decide +kernel
theorem gx268_175 : aF 175 zM268.2.2.2.2.2.2.2 = some (175, (.iload 4), 2, 0, 0) := by decide +kernel
theorem gx268_177 : aF 177 zM268.2.2.2.2.2.2.2 = some (177, .iaload, 1, 0, 0) := by decide +kernel
theorem gx268_178 : aF 178 zM268.2.2.2.2.2.2.2 = some (178, (.invokestatic 454), 3, 267, 0) := by decide +kernel
theorem gx268_181 : aF 181 zM268.2.2.2.2.2.2.2 = some (181, .iastore, 1, 0, 0) := by decide +kernel
theorem gx268_127 : aF 127 zM268.2.2.2.2.2.2.2 = some (127, (.aload_n 0), 1, 0, 0) := by decide +kernel
theorem gx268_128 : aF 128 zM268.2.2.2.2.2.2.2 = some (128, (.getfield 179), 3, 12, 70) := by decide +kernel
theorem gx268_131 : aF 131 zM268.2.2.2.2.2.2.2 = some (131, (.iload 4), 2, 0, 0) := by decide +kernel
theorem gx268_133 : aF 133 zM268.2.2.2.2.2.2.2 = some (133, (.iconst 1), 1, 0, 0) := by decide +kernel
theorem gx268_134 : aF 134 zM268.2.2.2.2.2.2.2 = some (134, .isub, 1, 0, 0) := by decide +kernel
theorem gx268_135 : aF 135 zM268.2.2.2.2.2.2.2 = some (135, (.aload_n 0), 1, 0, 0) := by decide +kernel
theorem gx268_136 : aF 136 zM268.2.2.2.2.2.2.2 = some (136, (.getfield 179), 3, 12, 70) := by decide +kernel
theorem gx268_139 : aF 139 zM268.2.2.2.2.2.2.2 = some (139, (.iload 4), 2, 0, 0) := by decide +kernel
theorem gx268_141 : aF 141 zM268.2.2.2.2.2.2.2 = some (141, (.iconst 1), 1, 0, 0) := by decide +kernel
theorem gx268_142 : aF 142 zM268.2.2.2.2.2.2.2 = some (142, .isub, 1, 0, 0) := by decide +kernel
theorem gx268_143 : aF 143 zM268.2.2.2.2.2.2.2 = some (143, .iaload, 1, 0, 0) := by decide +kernel
theorem gx268_144 : aF 144 zM268.2.2.2.2.2.2.2 = some (144, .ineg, 1, 0, 0) := by decide +kernel
theorem gx268_145 : aF 145 zM268.2.2.2.2.2.2.2 = some (145, .iastore, 1, 0, 0) := by decide +kernel
theorem gx268_146 : aF 146 zM268.2.2.2.2.2.2.2 = some (146, (.goto 36), 3, 182, 0) := by decide +kernel
theorem gx268_92 : aF 92 zM268.2.2.2.2.2.2.2 = some (92, (.aload_n 0), 1, 0, 0) := by decide +kernel
theorem gx268_93 : aF 93 zM268.2.2.2.2.2.2.2 = some (93, (.getfield 179), 3, 12, 70) := by decide +kernel
theorem gx268_96 : aF 96 zM268.2.2.2.2.2.2.2 = some (96, (.iload 4), 2, 0, 0) := by decide +kernel
theorem gx268_98 : aF 98 zM268.2.2.2.2.2.2.2 = some (98, (.iconst 1), 1, 0, 0) := by decide +kernel
theorem gx268_99 : aF 99 zM268.2.2.2.2.2.2.2 = some (99, .isub, 1, 0, 0) := by decide +kernel
theorem gx268_100 : aF 100 zM268.2.2.2.2.2.2.2 = some (100, (.aload_n 0), 1, 0, 0) := by decide +kernel
theorem gx268_101 : aF 101 zM268.2.2.2.2.2.2.2 = some (101, (.getfield 179), 3, 12, 70) := by decide +kernel
theorem gx268_104 : aF 104 zM268.2.2.2.2.2.2.2 = some (104, (.iload 4), 2, 0, 0) := by decide +kernel
theorem gx268_106 : aF 106 zM268.2.2.2.2.2.2.2 = some (106, (.iconst 1), 1, 0, 0) := by decide +kernel
theorem gx268_107 : aF 107 zM268.2.2.2.2.2.2.2 = some (107, .isub, 1, 0, 0) := by decide +kernel
theorem gx268_108 : aF 108 zM268.2.2.2.2.2.2.2 = some (108, .iaload, 1, 0, 0) := by decide +kernel
theorem gx268_109 : aF 109 zM268.2.2.2.2.2.2.2 = some (109, (.ifCond .ne 7), 3, 116, 0) := by decide +kernel
theorem gx268_116 : aF 116 zM268.2.2.2.2.2.2.2 = some (116, (.iconst 0), 1, 0, 0) := by decide +kernel
theorem gx268_112 : aF 112 zM268.2.2.2.2.2.2.2 = some (112, (.iconst 1), 1, 0, 0) := by decide +kernel
theorem gx268_113 : aF 113 zM268.2.2.2.2.2.2.2 = some (113, (.goto 4), 3, 117, 0) := by decide +kernel
theorem gx268_45 : aF 45 zM268.2.2.2.2.2.2.2 = some (45, (.aload_n 0), 1, 0, 0) := by decide +kernel
theorem gx268_46 : aF 46 zM268.2.2.2.2.2.2.2 = some (46, (.getfield 179), 3, 12, 70) := by decide +kernel
theorem gx268_49 : aF 49 zM268.2.2.2.2.2.2.2 = some (49, (.iload 4), 2, 0, 0) := by decide +kernel
theorem gx268_51 : aF 51 zM268.2.2.2.2.2.2.2 = some (51, (.iload 6), 2, 0, 0) := by decide +kernel
theorem gx268_53 : aF 53 zM268.2.2.2.2.2.2.2 = some (53, (.iconst 1), 1, 0, 0) := by decide +kernel
theorem gx268_54 : aF 54 zM268.2.2.2.2.2.2.2 = some (54, (.if_icmp .ne 13), 3, 67, 0) := by decide +kernel
theorem gx268_67 : aF 67 zM268.2.2.2.2.2.2.2 = some (67, (.aload_n 0), 1, 0, 0) := by decide +kernel
theorem gx268_68 : aF 68 zM268.2.2.2.2.2.2.2 = some (68, (.getfield 176), 3, 12, 69) := by decide +kernel
theorem gx268_71 : aF 71 zM268.2.2.2.2.2.2.2 = some (71, (.aload_n 0), 1, 0, 0) := by decide +kernel
theorem gx268_72 : aF 72 zM268.2.2.2.2.2.2.2 = some (72, (.getfield 173), 3, 12, 63) := by decide +kernel
theorem gx268_75 : aF 75 zM268.2.2.2.2.2.2.2 = some (75, (.iload 5), 2, 0, 0) := by decide +kernel
theorem gx268_77 : aF 77 zM268.2.2.2.2.2.2.2 = some (77, .iaload, 1, 0, 0) := by decide +kernel
theorem gx268_78 : aF 78 zM268.2.2.2.2.2.2.2 = some (78, .iaload, 1, 0, 0) := by decide +kernel
theorem gx268_57 : aF 57 zM268.2.2.2.2.2.2.2 = some (57, (.aload_n 0), 1, 0, 0) := by decide +kernel
theorem gx268_58 : aF 58 zM268.2.2.2.2.2.2.2 = some (58, (.getfield 173), 3, 12, 63) := by decide +kernel
theorem gx268_61 : aF 61 zM268.2.2.2.2.2.2.2 = some (61, (.iload 5), 2, 0, 0) := by decide +kernel
theorem gx268_63 : aF 63 zM268.2.2.2.2.2.2.2 = some (63, .iaload, 1, 0, 0) := by decide +kernel
theorem gx268_64 : aF 64 zM268.2.2.2.2.2.2.2 = some (64, (.goto 15), 3, 79, 0) := by decide +kernel
theorem gx268_79 : aF 79 zM268.2.2.2.2.2.2.2 = some (79, .iastore, 1, 0, 0) := by decide +kernel
theorem gx268_80 : aF 80 zM268.2.2.2.2.2.2.2 = some (80, (.iinc 4 1), 3, 0, 0) := by decide +kernel
theorem gx268_83 : aF 83 zM268.2.2.2.2.2.2.2 = some (83, (.goto 99), 3, 182, 0) := by decide +kernel
theorem gx268_117 : aF 117 zM268.2.2.2.2.2.2.2 = some (117, .iastore, 1, 0, 0) := by decide +kernel
theorem gx268_118 : aF 118 zM268.2.2.2.2.2.2.2 = some (118, (.goto 64), 3, 182, 0) := by decide +kernel
theorem gx268_182 : aF 182 zM268.2.2.2.2.2.2.2 = some (182, (.iinc 5 1), 3, 0, 0) := by decide +kernel
theorem gx268_185 : aF 185 zM268.2.2.2.2.2.2.2 = some (185, (.goto (-173)), 3, 12, 0) := by decide +kernel
theorem gx269_0 : aF 0 zM269.2.2.2.2.2.2.2 = some (0, (.iconst 0), 1, 0, 0) := by decide +kernel
theorem gx269_1 : aF 1 zM269.2.2.2.2.2.2.2 = some (1, (.istore_n 2), 1, 0, 0) := by decide +kernel
theorem gx269_2 : aF 2 zM269.2.2.2.2.2.2.2 = some (2, (.iconst 0), 1, 0, 0) := by decide +kernel
theorem gx269_3 : aF 3 zM269.2.2.2.2.2.2.2 = some (3, (.istore_n 3), 1, 0, 0) := by decide +kernel
theorem gx269_4 : aF 4 zM269.2.2.2.2.2.2.2 = some (4, (.iload_n 3), 1, 0, 0) := by decide +kernel
theorem gx269_5 : aF 5 zM269.2.2.2.2.2.2.2 = some (5, (.aload_n 0), 1, 0, 0) := by decide +kernel
theorem gx269_6 : aF 6 zM269.2.2.2.2.2.2.2 = some (6, (.getfield 161), 3, 12, 59) := by decide +kernel
theorem gx269_9 : aF 9 zM269.2.2.2.2.2.2.2 = some (9, (.iload_n 1), 1, 0, 0) := by decide +kernel
theorem gx269_10 : aF 10 zM269.2.2.2.2.2.2.2 = some (10, .iaload, 1, 0, 0) := by decide +kernel
theorem gx269_11 : aF 11 zM269.2.2.2.2.2.2.2 = some (11, (.if_icmp .ge 77), 3, 88, 0) := by decide +kernel
theorem gx269_88 : aF 88 zM269.2.2.2.2.2.2.2 = some (88, (.aload_n 0), 1, 0, 0) := by decide +kernel
theorem gx269_89 : aF 89 zM269.2.2.2.2.2.2.2 = some (89, (.iconst (-1)), 1, 0, 0) := by decide +kernel
theorem gx269_90 : aF 90 zM269.2.2.2.2.2.2.2 = some (90, (.putfield 460), 3, 12, 71) := by decide +kernel
theorem gx269_93 : aF 93 zM269.2.2.2.2.2.2.2 = some (93, (.iconst 0), 1, 0, 0) := by decide +kernel
theorem gx269_94 : aF 94 zM269.2.2.2.2.2.2.2 = some (94, .ireturn, 1, 0, 0) := by decide +kernel
theorem gx269_14 : aF 14 zM269.2.2.2.2.2.2.2 = some (14, (.bipush 90), 2, 0, 0) := by decide +kernel
theorem gx269_16 : aF 16 zM269.2.2.2.2.2.2.2 = some (16, (.iload_n 1), 1, 0, 0) := by decide +kernel
theorem gx269_17 : aF 17 zM269.2.2.2.2.2.2.2 = some (17, .imul, 1, 0, 0) := by decide +kernel
theorem gx269_18 : aF 18 zM269.2.2.2.2.2.2.2 = some (18, (.iload_n 3), 1, 0, 0) := by decide +kernel
theorem gx269_19 : aF 19 zM269.2.2.2.2.2.2.2 = some (19, .iadd, 1, 0, 0) := by decide +kernel
theorem gx269_20 : aF 20 zM269.2.2.2.2.2.2.2 = some (20, (.istore 4), 2, 0, 0) := by decide +kernel
theorem gx269_22 : aF 22 zM269.2.2.2.2.2.2.2 = some (22, (.aload_n 0), 1, 0, 0) := by decide +kernel
theorem gx269_23 : aF 23 zM269.2.2.2.2.2.2.2 = some (23, (.getfield 164), 3, 12, 60) := by decide +kernel
theorem gx269_26 : aF 26 zM269.2.2.2.2.2.2.2 = some (26, (.iload 4), 2, 0, 0) := by decide +kernel
theorem gx269_28 : aF 28 zM269.2.2.2.2.2.2.2 = some (28, .iaload, 1, 0, 0) := by decide +kernel
theorem gx269_29 : aF 29 zM269.2.2.2.2.2.2.2 = some (29, (.iload_n 2), 1, 0, 0) := by decide +kernel
theorem gx269_30 : aF 30 zM269.2.2.2.2.2.2.2 = some (30, (.if_icmp .eq 19), 3, 49, 0) := by decide +kernel
theorem gx269_49 : aF 49 zM269.2.2.2.2.2.2.2 = some (49, (.aload_n 0), 1, 0, 0) := by decide +kernel
theorem gx269_50 : aF 50 zM269.2.2.2.2.2.2.2 = some (50, (.iload_n 3), 1, 0, 0) := by decide +kernel
theorem gx269_51 : aF 51 zM269.2.2.2.2.2.2.2 = some (51, (.putfield 460), 3, 12, 71) := by decide +kernel
theorem gx269_54 : aF 54 zM269.2.2.2.2.2.2.2 = some (54, (.aload_n 0), 1, 0, 0) := by decide +kernel
theorem gx269_55 : aF 55 zM269.2.2.2.2.2.2.2 = some (55, (.iload_n 1), 1, 0, 0) := by decide +kernel
theorem gx269_56 : aF 56 zM269.2.2.2.2.2.2.2 = some (56, (.aload_n 0), 1, 0, 0) := by decide +kernel
theorem gx269_57 : aF 57 zM269.2.2.2.2.2.2.2 = some (57, (.getfield 164), 3, 12, 60) := by decide +kernel
theorem gx269_60 : aF 60 zM269.2.2.2.2.2.2.2 = some (60, (.iload 4), 2, 0, 0) := by decide +kernel
theorem gx269_62 : aF 62 zM269.2.2.2.2.2.2.2 = some (62, .iaload, 1, 0, 0) := by decide +kernel
theorem gx269_63 : aF 63 zM269.2.2.2.2.2.2.2 = some (63, (.aload_n 0), 1, 0, 0) := by decide +kernel
theorem gx269_64 : aF 64 zM269.2.2.2.2.2.2.2 = some (64, (.getfield 167), 3, 12, 61) := by decide +kernel
theorem gx269_67 : aF 67 zM269.2.2.2.2.2.2.2 = some (67, (.iload 4), 2, 0, 0) := by decide +kernel
theorem gx269_69 : aF 69 zM269.2.2.2.2.2.2.2 = some (69, .iaload, 1, 0, 0) := by decide +kernel
theorem gx269_70 : aF 70 zM269.2.2.2.2.2.2.2 = some (70, (.invokevirtual 457), 3, 268, 0) := by decide +kernel
theorem gx269_73 : aF 73 zM269.2.2.2.2.2.2.2 = some (73, .ireturn, 1, 0, 0) := by decide +kernel
theorem gx269_33 : aF 33 zM269.2.2.2.2.2.2.2 = some (33, (.aload_n 0), 1, 0, 0) := by decide +kernel
theorem gx269_34 : aF 34 zM269.2.2.2.2.2.2.2 = some (34, (.iload_n 1), 1, 0, 0) := by decide +kernel
theorem gx269_35 : aF 35 zM269.2.2.2.2.2.2.2 = some (35, (.iload_n 2), 1, 0, 0) := by decide +kernel
theorem gx269_36 : aF 36 zM269.2.2.2.2.2.2.2 = some (36, (.aload_n 0), 1, 0, 0) := by decide +kernel
theorem gx269_37 : aF 37 zM269.2.2.2.2.2.2.2 = some (37, (.getfield 164), 3, 12, 60) := by decide +kernel
theorem gx269_40 : aF 40 zM269.2.2.2.2.2.2.2 = some (40, (.iload 4), 2, 0, 0) := by decide +kernel
theorem gx269_42 : aF 42 zM269.2.2.2.2.2.2.2 = some (42, .iaload, 1, 0, 0) := by decide +kernel
theorem gx269_43 : aF 43 zM269.2.2.2.2.2.2.2 = some (43, (.invokevirtual 457), 3, 268, 0) := by decide +kernel
theorem gx269_46 : aF 46 zM269.2.2.2.2.2.2.2 = some (46, (.ifCond .eq 28), 3, 74, 0) := by decide +kernel
theorem gx269_74 : aF 74 zM269.2.2.2.2.2.2.2 = some (74, (.aload_n 0), 1, 0, 0) := by decide +kernel
theorem gx269_75 : aF 75 zM269.2.2.2.2.2.2.2 = some (75, (.getfield 167), 3, 12, 61) := by decide +kernel
theorem gx269_78 : aF 78 zM269.2.2.2.2.2.2.2 = some (78, (.iload 4), 2, 0, 0) := by decide +kernel
theorem gx269_80 : aF 80 zM269.2.2.2.2.2.2.2 = some (80, .iaload, 1, 0, 0) := by decide +kernel
theorem gx269_81 : aF 81 zM269.2.2.2.2.2.2.2 = some (81, (.istore_n 2), 1, 0, 0) := by decide +kernel
theorem gx269_82 : aF 82 zM269.2.2.2.2.2.2.2 = some (82, (.iinc 3 1), 3, 0, 0) := by decide +kernel
theorem gx269_85 : aF 85 zM269.2.2.2.2.2.2.2 = some (85, (.goto (-81)), 3, 4, 0) := by decide +kernel
theorem gx270_0 : aF 0 zM270.2.2.2.2.2.2.2 = some (0, (.iconst 0), 1, 0, 0) := by decide +kernel
theorem gx270_1 : aF 1 zM270.2.2.2.2.2.2.2 = some (1, (.istore 4), 2, 0, 0) := by decide +kernel
theorem gx270_3 : aF 3 zM270.2.2.2.2.2.2.2 = some (3, (.iconst 0), 1, 0, 0) := by decide +kernel
theorem gx270_4 : aF 4 zM270.2.2.2.2.2.2.2 = some (4, (.istore 5), 2, 0, 0) := by decide +kernel
theorem gx270_6 : aF 6 zM270.2.2.2.2.2.2.2 = some (6, (.iload 5), 2, 0, 0) := by decide +kernel
theorem gx270_8 : aF 8 zM270.2.2.2.2.2.2.2 = some (8, (.aload_n 0), 1, 0, 0) := by decide +kernel
theorem gx270_9 : aF 9 zM270.2.2.2.2.2.2.2 = some (9, (.getfield 336), 3, 12, 19) := by decide +kernel
theorem gx270_12 : aF 12 zM270.2.2.2.2.2.2.2 = some (12, (.if_icmp .ge 66), 3, 78, 0) := by decide +kernel
theorem gx270_78 : aF 78 zM270.2.2.2.2.2.2.2 = some (78, (.iload 4), 2, 0, 0) := by decide +kernel
theorem gx270_80 : aF 80 zM270.2.2.2.2.2.2.2 = some (80, .ireturn, 1, 0, 0) := by decide +kernel
theorem gx270_15 : aF 15 zM270.2.2.2.2.2.2.2 = some (15, (.aload_n 0), 1, 0, 0) := by decide +kernel
theorem gx270_16 : aF 16 zM270.2.2.2.2.2.2.2 = some (16, (.getfield 108), 3, 12, 40) := by decide +kernel
theorem gx270_19 : aF 19 zM270.2.2.2.2.2.2.2 = some (19, (.iload 5), 2, 0, 0) := by decide +kernel
theorem gx270_21 : aF 21 zM270.2.2.2.2.2.2.2 = some (21, .baload, 1, 0, 0) := by decide +kernel
theorem gx270_22 : aF 22 zM270.2.2.2.2.2.2.2 = some (22, (.ifCond .eq 50), 3, 72, 0) := by decide +kernel
theorem gx270_72 : aF 72 zM270.2.2.2.2.2.2.2 = some (72, (.iinc 5 1), 3, 0, 0) := by decide +kernel
theorem gx270_75 : aF 75 zM270.2.2.2.2.2.2.2 = some (75, (.goto (-69)), 3, 6, 0) := by decide +kernel
theorem gx270_25 : aF 25 zM270.2.2.2.2.2.2.2 = some (25, (.aload_n 0), 1, 0, 0) := by decide +kernel
theorem gx270_26 : aF 26 zM270.2.2.2.2.2.2.2 = some (26, (.getfield 52), 3, 12, 20) := by decide +kernel
theorem gx270_29 : aF 29 zM270.2.2.2.2.2.2.2 = some (29, (.iload 5), 2, 0, 0) := by decide +kernel
theorem gx270_31 : aF 31 zM270.2.2.2.2.2.2.2 = some (31, .iaload, 1, 0, 0) := by decide +kernel
theorem gx270_32 : aF 32 zM270.2.2.2.2.2.2.2 = some (32, (.iload_n 1), 1, 0, 0) := by decide +kernel
theorem gx270_33 : aF 33 zM270.2.2.2.2.2.2.2 = some (33, (.if_icmp .ne 39), 3, 72, 0) := by decide +kernel
theorem gx270_36 : aF 36 zM270.2.2.2.2.2.2.2 = some (36, (.aload_n 0), 1, 0, 0) := by decide +kernel
theorem gx270_37 : aF 37 zM270.2.2.2.2.2.2.2 = some (37, (.iload 5), 2, 0, 0) := by decide +kernel
theorem gx270_39 : aF 39 zM270.2.2.2.2.2.2.2 = some (39, (.invokevirtual 342), 3, 229, 0) := by decide +kernel
theorem gx270_42 : aF 42 zM270.2.2.2.2.2.2.2 = some (42, (.iload_n 2), 1, 0, 0) := by decide +kernel
theorem gx270_43 : aF 43 zM270.2.2.2.2.2.2.2 = some (43, (.if_icmp .ne 29), 3, 72, 0) := by decide +kernel
theorem gx270_46 : aF 46 zM270.2.2.2.2.2.2.2 = some (46, (.iload 4), 2, 0, 0) := by decide +kernel
theorem gx270_48 : aF 48 zM270.2.2.2.2.2.2.2 = some (48, (.iload_n 3), 1, 0, 0) := by decide +kernel
theorem gx270_49 : aF 49 zM270.2.2.2.2.2.2.2 = some (49, (.ifCond .eq 13), 3, 62, 0) := by decide +kernel
theorem gx270_62 : aF 62 zM270.2.2.2.2.2.2.2 = some (62, (.aload_n 0), 1, 0, 0) := by decide +kernel
theorem gx270_63 : aF 63 zM270.2.2.2.2.2.2.2 = some (63, (.getfield 112), 3, 12, 41) := by decide +kernel
theorem gx270_66 : aF 66 zM270.2.2.2.2.2.2.2 = some (66, (.iload 5), 2, 0, 0) := by decide +kernel
theorem gx270_68 : aF 68 zM270.2.2.2.2.2.2.2 = some (68, .iaload, 1, 0, 0) := by decide +kernel
theorem gx270_69 : aF 69 zM270.2.2.2.2.2.2.2 = some (69, .iadd, 1, 0, 0) := by decide +kernel
theorem gx270_70 : aF 70 zM270.2.2.2.2.2.2.2 = some (70, (.istore 4), 2, 0, 0) := by decide +kernel
theorem gx270_52 : aF 52 zM270.2.2.2.2.2.2.2 = some (52, (.aload_n 0), 1, 0, 0) := by decide +kernel
theorem gx270_53 : aF 53 zM270.2.2.2.2.2.2.2 = some (53, (.getfield 115), 3, 12, 42) := by decide +kernel
theorem gx270_56 : aF 56 zM270.2.2.2.2.2.2.2 = some (56, (.iload 5), 2, 0, 0) := by decide +kernel
theorem gx270_58 : aF 58 zM270.2.2.2.2.2.2.2 = some (58, .iaload, 1, 0, 0) := by decide +kernel
theorem gx270_59 : aF 59 zM270.2.2.2.2.2.2.2 = some (59, (.goto 10), 3, 69, 0) := by decide +kernel
theorem gx271_0 : aF 0 zM271.2.2.2.2.2.2.2 = some (0, (.aload_n 0), 1, 0, 0) := by decide +kernel
theorem gx271_1 : aF 1 zM271.2.2.2.2.2.2.2 = some (1, (.iload_n 1), 1, 0, 0) := by decide +kernel
theorem gx271_2 : aF 2 zM271.2.2.2.2.2.2.2 = some (2, (.iload_n 2), 1, 0, 0) := by decide +kernel
theorem gx271_3 : aF 3 zM271.2.2.2.2.2.2.2 = some (3, (.iconst 0), 1, 0, 0) := by decide +kernel
theorem gx271_4 : aF 4 zM271.2.2.2.2.2.2.2 = some (4, (.invokevirtual 463), 3, 270, 0) := by decide +kernel
theorem gx271_7 : aF 7 zM271.2.2.2.2.2.2.2 = some (7, (.istore_n 3), 1, 0, 0) := by decide +kernel
theorem gx271_8 : aF 8 zM271.2.2.2.2.2.2.2 = some (8, (.aload_n 0), 1, 0, 0) := by decide +kernel
theorem gx271_9 : aF 9 zM271.2.2.2.2.2.2.2 = some (9, (.iload_n 1), 1, 0, 0) := by decide +kernel
theorem gx271_10 : aF 10 zM271.2.2.2.2.2.2.2 = some (10, (.iload_n 2), 1, 0, 0) := by decide +kernel
theorem gx271_11 : aF 11 zM271.2.2.2.2.2.2.2 = some (11, (.iconst 1), 1, 0, 0) := by decide +kernel
theorem gx271_12 : aF 12 zM271.2.2.2.2.2.2.2 = some (12, (.invokevirtual 463), 3, 270, 0) := by decide +kernel
theorem gx271_15 : aF 15 zM271.2.2.2.2.2.2.2 = some (15, (.istore 4), 2, 0, 0) := by decide +kernel
theorem gx271_17 : aF 17 zM271.2.2.2.2.2.2.2 = some (17, (.iload 4), 2, 0, 0) := by decide +kernel
theorem gx271_19 : aF 19 zM271.2.2.2.2.2.2.2 = some (19, (.ifCond .ne 15), 3, 34, 0) := by decide +kernel
theorem gx271_34 : aF 34 zM271.2.2.2.2.2.2.2 = some (34, (.sipush 999), 3, 0, 0) := by decide +kernel
theorem gx271_37 : aF 37 zM271.2.2.2.2.2.2.2 = some (37, (.bipush 100), 2, 0, 0) := by decide +kernel
theorem gx271_39 : aF 39 zM271.2.2.2.2.2.2.2 = some (39, (.iload_n 3), 1, 0, 0) := by decide +kernel
theorem gx271_40 : aF 40 zM271.2.2.2.2.2.2.2 = some (40, (.iload 4), 2, 0, 0) := by decide +kernel
theorem gx271_42 : aF 42 zM271.2.2.2.2.2.2.2 = some (42, .isub, 1, 0, 0) := by decide +kernel
theorem gx271_43 : aF 43 zM271.2.2.2.2.2.2.2 = some (43, .imul, 1, 0, 0) := by decide +kernel
theorem gx271_44 : aF 44 zM271.2.2.2.2.2.2.2 = some (44, (.iload 4), 2, 0, 0) := by decide +kernel
theorem gx271_46 : aF 46 zM271.2.2.2.2.2.2.2 = some (46, .idiv, 1, 0, 0) := by decide +kernel
theorem gx271_47 : aF 47 zM271.2.2.2.2.2.2.2 = some (47, (.invokestatic 289), 3, 211, 0) := by decide +kernel
theorem gx271_50 : aF 50 zM271.2.2.2.2.2.2.2 = some (50, .ireturn, 1, 0, 0) := by decide +kernel
theorem gx271_22 : aF 22 zM271.2.2.2.2.2.2.2 = some (22, (.iload_n 3), 1, 0, 0) := by decide +kernel
theorem gx271_23 : aF 23 zM271.2.2.2.2.2.2.2 = some (23, (.ifCond .ne 7), 3, 30, 0) := by decide +kernel
theorem gx271_30 : aF 30 zM271.2.2.2.2.2.2.2 = some (30, (.sipush 999), 3, 0, 0) := by decide +kernel
theorem gx271_33 : aF 33 zM271.2.2.2.2.2.2.2 = some (33, .ireturn, 1, 0, 0) := by decide +kernel
theorem gx271_26 : aF 26 zM271.2.2.2.2.2.2.2 = some (26, (.iconst 0), 1, 0, 0) := by decide +kernel
theorem gx271_27 : aF 27 zM271.2.2.2.2.2.2.2 = some (27, (.goto 6), 3, 33, 0) := by decide +kernel
theorem gx273_0 : aF 0 zM273.2.2.2.2.2.2.2 = some (0, (.aload_n 0), 1, 0, 0) := by decide +kernel
theorem gx273_1 : aF 1 zM273.2.2.2.2.2.2.2 = some (1, (.getfield 133), 3, 12, 48) := by decide +kernel
theorem gx273_4 : aF 4 zM273.2.2.2.2.2.2.2 = some (4, (.bipush 10), 2, 0, 0) := by decide +kernel
theorem gx273_6 : aF 6 zM273.2.2.2.2.2.2.2 = some (6, (.iload_n 1), 1, 0, 0) := by decide +kernel
theorem gx273_7 : aF 7 zM273.2.2.2.2.2.2.2 = some (7, .imul, 1, 0, 0) := by decide +kernel
theorem gx273_8 : aF 8 zM273.2.2.2.2.2.2.2 = some (8, (.iload_n 2), 1, 0, 0) := by decide +kernel
theorem gx273_9 : aF 9 zM273.2.2.2.2.2.2.2 = some (9, .iadd, 1, 0, 0) := by decide +kernel
theorem gx273_10 : aF 10 zM273.2.2.2.2.2.2.2 = some (10, .iaload, 1, 0, 0) := by decide +kernel
theorem gx273_11 : aF 11 zM273.2.2.2.2.2.2.2 = some (11, (.ifCond .le 24), 3, 35, 0) := by decide +kernel
theorem gx273_35 : aF 35 zM273.2.2.2.2.2.2.2 = some (35, (.iconst 0), 1, 0, 0) := by decide +kernel
theorem gx273_36 : aF 36 zM273.2.2.2.2.2.2.2 = some (36, .ireturn, 1, 0, 0) := by decide +kernel
theorem gx273_14 : aF 14 zM273.2.2.2.2.2.2.2 = some (14, (.aload_n 0), 1, 0, 0) := by decide +kernel
theorem gx273_15 : aF 15 zM273.2.2.2.2.2.2.2 = some (15, (.getfield 133), 3, 12, 48) := by decide +kernel
theorem gx273_18 : aF 18 zM273.2.2.2.2.2.2.2 = some (18, (.bipush 10), 2, 0, 0) := by decide +kernel
theorem gx273_20 : aF 20 zM273.2.2.2.2.2.2.2 = some (20, (.iload_n 1), 1, 0, 0) := by decide +kernel
theorem gx273_21 : aF 21 zM273.2.2.2.2.2.2.2 = some (21, .imul, 1, 0, 0) := by decide +kernel
theorem gx273_22 : aF 22 zM273.2.2.2.2.2.2.2 = some (22, (.iload_n 2), 1, 0, 0) := by decide +kernel
theorem gx273_23 : aF 23 zM273.2.2.2.2.2.2.2 = some (23, .iadd, 1, 0, 0) := by decide +kernel
theorem gx273_24 : aF 24 zM273.2.2.2.2.2.2.2 = some (24, .iaload, 1, 0, 0) := by decide +kernel
theorem gx273_25 : aF 25 zM273.2.2.2.2.2.2.2 = some (25, (.iconst 1), 1, 0, 0) := by decide +kernel
theorem gx273_26 : aF 26 zM273.2.2.2.2.2.2.2 = some (26, .isub, 1, 0, 0) := by decide +kernel
theorem gx273_27 : aF 27 zM273.2.2.2.2.2.2.2 = some (27, (.iload_n 3), 1, 0, 0) := by decide +kernel
theorem gx273_28 : aF 28 zM273.2.2.2.2.2.2.2 = some (28, (.if_icmp .gt 7), 3, 35, 0) := by decide +kernel
theorem gx273_31 : aF 31 zM273.2.2.2.2.2.2.2 = some (31, (.iconst 1), 1, 0, 0) := by decide +kernel
theorem gx273_32 : aF 32 zM273.2.2.2.2.2.2.2 = some (32, (.goto 4), 3, 36, 0) := by decide +kernel
theorem gx272_0 : aF 0 zM272.2.2.2.2.2.2.2 = some (0, (.aload_n 0), 1, 0, 0) := by decide +kernel
theorem gx272_1 : aF 1 zM272.2.2.2.2.2.2.2 = some (1, (.iload_n 3), 1, 0, 0) := by decide +kernel
theorem gx272_2 : aF 2 zM272.2.2.2.2.2.2.2 = some (2, (.invokevirtual 368), 3, 239, 0) := by decide +kernel
theorem gx272_5 : aF 5 zM272.2.2.2.2.2.2.2 = some (5, (.aload_n 0), 1, 0, 0) := by decide +kernel
theorem gx272_6 : aF 6 zM272.2.2.2.2.2.2.2 = some (6, (.iload_n 1), 1, 0, 0) := by decide +kernel
theorem gx272_7 : aF 7 zM272.2.2.2.2.2.2.2 = some (7, (.iload_n 2), 1, 0, 0) := by decide +kernel
theorem gx272_8 : aF 8 zM272.2.2.2.2.2.2.2 = some (8, (.iconst 0), 1, 0, 0) := by decide +kernel
theorem gx272_9 : aF 9 zM272.2.2.2.2.2.2.2 = some (9, (.invokevirtual 463), 3, 270, 0) := by decide +kernel
theorem gx272_12 : aF 12 zM272.2.2.2.2.2.2.2 = some (12, (.istore 4), 2, 0, 0) := by decide +kernel
theorem gx272_14 : aF 14 zM272.2.2.2.2.2.2.2 = some (14, (.iconst 0), 1, 0, 0) := by decide +kernel
theorem gx272_15 : aF 15 zM272.2.2.2.2.2.2.2 = some (15, (.istore 5), 2, 0, 0) := by decide +kernel
theorem gx272_17 : aF 17 zM272.2.2.2.2.2.2.2 = some (17, (.iconst (-1)), 1, 0, 0) := by decide +kernel
theorem gx272_18 : aF 18 zM272.2.2.2.2.2.2.2 = some (18, (.istore 6), 2, 0, 0) := by decide +kernel
theorem gx272_20 : aF 20 zM272.2.2.2.2.2.2.2 = some (20, (.iconst 0), 1, 0, 0) := by decide +kernel
theorem gx272_21 : aF 21 zM272.2.2.2.2.2.2.2 = some (21, (.istore 7), 2, 0, 0) := by decide +kernel
theorem gx272_23 : aF 23 zM272.2.2.2.2.2.2.2 = some (23, (.iload 7), 2, 0, 0) := by decide +kernel
theorem gx272_25 : aF 25 zM272.2.2.2.2.2.2.2 = some (25, (.bipush 8), 2, 0, 0) := by decide +kernel
theorem gx272_27 : aF 27 zM272.2.2.2.2.2.2.2 = some (27, (.if_icmp .ge 17), 3, 44, 0) := by decide +kernel
theorem gx272_44 : aF 44 zM272.2.2.2.2.2.2.2 = some (44, (.iconst 0), 1, 0, 0) := by decide +kernel
theorem gx272_45 : aF 45 zM272.2.2.2.2.2.2.2 = some (45, (.istore 7), 2, 0, 0) := by decide +kernel
theorem gx272_30 : aF 30 zM272.2.2.2.2.2.2.2 = some (30, (.aload_n 0), 1, 0, 0) := by decide +kernel
theorem gx272_31 : aF 31 zM272.2.2.2.2.2.2.2 = some (31, (.getfield 182), 3, 12, 72) := by decide +kernel
theorem gx272_34 : aF 34 zM272.2.2.2.2.2.2.2 = some (34, (.iload 7), 2, 0, 0) := by decide +kernel
theorem gx272_36 : aF 36 zM272.2.2.2.2.2.2.2 = some (36, (.iconst 0), 1, 0, 0) := by decide +kernel
theorem gx272_37 : aF 37 zM272.2.2.2.2.2.2.2 = some (37, .iastore, 1, 0, 0) := by decide +kernel
theorem gx272_38 : aF 38 zM272.2.2.2.2.2.2.2 = some (38, (.iinc 7 1), 3, 0, 0) := by decide +kernel
theorem gx272_41 : aF 41 zM272.2.2.2.2.2.2.2 = some (41, (.goto (-18)), 3, 23, 0) := by decide +kernel
theorem gx272_47 : aF 47 zM272.2.2.2.2.2.2.2 = some (47, (.iload 7), 2, 0, 0) := by decide +kernel
theorem gx272_49 : aF 49 zM272.2.2.2.2.2.2.2 = some (49, (.aload_n 0), 1, 0, 0) := by decide +kernel
theorem gx272_50 : aF 50 zM272.2.2.2.2.2.2.2 = some (50, (.getfield 336), 3, 12, 19) := by decide +kernel
theorem gx272_53 : aF 53 zM272.2.2.2.2.2.2.2 = some (53, (.if_icmp .ge 101), 3, 154, 0) := by decide +kernel
theorem gx272_154 : aF 154 zM272.2.2.2.2.2.2.2 = some (154, (.iconst 0), 1, 0, 0) := by decide +kernel
theorem gx272_155 : aF 155 zM272.2.2.2.2.2.2.2 = some (155, (.istore 7), 2, 0, 0) := by decide +kernel
theorem gx272_157 : aF 157 zM272.2.2.2.2.2.2.2 = some (157, (.iconst 0), 1, 0, 0) := by decide +kernel
theorem gx272_158 : aF 158 zM272.2.2.2.2.2.2.2 = some (158, (.istore 8), 2, 0, 0) := by decide +kernel
theorem gx272_160 : aF 160 zM272.2.2.2.2.2.2.2 = some (160, (.iconst 0), 1, 0, 0) := by decide +kernel
theorem gx272_161 : aF 161 zM272.2.2.2.2.2.2.2 = some (161, (.istore 9), 2, 0, 0) := by decide +kernel
theorem gx272_56 : aF 56 zM272.2.2.2.2.2.2.2 = some (56, (.aload_n 0), 1, 0, 0) := by decide +kernel
theorem gx272_57 : aF 57 zM272.2.2.2.2.2.2.2 = some (57, (.getfield 108), 3, 12, 40) := by decide +kernel
theorem gx272_60 : aF 60 zM272.2.2.2.2.2.2.2 = some (60, (.iload 7), 2, 0, 0) := by decide +kernel
theorem gx272_62 : aF 62 zM272.2.2.2.2.2.2.2 = some (62, .baload, 1, 0, 0) := by decide +kernel
theorem gx272_63 : aF 63 zM272.2.2.2.2.2.2.2 = some (63, (.ifCond .eq 85), 3, 148, 0) := by decide +kernel
theorem gx272_66 : aF 66 zM272.2.2.2.2.2.2.2 = some (66, (.aload_n 0), 1, 0, 0) := by decide +kernel
theorem gx272_67 : aF 67 zM272.2.2.2.2.2.2.2 = some (67, (.getfield 52), 3, 12, 20) := by decide +kernel
theorem gx272_70 : aF 70 zM272.2.2.2.2.2.2.2 = some (70, (.iload 7), 2, 0, 0) := by decide +kernel
theorem gx272_72 : aF 72 zM272.2.2.2.2.2.2.2 = some (72, .iaload, 1, 0, 0) := by decide +kernel
theorem gx272_73 : aF 73 zM272.2.2.2.2.2.2.2 = some (73, (.iload_n 1), 1, 0, 0) := by decide +kernel
theorem gx272_74 : aF 74 zM272.2.2.2.2.2.2.2 = some (74, (.if_icmp .ne 74), 3, 148, 0) := by decide +kernel
theorem gx272_77 : aF 77 zM272.2.2.2.2.2.2.2 = some (77, (.aload_n 0), 1, 0, 0) := by decide +kernel
theorem gx272_78 : aF 78 zM272.2.2.2.2.2.2.2 = some (78, (.iload 7), 2, 0, 0) := by decide +kernel
theorem gx272_80 : aF 80 zM272.2.2.2.2.2.2.2 = some (80, (.invokevirtual 342), 3, 229, 0) := by decide +kernel
theorem gx272_83 : aF 83 zM272.2.2.2.2.2.2.2 = some (83, (.iload_n 2), 1, 0, 0) := by decide +kernel
theorem gx272_84 : aF 84 zM272.2.2.2.2.2.2.2 = some (84, (.if_icmp .eq 6), 3, 90, 0) := by decide +kernel
theorem gx272_90 : aF 90 zM272.2.2.2.2.2.2.2 = some (90, (.aload_n 0), 1, 0, 0) := by decide +kernel
theorem gx272_91 : aF 91 zM272.2.2.2.2.2.2.2 = some (91, (.getfield 182), 3, 12, 72) := by decide +kernel
theorem gx272_94 : aF 94 zM272.2.2.2.2.2.2.2 = some (94, (.aload_n 0), 1, 0, 0) := by decide +kernel
theorem gx272_95 : aF 95 zM272.2.2.2.2.2.2.2 = some (95, (.getfield 58), 3, 12, 22) := by decide +kernel
theorem gx272_98 : aF 98 zM272.2.2.2.2.2.2.2 = some (98, (.iload 7), 2, 0, 0) := by decide +kernel
theorem gx272_100 : aF 100 zM272.2.2.2.2.2.2.2 = some (100, .iaload, 1, 0, 0) := by decide +kernel
theorem gx272_101 : aF 101 zM272.2.2.2.2.2.2.2 = some (101, .dup2, 1, 0, 0) := by decide +kernel
theorem gx272_102 : aF 102 zM272.2.2.2.2.2.2.2 = some (102, .iaload, 1, 0, 0) := by decide +kernel
theorem gx272_103 : aF 103 zM272.2.2.2.2.2.2.2 = some (103, (.aload_n 0), 1, 0, 0) := by decide +kernel
theorem gx272_104 : aF 104 zM272.2.2.2.2.2.2.2 = some (104, (.getfield 112), 3, 12, 41) := by decide +kernel
theorem gx272_107 : aF 107 zM272.2.2.2.2.2.2.2 = some (107, (.iload 7), 2, 0, 0) := by decide +kernel
theorem gx272_109 : aF 109 zM272.2.2.2.2.2.2.2 = some (109, .iaload, 1, 0, 0) := by decide +kernel
theorem gx272_110 : aF 110 zM272.2.2.2.2.2.2.2 = some (110, .iadd, 1, 0, 0) := by decide +kernel
theorem gx272_111 : aF 111 zM272.2.2.2.2.2.2.2 = some (111, .iastore, 1, 0, 0) := by decide +kernel
theorem gx272_112 : aF 112 zM272.2.2.2.2.2.2.2 = some (112, (.iload 5), 2, 0, 0) := by decide +kernel
theorem gx272_114 : aF 114 zM272.2.2.2.2.2.2.2 = some (114, (.aload_n 0), 1, 0, 0) := by decide +kernel
theorem gx272_115 : aF 115 zM272.2.2.2.2.2.2.2 = some (115, (.getfield 7), 3, 12, 3) := by decide +kernel
theorem gx272_118 : aF 118 zM272.2.2.2.2.2.2.2 = some (118, (.aload_n 0), 1, 0, 0) := by decide +kernel
theorem gx272_119 : aF 119 zM272.2.2.2.2.2.2.2 = some (119, (.getfield 55), 3, 12, 21) := by decide +kernel
theorem gx272_122 : aF 122 zM272.2.2.2.2.2.2.2 = some (122, (.iload 7), 2, 0, 0) := by decide +kernel
theorem gx272_124 : aF 124 zM272.2.2.2.2.2.2.2 = some (124, .iaload, 1, 0, 0) := by decide +kernel
theorem gx272_125 : aF 125 zM272.2.2.2.2.2.2.2 = some (125, .iaload, 1, 0, 0) := by decide +kernel
theorem gx272_126 : aF 126 zM272.2.2.2.2.2.2.2 = some (126, (.iconst 5), 1, 0, 0) := by decide +kernel
theorem gx272_127 : aF 127 zM272.2.2.2.2.2.2.2 = some (127, (.if_icmp .ne 13), 3, 140, 0) := by decide +kernel
theorem gx272_140 : aF 140 zM272.2.2.2.2.2.2.2 = some (140, (.iconst 0), 1, 0, 0) := by decide +kernel
theorem gx272_130 : aF 130 zM272.2.2.2.2.2.2.2 = some (130, (.aload_n 0), 1, 0, 0) := by decide +kernel
theorem gx272_131 : aF 131 zM272.2.2.2.2.2.2.2 = some (131, (.getfield 112), 3, 12, 41) := by decide +kernel
theorem gx272_134 : aF 134 zM272.2.2.2.2.2.2.2 = some (134, (.iload 7), 2, 0, 0) := by decide +kernel
theorem gx272_136 : aF 136 zM272.2.2.2.2.2.2.2 = some (136, .iaload, 1, 0, 0) := by decide +kernel
theorem gx272_137 : aF 137 zM272.2.2.2.2.2.2.2 = some (137, (.goto 4), 3, 141, 0) := by decide +kernel
theorem gx272_87 : aF 87 zM272.2.2.2.2.2.2.2 = some (87, (.goto 61), 3, 148, 0) := by decide +kernel
theorem gx272_141 : aF 141 zM272.2.2.2.2.2.2.2 = some (141, .iadd, 1, 0, 0) := by decide +kernel
theorem gx272_142 : aF 142 zM272.2.2.2.2.2.2.2 = some (142, (.istore 5), 2, 0, 0) := by decide +kernel
theorem gx272_144 : aF 144 zM272.2.2.2.2.2.2.2 = some (144, (.iload 7), 2, 0, 0) := by decide +kernel
theorem gx272_146 : aF 146 zM272.2.2.2.2.2.2.2 = some (146, (.istore 6), 2, 0, 0) := by decide +kernel
theorem gx272_148 : aF 148 zM272.2.2.2.2.2.2.2 = some (148, (.iinc 7 1), 3, 0, 0) := by decide +kernel
theorem gx272_151 : aF 151 zM272.2.2.2.2.2.2.2 = some (151, (.goto (-104)), 3, 47, 0) := by decide +kernel
theorem gx272_163 : aF 163 zM272.2.2.2.2.2.2.2 = some (163, (.iload 9), 2, 0, 0) := by decide +kernel
theorem gx272_165 : aF 165 zM272.2.2.2.2.2.2.2 = some (165, (.bipush 8), 2, 0, 0) := by decide +kernel
theorem gx272_167 : aF 167 zM272.2.2.2.2.2.2.2 = some (167, (.if_icmp .ge 43), 3, 210, 0) := by decide +kernel
theorem gx272_210 : aF 210 zM272.2.2.2.2.2.2.2 = some (210, (.iconst 0), 1, 0, 0) := by decide +kernel
theorem gx272_211 : aF 211 zM272.2.2.2.2.2.2.2 = some (211, (.istore 9), 2, 0, 0) := by decide +kernel
theorem gx272_213 : aF 213 zM272.2.2.2.2.2.2.2 = some (213, (.iconst 0), 1, 0, 0) := by decide +kernel
theorem gx272_214 : aF 214 zM272.2.2.2.2.2.2.2 = some (214, (.istore 10), 2, 0, 0) := by decide +kernel
theorem gx272_170 : aF 170 zM272.2.2.2.2.2.2.2 = some (170, (.iload 7), 2, 0, 0) := by decide +kernel
theorem gx272_172 : aF 172 zM272.2.2.2.2.2.2.2 = some (172, (.aload_n 0), 1, 0, 0) := by decide +kernel
theorem gx272_173 : aF 173 zM272.2.2.2.2.2.2.2 = some (173, (.getfield 182), 3, 12, 72) := by decide +kernel
theorem gx272_176 : aF 176 zM272.2.2.2.2.2.2.2 = some (176, (.iload 9), 2, 0, 0) := by decide +kernel
theorem gx272_178 : aF 178 zM272.2.2.2.2.2.2.2 = some (178, .iaload, 1, 0, 0) := by decide +kernel
theorem gx272_179 : aF 179 zM272.2.2.2.2.2.2.2 = some (179, (.ifCond .le 7), 3, 186, 0) := by decide +kernel
theorem gx272_186 : aF 186 zM272.2.2.2.2.2.2.2 = some (186, (.iconst 0), 1, 0, 0) := by decide +kernel
theorem gx272_182 : aF 182 zM272.2.2.2.2.2.2.2 = some (182, (.iconst 1), 1, 0, 0) := by decide +kernel
theorem gx272_183 : aF 183 zM272.2.2.2.2.2.2.2 = some (183, (.goto 4), 3, 187, 0) := by decide +kernel
theorem gx272_187 : aF 187 zM272.2.2.2.2.2.2.2 = some (187, .iadd, 1, 0, 0) := by decide +kernel
theorem gx272_188 : aF 188 zM272.2.2.2.2.2.2.2 = some (188, (.istore 7), 2, 0, 0) := by decide +kernel
theorem gx272_190 : aF 190 zM272.2.2.2.2.2.2.2 = some (190, (.iload 8), 2, 0, 0) := by decide +kernel
theorem gx272_192 : aF 192 zM272.2.2.2.2.2.2.2 = some (192, (.aload_n 0), 1, 0, 0) := by decide +kernel
theorem gx272_193 : aF 193 zM272.2.2.2.2.2.2.2 = some (193, (.getfield 182), 3, 12, 72) := by decide +kernel
theorem gx272_196 : aF 196 zM272.2.2.2.2.2.2.2 = some (196, (.iload 9), 2, 0, 0) := by decide +kernel
theorem gx272_198 : aF 198 zM272.2.2.2.2.2.2.2 = some (198, .iaload, 1, 0, 0) := by decide +kernel
theorem gx272_199 : aF 199 zM272.2.2.2.2.2.2.2 = some (199, (.invokestatic 293), 3, 212, 0) := by decide +kernel
theorem gx272_202 : aF 202 zM272.2.2.2.2.2.2.2 = some (202, (.istore 8), 2, 0, 0) := by decide +kernel
theorem gx272_204 : aF 204 zM272.2.2.2.2.2.2.2 = some (204, (.iinc 9 1), 3, 0, 0) := by decide +kernel
theorem gx272_207 : aF 207 zM272.2.2.2.2.2.2.2 = some (207, (.goto (-44)), 3, 163, 0) := by decide +kernel
theorem gx272_216 : aF 216 zM272.2.2.2.2.2.2.2 = some (216, (.iload 10), 2, 0, 0) := by decide +kernel
theorem gx272_218 : aF 218 zM272.2.2.2.2.2.2.2 = some (218, (.iload_n 2), 1, 0, 0) := by decide +kernel
theorem gx272_219 : aF 219 zM272.2.2.2.2.2.2.2 = some (219, (.if_icmp .ge 38), 3, 257, 0) := by decide +kernel
theorem gx272_257 : aF 257 zM272.2.2.2.2.2.2.2 = some (257, (.iconst 0), 1, 0, 0) := by decide +kernel
theorem gx272_258 : aF 258 zM272.2.2.2.2.2.2.2 = some (258, (.istore 10), 2, 0, 0) := by decide +kernel
theorem gx272_260 : aF 260 zM272.2.2.2.2.2.2.2 = some (260, (.iconst 0), 1, 0, 0) := by decide +kernel
theorem gx272_261 : aF 261 zM272.2.2.2.2.2.2.2 = some (261, (.istore 11), 2, 0, 0) := by decide +kernel
theorem gx272_222 : aF 222 zM272.2.2.2.2.2.2.2 = some (222, (.iload 9), 2, 0, 0) := by decide +kernel
theorem gx272_224 : aF 224 zM272.2.2.2.2.2.2.2 = some (224, (.aload_n 0), 1, 0, 0) := by decide +kernel
theorem gx272_225 : aF 225 zM272.2.2.2.2.2.2.2 = some (225, (.iload_n 1), 1, 0, 0) := by decide +kernel
theorem gx272_226 : aF 226 zM272.2.2.2.2.2.2.2 = some (226, (.iload 10), 2, 0, 0) := by decide +kernel
theorem gx272_228 : aF 228 zM272.2.2.2.2.2.2.2 = some (228, (.iconst 0), 1, 0, 0) := by decide +kernel
theorem gx272_229 : aF 229 zM272.2.2.2.2.2.2.2 = some (229, (.invokevirtual 463), 3, 270, 0) := by decide +kernel
theorem gx272_232 : aF 232 zM272.2.2.2.2.2.2.2 = some (232, (.aload_n 0), 1, 0, 0) := by decide +kernel
theorem gx272_233 : aF 233 zM272.2.2.2.2.2.2.2 = some (233, (.iload_n 1), 1, 0, 0) := by decide +kernel
theorem gx272_234 : aF 234 zM272.2.2.2.2.2.2.2 = some (234, (.iload 10), 2, 0, 0) := by decide +kernel
theorem gx272_236 : aF 236 zM272.2.2.2.2.2.2.2 = some (236, (.iconst 1), 1, 0, 0) := by decide +kernel
theorem gx272_237 : aF 237 zM272.2.2.2.2.2.2.2 = some (237, (.invokevirtual 463), 3, 270, 0) := by decide +kernel
theorem gx272_240 : aF 240 zM272.2.2.2.2.2.2.2 = some (240, (.if_icmp .le 7), 3, 247, 0) := by decide +kernel
theorem gx272_247 : aF 247 zM272.2.2.2.2.2.2.2 = some (247, (.iconst 0), 1, 0, 0) := by decide +kernel
theorem gx272_243 : aF 243 zM272.2.2.2.2.2.2.2 = some (243, (.iconst 1), 1, 0, 0) := by decide +kernel
theorem gx272_244 : aF 244 zM272.2.2.2.2.2.2.2 = some (244, (.goto 4), 3, 248, 0) := by decide +kernel
theorem gx272_248 : aF 248 zM272.2.2.2.2.2.2.2 = some (248, .iadd, 1, 0, 0) := by decide +kernel
theorem gx272_249 : aF 249 zM272.2.2.2.2.2.2.2 = some (249, (.istore 9), 2, 0, 0) := by decide +kernel
theorem gx272_251 : aF 251 zM272.2.2.2.2.2.2.2 = some (251, (.iinc 10 1), 3, 0, 0) := by decide +kernel
theorem gx272_254 : aF 254 zM272.2.2.2.2.2.2.2 = some (254, (.goto (-38)), 3, 216, 0) := by decide +kernel
theorem gx272_263 : aF 263 zM272.2.2.2.2.2.2.2 = some (263, (.iload 11), 2, 0, 0) := by decide +kernel
theorem gx272_265 : aF 265 zM272.2.2.2.2.2.2.2 = some (265, (.aload_n 0), 1, 0, 0) := by decide +kernel
theorem gx272_266 : aF 266 zM272.2.2.2.2.2.2.2 = some (266, (.getfield 265), 3, 12, 2) := by decide +kernel
theorem gx272_269 : aF 269 zM272.2.2.2.2.2.2.2 = some (269, (.if_icmp .ge 53), 3, 322, 0) := by decide +kernel
theorem gx272_322 : aF 322 zM272.2.2.2.2.2.2.2 = some (322, (.aload_n 0), 1, 0, 0) := by decide +kernel
theorem gx272_323 : aF 323 zM272.2.2.2.2.2.2.2 = some (323, (.getfield 176), 3, 12, 69) := by decide +kernel
theorem gx272_326 : aF 326 zM272.2.2.2.2.2.2.2 = some (326, (.iconst 0), 1, 0, 0) := by decide +kernel
theorem gx272_327 : aF 327 zM272.2.2.2.2.2.2.2 = some (327, (.iload_n 2), 1, 0, 0) := by decide +kernel
theorem gx272_328 : aF 328 zM272.2.2.2.2.2.2.2 = some (328, .iastore, 1, 0, 0) := by decide +kernel
theorem gx272_329 : aF 329 zM272.2.2.2.2.2.2.2 = some (329, (.aload_n 0), 1, 0, 0) := by decide +kernel
theorem gx272_330 : aF 330 zM272.2.2.2.2.2.2.2 = some (330, (.getfield 176), 3, 12, 69) := by decide +kernel
theorem gx272_333 : aF 333 zM272.2.2.2.2.2.2.2 = some (333, (.iconst 1), 1, 0, 0) := by decide +kernel
theorem gx272_334 : aF 334 zM272.2.2.2.2.2.2.2 = some (334, (.aload_n 0), 1, 0, 0) := by decide +kernel
theorem gx272_335 : aF 335 zM272.2.2.2.2.2.2.2 = some (335, (.getfield 7), 3, 12, 3) := by decide +kernel
theorem gx272_338 : aF 338 zM272.2.2.2.2.2.2.2 = some (338, (.iload_n 1), 1, 0, 0) := by decide +kernel
theorem gx272_339 : aF 339 zM272.2.2.2.2.2.2.2 = some (339, .iaload, 1, 0, 0) := by decide +kernel
theorem gx272_340 : aF 340 zM272.2.2.2.2.2.2.2 = some (340, .iastore, 1, 0, 0) := by decide +kernel
theorem gx272_341 : aF 341 zM272.2.2.2.2.2.2.2 = some (341, (.aload_n 0), 1, 0, 0) := by decide +kernel
theorem gx272_342 : aF 342 zM272.2.2.2.2.2.2.2 = some (342, (.getfield 176), 3, 12, 69) := by decide +kernel
theorem gx272_345 : aF 345 zM272.2.2.2.2.2.2.2 = some (345, (.iconst 2), 1, 0, 0) := by decide +kernel
theorem gx272_346 : aF 346 zM272.2.2.2.2.2.2.2 = some (346, (.iload 4), 2, 0, 0) := by decide +kernel
theorem gx272_348 : aF 348 zM272.2.2.2.2.2.2.2 = some (348, .iastore, 1, 0, 0) := by decide +kernel
theorem gx272_349 : aF 349 zM272.2.2.2.2.2.2.2 = some (349, (.aload_n 0), 1, 0, 0) := by decide +kernel
theorem gx272_350 : aF 350 zM272.2.2.2.2.2.2.2 = some (350, (.getfield 176), 3, 12, 69) := by decide +kernel
theorem gx272_353 : aF 353 zM272.2.2.2.2.2.2.2 = some (353, (.iconst 3), 1, 0, 0) := by decide +kernel
theorem gx272_354 : aF 354 zM272.2.2.2.2.2.2.2 = some (354, (.aload_n 0), 1, 0, 0) := by decide +kernel
theorem gx272_355 : aF 355 zM272.2.2.2.2.2.2.2 = some (355, (.iload_n 1), 1, 0, 0) := by decide +kernel
theorem gx272_356 : aF 356 zM272.2.2.2.2.2.2.2 = some (356, (.iload_n 2), 1, 0, 0) := by decide +kernel
theorem gx272_357 : aF 357 zM272.2.2.2.2.2.2.2 = some (357, (.iconst 1), 1, 0, 0) := by decide +kernel
theorem gx272_358 : aF 358 zM272.2.2.2.2.2.2.2 = some (358, (.invokevirtual 463), 3, 270, 0) := by decide +kernel
theorem gx272_361 : aF 361 zM272.2.2.2.2.2.2.2 = some (361, .iastore, 1, 0, 0) := by decide +kernel
theorem gx272_362 : aF 362 zM272.2.2.2.2.2.2.2 = some (362, (.aload_n 0), 1, 0, 0) := by decide +kernel
theorem gx272_363 : aF 363 zM272.2.2.2.2.2.2.2 = some (363, (.getfield 176), 3, 12, 69) := by decide +kernel
theorem gx272_366 : aF 366 zM272.2.2.2.2.2.2.2 = some (366, (.iconst 4), 1, 0, 0) := by decide +kernel
theorem gx272_367 : aF 367 zM272.2.2.2.2.2.2.2 = some (367, (.iload 4), 2, 0, 0) := by decide +kernel
theorem gx272_369 : aF 369 zM272.2.2.2.2.2.2.2 = some (369, (.ifCond .ne 7), 3, 376, 0) := by decide +kernel
theorem gx272_376 : aF 376 zM272.2.2.2.2.2.2.2 = some (376, (.bipush 100), 2, 0, 0) := by decide +kernel
theorem gx272_378 : aF 378 zM272.2.2.2.2.2.2.2 = some (378, (.iload 5), 2, 0, 0) := by decide +kernel
theorem gx272_380 : aF 380 zM272.2.2.2.2.2.2.2 = some (380, .imul, 1, 0, 0) := by decide +kernel
theorem gx272_381 : aF 381 zM272.2.2.2.2.2.2.2 = some (381, (.iload 4), 2, 0, 0) := by decide +kernel
theorem gx272_383 : aF 383 zM272.2.2.2.2.2.2.2 = some (383, .idiv, 1, 0, 0) := by decide +kernel
theorem gx272_372 : aF 372 zM272.2.2.2.2.2.2.2 = some (372, (.iconst 0), 1, 0, 0) := by decide +kernel
theorem gx272_373 : aF 373 zM272.2.2.2.2.2.2.2 = some (373, (.goto 11), 3, 384, 0) := by decide +kernel
theorem gx272_272 : aF 272 zM272.2.2.2.2.2.2.2 = some (272, (.iload 10), 2, 0, 0) := by decide +kernel
theorem gx272_274 : aF 274 zM272.2.2.2.2.2.2.2 = some (274, (.aload_n 0), 1, 0, 0) := by decide +kernel
theorem gx272_275 : aF 275 zM272.2.2.2.2.2.2.2 = some (275, (.getfield 7), 3, 12, 3) := by decide +kernel
theorem gx272_278 : aF 278 zM272.2.2.2.2.2.2.2 = some (278, (.iload 11), 2, 0, 0) := by decide +kernel
theorem gx272_280 : aF 280 zM272.2.2.2.2.2.2.2 = some (280, .iaload, 1, 0, 0) := by decide +kernel
theorem gx272_281 : aF 281 zM272.2.2.2.2.2.2.2 = some (281, (.bipush 6), 2, 0, 0) := by decide +kernel
theorem gx272_283 : aF 283 zM272.2.2.2.2.2.2.2 = some (283, (.if_icmp .ne 29), 3, 312, 0) := by decide +kernel
theorem gx272_286 : aF 286 zM272.2.2.2.2.2.2.2 = some (286, (.aload_n 0), 1, 0, 0) := by decide +kernel
theorem gx272_287 : aF 287 zM272.2.2.2.2.2.2.2 = some (287, (.iload 11), 2, 0, 0) := by decide +kernel
theorem gx272_289 : aF 289 zM272.2.2.2.2.2.2.2 = some (289, (.sipush 365), 3, 0, 0) := by decide +kernel
theorem gx272_292 : aF 292 zM272.2.2.2.2.2.2.2 = some (292, (.iload_n 2), 1, 0, 0) := by decide +kernel
theorem gx272_293 : aF 293 zM272.2.2.2.2.2.2.2 = some (293, .imul, 1, 0, 0) := by decide +kernel
theorem gx272_294 : aF 294 zM272.2.2.2.2.2.2.2 = some (294, (.sipush 365), 3, 0, 0) := by decide +kernel
theorem gx272_297 : aF 297 zM272.2.2.2.2.2.2.2 = some (297, .iadd, 1, 0, 0) := by decide +kernel
theorem gx272_298 : aF 298 zM272.2.2.2.2.2.2.2 = some (298, (.iconst 1), 1, 0, 0) := by decide +kernel
theorem gx272_299 : aF 299 zM272.2.2.2.2.2.2.2 = some (299, .isub, 1, 0, 0) := by decide +kernel
theorem gx272_300 : aF 300 zM272.2.2.2.2.2.2.2 = some (300, (.iload_n 3), 1, 0, 0) := by decide +kernel
theorem gx272_301 : aF 301 zM272.2.2.2.2.2.2.2 = some (301, (.invokevirtual 331), 3, 226, 0) := by decide +kernel
theorem gx272_304 : aF 304 zM272.2.2.2.2.2.2.2 = some (304, (.iload_n 1), 1, 0, 0) := by decide +kernel
theorem gx272_305 : aF 305 zM272.2.2.2.2.2.2.2 = some (305, (.if_icmp .ne 7), 3, 312, 0) := by decide +kernel
theorem gx272_308 : aF 308 zM272.2.2.2.2.2.2.2 = some (308, (.iconst 1), 1, 0, 0) := by decide +kernel
theorem gx272_309 : aF 309 zM272.2.2.2.2.2.2.2 = some (309, (.goto 4), 3, 313, 0) := by decide +kernel
theorem gx272_312 : aF 312 zM272.2.2.2.2.2.2.2 = some (312, (.iconst 0), 1, 0, 0) := by decide +kernel
theorem gx272_313 : aF 313 zM272.2.2.2.2.2.2.2 = some (313, .iadd, 1, 0, 0) := by decide +kernel
theorem gx272_314 : aF 314 zM272.2.2.2.2.2.2.2 = some (314, (.istore 10), 2, 0, 0) := by decide +kernel
theorem gx272_316 : aF 316 zM272.2.2.2.2.2.2.2 = some (316, (.iinc 11 1), 3, 0, 0) := by decide +kernel
theorem gx272_319 : aF 319 zM272.2.2.2.2.2.2.2 = some (319, (.goto (-56)), 3, 263, 0) := by decide +kernel
theorem gx272_384 : aF 384 zM272.2.2.2.2.2.2.2 = some (384, .iastore, 1, 0, 0) := by decide +kernel
theorem gx272_385 : aF 385 zM272.2.2.2.2.2.2.2 = some (385, (.aload_n 0), 1, 0, 0) := by decide +kernel
theorem gx272_386 : aF 386 zM272.2.2.2.2.2.2.2 = some (386, (.getfield 176), 3, 12, 69) := by decide +kernel
theorem gx272_389 : aF 389 zM272.2.2.2.2.2.2.2 = some (389, (.iconst 5), 1, 0, 0) := by decide +kernel
theorem gx272_390 : aF 390 zM272.2.2.2.2.2.2.2 = some (390, (.iload 7), 2, 0, 0) := by decide +kernel
theorem gx272_392 : aF 392 zM272.2.2.2.2.2.2.2 = some (392, .iastore, 1, 0, 0) := by decide +kernel
theorem gx272_393 : aF 393 zM272.2.2.2.2.2.2.2 = some (393, (.aload_n 0), 1, 0, 0) := by decide +kernel
theorem gx272_394 : aF 394 zM272.2.2.2.2.2.2.2 = some (394, (.getfield 176), 3, 12, 69) := by decide +kernel
theorem gx272_397 : aF 397 zM272.2.2.2.2.2.2.2 = some (397, (.bipush 6), 2, 0, 0) := by decide +kernel
theorem gx272_399 : aF 399 zM272.2.2.2.2.2.2.2 = some (399, (.iload 4), 2, 0, 0) := by decide +kernel
theorem gx272_401 : aF 401 zM272.2.2.2.2.2.2.2 = some (401, (.ifCond .ne 7), 3, 408, 0) := by decide +kernel
theorem gx272_408 : aF 408 zM272.2.2.2.2.2.2.2 = some (408, (.bipush 100), 2, 0, 0) := by decide +kernel
theorem gx272_410 : aF 410 zM272.2.2.2.2.2.2.2 = some (410, (.iload 8), 2, 0, 0) := by decide +kernel
theorem gx272_412 : aF 412 zM272.2.2.2.2.2.2.2 = some (412, .imul, 1, 0, 0) := by decide +kernel
theorem gx272_413 : aF 413 zM272.2.2.2.2.2.2.2 = some (413, (.iload 4), 2, 0, 0) := by decide +kernel
theorem gx272_415 : aF 415 zM272.2.2.2.2.2.2.2 = some (415, .idiv, 1, 0, 0) := by decide +kernel
theorem gx272_404 : aF 404 zM272.2.2.2.2.2.2.2 = some (404, (.iconst 0), 1, 0, 0) := by decide +kernel
theorem gx272_405 : aF 405 zM272.2.2.2.2.2.2.2 = some (405, (.goto 11), 3, 416, 0) := by decide +kernel
theorem gx272_416 : aF 416 zM272.2.2.2.2.2.2.2 = some (416, .iastore, 1, 0, 0) := by decide +kernel
theorem gx272_417 : aF 417 zM272.2.2.2.2.2.2.2 = some (417, (.aload_n 0), 1, 0, 0) := by decide +kernel
theorem gx272_418 : aF 418 zM272.2.2.2.2.2.2.2 = some (418, (.getfield 176), 3, 12, 69) := by decide +kernel
theorem gx272_421 : aF 421 zM272.2.2.2.2.2.2.2 = some (421, (.bipush 7), 2, 0, 0) := by decide +kernel
theorem gx272_423 : aF 423 zM272.2.2.2.2.2.2.2 = some (423, (.iload 6), 2, 0, 0) := by decide +kernel
theorem gx272_425 : aF 425 zM272.2.2.2.2.2.2.2 = some (425, (.ifCond .ge 7), 3, 432, 0) := by decide +kernel
theorem gx272_432 : aF 432 zM272.2.2.2.2.2.2.2 = some (432, (.aload_n 0), 1, 0, 0) := by decide +kernel
theorem gx272_433 : aF 433 zM272.2.2.2.2.2.2.2 = some (433, (.iload 6), 2, 0, 0) := by decide +kernel
theorem gx272_435 : aF 435 zM272.2.2.2.2.2.2.2 = some (435, (.invokevirtual 379), 3, 240, 0) := by decide +kernel
theorem gx272_428 : aF 428 zM272.2.2.2.2.2.2.2 = some (428, (.iconst 0), 1, 0, 0) := by decide +kernel
theorem gx272_429 : aF 429 zM272.2.2.2.2.2.2.2 = some (429, (.goto 9), 3, 438, 0) := by decide +kernel
theorem gx272_438 : aF 438 zM272.2.2.2.2.2.2.2 = some (438, .iastore, 1, 0, 0) := by decide +kernel
theorem gx272_439 : aF 439 zM272.2.2.2.2.2.2.2 = some (439, (.aload_n 0), 1, 0, 0) := by decide +kernel
theorem gx272_440 : aF 440 zM272.2.2.2.2.2.2.2 = some (440, (.getfield 176), 3, 12, 69) := by decide +kernel
theorem gx272_443 : aF 443 zM272.2.2.2.2.2.2.2 = some (443, (.bipush 8), 2, 0, 0) := by decide +kernel
theorem gx272_445 : aF 445 zM272.2.2.2.2.2.2.2 = some (445, (.aload_n 0), 1, 0, 0) := by decide +kernel
theorem gx272_446 : aF 446 zM272.2.2.2.2.2.2.2 = some (446, (.iload_n 1), 1, 0, 0) := by decide +kernel
theorem gx272_447 : aF 447 zM272.2.2.2.2.2.2.2 = some (447, (.iload_n 2), 1, 0, 0) := by decide +kernel
theorem gx272_448 : aF 448 zM272.2.2.2.2.2.2.2 = some (448, (.invokevirtual 467), 3, 271, 0) := by decide +kernel
theorem gx272_451 : aF 451 zM272.2.2.2.2.2.2.2 = some (451, .iastore, 1, 0, 0) := by decide +kernel
theorem gx272_452 : aF 452 zM272.2.2.2.2.2.2.2 = some (452, (.aload_n 0), 1, 0, 0) := by decide +kernel
theorem gx272_453 : aF 453 zM272.2.2.2.2.2.2.2 = some (453, (.getfield 176), 3, 12, 69) := by decide +kernel
theorem gx272_456 : aF 456 zM272.2.2.2.2.2.2.2 = some (456, (.bipush 9), 2, 0, 0) := by decide +kernel
theorem gx272_458 : aF 458 zM272.2.2.2.2.2.2.2 = some (458, (.iload 10), 2, 0, 0) := by decide +kernel
theorem gx272_460 : aF 460 zM272.2.2.2.2.2.2.2 = some (460, .iastore, 1, 0, 0) := by decide +kernel
theorem gx272_461 : aF 461 zM272.2.2.2.2.2.2.2 = some (461, (.aload_n 0), 1, 0, 0) := by decide +kernel
theorem gx272_462 : aF 462 zM272.2.2.2.2.2.2.2 = some (462, (.getfield 176), 3, 12, 69) := by decide +kernel
theorem gx272_465 : aF 465 zM272.2.2.2.2.2.2.2 = some (465, (.bipush 10), 2, 0, 0) := by decide +kernel
theorem gx272_467 : aF 467 zM272.2.2.2.2.2.2.2 = some (467, (.iconst 0), 1, 0, 0) := by decide +kernel
theorem gx272_468 : aF 468 zM272.2.2.2.2.2.2.2 = some (468, .iastore, 1, 0, 0) := by decide +kernel
theorem gx272_469 : aF 469 zM272.2.2.2.2.2.2.2 = some (469, (.aload_n 0), 1, 0, 0) := by decide +kernel
theorem gx272_470 : aF 470 zM272.2.2.2.2.2.2.2 = some (470, (.getfield 176), 3, 12, 69) := by decide +kernel
theorem gx272_473 : aF 473 zM272.2.2.2.2.2.2.2 = some (473, (.bipush 11), 2, 0, 0) := by decide +kernel
theorem gx272_475 : aF 475 zM272.2.2.2.2.2.2.2 = some (475, (.aload_n 0), 1, 0, 0) := by decide +kernel
theorem gx272_476 : aF 476 zM272.2.2.2.2.2.2.2 = some (476, (.iload_n 1), 1, 0, 0) := by decide +kernel
theorem gx272_477 : aF 477 zM272.2.2.2.2.2.2.2 = some (477, (.iload_n 2), 1, 0, 0) := by decide +kernel
theorem gx272_478 : aF 478 zM272.2.2.2.2.2.2.2 = some (478, (.iload_n 3), 1, 0, 0) := by decide +kernel
theorem gx272_479 : aF 479 zM272.2.2.2.2.2.2.2 = some (479, (.invokevirtual 470), 3, 273, 0) := by decide +kernel
theorem gx272_482 : aF 482 zM272.2.2.2.2.2.2.2 = some (482, (.ifCond .eq 7), 3, 489, 0) := by decide +kernel
theorem gx272_489 : aF 489 zM272.2.2.2.2.2.2.2 = some (489, (.iconst 0), 1, 0, 0) := by decide +kernel
theorem gx272_485 : aF 485 zM272.2.2.2.2.2.2.2 = some (485, (.iconst 1), 1, 0, 0) := by decide +kernel
theorem gx272_486 : aF 486 zM272.2.2.2.2.2.2.2 = some (486, (.goto 4), 3, 490, 0) := by decide +kernel
theorem gx272_490 : aF 490 zM272.2.2.2.2.2.2.2 = some (490, .iastore, 1, 0, 0) := by decide +kernel
theorem gx272_491 : aF 491 zM272.2.2.2.2.2.2.2 = some (491, (.aload_n 0), 1, 0, 0) := by decide +kernel
theorem gx272_492 : aF 492 zM272.2.2.2.2.2.2.2 = some (492, (.getfield 176), 3, 12, 69) := by decide +kernel
theorem gx272_495 : aF 495 zM272.2.2.2.2.2.2.2 = some (495, (.bipush 12), 2, 0, 0) := by decide +kernel
theorem gx272_497 : aF 497 zM272.2.2.2.2.2.2.2 = some (497, (.iload 9), 2, 0, 0) := by decide +kernel
theorem gx272_499 : aF 499 zM272.2.2.2.2.2.2.2 = some (499, .iastore, 1, 0, 0) := by decide +kernel
theorem gx272_500 : aF 500 zM272.2.2.2.2.2.2.2 = some (500, .return_, 1, 0, 0) := by decide +kernel
theorem gx274_0 : aF 0 zM274.2.2.2.2.2.2.2 = some (0, (.aload_n 0), 1, 0, 0) := by decide +kernel
theorem gx274_1 : aF 1 zM274.2.2.2.2.2.2.2 = some (1, (.iload_n 1), 1, 0, 0) := by decide +kernel
theorem gx274_2 : aF 2 zM274.2.2.2.2.2.2.2 = some (2, (.invokevirtual 316), 3, 202, 0) := by decide +kernel
theorem gx274_5 : aF 5 zM274.2.2.2.2.2.2.2 = some (5, (.ifCond .eq 28), 3, 33, 0) := by decide +kernel
theorem gx274_33 : aF 33 zM274.2.2.2.2.2.2.2 = some (33, (.iconst (-1)), 1, 0, 0) := by decide +kernel
theorem gx274_34 : aF 34 zM274.2.2.2.2.2.2.2 = some (34, .ireturn, 1, 0, 0) := by decide +kernel
theorem gx274_8 : aF 8 zM274.2.2.2.2.2.2.2 = some (8, (.iload_n 2), 1, 0, 0) := by decide +kernel
theorem gx274_9 : aF 9 zM274.2.2.2.2.2.2.2 = some (9, (.invokestatic 372), 3, 198, 0) := by decide +kernel
theorem gx274_12 : aF 12 zM274.2.2.2.2.2.2.2 = some (12, (.ifCond .eq 21), 3, 33, 0) := by decide +kernel
theorem gx274_15 : aF 15 zM274.2.2.2.2.2.2.2 = some (15, (.iload_n 3), 1, 0, 0) := by decide +kernel
theorem gx274_16 : aF 16 zM274.2.2.2.2.2.2.2 = some (16, (.invokestatic 325), 3, 197, 0) := by decide +kernel
theorem gx274_19 : aF 19 zM274.2.2.2.2.2.2.2 = some (19, (.ifCond .eq 14), 3, 33, 0) := by decide +kernel
theorem gx274_22 : aF 22 zM274.2.2.2.2.2.2.2 = some (22, (.iload 4), 2, 0, 0) := by decide +kernel
theorem gx274_24 : aF 24 zM274.2.2.2.2.2.2.2 = some (24, (.iconst 0), 1, 0, 0) := by decide +kernel
theorem gx274_25 : aF 25 zM274.2.2.2.2.2.2.2 = some (25, (.bipush 12), 2, 0, 0) := by decide +kernel
theorem gx274_27 : aF 27 zM274.2.2.2.2.2.2.2 = some (27, (.invokestatic 258), 3, 196, 0) := by decide +kernel
theorem gx274_30 : aF 30 zM274.2.2.2.2.2.2.2 = some (30, (.ifCond .ne 5), 3, 35, 0) := by decide +kernel
theorem gx274_35 : aF 35 zM274.2.2.2.2.2.2.2 = some (35, (.aload_n 0), 1, 0, 0) := by decide +kernel
theorem gx274_36 : aF 36 zM274.2.2.2.2.2.2.2 = some (36, (.iload_n 1), 1, 0, 0) := by decide +kernel
theorem gx274_37 : aF 37 zM274.2.2.2.2.2.2.2 = some (37, (.iload_n 2), 1, 0, 0) := by decide +kernel
theorem gx274_38 : aF 38 zM274.2.2.2.2.2.2.2 = some (38, (.iload_n 3), 1, 0, 0) := by decide +kernel
theorem gx274_39 : aF 39 zM274.2.2.2.2.2.2.2 = some (39, (.invokevirtual 473), 3, 272, 0) := by decide +kernel
theorem gx274_42 : aF 42 zM274.2.2.2.2.2.2.2 = some (42, (.aload_n 0), 1, 0, 0) := by decide +kernel
theorem gx274_43 : aF 43 zM274.2.2.2.2.2.2.2 = some (43, (.getfield 176), 3, 12, 69) := by decide +kernel
theorem gx274_46 : aF 46 zM274.2.2.2.2.2.2.2 = some (46, (.iload 4), 2, 0, 0) := by decide +kernel
theorem gx274_48 : aF 48 zM274.2.2.2.2.2.2.2 = some (48, .iaload, 1, 0, 0) := by decide +kernel
theorem gx274_49 : aF 49 zM274.2.2.2.2.2.2.2 = some (49, .ireturn, 1, 0, 0) := by decide +kernel
theorem gx275_0 : aF 0 zM275.2.2.2.2.2.2.2 = some (0, (.iconst 0), 1, 0, 0) := by decide +kernel
theorem gx275_1 : aF 1 zM275.2.2.2.2.2.2.2 = some (1, (.istore 5), 2, 0, 0) := by decide +kernel
theorem gx275_3 : aF 3 zM275.2.2.2.2.2.2.2 = some (3, (.iload 5), 2, 0, 0) := by decide +kernel
theorem gx275_5 : aF 5 zM275.2.2.2.2.2.2.2 = some (5, (.aload_n 0), 1, 0, 0) := by decide +kernel
theorem gx275_6 : aF 6 zM275.2.2.2.2.2.2.2 = some (6, (.getfield 265), 3, 12, 2) := by decide +kernel
theorem gx275_9 : aF 9 zM275.2.2.2.2.2.2.2 = some (9, (.if_icmp .ge 55), 3, 64, 0) := by decide +kernel
theorem gx275_64 : aF 64 zM275.2.2.2.2.2.2.2 = some (64, (.lconst 0), 1, 0, 0) := by decide +kernel
theorem gx275_65 : aF 65 zM275.2.2.2.2.2.2.2 = some (65, (.lstore 5), 2, 0, 0) := by decide +kernel
theorem gx275_67 : aF 67 zM275.2.2.2.2.2.2.2 = some (67, (.iload 4), 2, 0, 0) := by decide +kernel
theorem gx275_69 : aF 69 zM275.2.2.2.2.2.2.2 = some (69, (.istore 7), 2, 0, 0) := by decide +kernel
theorem gx275_12 : aF 12 zM275.2.2.2.2.2.2.2 = some (12, (.aload_n 0), 1, 0, 0) := by decide +kernel
theorem gx275_13 : aF 13 zM275.2.2.2.2.2.2.2 = some (13, (.getfield 185), 3, 12, 73) := by decide +kernel
theorem gx275_16 : aF 16 zM275.2.2.2.2.2.2.2 = some (16, (.iload 5), 2, 0, 0) := by decide +kernel
theorem gx275_18 : aF 18 zM275.2.2.2.2.2.2.2 = some (18, (.aload_n 0), 1, 0, 0) := by decide +kernel
theorem gx275_19 : aF 19 zM275.2.2.2.2.2.2.2 = some (19, (.getfield 7), 3, 12, 3) := by decide +kernel
theorem gx275_22 : aF 22 zM275.2.2.2.2.2.2.2 = some (22, (.iload 5), 2, 0, 0) := by decide +kernel
theorem gx275_24 : aF 24 zM275.2.2.2.2.2.2.2 = some (24, .iaload, 1, 0, 0) := by decide +kernel
theorem gx275_25 : aF 25 zM275.2.2.2.2.2.2.2 = some (25, (.bipush 6), 2, 0, 0) := by decide +kernel
theorem gx275_27 : aF 27 zM275.2.2.2.2.2.2.2 = some (27, (.if_icmp .ne 25), 3, 52, 0) := by decide +kernel
theorem gx275_30 : aF 30 zM275.2.2.2.2.2.2.2 = some (30, (.aload_n 0), 1, 0, 0) := by decide +kernel
theorem gx275_31 : aF 31 zM275.2.2.2.2.2.2.2 = some (31, (.iload 5), 2, 0, 0) := by decide +kernel
theorem gx275_33 : aF 33 zM275.2.2.2.2.2.2.2 = some (33, (.sipush 365), 3, 0, 0) := by decide +kernel
theorem gx275_36 : aF 36 zM275.2.2.2.2.2.2.2 = some (36, (.iload_n 2), 1, 0, 0) := by decide +kernel
theorem gx275_37 : aF 37 zM275.2.2.2.2.2.2.2 = some (37, .imul, 1, 0, 0) := by decide +kernel
theorem gx275_38 : aF 38 zM275.2.2.2.2.2.2.2 = some (38, (.sipush 365), 3, 0, 0) := by decide +kernel
theorem gx275_41 : aF 41 zM275.2.2.2.2.2.2.2 = some (41, .iadd, 1, 0, 0) := by decide +kernel
theorem gx275_42 : aF 42 zM275.2.2.2.2.2.2.2 = some (42, (.iconst 1), 1, 0, 0) := by decide +kernel
theorem gx275_43 : aF 43 zM275.2.2.2.2.2.2.2 = some (43, .isub, 1, 0, 0) := by decide +kernel
theorem gx275_44 : aF 44 zM275.2.2.2.2.2.2.2 = some (44, (.iload_n 3), 1, 0, 0) := by decide +kernel
theorem gx275_45 : aF 45 zM275.2.2.2.2.2.2.2 = some (45, (.invokevirtual 331), 3, 226, 0) := by decide +kernel
theorem gx275_48 : aF 48 zM275.2.2.2.2.2.2.2 = some (48, (.iload_n 1), 1, 0, 0) := by decide +kernel
theorem gx275_49 : aF 49 zM275.2.2.2.2.2.2.2 = some (49, (.if_icmp .eq 7), 3, 56, 0) := by decide +kernel
theorem gx275_56 : aF 56 zM275.2.2.2.2.2.2.2 = some (56, (.iconst 0), 1, 0, 0) := by decide +kernel
theorem gx275_52 : aF 52 zM275.2.2.2.2.2.2.2 = some (52, (.iconst 1), 1, 0, 0) := by decide +kernel
theorem gx275_53 : aF 53 zM275.2.2.2.2.2.2.2 = some (53, (.goto 4), 3, 57, 0) := by decide +kernel
theorem gx275_57 : aF 57 zM275.2.2.2.2.2.2.2 = some (57, .bastore, 1, 0, 0) := by decide +kernel
theorem gx275_58 : aF 58 zM275.2.2.2.2.2.2.2 = some (58, (.iinc 5 1), 3, 0, 0) := by decide +kernel
theorem gx275_61 : aF 61 zM275.2.2.2.2.2.2.2 = some (61, (.goto (-58)), 3, 3, 0) := by decide +kernel
theorem gx275_71 : aF 71 zM275.2.2.2.2.2.2.2 = some (71, (.iload 7), 2, 0, 0) := by decide +kernel
theorem gx275_73 : aF 73 zM275.2.2.2.2.2.2.2 = some (73, (.ifCond .le 96), 3, 169, 0) := by decide +kernel
theorem gx275_169 : aF 169 zM275.2.2.2.2.2.2.2 = some (169, (.lload 5), 2, 0, 0) := by decide +kernel
theorem gx275_171 : aF 171 zM275.2.2.2.2.2.2.2 = some (171, .lreturn, 1, 0, 0) := by decide +kernel
theorem gx275_76 : aF 76 zM275.2.2.2.2.2.2.2 = some (76, (.iconst (-1)), 1, 0, 0) := by decide +kernel
theorem gx275_77 : aF 77 zM275.2.2.2.2.2.2.2 = some (77, (.istore 8), 2, 0, 0) := by decide +kernel
theorem gx275_79 : aF 79 zM275.2.2.2.2.2.2.2 = some (79, (.iconst 0), 1, 0, 0) := by decide +kernel
theorem gx275_80 : aF 80 zM275.2.2.2.2.2.2.2 = some (80, (.istore 9), 2, 0, 0) := by decide +kernel
theorem gx275_82 : aF 82 zM275.2.2.2.2.2.2.2 = some (82, (.iload 9), 2, 0, 0) := by decide +kernel
theorem gx275_84 : aF 84 zM275.2.2.2.2.2.2.2 = some (84, (.aload_n 0), 1, 0, 0) := by decide +kernel
theorem gx275_85 : aF 85 zM275.2.2.2.2.2.2.2 = some (85, (.getfield 265), 3, 12, 2) := by decide +kernel
theorem gx275_88 : aF 88 zM275.2.2.2.2.2.2.2 = some (88, (.if_icmp .ge 45), 3, 133, 0) := by decide +kernel
theorem gx275_133 : aF 133 zM275.2.2.2.2.2.2.2 = some (133, (.aload_n 0), 1, 0, 0) := by decide +kernel
theorem gx275_134 : aF 134 zM275.2.2.2.2.2.2.2 = some (134, (.getfield 185), 3, 12, 73) := by decide +kernel
theorem gx275_137 : aF 137 zM275.2.2.2.2.2.2.2 = some (137, (.iload 8), 2, 0, 0) := by decide +kernel
theorem gx275_139 : aF 139 zM275.2.2.2.2.2.2.2 = some (139, (.iconst 1), 1, 0, 0) := by decide +kernel
theorem gx275_140 : aF 140 zM275.2.2.2.2.2.2.2 = some (140, .bastore, 1, 0, 0) := by decide +kernel
theorem gx275_141 : aF 141 zM275.2.2.2.2.2.2.2 = some (141, (.lload 5), 2, 0, 0) := by decide +kernel
theorem gx275_143 : aF 143 zM275.2.2.2.2.2.2.2 = some (143, (.aload_n 0), 1, 0, 0) := by decide +kernel
theorem gx275_144 : aF 144 zM275.2.2.2.2.2.2.2 = some (144, (.getfield 28), 3, 12, 9) := by decide +kernel
theorem gx275_147 : aF 147 zM275.2.2.2.2.2.2.2 = some (147, (.iload 8), 2, 0, 0) := by decide +kernel
theorem gx275_149 : aF 149 zM275.2.2.2.2.2.2.2 = some (149, .iaload, 1, 0, 0) := by decide +kernel
theorem gx275_150 : aF 150 zM275.2.2.2.2.2.2.2 = some (150, .i2l, 1, 0, 0) := by decide +kernel
theorem gx275_151 : aF 151 zM275.2.2.2.2.2.2.2 = some (151, (.bipush 10), 2, 0, 0) := by decide +kernel
theorem gx275_153 : aF 153 zM275.2.2.2.2.2.2.2 = some (153, (.iload 7), 2, 0, 0) := by decide +kernel
theorem gx275_155 : aF 155 zM275.2.2.2.2.2.2.2 = some (155, (.invokestatic 289), 3, 211, 0) := by decide +kernel
theorem gx275_158 : aF 158 zM275.2.2.2.2.2.2.2 = some (158, .i2l, 1, 0, 0) := by decide +kernel
theorem gx275_159 : aF 159 zM275.2.2.2.2.2.2.2 = some (159, .lmul, 1, 0, 0) := by decide +kernel
theorem gx275_160 : aF 160 zM275.2.2.2.2.2.2.2 = some (160, .ladd, 1, 0, 0) := by decide +kernel
theorem gx275_161 : aF 161 zM275.2.2.2.2.2.2.2 = some (161, (.lstore 5), 2, 0, 0) := by decide +kernel
theorem gx275_163 : aF 163 zM275.2.2.2.2.2.2.2 = some (163, (.iinc 7 (-10)), 3, 0, 0) := by decide +kernel
theorem gx275_166 : aF 166 zM275.2.2.2.2.2.2.2 = some (166, (.goto (-95)), 3, 71, 0) := by decide +kernel
theorem gx275_91 : aF 91 zM275.2.2.2.2.2.2.2 = some (91, (.aload_n 0), 1, 0, 0) := by decide +kernel
theorem gx275_92 : aF 92 zM275.2.2.2.2.2.2.2 = some (92, (.getfield 185), 3, 12, 73) := by decide +kernel
theorem gx275_95 : aF 95 zM275.2.2.2.2.2.2.2 = some (95, (.iload 9), 2, 0, 0) := by decide +kernel
theorem gx275_97 : aF 97 zM275.2.2.2.2.2.2.2 = some (97, .baload, 1, 0, 0) := by decide +kernel
theorem gx275_98 : aF 98 zM275.2.2.2.2.2.2.2 = some (98, (.ifCond .ne 29), 3, 127, 0) := by decide +kernel
theorem gx275_101 : aF 101 zM275.2.2.2.2.2.2.2 = some (101, (.iload 8), 2, 0, 0) := by decide +kernel
theorem gx275_103 : aF 103 zM275.2.2.2.2.2.2.2 = some (103, (.ifCond .lt 20), 3, 123, 0) := by decide +kernel
theorem gx275_106 : aF 106 zM275.2.2.2.2.2.2.2 = some (106, (.aload_n 0), 1, 0, 0) := by decide +kernel
theorem gx275_107 : aF 107 zM275.2.2.2.2.2.2.2 = some (107, (.getfield 28), 3, 12, 9) := by decide +kernel
theorem gx275_110 : aF 110 zM275.2.2.2.2.2.2.2 = some (110, (.iload 9), 2, 0, 0) := by decide +kernel
theorem gx275_112 : aF 112 zM275.2.2.2.2.2.2.2 = some (112, .iaload, 1, 0, 0) := by decide +kernel
theorem gx275_113 : aF 113 zM275.2.2.2.2.2.2.2 = some (113, (.aload_n 0), 1, 0, 0) := by decide +kernel
theorem gx275_114 : aF 114 zM275.2.2.2.2.2.2.2 = some (114, (.getfield 28), 3, 12, 9) := by decide +kernel
theorem gx275_117 : aF 117 zM275.2.2.2.2.2.2.2 = some (117, (.iload 8), 2, 0, 0) := by decide +kernel
theorem gx275_119 : aF 119 zM275.2.2.2.2.2.2.2 = some (119, .iaload, 1, 0, 0) := by decide +kernel
theorem gx275_120 : aF 120 zM275.2.2.2.2.2.2.2 = some (120, (.if_icmp .le 7), 3, 127, 0) := by decide +kernel
theorem gx275_123 : aF 123 zM275.2.2.2.2.2.2.2 = some (123, (.iload 9), 2, 0, 0) := by decide +kernel
theorem gx275_125 : aF 125 zM275.2.2.2.2.2.2.2 = some (125, (.istore 8), 2, 0, 0) := by decide +kernel
theorem gx275_127 : aF 127 zM275.2.2.2.2.2.2.2 = some (127, (.iinc 9 1), 3, 0, 0) := by decide +kernel
theorem gx275_130 : aF 130 zM275.2.2.2.2.2.2.2 = some (130, (.goto (-48)), 3, 82, 0) := by decide +kernel
theorem gx276_0 : aF 0 zM276.2.2.2.2.2.2.2 = some (0, (.lload_n 0), 1, 0, 0) := by decide +kernel
theorem gx276_1 : aF 1 zM276.2.2.2.2.2.2.2 = some (1, (.lconst 0), 1, 0, 0) := by decide +kernel
theorem gx276_2 : aF 2 zM276.2.2.2.2.2.2.2 = some (2, .lcmp, 1, 0, 0) := by decide +kernel
theorem gx276_3 : aF 3 zM276.2.2.2.2.2.2.2 = some (3, (.ifCond .ge 7), 3, 10, 0) := by decide +kernel
theorem gx276_10 : aF 10 zM276.2.2.2.2.2.2.2 = some (10, (.lload_n 0), 1, 0, 0) := by decide +kernel
theorem gx276_11 : aF 11 zM276.2.2.2.2.2.2.2 = some (11, (.ldc2_w 477), 3, 2000000000, 0) := by decide +kernel
theorem gx276_14 : aF 14 zM276.2.2.2.2.2.2.2 = some (14, .lcmp, 1, 0, 0) := by decide +kernel
theorem gx276_15 : aF 15 zM276.2.2.2.2.2.2.2 = some (15, (.ifCond .le 9), 3, 24, 0) := by decide +kernel
theorem gx276_24 : aF 24 zM276.2.2.2.2.2.2.2 = some (24, (.lload_n 0), 1, 0, 0) := by decide +kernel
theorem gx276_25 : aF 25 zM276.2.2.2.2.2.2.2 = some (25, .l2i, 1, 0, 0) := by decide +kernel
theorem gx276_26 : aF 26 zM276.2.2.2.2.2.2.2 = some (26, .ireturn, 1, 0, 0) := by decide +kernel
theorem gx276_18 : aF 18 zM276.2.2.2.2.2.2.2 = some (18, (.ldc_w 479), 3, 2000000000, 0) := by decide +kernel
theorem gx276_21 : aF 21 zM276.2.2.2.2.2.2.2 = some (21, (.goto 5), 3, 26, 0) := by decide +kernel
theorem gx276_6 : aF 6 zM276.2.2.2.2.2.2.2 = some (6, (.iconst 0), 1, 0, 0) := by decide +kernel
theorem gx276_7 : aF 7 zM276.2.2.2.2.2.2.2 = some (7, (.goto 19), 3, 26, 0) := by decide +kernel
theorem gx277_0 : aF 0 zM277.2.2.2.2.2.2.2 = some (0, (.aload_n 0), 1, 0, 0) := by decide +kernel
theorem gx277_1 : aF 1 zM277.2.2.2.2.2.2.2 = some (1, (.iload_n 1), 1, 0, 0) := by decide +kernel
theorem gx277_2 : aF 2 zM277.2.2.2.2.2.2.2 = some (2, (.iload_n 2), 1, 0, 0) := by decide +kernel
theorem gx277_3 : aF 3 zM277.2.2.2.2.2.2.2 = some (3, (.iload_n 3), 1, 0, 0) := by decide +kernel
theorem gx277_4 : aF 4 zM277.2.2.2.2.2.2.2 = some (4, (.invokevirtual 473), 3, 272, 0) := by decide +kernel
theorem gx277_7 : aF 7 zM277.2.2.2.2.2.2.2 = some (7, (.bipush 10), 2, 0, 0) := by decide +kernel
theorem gx277_9 : aF 9 zM277.2.2.2.2.2.2.2 = some (9, (.aload_n 0), 1, 0, 0) := by decide +kernel
theorem gx277_10 : aF 10 zM277.2.2.2.2.2.2.2 = some (10, (.getfield 13), 3, 12, 4) := by decide +kernel
theorem gx277_13 : aF 13 zM277.2.2.2.2.2.2.2 = some (13, (.iload_n 1), 1, 0, 0) := by decide +kernel
theorem gx277_14 : aF 14 zM277.2.2.2.2.2.2.2 = some (14, .iaload, 1, 0, 0) := by decide +kernel
theorem gx277_15 : aF 15 zM277.2.2.2.2.2.2.2 = some (15, .imul, 1, 0, 0) := by decide +kernel
theorem gx277_16 : aF 16 zM277.2.2.2.2.2.2.2 = some (16, (.istore 5), 2, 0, 0) := by decide +kernel
theorem gx277_18 : aF 18 zM277.2.2.2.2.2.2.2 = some (18, (.aload_n 0), 1, 0, 0) := by decide +kernel
theorem gx277_19 : aF 19 zM277.2.2.2.2.2.2.2 = some (19, (.getfield 176), 3, 12, 69) := by decide +kernel
theorem gx277_22 : aF 22 zM277.2.2.2.2.2.2.2 = some (22, (.iconst 3), 1, 0, 0) := by decide +kernel
theorem gx277_23 : aF 23 zM277.2.2.2.2.2.2.2 = some (23, .iaload, 1, 0, 0) := by decide +kernel
theorem gx277_24 : aF 24 zM277.2.2.2.2.2.2.2 = some (24, (.bipush 10), 2, 0, 0) := by decide +kernel
theorem gx277_26 : aF 26 zM277.2.2.2.2.2.2.2 = some (26, (.aload_n 0), 1, 0, 0) := by decide +kernel
theorem gx277_27 : aF 27 zM277.2.2.2.2.2.2.2 = some (27, (.getfield 176), 3, 12, 69) := by decide +kernel
theorem gx277_30 : aF 30 zM277.2.2.2.2.2.2.2 = some (30, (.bipush 9), 2, 0, 0) := by decide +kernel
theorem gx277_32 : aF 32 zM277.2.2.2.2.2.2.2 = some (32, .iaload, 1, 0, 0) := by decide +kernel
theorem gx277_33 : aF 33 zM277.2.2.2.2.2.2.2 = some (33, .imul, 1, 0, 0) := by decide +kernel
theorem gx277_34 : aF 34 zM277.2.2.2.2.2.2.2 = some (34, (.invokestatic 289), 3, 211, 0) := by decide +kernel
theorem gx277_37 : aF 37 zM277.2.2.2.2.2.2.2 = some (37, (.istore 6), 2, 0, 0) := by decide +kernel
theorem gx277_39 : aF 39 zM277.2.2.2.2.2.2.2 = some (39, (.iload 4), 2, 0, 0) := by decide +kernel
theorem gx277_41 : aF 41 zM277.2.2.2.2.2.2.2 = some (41, (.ifCond .lt 8), 3, 49, 0) := by decide +kernel
theorem gx277_49 : aF 49 zM277.2.2.2.2.2.2.2 = some (49, (.aload_n 0), 1, 0, 0) := by decide +kernel
theorem gx277_50 : aF 50 zM277.2.2.2.2.2.2.2 = some (50, (.iload 5), 2, 0, 0) := by decide +kernel
theorem gx277_52 : aF 52 zM277.2.2.2.2.2.2.2 = some (52, (.iload_n 2), 1, 0, 0) := by decide +kernel
theorem gx277_53 : aF 53 zM277.2.2.2.2.2.2.2 = some (53, (.iload_n 3), 1, 0, 0) := by decide +kernel
theorem gx277_54 : aF 54 zM277.2.2.2.2.2.2.2 = some (54, (.invokevirtual 451), 3, 265, 0) := by decide +kernel
theorem gx277_44 : aF 44 zM277.2.2.2.2.2.2.2 = some (44, (.iload 4), 2, 0, 0) := by decide +kernel
theorem gx277_46 : aF 46 zM277.2.2.2.2.2.2.2 = some (46, (.goto 11), 3, 57, 0) := by decide +kernel
theorem gx277_57 : aF 57 zM277.2.2.2.2.2.2.2 = some (57, (.istore 7), 2, 0, 0) := by decide +kernel
theorem gx277_59 : aF 59 zM277.2.2.2.2.2.2.2 = some (59, (.iload 7), 2, 0, 0) := by decide +kernel
theorem gx277_61 : aF 61 zM277.2.2.2.2.2.2.2 = some (61, (.ifCond .ge 7), 3, 68, 0) := by decide +kernel
theorem gx277_68 : aF 68 zM277.2.2.2.2.2.2.2 = some (68, (.aload_n 0), 1, 0, 0) := by decide +kernel
theorem gx277_69 : aF 69 zM277.2.2.2.2.2.2.2 = some (69, (.iload 7), 2, 0, 0) := by decide +kernel
theorem gx277_71 : aF 71 zM277.2.2.2.2.2.2.2 = some (71, (.invokevirtual 480), 3, 269, 0) := by decide +kernel
theorem gx277_74 : aF 74 zM277.2.2.2.2.2.2.2 = some (74, .i2l, 1, 0, 0) := by decide +kernel
theorem gx277_64 : aF 64 zM277.2.2.2.2.2.2.2 = some (64, (.lconst 1), 1, 0, 0) := by decide +kernel
theorem gx277_65 : aF 65 zM277.2.2.2.2.2.2.2 = some (65, (.goto 10), 3, 75, 0) := by decide +kernel
theorem gx277_75 : aF 75 zM277.2.2.2.2.2.2.2 = some (75, (.lstore 8), 2, 0, 0) := by decide +kernel
theorem gx277_77 : aF 77 zM277.2.2.2.2.2.2.2 = some (77, (.lload 8), 2, 0, 0) := by decide +kernel
theorem gx277_79 : aF 79 zM277.2.2.2.2.2.2.2 = some (79, (.iload 6), 2, 0, 0) := by decide +kernel
theorem gx277_81 : aF 81 zM277.2.2.2.2.2.2.2 = some (81, .i2l, 1, 0, 0) := by decide +kernel
theorem gx277_82 : aF 82 zM277.2.2.2.2.2.2.2 = some (82, .lmul, 1, 0, 0) := by decide +kernel
theorem gx277_83 : aF 83 zM277.2.2.2.2.2.2.2 = some (83, (.aload_n 0), 1, 0, 0) := by decide +kernel
theorem gx277_84 : aF 84 zM277.2.2.2.2.2.2.2 = some (84, (.iload_n 1), 1, 0, 0) := by decide +kernel
theorem gx277_85 : aF 85 zM277.2.2.2.2.2.2.2 = some (85, (.iload_n 2), 1, 0, 0) := by decide +kernel
theorem gx277_86 : aF 86 zM277.2.2.2.2.2.2.2 = some (86, (.iload_n 3), 1, 0, 0) := by decide +kernel
theorem gx277_87 : aF 87 zM277.2.2.2.2.2.2.2 = some (87, (.iload 6), 2, 0, 0) := by decide +kernel
theorem gx277_89 : aF 89 zM277.2.2.2.2.2.2.2 = some (89, (.invokevirtual 483), 3, 275, 0) := by decide +kernel
theorem gx277_92 : aF 92 zM277.2.2.2.2.2.2.2 = some (92, .ladd, 1, 0, 0) := by decide +kernel
theorem gx277_93 : aF 93 zM277.2.2.2.2.2.2.2 = some (93, (.invokestatic 487), 3, 276, 0) := by decide +kernel
theorem gx277_96 : aF 96 zM277.2.2.2.2.2.2.2 = some (96, (.istore 10), 2, 0, 0) := by decide +kernel
theorem gx277_98 : aF 98 zM277.2.2.2.2.2.2.2 = some (98, (.aload_n 0), 1, 0, 0) := by decide +kernel
theorem gx277_99 : aF 99 zM277.2.2.2.2.2.2.2 = some (99, (.getfield 188), 3, 12, 74) := by decide +kernel
theorem gx277_102 : aF 102 zM277.2.2.2.2.2.2.2 = some (102, (.iconst 1), 1, 0, 0) := by decide +kernel
theorem gx277_103 : aF 103 zM277.2.2.2.2.2.2.2 = some (103, (.iload 10), 2, 0, 0) := by decide +kernel
theorem gx277_105 : aF 105 zM277.2.2.2.2.2.2.2 = some (105, .iastore, 1, 0, 0) := by decide +kernel
theorem gx277_106 : aF 106 zM277.2.2.2.2.2.2.2 = some (106, (.aload_n 0), 1, 0, 0) := by decide +kernel
theorem gx277_107 : aF 107 zM277.2.2.2.2.2.2.2 = some (107, (.iload 5), 2, 0, 0) := by decide +kernel
theorem gx277_109 : aF 109 zM277.2.2.2.2.2.2.2 = some (109, (.iconst 1), 1, 0, 0) := by decide +kernel
theorem gx277_110 : aF 110 zM277.2.2.2.2.2.2.2 = some (110, .iadd, 1, 0, 0) := by decide +kernel
theorem gx277_111 : aF 111 zM277.2.2.2.2.2.2.2 = some (111, (.iload_n 2), 1, 0, 0) := by decide +kernel
theorem gx277_112 : aF 112 zM277.2.2.2.2.2.2.2 = some (112, (.iload_n 3), 1, 0, 0) := by decide +kernel
theorem gx277_113 : aF 113 zM277.2.2.2.2.2.2.2 = some (113, (.invokevirtual 451), 3, 265, 0) := by decide +kernel
theorem gx277_116 : aF 116 zM277.2.2.2.2.2.2.2 = some (116, (.istore 7), 2, 0, 0) := by decide +kernel
theorem gx277_118 : aF 118 zM277.2.2.2.2.2.2.2 = some (118, (.iload 7), 2, 0, 0) := by decide +kernel
theorem gx277_120 : aF 120 zM277.2.2.2.2.2.2.2 = some (120, (.ifCond .lt 12), 3, 132, 0) := by decide +kernel
theorem gx277_123 : aF 123 zM277.2.2.2.2.2.2.2 = some (123, (.aload_n 0), 1, 0, 0) := by decide +kernel
theorem gx277_124 : aF 124 zM277.2.2.2.2.2.2.2 = some (124, (.iload 7), 2, 0, 0) := by decide +kernel
theorem gx277_126 : aF 126 zM277.2.2.2.2.2.2.2 = some (126, (.invokevirtual 480), 3, 269, 0) := by decide +kernel
theorem gx277_129 : aF 129 zM277.2.2.2.2.2.2.2 = some (129, (.ifCond .eq 23), 3, 152, 0) := by decide +kernel
theorem gx277_132 : aF 132 zM277.2.2.2.2.2.2.2 = some (132, (.iload 10), 2, 0, 0) := by decide +kernel
theorem gx277_134 : aF 134 zM277.2.2.2.2.2.2.2 = some (134, .i2l, 1, 0, 0) := by decide +kernel
theorem gx277_135 : aF 135 zM277.2.2.2.2.2.2.2 = some (135, (.ldc2_w 491), 3, 3, 0) := by decide +kernel
theorem gx277_138 : aF 138 zM277.2.2.2.2.2.2.2 = some (138, (.iload 10), 2, 0, 0) := by decide +kernel
theorem gx277_140 : aF 140 zM277.2.2.2.2.2.2.2 = some (140, .i2l, 1, 0, 0) := by decide +kernel
theorem gx277_141 : aF 141 zM277.2.2.2.2.2.2.2 = some (141, .lmul, 1, 0, 0) := by decide +kernel
theorem gx277_142 : aF 142 zM277.2.2.2.2.2.2.2 = some (142, (.ldc2_w 493), 3, 10, 0) := by decide +kernel
theorem gx277_145 : aF 145 zM277.2.2.2.2.2.2.2 = some (145, .ldiv, 1, 0, 0) := by decide +kernel
theorem gx277_146 : aF 146 zM277.2.2.2.2.2.2.2 = some (146, .ladd, 1, 0, 0) := by decide +kernel
theorem gx277_147 : aF 147 zM277.2.2.2.2.2.2.2 = some (147, (.invokestatic 487), 3, 276, 0) := by decide +kernel
theorem gx277_150 : aF 150 zM277.2.2.2.2.2.2.2 = some (150, (.istore 10), 2, 0, 0) := by decide +kernel
theorem gx277_152 : aF 152 zM277.2.2.2.2.2.2.2 = some (152, (.aload_n 0), 1, 0, 0) := by decide +kernel
theorem gx277_153 : aF 153 zM277.2.2.2.2.2.2.2 = some (153, (.getfield 188), 3, 12, 74) := by decide +kernel
theorem gx277_156 : aF 156 zM277.2.2.2.2.2.2.2 = some (156, (.iconst 2), 1, 0, 0) := by decide +kernel
theorem gx277_157 : aF 157 zM277.2.2.2.2.2.2.2 = some (157, (.iload 10), 2, 0, 0) := by decide +kernel
theorem gx277_159 : aF 159 zM277.2.2.2.2.2.2.2 = some (159, .iastore, 1, 0, 0) := by decide +kernel
theorem gx277_160 : aF 160 zM277.2.2.2.2.2.2.2 = some (160, (.aload_n 0), 1, 0, 0) := by decide +kernel
theorem gx277_161 : aF 161 zM277.2.2.2.2.2.2.2 = some (161, (.iload 5), 2, 0, 0) := by decide +kernel
theorem gx277_163 : aF 163 zM277.2.2.2.2.2.2.2 = some (163, (.iconst 2), 1, 0, 0) := by decide +kernel
theorem gx277_164 : aF 164 zM277.2.2.2.2.2.2.2 = some (164, .iadd, 1, 0, 0) := by decide +kernel
theorem gx277_165 : aF 165 zM277.2.2.2.2.2.2.2 = some (165, (.iload_n 2), 1, 0, 0) := by decide +kernel
theorem gx277_166 : aF 166 zM277.2.2.2.2.2.2.2 = some (166, (.iload_n 3), 1, 0, 0) := by decide +kernel
theorem gx277_167 : aF 167 zM277.2.2.2.2.2.2.2 = some (167, (.invokevirtual 451), 3, 265, 0) := by decide +kernel
theorem gx277_170 : aF 170 zM277.2.2.2.2.2.2.2 = some (170, (.istore 7), 2, 0, 0) := by decide +kernel
theorem gx277_172 : aF 172 zM277.2.2.2.2.2.2.2 = some (172, (.aload_n 0), 1, 0, 0) := by decide +kernel
theorem gx277_173 : aF 173 zM277.2.2.2.2.2.2.2 = some (173, (.getfield 176), 3, 12, 69) := by decide +kernel
theorem gx277_176 : aF 176 zM277.2.2.2.2.2.2.2 = some (176, (.bipush 10), 2, 0, 0) := by decide +kernel
theorem gx277_178 : aF 178 zM277.2.2.2.2.2.2.2 = some (178, (.iload 10), 2, 0, 0) := by decide +kernel
theorem gx277_180 : aF 180 zM277.2.2.2.2.2.2.2 = some (180, .iastore, 1, 0, 0) := by decide +kernel
theorem gx277_181 : aF 181 zM277.2.2.2.2.2.2.2 = some (181, (.iload 7), 2, 0, 0) := by decide +kernel
theorem gx277_183 : aF 183 zM277.2.2.2.2.2.2.2 = some (183, (.ifCond .lt 29), 3, 212, 0) := by decide +kernel
theorem gx277_186 : aF 186 zM277.2.2.2.2.2.2.2 = some (186, (.aload_n 0), 1, 0, 0) := by decide +kernel
theorem gx277_187 : aF 187 zM277.2.2.2.2.2.2.2 = some (187, (.iload 7), 2, 0, 0) := by decide +kernel
theorem gx277_189 : aF 189 zM277.2.2.2.2.2.2.2 = some (189, (.invokevirtual 480), 3, 269, 0) := by decide +kernel
theorem gx277_192 : aF 192 zM277.2.2.2.2.2.2.2 = some (192, (.istore 11), 2, 0, 0) := by decide +kernel
theorem gx277_194 : aF 194 zM277.2.2.2.2.2.2.2 = some (194, (.iload 11), 2, 0, 0) := by decide +kernel
theorem gx277_196 : aF 196 zM277.2.2.2.2.2.2.2 = some (196, (.ifCond .ge 7), 3, 203, 0) := by decide +kernel
theorem gx277_203 : aF 203 zM277.2.2.2.2.2.2.2 = some (203, (.iload 11), 2, 0, 0) := by decide +kernel
theorem gx277_205 : aF 205 zM277.2.2.2.2.2.2.2 = some (205, (.iload 10), 2, 0, 0) := by decide +kernel
theorem gx277_207 : aF 207 zM277.2.2.2.2.2.2.2 = some (207, (.invokestatic 289), 3, 211, 0) := by decide +kernel
theorem gx277_199 : aF 199 zM277.2.2.2.2.2.2.2 = some (199, (.iconst 0), 1, 0, 0) := by decide +kernel
theorem gx277_200 : aF 200 zM277.2.2.2.2.2.2.2 = some (200, (.goto 10), 3, 210, 0) := by decide +kernel
theorem gx277_210 : aF 210 zM277.2.2.2.2.2.2.2 = some (210, (.istore 10), 2, 0, 0) := by decide +kernel
theorem gx277_212 : aF 212 zM277.2.2.2.2.2.2.2 = some (212, (.aload_n 0), 1, 0, 0) := by decide +kernel
theorem gx277_213 : aF 213 zM277.2.2.2.2.2.2.2 = some (213, (.getfield 176), 3, 12, 69) := by decide +kernel
theorem gx277_216 : aF 216 zM277.2.2.2.2.2.2.2 = some (216, (.bipush 10), 2, 0, 0) := by decide +kernel
theorem gx277_218 : aF 218 zM277.2.2.2.2.2.2.2 = some (218, (.iconst 0), 1, 0, 0) := by decide +kernel
theorem gx277_219 : aF 219 zM277.2.2.2.2.2.2.2 = some (219, .iastore, 1, 0, 0) := by decide +kernel
theorem gx277_220 : aF 220 zM277.2.2.2.2.2.2.2 = some (220, (.aload_n 0), 1, 0, 0) := by decide +kernel
theorem gx277_221 : aF 221 zM277.2.2.2.2.2.2.2 = some (221, (.getfield 188), 3, 12, 74) := by decide +kernel
theorem gx277_224 : aF 224 zM277.2.2.2.2.2.2.2 = some (224, (.iconst 3), 1, 0, 0) := by decide +kernel
theorem gx277_225 : aF 225 zM277.2.2.2.2.2.2.2 = some (225, (.iload 10), 2, 0, 0) := by decide +kernel
theorem gx277_227 : aF 227 zM277.2.2.2.2.2.2.2 = some (227, .iastore, 1, 0, 0) := by decide +kernel
theorem gx277_228 : aF 228 zM277.2.2.2.2.2.2.2 = some (228, (.aload_n 0), 1, 0, 0) := by decide +kernel
theorem gx277_229 : aF 229 zM277.2.2.2.2.2.2.2 = some (229, (.iload 5), 2, 0, 0) := by decide +kernel
theorem gx277_231 : aF 231 zM277.2.2.2.2.2.2.2 = some (231, (.iconst 3), 1, 0, 0) := by decide +kernel
theorem gx277_232 : aF 232 zM277.2.2.2.2.2.2.2 = some (232, .iadd, 1, 0, 0) := by decide +kernel
theorem gx277_233 : aF 233 zM277.2.2.2.2.2.2.2 = some (233, (.iload_n 2), 1, 0, 0) := by decide +kernel
theorem gx277_234 : aF 234 zM277.2.2.2.2.2.2.2 = some (234, (.iload_n 3), 1, 0, 0) := by decide +kernel
theorem gx277_235 : aF 235 zM277.2.2.2.2.2.2.2 = some (235, (.invokevirtual 451), 3, 265, 0) := by decide +kernel
theorem gx277_238 : aF 238 zM277.2.2.2.2.2.2.2 = some (238, (.istore 7), 2, 0, 0) := by decide +kernel
theorem gx277_240 : aF 240 zM277.2.2.2.2.2.2.2 = some (240, (.iconst 0), 1, 0, 0) := by decide +kernel
theorem gx277_241 : aF 241 zM277.2.2.2.2.2.2.2 = some (241, (.istore 11), 2, 0, 0) := by decide +kernel
theorem gx277_243 : aF 243 zM277.2.2.2.2.2.2.2 = some (243, (.aload_n 0), 1, 0, 0) := by decide +kernel
theorem gx277_244 : aF 244 zM277.2.2.2.2.2.2.2 = some (244, (.iconst (-1)), 1, 0, 0) := by decide +kernel
theorem gx277_245 : aF 245 zM277.2.2.2.2.2.2.2 = some (245, (.putfield 495), 3, 12, 75) := by decide +kernel
theorem gx277_248 : aF 248 zM277.2.2.2.2.2.2.2 = some (248, (.iload 7), 2, 0, 0) := by decide +kernel
theorem gx277_250 : aF 250 zM277.2.2.2.2.2.2.2 = some (250, (.ifCond .lt 37), 3, 287, 0) := by decide +kernel
theorem gx277_253 : aF 253 zM277.2.2.2.2.2.2.2 = some (253, (.aload_n 0), 1, 0, 0) := by decide +kernel
theorem gx277_254 : aF 254 zM277.2.2.2.2.2.2.2 = some (254, (.iload 7), 2, 0, 0) := by decide +kernel
theorem gx277_256 : aF 256 zM277.2.2.2.2.2.2.2 = some (256, (.invokevirtual 480), 3, 269, 0) := by decide +kernel
theorem gx277_259 : aF 259 zM277.2.2.2.2.2.2.2 = some (259, (.istore 12), 2, 0, 0) := by decide +kernel
theorem gx277_261 : aF 261 zM277.2.2.2.2.2.2.2 = some (261, (.aload_n 0), 1, 0, 0) := by decide +kernel
theorem gx277_262 : aF 262 zM277.2.2.2.2.2.2.2 = some (262, (.aload_n 0), 1, 0, 0) := by decide +kernel
theorem gx277_263 : aF 263 zM277.2.2.2.2.2.2.2 = some (263, (.getfield 460), 3, 12, 71) := by decide +kernel
theorem gx277_266 : aF 266 zM277.2.2.2.2.2.2.2 = some (266, (.putfield 495), 3, 12, 75) := by decide +kernel
theorem gx277_269 : aF 269 zM277.2.2.2.2.2.2.2 = some (269, (.iload 12), 2, 0, 0) := by decide +kernel
theorem gx277_271 : aF 271 zM277.2.2.2.2.2.2.2 = some (271, (.ifCond .ge 7), 3, 278, 0) := by decide +kernel
theorem gx277_278 : aF 278 zM277.2.2.2.2.2.2.2 = some (278, (.iload 12), 2, 0, 0) := by decide +kernel
theorem gx277_280 : aF 280 zM277.2.2.2.2.2.2.2 = some (280, (.bipush 100), 2, 0, 0) := by decide +kernel
theorem gx277_282 : aF 282 zM277.2.2.2.2.2.2.2 = some (282, (.invokestatic 289), 3, 211, 0) := by decide +kernel
theorem gx277_274 : aF 274 zM277.2.2.2.2.2.2.2 = some (274, (.iconst 0), 1, 0, 0) := by decide +kernel
theorem gx277_275 : aF 275 zM277.2.2.2.2.2.2.2 = some (275, (.goto 10), 3, 285, 0) := by decide +kernel
theorem gx277_285 : aF 285 zM277.2.2.2.2.2.2.2 = some (285, (.istore 11), 2, 0, 0) := by decide +kernel
theorem gx277_287 : aF 287 zM277.2.2.2.2.2.2.2 = some (287, (.aload_n 0), 1, 0, 0) := by decide +kernel
theorem gx277_288 : aF 288 zM277.2.2.2.2.2.2.2 = some (288, (.getfield 176), 3, 12, 69) := by decide +kernel
theorem gx277_291 : aF 291 zM277.2.2.2.2.2.2.2 = some (291, (.bipush 11), 2, 0, 0) := by decide +kernel
theorem gx277_293 : aF 293 zM277.2.2.2.2.2.2.2 = some (293, .iaload, 1, 0, 0) := by decide +kernel
theorem gx277_294 : aF 294 zM277.2.2.2.2.2.2.2 = some (294, (.ifCond .ne 24), 3, 318, 0) := by decide +kernel
theorem gx277_297 : aF 297 zM277.2.2.2.2.2.2.2 = some (297, (.iload 10), 2, 0, 0) := by decide +kernel
theorem gx277_299 : aF 299 zM277.2.2.2.2.2.2.2 = some (299, (.iload 10), 2, 0, 0) := by decide +kernel
theorem gx277_301 : aF 301 zM277.2.2.2.2.2.2.2 = some (301, .i2l, 1, 0, 0) := by decide +kernel
theorem gx277_302 : aF 302 zM277.2.2.2.2.2.2.2 = some (302, (.iload 11), 2, 0, 0) := by decide +kernel
theorem gx277_304 : aF 304 zM277.2.2.2.2.2.2.2 = some (304, .i2l, 1, 0, 0) := by decide +kernel
theorem gx277_305 : aF 305 zM277.2.2.2.2.2.2.2 = some (305, .lmul, 1, 0, 0) := by decide +kernel
theorem gx277_306 : aF 306 zM277.2.2.2.2.2.2.2 = some (306, (.ldc2_w 498), 3, 99, 0) := by decide +kernel
theorem gx277_309 : aF 309 zM277.2.2.2.2.2.2.2 = some (309, .ladd, 1, 0, 0) := by decide +kernel
theorem gx277_310 : aF 310 zM277.2.2.2.2.2.2.2 = some (310, (.ldc2_w 500), 3, 100, 0) := by decide +kernel
theorem gx277_313 : aF 313 zM277.2.2.2.2.2.2.2 = some (313, .ldiv, 1, 0, 0) := by decide +kernel
theorem gx277_314 : aF 314 zM277.2.2.2.2.2.2.2 = some (314, .l2i, 1, 0, 0) := by decide +kernel
theorem gx277_315 : aF 315 zM277.2.2.2.2.2.2.2 = some (315, .isub, 1, 0, 0) := by decide +kernel
theorem gx277_316 : aF 316 zM277.2.2.2.2.2.2.2 = some (316, (.istore 10), 2, 0, 0) := by decide +kernel
theorem gx277_318 : aF 318 zM277.2.2.2.2.2.2.2 = some (318, (.aload_n 0), 1, 0, 0) := by decide +kernel
theorem gx277_319 : aF 319 zM277.2.2.2.2.2.2.2 = some (319, (.getfield 188), 3, 12, 74) := by decide +kernel
theorem gx277_322 : aF 322 zM277.2.2.2.2.2.2.2 = some (322, (.iconst 4), 1, 0, 0) := by decide +kernel
theorem gx277_323 : aF 323 zM277.2.2.2.2.2.2.2 = some (323, (.iload 10), 2, 0, 0) := by decide +kernel
theorem gx277_325 : aF 325 zM277.2.2.2.2.2.2.2 = some (325, .iastore, 1, 0, 0) := by decide +kernel
theorem gx277_326 : aF 326 zM277.2.2.2.2.2.2.2 = some (326, (.iload 10), 2, 0, 0) := by decide +kernel
theorem gx277_328 : aF 328 zM277.2.2.2.2.2.2.2 = some (328, (.iload 10), 2, 0, 0) := by decide +kernel
theorem gx277_330 : aF 330 zM277.2.2.2.2.2.2.2 = some (330, .i2l, 1, 0, 0) := by decide +kernel
theorem gx277_331 : aF 331 zM277.2.2.2.2.2.2.2 = some (331, (.bipush 100), 2, 0, 0) := by decide +kernel
theorem gx277_333 : aF 333 zM277.2.2.2.2.2.2.2 = some (333, (.aload_n 0), 1, 0, 0) := by decide +kernel
theorem gx277_334 : aF 334 zM277.2.2.2.2.2.2.2 = some (334, (.getfield 176), 3, 12, 69) := by decide +kernel
theorem gx277_337 : aF 337 zM277.2.2.2.2.2.2.2 = some (337, (.bipush 7), 2, 0, 0) := by decide +kernel
theorem gx277_339 : aF 339 zM277.2.2.2.2.2.2.2 = some (339, .iaload, 1, 0, 0) := by decide +kernel
theorem gx277_340 : aF 340 zM277.2.2.2.2.2.2.2 = some (340, (.invokestatic 289), 3, 211, 0) := by decide +kernel
theorem gx277_343 : aF 343 zM277.2.2.2.2.2.2.2 = some (343, .i2l, 1, 0, 0) := by decide +kernel
theorem gx277_344 : aF 344 zM277.2.2.2.2.2.2.2 = some (344, .lmul, 1, 0, 0) := by decide +kernel
theorem gx277_345 : aF 345 zM277.2.2.2.2.2.2.2 = some (345, (.ldc2_w 500), 3, 100, 0) := by decide +kernel
theorem gx277_348 : aF 348 zM277.2.2.2.2.2.2.2 = some (348, .ldiv, 1, 0, 0) := by decide +kernel
theorem gx277_349 : aF 349 zM277.2.2.2.2.2.2.2 = some (349, .l2i, 1, 0, 0) := by decide +kernel
theorem gx277_350 : aF 350 zM277.2.2.2.2.2.2.2 = some (350, .isub, 1, 0, 0) := by decide +kernel
theorem gx277_351 : aF 351 zM277.2.2.2.2.2.2.2 = some (351, (.istore 10), 2, 0, 0) := by decide +kernel
theorem gx277_353 : aF 353 zM277.2.2.2.2.2.2.2 = some (353, (.aload_n 0), 1, 0, 0) := by decide +kernel
theorem gx277_354 : aF 354 zM277.2.2.2.2.2.2.2 = some (354, (.getfield 188), 3, 12, 74) := by decide +kernel
theorem gx277_357 : aF 357 zM277.2.2.2.2.2.2.2 = some (357, (.iconst 5), 1, 0, 0) := by decide +kernel
theorem gx277_358 : aF 358 zM277.2.2.2.2.2.2.2 = some (358, (.iload 10), 2, 0, 0) := by decide +kernel
theorem gx277_360 : aF 360 zM277.2.2.2.2.2.2.2 = some (360, .iastore, 1, 0, 0) := by decide +kernel
theorem gx277_361 : aF 361 zM277.2.2.2.2.2.2.2 = some (361, (.aload_n 0), 1, 0, 0) := by decide +kernel
theorem gx277_362 : aF 362 zM277.2.2.2.2.2.2.2 = some (362, (.getfield 188), 3, 12, 74) := by decide +kernel
theorem gx277_365 : aF 365 zM277.2.2.2.2.2.2.2 = some (365, (.iconst 0), 1, 0, 0) := by decide +kernel
theorem gx277_366 : aF 366 zM277.2.2.2.2.2.2.2 = some (366, (.iload 10), 2, 0, 0) := by decide +kernel
theorem gx277_368 : aF 368 zM277.2.2.2.2.2.2.2 = some (368, .iastore, 1, 0, 0) := by decide +kernel
theorem gx277_369 : aF 369 zM277.2.2.2.2.2.2.2 = some (369, (.iload 10), 2, 0, 0) := by decide +kernel
theorem gx277_371 : aF 371 zM277.2.2.2.2.2.2.2 = some (371, .ireturn, 1, 0, 0) := by decide +kernel
theorem gx278_0 : aF 0 zM278.2.2.2.2.2.2.2 = some (0, (.aload_n 0), 1, 0, 0) := by decide +kernel
theorem gx278_1 : aF 1 zM278.2.2.2.2.2.2.2 = some (1, (.iload_n 1), 1, 0, 0) := by decide +kernel
theorem gx278_2 : aF 2 zM278.2.2.2.2.2.2.2 = some (2, (.invokevirtual 316), 3, 202, 0) := by decide +kernel
theorem gx278_5 : aF 5 zM278.2.2.2.2.2.2.2 = some (5, (.ifCond .eq 28), 3, 33, 0) := by decide +kernel
theorem gx278_33 : aF 33 zM278.2.2.2.2.2.2.2 = some (33, (.ldc_w 335), 3, 2294967296, 0) := by decide +kernel
theorem gx278_36 : aF 36 zM278.2.2.2.2.2.2.2 = some (36, .ireturn, 1, 0, 0) := by decide +kernel
theorem gx278_8 : aF 8 zM278.2.2.2.2.2.2.2 = some (8, (.iload_n 2), 1, 0, 0) := by decide +kernel
theorem gx278_9 : aF 9 zM278.2.2.2.2.2.2.2 = some (9, (.invokestatic 372), 3, 198, 0) := by decide +kernel
theorem gx278_12 : aF 12 zM278.2.2.2.2.2.2.2 = some (12, (.ifCond .eq 21), 3, 33, 0) := by decide +kernel
theorem gx278_15 : aF 15 zM278.2.2.2.2.2.2.2 = some (15, (.iload_n 3), 1, 0, 0) := by decide +kernel
theorem gx278_16 : aF 16 zM278.2.2.2.2.2.2.2 = some (16, (.invokestatic 325), 3, 197, 0) := by decide +kernel
theorem gx278_19 : aF 19 zM278.2.2.2.2.2.2.2 = some (19, (.ifCond .eq 14), 3, 33, 0) := by decide +kernel
theorem gx278_22 : aF 22 zM278.2.2.2.2.2.2.2 = some (22, (.iload 4), 2, 0, 0) := by decide +kernel
theorem gx278_24 : aF 24 zM278.2.2.2.2.2.2.2 = some (24, (.iconst 0), 1, 0, 0) := by decide +kernel
theorem gx278_25 : aF 25 zM278.2.2.2.2.2.2.2 = some (25, (.bipush 6), 2, 0, 0) := by decide +kernel
theorem gx278_27 : aF 27 zM278.2.2.2.2.2.2.2 = some (27, (.invokestatic 258), 3, 196, 0) := by decide +kernel
theorem gx278_30 : aF 30 zM278.2.2.2.2.2.2.2 = some (30, (.ifCond .ne 7), 3, 37, 0) := by decide +kernel
theorem gx278_37 : aF 37 zM278.2.2.2.2.2.2.2 = some (37, (.aload_n 0), 1, 0, 0) := by decide +kernel
theorem gx278_38 : aF 38 zM278.2.2.2.2.2.2.2 = some (38, (.iload_n 1), 1, 0, 0) := by decide +kernel
theorem gx278_39 : aF 39 zM278.2.2.2.2.2.2.2 = some (39, (.iload_n 2), 1, 0, 0) := by decide +kernel
theorem gx278_40 : aF 40 zM278.2.2.2.2.2.2.2 = some (40, (.iload_n 3), 1, 0, 0) := by decide +kernel
theorem gx278_41 : aF 41 zM278.2.2.2.2.2.2.2 = some (41, (.iconst (-1)), 1, 0, 0) := by decide +kernel
theorem gx278_42 : aF 42 zM278.2.2.2.2.2.2.2 = some (42, (.invokevirtual 502), 3, 277, 0) := by decide +kernel
theorem gx278_45 : aF 45 zM278.2.2.2.2.2.2.2 = some (45, .pop, 1, 0, 0) := by decide +kernel
theorem gx278_46 : aF 46 zM278.2.2.2.2.2.2.2 = some (46, (.iload 4), 2, 0, 0) := by decide +kernel
theorem gx278_48 : aF 48 zM278.2.2.2.2.2.2.2 = some (48, (.bipush 6), 2, 0, 0) := by decide +kernel
theorem gx278_50 : aF 50 zM278.2.2.2.2.2.2.2 = some (50, (.if_icmp .ne 10), 3, 60, 0) := by decide +kernel
theorem gx278_60 : aF 60 zM278.2.2.2.2.2.2.2 = some (60, (.aload_n 0), 1, 0, 0) := by decide +kernel
theorem gx278_61 : aF 61 zM278.2.2.2.2.2.2.2 = some (61, (.getfield 188), 3, 12, 74) := by decide +kernel
theorem gx278_64 : aF 64 zM278.2.2.2.2.2.2.2 = some (64, (.iload 4), 2, 0, 0) := by decide +kernel
theorem gx278_66 : aF 66 zM278.2.2.2.2.2.2.2 = some (66, .iaload, 1, 0, 0) := by decide +kernel
theorem gx278_67 : aF 67 zM278.2.2.2.2.2.2.2 = some (67, .ireturn, 1, 0, 0) := by decide +kernel
theorem gx278_53 : aF 53 zM278.2.2.2.2.2.2.2 = some (53, (.aload_n 0), 1, 0, 0) := by decide +kernel
theorem gx278_54 : aF 54 zM278.2.2.2.2.2.2.2 = some (54, (.getfield 495), 3, 12, 75) := by decide +kernel
theorem gx278_57 : aF 57 zM278.2.2.2.2.2.2.2 = some (57, (.goto 10), 3, 67, 0) := by decide +kernel
theorem gx279_0 : aF 0 zM279.2.2.2.2.2.2.2 = some (0, (.aload_n 0), 1, 0, 0) := by decide +kernel
theorem gx279_1 : aF 1 zM279.2.2.2.2.2.2.2 = some (1, (.iload_n 1), 1, 0, 0) := by decide +kernel
theorem gx279_2 : aF 2 zM279.2.2.2.2.2.2.2 = some (2, (.invokevirtual 316), 3, 202, 0) := by decide +kernel
theorem gx279_5 : aF 5 zM279.2.2.2.2.2.2.2 = some (5, (.ifCond .eq 19), 3, 24, 0) := by decide +kernel
theorem gx279_24 : aF 24 zM279.2.2.2.2.2.2.2 = some (24, (.iconst (-1)), 1, 0, 0) := by decide +kernel
theorem gx279_25 : aF 25 zM279.2.2.2.2.2.2.2 = some (25, .ireturn, 1, 0, 0) := by decide +kernel
theorem gx279_8 : aF 8 zM279.2.2.2.2.2.2.2 = some (8, (.iload_n 2), 1, 0, 0) := by decide +kernel
theorem gx279_9 : aF 9 zM279.2.2.2.2.2.2.2 = some (9, (.iconst 0), 1, 0, 0) := by decide +kernel
theorem gx279_10 : aF 10 zM279.2.2.2.2.2.2.2 = some (10, (.aload_n 0), 1, 0, 0) := by decide +kernel
theorem gx279_11 : aF 11 zM279.2.2.2.2.2.2.2 = some (11, (.getfield 262), 3, 12, 1) := by decide +kernel
theorem gx279_14 : aF 14 zM279.2.2.2.2.2.2.2 = some (14, (.sipush 365), 3, 0, 0) := by decide +kernel
theorem gx279_17 : aF 17 zM279.2.2.2.2.2.2.2 = some (17, .idiv, 1, 0, 0) := by decide +kernel
theorem gx279_18 : aF 18 zM279.2.2.2.2.2.2.2 = some (18, (.invokestatic 258), 3, 196, 0) := by decide +kernel
theorem gx279_21 : aF 21 zM279.2.2.2.2.2.2.2 = some (21, (.ifCond .ne 5), 3, 26, 0) := by decide +kernel
theorem gx279_26 : aF 26 zM279.2.2.2.2.2.2.2 = some (26, (.aload_n 0), 1, 0, 0) := by decide +kernel
theorem gx279_27 : aF 27 zM279.2.2.2.2.2.2.2 = some (27, (.getfield 191), 3, 12, 76) := by decide +kernel
theorem gx279_30 : aF 30 zM279.2.2.2.2.2.2.2 = some (30, (.bipush 10), 2, 0, 0) := by decide +kernel
theorem gx279_32 : aF 32 zM279.2.2.2.2.2.2.2 = some (32, (.iload_n 1), 1, 0, 0) := by decide +kernel
theorem gx279_33 : aF 33 zM279.2.2.2.2.2.2.2 = some (33, .imul, 1, 0, 0) := by decide +kernel
theorem gx279_34 : aF 34 zM279.2.2.2.2.2.2.2 = some (34, (.iload_n 2), 1, 0, 0) := by decide +kernel
theorem gx279_35 : aF 35 zM279.2.2.2.2.2.2.2 = some (35, .iadd, 1, 0, 0) := by decide +kernel
theorem gx279_36 : aF 36 zM279.2.2.2.2.2.2.2 = some (36, (.aload_n 0), 1, 0, 0) := by decide +kernel
theorem gx279_37 : aF 37 zM279.2.2.2.2.2.2.2 = some (37, (.iload_n 1), 1, 0, 0) := by decide +kernel
theorem gx279_38 : aF 38 zM279.2.2.2.2.2.2.2 = some (38, (.iload_n 2), 1, 0, 0) := by decide +kernel
theorem gx279_39 : aF 39 zM279.2.2.2.2.2.2.2 = some (39, (.aload_n 0), 1, 0, 0) := by decide +kernel
theorem gx279_40 : aF 40 zM279.2.2.2.2.2.2.2 = some (40, (.getfield 262), 3, 12, 1) := by decide +kernel
theorem gx279_43 : aF 43 zM279.2.2.2.2.2.2.2 = some (43, (.iconst (-1)), 1, 0, 0) := by decide +kernel
theorem gx279_44 : aF 44 zM279.2.2.2.2.2.2.2 = some (44, (.invokevirtual 502), 3, 277, 0) := by decide +kernel
theorem gx279_47 : aF 47 zM279.2.2.2.2.2.2.2 = some (47, .iastore, 1, 0, 0) := by decide +kernel
theorem gx279_48 : aF 48 zM279.2.2.2.2.2.2.2 = some (48, (.aload_n 0), 1, 0, 0) := by decide +kernel
theorem gx279_49 : aF 49 zM279.2.2.2.2.2.2.2 = some (49, (.getfield 191), 3, 12, 76) := by decide +kernel
theorem gx279_52 : aF 52 zM279.2.2.2.2.2.2.2 = some (52, (.bipush 10), 2, 0, 0) := by decide +kernel
theorem gx279_54 : aF 54 zM279.2.2.2.2.2.2.2 = some (54, (.iload_n 1), 1, 0, 0) := by decide +kernel
theorem gx279_55 : aF 55 zM279.2.2.2.2.2.2.2 = some (55, .imul, 1, 0, 0) := by decide +kernel
theorem gx279_56 : aF 56 zM279.2.2.2.2.2.2.2 = some (56, (.iload_n 2), 1, 0, 0) := by decide +kernel
theorem gx279_57 : aF 57 zM279.2.2.2.2.2.2.2 = some (57, .iadd, 1, 0, 0) := by decide +kernel
theorem gx279_58 : aF 58 zM279.2.2.2.2.2.2.2 = some (58, .iaload, 1, 0, 0) := by decide +kernel
theorem gx279_59 : aF 59 zM279.2.2.2.2.2.2.2 = some (59, .ireturn, 1, 0, 0) := by decide +kernel
theorem gx280_0 : aF 0 zM280.2.2.2.2.2.2.2 = some (0, (.aload_n 0), 1, 0, 0) := by decide +kernel
theorem gx280_1 : aF 1 zM280.2.2.2.2.2.2.2 = some (1, (.iload_n 1), 1, 0, 0) := by decide +kernel
theorem gx280_2 : aF 2 zM280.2.2.2.2.2.2.2 = some (2, (.invokevirtual 316), 3, 202, 0) := by decide +kernel
theorem gx280_5 : aF 5 zM280.2.2.2.2.2.2.2 = some (5, (.ifCond .ne 7), 3, 12, 0) := by decide +kernel
theorem gx280_12 : aF 12 zM280.2.2.2.2.2.2.2 = some (12, (.lconst 0), 1, 0, 0) := by decide +kernel
theorem gx280_13 : aF 13 zM280.2.2.2.2.2.2.2 = some (13, (.lstore_n 2), 1, 0, 0) := by decide +kernel
theorem gx280_14 : aF 14 zM280.2.2.2.2.2.2.2 = some (14, (.iconst 0), 1, 0, 0) := by decide +kernel
theorem gx280_15 : aF 15 zM280.2.2.2.2.2.2.2 = some (15, (.istore 4), 2, 0, 0) := by decide +kernel
theorem gx280_8 : aF 8 zM280.2.2.2.2.2.2.2 = some (8, (.ldc_w 335), 3, 2294967296, 0) := by decide +kernel
theorem gx280_11 : aF 11 zM280.2.2.2.2.2.2.2 = some (11, .ireturn, 1, 0, 0) := by decide +kernel
theorem gx280_17 : aF 17 zM280.2.2.2.2.2.2.2 = some (17, (.iload 4), 2, 0, 0) := by decide +kernel
theorem gx280_19 : aF 19 zM280.2.2.2.2.2.2.2 = some (19, (.aload_n 0), 1, 0, 0) := by decide +kernel
theorem gx280_20 : aF 20 zM280.2.2.2.2.2.2.2 = some (20, (.getfield 262), 3, 12, 1) := by decide +kernel
theorem gx280_23 : aF 23 zM280.2.2.2.2.2.2.2 = some (23, (.sipush 365), 3, 0, 0) := by decide +kernel
theorem gx280_26 : aF 26 zM280.2.2.2.2.2.2.2 = some (26, .idiv, 1, 0, 0) := by decide +kernel
theorem gx280_27 : aF 27 zM280.2.2.2.2.2.2.2 = some (27, (.if_icmp .ge 39), 3, 66, 0) := by decide +kernel
theorem gx280_66 : aF 66 zM280.2.2.2.2.2.2.2 = some (66, (.lload_n 2), 1, 0, 0) := by decide +kernel
theorem gx280_67 : aF 67 zM280.2.2.2.2.2.2.2 = some (67, (.ldc2_w 505), 3, 18446744071709551617, 0) := by decide +kernel
theorem gx280_70 : aF 70 zM280.2.2.2.2.2.2.2 = some (70, .lcmp, 1, 0, 0) := by decide +kernel
theorem gx280_71 : aF 71 zM280.2.2.2.2.2.2.2 = some (71, (.ifCond .ge 9), 3, 80, 0) := by decide +kernel
theorem gx280_80 : aF 80 zM280.2.2.2.2.2.2.2 = some (80, (.lload_n 2), 1, 0, 0) := by decide +kernel
theorem gx280_81 : aF 81 zM280.2.2.2.2.2.2.2 = some (81, (.ldc2_w 477), 3, 2000000000, 0) := by decide +kernel
theorem gx280_84 : aF 84 zM280.2.2.2.2.2.2.2 = some (84, .lcmp, 1, 0, 0) := by decide +kernel
theorem gx280_85 : aF 85 zM280.2.2.2.2.2.2.2 = some (85, (.ifCond .le 9), 3, 94, 0) := by decide +kernel
theorem gx280_94 : aF 94 zM280.2.2.2.2.2.2.2 = some (94, (.lload_n 2), 1, 0, 0) := by decide +kernel
theorem gx280_95 : aF 95 zM280.2.2.2.2.2.2.2 = some (95, .l2i, 1, 0, 0) := by decide +kernel
theorem gx280_96 : aF 96 zM280.2.2.2.2.2.2.2 = some (96, .ireturn, 1, 0, 0) := by decide +kernel
theorem gx280_88 : aF 88 zM280.2.2.2.2.2.2.2 = some (88, (.ldc_w 479), 3, 2000000000, 0) := by decide +kernel
theorem gx280_91 : aF 91 zM280.2.2.2.2.2.2.2 = some (91, (.goto 5), 3, 96, 0) := by decide +kernel
theorem gx280_74 : aF 74 zM280.2.2.2.2.2.2.2 = some (74, (.ldc_w 507), 3, 2294967297, 0) := by decide +kernel
theorem gx280_77 : aF 77 zM280.2.2.2.2.2.2.2 = some (77, (.goto 19), 3, 96, 0) := by decide +kernel
theorem gx280_30 : aF 30 zM280.2.2.2.2.2.2.2 = some (30, (.lload_n 2), 1, 0, 0) := by decide +kernel
theorem gx280_31 : aF 31 zM280.2.2.2.2.2.2.2 = some (31, (.aload_n 0), 1, 0, 0) := by decide +kernel
theorem gx280_32 : aF 32 zM280.2.2.2.2.2.2.2 = some (32, (.iload_n 1), 1, 0, 0) := by decide +kernel
theorem gx280_33 : aF 33 zM280.2.2.2.2.2.2.2 = some (33, (.iload 4), 2, 0, 0) := by decide +kernel
theorem gx280_35 : aF 35 zM280.2.2.2.2.2.2.2 = some (35, (.aload_n 0), 1, 0, 0) := by decide +kernel
theorem gx280_36 : aF 36 zM280.2.2.2.2.2.2.2 = some (36, (.getfield 262), 3, 12, 1) := by decide +kernel
theorem gx280_39 : aF 39 zM280.2.2.2.2.2.2.2 = some (39, (.iconst (-1)), 1, 0, 0) := by decide +kernel
theorem gx280_40 : aF 40 zM280.2.2.2.2.2.2.2 = some (40, (.invokevirtual 502), 3, 277, 0) := by decide +kernel
theorem gx280_43 : aF 43 zM280.2.2.2.2.2.2.2 = some (43, .i2l, 1, 0, 0) := by decide +kernel
theorem gx280_44 : aF 44 zM280.2.2.2.2.2.2.2 = some (44, (.aload_n 0), 1, 0, 0) := by decide +kernel
theorem gx280_45 : aF 45 zM280.2.2.2.2.2.2.2 = some (45, (.getfield 191), 3, 12, 76) := by decide +kernel
theorem gx280_48 : aF 48 zM280.2.2.2.2.2.2.2 = some (48, (.bipush 10), 2, 0, 0) := by decide +kernel
theorem gx280_50 : aF 50 zM280.2.2.2.2.2.2.2 = some (50, (.iload_n 1), 1, 0, 0) := by decide +kernel
theorem gx280_51 : aF 51 zM280.2.2.2.2.2.2.2 = some (51, .imul, 1, 0, 0) := by decide +kernel
theorem gx280_52 : aF 52 zM280.2.2.2.2.2.2.2 = some (52, (.iload 4), 2, 0, 0) := by decide +kernel
theorem gx280_54 : aF 54 zM280.2.2.2.2.2.2.2 = some (54, .iadd, 1, 0, 0) := by decide +kernel
theorem gx280_55 : aF 55 zM280.2.2.2.2.2.2.2 = some (55, .iaload, 1, 0, 0) := by decide +kernel
theorem gx280_56 : aF 56 zM280.2.2.2.2.2.2.2 = some (56, .i2l, 1, 0, 0) := by decide +kernel
theorem gx280_57 : aF 57 zM280.2.2.2.2.2.2.2 = some (57, .lsub, 1, 0, 0) := by decide +kernel
theorem gx280_58 : aF 58 zM280.2.2.2.2.2.2.2 = some (58, .ladd, 1, 0, 0) := by decide +kernel
theorem gx280_59 : aF 59 zM280.2.2.2.2.2.2.2 = some (59, (.lstore_n 2), 1, 0, 0) := by decide +kernel
theorem gx280_60 : aF 60 zM280.2.2.2.2.2.2.2 = some (60, (.iinc 4 1), 3, 0, 0) := by decide +kernel
theorem gx280_63 : aF 63 zM280.2.2.2.2.2.2.2 = some (63, (.goto (-46)), 3, 17, 0) := by decide +kernel
theorem gx281_0 : aF 0 zM281.2.2.2.2.2.2.2 = some (0, (.aload_n 0), 1, 0, 0) := by decide +kernel
theorem gx281_1 : aF 1 zM281.2.2.2.2.2.2.2 = some (1, (.iload_n 1), 1, 0, 0) := by decide +kernel
theorem gx281_2 : aF 2 zM281.2.2.2.2.2.2.2 = some (2, (.invokevirtual 316), 3, 202, 0) := by decide +kernel
theorem gx281_5 : aF 5 zM281.2.2.2.2.2.2.2 = some (5, (.ifCond .eq 21), 3, 26, 0) := by decide +kernel
theorem gx281_8 : aF 8 zM281.2.2.2.2.2.2.2 = some (8, (.iload_n 2), 1, 0, 0) := by decide +kernel
theorem gx281_9 : aF 9 zM281.2.2.2.2.2.2.2 = some (9, (.invokestatic 372), 3, 198, 0) := by decide +kernel
theorem gx281_12 : aF 12 zM281.2.2.2.2.2.2.2 = some (12, (.ifCond .eq 14), 3, 26, 0) := by decide +kernel
theorem gx281_15 : aF 15 zM281.2.2.2.2.2.2.2 = some (15, (.iload_n 3), 1, 0, 0) := by decide +kernel
theorem gx281_16 : aF 16 zM281.2.2.2.2.2.2.2 = some (16, (.iconst 0), 1, 0, 0) := by decide +kernel
theorem gx281_17 : aF 17 zM281.2.2.2.2.2.2.2 = some (17, (.ldc_w 479), 3, 2000000000, 0) := by decide +kernel
theorem gx281_20 : aF 20 zM281.2.2.2.2.2.2.2 = some (20, (.invokestatic 258), 3, 196, 0) := by decide +kernel
theorem gx281_23 : aF 23 zM281.2.2.2.2.2.2.2 = some (23, (.ifCond .ne 5), 3, 28, 0) := by decide +kernel
theorem gx281_28 : aF 28 zM281.2.2.2.2.2.2.2 = some (28, (.lconst 0), 1, 0, 0) := by decide +kernel
theorem gx281_29 : aF 29 zM281.2.2.2.2.2.2.2 = some (29, (.lstore 4), 2, 0, 0) := by decide +kernel
theorem gx281_31 : aF 31 zM281.2.2.2.2.2.2.2 = some (31, (.iconst 0), 1, 0, 0) := by decide +kernel
theorem gx281_32 : aF 32 zM281.2.2.2.2.2.2.2 = some (32, (.istore 6), 2, 0, 0) := by decide +kernel
theorem gx281_26 : aF 26 zM281.2.2.2.2.2.2.2 = some (26, (.iconst (-1)), 1, 0, 0) := by decide +kernel
theorem gx281_27 : aF 27 zM281.2.2.2.2.2.2.2 = some (27, .ireturn, 1, 0, 0) := by decide +kernel
theorem gx281_34 : aF 34 zM281.2.2.2.2.2.2.2 = some (34, (.iload 6), 2, 0, 0) := by decide +kernel
theorem gx281_36 : aF 36 zM281.2.2.2.2.2.2.2 = some (36, (.aload_n 0), 1, 0, 0) := by decide +kernel
theorem gx281_37 : aF 37 zM281.2.2.2.2.2.2.2 = some (37, (.getfield 265), 3, 12, 2) := by decide +kernel
theorem gx281_40 : aF 40 zM281.2.2.2.2.2.2.2 = some (40, (.if_icmp .ge 70), 3, 110, 0) := by decide +kernel
theorem gx281_110 : aF 110 zM281.2.2.2.2.2.2.2 = some (110, (.lload 4), 2, 0, 0) := by decide +kernel
theorem gx281_112 : aF 112 zM281.2.2.2.2.2.2.2 = some (112, (.iload_n 3), 1, 0, 0) := by decide +kernel
theorem gx281_113 : aF 113 zM281.2.2.2.2.2.2.2 = some (113, .i2l, 1, 0, 0) := by decide +kernel
theorem gx281_114 : aF 114 zM281.2.2.2.2.2.2.2 = some (114, .lcmp, 1, 0, 0) := by decide +kernel
theorem gx281_115 : aF 115 zM281.2.2.2.2.2.2.2 = some (115, (.ifCond .gt 11), 3, 126, 0) := by decide +kernel
theorem gx281_126 : aF 126 zM281.2.2.2.2.2.2.2 = some (126, (.iload_n 3), 1, 0, 0) := by decide +kernel
theorem gx281_127 : aF 127 zM281.2.2.2.2.2.2.2 = some (127, .i2l, 1, 0, 0) := by decide +kernel
theorem gx281_128 : aF 128 zM281.2.2.2.2.2.2.2 = some (128, (.lstore 6), 2, 0, 0) := by decide +kernel
theorem gx281_130 : aF 130 zM281.2.2.2.2.2.2.2 = some (130, (.iconst 0), 1, 0, 0) := by decide +kernel
theorem gx281_131 : aF 131 zM281.2.2.2.2.2.2.2 = some (131, (.istore 8), 2, 0, 0) := by decide +kernel
theorem gx281_118 : aF 118 zM281.2.2.2.2.2.2.2 = some (118, (.aload_n 0), 1, 0, 0) := by decide +kernel
theorem gx281_119 : aF 119 zM281.2.2.2.2.2.2.2 = some (119, (.getfield 194), 3, 12, 77) := by decide +kernel
theorem gx281_122 : aF 122 zM281.2.2.2.2.2.2.2 = some (122, (.iload_n 1), 1, 0, 0) := by decide +kernel
theorem gx281_123 : aF 123 zM281.2.2.2.2.2.2.2 = some (123, .laload, 1, 0, 0) := by decide +kernel
theorem gx281_124 : aF 124 zM281.2.2.2.2.2.2.2 = some (124, .l2i, 1, 0, 0) := by decide +kernel
theorem gx281_125 : aF 125 zM281.2.2.2.2.2.2.2 = some (125, .ireturn, 1, 0, 0) := by decide +kernel
theorem gx281_43 : aF 43 zM281.2.2.2.2.2.2.2 = some (43, (.aload_n 0), 1, 0, 0) := by decide +kernel
theorem gx281_44 : aF 44 zM281.2.2.2.2.2.2.2 = some (44, (.getfield 194), 3, 12, 77) := by decide +kernel
theorem gx281_47 : aF 47 zM281.2.2.2.2.2.2.2 = some (47, (.iload 6), 2, 0, 0) := by decide +kernel
theorem gx281_49 : aF 49 zM281.2.2.2.2.2.2.2 = some (49, (.aload_n 0), 1, 0, 0) := by decide +kernel
theorem gx281_50 : aF 50 zM281.2.2.2.2.2.2.2 = some (50, (.iload 6), 2, 0, 0) := by decide +kernel
theorem gx281_52 : aF 52 zM281.2.2.2.2.2.2.2 = some (52, (.invokevirtual 316), 3, 202, 0) := by decide +kernel
theorem gx281_55 : aF 55 zM281.2.2.2.2.2.2.2 = some (55, (.ifCond .eq 35), 3, 90, 0) := by decide +kernel
theorem gx281_58 : aF 58 zM281.2.2.2.2.2.2.2 = some (58, (.aload_n 0), 1, 0, 0) := by decide +kernel
theorem gx281_59 : aF 59 zM281.2.2.2.2.2.2.2 = some (59, (.getfield 13), 3, 12, 4) := by decide +kernel
theorem gx281_62 : aF 62 zM281.2.2.2.2.2.2.2 = some (62, (.iload 6), 2, 0, 0) := by decide +kernel
theorem gx281_64 : aF 64 zM281.2.2.2.2.2.2.2 = some (64, .iaload, 1, 0, 0) := by decide +kernel
theorem gx281_65 : aF 65 zM281.2.2.2.2.2.2.2 = some (65, (.aload_n 0), 1, 0, 0) := by decide +kernel
theorem gx281_66 : aF 66 zM281.2.2.2.2.2.2.2 = some (66, (.getfield 13), 3, 12, 4) := by decide +kernel
theorem gx281_69 : aF 69 zM281.2.2.2.2.2.2.2 = some (69, (.iload_n 1), 1, 0, 0) := by decide +kernel
theorem gx281_70 : aF 70 zM281.2.2.2.2.2.2.2 = some (70, .iaload, 1, 0, 0) := by decide +kernel
theorem gx281_71 : aF 71 zM281.2.2.2.2.2.2.2 = some (71, (.if_icmp .ne 19), 3, 90, 0) := by decide +kernel
theorem gx281_74 : aF 74 zM281.2.2.2.2.2.2.2 = some (74, (.aload_n 0), 1, 0, 0) := by decide +kernel
theorem gx281_75 : aF 75 zM281.2.2.2.2.2.2.2 = some (75, (.iload 6), 2, 0, 0) := by decide +kernel
theorem gx281_77 : aF 77 zM281.2.2.2.2.2.2.2 = some (77, (.iload_n 2), 1, 0, 0) := by decide +kernel
theorem gx281_78 : aF 78 zM281.2.2.2.2.2.2.2 = some (78, (.aload_n 0), 1, 0, 0) := by decide +kernel
theorem gx281_79 : aF 79 zM281.2.2.2.2.2.2.2 = some (79, (.getfield 262), 3, 12, 1) := by decide +kernel
theorem gx281_82 : aF 82 zM281.2.2.2.2.2.2.2 = some (82, (.iconst (-1)), 1, 0, 0) := by decide +kernel
theorem gx281_83 : aF 83 zM281.2.2.2.2.2.2.2 = some (83, (.invokevirtual 502), 3, 277, 0) := by decide +kernel
theorem gx281_86 : aF 86 zM281.2.2.2.2.2.2.2 = some (86, .i2l, 1, 0, 0) := by decide +kernel
theorem gx281_87 : aF 87 zM281.2.2.2.2.2.2.2 = some (87, (.goto 4), 3, 91, 0) := by decide +kernel
theorem gx281_90 : aF 90 zM281.2.2.2.2.2.2.2 = some (90, (.lconst 0), 1, 0, 0) := by decide +kernel
theorem gx281_91 : aF 91 zM281.2.2.2.2.2.2.2 = some (91, .lastore, 1, 0, 0) := by decide +kernel
theorem gx281_92 : aF 92 zM281.2.2.2.2.2.2.2 = some (92, (.lload 4), 2, 0, 0) := by decide +kernel
theorem gx281_94 : aF 94 zM281.2.2.2.2.2.2.2 = some (94, (.aload_n 0), 1, 0, 0) := by decide +kernel
theorem gx281_95 : aF 95 zM281.2.2.2.2.2.2.2 = some (95, (.getfield 194), 3, 12, 77) := by decide +kernel
theorem gx281_98 : aF 98 zM281.2.2.2.2.2.2.2 = some (98, (.iload 6), 2, 0, 0) := by decide +kernel
theorem gx281_100 : aF 100 zM281.2.2.2.2.2.2.2 = some (100, .laload, 1, 0, 0) := by decide +kernel
theorem gx281_101 : aF 101 zM281.2.2.2.2.2.2.2 = some (101, .ladd, 1, 0, 0) := by decide +kernel
theorem gx281_102 : aF 102 zM281.2.2.2.2.2.2.2 = some (102, (.lstore 4), 2, 0, 0) := by decide +kernel
theorem gx281_104 : aF 104 zM281.2.2.2.2.2.2.2 = some (104, (.iinc 6 1), 3, 0, 0) := by decide +kernel
theorem gx281_107 : aF 107 zM281.2.2.2.2.2.2.2 = some (107, (.goto (-73)), 3, 34, 0) := by decide +kernel
theorem gx281_133 : aF 133 zM281.2.2.2.2.2.2.2 = some (133, (.iload 8), 2, 0, 0) := by decide +kernel
theorem gx281_135 : aF 135 zM281.2.2.2.2.2.2.2 = some (135, (.aload_n 0), 1, 0, 0) := by decide +kernel
theorem gx281_136 : aF 136 zM281.2.2.2.2.2.2.2 = some (136, (.getfield 265), 3, 12, 2) := by decide +kernel
theorem gx281_139 : aF 139 zM281.2.2.2.2.2.2.2 = some (139, (.if_icmp .ge 41), 3, 180, 0) := by decide +kernel
theorem gx281_142 : aF 142 zM281.2.2.2.2.2.2.2 = some (142, (.aload_n 0), 1, 0, 0) := by decide +kernel
theorem gx281_143 : aF 143 zM281.2.2.2.2.2.2.2 = some (143, (.getfield 198), 3, 12, 78) := by decide +kernel
theorem gx281_146 : aF 146 zM281.2.2.2.2.2.2.2 = some (146, (.iload 8), 2, 0, 0) := by decide +kernel
theorem gx281_148 : aF 148 zM281.2.2.2.2.2.2.2 = some (148, (.iload_n 3), 1, 0, 0) := by decide +kernel
theorem gx281_149 : aF 149 zM281.2.2.2.2.2.2.2 = some (149, .i2l, 1, 0, 0) := by decide +kernel
theorem gx281_150 : aF 150 zM281.2.2.2.2.2.2.2 = some (150, (.aload_n 0), 1, 0, 0) := by decide +kernel
theorem gx281_151 : aF 151 zM281.2.2.2.2.2.2.2 = some (151, (.getfield 194), 3, 12, 77) := by decide +kernel
theorem gx281_154 : aF 154 zM281.2.2.2.2.2.2.2 = some (154, (.iload 8), 2, 0, 0) := by decide +kernel
theorem gx281_156 : aF 156 zM281.2.2.2.2.2.2.2 = some (156, .laload, 1, 0, 0) := by decide +kernel
theorem gx281_157 : aF 157 zM281.2.2.2.2.2.2.2 = some (157, .lmul, 1, 0, 0) := by decide +kernel
theorem gx281_158 : aF 158 zM281.2.2.2.2.2.2.2 = some (158, (.lload 4), 2, 0, 0) := by decide +kernel
theorem gx281_160 : aF 160 zM281.2.2.2.2.2.2.2 = some (160, .ldiv, 1, 0, 0) := by decide +kernel
theorem gx281_161 : aF 161 zM281.2.2.2.2.2.2.2 = some (161, .lastore, 1, 0, 0) := by decide +kernel
theorem gx281_162 : aF 162 zM281.2.2.2.2.2.2.2 = some (162, (.lload 6), 2, 0, 0) := by decide +kernel
theorem gx281_164 : aF 164 zM281.2.2.2.2.2.2.2 = some (164, (.aload_n 0), 1, 0, 0) := by decide +kernel
theorem gx281_165 : aF 165 zM281.2.2.2.2.2.2.2 = some (165, (.getfield 198), 3, 12, 78) := by decide +kernel
theorem gx281_168 : aF 168 zM281.2.2.2.2.2.2.2 = some (168, (.iload 8), 2, 0, 0) := by decide +kernel
theorem gx281_170 : aF 170 zM281.2.2.2.2.2.2.2 = some (170, .laload, 1, 0, 0) := by decide +kernel
theorem gx281_171 : aF 171 zM281.2.2.2.2.2.2.2 = some (171, .lsub, 1, 0, 0) := by decide +kernel
theorem gx281_172 : aF 172 zM281.2.2.2.2.2.2.2 = some (172, (.lstore 6), 2, 0, 0) := by decide +kernel
theorem gx281_174 : aF 174 zM281.2.2.2.2.2.2.2 = some (174, (.iinc 8 1), 3, 0, 0) := by decide +kernel
theorem gx281_177 : aF 177 zM281.2.2.2.2.2.2.2 = some (177, (.goto (-44)), 3, 133, 0) := by decide +kernel
theorem gx281_180 : aF 180 zM281.2.2.2.2.2.2.2 = some (180, (.lload 6), 2, 0, 0) := by decide +kernel
theorem gx281_182 : aF 182 zM281.2.2.2.2.2.2.2 = some (182, (.lconst 0), 1, 0, 0) := by decide +kernel
theorem gx281_183 : aF 183 zM281.2.2.2.2.2.2.2 = some (183, .lcmp, 1, 0, 0) := by decide +kernel
theorem gx281_184 : aF 184 zM281.2.2.2.2.2.2.2 = some (184, (.ifCond .le 122), 3, 306, 0) := by decide +kernel
theorem gx281_306 : aF 306 zM281.2.2.2.2.2.2.2 = some (306, (.aload_n 0), 1, 0, 0) := by decide +kernel
theorem gx281_307 : aF 307 zM281.2.2.2.2.2.2.2 = some (307, (.getfield 198), 3, 12, 78) := by decide +kernel
theorem gx281_310 : aF 310 zM281.2.2.2.2.2.2.2 = some (310, (.iload_n 1), 1, 0, 0) := by decide +kernel
theorem gx281_311 : aF 311 zM281.2.2.2.2.2.2.2 = some (311, .laload, 1, 0, 0) := by decide +kernel
theorem gx281_312 : aF 312 zM281.2.2.2.2.2.2.2 = some (312, .l2i, 1, 0, 0) := by decide +kernel
theorem gx281_313 : aF 313 zM281.2.2.2.2.2.2.2 = some (313, .ireturn, 1, 0, 0) := by decide +kernel
theorem gx281_187 : aF 187 zM281.2.2.2.2.2.2.2 = some (187, (.iconst (-1)), 1, 0, 0) := by decide +kernel
theorem gx281_188 : aF 188 zM281.2.2.2.2.2.2.2 = some (188, (.istore 8), 2, 0, 0) := by decide +kernel
theorem gx281_190 : aF 190 zM281.2.2.2.2.2.2.2 = some (190, (.iconst 0), 1, 0, 0) := by decide +kernel
theorem gx281_191 : aF 191 zM281.2.2.2.2.2.2.2 = some (191, (.istore 9), 2, 0, 0) := by decide +kernel
theorem gx281_193 : aF 193 zM281.2.2.2.2.2.2.2 = some (193, (.iload 9), 2, 0, 0) := by decide +kernel
theorem gx281_195 : aF 195 zM281.2.2.2.2.2.2.2 = some (195, (.aload_n 0), 1, 0, 0) := by decide +kernel
theorem gx281_196 : aF 196 zM281.2.2.2.2.2.2.2 = some (196, (.getfield 265), 3, 12, 2) := by decide +kernel
theorem gx281_199 : aF 199 zM281.2.2.2.2.2.2.2 = some (199, (.if_icmp .ge 87), 3, 286, 0) := by decide +kernel
theorem gx281_286 : aF 286 zM281.2.2.2.2.2.2.2 = some (286, (.aload_n 0), 1, 0, 0) := by decide +kernel
theorem gx281_287 : aF 287 zM281.2.2.2.2.2.2.2 = some (287, (.getfield 198), 3, 12, 78) := by decide +kernel
theorem gx281_290 : aF 290 zM281.2.2.2.2.2.2.2 = some (290, (.iload 8), 2, 0, 0) := by decide +kernel
theorem gx281_292 : aF 292 zM281.2.2.2.2.2.2.2 = some (292, .dup2, 1, 0, 0) := by decide +kernel
theorem gx281_293 : aF 293 zM281.2.2.2.2.2.2.2 = some (293, .laload, 1, 0, 0) := by decide +kernel
theorem gx281_294 : aF 294 zM281.2.2.2.2.2.2.2 = some (294, (.lconst 1), 1, 0, 0) := by decide +kernel
theorem gx281_295 : aF 295 zM281.2.2.2.2.2.2.2 = some (295, .ladd, 1, 0, 0) := by decide +kernel
theorem gx281_296 : aF 296 zM281.2.2.2.2.2.2.2 = some (296, .lastore, 1, 0, 0) := by decide +kernel
theorem gx281_297 : aF 297 zM281.2.2.2.2.2.2.2 = some (297, (.lload 6), 2, 0, 0) := by decide +kernel
theorem gx281_299 : aF 299 zM281.2.2.2.2.2.2.2 = some (299, (.lconst 1), 1, 0, 0) := by decide +kernel
theorem gx281_300 : aF 300 zM281.2.2.2.2.2.2.2 = some (300, .lsub, 1, 0, 0) := by decide +kernel
theorem gx281_301 : aF 301 zM281.2.2.2.2.2.2.2 = some (301, (.lstore 6), 2, 0, 0) := by decide +kernel
theorem gx281_303 : aF 303 zM281.2.2.2.2.2.2.2 = some (303, (.goto (-123)), 3, 180, 0) := by decide +kernel
theorem gx281_202 : aF 202 zM281.2.2.2.2.2.2.2 = some (202, (.aload_n 0), 1, 0, 0) := by decide +kernel
theorem gx281_203 : aF 203 zM281.2.2.2.2.2.2.2 = some (203, (.getfield 194), 3, 12, 77) := by decide +kernel
theorem gx281_206 : aF 206 zM281.2.2.2.2.2.2.2 = some (206, (.iload 9), 2, 0, 0) := by decide +kernel
theorem gx281_208 : aF 208 zM281.2.2.2.2.2.2.2 = some (208, .laload, 1, 0, 0) := by decide +kernel
theorem gx281_209 : aF 209 zM281.2.2.2.2.2.2.2 = some (209, (.lconst 0), 1, 0, 0) := by decide +kernel
theorem gx281_210 : aF 210 zM281.2.2.2.2.2.2.2 = some (210, .lcmp, 1, 0, 0) := by decide +kernel
theorem gx281_211 : aF 211 zM281.2.2.2.2.2.2.2 = some (211, (.ifCond .eq 69), 3, 280, 0) := by decide +kernel
theorem gx281_214 : aF 214 zM281.2.2.2.2.2.2.2 = some (214, (.aload_n 0), 1, 0, 0) := by decide +kernel
theorem gx281_215 : aF 215 zM281.2.2.2.2.2.2.2 = some (215, (.getfield 198), 3, 12, 78) := by decide +kernel
theorem gx281_218 : aF 218 zM281.2.2.2.2.2.2.2 = some (218, (.iload 9), 2, 0, 0) := by decide +kernel
theorem gx281_220 : aF 220 zM281.2.2.2.2.2.2.2 = some (220, .laload, 1, 0, 0) := by decide +kernel
theorem gx281_221 : aF 221 zM281.2.2.2.2.2.2.2 = some (221, (.iload_n 3), 1, 0, 0) := by decide +kernel
theorem gx281_222 : aF 222 zM281.2.2.2.2.2.2.2 = some (222, .i2l, 1, 0, 0) := by decide +kernel
theorem gx281_223 : aF 223 zM281.2.2.2.2.2.2.2 = some (223, (.aload_n 0), 1, 0, 0) := by decide +kernel
theorem gx281_224 : aF 224 zM281.2.2.2.2.2.2.2 = some (224, (.getfield 194), 3, 12, 77) := by decide +kernel
theorem gx281_227 : aF 227 zM281.2.2.2.2.2.2.2 = some (227, (.iload 9), 2, 0, 0) := by decide +kernel
theorem gx281_229 : aF 229 zM281.2.2.2.2.2.2.2 = some (229, .laload, 1, 0, 0) := by decide +kernel
theorem gx281_230 : aF 230 zM281.2.2.2.2.2.2.2 = some (230, .lmul, 1, 0, 0) := by decide +kernel
theorem gx281_231 : aF 231 zM281.2.2.2.2.2.2.2 = some (231, (.lload 4), 2, 0, 0) := by decide +kernel
theorem gx281_233 : aF 233 zM281.2.2.2.2.2.2.2 = some (233, .ldiv, 1, 0, 0) := by decide +kernel
theorem gx281_234 : aF 234 zM281.2.2.2.2.2.2.2 = some (234, .lcmp, 1, 0, 0) := by decide +kernel
theorem gx281_235 : aF 235 zM281.2.2.2.2.2.2.2 = some (235, (.ifCond .le 6), 3, 241, 0) := by decide +kernel
theorem gx281_241 : aF 241 zM281.2.2.2.2.2.2.2 = some (241, (.iload 8), 2, 0, 0) := by decide +kernel
theorem gx281_243 : aF 243 zM281.2.2.2.2.2.2.2 = some (243, (.ifCond .lt 33), 3, 276, 0) := by decide +kernel
theorem gx281_246 : aF 246 zM281.2.2.2.2.2.2.2 = some (246, (.iload_n 3), 1, 0, 0) := by decide +kernel
theorem gx281_247 : aF 247 zM281.2.2.2.2.2.2.2 = some (247, .i2l, 1, 0, 0) := by decide +kernel
theorem gx281_248 : aF 248 zM281.2.2.2.2.2.2.2 = some (248, (.aload_n 0), 1, 0, 0) := by decide +kernel
theorem gx281_249 : aF 249 zM281.2.2.2.2.2.2.2 = some (249, (.getfield 194), 3, 12, 77) := by decide +kernel
theorem gx281_252 : aF 252 zM281.2.2.2.2.2.2.2 = some (252, (.iload 9), 2, 0, 0) := by decide +kernel
theorem gx281_254 : aF 254 zM281.2.2.2.2.2.2.2 = some (254, .laload, 1, 0, 0) := by decide +kernel
theorem gx281_255 : aF 255 zM281.2.2.2.2.2.2.2 = some (255, .lmul, 1, 0, 0) := by decide +kernel
theorem gx281_256 : aF 256 zM281.2.2.2.2.2.2.2 = some (256, (.lload 4), 2, 0, 0) := by decide +kernel
theorem gx281_258 : aF 258 zM281.2.2.2.2.2.2.2 = some (258, .lrem, 1, 0, 0) := by decide +kernel
theorem gx281_259 : aF 259 zM281.2.2.2.2.2.2.2 = some (259, (.iload_n 3), 1, 0, 0) := by decide +kernel
theorem gx281_260 : aF 260 zM281.2.2.2.2.2.2.2 = some (260, .i2l, 1, 0, 0) := by decide +kernel
theorem gx281_261 : aF 261 zM281.2.2.2.2.2.2.2 = some (261, (.aload_n 0), 1, 0, 0) := by decide +kernel
theorem gx281_262 : aF 262 zM281.2.2.2.2.2.2.2 = some (262, (.getfield 194), 3, 12, 77) := by decide +kernel
theorem gx281_265 : aF 265 zM281.2.2.2.2.2.2.2 = some (265, (.iload 8), 2, 0, 0) := by decide +kernel
theorem gx281_267 : aF 267 zM281.2.2.2.2.2.2.2 = some (267, .laload, 1, 0, 0) := by decide +kernel
theorem gx281_268 : aF 268 zM281.2.2.2.2.2.2.2 = some (268, .lmul, 1, 0, 0) := by decide +kernel
theorem gx281_269 : aF 269 zM281.2.2.2.2.2.2.2 = some (269, (.lload 4), 2, 0, 0) := by decide +kernel
theorem gx281_271 : aF 271 zM281.2.2.2.2.2.2.2 = some (271, .lrem, 1, 0, 0) := by decide +kernel
theorem gx281_272 : aF 272 zM281.2.2.2.2.2.2.2 = some (272, .lcmp, 1, 0, 0) := by decide +kernel
theorem gx281_273 : aF 273 zM281.2.2.2.2.2.2.2 = some (273, (.ifCond .le 7), 3, 280, 0) := by decide +kernel
theorem gx281_238 : aF 238 zM281.2.2.2.2.2.2.2 = some (238, (.goto 42), 3, 280, 0) := by decide +kernel
theorem gx281_276 : aF 276 zM281.2.2.2.2.2.2.2 = some (276, (.iload 9), 2, 0, 0) := by decide +kernel
theorem gx281_278 : aF 278 zM281.2.2.2.2.2.2.2 = some (278, (.istore 8), 2, 0, 0) := by decide +kernel
theorem gx281_280 : aF 280 zM281.2.2.2.2.2.2.2 = some (280, (.iinc 9 1), 3, 0, 0) := by decide +kernel
theorem gx281_283 : aF 283 zM281.2.2.2.2.2.2.2 = some (283, (.goto (-90)), 3, 193, 0) := by decide +kernel
theorem gx282_0 : aF 0 zM282.2.2.2.2.2.2.2 = some (0, (.iconst 0), 1, 0, 0) := by decide +kernel
theorem gx282_1 : aF 1 zM282.2.2.2.2.2.2.2 = some (1, (.istore_n 3), 1, 0, 0) := by decide +kernel
theorem gx282_2 : aF 2 zM282.2.2.2.2.2.2.2 = some (2, (.iload_n 3), 1, 0, 0) := by decide +kernel
theorem gx282_3 : aF 3 zM282.2.2.2.2.2.2.2 = some (3, (.bipush 24), 2, 0, 0) := by decide +kernel
theorem gx282_5 : aF 5 zM282.2.2.2.2.2.2.2 = some (5, (.if_icmp .ge 37), 3, 42, 0) := by decide +kernel
theorem gx282_42 : aF 42 zM282.2.2.2.2.2.2.2 = some (42, (.iconst 0), 1, 0, 0) := by decide +kernel
theorem gx282_43 : aF 43 zM282.2.2.2.2.2.2.2 = some (43, .ireturn, 1, 0, 0) := by decide +kernel
theorem gx282_8 : aF 8 zM282.2.2.2.2.2.2.2 = some (8, (.aload_n 0), 1, 0, 0) := by decide +kernel
theorem gx282_9 : aF 9 zM282.2.2.2.2.2.2.2 = some (9, (.getfield 31), 3, 12, 10) := by decide +kernel
theorem gx282_12 : aF 12 zM282.2.2.2.2.2.2.2 = some (12, (.bipush 24), 2, 0, 0) := by decide +kernel
theorem gx282_14 : aF 14 zM282.2.2.2.2.2.2.2 = some (14, (.iload_n 1), 1, 0, 0) := by decide +kernel
theorem gx282_15 : aF 15 zM282.2.2.2.2.2.2.2 = some (15, .imul, 1, 0, 0) := by decide +kernel
theorem gx282_16 : aF 16 zM282.2.2.2.2.2.2.2 = some (16, (.iload_n 3), 1, 0, 0) := by decide +kernel
theorem gx282_17 : aF 17 zM282.2.2.2.2.2.2.2 = some (17, .iadd, 1, 0, 0) := by decide +kernel
theorem gx282_18 : aF 18 zM282.2.2.2.2.2.2.2 = some (18, .iaload, 1, 0, 0) := by decide +kernel
theorem gx282_19 : aF 19 zM282.2.2.2.2.2.2.2 = some (19, (.aload_n 0), 1, 0, 0) := by decide +kernel
theorem gx282_20 : aF 20 zM282.2.2.2.2.2.2.2 = some (20, (.getfield 31), 3, 12, 10) := by decide +kernel
theorem gx282_23 : aF 23 zM282.2.2.2.2.2.2.2 = some (23, (.bipush 24), 2, 0, 0) := by decide +kernel
theorem gx282_25 : aF 25 zM282.2.2.2.2.2.2.2 = some (25, (.iload_n 2), 1, 0, 0) := by decide +kernel
theorem gx282_26 : aF 26 zM282.2.2.2.2.2.2.2 = some (26, .imul, 1, 0, 0) := by decide +kernel
theorem gx282_27 : aF 27 zM282.2.2.2.2.2.2.2 = some (27, (.iload_n 3), 1, 0, 0) := by decide +kernel
theorem gx282_28 : aF 28 zM282.2.2.2.2.2.2.2 = some (28, .iadd, 1, 0, 0) := by decide +kernel
theorem gx282_29 : aF 29 zM282.2.2.2.2.2.2.2 = some (29, .iaload, 1, 0, 0) := by decide +kernel
theorem gx282_30 : aF 30 zM282.2.2.2.2.2.2.2 = some (30, .iand, 1, 0, 0) := by decide +kernel
theorem gx282_31 : aF 31 zM282.2.2.2.2.2.2.2 = some (31, (.ifCond .eq 5), 3, 36, 0) := by decide +kernel
theorem gx282_36 : aF 36 zM282.2.2.2.2.2.2.2 = some (36, (.iinc 3 1), 3, 0, 0) := by decide +kernel
theorem gx282_39 : aF 39 zM282.2.2.2.2.2.2.2 = some (39, (.goto (-37)), 3, 2, 0) := by decide +kernel
theorem gx282_34 : aF 34 zM282.2.2.2.2.2.2.2 = some (34, (.iconst 1), 1, 0, 0) := by decide +kernel
theorem gx282_35 : aF 35 zM282.2.2.2.2.2.2.2 = some (35, .ireturn, 1, 0, 0) := by decide +kernel
theorem gx283_0 : aF 0 zM283.2.2.2.2.2.2.2 = some (0, (.aload_n 0), 1, 0, 0) := by decide +kernel
theorem gx283_1 : aF 1 zM283.2.2.2.2.2.2.2 = some (1, (.getfield 52), 3, 12, 20) := by decide +kernel
theorem gx283_4 : aF 4 zM283.2.2.2.2.2.2.2 = some (4, (.iload_n 1), 1, 0, 0) := by decide +kernel
theorem gx283_5 : aF 5 zM283.2.2.2.2.2.2.2 = some (5, .iaload, 1, 0, 0) := by decide +kernel
theorem gx283_6 : aF 6 zM283.2.2.2.2.2.2.2 = some (6, (.aload_n 0), 1, 0, 0) := by decide +kernel
theorem gx283_7 : aF 7 zM283.2.2.2.2.2.2.2 = some (7, (.getfield 52), 3, 12, 20) := by decide +kernel
theorem gx283_10 : aF 10 zM283.2.2.2.2.2.2.2 = some (10, (.iload_n 2), 1, 0, 0) := by decide +kernel
theorem gx283_11 : aF 11 zM283.2.2.2.2.2.2.2 = some (11, .iaload, 1, 0, 0) := by decide +kernel
theorem gx283_12 : aF 12 zM283.2.2.2.2.2.2.2 = some (12, (.if_icmp .eq 26), 3, 38, 0) := by decide +kernel
theorem gx283_38 : aF 38 zM283.2.2.2.2.2.2.2 = some (38, (.iconst 0), 1, 0, 0) := by decide +kernel
theorem gx283_39 : aF 39 zM283.2.2.2.2.2.2.2 = some (39, .ireturn, 1, 0, 0) := by decide +kernel
theorem gx283_15 : aF 15 zM283.2.2.2.2.2.2.2 = some (15, (.aload_n 0), 1, 0, 0) := by decide +kernel
theorem gx283_16 : aF 16 zM283.2.2.2.2.2.2.2 = some (16, (.aload_n 0), 1, 0, 0) := by decide +kernel
theorem gx283_17 : aF 17 zM283.2.2.2.2.2.2.2 = some (17, (.getfield 55), 3, 12, 21) := by decide +kernel
theorem gx283_20 : aF 20 zM283.2.2.2.2.2.2.2 = some (20, (.iload_n 1), 1, 0, 0) := by decide +kernel
theorem gx283_21 : aF 21 zM283.2.2.2.2.2.2.2 = some (21, .iaload, 1, 0, 0) := by decide +kernel
theorem gx283_22 : aF 22 zM283.2.2.2.2.2.2.2 = some (22, (.aload_n 0), 1, 0, 0) := by decide +kernel
theorem gx283_23 : aF 23 zM283.2.2.2.2.2.2.2 = some (23, (.getfield 55), 3, 12, 21) := by decide +kernel
theorem gx283_26 : aF 26 zM283.2.2.2.2.2.2.2 = some (26, (.iload_n 2), 1, 0, 0) := by decide +kernel
theorem gx283_27 : aF 27 zM283.2.2.2.2.2.2.2 = some (27, .iaload, 1, 0, 0) := by decide +kernel
theorem gx283_28 : aF 28 zM283.2.2.2.2.2.2.2 = some (28, (.invokevirtual 508), 3, 282, 0) := by decide +kernel
theorem gx283_31 : aF 31 zM283.2.2.2.2.2.2.2 = some (31, (.ifCond .eq 7), 3, 38, 0) := by decide +kernel
theorem gx283_34 : aF 34 zM283.2.2.2.2.2.2.2 = some (34, (.iconst 1), 1, 0, 0) := by decide +kernel
theorem gx283_35 : aF 35 zM283.2.2.2.2.2.2.2 = some (35, (.goto 4), 3, 39, 0) := by decide +kernel
theorem gx284_0 : aF 0 zM284.2.2.2.2.2.2.2 = some (0, (.iconst 0), 1, 0, 0) := by decide +kernel
theorem gx284_1 : aF 1 zM284.2.2.2.2.2.2.2 = some (1, (.istore_n 3), 1, 0, 0) := by decide +kernel
theorem gx284_2 : aF 2 zM284.2.2.2.2.2.2.2 = some (2, (.iload_n 3), 1, 0, 0) := by decide +kernel
theorem gx284_3 : aF 3 zM284.2.2.2.2.2.2.2 = some (3, (.aload_n 0), 1, 0, 0) := by decide +kernel
theorem gx284_4 : aF 4 zM284.2.2.2.2.2.2.2 = some (4, (.getfield 336), 3, 12, 19) := by decide +kernel
theorem gx284_7 : aF 7 zM284.2.2.2.2.2.2.2 = some (7, (.if_icmp .ge 90), 3, 97, 0) := by decide +kernel
theorem gx284_97 : aF 97 zM284.2.2.2.2.2.2.2 = some (97, (.iconst 0), 1, 0, 0) := by decide +kernel
theorem gx284_98 : aF 98 zM284.2.2.2.2.2.2.2 = some (98, .ireturn, 1, 0, 0) := by decide +kernel
theorem gx284_10 : aF 10 zM284.2.2.2.2.2.2.2 = some (10, (.aload_n 0), 1, 0, 0) := by decide +kernel
theorem gx284_11 : aF 11 zM284.2.2.2.2.2.2.2 = some (11, (.getfield 108), 3, 12, 40) := by decide +kernel
theorem gx284_14 : aF 14 zM284.2.2.2.2.2.2.2 = some (14, (.iload_n 3), 1, 0, 0) := by decide +kernel
theorem gx284_15 : aF 15 zM284.2.2.2.2.2.2.2 = some (15, .baload, 1, 0, 0) := by decide +kernel
theorem gx284_16 : aF 16 zM284.2.2.2.2.2.2.2 = some (16, (.ifCond .eq 75), 3, 91, 0) := by decide +kernel
theorem gx284_91 : aF 91 zM284.2.2.2.2.2.2.2 = some (91, (.iinc 3 1), 3, 0, 0) := by decide +kernel
theorem gx284_94 : aF 94 zM284.2.2.2.2.2.2.2 = some (94, (.goto (-92)), 3, 2, 0) := by decide +kernel
theorem gx284_19 : aF 19 zM284.2.2.2.2.2.2.2 = some (19, (.aload_n 0), 1, 0, 0) := by decide +kernel
theorem gx284_20 : aF 20 zM284.2.2.2.2.2.2.2 = some (20, (.iload_n 3), 1, 0, 0) := by decide +kernel
theorem gx284_21 : aF 21 zM284.2.2.2.2.2.2.2 = some (21, (.invokevirtual 342), 3, 229, 0) := by decide +kernel
theorem gx284_24 : aF 24 zM284.2.2.2.2.2.2.2 = some (24, (.iload_n 2), 1, 0, 0) := by decide +kernel
theorem gx284_25 : aF 25 zM284.2.2.2.2.2.2.2 = some (25, (.if_icmp .ne 66), 3, 91, 0) := by decide +kernel
theorem gx284_28 : aF 28 zM284.2.2.2.2.2.2.2 = some (28, (.aload_n 0), 1, 0, 0) := by decide +kernel
theorem gx284_29 : aF 29 zM284.2.2.2.2.2.2.2 = some (29, (.getfield 55), 3, 12, 21) := by decide +kernel
theorem gx284_32 : aF 32 zM284.2.2.2.2.2.2.2 = some (32, (.iload_n 3), 1, 0, 0) := by decide +kernel
theorem gx284_33 : aF 33 zM284.2.2.2.2.2.2.2 = some (33, .iaload, 1, 0, 0) := by decide +kernel
theorem gx284_34 : aF 34 zM284.2.2.2.2.2.2.2 = some (34, (.iload_n 1), 1, 0, 0) := by decide +kernel
theorem gx284_35 : aF 35 zM284.2.2.2.2.2.2.2 = some (35, (.if_icmp .eq 6), 3, 41, 0) := by decide +kernel
theorem gx284_41 : aF 41 zM284.2.2.2.2.2.2.2 = some (41, (.iconst 0), 1, 0, 0) := by decide +kernel
theorem gx284_42 : aF 42 zM284.2.2.2.2.2.2.2 = some (42, (.istore 4), 2, 0, 0) := by decide +kernel
theorem gx284_38 : aF 38 zM284.2.2.2.2.2.2.2 = some (38, (.goto 53), 3, 91, 0) := by decide +kernel
theorem gx284_44 : aF 44 zM284.2.2.2.2.2.2.2 = some (44, (.iload 4), 2, 0, 0) := by decide +kernel
theorem gx284_46 : aF 46 zM284.2.2.2.2.2.2.2 = some (46, (.aload_n 0), 1, 0, 0) := by decide +kernel
theorem gx284_47 : aF 47 zM284.2.2.2.2.2.2.2 = some (47, (.getfield 336), 3, 12, 19) := by decide +kernel
theorem gx284_50 : aF 50 zM284.2.2.2.2.2.2.2 = some (50, (.if_icmp .ge 41), 3, 91, 0) := by decide +kernel
theorem gx284_53 : aF 53 zM284.2.2.2.2.2.2.2 = some (53, (.aload_n 0), 1, 0, 0) := by decide +kernel
theorem gx284_54 : aF 54 zM284.2.2.2.2.2.2.2 = some (54, (.getfield 108), 3, 12, 40) := by decide +kernel
theorem gx284_57 : aF 57 zM284.2.2.2.2.2.2.2 = some (57, (.iload 4), 2, 0, 0) := by decide +kernel
theorem gx284_59 : aF 59 zM284.2.2.2.2.2.2.2 = some (59, .baload, 1, 0, 0) := by decide +kernel
theorem gx284_60 : aF 60 zM284.2.2.2.2.2.2.2 = some (60, (.ifCond .eq 25), 3, 85, 0) := by decide +kernel
theorem gx284_85 : aF 85 zM284.2.2.2.2.2.2.2 = some (85, (.iinc 4 1), 3, 0, 0) := by decide +kernel
theorem gx284_88 : aF 88 zM284.2.2.2.2.2.2.2 = some (88, (.goto (-44)), 3, 44, 0) := by decide +kernel
theorem gx284_63 : aF 63 zM284.2.2.2.2.2.2.2 = some (63, (.aload_n 0), 1, 0, 0) := by decide +kernel
theorem gx284_64 : aF 64 zM284.2.2.2.2.2.2.2 = some (64, (.iload 4), 2, 0, 0) := by decide +kernel
theorem gx284_66 : aF 66 zM284.2.2.2.2.2.2.2 = some (66, (.invokevirtual 342), 3, 229, 0) := by decide +kernel
theorem gx284_69 : aF 69 zM284.2.2.2.2.2.2.2 = some (69, (.iload_n 2), 1, 0, 0) := by decide +kernel
theorem gx284_70 : aF 70 zM284.2.2.2.2.2.2.2 = some (70, (.if_icmp .ne 15), 3, 85, 0) := by decide +kernel
theorem gx284_73 : aF 73 zM284.2.2.2.2.2.2.2 = some (73, (.aload_n 0), 1, 0, 0) := by decide +kernel
theorem gx284_74 : aF 74 zM284.2.2.2.2.2.2.2 = some (74, (.iload_n 3), 1, 0, 0) := by decide +kernel
theorem gx284_75 : aF 75 zM284.2.2.2.2.2.2.2 = some (75, (.iload 4), 2, 0, 0) := by decide +kernel
theorem gx284_77 : aF 77 zM284.2.2.2.2.2.2.2 = some (77, (.invokevirtual 511), 3, 283, 0) := by decide +kernel
theorem gx284_80 : aF 80 zM284.2.2.2.2.2.2.2 = some (80, (.ifCond .eq 5), 3, 85, 0) := by decide +kernel
theorem gx284_83 : aF 83 zM284.2.2.2.2.2.2.2 = some (83, (.iconst 1), 1, 0, 0) := by decide +kernel
theorem gx284_84 : aF 84 zM284.2.2.2.2.2.2.2 = some (84, .ireturn, 1, 0, 0) := by decide +kernel
theorem gx285_0 : aF 0 zM285.2.2.2.2.2.2.2 = some (0, (.iconst 0), 1, 0, 0) := by decide +kernel
theorem gx285_1 : aF 1 zM285.2.2.2.2.2.2.2 = some (1, (.istore_n 3), 1, 0, 0) := by decide +kernel
theorem gx285_2 : aF 2 zM285.2.2.2.2.2.2.2 = some (2, (.iload_n 3), 1, 0, 0) := by decide +kernel
theorem gx285_3 : aF 3 zM285.2.2.2.2.2.2.2 = some (3, (.aload_n 0), 1, 0, 0) := by decide +kernel
theorem gx285_4 : aF 4 zM285.2.2.2.2.2.2.2 = some (4, (.getfield 514), 3, 12, 79) := by decide +kernel
theorem gx285_7 : aF 7 zM285.2.2.2.2.2.2.2 = some (7, (.if_icmp .ge 30), 3, 37, 0) := by decide +kernel
theorem gx285_37 : aF 37 zM285.2.2.2.2.2.2.2 = some (37, (.iconst 0), 1, 0, 0) := by decide +kernel
theorem gx285_38 : aF 38 zM285.2.2.2.2.2.2.2 = some (38, .ireturn, 1, 0, 0) := by decide +kernel
theorem gx285_10 : aF 10 zM285.2.2.2.2.2.2.2 = some (10, (.iload_n 2), 1, 0, 0) := by decide +kernel
theorem gx285_11 : aF 11 zM285.2.2.2.2.2.2.2 = some (11, (.iload_n 3), 1, 0, 0) := by decide +kernel
theorem gx285_12 : aF 12 zM285.2.2.2.2.2.2.2 = some (12, .ishr, 1, 0, 0) := by decide +kernel
theorem gx285_13 : aF 13 zM285.2.2.2.2.2.2.2 = some (13, (.iconst 1), 1, 0, 0) := by decide +kernel
theorem gx285_14 : aF 14 zM285.2.2.2.2.2.2.2 = some (14, .iand, 1, 0, 0) := by decide +kernel
theorem gx285_15 : aF 15 zM285.2.2.2.2.2.2.2 = some (15, (.iconst 1), 1, 0, 0) := by decide +kernel
theorem gx285_16 : aF 16 zM285.2.2.2.2.2.2.2 = some (16, (.if_icmp .ne 15), 3, 31, 0) := by decide +kernel
theorem gx285_31 : aF 31 zM285.2.2.2.2.2.2.2 = some (31, (.iinc 3 1), 3, 0, 0) := by decide +kernel
theorem gx285_34 : aF 34 zM285.2.2.2.2.2.2.2 = some (34, (.goto (-32)), 3, 2, 0) := by decide +kernel
theorem gx285_19 : aF 19 zM285.2.2.2.2.2.2.2 = some (19, (.aload_n 0), 1, 0, 0) := by decide +kernel
theorem gx285_20 : aF 20 zM285.2.2.2.2.2.2.2 = some (20, (.getfield 201), 3, 12, 80) := by decide +kernel
theorem gx285_23 : aF 23 zM285.2.2.2.2.2.2.2 = some (23, (.iload_n 3), 1, 0, 0) := by decide +kernel
theorem gx285_24 : aF 24 zM285.2.2.2.2.2.2.2 = some (24, .iaload, 1, 0, 0) := by decide +kernel
theorem gx285_25 : aF 25 zM285.2.2.2.2.2.2.2 = some (25, (.iload_n 1), 1, 0, 0) := by decide +kernel
theorem gx285_26 : aF 26 zM285.2.2.2.2.2.2.2 = some (26, (.if_icmp .ne 5), 3, 31, 0) := by decide +kernel
theorem gx285_29 : aF 29 zM285.2.2.2.2.2.2.2 = some (29, (.iconst 1), 1, 0, 0) := by decide +kernel
theorem gx285_30 : aF 30 zM285.2.2.2.2.2.2.2 = some (30, .ireturn, 1, 0, 0) := by decide +kernel
theorem gx286_0 : aF 0 zM286.2.2.2.2.2.2.2 = some (0, (.iconst 0), 1, 0, 0) := by decide +kernel
theorem gx286_1 : aF 1 zM286.2.2.2.2.2.2.2 = some (1, (.istore_n 3), 1, 0, 0) := by decide +kernel
theorem gx286_2 : aF 2 zM286.2.2.2.2.2.2.2 = some (2, (.iload_n 3), 1, 0, 0) := by decide +kernel
theorem gx286_3 : aF 3 zM286.2.2.2.2.2.2.2 = some (3, (.aload_n 0), 1, 0, 0) := by decide +kernel
theorem gx286_4 : aF 4 zM286.2.2.2.2.2.2.2 = some (4, (.getfield 336), 3, 12, 19) := by decide +kernel
theorem gx286_7 : aF 7 zM286.2.2.2.2.2.2.2 = some (7, (.if_icmp .ge 111), 3, 118, 0) := by decide +kernel
theorem gx286_118 : aF 118 zM286.2.2.2.2.2.2.2 = some (118, (.iconst 1), 1, 0, 0) := by decide +kernel
theorem gx286_119 : aF 119 zM286.2.2.2.2.2.2.2 = some (119, .ireturn, 1, 0, 0) := by decide +kernel
theorem gx286_10 : aF 10 zM286.2.2.2.2.2.2.2 = some (10, (.aload_n 0), 1, 0, 0) := by decide +kernel
theorem gx286_11 : aF 11 zM286.2.2.2.2.2.2.2 = some (11, (.getfield 108), 3, 12, 40) := by decide +kernel
theorem gx286_14 : aF 14 zM286.2.2.2.2.2.2.2 = some (14, (.iload_n 3), 1, 0, 0) := by decide +kernel
theorem gx286_15 : aF 15 zM286.2.2.2.2.2.2.2 = some (15, .baload, 1, 0, 0) := by decide +kernel
theorem gx286_16 : aF 16 zM286.2.2.2.2.2.2.2 = some (16, (.ifCond .eq 96), 3, 112, 0) := by decide +kernel
theorem gx286_19 : aF 19 zM286.2.2.2.2.2.2.2 = some (19, (.aload_n 0), 1, 0, 0) := by decide +kernel
theorem gx286_20 : aF 20 zM286.2.2.2.2.2.2.2 = some (20, (.iload_n 3), 1, 0, 0) := by decide +kernel
theorem gx286_21 : aF 21 zM286.2.2.2.2.2.2.2 = some (21, (.invokevirtual 342), 3, 229, 0) := by decide +kernel
theorem gx286_24 : aF 24 zM286.2.2.2.2.2.2.2 = some (24, (.iload_n 2), 1, 0, 0) := by decide +kernel
theorem gx286_25 : aF 25 zM286.2.2.2.2.2.2.2 = some (25, (.if_icmp .ne 87), 3, 112, 0) := by decide +kernel
theorem gx286_28 : aF 28 zM286.2.2.2.2.2.2.2 = some (28, (.aload_n 0), 1, 0, 0) := by decide +kernel
theorem gx286_29 : aF 29 zM286.2.2.2.2.2.2.2 = some (29, (.aload_n 0), 1, 0, 0) := by decide +kernel
theorem gx286_30 : aF 30 zM286.2.2.2.2.2.2.2 = some (30, (.getfield 55), 3, 12, 21) := by decide +kernel
theorem gx286_33 : aF 33 zM286.2.2.2.2.2.2.2 = some (33, (.iload_n 3), 1, 0, 0) := by decide +kernel
theorem gx286_34 : aF 34 zM286.2.2.2.2.2.2.2 = some (34, .iaload, 1, 0, 0) := by decide +kernel
theorem gx286_35 : aF 35 zM286.2.2.2.2.2.2.2 = some (35, (.iload_n 1), 1, 0, 0) := by decide +kernel
theorem gx286_36 : aF 36 zM286.2.2.2.2.2.2.2 = some (36, (.invokevirtual 517), 3, 285, 0) := by decide +kernel
theorem gx286_39 : aF 39 zM286.2.2.2.2.2.2.2 = some (39, (.ifCond .eq 6), 3, 45, 0) := by decide +kernel
theorem gx286_45 : aF 45 zM286.2.2.2.2.2.2.2 = some (45, (.iload_n 3), 1, 0, 0) := by decide +kernel
theorem gx286_46 : aF 46 zM286.2.2.2.2.2.2.2 = some (46, (.iconst 1), 1, 0, 0) := by decide +kernel
theorem gx286_47 : aF 47 zM286.2.2.2.2.2.2.2 = some (47, .iadd, 1, 0, 0) := by decide +kernel
theorem gx286_48 : aF 48 zM286.2.2.2.2.2.2.2 = some (48, (.istore 4), 2, 0, 0) := by decide +kernel
theorem gx286_42 : aF 42 zM286.2.2.2.2.2.2.2 = some (42, (.goto 70), 3, 112, 0) := by decide +kernel
theorem gx286_50 : aF 50 zM286.2.2.2.2.2.2.2 = some (50, (.iload 4), 2, 0, 0) := by decide +kernel
theorem gx286_52 : aF 52 zM286.2.2.2.2.2.2.2 = some (52, (.aload_n 0), 1, 0, 0) := by decide +kernel
theorem gx286_53 : aF 53 zM286.2.2.2.2.2.2.2 = some (53, (.getfield 336), 3, 12, 19) := by decide +kernel
theorem gx286_56 : aF 56 zM286.2.2.2.2.2.2.2 = some (56, (.if_icmp .ge 56), 3, 112, 0) := by decide +kernel
theorem gx286_59 : aF 59 zM286.2.2.2.2.2.2.2 = some (59, (.aload_n 0), 1, 0, 0) := by decide +kernel
theorem gx286_60 : aF 60 zM286.2.2.2.2.2.2.2 = some (60, (.getfield 108), 3, 12, 40) := by decide +kernel
theorem gx286_63 : aF 63 zM286.2.2.2.2.2.2.2 = some (63, (.iload 4), 2, 0, 0) := by decide +kernel
theorem gx286_65 : aF 65 zM286.2.2.2.2.2.2.2 = some (65, .baload, 1, 0, 0) := by decide +kernel
theorem gx286_66 : aF 66 zM286.2.2.2.2.2.2.2 = some (66, (.ifCond .eq 40), 3, 106, 0) := by decide +kernel
theorem gx286_69 : aF 69 zM286.2.2.2.2.2.2.2 = some (69, (.aload_n 0), 1, 0, 0) := by decide +kernel
theorem gx286_70 : aF 70 zM286.2.2.2.2.2.2.2 = some (70, (.iload 4), 2, 0, 0) := by decide +kernel
theorem gx286_72 : aF 72 zM286.2.2.2.2.2.2.2 = some (72, (.invokevirtual 342), 3, 229, 0) := by decide +kernel
theorem gx286_75 : aF 75 zM286.2.2.2.2.2.2.2 = some (75, (.iload_n 2), 1, 0, 0) := by decide +kernel
theorem gx286_76 : aF 76 zM286.2.2.2.2.2.2.2 = some (76, (.if_icmp .ne 30), 3, 106, 0) := by decide +kernel
theorem gx286_79 : aF 79 zM286.2.2.2.2.2.2.2 = some (79, (.aload_n 0), 1, 0, 0) := by decide +kernel
theorem gx286_80 : aF 80 zM286.2.2.2.2.2.2.2 = some (80, (.aload_n 0), 1, 0, 0) := by decide +kernel
theorem gx286_81 : aF 81 zM286.2.2.2.2.2.2.2 = some (81, (.getfield 55), 3, 12, 21) := by decide +kernel
theorem gx286_84 : aF 84 zM286.2.2.2.2.2.2.2 = some (84, (.iload 4), 2, 0, 0) := by decide +kernel
theorem gx286_86 : aF 86 zM286.2.2.2.2.2.2.2 = some (86, .iaload, 1, 0, 0) := by decide +kernel
theorem gx286_87 : aF 87 zM286.2.2.2.2.2.2.2 = some (87, (.iload_n 1), 1, 0, 0) := by decide +kernel
theorem gx286_88 : aF 88 zM286.2.2.2.2.2.2.2 = some (88, (.invokevirtual 517), 3, 285, 0) := by decide +kernel
theorem gx286_91 : aF 91 zM286.2.2.2.2.2.2.2 = some (91, (.ifCond .ne 15), 3, 106, 0) := by decide +kernel
theorem gx286_94 : aF 94 zM286.2.2.2.2.2.2.2 = some (94, (.aload_n 0), 1, 0, 0) := by decide +kernel
theorem gx286_95 : aF 95 zM286.2.2.2.2.2.2.2 = some (95, (.iload_n 3), 1, 0, 0) := by decide +kernel
theorem gx286_96 : aF 96 zM286.2.2.2.2.2.2.2 = some (96, (.iload 4), 2, 0, 0) := by decide +kernel
theorem gx286_98 : aF 98 zM286.2.2.2.2.2.2.2 = some (98, (.invokevirtual 511), 3, 283, 0) := by decide +kernel
theorem gx286_101 : aF 101 zM286.2.2.2.2.2.2.2 = some (101, (.ifCond .eq 5), 3, 106, 0) := by decide +kernel
theorem gx286_104 : aF 104 zM286.2.2.2.2.2.2.2 = some (104, (.iconst 0), 1, 0, 0) := by decide +kernel
theorem gx286_105 : aF 105 zM286.2.2.2.2.2.2.2 = some (105, .ireturn, 1, 0, 0) := by decide +kernel
theorem gx286_106 : aF 106 zM286.2.2.2.2.2.2.2 = some (106, (.iinc 4 1), 3, 0, 0) := by decide +kernel
theorem gx286_109 : aF 109 zM286.2.2.2.2.2.2.2 = some (109, (.goto (-59)), 3, 50, 0) := by decide +kernel
theorem gx286_112 : aF 112 zM286.2.2.2.2.2.2.2 = some (112, (.iinc 3 1), 3, 0, 0) := by decide +kernel
theorem gx286_115 : aF 115 zM286.2.2.2.2.2.2.2 = some (115, (.goto (-113)), 3, 2, 0) := by decide +kernel
theorem gx287_0 : aF 0 zM287.2.2.2.2.2.2.2 = some (0, (.iconst 0), 1, 0, 0) := by decide +kernel
theorem gx287_1 : aF 1 zM287.2.2.2.2.2.2.2 = some (1, (.istore_n 1), 1, 0, 0) := by decide +kernel
theorem gx287_2 : aF 2 zM287.2.2.2.2.2.2.2 = some (2, (.iload_n 0), 1, 0, 0) := by decide +kernel
theorem gx287_3 : aF 3 zM287.2.2.2.2.2.2.2 = some (3, (.istore_n 2), 1, 0, 0) := by decide +kernel
theorem gx287_4 : aF 4 zM287.2.2.2.2.2.2.2 = some (4, (.iload_n 2), 1, 0, 0) := by decide +kernel
theorem gx287_5 : aF 5 zM287.2.2.2.2.2.2.2 = some (5, (.ifCond .eq 15), 3, 20, 0) := by decide +kernel
theorem gx287_20 : aF 20 zM287.2.2.2.2.2.2.2 = some (20, (.iload_n 1), 1, 0, 0) := by decide +kernel
theorem gx287_21 : aF 21 zM287.2.2.2.2.2.2.2 = some (21, .ireturn, 1, 0, 0) := by decide +kernel
theorem gx287_8 : aF 8 zM287.2.2.2.2.2.2.2 = some (8, (.iinc 1 1), 3, 0, 0) := by decide +kernel
theorem gx287_11 : aF 11 zM287.2.2.2.2.2.2.2 = some (11, (.iload_n 2), 1, 0, 0) := by decide +kernel
theorem gx287_12 : aF 12 zM287.2.2.2.2.2.2.2 = some (12, (.iload_n 2), 1, 0, 0) := by decide +kernel
theorem gx287_13 : aF 13 zM287.2.2.2.2.2.2.2 = some (13, (.iconst 1), 1, 0, 0) := by decide +kernel
theorem gx287_14 : aF 14 zM287.2.2.2.2.2.2.2 = some (14, .isub, 1, 0, 0) := by decide +kernel
theorem gx287_15 : aF 15 zM287.2.2.2.2.2.2.2 = some (15, .iand, 1, 0, 0) := by decide +kernel
theorem gx287_16 : aF 16 zM287.2.2.2.2.2.2.2 = some (16, (.istore_n 2), 1, 0, 0) := by decide +kernel
theorem gx287_17 : aF 17 zM287.2.2.2.2.2.2.2 = some (17, (.goto (-13)), 3, 4, 0) := by decide +kernel
theorem gx288_0 : aF 0 zM288.2.2.2.2.2.2.2 = some (0, (.iload_n 1), 1, 0, 0) := by decide +kernel
theorem gx288_1 : aF 1 zM288.2.2.2.2.2.2.2 = some (1, (.invokestatic 372), 3, 198, 0) := by decide +kernel
theorem gx288_4 : aF 4 zM288.2.2.2.2.2.2.2 = some (4, (.ifCond .ne 5), 3, 9, 0) := by decide +kernel
theorem gx288_9 : aF 9 zM288.2.2.2.2.2.2.2 = some (9, (.aload_n 0), 1, 0, 0) := by decide +kernel
theorem gx288_10 : aF 10 zM288.2.2.2.2.2.2.2 = some (10, (.aload_n 0), 1, 0, 0) := by decide +kernel
theorem gx288_11 : aF 11 zM288.2.2.2.2.2.2.2 = some (11, (.getfield 262), 3, 12, 1) := by decide +kernel
theorem gx288_14 : aF 14 zM288.2.2.2.2.2.2.2 = some (14, (.invokevirtual 368), 3, 239, 0) := by decide +kernel
theorem gx288_17 : aF 17 zM288.2.2.2.2.2.2.2 = some (17, (.iconst 0), 1, 0, 0) := by decide +kernel
theorem gx288_18 : aF 18 zM288.2.2.2.2.2.2.2 = some (18, (.istore_n 2), 1, 0, 0) := by decide +kernel
theorem gx288_19 : aF 19 zM288.2.2.2.2.2.2.2 = some (19, (.iconst 0), 1, 0, 0) := by decide +kernel
theorem gx288_20 : aF 20 zM288.2.2.2.2.2.2.2 = some (20, (.istore_n 3), 1, 0, 0) := by decide +kernel
theorem gx288_7 : aF 7 zM288.2.2.2.2.2.2.2 = some (7, (.iconst (-1)), 1, 0, 0) := by decide +kernel
theorem gx288_8 : aF 8 zM288.2.2.2.2.2.2.2 = some (8, .ireturn, 1, 0, 0) := by decide +kernel
theorem gx288_21 : aF 21 zM288.2.2.2.2.2.2.2 = some (21, (.iload_n 3), 1, 0, 0) := by decide +kernel
theorem gx288_22 : aF 22 zM288.2.2.2.2.2.2.2 = some (22, (.aload_n 0), 1, 0, 0) := by decide +kernel
theorem gx288_23 : aF 23 zM288.2.2.2.2.2.2.2 = some (23, (.getfield 265), 3, 12, 2) := by decide +kernel
theorem gx288_26 : aF 26 zM288.2.2.2.2.2.2.2 = some (26, (.if_icmp .ge 34), 3, 60, 0) := by decide +kernel
theorem gx288_60 : aF 60 zM288.2.2.2.2.2.2.2 = some (60, (.iload_n 2), 1, 0, 0) := by decide +kernel
theorem gx288_61 : aF 61 zM288.2.2.2.2.2.2.2 = some (61, (.bipush 10), 2, 0, 0) := by decide +kernel
theorem gx288_63 : aF 63 zM288.2.2.2.2.2.2.2 = some (63, (.if_icmp .le 6), 3, 69, 0) := by decide +kernel
theorem gx288_69 : aF 69 zM288.2.2.2.2.2.2.2 = some (69, (.aload_n 0), 1, 0, 0) := by decide +kernel
theorem gx288_70 : aF 70 zM288.2.2.2.2.2.2.2 = some (70, (.iconst 0), 1, 0, 0) := by decide +kernel
theorem gx288_71 : aF 71 zM288.2.2.2.2.2.2.2 = some (71, (.putfield 514), 3, 12, 79) := by decide +kernel
theorem gx288_74 : aF 74 zM288.2.2.2.2.2.2.2 = some (74, (.iconst 0), 1, 0, 0) := by decide +kernel
theorem gx288_75 : aF 75 zM288.2.2.2.2.2.2.2 = some (75, (.istore_n 3), 1, 0, 0) := by decide +kernel
theorem gx288_66 : aF 66 zM288.2.2.2.2.2.2.2 = some (66, (.bipush (-4)), 2, 0, 0) := by decide +kernel
theorem gx288_68 : aF 68 zM288.2.2.2.2.2.2.2 = some (68, .ireturn, 1, 0, 0) := by decide +kernel
theorem gx288_29 : aF 29 zM288.2.2.2.2.2.2.2 = some (29, (.iload_n 2), 1, 0, 0) := by decide +kernel
theorem gx288_30 : aF 30 zM288.2.2.2.2.2.2.2 = some (30, (.aload_n 0), 1, 0, 0) := by decide +kernel
theorem gx288_31 : aF 31 zM288.2.2.2.2.2.2.2 = some (31, (.iload_n 3), 1, 0, 0) := by decide +kernel
theorem gx288_32 : aF 32 zM288.2.2.2.2.2.2.2 = some (32, (.invokevirtual 322), 3, 203, 0) := by decide +kernel
theorem gx288_35 : aF 35 zM288.2.2.2.2.2.2.2 = some (35, (.ifCond .eq 16), 3, 51, 0) := by decide +kernel
theorem gx288_38 : aF 38 zM288.2.2.2.2.2.2.2 = some (38, (.aload_n 0), 1, 0, 0) := by decide +kernel
theorem gx288_39 : aF 39 zM288.2.2.2.2.2.2.2 = some (39, (.iload_n 3), 1, 0, 0) := by decide +kernel
theorem gx288_40 : aF 40 zM288.2.2.2.2.2.2.2 = some (40, (.iload_n 1), 1, 0, 0) := by decide +kernel
theorem gx288_41 : aF 41 zM288.2.2.2.2.2.2.2 = some (41, (.invokevirtual 520), 3, 284, 0) := by decide +kernel
theorem gx288_44 : aF 44 zM288.2.2.2.2.2.2.2 = some (44, (.ifCond .eq 7), 3, 51, 0) := by decide +kernel
theorem gx288_47 : aF 47 zM288.2.2.2.2.2.2.2 = some (47, (.iconst 1), 1, 0, 0) := by decide +kernel
theorem gx288_48 : aF 48 zM288.2.2.2.2.2.2.2 = some (48, (.goto 4), 3, 52, 0) := by decide +kernel
theorem gx288_51 : aF 51 zM288.2.2.2.2.2.2.2 = some (51, (.iconst 0), 1, 0, 0) := by decide +kernel
theorem gx288_52 : aF 52 zM288.2.2.2.2.2.2.2 = some (52, .iadd, 1, 0, 0) := by decide +kernel
theorem gx288_53 : aF 53 zM288.2.2.2.2.2.2.2 = some (53, (.istore_n 2), 1, 0, 0) := by decide +kernel
theorem gx288_54 : aF 54 zM288.2.2.2.2.2.2.2 = some (54, (.iinc 3 1), 3, 0, 0) := by decide +kernel
theorem gx288_57 : aF 57 zM288.2.2.2.2.2.2.2 = some (57, (.goto (-36)), 3, 21, 0) := by decide +kernel
theorem gx288_76 : aF 76 zM288.2.2.2.2.2.2.2 = some (76, (.iload_n 3), 1, 0, 0) := by decide +kernel
theorem gx288_77 : aF 77 zM288.2.2.2.2.2.2.2 = some (77, (.aload_n 0), 1, 0, 0) := by decide +kernel
theorem gx288_78 : aF 78 zM288.2.2.2.2.2.2.2 = some (78, (.getfield 265), 3, 12, 2) := by decide +kernel
theorem gx288_81 : aF 81 zM288.2.2.2.2.2.2.2 = some (81, (.if_icmp .ge 49), 3, 130, 0) := by decide +kernel
theorem gx288_130 : aF 130 zM288.2.2.2.2.2.2.2 = some (130, (.iconst (-1)), 1, 0, 0) := by decide +kernel
theorem gx288_131 : aF 131 zM288.2.2.2.2.2.2.2 = some (131, (.istore_n 3), 1, 0, 0) := by decide +kernel
theorem gx288_132 : aF 132 zM288.2.2.2.2.2.2.2 = some (132, (.iconst 0), 1, 0, 0) := by decide +kernel
theorem gx288_133 : aF 133 zM288.2.2.2.2.2.2.2 = some (133, (.istore 4), 2, 0, 0) := by decide +kernel
theorem gx288_135 : aF 135 zM288.2.2.2.2.2.2.2 = some (135, (.iconst 0), 1, 0, 0) := by decide +kernel
theorem gx288_136 : aF 136 zM288.2.2.2.2.2.2.2 = some (136, (.istore 5), 2, 0, 0) := by decide +kernel
theorem gx288_84 : aF 84 zM288.2.2.2.2.2.2.2 = some (84, (.aload_n 0), 1, 0, 0) := by decide +kernel
theorem gx288_85 : aF 85 zM288.2.2.2.2.2.2.2 = some (85, (.iload_n 3), 1, 0, 0) := by decide +kernel
theorem gx288_86 : aF 86 zM288.2.2.2.2.2.2.2 = some (86, (.invokevirtual 322), 3, 203, 0) := by decide +kernel
theorem gx288_89 : aF 89 zM288.2.2.2.2.2.2.2 = some (89, (.ifCond .eq 35), 3, 124, 0) := by decide +kernel
theorem gx288_92 : aF 92 zM288.2.2.2.2.2.2.2 = some (92, (.aload_n 0), 1, 0, 0) := by decide +kernel
theorem gx288_93 : aF 93 zM288.2.2.2.2.2.2.2 = some (93, (.iload_n 3), 1, 0, 0) := by decide +kernel
theorem gx288_94 : aF 94 zM288.2.2.2.2.2.2.2 = some (94, (.iload_n 1), 1, 0, 0) := by decide +kernel
theorem gx288_95 : aF 95 zM288.2.2.2.2.2.2.2 = some (95, (.invokevirtual 520), 3, 284, 0) := by decide +kernel
theorem gx288_98 : aF 98 zM288.2.2.2.2.2.2.2 = some (98, (.ifCond .ne 6), 3, 104, 0) := by decide +kernel
theorem gx288_104 : aF 104 zM288.2.2.2.2.2.2.2 = some (104, (.aload_n 0), 1, 0, 0) := by decide +kernel
theorem gx288_105 : aF 105 zM288.2.2.2.2.2.2.2 = some (105, (.getfield 201), 3, 12, 80) := by decide +kernel
theorem gx288_108 : aF 108 zM288.2.2.2.2.2.2.2 = some (108, (.aload_n 0), 1, 0, 0) := by decide +kernel
theorem gx288_109 : aF 109 zM288.2.2.2.2.2.2.2 = some (109, (.getfield 514), 3, 12, 79) := by decide +kernel
theorem gx288_112 : aF 112 zM288.2.2.2.2.2.2.2 = some (112, (.iload_n 3), 1, 0, 0) := by decide +kernel
theorem gx288_113 : aF 113 zM288.2.2.2.2.2.2.2 = some (113, .iastore, 1, 0, 0) := by decide +kernel
theorem gx288_114 : aF 114 zM288.2.2.2.2.2.2.2 = some (114, (.aload_n 0), 1, 0, 0) := by decide +kernel
theorem gx288_115 : aF 115 zM288.2.2.2.2.2.2.2 = some (115, .dup, 1, 0, 0) := by decide +kernel
theorem gx288_116 : aF 116 zM288.2.2.2.2.2.2.2 = some (116, (.getfield 514), 3, 12, 79) := by decide +kernel
theorem gx288_119 : aF 119 zM288.2.2.2.2.2.2.2 = some (119, (.iconst 1), 1, 0, 0) := by decide +kernel
theorem gx288_120 : aF 120 zM288.2.2.2.2.2.2.2 = some (120, .iadd, 1, 0, 0) := by decide +kernel
theorem gx288_121 : aF 121 zM288.2.2.2.2.2.2.2 = some (121, (.putfield 514), 3, 12, 79) := by decide +kernel
theorem gx288_101 : aF 101 zM288.2.2.2.2.2.2.2 = some (101, (.goto 23), 3, 124, 0) := by decide +kernel
theorem gx288_124 : aF 124 zM288.2.2.2.2.2.2.2 = some (124, (.iinc 3 1), 3, 0, 0) := by decide +kernel
theorem gx288_127 : aF 127 zM288.2.2.2.2.2.2.2 = some (127, (.goto (-51)), 3, 76, 0) := by decide +kernel
theorem gx288_138 : aF 138 zM288.2.2.2.2.2.2.2 = some (138, (.iload 5), 2, 0, 0) := by decide +kernel
theorem gx288_140 : aF 140 zM288.2.2.2.2.2.2.2 = some (140, (.iconst 1), 1, 0, 0) := by decide +kernel
theorem gx288_141 : aF 141 zM288.2.2.2.2.2.2.2 = some (141, (.aload_n 0), 1, 0, 0) := by decide +kernel
theorem gx288_142 : aF 142 zM288.2.2.2.2.2.2.2 = some (142, (.getfield 514), 3, 12, 79) := by decide +kernel
theorem gx288_145 : aF 145 zM288.2.2.2.2.2.2.2 = some (145, .ishl, 1, 0, 0) := by decide +kernel
theorem gx288_146 : aF 146 zM288.2.2.2.2.2.2.2 = some (146, (.if_icmp .ge 112), 3, 258, 0) := by decide +kernel
theorem gx288_258 : aF 258 zM288.2.2.2.2.2.2.2 = some (258, (.aload_n 0), 1, 0, 0) := by decide +kernel
theorem gx288_259 : aF 259 zM288.2.2.2.2.2.2.2 = some (259, (.iconst 0), 1, 0, 0) := by decide +kernel
theorem gx288_260 : aF 260 zM288.2.2.2.2.2.2.2 = some (260, (.putfield 204), 3, 12, 81) := by decide +kernel
theorem gx288_263 : aF 263 zM288.2.2.2.2.2.2.2 = some (263, (.iconst 0), 1, 0, 0) := by decide +kernel
theorem gx288_264 : aF 264 zM288.2.2.2.2.2.2.2 = some (264, (.istore 5), 2, 0, 0) := by decide +kernel
theorem gx288_149 : aF 149 zM288.2.2.2.2.2.2.2 = some (149, (.iconst 0), 1, 0, 0) := by decide +kernel
theorem gx288_150 : aF 150 zM288.2.2.2.2.2.2.2 = some (150, (.istore 6), 2, 0, 0) := by decide +kernel
theorem gx288_152 : aF 152 zM288.2.2.2.2.2.2.2 = some (152, (.iconst 0), 1, 0, 0) := by decide +kernel
theorem gx288_153 : aF 153 zM288.2.2.2.2.2.2.2 = some (153, (.istore 7), 2, 0, 0) := by decide +kernel
theorem gx288_155 : aF 155 zM288.2.2.2.2.2.2.2 = some (155, (.iload 7), 2, 0, 0) := by decide +kernel
theorem gx288_157 : aF 157 zM288.2.2.2.2.2.2.2 = some (157, (.aload_n 0), 1, 0, 0) := by decide +kernel
theorem gx288_158 : aF 158 zM288.2.2.2.2.2.2.2 = some (158, (.getfield 514), 3, 12, 79) := by decide +kernel
theorem gx288_161 : aF 161 zM288.2.2.2.2.2.2.2 = some (161, (.if_icmp .ge 41), 3, 202, 0) := by decide +kernel
theorem gx288_202 : aF 202 zM288.2.2.2.2.2.2.2 = some (202, (.iload_n 3), 1, 0, 0) := by decide +kernel
theorem gx288_203 : aF 203 zM288.2.2.2.2.2.2.2 = some (203, (.ifCond .lt 29), 3, 232, 0) := by decide +kernel
theorem gx288_206 : aF 206 zM288.2.2.2.2.2.2.2 = some (206, (.iload 6), 2, 0, 0) := by decide +kernel
theorem gx288_208 : aF 208 zM288.2.2.2.2.2.2.2 = some (208, (.iload 4), 2, 0, 0) := by decide +kernel
theorem gx288_210 : aF 210 zM288.2.2.2.2.2.2.2 = some (210, (.if_icmp .gt 42), 3, 252, 0) := by decide +kernel
theorem gx288_213 : aF 213 zM288.2.2.2.2.2.2.2 = some (213, (.iload 6), 2, 0, 0) := by decide +kernel
theorem gx288_215 : aF 215 zM288.2.2.2.2.2.2.2 = some (215, (.iload 4), 2, 0, 0) := by decide +kernel
theorem gx288_217 : aF 217 zM288.2.2.2.2.2.2.2 = some (217, (.if_icmp .ne 15), 3, 232, 0) := by decide +kernel
theorem gx288_220 : aF 220 zM288.2.2.2.2.2.2.2 = some (220, (.iload 5), 2, 0, 0) := by decide +kernel
theorem gx288_222 : aF 222 zM288.2.2.2.2.2.2.2 = some (222, (.invokestatic 523), 3, 287, 0) := by decide +kernel
theorem gx288_225 : aF 225 zM288.2.2.2.2.2.2.2 = some (225, (.iload_n 3), 1, 0, 0) := by decide +kernel
theorem gx288_226 : aF 226 zM288.2.2.2.2.2.2.2 = some (226, (.invokestatic 523), 3, 287, 0) := by decide +kernel
theorem gx288_229 : aF 229 zM288.2.2.2.2.2.2.2 = some (229, (.if_icmp .ge 23), 3, 252, 0) := by decide +kernel
theorem gx288_164 : aF 164 zM288.2.2.2.2.2.2.2 = some (164, (.iload 6), 2, 0, 0) := by decide +kernel
theorem gx288_166 : aF 166 zM288.2.2.2.2.2.2.2 = some (166, (.iload 5), 2, 0, 0) := by decide +kernel
theorem gx288_168 : aF 168 zM288.2.2.2.2.2.2.2 = some (168, (.iload 7), 2, 0, 0) := by decide +kernel
theorem gx288_170 : aF 170 zM288.2.2.2.2.2.2.2 = some (170, .ishr, 1, 0, 0) := by decide +kernel
theorem gx288_171 : aF 171 zM288.2.2.2.2.2.2.2 = some (171, (.iconst 1), 1, 0, 0) := by decide +kernel
theorem gx288_172 : aF 172 zM288.2.2.2.2.2.2.2 = some (172, .iand, 1, 0, 0) := by decide +kernel
theorem gx288_173 : aF 173 zM288.2.2.2.2.2.2.2 = some (173, (.iconst 1), 1, 0, 0) := by decide +kernel
theorem gx288_174 : aF 174 zM288.2.2.2.2.2.2.2 = some (174, (.if_icmp .ne 18), 3, 192, 0) := by decide +kernel
theorem gx288_192 : aF 192 zM288.2.2.2.2.2.2.2 = some (192, (.iconst 0), 1, 0, 0) := by decide +kernel
theorem gx288_177 : aF 177 zM288.2.2.2.2.2.2.2 = some (177, (.aload_n 0), 1, 0, 0) := by decide +kernel
theorem gx288_178 : aF 178 zM288.2.2.2.2.2.2.2 = some (178, (.getfield 25), 3, 12, 8) := by decide +kernel
theorem gx288_181 : aF 181 zM288.2.2.2.2.2.2.2 = some (181, (.aload_n 0), 1, 0, 0) := by decide +kernel
theorem gx288_182 : aF 182 zM288.2.2.2.2.2.2.2 = some (182, (.getfield 201), 3, 12, 80) := by decide +kernel
theorem gx288_185 : aF 185 zM288.2.2.2.2.2.2.2 = some (185, (.iload 7), 2, 0, 0) := by decide +kernel
theorem gx288_187 : aF 187 zM288.2.2.2.2.2.2.2 = some (187, .iaload, 1, 0, 0) := by decide +kernel
theorem gx288_188 : aF 188 zM288.2.2.2.2.2.2.2 = some (188, .iaload, 1, 0, 0) := by decide +kernel
theorem gx288_189 : aF 189 zM288.2.2.2.2.2.2.2 = some (189, (.goto 4), 3, 193, 0) := by decide +kernel
theorem gx288_193 : aF 193 zM288.2.2.2.2.2.2.2 = some (193, .iadd, 1, 0, 0) := by decide +kernel
theorem gx288_194 : aF 194 zM288.2.2.2.2.2.2.2 = some (194, (.istore 6), 2, 0, 0) := by decide +kernel
theorem gx288_196 : aF 196 zM288.2.2.2.2.2.2.2 = some (196, (.iinc 7 1), 3, 0, 0) := by decide +kernel
theorem gx288_199 : aF 199 zM288.2.2.2.2.2.2.2 = some (199, (.goto (-44)), 3, 155, 0) := by decide +kernel
theorem gx288_232 : aF 232 zM288.2.2.2.2.2.2.2 = some (232, (.aload_n 0), 1, 0, 0) := by decide +kernel
theorem gx288_233 : aF 233 zM288.2.2.2.2.2.2.2 = some (233, (.iload 5), 2, 0, 0) := by decide +kernel
theorem gx288_235 : aF 235 zM288.2.2.2.2.2.2.2 = some (235, (.iload_n 1), 1, 0, 0) := by decide +kernel
theorem gx288_236 : aF 236 zM288.2.2.2.2.2.2.2 = some (236, (.invokevirtual 526), 3, 286, 0) := by decide +kernel
theorem gx288_239 : aF 239 zM288.2.2.2.2.2.2.2 = some (239, (.ifCond .ne 6), 3, 245, 0) := by decide +kernel
theorem gx288_245 : aF 245 zM288.2.2.2.2.2.2.2 = some (245, (.iload 5), 2, 0, 0) := by decide +kernel
theorem gx288_247 : aF 247 zM288.2.2.2.2.2.2.2 = some (247, (.istore_n 3), 1, 0, 0) := by decide +kernel
theorem gx288_248 : aF 248 zM288.2.2.2.2.2.2.2 = some (248, (.iload 6), 2, 0, 0) := by decide +kernel
theorem gx288_250 : aF 250 zM288.2.2.2.2.2.2.2 = some (250, (.istore 4), 2, 0, 0) := by decide +kernel
theorem gx288_242 : aF 242 zM288.2.2.2.2.2.2.2 = some (242, (.goto 10), 3, 252, 0) := by decide +kernel
theorem gx288_252 : aF 252 zM288.2.2.2.2.2.2.2 = some (252, (.iinc 5 1), 3, 0, 0) := by decide +kernel
theorem gx288_255 : aF 255 zM288.2.2.2.2.2.2.2 = some (255, (.goto (-117)), 3, 138, 0) := by decide +kernel
theorem gx288_266 : aF 266 zM288.2.2.2.2.2.2.2 = some (266, (.iload 5), 2, 0, 0) := by decide +kernel
theorem gx288_268 : aF 268 zM288.2.2.2.2.2.2.2 = some (268, (.aload_n 0), 1, 0, 0) := by decide +kernel
theorem gx288_269 : aF 269 zM288.2.2.2.2.2.2.2 = some (269, (.getfield 514), 3, 12, 79) := by decide +kernel
theorem gx288_272 : aF 272 zM288.2.2.2.2.2.2.2 = some (272, (.if_icmp .ge 47), 3, 319, 0) := by decide +kernel
theorem gx288_319 : aF 319 zM288.2.2.2.2.2.2.2 = some (319, (.iload 4), 2, 0, 0) := by decide +kernel
theorem gx288_321 : aF 321 zM288.2.2.2.2.2.2.2 = some (321, .ireturn, 1, 0, 0) := by decide +kernel
theorem gx288_275 : aF 275 zM288.2.2.2.2.2.2.2 = some (275, (.iload_n 3), 1, 0, 0) := by decide +kernel
theorem gx288_276 : aF 276 zM288.2.2.2.2.2.2.2 = some (276, (.iload 5), 2, 0, 0) := by decide +kernel
theorem gx288_278 : aF 278 zM288.2.2.2.2.2.2.2 = some (278, .ishr, 1, 0, 0) := by decide +kernel
theorem gx288_279 : aF 279 zM288.2.2.2.2.2.2.2 = some (279, (.iconst 1), 1, 0, 0) := by decide +kernel
theorem gx288_280 : aF 280 zM288.2.2.2.2.2.2.2 = some (280, .iand, 1, 0, 0) := by decide +kernel
theorem gx288_281 : aF 281 zM288.2.2.2.2.2.2.2 = some (281, (.ifCond .ne 6), 3, 287, 0) := by decide +kernel
theorem gx288_287 : aF 287 zM288.2.2.2.2.2.2.2 = some (287, (.aload_n 0), 1, 0, 0) := by decide +kernel
theorem gx288_288 : aF 288 zM288.2.2.2.2.2.2.2 = some (288, (.getfield 207), 3, 12, 82) := by decide +kernel
theorem gx288_291 : aF 291 zM288.2.2.2.2.2.2.2 = some (291, (.aload_n 0), 1, 0, 0) := by decide +kernel
theorem gx288_292 : aF 292 zM288.2.2.2.2.2.2.2 = some (292, (.getfield 204), 3, 12, 81) := by decide +kernel
theorem gx288_295 : aF 295 zM288.2.2.2.2.2.2.2 = some (295, (.aload_n 0), 1, 0, 0) := by decide +kernel
theorem gx288_296 : aF 296 zM288.2.2.2.2.2.2.2 = some (296, (.getfield 201), 3, 12, 80) := by decide +kernel
theorem gx288_299 : aF 299 zM288.2.2.2.2.2.2.2 = some (299, (.iload 5), 2, 0, 0) := by decide +kernel
theorem gx288_301 : aF 301 zM288.2.2.2.2.2.2.2 = some (301, .iaload, 1, 0, 0) := by decide +kernel
theorem gx288_302 : aF 302 zM288.2.2.2.2.2.2.2 = some (302, .iastore, 1, 0, 0) := by decide +kernel
theorem gx288_303 : aF 303 zM288.2.2.2.2.2.2.2 = some (303, (.aload_n 0), 1, 0, 0) := by decide +kernel
theorem gx288_304 : aF 304 zM288.2.2.2.2.2.2.2 = some (304, .dup, 1, 0, 0) := by decide +kernel
theorem gx288_305 : aF 305 zM288.2.2.2.2.2.2.2 = some (305, (.getfield 204), 3, 12, 81) := by decide +kernel
theorem gx288_308 : aF 308 zM288.2.2.2.2.2.2.2 = some (308, (.iconst 1), 1, 0, 0) := by decide +kernel
theorem gx288_309 : aF 309 zM288.2.2.2.2.2.2.2 = some (309, .iadd, 1, 0, 0) := by decide +kernel
theorem gx288_310 : aF 310 zM288.2.2.2.2.2.2.2 = some (310, (.putfield 204), 3, 12, 81) := by decide +kernel
theorem gx288_284 : aF 284 zM288.2.2.2.2.2.2.2 = some (284, (.goto 29), 3, 313, 0) := by decide +kernel
theorem gx288_313 : aF 313 zM288.2.2.2.2.2.2.2 = some (313, (.iinc 5 1), 3, 0, 0) := by decide +kernel
theorem gx288_316 : aF 316 zM288.2.2.2.2.2.2.2 = some (316, (.goto (-50)), 3, 266, 0) := by decide +kernel
theorem gx291_0 : aF 0 zM291.2.2.2.2.2.2.2 = some (0, (.iconst 0), 1, 0, 0) := by decide +kernel
theorem gx291_1 : aF 1 zM291.2.2.2.2.2.2.2 = some (1, (.istore_n 3), 1, 0, 0) := by decide +kernel
theorem gx291_2 : aF 2 zM291.2.2.2.2.2.2.2 = some (2, (.iload_n 3), 1, 0, 0) := by decide +kernel
theorem gx291_3 : aF 3 zM291.2.2.2.2.2.2.2 = some (3, (.aload_n 0), 1, 0, 0) := by decide +kernel
theorem gx291_4 : aF 4 zM291.2.2.2.2.2.2.2 = some (4, (.getfield 336), 3, 12, 19) := by decide +kernel
theorem gx291_7 : aF 7 zM291.2.2.2.2.2.2.2 = some (7, (.if_icmp .ge 39), 3, 46, 0) := by decide +kernel
theorem gx291_46 : aF 46 zM291.2.2.2.2.2.2.2 = some (46, (.iconst 0), 1, 0, 0) := by decide +kernel
theorem gx291_47 : aF 47 zM291.2.2.2.2.2.2.2 = some (47, .ireturn, 1, 0, 0) := by decide +kernel
theorem gx291_10 : aF 10 zM291.2.2.2.2.2.2.2 = some (10, (.aload_n 0), 1, 0, 0) := by decide +kernel
theorem gx291_11 : aF 11 zM291.2.2.2.2.2.2.2 = some (11, (.getfield 108), 3, 12, 40) := by decide +kernel
theorem gx291_14 : aF 14 zM291.2.2.2.2.2.2.2 = some (14, (.iload_n 3), 1, 0, 0) := by decide +kernel
theorem gx291_15 : aF 15 zM291.2.2.2.2.2.2.2 = some (15, .baload, 1, 0, 0) := by decide +kernel
theorem gx291_16 : aF 16 zM291.2.2.2.2.2.2.2 = some (16, (.ifCond .eq 24), 3, 40, 0) := by decide +kernel
theorem gx291_40 : aF 40 zM291.2.2.2.2.2.2.2 = some (40, (.iinc 3 1), 3, 0, 0) := by decide +kernel
theorem gx291_43 : aF 43 zM291.2.2.2.2.2.2.2 = some (43, (.goto (-41)), 3, 2, 0) := by decide +kernel
theorem gx291_19 : aF 19 zM291.2.2.2.2.2.2.2 = some (19, (.aload_n 0), 1, 0, 0) := by decide +kernel
theorem gx291_20 : aF 20 zM291.2.2.2.2.2.2.2 = some (20, (.getfield 52), 3, 12, 20) := by decide +kernel
theorem gx291_23 : aF 23 zM291.2.2.2.2.2.2.2 = some (23, (.iload_n 3), 1, 0, 0) := by decide +kernel
theorem gx291_24 : aF 24 zM291.2.2.2.2.2.2.2 = some (24, .iaload, 1, 0, 0) := by decide +kernel
theorem gx291_25 : aF 25 zM291.2.2.2.2.2.2.2 = some (25, (.iload_n 1), 1, 0, 0) := by decide +kernel
theorem gx291_26 : aF 26 zM291.2.2.2.2.2.2.2 = some (26, (.if_icmp .ne 14), 3, 40, 0) := by decide +kernel
theorem gx291_29 : aF 29 zM291.2.2.2.2.2.2.2 = some (29, (.aload_n 0), 1, 0, 0) := by decide +kernel
theorem gx291_30 : aF 30 zM291.2.2.2.2.2.2.2 = some (30, (.iload_n 3), 1, 0, 0) := by decide +kernel
theorem gx291_31 : aF 31 zM291.2.2.2.2.2.2.2 = some (31, (.invokevirtual 342), 3, 229, 0) := by decide +kernel
theorem gx291_34 : aF 34 zM291.2.2.2.2.2.2.2 = some (34, (.iload_n 2), 1, 0, 0) := by decide +kernel
theorem gx291_35 : aF 35 zM291.2.2.2.2.2.2.2 = some (35, (.if_icmp .ne 5), 3, 40, 0) := by decide +kernel
theorem gx291_38 : aF 38 zM291.2.2.2.2.2.2.2 = some (38, (.iconst 1), 1, 0, 0) := by decide +kernel
theorem gx291_39 : aF 39 zM291.2.2.2.2.2.2.2 = some (39, .ireturn, 1, 0, 0) := by decide +kernel
theorem gx293_0 : aF 0 zM293.2.2.2.2.2.2.2 = some (0, (.iload_n 2), 1, 0, 0) := by decide +kernel
theorem gx293_1 : aF 1 zM293.2.2.2.2.2.2.2 = some (1, (.ifCond .ne 7), 3, 8, 0) := by decide +kernel
theorem gx293_8 : aF 8 zM293.2.2.2.2.2.2.2 = some (8, (.aload_n 0), 1, 0, 0) := by decide +kernel
theorem gx293_9 : aF 9 zM293.2.2.2.2.2.2.2 = some (9, (.iload_n 1), 1, 0, 0) := by decide +kernel
theorem gx293_10 : aF 10 zM293.2.2.2.2.2.2.2 = some (10, (.iload_n 2), 1, 0, 0) := by decide +kernel
theorem gx293_11 : aF 11 zM293.2.2.2.2.2.2.2 = some (11, (.iconst 1), 1, 0, 0) := by decide +kernel
theorem gx293_12 : aF 12 zM293.2.2.2.2.2.2.2 = some (12, .isub, 1, 0, 0) := by decide +kernel
theorem gx293_13 : aF 13 zM293.2.2.2.2.2.2.2 = some (13, (.invokevirtual 467), 3, 271, 0) := by decide +kernel
theorem gx293_16 : aF 16 zM293.2.2.2.2.2.2.2 = some (16, .ireturn, 1, 0, 0) := by decide +kernel
theorem gx293_4 : aF 4 zM293.2.2.2.2.2.2.2 = some (4, (.iconst 0), 1, 0, 0) := by decide +kernel
theorem gx293_5 : aF 5 zM293.2.2.2.2.2.2.2 = some (5, (.goto 11), 3, 16, 0) := by decide +kernel
theorem gx292_0 : aF 0 zM292.2.2.2.2.2.2.2 = some (0, (.iload_n 1), 1, 0, 0) := by decide +kernel
theorem gx292_1 : aF 1 zM292.2.2.2.2.2.2.2 = some (1, (.invokestatic 280), 3, 206, 0) := by decide +kernel
theorem gx292_4 : aF 4 zM292.2.2.2.2.2.2.2 = some (4, (.ifCond .eq 20), 3, 24, 0) := by decide +kernel
theorem gx292_7 : aF 7 zM292.2.2.2.2.2.2.2 = some (7, (.iload_n 2), 1, 0, 0) := by decide +kernel
theorem gx292_8 : aF 8 zM292.2.2.2.2.2.2.2 = some (8, (.invokestatic 372), 3, 198, 0) := by decide +kernel
theorem gx292_11 : aF 11 zM292.2.2.2.2.2.2.2 = some (11, (.ifCond .eq 13), 3, 24, 0) := by decide +kernel
theorem gx292_14 : aF 14 zM292.2.2.2.2.2.2.2 = some (14, (.iload_n 3), 1, 0, 0) := by decide +kernel
theorem gx292_15 : aF 15 zM292.2.2.2.2.2.2.2 = some (15, (.iconst 1), 1, 0, 0) := by decide +kernel
theorem gx292_16 : aF 16 zM292.2.2.2.2.2.2.2 = some (16, (.bipush 9), 2, 0, 0) := by decide +kernel
theorem gx292_18 : aF 18 zM292.2.2.2.2.2.2.2 = some (18, (.invokestatic 258), 3, 196, 0) := by decide +kernel
theorem gx292_21 : aF 21 zM292.2.2.2.2.2.2.2 = some (21, (.ifCond .ne 5), 3, 26, 0) := by decide +kernel
theorem gx292_26 : aF 26 zM292.2.2.2.2.2.2.2 = some (26, (.aload_n 0), 1, 0, 0) := by decide +kernel
theorem gx292_27 : aF 27 zM292.2.2.2.2.2.2.2 = some (27, (.aload_n 0), 1, 0, 0) := by decide +kernel
theorem gx292_28 : aF 28 zM292.2.2.2.2.2.2.2 = some (28, (.getfield 262), 3, 12, 1) := by decide +kernel
theorem gx292_31 : aF 31 zM292.2.2.2.2.2.2.2 = some (31, (.invokevirtual 368), 3, 239, 0) := by decide +kernel
theorem gx292_34 : aF 34 zM292.2.2.2.2.2.2.2 = some (34, (.iconst 0), 1, 0, 0) := by decide +kernel
theorem gx292_35 : aF 35 zM292.2.2.2.2.2.2.2 = some (35, (.istore 4), 2, 0, 0) := by decide +kernel
theorem gx292_37 : aF 37 zM292.2.2.2.2.2.2.2 = some (37, (.iconst 0), 1, 0, 0) := by decide +kernel
theorem gx292_38 : aF 38 zM292.2.2.2.2.2.2.2 = some (38, (.istore 5), 2, 0, 0) := by decide +kernel
theorem gx292_24 : aF 24 zM292.2.2.2.2.2.2.2 = some (24, (.iconst (-1)), 1, 0, 0) := by decide +kernel
theorem gx292_25 : aF 25 zM292.2.2.2.2.2.2.2 = some (25, .ireturn, 1, 0, 0) := by decide +kernel
theorem gx292_40 : aF 40 zM292.2.2.2.2.2.2.2 = some (40, (.iload 5), 2, 0, 0) := by decide +kernel
theorem gx292_42 : aF 42 zM292.2.2.2.2.2.2.2 = some (42, (.aload_n 0), 1, 0, 0) := by decide +kernel
theorem gx292_43 : aF 43 zM292.2.2.2.2.2.2.2 = some (43, (.getfield 265), 3, 12, 2) := by decide +kernel
theorem gx292_46 : aF 46 zM292.2.2.2.2.2.2.2 = some (46, (.if_icmp .ge 71), 3, 117, 0) := by decide +kernel
theorem gx292_117 : aF 117 zM292.2.2.2.2.2.2.2 = some (117, (.iload_n 3), 1, 0, 0) := by decide +kernel
theorem gx292_118 : aF 118 zM292.2.2.2.2.2.2.2 = some (118, (.iload 4), 2, 0, 0) := by decide +kernel
theorem gx292_120 : aF 120 zM292.2.2.2.2.2.2.2 = some (120, (.invokestatic 289), 3, 211, 0) := by decide +kernel
theorem gx292_123 : aF 123 zM292.2.2.2.2.2.2.2 = some (123, (.istore 5), 2, 0, 0) := by decide +kernel
theorem gx292_125 : aF 125 zM292.2.2.2.2.2.2.2 = some (125, (.iconst 0), 1, 0, 0) := by decide +kernel
theorem gx292_126 : aF 126 zM292.2.2.2.2.2.2.2 = some (126, (.istore 6), 2, 0, 0) := by decide +kernel
theorem gx292_49 : aF 49 zM292.2.2.2.2.2.2.2 = some (49, (.aload_n 0), 1, 0, 0) := by decide +kernel
theorem gx292_50 : aF 50 zM292.2.2.2.2.2.2.2 = some (50, (.getfield 219), 3, 12, 86) := by decide +kernel
theorem gx292_53 : aF 53 zM292.2.2.2.2.2.2.2 = some (53, (.iload 5), 2, 0, 0) := by decide +kernel
theorem gx292_55 : aF 55 zM292.2.2.2.2.2.2.2 = some (55, (.aload_n 0), 1, 0, 0) := by decide +kernel
theorem gx292_56 : aF 56 zM292.2.2.2.2.2.2.2 = some (56, (.iload 5), 2, 0, 0) := by decide +kernel
theorem gx292_58 : aF 58 zM292.2.2.2.2.2.2.2 = some (58, (.invokevirtual 316), 3, 202, 0) := by decide +kernel
theorem gx292_61 : aF 61 zM292.2.2.2.2.2.2.2 = some (61, (.ifCond .eq 28), 3, 89, 0) := by decide +kernel
theorem gx292_64 : aF 64 zM292.2.2.2.2.2.2.2 = some (64, (.aload_n 0), 1, 0, 0) := by decide +kernel
theorem gx292_65 : aF 65 zM292.2.2.2.2.2.2.2 = some (65, (.getfield 13), 3, 12, 4) := by decide +kernel
theorem gx292_68 : aF 68 zM292.2.2.2.2.2.2.2 = some (68, (.iload 5), 2, 0, 0) := by decide +kernel
theorem gx292_70 : aF 70 zM292.2.2.2.2.2.2.2 = some (70, .iaload, 1, 0, 0) := by decide +kernel
theorem gx292_71 : aF 71 zM292.2.2.2.2.2.2.2 = some (71, (.iload_n 1), 1, 0, 0) := by decide +kernel
theorem gx292_72 : aF 72 zM292.2.2.2.2.2.2.2 = some (72, (.if_icmp .ne 17), 3, 89, 0) := by decide +kernel
theorem gx292_75 : aF 75 zM292.2.2.2.2.2.2.2 = some (75, (.aload_n 0), 1, 0, 0) := by decide +kernel
theorem gx292_76 : aF 76 zM292.2.2.2.2.2.2.2 = some (76, (.iload 5), 2, 0, 0) := by decide +kernel
theorem gx292_78 : aF 78 zM292.2.2.2.2.2.2.2 = some (78, (.iload_n 2), 1, 0, 0) := by decide +kernel
theorem gx292_79 : aF 79 zM292.2.2.2.2.2.2.2 = some (79, (.invokevirtual 529), 3, 291, 0) := by decide +kernel
theorem gx292_82 : aF 82 zM292.2.2.2.2.2.2.2 = some (82, (.ifCond .eq 7), 3, 89, 0) := by decide +kernel
theorem gx292_85 : aF 85 zM292.2.2.2.2.2.2.2 = some (85, (.iconst 1), 1, 0, 0) := by decide +kernel
theorem gx292_86 : aF 86 zM292.2.2.2.2.2.2.2 = some (86, (.goto 4), 3, 90, 0) := by decide +kernel
theorem gx292_89 : aF 89 zM292.2.2.2.2.2.2.2 = some (89, (.iconst 0), 1, 0, 0) := by decide +kernel
theorem gx292_90 : aF 90 zM292.2.2.2.2.2.2.2 = some (90, .bastore, 1, 0, 0) := by decide +kernel
theorem gx292_91 : aF 91 zM292.2.2.2.2.2.2.2 = some (91, (.iload 4), 2, 0, 0) := by decide +kernel
theorem gx292_93 : aF 93 zM292.2.2.2.2.2.2.2 = some (93, (.aload_n 0), 1, 0, 0) := by decide +kernel
theorem gx292_94 : aF 94 zM292.2.2.2.2.2.2.2 = some (94, (.getfield 219), 3, 12, 86) := by decide +kernel
theorem gx292_97 : aF 97 zM292.2.2.2.2.2.2.2 = some (97, (.iload 5), 2, 0, 0) := by decide +kernel
theorem gx292_99 : aF 99 zM292.2.2.2.2.2.2.2 = some (99, .baload, 1, 0, 0) := by decide +kernel
theorem gx292_100 : aF 100 zM292.2.2.2.2.2.2.2 = some (100, (.ifCond .eq 7), 3, 107, 0) := by decide +kernel
theorem gx292_107 : aF 107 zM292.2.2.2.2.2.2.2 = some (107, (.iconst 0), 1, 0, 0) := by decide +kernel
theorem gx292_103 : aF 103 zM292.2.2.2.2.2.2.2 = some (103, (.iconst 1), 1, 0, 0) := by decide +kernel
theorem gx292_104 : aF 104 zM292.2.2.2.2.2.2.2 = some (104, (.goto 4), 3, 108, 0) := by decide +kernel
theorem gx292_108 : aF 108 zM292.2.2.2.2.2.2.2 = some (108, .iadd, 1, 0, 0) := by decide +kernel
theorem gx292_109 : aF 109 zM292.2.2.2.2.2.2.2 = some (109, (.istore 4), 2, 0, 0) := by decide +kernel
theorem gx292_111 : aF 111 zM292.2.2.2.2.2.2.2 = some (111, (.iinc 5 1), 3, 0, 0) := by decide +kernel
theorem gx292_114 : aF 114 zM292.2.2.2.2.2.2.2 = some (114, (.goto (-74)), 3, 40, 0) := by decide +kernel
theorem gx292_128 : aF 128 zM292.2.2.2.2.2.2.2 = some (128, (.iload 6), 2, 0, 0) := by decide +kernel
theorem gx292_130 : aF 130 zM292.2.2.2.2.2.2.2 = some (130, (.iload 5), 2, 0, 0) := by decide +kernel
theorem gx292_132 : aF 132 zM292.2.2.2.2.2.2.2 = some (132, (.if_icmp .ge 176), 3, 308, 0) := by decide +kernel
theorem gx292_308 : aF 308 zM292.2.2.2.2.2.2.2 = some (308, (.aload_n 0), 1, 0, 0) := by decide +kernel
theorem gx292_309 : aF 309 zM292.2.2.2.2.2.2.2 = some (309, (.iload 5), 2, 0, 0) := by decide +kernel
theorem gx292_311 : aF 311 zM292.2.2.2.2.2.2.2 = some (311, (.putfield 213), 3, 12, 84) := by decide +kernel
theorem gx292_314 : aF 314 zM292.2.2.2.2.2.2.2 = some (314, (.iload 5), 2, 0, 0) := by decide +kernel
theorem gx292_316 : aF 316 zM292.2.2.2.2.2.2.2 = some (316, .ireturn, 1, 0, 0) := by decide +kernel
theorem gx292_135 : aF 135 zM292.2.2.2.2.2.2.2 = some (135, (.iconst (-1)), 1, 0, 0) := by decide +kernel
theorem gx292_136 : aF 136 zM292.2.2.2.2.2.2.2 = some (136, (.istore 7), 2, 0, 0) := by decide +kernel
theorem gx292_138 : aF 138 zM292.2.2.2.2.2.2.2 = some (138, (.iload 6), 2, 0, 0) := by decide +kernel
theorem gx292_140 : aF 140 zM292.2.2.2.2.2.2.2 = some (140, (.iload 5), 2, 0, 0) := by decide +kernel
theorem gx292_142 : aF 142 zM292.2.2.2.2.2.2.2 = some (142, (.iconst 1), 1, 0, 0) := by decide +kernel
theorem gx292_143 : aF 143 zM292.2.2.2.2.2.2.2 = some (143, .iadd, 1, 0, 0) := by decide +kernel
theorem gx292_144 : aF 144 zM292.2.2.2.2.2.2.2 = some (144, (.iconst 2), 1, 0, 0) := by decide +kernel
theorem gx292_145 : aF 145 zM292.2.2.2.2.2.2.2 = some (145, .idiv, 1, 0, 0) := by decide +kernel
theorem gx292_146 : aF 146 zM292.2.2.2.2.2.2.2 = some (146, (.if_icmp .ge 60), 3, 206, 0) := by decide +kernel
theorem gx292_206 : aF 206 zM292.2.2.2.2.2.2.2 = some (206, (.aload_n 0), 1, 0, 0) := by decide +kernel
theorem gx292_207 : aF 207 zM292.2.2.2.2.2.2.2 = some (207, (.aload_n 0), 1, 0, 0) := by decide +kernel
theorem gx292_208 : aF 208 zM292.2.2.2.2.2.2.2 = some (208, (.getfield 210), 3, 12, 83) := by decide +kernel
theorem gx292_211 : aF 211 zM292.2.2.2.2.2.2.2 = some (211, (.ldc_w 535), 3, 1103515245, 0) := by decide +kernel
theorem gx292_214 : aF 214 zM292.2.2.2.2.2.2.2 = some (214, .imul, 1, 0, 0) := by decide +kernel
theorem gx292_215 : aF 215 zM292.2.2.2.2.2.2.2 = some (215, (.sipush 12345), 3, 0, 0) := by decide +kernel
theorem gx292_218 : aF 218 zM292.2.2.2.2.2.2.2 = some (218, .iadd, 1, 0, 0) := by decide +kernel
theorem gx292_219 : aF 219 zM292.2.2.2.2.2.2.2 = some (219, (.putfield 210), 3, 12, 83) := by decide +kernel
theorem gx292_222 : aF 222 zM292.2.2.2.2.2.2.2 = some (222, (.aload_n 0), 1, 0, 0) := by decide +kernel
theorem gx292_223 : aF 223 zM292.2.2.2.2.2.2.2 = some (223, (.getfield 210), 3, 12, 83) := by decide +kernel
theorem gx292_226 : aF 226 zM292.2.2.2.2.2.2.2 = some (226, (.bipush 8), 2, 0, 0) := by decide +kernel
theorem gx292_228 : aF 228 zM292.2.2.2.2.2.2.2 = some (228, .iushr, 1, 0, 0) := by decide +kernel
theorem gx292_229 : aF 229 zM292.2.2.2.2.2.2.2 = some (229, (.iload 4), 2, 0, 0) := by decide +kernel
theorem gx292_231 : aF 231 zM292.2.2.2.2.2.2.2 = some (231, (.iload 6), 2, 0, 0) := by decide +kernel
theorem gx292_233 : aF 233 zM292.2.2.2.2.2.2.2 = some (233, .isub, 1, 0, 0) := by decide +kernel
theorem gx292_234 : aF 234 zM292.2.2.2.2.2.2.2 = some (234, .irem, 1, 0, 0) := by decide +kernel
theorem gx292_235 : aF 235 zM292.2.2.2.2.2.2.2 = some (235, (.istore 8), 2, 0, 0) := by decide +kernel
theorem gx292_237 : aF 237 zM292.2.2.2.2.2.2.2 = some (237, (.iconst 0), 1, 0, 0) := by decide +kernel
theorem gx292_238 : aF 238 zM292.2.2.2.2.2.2.2 = some (238, (.istore 9), 2, 0, 0) := by decide +kernel
theorem gx292_149 : aF 149 zM292.2.2.2.2.2.2.2 = some (149, (.iconst 0), 1, 0, 0) := by decide +kernel
theorem gx292_150 : aF 150 zM292.2.2.2.2.2.2.2 = some (150, (.istore 8), 2, 0, 0) := by decide +kernel
theorem gx292_152 : aF 152 zM292.2.2.2.2.2.2.2 = some (152, (.iload 8), 2, 0, 0) := by decide +kernel
theorem gx292_154 : aF 154 zM292.2.2.2.2.2.2.2 = some (154, (.aload_n 0), 1, 0, 0) := by decide +kernel
theorem gx292_155 : aF 155 zM292.2.2.2.2.2.2.2 = some (155, (.getfield 265), 3, 12, 2) := by decide +kernel
theorem gx292_158 : aF 158 zM292.2.2.2.2.2.2.2 = some (158, (.if_icmp .ge 45), 3, 203, 0) := by decide +kernel
theorem gx292_203 : aF 203 zM292.2.2.2.2.2.2.2 = some (203, (.goto 82), 3, 285, 0) := by decide +kernel
theorem gx292_161 : aF 161 zM292.2.2.2.2.2.2.2 = some (161, (.aload_n 0), 1, 0, 0) := by decide +kernel
theorem gx292_162 : aF 162 zM292.2.2.2.2.2.2.2 = some (162, (.getfield 219), 3, 12, 86) := by decide +kernel
theorem gx292_165 : aF 165 zM292.2.2.2.2.2.2.2 = some (165, (.iload 8), 2, 0, 0) := by decide +kernel
theorem gx292_167 : aF 167 zM292.2.2.2.2.2.2.2 = some (167, .baload, 1, 0, 0) := by decide +kernel
theorem gx292_168 : aF 168 zM292.2.2.2.2.2.2.2 = some (168, (.ifCond .eq 29), 3, 197, 0) := by decide +kernel
theorem gx292_171 : aF 171 zM292.2.2.2.2.2.2.2 = some (171, (.iload 7), 2, 0, 0) := by decide +kernel
theorem gx292_173 : aF 173 zM292.2.2.2.2.2.2.2 = some (173, (.ifCond .lt 20), 3, 193, 0) := by decide +kernel
theorem gx292_176 : aF 176 zM292.2.2.2.2.2.2.2 = some (176, (.aload_n 0), 1, 0, 0) := by decide +kernel
theorem gx292_177 : aF 177 zM292.2.2.2.2.2.2.2 = some (177, (.iload 8), 2, 0, 0) := by decide +kernel
theorem gx292_179 : aF 179 zM292.2.2.2.2.2.2.2 = some (179, (.iload_n 2), 1, 0, 0) := by decide +kernel
theorem gx292_180 : aF 180 zM292.2.2.2.2.2.2.2 = some (180, (.invokevirtual 532), 3, 293, 0) := by decide +kernel
theorem gx292_183 : aF 183 zM292.2.2.2.2.2.2.2 = some (183, (.aload_n 0), 1, 0, 0) := by decide +kernel
theorem gx292_184 : aF 184 zM292.2.2.2.2.2.2.2 = some (184, (.iload 7), 2, 0, 0) := by decide +kernel
theorem gx292_186 : aF 186 zM292.2.2.2.2.2.2.2 = some (186, (.iload_n 2), 1, 0, 0) := by decide +kernel
theorem gx292_187 : aF 187 zM292.2.2.2.2.2.2.2 = some (187, (.invokevirtual 532), 3, 293, 0) := by decide +kernel
theorem gx292_190 : aF 190 zM292.2.2.2.2.2.2.2 = some (190, (.if_icmp .le 7), 3, 197, 0) := by decide +kernel
theorem gx292_193 : aF 193 zM292.2.2.2.2.2.2.2 = some (193, (.iload 8), 2, 0, 0) := by decide +kernel
theorem gx292_195 : aF 195 zM292.2.2.2.2.2.2.2 = some (195, (.istore 7), 2, 0, 0) := by decide +kernel
theorem gx292_197 : aF 197 zM292.2.2.2.2.2.2.2 = some (197, (.iinc 8 1), 3, 0, 0) := by decide +kernel
theorem gx292_200 : aF 200 zM292.2.2.2.2.2.2.2 = some (200, (.goto (-48)), 3, 152, 0) := by decide +kernel
theorem gx292_240 : aF 240 zM292.2.2.2.2.2.2.2 = some (240, (.iload 9), 2, 0, 0) := by decide +kernel
theorem gx292_242 : aF 242 zM292.2.2.2.2.2.2.2 = some (242, (.aload_n 0), 1, 0, 0) := by decide +kernel
theorem gx292_243 : aF 243 zM292.2.2.2.2.2.2.2 = some (243, (.getfield 265), 3, 12, 2) := by decide +kernel
theorem gx292_246 : aF 246 zM292.2.2.2.2.2.2.2 = some (246, (.if_icmp .ge 39), 3, 285, 0) := by decide +kernel
theorem gx292_249 : aF 249 zM292.2.2.2.2.2.2.2 = some (249, (.iload 7), 2, 0, 0) := by decide +kernel
theorem gx292_251 : aF 251 zM292.2.2.2.2.2.2.2 = some (251, (.ifCond .ge 34), 3, 285, 0) := by decide +kernel
theorem gx292_254 : aF 254 zM292.2.2.2.2.2.2.2 = some (254, (.aload_n 0), 1, 0, 0) := by decide +kernel
theorem gx292_255 : aF 255 zM292.2.2.2.2.2.2.2 = some (255, (.getfield 219), 3, 12, 86) := by decide +kernel
theorem gx292_258 : aF 258 zM292.2.2.2.2.2.2.2 = some (258, (.iload 9), 2, 0, 0) := by decide +kernel
theorem gx292_260 : aF 260 zM292.2.2.2.2.2.2.2 = some (260, .baload, 1, 0, 0) := by decide +kernel
theorem gx292_261 : aF 261 zM292.2.2.2.2.2.2.2 = some (261, (.ifCond .ne 6), 3, 267, 0) := by decide +kernel
theorem gx292_267 : aF 267 zM292.2.2.2.2.2.2.2 = some (267, (.iload 8), 2, 0, 0) := by decide +kernel
theorem gx292_269 : aF 269 zM292.2.2.2.2.2.2.2 = some (269, (.ifCond .ne 7), 3, 276, 0) := by decide +kernel
theorem gx292_272 : aF 272 zM292.2.2.2.2.2.2.2 = some (272, (.iload 9), 2, 0, 0) := by decide +kernel
theorem gx292_274 : aF 274 zM292.2.2.2.2.2.2.2 = some (274, (.istore 7), 2, 0, 0) := by decide +kernel
theorem gx292_264 : aF 264 zM292.2.2.2.2.2.2.2 = some (264, (.goto 15), 3, 279, 0) := by decide +kernel
theorem gx292_276 : aF 276 zM292.2.2.2.2.2.2.2 = some (276, (.iinc 8 (-1)), 3, 0, 0) := by decide +kernel
theorem gx292_279 : aF 279 zM292.2.2.2.2.2.2.2 = some (279, (.iinc 9 1), 3, 0, 0) := by decide +kernel
theorem gx292_282 : aF 282 zM292.2.2.2.2.2.2.2 = some (282, (.goto (-42)), 3, 240, 0) := by decide +kernel
theorem gx292_285 : aF 285 zM292.2.2.2.2.2.2.2 = some (285, (.aload_n 0), 1, 0, 0) := by decide +kernel
theorem gx292_286 : aF 286 zM292.2.2.2.2.2.2.2 = some (286, (.getfield 219), 3, 12, 86) := by decide +kernel
theorem gx292_289 : aF 289 zM292.2.2.2.2.2.2.2 = some (289, (.iload 7), 2, 0, 0) := by decide +kernel
theorem gx292_291 : aF 291 zM292.2.2.2.2.2.2.2 = some (291, (.iconst 0), 1, 0, 0) := by decide +kernel
theorem gx292_292 : aF 292 zM292.2.2.2.2.2.2.2 = some (292, .bastore, 1, 0, 0) := by decide +kernel
theorem gx292_293 : aF 293 zM292.2.2.2.2.2.2.2 = some (293, (.aload_n 0), 1, 0, 0) := by decide +kernel
theorem gx292_294 : aF 294 zM292.2.2.2.2.2.2.2 = some (294, (.getfield 216), 3, 12, 85) := by decide +kernel
theorem gx292_297 : aF 297 zM292.2.2.2.2.2.2.2 = some (297, (.iload 6), 2, 0, 0) := by decide +kernel
theorem gx292_299 : aF 299 zM292.2.2.2.2.2.2.2 = some (299, (.iload 7), 2, 0, 0) := by decide +kernel
theorem gx292_301 : aF 301 zM292.2.2.2.2.2.2.2 = some (301, .iastore, 1, 0, 0) := by decide +kernel
theorem gx292_302 : aF 302 zM292.2.2.2.2.2.2.2 = some (302, (.iinc 6 1), 3, 0, 0) := by decide +kernel
theorem gx292_305 : aF 305 zM292.2.2.2.2.2.2.2 = some (305, (.goto (-177)), 3, 128, 0) := by decide +kernel
theorem gx295_0 : aF 0 zM295.2.2.2.2.2.2.2 = some (0, (.iconst 0), 1, 0, 0) := by decide +kernel
theorem gx295_1 : aF 1 zM295.2.2.2.2.2.2.2 = some (1, (.istore_n 3), 1, 0, 0) := by decide +kernel
theorem gx295_2 : aF 2 zM295.2.2.2.2.2.2.2 = some (2, (.iload_n 3), 1, 0, 0) := by decide +kernel
theorem gx295_3 : aF 3 zM295.2.2.2.2.2.2.2 = some (3, (.aload_n 0), 1, 0, 0) := by decide +kernel
theorem gx295_4 : aF 4 zM295.2.2.2.2.2.2.2 = some (4, (.getfield 352), 3, 12, 32) := by decide +kernel
theorem gx295_7 : aF 7 zM295.2.2.2.2.2.2.2 = some (7, (.if_icmp .ge 31), 3, 38, 0) := by decide +kernel
theorem gx295_38 : aF 38 zM295.2.2.2.2.2.2.2 = some (38, (.iconst 0), 1, 0, 0) := by decide +kernel
theorem gx295_39 : aF 39 zM295.2.2.2.2.2.2.2 = some (39, .ireturn, 1, 0, 0) := by decide +kernel
theorem gx295_10 : aF 10 zM295.2.2.2.2.2.2.2 = some (10, (.aload_n 0), 1, 0, 0) := by decide +kernel
theorem gx295_11 : aF 11 zM295.2.2.2.2.2.2.2 = some (11, (.getfield 85), 3, 12, 33) := by decide +kernel
theorem gx295_14 : aF 14 zM295.2.2.2.2.2.2.2 = some (14, (.iload_n 3), 1, 0, 0) := by decide +kernel
theorem gx295_15 : aF 15 zM295.2.2.2.2.2.2.2 = some (15, .iaload, 1, 0, 0) := by decide +kernel
theorem gx295_16 : aF 16 zM295.2.2.2.2.2.2.2 = some (16, (.iload_n 1), 1, 0, 0) := by decide +kernel
theorem gx295_17 : aF 17 zM295.2.2.2.2.2.2.2 = some (17, (.if_icmp .ne 15), 3, 32, 0) := by decide +kernel
theorem gx295_32 : aF 32 zM295.2.2.2.2.2.2.2 = some (32, (.iinc 3 1), 3, 0, 0) := by decide +kernel
theorem gx295_35 : aF 35 zM295.2.2.2.2.2.2.2 = some (35, (.goto (-33)), 3, 2, 0) := by decide +kernel
theorem gx295_20 : aF 20 zM295.2.2.2.2.2.2.2 = some (20, (.aload_n 0), 1, 0, 0) := by decide +kernel
theorem gx295_21 : aF 21 zM295.2.2.2.2.2.2.2 = some (21, (.getfield 91), 3, 12, 35) := by decide +kernel
theorem gx295_24 : aF 24 zM295.2.2.2.2.2.2.2 = some (24, (.iload_n 3), 1, 0, 0) := by decide +kernel
theorem gx295_25 : aF 25 zM295.2.2.2.2.2.2.2 = some (25, .iaload, 1, 0, 0) := by decide +kernel
theorem gx295_26 : aF 26 zM295.2.2.2.2.2.2.2 = some (26, (.iload_n 2), 1, 0, 0) := by decide +kernel
theorem gx295_27 : aF 27 zM295.2.2.2.2.2.2.2 = some (27, (.if_icmp .ne 5), 3, 32, 0) := by decide +kernel
theorem gx295_30 : aF 30 zM295.2.2.2.2.2.2.2 = some (30, (.iconst 1), 1, 0, 0) := by decide +kernel
theorem gx295_31 : aF 31 zM295.2.2.2.2.2.2.2 = some (31, .ireturn, 1, 0, 0) := by decide +kernel
theorem gx296_0 : aF 0 zM296.2.2.2.2.2.2.2 = some (0, (.lconst 1), 1, 0, 0) := by decide +kernel
theorem gx296_1 : aF 1 zM296.2.2.2.2.2.2.2 = some (1, (.lstore_n 3), 1, 0, 0) := by decide +kernel
theorem gx296_2 : aF 2 zM296.2.2.2.2.2.2.2 = some (2, (.iconst 0), 1, 0, 0) := by decide +kernel
theorem gx296_3 : aF 3 zM296.2.2.2.2.2.2.2 = some (3, (.istore 5), 2, 0, 0) := by decide +kernel
theorem gx296_5 : aF 5 zM296.2.2.2.2.2.2.2 = some (5, (.iload 5), 2, 0, 0) := by decide +kernel
theorem gx296_7 : aF 7 zM296.2.2.2.2.2.2.2 = some (7, (.iload_n 2), 1, 0, 0) := by decide +kernel
theorem gx296_8 : aF 8 zM296.2.2.2.2.2.2.2 = some (8, (.if_icmp .ge 13), 3, 21, 0) := by decide +kernel
theorem gx296_21 : aF 21 zM296.2.2.2.2.2.2.2 = some (21, (.lload_n 3), 1, 0, 0) := by decide +kernel
theorem gx296_22 : aF 22 zM296.2.2.2.2.2.2.2 = some (22, .lreturn, 1, 0, 0) := by decide +kernel
theorem gx296_11 : aF 11 zM296.2.2.2.2.2.2.2 = some (11, (.lload_n 3), 1, 0, 0) := by decide +kernel
theorem gx296_12 : aF 12 zM296.2.2.2.2.2.2.2 = some (12, (.lload_n 0), 1, 0, 0) := by decide +kernel
theorem gx296_13 : aF 13 zM296.2.2.2.2.2.2.2 = some (13, .lmul, 1, 0, 0) := by decide +kernel
theorem gx296_14 : aF 14 zM296.2.2.2.2.2.2.2 = some (14, (.lstore_n 3), 1, 0, 0) := by decide +kernel
theorem gx296_15 : aF 15 zM296.2.2.2.2.2.2.2 = some (15, (.iinc 5 1), 3, 0, 0) := by decide +kernel
theorem gx296_18 : aF 18 zM296.2.2.2.2.2.2.2 = some (18, (.goto (-13)), 3, 5, 0) := by decide +kernel
theorem gx297_0 : aF 0 zM297.2.2.2.2.2.2.2 = some (0, (.lconst 0), 1, 0, 0) := by decide +kernel
theorem gx297_1 : aF 1 zM297.2.2.2.2.2.2.2 = some (1, (.lstore 4), 2, 0, 0) := by decide +kernel
theorem gx297_3 : aF 3 zM297.2.2.2.2.2.2.2 = some (3, (.iload_n 1), 1, 0, 0) := by decide +kernel
theorem gx297_4 : aF 4 zM297.2.2.2.2.2.2.2 = some (4, (.istore 6), 2, 0, 0) := by decide +kernel
theorem gx297_6 : aF 6 zM297.2.2.2.2.2.2.2 = some (6, (.iload 6), 2, 0, 0) := by decide +kernel
theorem gx297_8 : aF 8 zM297.2.2.2.2.2.2.2 = some (8, (.iload_n 2), 1, 0, 0) := by decide +kernel
theorem gx297_9 : aF 9 zM297.2.2.2.2.2.2.2 = some (9, (.if_icmp .gt 73), 3, 82, 0) := by decide +kernel
theorem gx297_82 : aF 82 zM297.2.2.2.2.2.2.2 = some (82, (.lload 4), 2, 0, 0) := by decide +kernel
theorem gx297_84 : aF 84 zM297.2.2.2.2.2.2.2 = some (84, .lreturn, 1, 0, 0) := by decide +kernel
theorem gx297_12 : aF 12 zM297.2.2.2.2.2.2.2 = some (12, (.lconst 1), 1, 0, 0) := by decide +kernel
theorem gx297_13 : aF 13 zM297.2.2.2.2.2.2.2 = some (13, (.lstore 7), 2, 0, 0) := by decide +kernel
theorem gx297_15 : aF 15 zM297.2.2.2.2.2.2.2 = some (15, (.iconst 1), 1, 0, 0) := by decide +kernel
theorem gx297_16 : aF 16 zM297.2.2.2.2.2.2.2 = some (16, (.istore 9), 2, 0, 0) := by decide +kernel
theorem gx297_18 : aF 18 zM297.2.2.2.2.2.2.2 = some (18, (.iload 9), 2, 0, 0) := by decide +kernel
theorem gx297_20 : aF 20 zM297.2.2.2.2.2.2.2 = some (20, (.iload 6), 2, 0, 0) := by decide +kernel
theorem gx297_22 : aF 22 zM297.2.2.2.2.2.2.2 = some (22, (.if_icmp .gt 26), 3, 48, 0) := by decide +kernel
theorem gx297_48 : aF 48 zM297.2.2.2.2.2.2.2 = some (48, (.lload 4), 2, 0, 0) := by decide +kernel
theorem gx297_50 : aF 50 zM297.2.2.2.2.2.2.2 = some (50, (.lload 7), 2, 0, 0) := by decide +kernel
theorem gx297_52 : aF 52 zM297.2.2.2.2.2.2.2 = some (52, (.iload_n 3), 1, 0, 0) := by decide +kernel
theorem gx297_53 : aF 53 zM297.2.2.2.2.2.2.2 = some (53, .i2l, 1, 0, 0) := by decide +kernel
theorem gx297_54 : aF 54 zM297.2.2.2.2.2.2.2 = some (54, (.iload 6), 2, 0, 0) := by decide +kernel
theorem gx297_56 : aF 56 zM297.2.2.2.2.2.2.2 = some (56, (.invokestatic 536), 3, 296, 0) := by decide +kernel
theorem gx297_59 : aF 59 zM297.2.2.2.2.2.2.2 = some (59, .lmul, 1, 0, 0) := by decide +kernel
theorem gx297_60 : aF 60 zM297.2.2.2.2.2.2.2 = some (60, (.bipush 100), 2, 0, 0) := by decide +kernel
theorem gx297_62 : aF 62 zM297.2.2.2.2.2.2.2 = some (62, (.iload_n 3), 1, 0, 0) := by decide +kernel
theorem gx297_63 : aF 63 zM297.2.2.2.2.2.2.2 = some (63, .isub, 1, 0, 0) := by decide +kernel
theorem gx297_64 : aF 64 zM297.2.2.2.2.2.2.2 = some (64, .i2l, 1, 0, 0) := by decide +kernel
theorem gx297_65 : aF 65 zM297.2.2.2.2.2.2.2 = some (65, (.iload_n 0), 1, 0, 0) := by decide +kernel
theorem gx297_66 : aF 66 zM297.2.2.2.2.2.2.2 = some (66, (.iload 6), 2, 0, 0) := by decide +kernel
theorem gx297_68 : aF 68 zM297.2.2.2.2.2.2.2 = some (68, .isub, 1, 0, 0) := by decide +kernel
theorem gx297_69 : aF 69 zM297.2.2.2.2.2.2.2 = some (69, (.invokestatic 536), 3, 296, 0) := by decide +kernel
theorem gx297_72 : aF 72 zM297.2.2.2.2.2.2.2 = some (72, .lmul, 1, 0, 0) := by decide +kernel
theorem gx297_73 : aF 73 zM297.2.2.2.2.2.2.2 = some (73, .ladd, 1, 0, 0) := by decide +kernel
theorem gx297_74 : aF 74 zM297.2.2.2.2.2.2.2 = some (74, (.lstore 4), 2, 0, 0) := by decide +kernel
theorem gx297_76 : aF 76 zM297.2.2.2.2.2.2.2 = some (76, (.iinc 6 1), 3, 0, 0) := by decide +kernel
theorem gx297_79 : aF 79 zM297.2.2.2.2.2.2.2 = some (79, (.goto (-73)), 3, 6, 0) := by decide +kernel
theorem gx297_25 : aF 25 zM297.2.2.2.2.2.2.2 = some (25, (.lload 7), 2, 0, 0) := by decide +kernel
theorem gx297_27 : aF 27 zM297.2.2.2.2.2.2.2 = some (27, (.iload_n 0), 1, 0, 0) := by decide +kernel
theorem gx297_28 : aF 28 zM297.2.2.2.2.2.2.2 = some (28, (.iload 6), 2, 0, 0) := by decide +kernel
theorem gx297_30 : aF 30 zM297.2.2.2.2.2.2.2 = some (30, .isub, 1, 0, 0) := by decide +kernel
theorem gx297_31 : aF 31 zM297.2.2.2.2.2.2.2 = some (31, (.iload 9), 2, 0, 0) := by decide +kernel
theorem gx297_33 : aF 33 zM297.2.2.2.2.2.2.2 = some (33, .iadd, 1, 0, 0) := by decide +kernel
theorem gx297_34 : aF 34 zM297.2.2.2.2.2.2.2 = some (34, .i2l, 1, 0, 0) := by decide +kernel
theorem gx297_35 : aF 35 zM297.2.2.2.2.2.2.2 = some (35, .lmul, 1, 0, 0) := by decide +kernel
theorem gx297_36 : aF 36 zM297.2.2.2.2.2.2.2 = some (36, (.iload 9), 2, 0, 0) := by decide +kernel
theorem gx297_38 : aF 38 zM297.2.2.2.2.2.2.2 = some (38, .i2l, 1, 0, 0) := by decide +kernel
theorem gx297_39 : aF 39 zM297.2.2.2.2.2.2.2 = some (39, .ldiv, 1, 0, 0) := by decide +kernel
theorem gx297_40 : aF 40 zM297.2.2.2.2.2.2.2 = some (40, (.lstore 7), 2, 0, 0) := by decide +kernel
theorem gx297_42 : aF 42 zM297.2.2.2.2.2.2.2 = some (42, (.iinc 9 1), 3, 0, 0) := by decide +kernel
theorem gx297_45 : aF 45 zM297.2.2.2.2.2.2.2 = some (45, (.goto (-27)), 3, 18, 0) := by decide +kernel
theorem gx298_0 : aF 0 zM298.2.2.2.2.2.2.2 = some (0, (.iload_n 1), 1, 0, 0) := by decide +kernel
theorem gx298_1 : aF 1 zM298.2.2.2.2.2.2.2 = some (1, (.invokestatic 372), 3, 198, 0) := by decide +kernel
theorem gx298_4 : aF 4 zM298.2.2.2.2.2.2.2 = some (4, (.ifCond .eq 42), 3, 46, 0) := by decide +kernel
theorem gx298_7 : aF 7 zM298.2.2.2.2.2.2.2 = some (7, (.iload_n 2), 1, 0, 0) := by decide +kernel
theorem gx298_8 : aF 8 zM298.2.2.2.2.2.2.2 = some (8, (.iconst 0), 1, 0, 0) := by decide +kernel
theorem gx298_9 : aF 9 zM298.2.2.2.2.2.2.2 = some (9, (.iconst 2), 1, 0, 0) := by decide +kernel
theorem gx298_10 : aF 10 zM298.2.2.2.2.2.2.2 = some (10, (.invokestatic 258), 3, 196, 0) := by decide +kernel
theorem gx298_13 : aF 13 zM298.2.2.2.2.2.2.2 = some (13, (.ifCond .eq 33), 3, 46, 0) := by decide +kernel
theorem gx298_16 : aF 16 zM298.2.2.2.2.2.2.2 = some (16, (.iload_n 2), 1, 0, 0) := by decide +kernel
theorem gx298_17 : aF 17 zM298.2.2.2.2.2.2.2 = some (17, (.iconst 2), 1, 0, 0) := by decide +kernel
theorem gx298_18 : aF 18 zM298.2.2.2.2.2.2.2 = some (18, (.if_icmp .ne 30), 3, 48, 0) := by decide +kernel
theorem gx298_21 : aF 21 zM298.2.2.2.2.2.2.2 = some (21, (.iload_n 3), 1, 0, 0) := by decide +kernel
theorem gx298_22 : aF 22 zM298.2.2.2.2.2.2.2 = some (22, (.bipush 100), 2, 0, 0) := by decide +kernel
theorem gx298_24 : aF 24 zM298.2.2.2.2.2.2.2 = some (24, (.sipush 9949), 3, 0, 0) := by decide +kernel
theorem gx298_27 : aF 27 zM298.2.2.2.2.2.2.2 = some (27, (.invokestatic 258), 3, 196, 0) := by decide +kernel
theorem gx298_30 : aF 30 zM298.2.2.2.2.2.2.2 = some (30, (.ifCond .eq 16), 3, 46, 0) := by decide +kernel
theorem gx298_33 : aF 33 zM298.2.2.2.2.2.2.2 = some (33, (.iload_n 3), 1, 0, 0) := by decide +kernel
theorem gx298_34 : aF 34 zM298.2.2.2.2.2.2.2 = some (34, (.bipush 100), 2, 0, 0) := by decide +kernel
theorem gx298_36 : aF 36 zM298.2.2.2.2.2.2.2 = some (36, .irem, 1, 0, 0) := by decide +kernel
theorem gx298_37 : aF 37 zM298.2.2.2.2.2.2.2 = some (37, (.iconst 1), 1, 0, 0) := by decide +kernel
theorem gx298_38 : aF 38 zM298.2.2.2.2.2.2.2 = some (38, (.bipush 49), 2, 0, 0) := by decide +kernel
theorem gx298_40 : aF 40 zM298.2.2.2.2.2.2.2 = some (40, (.invokestatic 258), 3, 196, 0) := by decide +kernel
theorem gx298_43 : aF 43 zM298.2.2.2.2.2.2.2 = some (43, (.ifCond .ne 5), 3, 48, 0) := by decide +kernel
theorem gx298_46 : aF 46 zM298.2.2.2.2.2.2.2 = some (46, (.iconst (-1)), 1, 0, 0) := by decide +kernel
theorem gx298_47 : aF 47 zM298.2.2.2.2.2.2.2 = some (47, .ireturn, 1, 0, 0) := by decide +kernel
theorem gx298_48 : aF 48 zM298.2.2.2.2.2.2.2 = some (48, (.aload_n 0), 1, 0, 0) := by decide +kernel
theorem gx298_49 : aF 49 zM298.2.2.2.2.2.2.2 = some (49, (.aload_n 0), 1, 0, 0) := by decide +kernel
theorem gx298_50 : aF 50 zM298.2.2.2.2.2.2.2 = some (50, (.getfield 262), 3, 12, 1) := by decide +kernel
theorem gx298_53 : aF 53 zM298.2.2.2.2.2.2.2 = some (53, (.invokevirtual 368), 3, 239, 0) := by decide +kernel
theorem gx298_56 : aF 56 zM298.2.2.2.2.2.2.2 = some (56, (.iconst 0), 1, 0, 0) := by decide +kernel
theorem gx298_57 : aF 57 zM298.2.2.2.2.2.2.2 = some (57, (.istore 4), 2, 0, 0) := by decide +kernel
theorem gx298_59 : aF 59 zM298.2.2.2.2.2.2.2 = some (59, (.iconst 0), 1, 0, 0) := by decide +kernel
theorem gx298_60 : aF 60 zM298.2.2.2.2.2.2.2 = some (60, (.istore 5), 2, 0, 0) := by decide +kernel
theorem gx298_62 : aF 62 zM298.2.2.2.2.2.2.2 = some (62, (.iconst 0), 1, 0, 0) := by decide +kernel
theorem gx298_63 : aF 63 zM298.2.2.2.2.2.2.2 = some (63, (.istore 6), 2, 0, 0) := by decide +kernel
theorem gx298_65 : aF 65 zM298.2.2.2.2.2.2.2 = some (65, (.iconst 0), 1, 0, 0) := by decide +kernel
theorem gx298_66 : aF 66 zM298.2.2.2.2.2.2.2 = some (66, (.istore 7), 2, 0, 0) := by decide +kernel
theorem gx298_68 : aF 68 zM298.2.2.2.2.2.2.2 = some (68, (.iconst 0), 1, 0, 0) := by decide +kernel
theorem gx298_69 : aF 69 zM298.2.2.2.2.2.2.2 = some (69, (.istore 8), 2, 0, 0) := by decide +kernel
theorem gx298_71 : aF 71 zM298.2.2.2.2.2.2.2 = some (71, (.iload 8), 2, 0, 0) := by decide +kernel
theorem gx298_73 : aF 73 zM298.2.2.2.2.2.2.2 = some (73, (.aload_n 0), 1, 0, 0) := by decide +kernel
theorem gx298_74 : aF 74 zM298.2.2.2.2.2.2.2 = some (74, (.getfield 265), 3, 12, 2) := by decide +kernel
theorem gx298_77 : aF 77 zM298.2.2.2.2.2.2.2 = some (77, (.if_icmp .ge 92), 3, 169, 0) := by decide +kernel
theorem gx298_169 : aF 169 zM298.2.2.2.2.2.2.2 = some (169, (.iload_n 2), 1, 0, 0) := by decide +kernel
theorem gx298_170 : aF 170 zM298.2.2.2.2.2.2.2 = some (170, (.iconst 2), 1, 0, 0) := by decide +kernel
theorem gx298_171 : aF 171 zM298.2.2.2.2.2.2.2 = some (171, (.if_icmp .ge 15), 3, 186, 0) := by decide +kernel
theorem gx298_186 : aF 186 zM298.2.2.2.2.2.2.2 = some (186, (.iload_n 3), 1, 0, 0) := by decide +kernel
theorem gx298_187 : aF 187 zM298.2.2.2.2.2.2.2 = some (187, (.bipush 100), 2, 0, 0) := by decide +kernel
theorem gx298_189 : aF 189 zM298.2.2.2.2.2.2.2 = some (189, .irem, 1, 0, 0) := by decide +kernel
theorem gx298_190 : aF 190 zM298.2.2.2.2.2.2.2 = some (190, .i2l, 1, 0, 0) := by decide +kernel
theorem gx298_191 : aF 191 zM298.2.2.2.2.2.2.2 = some (191, (.ldc2_w 500), 3, 100, 0) := by decide +kernel
theorem gx298_194 : aF 194 zM298.2.2.2.2.2.2.2 = some (194, (.iload 6), 2, 0, 0) := by decide +kernel
theorem gx298_196 : aF 196 zM298.2.2.2.2.2.2.2 = some (196, (.invokestatic 536), 3, 296, 0) := by decide +kernel
theorem gx298_199 : aF 199 zM298.2.2.2.2.2.2.2 = some (199, .lmul, 1, 0, 0) := by decide +kernel
theorem gx298_200 : aF 200 zM298.2.2.2.2.2.2.2 = some (200, (.lstore 8), 2, 0, 0) := by decide +kernel
theorem gx298_202 : aF 202 zM298.2.2.2.2.2.2.2 = some (202, (.ldc2_w 500), 3, 100, 0) := by decide +kernel
theorem gx298_205 : aF 205 zM298.2.2.2.2.2.2.2 = some (205, (.iload 6), 2, 0, 0) := by decide +kernel
theorem gx298_207 : aF 207 zM298.2.2.2.2.2.2.2 = some (207, (.iload 7), 2, 0, 0) := by decide +kernel
theorem gx298_209 : aF 209 zM298.2.2.2.2.2.2.2 = some (209, (.iload 6), 2, 0, 0) := by decide +kernel
theorem gx298_211 : aF 211 zM298.2.2.2.2.2.2.2 = some (211, (.iload_n 3), 1, 0, 0) := by decide +kernel
theorem gx298_212 : aF 212 zM298.2.2.2.2.2.2.2 = some (212, (.bipush 100), 2, 0, 0) := by decide +kernel
theorem gx298_214 : aF 214 zM298.2.2.2.2.2.2.2 = some (214, .idiv, 1, 0, 0) := by decide +kernel
theorem gx298_215 : aF 215 zM298.2.2.2.2.2.2.2 = some (215, (.invokestatic 543), 3, 297, 0) := by decide +kernel
theorem gx298_218 : aF 218 zM298.2.2.2.2.2.2.2 = some (218, .lmul, 1, 0, 0) := by decide +kernel
theorem gx298_219 : aF 219 zM298.2.2.2.2.2.2.2 = some (219, (.lload 8), 2, 0, 0) := by decide +kernel
theorem gx298_221 : aF 221 zM298.2.2.2.2.2.2.2 = some (221, .lcmp, 1, 0, 0) := by decide +kernel
theorem gx298_222 : aF 222 zM298.2.2.2.2.2.2.2 = some (222, (.ifCond .ge 5), 3, 227, 0) := by decide +kernel
theorem gx298_227 : aF 227 zM298.2.2.2.2.2.2.2 = some (227, (.ldc2_w 500), 3, 100, 0) := by decide +kernel
theorem gx298_230 : aF 230 zM298.2.2.2.2.2.2.2 = some (230, (.iload 6), 2, 0, 0) := by decide +kernel
theorem gx298_232 : aF 232 zM298.2.2.2.2.2.2.2 = some (232, (.iconst 0), 1, 0, 0) := by decide +kernel
theorem gx298_233 : aF 233 zM298.2.2.2.2.2.2.2 = some (233, (.iload 7), 2, 0, 0) := by decide +kernel
theorem gx298_235 : aF 235 zM298.2.2.2.2.2.2.2 = some (235, (.iload_n 3), 1, 0, 0) := by decide +kernel
theorem gx298_236 : aF 236 zM298.2.2.2.2.2.2.2 = some (236, (.bipush 100), 2, 0, 0) := by decide +kernel
theorem gx298_238 : aF 238 zM298.2.2.2.2.2.2.2 = some (238, .idiv, 1, 0, 0) := by decide +kernel
theorem gx298_239 : aF 239 zM298.2.2.2.2.2.2.2 = some (239, (.invokestatic 543), 3, 297, 0) := by decide +kernel
theorem gx298_242 : aF 242 zM298.2.2.2.2.2.2.2 = some (242, .lmul, 1, 0, 0) := by decide +kernel
theorem gx298_243 : aF 243 zM298.2.2.2.2.2.2.2 = some (243, (.lload 8), 2, 0, 0) := by decide +kernel
theorem gx298_245 : aF 245 zM298.2.2.2.2.2.2.2 = some (245, .lcmp, 1, 0, 0) := by decide +kernel
theorem gx298_246 : aF 246 zM298.2.2.2.2.2.2.2 = some (246, (.ifCond .ge 7), 3, 253, 0) := by decide +kernel
theorem gx298_253 : aF 253 zM298.2.2.2.2.2.2.2 = some (253, (.iconst 0), 1, 0, 0) := by decide +kernel
theorem gx298_249 : aF 249 zM298.2.2.2.2.2.2.2 = some (249, (.iconst 2), 1, 0, 0) := by decide +kernel
theorem gx298_250 : aF 250 zM298.2.2.2.2.2.2.2 = some (250, (.goto 4), 3, 254, 0) := by decide +kernel
theorem gx298_225 : aF 225 zM298.2.2.2.2.2.2.2 = some (225, (.iconst 1), 1, 0, 0) := by decide +kernel
theorem gx298_226 : aF 226 zM298.2.2.2.2.2.2.2 = some (226, .ireturn, 1, 0, 0) := by decide +kernel
theorem gx298_174 : aF 174 zM298.2.2.2.2.2.2.2 = some (174, (.iload_n 2), 1, 0, 0) := by decide +kernel
theorem gx298_175 : aF 175 zM298.2.2.2.2.2.2.2 = some (175, (.ifCond .ne 8), 3, 183, 0) := by decide +kernel
theorem gx298_183 : aF 183 zM298.2.2.2.2.2.2.2 = some (183, (.iload 5), 2, 0, 0) := by decide +kernel
theorem gx298_178 : aF 178 zM298.2.2.2.2.2.2.2 = some (178, (.iload 4), 2, 0, 0) := by decide +kernel
theorem gx298_180 : aF 180 zM298.2.2.2.2.2.2.2 = some (180, (.goto 5), 3, 185, 0) := by decide +kernel
theorem gx298_80 : aF 80 zM298.2.2.2.2.2.2.2 = some (80, (.aload_n 0), 1, 0, 0) := by decide +kernel
theorem gx298_81 : aF 81 zM298.2.2.2.2.2.2.2 = some (81, (.iload 8), 2, 0, 0) := by decide +kernel
theorem gx298_83 : aF 83 zM298.2.2.2.2.2.2.2 = some (83, (.invokevirtual 316), 3, 202, 0) := by decide +kernel
theorem gx298_86 : aF 86 zM298.2.2.2.2.2.2.2 = some (86, (.ifCond .eq 77), 3, 163, 0) := by decide +kernel
theorem gx298_89 : aF 89 zM298.2.2.2.2.2.2.2 = some (89, (.aload_n 0), 1, 0, 0) := by decide +kernel
theorem gx298_90 : aF 90 zM298.2.2.2.2.2.2.2 = some (90, (.iload 8), 2, 0, 0) := by decide +kernel
theorem gx298_92 : aF 92 zM298.2.2.2.2.2.2.2 = some (92, (.iload_n 1), 1, 0, 0) := by decide +kernel
theorem gx298_93 : aF 93 zM298.2.2.2.2.2.2.2 = some (93, (.invokevirtual 540), 3, 295, 0) := by decide +kernel
theorem gx298_96 : aF 96 zM298.2.2.2.2.2.2.2 = some (96, (.ifCond .ne 6), 3, 102, 0) := by decide +kernel
theorem gx298_102 : aF 102 zM298.2.2.2.2.2.2.2 = some (102, (.aload_n 0), 1, 0, 0) := by decide +kernel
theorem gx298_103 : aF 103 zM298.2.2.2.2.2.2.2 = some (103, (.iload 8), 2, 0, 0) := by decide +kernel
theorem gx298_105 : aF 105 zM298.2.2.2.2.2.2.2 = some (105, (.iload_n 1), 1, 0, 0) := by decide +kernel
theorem gx298_106 : aF 106 zM298.2.2.2.2.2.2.2 = some (106, (.invokevirtual 467), 3, 271, 0) := by decide +kernel
theorem gx298_109 : aF 109 zM298.2.2.2.2.2.2.2 = some (109, (.iconst 2), 1, 0, 0) := by decide +kernel
theorem gx298_110 : aF 110 zM298.2.2.2.2.2.2.2 = some (110, (.if_icmp .le 7), 3, 117, 0) := by decide +kernel
theorem gx298_117 : aF 117 zM298.2.2.2.2.2.2.2 = some (117, (.iconst 0), 1, 0, 0) := by decide +kernel
theorem gx298_113 : aF 113 zM298.2.2.2.2.2.2.2 = some (113, (.iconst 1), 1, 0, 0) := by decide +kernel
theorem gx298_114 : aF 114 zM298.2.2.2.2.2.2.2 = some (114, (.goto 4), 3, 118, 0) := by decide +kernel
theorem gx298_99 : aF 99 zM298.2.2.2.2.2.2.2 = some (99, (.goto 64), 3, 163, 0) := by decide +kernel
theorem gx298_118 : aF 118 zM298.2.2.2.2.2.2.2 = some (118, (.istore 9), 2, 0, 0) := by decide +kernel
theorem gx298_120 : aF 120 zM298.2.2.2.2.2.2.2 = some (120, (.iload 4), 2, 0, 0) := by decide +kernel
theorem gx298_122 : aF 122 zM298.2.2.2.2.2.2.2 = some (122, (.bipush 8), 2, 0, 0) := by decide +kernel
theorem gx298_124 : aF 124 zM298.2.2.2.2.2.2.2 = some (124, (.if_icmp .ge 21), 3, 145, 0) := by decide +kernel
theorem gx298_127 : aF 127 zM298.2.2.2.2.2.2.2 = some (127, (.iinc 6 1), 3, 0, 0) := by decide +kernel
theorem gx298_130 : aF 130 zM298.2.2.2.2.2.2.2 = some (130, (.iload 7), 2, 0, 0) := by decide +kernel
theorem gx298_132 : aF 132 zM298.2.2.2.2.2.2.2 = some (132, (.iload 9), 2, 0, 0) := by decide +kernel
theorem gx298_134 : aF 134 zM298.2.2.2.2.2.2.2 = some (134, (.ifCond .eq 7), 3, 141, 0) := by decide +kernel
theorem gx298_141 : aF 141 zM298.2.2.2.2.2.2.2 = some (141, (.iconst 0), 1, 0, 0) := by decide +kernel
theorem gx298_137 : aF 137 zM298.2.2.2.2.2.2.2 = some (137, (.iconst 1), 1, 0, 0) := by decide +kernel
theorem gx298_138 : aF 138 zM298.2.2.2.2.2.2.2 = some (138, (.goto 4), 3, 142, 0) := by decide +kernel
theorem gx298_142 : aF 142 zM298.2.2.2.2.2.2.2 = some (142, .iadd, 1, 0, 0) := by decide +kernel
theorem gx298_143 : aF 143 zM298.2.2.2.2.2.2.2 = some (143, (.istore 7), 2, 0, 0) := by decide +kernel
theorem gx298_145 : aF 145 zM298.2.2.2.2.2.2.2 = some (145, (.iinc 4 1), 3, 0, 0) := by decide +kernel
theorem gx298_148 : aF 148 zM298.2.2.2.2.2.2.2 = some (148, (.iload 5), 2, 0, 0) := by decide +kernel
theorem gx298_150 : aF 150 zM298.2.2.2.2.2.2.2 = some (150, (.iload 9), 2, 0, 0) := by decide +kernel
theorem gx298_152 : aF 152 zM298.2.2.2.2.2.2.2 = some (152, (.ifCond .eq 7), 3, 159, 0) := by decide +kernel
theorem gx298_159 : aF 159 zM298.2.2.2.2.2.2.2 = some (159, (.iconst 0), 1, 0, 0) := by decide +kernel
theorem gx298_155 : aF 155 zM298.2.2.2.2.2.2.2 = some (155, (.iconst 1), 1, 0, 0) := by decide +kernel
theorem gx298_156 : aF 156 zM298.2.2.2.2.2.2.2 = some (156, (.goto 4), 3, 160, 0) := by decide +kernel
theorem gx298_160 : aF 160 zM298.2.2.2.2.2.2.2 = some (160, .iadd, 1, 0, 0) := by decide +kernel
theorem gx298_161 : aF 161 zM298.2.2.2.2.2.2.2 = some (161, (.istore 5), 2, 0, 0) := by decide +kernel
theorem gx298_163 : aF 163 zM298.2.2.2.2.2.2.2 = some (163, (.iinc 8 1), 3, 0, 0) := by decide +kernel
theorem gx298_166 : aF 166 zM298.2.2.2.2.2.2.2 = some (166, (.goto (-95)), 3, 71, 0) := by decide +kernel
theorem gx298_185 : aF 185 zM298.2.2.2.2.2.2.2 = some (185, .ireturn, 1, 0, 0) := by decide +kernel
theorem gx298_254 : aF 254 zM298.2.2.2.2.2.2.2 = some (254, .ireturn, 1, 0, 0) := by decide +kernel
theorem gx304_0 : aF 0 zM304.2.2.2.2.2.2.2 = some (0, (.iload_n 1), 1, 0, 0) := by decide +kernel
theorem gx304_1 : aF 1 zM304.2.2.2.2.2.2.2 = some (1, (.iconst 0), 1, 0, 0) := by decide +kernel
theorem gx304_2 : aF 2 zM304.2.2.2.2.2.2.2 = some (2, (.aload_n 0), 1, 0, 0) := by decide +kernel
theorem gx304_3 : aF 3 zM304.2.2.2.2.2.2.2 = some (3, (.getfield 445), 3, 12, 55) := by decide +kernel
theorem gx304_6 : aF 6 zM304.2.2.2.2.2.2.2 = some (6, (.iconst 1), 1, 0, 0) := by decide +kernel
theorem gx304_7 : aF 7 zM304.2.2.2.2.2.2.2 = some (7, .isub, 1, 0, 0) := by decide +kernel
theorem gx304_8 : aF 8 zM304.2.2.2.2.2.2.2 = some (8, (.invokestatic 258), 3, 196, 0) := by decide +kernel
theorem gx304_11 : aF 11 zM304.2.2.2.2.2.2.2 = some (11, (.ifCond .eq 39), 3, 50, 0) := by decide +kernel
theorem gx304_14 : aF 14 zM304.2.2.2.2.2.2.2 = some (14, (.aload_n 0), 1, 0, 0) := by decide +kernel
theorem gx304_15 : aF 15 zM304.2.2.2.2.2.2.2 = some (15, (.getfield 152), 3, 12, 56) := by decide +kernel
theorem gx304_18 : aF 18 zM304.2.2.2.2.2.2.2 = some (18, (.iload_n 1), 1, 0, 0) := by decide +kernel
theorem gx304_19 : aF 19 zM304.2.2.2.2.2.2.2 = some (19, .iaload, 1, 0, 0) := by decide +kernel
theorem gx304_20 : aF 20 zM304.2.2.2.2.2.2.2 = some (20, (.bipush 10), 2, 0, 0) := by decide +kernel
theorem gx304_22 : aF 22 zM304.2.2.2.2.2.2.2 = some (22, .irem, 1, 0, 0) := by decide +kernel
theorem gx304_23 : aF 23 zM304.2.2.2.2.2.2.2 = some (23, (.ifCond .ne 27), 3, 50, 0) := by decide +kernel
theorem gx304_26 : aF 26 zM304.2.2.2.2.2.2.2 = some (26, (.iload_n 2), 1, 0, 0) := by decide +kernel
theorem gx304_27 : aF 27 zM304.2.2.2.2.2.2.2 = some (27, (.invokestatic 280), 3, 206, 0) := by decide +kernel
theorem gx304_30 : aF 30 zM304.2.2.2.2.2.2.2 = some (30, (.ifCond .eq 20), 3, 50, 0) := by decide +kernel
theorem gx304_33 : aF 33 zM304.2.2.2.2.2.2.2 = some (33, (.iload_n 3), 1, 0, 0) := by decide +kernel
theorem gx304_34 : aF 34 zM304.2.2.2.2.2.2.2 = some (34, (.invokestatic 372), 3, 198, 0) := by decide +kernel
theorem gx304_37 : aF 37 zM304.2.2.2.2.2.2.2 = some (37, (.ifCond .eq 13), 3, 50, 0) := by decide +kernel
theorem gx304_40 : aF 40 zM304.2.2.2.2.2.2.2 = some (40, (.iload 4), 2, 0, 0) := by decide +kernel
theorem gx304_42 : aF 42 zM304.2.2.2.2.2.2.2 = some (42, (.iconst 0), 1, 0, 0) := by decide +kernel
theorem gx304_43 : aF 43 zM304.2.2.2.2.2.2.2 = some (43, (.iconst 1), 1, 0, 0) := by decide +kernel
theorem gx304_44 : aF 44 zM304.2.2.2.2.2.2.2 = some (44, (.invokestatic 258), 3, 196, 0) := by decide +kernel
theorem gx304_47 : aF 47 zM304.2.2.2.2.2.2.2 = some (47, (.ifCond .ne 5), 3, 52, 0) := by decide +kernel
theorem gx304_52 : aF 52 zM304.2.2.2.2.2.2.2 = some (52, (.iconst 0), 1, 0, 0) := by decide +kernel
theorem gx304_53 : aF 53 zM304.2.2.2.2.2.2.2 = some (53, (.istore 5), 2, 0, 0) := by decide +kernel
theorem gx304_55 : aF 55 zM304.2.2.2.2.2.2.2 = some (55, (.iconst 0), 1, 0, 0) := by decide +kernel
theorem gx304_56 : aF 56 zM304.2.2.2.2.2.2.2 = some (56, (.istore 6), 2, 0, 0) := by decide +kernel
theorem gx304_50 : aF 50 zM304.2.2.2.2.2.2.2 = some (50, (.iconst (-1)), 1, 0, 0) := by decide +kernel
theorem gx304_51 : aF 51 zM304.2.2.2.2.2.2.2 = some (51, .ireturn, 1, 0, 0) := by decide +kernel
theorem gx304_58 : aF 58 zM304.2.2.2.2.2.2.2 = some (58, (.iload 6), 2, 0, 0) := by decide +kernel
theorem gx304_60 : aF 60 zM304.2.2.2.2.2.2.2 = some (60, (.aload_n 0), 1, 0, 0) := by decide +kernel
theorem gx304_61 : aF 61 zM304.2.2.2.2.2.2.2 = some (61, (.getfield 265), 3, 12, 2) := by decide +kernel
theorem gx304_64 : aF 64 zM304.2.2.2.2.2.2.2 = some (64, (.if_icmp .ge 97), 3, 161, 0) := by decide +kernel
theorem gx304_161 : aF 161 zM304.2.2.2.2.2.2.2 = some (161, (.iload 5), 2, 0, 0) := by decide +kernel
theorem gx304_163 : aF 163 zM304.2.2.2.2.2.2.2 = some (163, .ireturn, 1, 0, 0) := by decide +kernel
theorem gx304_67 : aF 67 zM304.2.2.2.2.2.2.2 = some (67, (.aload_n 0), 1, 0, 0) := by decide +kernel
theorem gx304_68 : aF 68 zM304.2.2.2.2.2.2.2 = some (68, (.iload 6), 2, 0, 0) := by decide +kernel
theorem gx304_70 : aF 70 zM304.2.2.2.2.2.2.2 = some (70, (.invokevirtual 316), 3, 202, 0) := by decide +kernel
theorem gx304_73 : aF 73 zM304.2.2.2.2.2.2.2 = some (73, (.ifCond .eq 82), 3, 155, 0) := by decide +kernel
theorem gx304_76 : aF 76 zM304.2.2.2.2.2.2.2 = some (76, (.aload_n 0), 1, 0, 0) := by decide +kernel
theorem gx304_77 : aF 77 zM304.2.2.2.2.2.2.2 = some (77, (.getfield 13), 3, 12, 4) := by decide +kernel
theorem gx304_80 : aF 80 zM304.2.2.2.2.2.2.2 = some (80, (.iload 6), 2, 0, 0) := by decide +kernel
theorem gx304_82 : aF 82 zM304.2.2.2.2.2.2.2 = some (82, .iaload, 1, 0, 0) := by decide +kernel
theorem gx304_83 : aF 83 zM304.2.2.2.2.2.2.2 = some (83, (.iload_n 2), 1, 0, 0) := by decide +kernel
theorem gx304_84 : aF 84 zM304.2.2.2.2.2.2.2 = some (84, (.if_icmp .eq 6), 3, 90, 0) := by decide +kernel
theorem gx304_90 : aF 90 zM304.2.2.2.2.2.2.2 = some (90, (.aload_n 0), 1, 0, 0) := by decide +kernel
theorem gx304_91 : aF 91 zM304.2.2.2.2.2.2.2 = some (91, (.iload 6), 2, 0, 0) := by decide +kernel
theorem gx304_93 : aF 93 zM304.2.2.2.2.2.2.2 = some (93, (.iload_n 3), 1, 0, 0) := by decide +kernel
theorem gx304_94 : aF 94 zM304.2.2.2.2.2.2.2 = some (94, (.aload_n 0), 1, 0, 0) := by decide +kernel
theorem gx304_95 : aF 95 zM304.2.2.2.2.2.2.2 = some (95, (.getfield 262), 3, 12, 1) := by decide +kernel
theorem gx304_98 : aF 98 zM304.2.2.2.2.2.2.2 = some (98, (.iconst (-1)), 1, 0, 0) := by decide +kernel
theorem gx304_99 : aF 99 zM304.2.2.2.2.2.2.2 = some (99, (.invokevirtual 502), 3, 277, 0) := by decide +kernel
theorem gx304_102 : aF 102 zM304.2.2.2.2.2.2.2 = some (102, (.istore 7), 2, 0, 0) := by decide +kernel
theorem gx304_104 : aF 104 zM304.2.2.2.2.2.2.2 = some (104, (.aload_n 0), 1, 0, 0) := by decide +kernel
theorem gx304_105 : aF 105 zM304.2.2.2.2.2.2.2 = some (105, (.iload 6), 2, 0, 0) := by decide +kernel
theorem gx304_107 : aF 107 zM304.2.2.2.2.2.2.2 = some (107, (.iload_n 3), 1, 0, 0) := by decide +kernel
theorem gx304_108 : aF 108 zM304.2.2.2.2.2.2.2 = some (108, (.aload_n 0), 1, 0, 0) := by decide +kernel
theorem gx304_109 : aF 109 zM304.2.2.2.2.2.2.2 = some (109, (.getfield 262), 3, 12, 1) := by decide +kernel
theorem gx304_112 : aF 112 zM304.2.2.2.2.2.2.2 = some (112, (.iload_n 1), 1, 0, 0) := by decide +kernel
theorem gx304_113 : aF 113 zM304.2.2.2.2.2.2.2 = some (113, (.invokevirtual 502), 3, 277, 0) := by decide +kernel
theorem gx304_116 : aF 116 zM304.2.2.2.2.2.2.2 = some (116, (.istore 8), 2, 0, 0) := by decide +kernel
theorem gx304_118 : aF 118 zM304.2.2.2.2.2.2.2 = some (118, (.iload 5), 2, 0, 0) := by decide +kernel
theorem gx304_120 : aF 120 zM304.2.2.2.2.2.2.2 = some (120, (.iload 4), 2, 0, 0) := by decide +kernel
theorem gx304_122 : aF 122 zM304.2.2.2.2.2.2.2 = some (122, (.ifCond .ne 18), 3, 140, 0) := by decide +kernel
theorem gx304_140 : aF 140 zM304.2.2.2.2.2.2.2 = some (140, (.iload 8), 2, 0, 0) := by decide +kernel
theorem gx304_142 : aF 142 zM304.2.2.2.2.2.2.2 = some (142, (.iload 7), 2, 0, 0) := by decide +kernel
theorem gx304_144 : aF 144 zM304.2.2.2.2.2.2.2 = some (144, (.if_icmp .ge 7), 3, 151, 0) := by decide +kernel
theorem gx304_151 : aF 151 zM304.2.2.2.2.2.2.2 = some (151, (.iconst 0), 1, 0, 0) := by decide +kernel
theorem gx304_147 : aF 147 zM304.2.2.2.2.2.2.2 = some (147, (.iconst 1), 1, 0, 0) := by decide +kernel
theorem gx304_148 : aF 148 zM304.2.2.2.2.2.2.2 = some (148, (.goto 4), 3, 152, 0) := by decide +kernel
theorem gx304_125 : aF 125 zM304.2.2.2.2.2.2.2 = some (125, (.iload 8), 2, 0, 0) := by decide +kernel
theorem gx304_127 : aF 127 zM304.2.2.2.2.2.2.2 = some (127, (.iload 7), 2, 0, 0) := by decide +kernel
theorem gx304_129 : aF 129 zM304.2.2.2.2.2.2.2 = some (129, (.if_icmp .le 7), 3, 136, 0) := by decide +kernel
theorem gx304_136 : aF 136 zM304.2.2.2.2.2.2.2 = some (136, (.iconst 0), 1, 0, 0) := by decide +kernel
theorem gx304_137 : aF 137 zM304.2.2.2.2.2.2.2 = some (137, (.goto 15), 3, 152, 0) := by decide +kernel
theorem gx304_132 : aF 132 zM304.2.2.2.2.2.2.2 = some (132, (.iconst 1), 1, 0, 0) := by decide +kernel
theorem gx304_133 : aF 133 zM304.2.2.2.2.2.2.2 = some (133, (.goto 19), 3, 152, 0) := by decide +kernel
theorem gx304_87 : aF 87 zM304.2.2.2.2.2.2.2 = some (87, (.goto 68), 3, 155, 0) := by decide +kernel
theorem gx304_152 : aF 152 zM304.2.2.2.2.2.2.2 = some (152, .iadd, 1, 0, 0) := by decide +kernel
theorem gx304_153 : aF 153 zM304.2.2.2.2.2.2.2 = some (153, (.istore 5), 2, 0, 0) := by decide +kernel
theorem gx304_155 : aF 155 zM304.2.2.2.2.2.2.2 = some (155, (.iinc 6 1), 3, 0, 0) := by decide +kernel
theorem gx304_158 : aF 158 zM304.2.2.2.2.2.2.2 = some (158, (.goto (-100)), 3, 58, 0) := by decide +kernel
def TV (_ : aH) : Prop := True
theorem TV_ua {h h' : aH} {c : Nat} {j v : Int} (_ : TV h) (_ : hk h h') (_ : vw h' = up (vw h) c j v) (_ : True) : TV h' := trivial
theorem TV_uf {h h' : aH} {c : Nat} {j v : Int} (_ : TV h) (_ : hk h h') (_ : vw h' = up (vw h) c j v) (_ : True) : TV h' := trivial
theorem ul_233 {X : aX} : ∀ n : Nat, (∀ (h0 h : aH) (x1 : Int32) (x2 : Int32) (x3 : Int32) (x4 : Int32), wS h → hk h0 h → TV h → Pt n X zM233 0 [some (.ref 72), some (.int x1), some (.int x2), some (.int x3), some (.int x4), none] [] h (qI (fun _ h' => wS h' ∧ hk h0 h' ∧ TV h'))) ∧
    (∀ (h0 h : aH) (x1 : Int32) (x2 : Int32) (x3 : Int32) (x4 : Int32) (x5 : Int32), wS h → hk h0 h → TV h → Pt n X zM233 3 [some (.ref 72), some (.int x1), some (.int x2), some (.int x3), some (.int x4), some (.int x5)] [] h (qI (fun _ h' => wS h' ∧ hk h0 h' ∧ TV h'))) := by
  intro n
  induction n with
  | zero => refine ⟨?_, ?_⟩ <;> (intros; exact pt_z)
  | succ n ih =>
    obtain ⟨ih233_0, ih233_3⟩ := ih
    refine ⟨?_, ?_⟩
    · intro h0 h x1 x2 x3 x4 S G I
      obtain ⟨a1, z1⟩ : ∃ a : Int, x1.toInt = a := ⟨_, rfl⟩
      obtain ⟨a2, z2⟩ : ∃ a : Int, x2.toInt = a := ⟨_, rfl⟩
      obtain ⟨a3, z3⟩ : ∃ a : Int, x3.toInt = a := ⟨_, rfl⟩
      obtain ⟨a4, z4⟩ : ∃ a : Int, x4.toInt = a := ⟨_, rfl⟩
      refine pt_iconst gx233_0 (fun v1001 h1001 => ?_)
      refine pt_d (pt_1 (fun n d => r_istore (L' := [some (.ref 72), some (.int x1), some (.int x2), some (.int x3), some (.int x4), some (.int v1001)]) gx233_1 rfl rfl) ?_)
      exact ih233_3 h0 h x1 x2 x3 x4 v1001 S G I
    · intro h0 h x1 x2 x3 x4 x5 S G I
      obtain ⟨a1, z1⟩ : ∃ a : Int, x1.toInt = a := ⟨_, rfl⟩
      obtain ⟨a2, z2⟩ : ∃ a : Int, x2.toInt = a := ⟨_, rfl⟩
      obtain ⟨a3, z3⟩ : ∃ a : Int, x3.toInt = a := ⟨_, rfl⟩
      obtain ⟨a4, z4⟩ : ∃ a : Int, x4.toInt = a := ⟨_, rfl⟩
      obtain ⟨a5, z5⟩ : ∃ a : Int, x5.toInt = a := ⟨_, rfl⟩
      refine pt_1 (fun n d => r_iload gx233_3 rfl) ?_
      refine pt_d (pt_1 (fun n d => r_aloadn gx233_5 rfl) ?_)
      refine pt_d (pt_getI (B := 25) gx233_6 S (fun v1001 h1001 => ?_))
      refine pt_d (pt_icmp_ge gx233_9 z5 h1001 (fun e1002 => ?_) (fun e1002 => ?_))
      · skip
        refine pt_d (pt_iconst gx233_89 (fun v1003 h1003 => ?_))
        exact pt_d (pt_iret gx233_90 ⟨_, rfl, S, G, I⟩)
      · skip
        refine pt_d (pt_1 (fun n d => r_aloadn gx233_12 rfl) ?_)
        refine pt_d (pt_getR gx233_13 S tr_72_31 ?_)
        refine pt_d (pt_1 (fun n d => r_iload gx233_16 rfl) ?_)
        refine pt_d (pt_iald (N' := 40) gx233_18 S tl_97 z5 (fun v1005 p1005 q1005 h1005 => ?_))
        refine pt_d (pt_1 (fun n d => r_iload gx233_19 rfl) ?_)
        refine pt_d (pt_icmp_gt gx233_21 h1005 z4 (fun e1006 => ?_) (fun e1006 => ?_))
        · skip
          refine pt_d (pt_iinc (c := 1) gx233_83 rfl z5 (fun v1007 h1007 => ?_))
          show Pt _ _ _ _ [some (.ref 72), some (.int x1), some (.int x2), some (.int x3), some (.int x4), some (.int v1007)] [] _ _
          refine pt_d (pt_1 (fun n d => r_goto gx233_86) ?_)
          exact ih233_3 h0 h x1 x2 x3 x4 v1007 S G I
        · skip
          refine pt_d (pt_1 (fun n d => r_aloadn gx233_24 rfl) ?_)
          refine pt_d (pt_getR gx233_25 S tr_72_30 ?_)
          refine pt_d (pt_1 (fun n d => r_iload gx233_28 rfl) ?_)
          refine pt_d (pt_iald (N' := 40) gx233_30 S tl_96 z5 (fun v1009 p1009 q1009 h1009 => ?_))
          refine pt_d (pt_sipush gx233_31 (fun v1010 h1010 => ?_))
          refine pt_d (pt_1 (fun n d => r_iloadn gx233_34 rfl) ?_)
          refine pt_d (pt_imul gx233_35 h1010 z3 (fun v1011 h1011 => ?_))
          refine pt_d (pt_icmp_gt gx233_36 h1009 h1011 (fun e1012 => ?_) (fun e1012 => ?_))
          · skip
            refine pt_d (pt_iinc (c := 1) gx233_83 rfl z5 (fun v1013 h1013 => ?_))
            show Pt _ _ _ _ [some (.ref 72), some (.int x1), some (.int x2), some (.int x3), some (.int x4), some (.int v1013)] [] _ _
            refine pt_d (pt_1 (fun n d => r_goto gx233_86) ?_)
            exact ih233_3 h0 h x1 x2 x3 x4 v1013 S G I
          · skip
            refine pt_d (pt_1 (fun n d => r_iloadn gx233_39 rfl) ?_)
            refine pt_d (pt_1 (fun n d => r_aloadn gx233_40 rfl) ?_)
            refine pt_d (pt_getR gx233_41 S tr_72_26 ?_)
            refine pt_d (pt_1 (fun n d => r_iload gx233_44 rfl) ?_)
            refine pt_d (pt_iald (N' := 40) gx233_46 S tl_92 z5 (fun v1015 p1015 q1015 h1015 => ?_))
            refine pt_d (pt_1 (fun n d => r_aloadn gx233_47 rfl) ?_)
            refine pt_d (pt_getR gx233_48 S tr_72_28 ?_)
            refine pt_d (pt_1 (fun n d => r_iload gx233_51 rfl) ?_)
            refine pt_d (pt_iald (N' := 40) gx233_53 S tl_94 z5 (fun v1017 p1017 q1017 h1017 => ?_))
            refine pt_d (pt_stat (as := [.int x1, .int v1015, .int v1017]) (r := []) gx233_54 rfl (show zmt[196]? = some zM196 from rfl) rfl rfl rfl rfl (c_196 S z1 h1015 h1017) (kqP (fun v1018 h1018 => ?_)))
            show Pt _ _ _ 57 _ [.int v1018] _ _
            refine pt_d (pt_ifB_eq gx233_57 h1018 (fun e1019 => ?_) (fun e1019 => ?_))
            · skip
              refine pt_d (pt_iinc (c := 1) gx233_83 rfl z5 (fun v1020 h1020 => ?_))
              show Pt _ _ _ _ [some (.ref 72), some (.int x1), some (.int x2), some (.int x3), some (.int x4), some (.int v1020)] [] _ _
              refine pt_d (pt_1 (fun n d => r_goto gx233_86) ?_)
              exact ih233_3 h0 h x1 x2 x3 x4 v1020 S G I
            · skip
              refine pt_d (pt_1 (fun n d => r_iloadn gx233_60 rfl) ?_)
              refine pt_d (pt_1 (fun n d => r_aloadn gx233_61 rfl) ?_)
              refine pt_d (pt_getR gx233_62 S tr_72_27 ?_)
              refine pt_d (pt_1 (fun n d => r_iload gx233_65 rfl) ?_)
              refine pt_d (pt_iald (N' := 40) gx233_67 S tl_93 z5 (fun v1022 p1022 q1022 h1022 => ?_))
              refine pt_d (pt_1 (fun n d => r_aloadn gx233_68 rfl) ?_)
              refine pt_d (pt_getR gx233_69 S tr_72_29 ?_)
              refine pt_d (pt_1 (fun n d => r_iload gx233_72 rfl) ?_)
              refine pt_d (pt_iald (N' := 40) gx233_74 S tl_95 z5 (fun v1024 p1024 q1024 h1024 => ?_))
              refine pt_d (pt_stat (as := [.int x2, .int v1022, .int v1024]) (r := []) gx233_75 rfl (show zmt[196]? = some zM196 from rfl) rfl rfl rfl rfl (c_196 S z2 h1022 h1024) (kqP (fun v1025 h1025 => ?_)))
              show Pt _ _ _ 78 _ [.int v1025] _ _
              refine pt_d (pt_ifB_eq gx233_78 h1025 (fun e1026 => ?_) (fun e1026 => ?_))
              · skip
                refine pt_d (pt_iinc (c := 1) gx233_83 rfl z5 (fun v1027 h1027 => ?_))
                show Pt _ _ _ _ [some (.ref 72), some (.int x1), some (.int x2), some (.int x3), some (.int x4), some (.int v1027)] [] _ _
                refine pt_d (pt_1 (fun n d => r_goto gx233_86) ?_)
                exact ih233_3 h0 h x1 x2 x3 x4 v1027 S G I
              · skip
                refine pt_d (pt_iconst gx233_81 (fun v1028 h1028 => ?_))
                exact pt_d (pt_iret gx233_82 ⟨_, rfl, S, G, I⟩)
theorem uk_233 {n : Nat} {X : aX} {h : aH} {x1 : Int32} {x2 : Int32} {x3 : Int32} {x4 : Int32} {a1 : Int} {a2 : Int} {a3 : Int} {a4 : Int} (S : wS h) (z1 : x1.toInt = a1) (z2 : x2.toInt = a2) (z3 : x3.toInt = a3) (z4 : x4.toInt = a4) (I : TV h) : Pt n X zM233 0 [some (.ref 72), some (.int x1), some (.int x2), some (.int x3), some (.int x4), none] [] h (qI (fun _ h' => wS h' ∧ hk h h' ∧ TV h')) := (ul_233 n).1 h h x1 x2 x3 x4 S (hk_r h) I
theorem ul_234 {X : aX} : ∀ n : Nat, (∀ (h0 h : aH) (x1 : Int32) (x2 : Int32), wS h → hk h0 h → TV h → Pt n X zM234 0 [some (.ref 72), some (.int x1), some (.int x2), none] [] h (qI (fun _ h' => wS h' ∧ hk h0 h' ∧ TV h'))) ∧
    (∀ (h0 h : aH) (x1 : Int32) (x2 : Int32), wS h → hk h0 h → TV h → Pt n X zM234 39 [some (.ref 72), some (.int x1), some (.int x2), none] [] h (qI (fun _ h' => wS h' ∧ hk h0 h' ∧ TV h'))) ∧
    (∀ (h0 h : aH) (x1 : Int32) (x2 : Int32), wS h → hk h0 h → TV h → Pt n X zM234 41 [some (.ref 72), some (.int x1), some (.int x2), none] [] h (qI (fun _ h' => wS h' ∧ hk h0 h' ∧ TV h'))) ∧
    (∀ (h0 h : aH) (x1 : Int32) (x2 : Int32) (x3 : Int32), wS h → hk h0 h → TV h → Pt n X zM234 45 [some (.ref 72), some (.int x1), some (.int x2), some (.int x3)] [] h (qI (fun _ h' => wS h' ∧ hk h0 h' ∧ TV h'))) ∧
    (∀ (h0 h : aH) (x1 : Int32) (x2 : Int32) (x3 : Int32), wS h → hk h0 h → TV h → Pt n X zM234 108 [some (.ref 72), some (.int x1), some (.int x2), some (.int x3)] [] h (qI (fun _ h' => wS h' ∧ hk h0 h' ∧ TV h'))) := by
  intro n
  induction n with
  | zero => refine ⟨?_, ?_, ?_, ?_, ?_⟩ <;> (intros; exact pt_z)
  | succ n ih =>
    obtain ⟨ih234_0, ih234_39, ih234_41, ih234_45, ih234_108⟩ := ih
    refine ⟨?_, ?_, ?_, ?_, ?_⟩
    · intro h0 h x1 x2 S G I
      obtain ⟨a1, z1⟩ : ∃ a : Int, x1.toInt = a := ⟨_, rfl⟩
      obtain ⟨a2, z2⟩ : ∃ a : Int, x2.toInt = a := ⟨_, rfl⟩
      refine pt_1 (fun n d => r_aloadn gx234_0 rfl) ?_
      refine pt_d (pt_getR gx234_1 S tr_72_23 ?_)
      refine pt_d (pt_1 (fun n d => r_iloadn gx234_4 rfl) ?_)
      refine pt_d (pt_iald (N' := 300) gx234_5 S tl_90 z1 (fun v1002 p1002 q1002 h1002 => ?_))
      refine pt_d (pt_1 (fun n d => r_iloadn gx234_6 rfl) ?_)
      refine pt_d (pt_icmp_gt gx234_7 h1002 z2 (fun e1003 => ?_) (fun e1003 => ?_))
      · skip
        exact ih234_39 h0 h x1 x2 S G I
      · skip
        refine pt_d (pt_1 (fun n d => r_aloadn gx234_10 rfl) ?_)
        refine pt_d (pt_getR gx234_11 S tr_72_7 ?_)
        refine pt_d (pt_1 (fun n d => r_aloadn gx234_14 rfl) ?_)
        refine pt_d (pt_getR gx234_15 S tr_72_21 ?_)
        refine pt_d (pt_1 (fun n d => r_iloadn gx234_18 rfl) ?_)
        refine pt_d (pt_iald (N' := 300) gx234_19 S tl_88 z1 (fun v1006 p1006 q1006 h1006 => ?_))
        refine pt_d (pt_iald (N' := 150) gx234_20 S tl_77 h1006 (fun v1007 p1007 q1007 h1007 => ?_))
        refine pt_d (pt_if_lt gx234_21 h1007 (fun e1008 => ?_) (fun e1008 => ?_))
        · skip
          exact ih234_41 h0 h x1 x2 S G I
        · skip
          refine pt_d (pt_1 (fun n d => r_aloadn gx234_24 rfl) ?_)
          refine pt_d (pt_getR gx234_25 S tr_72_7 ?_)
          refine pt_d (pt_1 (fun n d => r_aloadn gx234_28 rfl) ?_)
          refine pt_d (pt_getR gx234_29 S tr_72_21 ?_)
          refine pt_d (pt_1 (fun n d => r_iloadn gx234_32 rfl) ?_)
          refine pt_d (pt_iald (N' := 300) gx234_33 S tl_88 z1 (fun v1011 p1011 q1011 h1011 => ?_))
          refine pt_d (pt_iald (N' := 150) gx234_34 S tl_77 h1011 (fun v1012 p1012 q1012 h1012 => ?_))
          refine pt_d (pt_1 (fun n d => r_iloadn gx234_35 rfl) ?_)
          refine pt_d (pt_icmp_gt gx234_36 h1012 z2 (fun e1013 => ?_) (fun e1013 => ?_))
          · skip
            exact ih234_41 h0 h x1 x2 S G I
          · skip
            exact ih234_39 h0 h x1 x2 S G I
    · intro h0 h x1 x2 S G I
      obtain ⟨a1, z1⟩ : ∃ a : Int, x1.toInt = a := ⟨_, rfl⟩
      obtain ⟨a2, z2⟩ : ∃ a : Int, x2.toInt = a := ⟨_, rfl⟩
      refine pt_iconst gx234_39 (fun v1001 h1001 => ?_)
      exact pt_d (pt_iret gx234_40 ⟨_, rfl, S, G, I⟩)
    · intro h0 h x1 x2 S G I
      obtain ⟨a1, z1⟩ : ∃ a : Int, x1.toInt = a := ⟨_, rfl⟩
      obtain ⟨a2, z2⟩ : ∃ a : Int, x2.toInt = a := ⟨_, rfl⟩
      refine pt_1 (fun n d => r_iloadn gx234_41 rfl) ?_
      refine pt_d (pt_iconst gx234_42 (fun v1001 h1001 => ?_))
      refine pt_d (pt_iadd gx234_43 z1 h1001 (fun v1002 h1002 => ?_))
      refine pt_d (pt_1 (fun n d => r_istoren (L' := [some (.ref 72), some (.int x1), some (.int x2), some (.int v1002)]) gx234_44 rfl rfl) ?_)
      exact ih234_45 h0 h x1 x2 v1002 S G I
    · intro h0 h x1 x2 x3 S G I
      obtain ⟨a1, z1⟩ : ∃ a : Int, x1.toInt = a := ⟨_, rfl⟩
      obtain ⟨a2, z2⟩ : ∃ a : Int, x2.toInt = a := ⟨_, rfl⟩
      obtain ⟨a3, z3⟩ : ∃ a : Int, x3.toInt = a := ⟨_, rfl⟩
      refine pt_1 (fun n d => r_iloadn gx234_45 rfl) ?_
      refine pt_d (pt_1 (fun n d => r_aloadn gx234_46 rfl) ?_)
      refine pt_d (pt_getI (B := 19) gx234_47 S (fun v1001 h1001 => ?_))
      refine pt_d (pt_icmp_ge gx234_50 z3 h1001 (fun e1002 => ?_) (fun e1002 => ?_))
      · skip
        refine pt_d (pt_iconst gx234_114 (fun v1003 h1003 => ?_))
        exact pt_d (pt_iret gx234_115 ⟨_, rfl, S, G, I⟩)
      · skip
        refine pt_d (pt_1 (fun n d => r_aloadn gx234_53 rfl) ?_)
        refine pt_d (pt_getR gx234_54 S tr_72_23 ?_)
        refine pt_d (pt_1 (fun n d => r_iloadn gx234_57 rfl) ?_)
        refine pt_d (pt_iald (N' := 300) gx234_58 S tl_90 z3 (fun v1005 p1005 q1005 h1005 => ?_))
        refine pt_d (pt_1 (fun n d => r_iloadn gx234_59 rfl) ?_)
        refine pt_d (pt_icmp_gt gx234_60 h1005 z2 (fun e1006 => ?_) (fun e1006 => ?_))
        · skip
          exact ih234_108 h0 h x1 x2 x3 S G I
        · skip
          refine pt_d (pt_1 (fun n d => r_aloadn gx234_63 rfl) ?_)
          refine pt_d (pt_getR gx234_64 S tr_72_20 ?_)
          refine pt_d (pt_1 (fun n d => r_iloadn gx234_67 rfl) ?_)
          refine pt_d (pt_iald (N' := 300) gx234_68 S tl_87 z3 (fun v1008 p1008 q1008 h1008 => ?_))
          refine pt_d (pt_1 (fun n d => r_aloadn gx234_69 rfl) ?_)
          refine pt_d (pt_getR gx234_70 S tr_72_20 ?_)
          refine pt_d (pt_1 (fun n d => r_iloadn gx234_73 rfl) ?_)
          refine pt_d (pt_iald (N' := 300) gx234_74 S tl_87 z1 (fun v1010 p1010 q1010 h1010 => ?_))
          refine pt_d (pt_icmp_ne gx234_75 h1008 h1010 (fun e1011 => ?_) (fun e1011 => ?_))
          · skip
            exact ih234_108 h0 h x1 x2 x3 S G I
          · skip
            refine pt_d (pt_1 (fun n d => r_aloadn gx234_78 rfl) ?_)
            refine pt_d (pt_getR gx234_79 S tr_72_21 ?_)
            refine pt_d (pt_1 (fun n d => r_iloadn gx234_82 rfl) ?_)
            refine pt_d (pt_iald (N' := 300) gx234_83 S tl_88 z3 (fun v1013 p1013 q1013 h1013 => ?_))
            refine pt_d (pt_1 (fun n d => r_aloadn gx234_84 rfl) ?_)
            refine pt_d (pt_getR gx234_85 S tr_72_21 ?_)
            refine pt_d (pt_1 (fun n d => r_iloadn gx234_88 rfl) ?_)
            refine pt_d (pt_iald (N' := 300) gx234_89 S tl_88 z1 (fun v1015 p1015 q1015 h1015 => ?_))
            refine pt_d (pt_icmp_ne gx234_90 h1013 h1015 (fun e1016 => ?_) (fun e1016 => ?_))
            · skip
              exact ih234_108 h0 h x1 x2 x3 S G I
            · skip
              refine pt_d (pt_1 (fun n d => r_aloadn gx234_93 rfl) ?_)
              refine pt_d (pt_1 (fun n d => r_iloadn gx234_94 rfl) ?_)
              refine pt_d (pt_virt (as := [.int x3]) (r := []) gx234_95 rfl (show zmt[229]? = some zM229 from rfl) rfl rfl rfl rfl (c_229 S z3) (kqP (fun v1017 h1017 => ?_)))
              show Pt _ _ _ 98 _ [.int v1017] _ _
              refine pt_d (pt_1 (fun n d => r_aloadn gx234_98 rfl) ?_)
              refine pt_d (pt_1 (fun n d => r_iloadn gx234_99 rfl) ?_)
              refine pt_d (pt_virt (as := [.int x1]) (r := [.int v1017]) gx234_100 rfl (show zmt[229]? = some zM229 from rfl) rfl rfl rfl rfl (c_229 S z1) (kqP (fun v1018 h1018 => ?_)))
              show Pt _ _ _ 103 _ [.int v1018, .int v1017] _ _
              refine pt_d (pt_icmp_ne gx234_103 h1017 h1018 (fun e1019 => ?_) (fun e1019 => ?_))
              · skip
                exact ih234_108 h0 h x1 x2 x3 S G I
              · skip
                refine pt_d (pt_iconst gx234_106 (fun v1020 h1020 => ?_))
                exact pt_d (pt_iret gx234_107 ⟨_, rfl, S, G, I⟩)
    · intro h0 h x1 x2 x3 S G I
      obtain ⟨a1, z1⟩ : ∃ a : Int, x1.toInt = a := ⟨_, rfl⟩
      obtain ⟨a2, z2⟩ : ∃ a : Int, x2.toInt = a := ⟨_, rfl⟩
      obtain ⟨a3, z3⟩ : ∃ a : Int, x3.toInt = a := ⟨_, rfl⟩
      refine pt_iinc (c := 1) gx234_108 rfl z3 (fun v1001 h1001 => ?_)
      show Pt _ _ _ _ [some (.ref 72), some (.int x1), some (.int x2), some (.int v1001)] [] _ _
      refine pt_d (pt_1 (fun n d => r_goto gx234_111) ?_)
      exact ih234_45 h0 h x1 x2 v1001 S G I
theorem uk_234 {n : Nat} {X : aX} {h : aH} {x1 : Int32} {x2 : Int32} {a1 : Int} {a2 : Int} (S : wS h) (z1 : x1.toInt = a1) (z2 : x2.toInt = a2) (I : TV h) : Pt n X zM234 0 [some (.ref 72), some (.int x1), some (.int x2), none] [] h (qI (fun _ h' => wS h' ∧ hk h h' ∧ TV h')) := (ul_234 n).1 h h x1 x2 S (hk_r h) I
theorem ul_236 {X : aX} : ∀ n : Nat, (∀ (h0 h : aH) (x1 : Int32) (x2 : Int32), wS h → hk h0 h → TV h → Pt n X zM236 0 [some (.ref 72), some (.int x1), some (.int x2), none, none] [] h (qN (fun h' => wS h' ∧ hk h0 h' ∧ TV h'))) ∧
    (∀ (h0 h : aH) (x1 : Int32) (x2 : Int32) (x3 : Int32), wS h → hk h0 h → TV h → Pt n X zM236 2 [some (.ref 72), some (.int x1), some (.int x2), some (.int x3), none] [] h (qN (fun h' => wS h' ∧ hk h0 h' ∧ TV h'))) ∧
    (∀ (h0 h : aH) (x1 : Int32) (x2 : Int32) (x3 : Int32) (u4 : Option Value), wS h → hk h0 h → TV h → Pt n X zM236 51 [some (.ref 72), some (.int x1), some (.int x2), some (.int x3), u4] [] h (qN (fun h' => wS h' ∧ hk h0 h' ∧ TV h'))) ∧
    (∀ (h0 h : aH) (x1 : Int32) (x2 : Int32) (x3 : Int32) (x4 : Int32), wS h → hk h0 h → TV h → Pt n X zM236 83 [some (.ref 72), some (.int x1), some (.int x2), some (.int x3), some (.int x4)] [] h (qN (fun h' => wS h' ∧ hk h0 h' ∧ TV h'))) ∧
    (∀ (h0 h : aH) (x1 : Int32) (x2 : Int32) (x3 : Int32) (x4 : Int32), wS h → hk h0 h → TV h → Pt n X zM236 159 [some (.ref 72), some (.int x1), some (.int x2), some (.int x3), some (.int x4)] [] h (qN (fun h' => wS h' ∧ hk h0 h' ∧ TV h'))) ∧
    (∀ (h0 h : aH) (x1 : Int32) (x2 : Int32) (x3 : Int32) (u4 : Option Value), wS h → hk h0 h → TV h → Pt n X zM236 165 [some (.ref 72), some (.int x1), some (.int x2), some (.int x3), u4] [] h (qN (fun h' => wS h' ∧ hk h0 h' ∧ TV h'))) := by
  intro n
  induction n with
  | zero => refine ⟨?_, ?_, ?_, ?_, ?_, ?_⟩ <;> (intros; exact pt_z)
  | succ n ih =>
    obtain ⟨ih236_0, ih236_2, ih236_51, ih236_83, ih236_159, ih236_165⟩ := ih
    refine ⟨?_, ?_, ?_, ?_, ?_, ?_⟩
    · intro h0 h x1 x2 S G I
      obtain ⟨a1, z1⟩ : ∃ a : Int, x1.toInt = a := ⟨_, rfl⟩
      obtain ⟨a2, z2⟩ : ∃ a : Int, x2.toInt = a := ⟨_, rfl⟩
      refine pt_iconst gx236_0 (fun v1001 h1001 => ?_)
      refine pt_d (pt_1 (fun n d => r_istoren (L' := [some (.ref 72), some (.int x1), some (.int x2), some (.int v1001), none]) gx236_1 rfl rfl) ?_)
      exact ih236_2 h0 h x1 x2 v1001 S G I
    · intro h0 h x1 x2 x3 S G I
      obtain ⟨a1, z1⟩ : ∃ a : Int, x1.toInt = a := ⟨_, rfl⟩
      obtain ⟨a2, z2⟩ : ∃ a : Int, x2.toInt = a := ⟨_, rfl⟩
      obtain ⟨a3, z3⟩ : ∃ a : Int, x3.toInt = a := ⟨_, rfl⟩
      refine pt_1 (fun n d => r_iloadn gx236_2 rfl) ?_
      refine pt_d (pt_sipush gx236_3 (fun v1001 h1001 => ?_))
      refine pt_d (pt_icmp_ge gx236_6 z3 h1001 (fun e1002 => ?_) (fun e1002 => ?_))
      · skip
        refine pt_d (pt_iconst gx236_49 (fun v1003 h1003 => ?_))
        refine pt_d (pt_1 (fun n d => r_istoren (L' := [some (.ref 72), some (.int x1), some (.int x2), some (.int v1003), none]) gx236_50 rfl rfl) ?_)
        exact ih236_51 h0 h x1 x2 v1003 _ S G I
      · skip
        refine pt_d (pt_1 (fun n d => r_aloadn gx236_9 rfl) ?_)
        refine pt_d (pt_getR gx236_10 S tr_72_44 ?_)
        refine pt_d (pt_1 (fun n d => r_iloadn gx236_13 rfl) ?_)
        refine pt_d (pt_iconst gx236_14 (fun v1005 h1005 => ?_))
        refine pt_d (pt_iasth (N' := 576) gx236_15 S tl_107 z3 h1005 (fun h_1006 S1006 p1006 q1006 e1006 K1006 => ?_))
        have G1006 := hk_t G K1006
        have I1006 := TV_ua I K1006 e1006 (by decide)
        refine pt_d (pt_1 (fun n d => r_aloadn gx236_16 rfl) ?_)
        refine pt_d (pt_getR gx236_17 S1006 tr_72_45 ?_)
        refine pt_d (pt_1 (fun n d => r_iloadn gx236_20 rfl) ?_)
        refine pt_d (pt_iconst gx236_21 (fun v1008 h1008 => ?_))
        refine pt_d (pt_zasth (N' := 576) gx236_22 S1006 tl_108 z3 h1008 (fun h_1009 S1009 p1009 q1009 e1009 K1009 => ?_))
        have G1009 := hk_t G1006 K1009
        have I1009 := TV_ua I1006 K1009 e1009 (by decide)
        refine pt_d (pt_1 (fun n d => r_aloadn gx236_23 rfl) ?_)
        refine pt_d (pt_getR gx236_24 S1009 tr_72_46 ?_)
        refine pt_d (pt_1 (fun n d => r_iloadn gx236_27 rfl) ?_)
        refine pt_d (pt_1 (fun n d => r_aloadn gx236_28 rfl) ?_)
        refine pt_d (pt_1 (fun n d => r_iloadn gx236_29 rfl) ?_)
        refine pt_d (pt_bipush gx236_30 (fun v1011 h1011 => ?_))
        refine pt_d (pt_irem gx236_32 z3 h1011 (fun v1012 h1012 => ?_))
        refine pt_d (pt_1 (fun n d => r_iloadn gx236_33 rfl) ?_)
        refine pt_d (pt_bipush gx236_34 (fun v1013 h1013 => ?_))
        refine pt_d (pt_idiv gx236_36 z3 h1013 (fun v1014 h1014 => ?_))
        refine pt_d (pt_1 (fun n d => r_iloadn gx236_37 rfl) ?_)
        refine pt_d (pt_1 (fun n d => r_iloadn gx236_38 rfl) ?_)
        refine pt_d (pt_virt (as := [.int v1012, .int v1014, .int x1, .int x2]) (r := [.int x3, .ref 109]) gx236_39 rfl (show zmt[233]? = some zM233 from rfl) rfl rfl rfl rfl (uk_233 S1009 h1012 h1014 z1 z2 I1009) (kqI (fun v1015 y1015 h_1015 h1015 P1015 => ?_)))
        have S1015 := P1015.1
        have G1015 := hk_t G1009 P1015.2.1
        have I1015 := P1015.2.2
        show Pt _ _ _ 42 _ [.int v1015, .int x3, .ref 109] _ _
        refine pt_d (pt_zasth (N' := 576) gx236_42 S1015 tl_109 z3 h1015 (fun h_1016 S1016 p1016 q1016 e1016 K1016 => ?_))
        have G1016 := hk_t G1015 K1016
        have I1016 := TV_ua I1015 K1016 e1016 (by decide)
        refine pt_d (pt_iinc (c := 1) gx236_43 rfl z3 (fun v1017 h1017 => ?_))
        show Pt _ _ _ _ [some (.ref 72), some (.int x1), some (.int x2), some (.int v1017), none] [] _ _
        refine pt_d (pt_1 (fun n d => r_goto gx236_46) ?_)
        exact ih236_2 h0 h_1016 x1 x2 v1017 S1016 G1016 I1016
    · intro h0 h x1 x2 x3 u4 S G I
      obtain ⟨a1, z1⟩ : ∃ a : Int, x1.toInt = a := ⟨_, rfl⟩
      obtain ⟨a2, z2⟩ : ∃ a : Int, x2.toInt = a := ⟨_, rfl⟩
      obtain ⟨a3, z3⟩ : ∃ a : Int, x3.toInt = a := ⟨_, rfl⟩
      refine pt_1 (fun n d => r_iloadn gx236_51 rfl) ?_
      refine pt_d (pt_1 (fun n d => r_aloadn gx236_52 rfl) ?_)
      refine pt_d (pt_getI (B := 19) gx236_53 S (fun v1001 h1001 => ?_))
      refine pt_d (pt_icmp_ge gx236_56 z3 h1001 (fun e1002 => ?_) (fun e1002 => ?_))
      · skip
        exact pt_d (pt_vret gx236_171 ⟨rfl, S, G, I⟩)
      · skip
        refine pt_d (pt_1 (fun n d => r_aloadn gx236_59 rfl) ?_)
        refine pt_d (pt_getR gx236_60 S tr_72_40 ?_)
        refine pt_d (pt_1 (fun n d => r_iloadn gx236_63 rfl) ?_)
        refine pt_d (pt_zald (N' := 300) gx236_64 S tl_103 z3 (fun v1004 p1004 q1004 h1004 => ?_))
        refine pt_d (pt_if_eq gx236_65 h1004 (fun e1005 => ?_) (fun e1005 => ?_))
        · skip
          exact ih236_165 h0 h x1 x2 x3 _ S G I
        · skip
          refine pt_d (pt_1 (fun n d => r_aloadn gx236_68 rfl) ?_)
          refine pt_d (pt_1 (fun n d => r_iloadn gx236_69 rfl) ?_)
          refine pt_d (pt_virt (as := [.int x3]) (r := []) gx236_70 rfl (show zmt[229]? = some zM229 from rfl) rfl rfl rfl rfl (c_229 S z3) (kqP (fun v1006 h1006 => ?_)))
          show Pt _ _ _ 73 _ [.int v1006] _ _
          refine pt_d (pt_1 (fun n d => r_iloadn gx236_73 rfl) ?_)
          refine pt_d (pt_icmp_eq gx236_74 h1006 z1 (fun e1007 => ?_) (fun e1007 => ?_))
          · skip
            refine pt_d (pt_iconst gx236_80 (fun v1008 h1008 => ?_))
            refine pt_d (pt_1 (fun n d => r_istore (L' := [some (.ref 72), some (.int x1), some (.int x2), some (.int x3), some (.int v1008)]) gx236_81 rfl rfl) ?_)
            exact ih236_83 h0 h x1 x2 x3 v1008 S G I
          · skip
            refine pt_d (pt_1 (fun n d => r_goto gx236_77) ?_)
            exact ih236_165 h0 h x1 x2 x3 _ S G I
    · intro h0 h x1 x2 x3 x4 S G I
      obtain ⟨a1, z1⟩ : ∃ a : Int, x1.toInt = a := ⟨_, rfl⟩
      obtain ⟨a2, z2⟩ : ∃ a : Int, x2.toInt = a := ⟨_, rfl⟩
      obtain ⟨a3, z3⟩ : ∃ a : Int, x3.toInt = a := ⟨_, rfl⟩
      obtain ⟨a4, z4⟩ : ∃ a : Int, x4.toInt = a := ⟨_, rfl⟩
      refine pt_1 (fun n d => r_iload gx236_83 rfl) ?_
      refine pt_d (pt_sipush gx236_85 (fun v1001 h1001 => ?_))
      refine pt_d (pt_icmp_ge gx236_88 z4 h1001 (fun e1002 => ?_) (fun e1002 => ?_))
      · skip
        exact ih236_165 h0 h x1 x2 x3 _ S G I
      · skip
        refine pt_d (pt_1 (fun n d => r_aloadn gx236_91 rfl) ?_)
        refine pt_d (pt_1 (fun n d => r_aloadn gx236_92 rfl) ?_)
        refine pt_d (pt_getR gx236_93 S tr_72_21 ?_)
        refine pt_d (pt_1 (fun n d => r_iloadn gx236_96 rfl) ?_)
        refine pt_d (pt_iald (N' := 300) gx236_97 S tl_88 z3 (fun v1004 p1004 q1004 h1004 => ?_))
        refine pt_d (pt_1 (fun n d => r_iload gx236_98 rfl) ?_)
        refine pt_d (pt_virt (as := [.int v1004, .int x4]) (r := []) gx236_100 rfl (show zmt[235]? = some zM235 from rfl) rfl rfl rfl rfl (c_235 S h1004 z4) (kqP (fun v1005 h1005 => ?_)))
        show Pt _ _ _ 103 _ [.int v1005] _ _
        refine pt_d (pt_ifB_ne gx236_103 h1005 (fun e1006 => ?_) (fun e1006 => ?_))
        · skip
          refine pt_d (pt_1 (fun n d => r_aloadn gx236_109 rfl) ?_)
          refine pt_d (pt_getR gx236_110 S tr_72_44 ?_)
          refine pt_d (pt_1 (fun n d => r_iload gx236_113 rfl) ?_)
          refine pt_d (pt_iald (N' := 576) gx236_115 S tl_107 z4 (fun v1008 p1008 q1008 h1008 => ?_))
          refine pt_d (pt_if_ge gx236_116 h1008 (fun e1009 => ?_) (fun e1009 => ?_))
          · skip
            refine pt_d (pt_1 (fun n d => r_aloadn gx236_135 rfl) ?_)
            refine pt_d (pt_getR gx236_136 S tr_72_44 ?_)
            refine pt_d (pt_1 (fun n d => r_iload gx236_139 rfl) ?_)
            refine pt_d (pt_iald (N' := 576) gx236_141 S tl_107 z4 (fun v1011 p1011 q1011 h1011 => ?_))
            refine pt_d (pt_1 (fun n d => r_aloadn gx236_142 rfl) ?_)
            refine pt_d (pt_getR gx236_143 S tr_72_20 ?_)
            refine pt_d (pt_1 (fun n d => r_iloadn gx236_146 rfl) ?_)
            refine pt_d (pt_iald (N' := 300) gx236_147 S tl_87 z3 (fun v1013 p1013 q1013 h1013 => ?_))
            refine pt_d (pt_icmp_eq gx236_148 h1011 h1013 (fun e1014 => ?_) (fun e1014 => ?_))
            · skip
              exact ih236_159 h0 h x1 x2 x3 x4 S G I
            · skip
              refine pt_d (pt_1 (fun n d => r_aloadn gx236_151 rfl) ?_)
              refine pt_d (pt_getR gx236_152 S tr_72_45 ?_)
              refine pt_d (pt_1 (fun n d => r_iload gx236_155 rfl) ?_)
              refine pt_d (pt_iconst gx236_157 (fun v1016 h1016 => ?_))
              refine pt_d (pt_zasth (N' := 576) gx236_158 S tl_108 z4 h1016 (fun h_1017 S1017 p1017 q1017 e1017 K1017 => ?_))
              have G1017 := hk_t G K1017
              have I1017 := TV_ua I K1017 e1017 (by decide)
              exact ih236_159 h0 h_1017 x1 x2 x3 x4 S1017 G1017 I1017
          · skip
            refine pt_d (pt_1 (fun n d => r_aloadn gx236_119 rfl) ?_)
            refine pt_d (pt_getR gx236_120 S tr_72_44 ?_)
            refine pt_d (pt_1 (fun n d => r_iload gx236_123 rfl) ?_)
            refine pt_d (pt_1 (fun n d => r_aloadn gx236_125 rfl) ?_)
            refine pt_d (pt_getR gx236_126 S tr_72_20 ?_)
            refine pt_d (pt_1 (fun n d => r_iloadn gx236_129 rfl) ?_)
            refine pt_d (pt_iald (N' := 300) gx236_130 S tl_87 z3 (fun v1020 p1020 q1020 h1020 => ?_))
            refine pt_d (pt_iasth (N' := 576) gx236_131 S tl_107 z4 h1020 (fun h_1021 S1021 p1021 q1021 e1021 K1021 => ?_))
            have G1021 := hk_t G K1021
            have I1021 := TV_ua I K1021 e1021 (by decide)
            refine pt_d (pt_1 (fun n d => r_goto gx236_132) ?_)
            exact ih236_159 h0 h_1021 x1 x2 x3 x4 S1021 G1021 I1021
        · skip
          refine pt_d (pt_1 (fun n d => r_goto gx236_106) ?_)
          exact ih236_159 h0 h x1 x2 x3 x4 S G I
    · intro h0 h x1 x2 x3 x4 S G I
      obtain ⟨a1, z1⟩ : ∃ a : Int, x1.toInt = a := ⟨_, rfl⟩
      obtain ⟨a2, z2⟩ : ∃ a : Int, x2.toInt = a := ⟨_, rfl⟩
      obtain ⟨a3, z3⟩ : ∃ a : Int, x3.toInt = a := ⟨_, rfl⟩
      obtain ⟨a4, z4⟩ : ∃ a : Int, x4.toInt = a := ⟨_, rfl⟩
      refine pt_iinc (c := 1) gx236_159 rfl z4 (fun v1001 h1001 => ?_)
      show Pt _ _ _ _ [some (.ref 72), some (.int x1), some (.int x2), some (.int x3), some (.int v1001)] [] _ _
      refine pt_d (pt_1 (fun n d => r_goto gx236_162) ?_)
      exact ih236_83 h0 h x1 x2 x3 v1001 S G I
    · intro h0 h x1 x2 x3 u4 S G I
      obtain ⟨a1, z1⟩ : ∃ a : Int, x1.toInt = a := ⟨_, rfl⟩
      obtain ⟨a2, z2⟩ : ∃ a : Int, x2.toInt = a := ⟨_, rfl⟩
      obtain ⟨a3, z3⟩ : ∃ a : Int, x3.toInt = a := ⟨_, rfl⟩
      refine pt_iinc (c := 1) gx236_165 rfl z3 (fun v1001 h1001 => ?_)
      show Pt _ _ _ _ [some (.ref 72), some (.int x1), some (.int x2), some (.int v1001), u4] [] _ _
      refine pt_d (pt_1 (fun n d => r_goto gx236_168) ?_)
      exact ih236_51 h0 h x1 x2 v1001 _ S G I
theorem uk_236 {n : Nat} {X : aX} {h : aH} {x1 : Int32} {x2 : Int32} {a1 : Int} {a2 : Int} (S : wS h) (z1 : x1.toInt = a1) (z2 : x2.toInt = a2) (I : TV h) : Pt n X zM236 0 [some (.ref 72), some (.int x1), some (.int x2), none, none] [] h (qN (fun h' => wS h' ∧ hk h h' ∧ TV h')) := (ul_236 n).1 h h x1 x2 S (hk_r h) I
theorem ul_237 {X : aX} : ∀ n : Nat, (∀ (h0 h : aH) (x1 : Int32) (x2 : Int32), wS h → hk h0 h → TV h → Pt n X zM237 0 [some (.ref 72), some (.int x1), some (.int x2), none] [] h (qI (fun _ h' => wS h' ∧ hk h0 h' ∧ TV h'))) ∧
    (∀ (h0 h : aH) (x1 : Int32) (x2 : Int32) (x3 : Int32), wS h → hk h0 h → TV h → Pt n X zM237 7 [some (.ref 72), some (.int x1), some (.int x2), some (.int x3)] [] h (qI (fun _ h' => wS h' ∧ hk h0 h' ∧ TV h'))) := by
  intro n
  induction n with
  | zero => refine ⟨?_, ?_⟩ <;> (intros; exact pt_z)
  | succ n ih =>
    obtain ⟨ih237_0, ih237_7⟩ := ih
    refine ⟨?_, ?_⟩
    · intro h0 h x1 x2 S G I
      obtain ⟨a1, z1⟩ : ∃ a : Int, x1.toInt = a := ⟨_, rfl⟩
      obtain ⟨a2, z2⟩ : ∃ a : Int, x2.toInt = a := ⟨_, rfl⟩
      refine pt_1 (fun n d => r_aloadn gx237_0 rfl) ?_
      refine pt_d (pt_getI (B := 32) gx237_1 S (fun v1001 h1001 => ?_))
      refine pt_d (pt_iconst gx237_4 (fun v1002 h1002 => ?_))
      refine pt_d (pt_isub gx237_5 h1001 h1002 (fun v1003 h1003 => ?_))
      refine pt_d (pt_1 (fun n d => r_istoren (L' := [some (.ref 72), some (.int x1), some (.int x2), some (.int v1003)]) gx237_6 rfl rfl) ?_)
      exact ih237_7 h0 h x1 x2 v1003 S G I
    · intro h0 h x1 x2 x3 S G I
      obtain ⟨a1, z1⟩ : ∃ a : Int, x1.toInt = a := ⟨_, rfl⟩
      obtain ⟨a2, z2⟩ : ∃ a : Int, x2.toInt = a := ⟨_, rfl⟩
      obtain ⟨a3, z3⟩ : ∃ a : Int, x3.toInt = a := ⟨_, rfl⟩
      refine pt_1 (fun n d => r_iloadn gx237_7 rfl) ?_
      refine pt_d (pt_if_lt gx237_8 z3 (fun e1001 => ?_) (fun e1001 => ?_))
      · skip
        refine pt_d (pt_iconst gx237_78 (fun v1002 h1002 => ?_))
        exact pt_d (pt_iret gx237_79 ⟨_, rfl, S, G, I⟩)
      · skip
        refine pt_d (pt_1 (fun n d => r_aloadn gx237_11 rfl) ?_)
        refine pt_d (pt_getR gx237_12 S tr_72_37 ?_)
        refine pt_d (pt_1 (fun n d => r_iloadn gx237_15 rfl) ?_)
        refine pt_d (pt_iald (N' := 200) gx237_16 S tl_102 z3 (fun v1004 p1004 q1004 h1004 => ?_))
        refine pt_d (pt_1 (fun n d => r_iloadn gx237_17 rfl) ?_)
        refine pt_d (pt_icmp_gt gx237_18 h1004 z2 (fun e1005 => ?_) (fun e1005 => ?_))
        · skip
          refine pt_d (pt_iinc (c := (-1)) gx237_72 rfl z3 (fun v1006 h1006 => ?_))
          show Pt _ _ _ _ [some (.ref 72), some (.int x1), some (.int x2), some (.int v1006)] [] _ _
          refine pt_d (pt_1 (fun n d => r_goto gx237_75) ?_)
          exact ih237_7 h0 h x1 x2 v1006 S G I
        · skip
          refine pt_d (pt_1 (fun n d => r_aloadn gx237_21 rfl) ?_)
          refine pt_d (pt_getR gx237_22 S tr_72_33 ?_)
          refine pt_d (pt_1 (fun n d => r_iloadn gx237_25 rfl) ?_)
          refine pt_d (pt_iald (N' := 200) gx237_26 S tl_98 z3 (fun v1008 p1008 q1008 h1008 => ?_))
          refine pt_d (pt_1 (fun n d => r_aloadn gx237_27 rfl) ?_)
          refine pt_d (pt_getR gx237_28 S tr_72_20 ?_)
          refine pt_d (pt_1 (fun n d => r_iloadn gx237_31 rfl) ?_)
          refine pt_d (pt_iald (N' := 300) gx237_32 S tl_87 z1 (fun v1010 p1010 q1010 h1010 => ?_))
          refine pt_d (pt_icmp_ne gx237_33 h1008 h1010 (fun e1011 => ?_) (fun e1011 => ?_))
          · skip
            refine pt_d (pt_iinc (c := (-1)) gx237_72 rfl z3 (fun v1012 h1012 => ?_))
            show Pt _ _ _ _ [some (.ref 72), some (.int x1), some (.int x2), some (.int v1012)] [] _ _
            refine pt_d (pt_1 (fun n d => r_goto gx237_75) ?_)
            exact ih237_7 h0 h x1 x2 v1012 S G I
          · skip
            refine pt_d (pt_1 (fun n d => r_aloadn gx237_36 rfl) ?_)
            refine pt_d (pt_getR gx237_37 S tr_72_34 ?_)
            refine pt_d (pt_1 (fun n d => r_iloadn gx237_40 rfl) ?_)
            refine pt_d (pt_iald (N' := 200) gx237_41 S tl_99 z3 (fun v1014 p1014 q1014 h1014 => ?_))
            refine pt_d (pt_1 (fun n d => r_aloadn gx237_42 rfl) ?_)
            refine pt_d (pt_getR gx237_43 S tr_72_21 ?_)
            refine pt_d (pt_1 (fun n d => r_iloadn gx237_46 rfl) ?_)
            refine pt_d (pt_iald (N' := 300) gx237_47 S tl_88 z1 (fun v1016 p1016 q1016 h1016 => ?_))
            refine pt_d (pt_icmp_ne gx237_48 h1014 h1016 (fun e1017 => ?_) (fun e1017 => ?_))
            · skip
              refine pt_d (pt_iinc (c := (-1)) gx237_72 rfl z3 (fun v1018 h1018 => ?_))
              show Pt _ _ _ _ [some (.ref 72), some (.int x1), some (.int x2), some (.int v1018)] [] _ _
              refine pt_d (pt_1 (fun n d => r_goto gx237_75) ?_)
              exact ih237_7 h0 h x1 x2 v1018 S G I
            · skip
              refine pt_d (pt_1 (fun n d => r_aloadn gx237_51 rfl) ?_)
              refine pt_d (pt_getR gx237_52 S tr_72_35 ?_)
              refine pt_d (pt_1 (fun n d => r_iloadn gx237_55 rfl) ?_)
              refine pt_d (pt_iald (N' := 200) gx237_56 S tl_100 z3 (fun v1020 p1020 q1020 h1020 => ?_))
              refine pt_d (pt_1 (fun n d => r_aloadn gx237_57 rfl) ?_)
              refine pt_d (pt_1 (fun n d => r_iloadn gx237_58 rfl) ?_)
              refine pt_d (pt_virt (as := [.int x1]) (r := [.int v1020]) gx237_59 rfl (show zmt[229]? = some zM229 from rfl) rfl rfl rfl rfl (c_229 S z1) (kqP (fun v1021 h1021 => ?_)))
              show Pt _ _ _ 62 _ [.int v1021, .int v1020] _ _
              refine pt_d (pt_icmp_ne gx237_62 h1020 h1021 (fun e1022 => ?_) (fun e1022 => ?_))
              · skip
                refine pt_d (pt_iinc (c := (-1)) gx237_72 rfl z3 (fun v1023 h1023 => ?_))
                show Pt _ _ _ _ [some (.ref 72), some (.int x1), some (.int x2), some (.int v1023)] [] _ _
                refine pt_d (pt_1 (fun n d => r_goto gx237_75) ?_)
                exact ih237_7 h0 h x1 x2 v1023 S G I
              · skip
                refine pt_d (pt_1 (fun n d => r_aloadn gx237_65 rfl) ?_)
                refine pt_d (pt_getR gx237_66 S tr_72_36 ?_)
                refine pt_d (pt_1 (fun n d => r_iloadn gx237_69 rfl) ?_)
                refine pt_d (pt_iald (N' := 200) gx237_70 S tl_101 z3 (fun v1025 p1025 q1025 h1025 => ?_))
                exact pt_d (pt_iret gx237_71 ⟨_, rfl, S, G, I⟩)
theorem uk_237 {n : Nat} {X : aX} {h : aH} {x1 : Int32} {x2 : Int32} {a1 : Int} {a2 : Int} (S : wS h) (z1 : x1.toInt = a1) (z2 : x2.toInt = a2) (I : TV h) : Pt n X zM237 0 [some (.ref 72), some (.int x1), some (.int x2), none] [] h (qI (fun _ h' => wS h' ∧ hk h h' ∧ TV h')) := (ul_237 n).1 h h x1 x2 S (hk_r h) I
theorem ul_238 {X : aX} : ∀ n : Nat, (∀ (h0 h : aH) (x1 : Int32) (x2 : Int32), wS h → hk h0 h → TV h → Pt n X zM238 0 [some (.ref 72), some (.int x1), some (.int x2), none, none, none] [] h (qN (fun h' => wS h' ∧ hk h0 h' ∧ TV h'))) ∧
    (∀ (h0 h : aH) (x1 : Int32) (x2 : Int32) (x3 : Int32), wS h → hk h0 h → TV h → Pt n X zM238 2 [some (.ref 72), some (.int x1), some (.int x2), some (.int x3), none, none] [] h (qN (fun h' => wS h' ∧ hk h0 h' ∧ TV h'))) ∧
    (∀ (h0 h : aH) (x1 : Int32) (x2 : Int32) (x3 : Int32) (u4 : Option Value), wS h → hk h0 h → TV h → Pt n X zM238 24 [some (.ref 72), some (.int x1), some (.int x2), some (.int x3), u4, none] [] h (qN (fun h' => wS h' ∧ hk h0 h' ∧ TV h'))) ∧
    (∀ (h0 h : aH) (x1 : Int32) (x2 : Int32) (x3 : Int32) (x4 : Int32), wS h → hk h0 h → TV h → Pt n X zM238 86 [some (.ref 72), some (.int x1), some (.int x2), some (.int x3), some (.int x4), none] [] h (qN (fun h' => wS h' ∧ hk h0 h' ∧ TV h'))) ∧
    (∀ (h0 h : aH) (x1 : Int32) (x2 : Int32) (x3 : Int32) (x4 : Int32) (xs1 : Int32), wS h → hk h0 h → TV h → Pt n X zM238 125 [some (.ref 72), some (.int x1), some (.int x2), some (.int x3), some (.int x4), none] [.int xs1, .ref 110] h (qN (fun h' => wS h' ∧ hk h0 h' ∧ TV h'))) ∧
    (∀ (h0 h : aH) (x1 : Int32) (x2 : Int32) (x3 : Int32) (x4 : Int32) (xs1 : Int32) (xs2 : Int32), wS h → hk h0 h → TV h → Pt n X zM238 130 [some (.ref 72), some (.int x1), some (.int x2), some (.int x3), some (.int x4), none] [.int xs2, .int xs1, .ref 110] h (qN (fun h' => wS h' ∧ hk h0 h' ∧ TV h'))) ∧
    (∀ (h0 h : aH) (x1 : Int32) (x2 : Int32) (x3 : Int32) (u4 : Option Value), wS h → hk h0 h → TV h → Pt n X zM238 137 [some (.ref 72), some (.int x1), some (.int x2), some (.int x3), u4, none] [] h (qN (fun h' => wS h' ∧ hk h0 h' ∧ TV h'))) ∧
    (∀ (h0 h : aH) (x1 : Int32) (x2 : Int32) (x3 : Int32) (x4 : Int32) (x5 : Int32), wS h → hk h0 h → TV h → Pt n X zM238 151 [some (.ref 72), some (.int x1), some (.int x2), some (.int x3), some (.int x4), some (.int x5)] [] h (qN (fun h' => wS h' ∧ hk h0 h' ∧ TV h'))) ∧
    (∀ (h0 h : aH) (x1 : Int32) (x2 : Int32) (x3 : Int32) (x4 : Int32) (x5 : Int32) (xs0 : Int32) (xs1 : Int32), wS h → hk h0 h → TV h → Pt n X zM238 194 [some (.ref 72), some (.int x1), some (.int x2), some (.int x3), some (.int x4), some (.int x5)] [.int xs1, .int xs0] h (qN (fun h' => wS h' ∧ hk h0 h' ∧ TV h'))) ∧
    (∀ (h0 h : aH) (x1 : Int32) (x2 : Int32) (x3 : Int32) (x4 : Int32) (x5 : Int32) (xs0 : Int32), wS h → hk h0 h → TV h → Pt n X zM238 228 [some (.ref 72), some (.int x1), some (.int x2), some (.int x3), some (.int x4), some (.int x5)] [.int xs0] h (qN (fun h' => wS h' ∧ hk h0 h' ∧ TV h'))) ∧
    (∀ (h0 h : aH) (x1 : Int32) (x2 : Int32) (x3 : Int32) (x4 : Int32) (x5 : Int32) (xs0 : Int32) (xs1 : Int32), wS h → hk h0 h → TV h → Pt n X zM238 233 [some (.ref 72), some (.int x1), some (.int x2), some (.int x3), some (.int x4), some (.int x5)] [.int xs1, .int xs0] h (qN (fun h' => wS h' ∧ hk h0 h' ∧ TV h'))) ∧
    (∀ (h0 h : aH) (x1 : Int32) (x2 : Int32) (x3 : Int32) (x4 : Int32) (x5 : Int32), wS h → hk h0 h → TV h → Pt n X zM238 235 [some (.ref 72), some (.int x1), some (.int x2), some (.int x3), some (.int x4), some (.int x5)] [] h (qN (fun h' => wS h' ∧ hk h0 h' ∧ TV h'))) := by
  intro n
  induction n with
  | zero => refine ⟨?_, ?_, ?_, ?_, ?_, ?_, ?_, ?_, ?_, ?_, ?_, ?_⟩ <;> (intros; exact pt_z)
  | succ n ih =>
    obtain ⟨ih238_0, ih238_2, ih238_24, ih238_86, ih238_125, ih238_130, ih238_137, ih238_151, ih238_194, ih238_228, ih238_233, ih238_235⟩ := ih
    refine ⟨?_, ?_, ?_, ?_, ?_, ?_, ?_, ?_, ?_, ?_, ?_, ?_⟩
    · intro h0 h x1 x2 S G I
      obtain ⟨a1, z1⟩ : ∃ a : Int, x1.toInt = a := ⟨_, rfl⟩
      obtain ⟨a2, z2⟩ : ∃ a : Int, x2.toInt = a := ⟨_, rfl⟩
      refine pt_iconst gx238_0 (fun v1001 h1001 => ?_)
      refine pt_d (pt_1 (fun n d => r_istoren (L' := [some (.ref 72), some (.int x1), some (.int x2), some (.int v1001), none, none]) gx238_1 rfl rfl) ?_)
      exact ih238_2 h0 h x1 x2 v1001 S G I
    · intro h0 h x1 x2 x3 S G I
      obtain ⟨a1, z1⟩ : ∃ a : Int, x1.toInt = a := ⟨_, rfl⟩
      obtain ⟨a2, z2⟩ : ∃ a : Int, x2.toInt = a := ⟨_, rfl⟩
      obtain ⟨a3, z3⟩ : ∃ a : Int, x3.toInt = a := ⟨_, rfl⟩
      refine pt_1 (fun n d => r_iloadn gx238_2 rfl) ?_
      refine pt_d (pt_sipush gx238_3 (fun v1001 h1001 => ?_))
      refine pt_d (pt_icmp_ge gx238_6 z3 h1001 (fun e1002 => ?_) (fun e1002 => ?_))
      · skip
        refine pt_d (pt_iconst gx238_22 (fun v1003 h1003 => ?_))
        refine pt_d (pt_1 (fun n d => r_istoren (L' := [some (.ref 72), some (.int x1), some (.int x2), some (.int v1003), none, none]) gx238_23 rfl rfl) ?_)
        exact ih238_24 h0 h x1 x2 v1003 _ S G I
      · skip
        refine pt_d (pt_1 (fun n d => r_aloadn gx238_9 rfl) ?_)
        refine pt_d (pt_getR gx238_10 S tr_72_47 ?_)
        refine pt_d (pt_1 (fun n d => r_iloadn gx238_13 rfl) ?_)
        refine pt_d (pt_iconst gx238_14 (fun v1005 h1005 => ?_))
        refine pt_d (pt_zasth (N' := 576) gx238_15 S tl_110 z3 h1005 (fun h_1006 S1006 p1006 q1006 e1006 K1006 => ?_))
        have G1006 := hk_t G K1006
        have I1006 := TV_ua I K1006 e1006 (by decide)
        refine pt_d (pt_iinc (c := 1) gx238_16 rfl z3 (fun v1007 h1007 => ?_))
        show Pt _ _ _ _ [some (.ref 72), some (.int x1), some (.int x2), some (.int v1007), none, none] [] _ _
        refine pt_d (pt_1 (fun n d => r_goto gx238_19) ?_)
        exact ih238_2 h0 h_1006 x1 x2 v1007 S1006 G1006 I1006
    · intro h0 h x1 x2 x3 u4 S G I
      obtain ⟨a1, z1⟩ : ∃ a : Int, x1.toInt = a := ⟨_, rfl⟩
      obtain ⟨a2, z2⟩ : ∃ a : Int, x2.toInt = a := ⟨_, rfl⟩
      obtain ⟨a3, z3⟩ : ∃ a : Int, x3.toInt = a := ⟨_, rfl⟩
      refine pt_1 (fun n d => r_iloadn gx238_24 rfl) ?_
      refine pt_d (pt_1 (fun n d => r_aloadn gx238_25 rfl) ?_)
      refine pt_d (pt_getI (B := 19) gx238_26 S (fun v1001 h1001 => ?_))
      refine pt_d (pt_icmp_ge gx238_29 z3 h1001 (fun e1002 => ?_) (fun e1002 => ?_))
      · skip
        refine pt_d (pt_iconst gx238_143 (fun v1003 h1003 => ?_))
        refine pt_d (pt_1 (fun n d => r_istoren (L' := [some (.ref 72), some (.int x1), some (.int x2), some (.int v1003), u4, none]) gx238_144 rfl rfl) ?_)
        refine pt_d (pt_iconst gx238_145 (fun v1004 h1004 => ?_))
        refine pt_d (pt_1 (fun n d => r_istore (L' := [some (.ref 72), some (.int x1), some (.int x2), some (.int v1003), some (.int v1004), none]) gx238_146 rfl rfl) ?_)
        refine pt_d (pt_iconst gx238_148 (fun v1005 h1005 => ?_))
        refine pt_d (pt_1 (fun n d => r_istore (L' := [some (.ref 72), some (.int x1), some (.int x2), some (.int v1003), some (.int v1004), some (.int v1005)]) gx238_149 rfl rfl) ?_)
        exact ih238_151 h0 h x1 x2 v1003 v1004 v1005 S G I
      · skip
        refine pt_d (pt_1 (fun n d => r_aloadn gx238_32 rfl) ?_)
        refine pt_d (pt_getR gx238_33 S tr_72_40 ?_)
        refine pt_d (pt_1 (fun n d => r_iloadn gx238_36 rfl) ?_)
        refine pt_d (pt_zald (N' := 300) gx238_37 S tl_103 z3 (fun v1007 p1007 q1007 h1007 => ?_))
        refine pt_d (pt_if_eq gx238_38 h1007 (fun e1008 => ?_) (fun e1008 => ?_))
        · skip
          exact ih238_137 h0 h x1 x2 x3 _ S G I
        · skip
          refine pt_d (pt_1 (fun n d => r_aloadn gx238_41 rfl) ?_)
          refine pt_d (pt_1 (fun n d => r_iloadn gx238_42 rfl) ?_)
          refine pt_d (pt_virt (as := [.int x3]) (r := []) gx238_43 rfl (show zmt[229]? = some zM229 from rfl) rfl rfl rfl rfl (c_229 S z3) (kqP (fun v1009 h1009 => ?_)))
          show Pt _ _ _ 46 _ [.int v1009] _ _
          refine pt_d (pt_1 (fun n d => r_iloadn gx238_46 rfl) ?_)
          refine pt_d (pt_icmp_ne gx238_47 h1009 z2 (fun e1010 => ?_) (fun e1010 => ?_))
          · skip
            exact ih238_137 h0 h x1 x2 x3 _ S G I
          · skip
            refine pt_d (pt_1 (fun n d => r_aloadn gx238_50 rfl) ?_)
            refine pt_d (pt_getR gx238_51 S tr_72_20 ?_)
            refine pt_d (pt_1 (fun n d => r_iloadn gx238_54 rfl) ?_)
            refine pt_d (pt_iald (N' := 300) gx238_55 S tl_87 z3 (fun v1012 p1012 q1012 h1012 => ?_))
            refine pt_d (pt_1 (fun n d => r_aloadn gx238_56 rfl) ?_)
            refine pt_d (pt_getR gx238_57 S tr_72_20 ?_)
            refine pt_d (pt_1 (fun n d => r_iloadn gx238_60 rfl) ?_)
            refine pt_d (pt_iald (N' := 300) gx238_61 S tl_87 z1 (fun v1014 p1014 q1014 h1014 => ?_))
            refine pt_d (pt_icmp_ne gx238_62 h1012 h1014 (fun e1015 => ?_) (fun e1015 => ?_))
            · skip
              exact ih238_137 h0 h x1 x2 x3 _ S G I
            · skip
              refine pt_d (pt_1 (fun n d => r_aloadn gx238_65 rfl) ?_)
              refine pt_d (pt_getR gx238_66 S tr_72_21 ?_)
              refine pt_d (pt_1 (fun n d => r_iloadn gx238_69 rfl) ?_)
              refine pt_d (pt_iald (N' := 300) gx238_70 S tl_88 z3 (fun v1017 p1017 q1017 h1017 => ?_))
              refine pt_d (pt_1 (fun n d => r_aloadn gx238_71 rfl) ?_)
              refine pt_d (pt_getR gx238_72 S tr_72_21 ?_)
              refine pt_d (pt_1 (fun n d => r_iloadn gx238_75 rfl) ?_)
              refine pt_d (pt_iald (N' := 300) gx238_76 S tl_88 z1 (fun v1019 p1019 q1019 h1019 => ?_))
              refine pt_d (pt_icmp_lt gx238_77 h1017 h1019 (fun e1020 => ?_) (fun e1020 => ?_))
              · skip
                refine pt_d (pt_iconst gx238_83 (fun v1021 h1021 => ?_))
                refine pt_d (pt_1 (fun n d => r_istore (L' := [some (.ref 72), some (.int x1), some (.int x2), some (.int x3), some (.int v1021), none]) gx238_84 rfl rfl) ?_)
                exact ih238_86 h0 h x1 x2 x3 v1021 S G I
              · skip
                refine pt_d (pt_1 (fun n d => r_goto gx238_80) ?_)
                exact ih238_137 h0 h x1 x2 x3 _ S G I
    · intro h0 h x1 x2 x3 x4 S G I
      obtain ⟨a1, z1⟩ : ∃ a : Int, x1.toInt = a := ⟨_, rfl⟩
      obtain ⟨a2, z2⟩ : ∃ a : Int, x2.toInt = a := ⟨_, rfl⟩
      obtain ⟨a3, z3⟩ : ∃ a : Int, x3.toInt = a := ⟨_, rfl⟩
      obtain ⟨a4, z4⟩ : ∃ a : Int, x4.toInt = a := ⟨_, rfl⟩
      refine pt_1 (fun n d => r_iload gx238_86 rfl) ?_
      refine pt_d (pt_sipush gx238_88 (fun v1001 h1001 => ?_))
      refine pt_d (pt_icmp_ge gx238_91 z4 h1001 (fun e1002 => ?_) (fun e1002 => ?_))
      · skip
        exact ih238_137 h0 h x1 x2 x3 _ S G I
      · skip
        refine pt_d (pt_1 (fun n d => r_aloadn gx238_94 rfl) ?_)
        refine pt_d (pt_getR gx238_95 S tr_72_47 ?_)
        refine pt_d (pt_1 (fun n d => r_iload gx238_98 rfl) ?_)
        refine pt_d (pt_1 (fun n d => r_aloadn gx238_100 rfl) ?_)
        refine pt_d (pt_getR gx238_101 S tr_72_47 ?_)
        refine pt_d (pt_1 (fun n d => r_iload gx238_104 rfl) ?_)
        refine pt_d (pt_zald (N' := 576) gx238_106 S tl_110 z4 (fun v1005 p1005 q1005 h1005 => ?_))
        refine pt_d (pt_if_ne gx238_107 h1005 (fun e1006 => ?_) (fun e1006 => ?_))
        · skip
          exact ih238_125 h0 h x1 x2 x3 x4 x4 S G I
        · skip
          refine pt_d (pt_1 (fun n d => r_aloadn gx238_110 rfl) ?_)
          refine pt_d (pt_1 (fun n d => r_aloadn gx238_111 rfl) ?_)
          refine pt_d (pt_getR gx238_112 S tr_72_21 ?_)
          refine pt_d (pt_1 (fun n d => r_iloadn gx238_115 rfl) ?_)
          refine pt_d (pt_iald (N' := 300) gx238_116 S tl_88 z3 (fun v1008 p1008 q1008 h1008 => ?_))
          refine pt_d (pt_1 (fun n d => r_iload gx238_117 rfl) ?_)
          refine pt_d (pt_virt (as := [.int v1008, .int x4]) (r := [.int x4, .ref 110]) gx238_119 rfl (show zmt[235]? = some zM235 from rfl) rfl rfl rfl rfl (c_235 S h1008 z4) (kqP (fun v1009 h1009 => ?_)))
          show Pt _ _ _ 122 _ [.int v1009, .int x4, .ref 110] _ _
          refine pt_d (pt_ifB_eq gx238_122 h1009 (fun e1010 => ?_) (fun e1010 => ?_))
          · skip
            refine pt_d (pt_iconst gx238_129 (fun v1011 h1011 => ?_))
            exact ih238_130 h0 h x1 x2 x3 x4 x4 v1011 S G I
          · skip
            exact ih238_125 h0 h x1 x2 x3 x4 x4 S G I
    · intro h0 h x1 x2 x3 x4 xs1 S G I
      obtain ⟨a1, z1⟩ : ∃ a : Int, x1.toInt = a := ⟨_, rfl⟩
      obtain ⟨a2, z2⟩ : ∃ a : Int, x2.toInt = a := ⟨_, rfl⟩
      obtain ⟨a3, z3⟩ : ∃ a : Int, x3.toInt = a := ⟨_, rfl⟩
      obtain ⟨a4, z4⟩ : ∃ a : Int, x4.toInt = a := ⟨_, rfl⟩
      obtain ⟨as1, zs1⟩ : ∃ a : Int, xs1.toInt = a := ⟨_, rfl⟩
      refine pt_iconst gx238_125 (fun v1001 h1001 => ?_)
      refine pt_d (pt_1 (fun n d => r_goto gx238_126) ?_)
      exact ih238_130 h0 h x1 x2 x3 x4 xs1 v1001 S G I
    · intro h0 h x1 x2 x3 x4 xs1 xs2 S G I
      obtain ⟨a1, z1⟩ : ∃ a : Int, x1.toInt = a := ⟨_, rfl⟩
      obtain ⟨a2, z2⟩ : ∃ a : Int, x2.toInt = a := ⟨_, rfl⟩
      obtain ⟨a3, z3⟩ : ∃ a : Int, x3.toInt = a := ⟨_, rfl⟩
      obtain ⟨a4, z4⟩ : ∃ a : Int, x4.toInt = a := ⟨_, rfl⟩
      obtain ⟨as1, zs1⟩ : ∃ a : Int, xs1.toInt = a := ⟨_, rfl⟩
      obtain ⟨as2, zs2⟩ : ∃ a : Int, xs2.toInt = a := ⟨_, rfl⟩
      refine pt_zasth (N' := 576) gx238_130 S tl_110 zs1 zs2 (fun h_1001 S1001 p1001 q1001 e1001 K1001 => ?_)
      have G1001 := hk_t G K1001
      have I1001 := TV_ua I K1001 e1001 (by decide)
      refine pt_d (pt_iinc (c := 1) gx238_131 rfl z4 (fun v1002 h1002 => ?_))
      show Pt _ _ _ _ [some (.ref 72), some (.int x1), some (.int x2), some (.int x3), some (.int v1002), none] [] _ _
      refine pt_d (pt_1 (fun n d => r_goto gx238_134) ?_)
      exact ih238_86 h0 h_1001 x1 x2 x3 v1002 S1001 G1001 I1001
    · intro h0 h x1 x2 x3 u4 S G I
      obtain ⟨a1, z1⟩ : ∃ a : Int, x1.toInt = a := ⟨_, rfl⟩
      obtain ⟨a2, z2⟩ : ∃ a : Int, x2.toInt = a := ⟨_, rfl⟩
      obtain ⟨a3, z3⟩ : ∃ a : Int, x3.toInt = a := ⟨_, rfl⟩
      refine pt_iinc (c := 1) gx238_137 rfl z3 (fun v1001 h1001 => ?_)
      show Pt _ _ _ _ [some (.ref 72), some (.int x1), some (.int x2), some (.int v1001), u4, none] [] _ _
      refine pt_d (pt_1 (fun n d => r_goto gx238_140) ?_)
      exact ih238_24 h0 h x1 x2 v1001 _ S G I
    · intro h0 h x1 x2 x3 x4 x5 S G I
      obtain ⟨a1, z1⟩ : ∃ a : Int, x1.toInt = a := ⟨_, rfl⟩
      obtain ⟨a2, z2⟩ : ∃ a : Int, x2.toInt = a := ⟨_, rfl⟩
      obtain ⟨a3, z3⟩ : ∃ a : Int, x3.toInt = a := ⟨_, rfl⟩
      obtain ⟨a4, z4⟩ : ∃ a : Int, x4.toInt = a := ⟨_, rfl⟩
      obtain ⟨a5, z5⟩ : ∃ a : Int, x5.toInt = a := ⟨_, rfl⟩
      refine pt_1 (fun n d => r_iload gx238_151 rfl) ?_
      refine pt_d (pt_sipush gx238_153 (fun v1001 h1001 => ?_))
      refine pt_d (pt_icmp_ge gx238_156 z5 h1001 (fun e1002 => ?_) (fun e1002 => ?_))
      · skip
        refine pt_d (pt_1 (fun n d => r_aloadn gx238_241 rfl) ?_)
        refine pt_d (pt_getR gx238_242 S tr_72_41 ?_)
        refine pt_d (pt_1 (fun n d => r_iloadn gx238_245 rfl) ?_)
        refine pt_d (pt_1 (fun n d => r_iloadn gx238_246 rfl) ?_)
        refine pt_d (pt_iasth (N' := 300) gx238_247 S tl_104 z1 z3 (fun h_1004 S1004 p1004 q1004 e1004 K1004 => ?_))
        have G1004 := hk_t G K1004
        have I1004 := TV_ua I K1004 e1004 (by decide)
        refine pt_d (pt_1 (fun n d => r_aloadn gx238_248 rfl) ?_)
        refine pt_d (pt_getR gx238_249 S1004 tr_72_43 ?_)
        refine pt_d (pt_1 (fun n d => r_iloadn gx238_252 rfl) ?_)
        refine pt_d (pt_1 (fun n d => r_iload gx238_253 rfl) ?_)
        refine pt_d (pt_iasth (N' := 300) gx238_255 S1004 tl_106 z1 z4 (fun h_1006 S1006 p1006 q1006 e1006 K1006 => ?_))
        have G1006 := hk_t G1004 K1006
        have I1006 := TV_ua I1004 K1006 e1006 (by decide)
        exact pt_d (pt_vret gx238_256 ⟨rfl, S1006, G1006, I1006⟩)
      · skip
        refine pt_d (pt_1 (fun n d => r_aloadn gx238_159 rfl) ?_)
        refine pt_d (pt_1 (fun n d => r_aloadn gx238_160 rfl) ?_)
        refine pt_d (pt_getR gx238_161 S tr_72_21 ?_)
        refine pt_d (pt_1 (fun n d => r_iloadn gx238_164 rfl) ?_)
        refine pt_d (pt_iald (N' := 300) gx238_165 S tl_88 z1 (fun v1008 p1008 q1008 h1008 => ?_))
        refine pt_d (pt_1 (fun n d => r_iload gx238_166 rfl) ?_)
        refine pt_d (pt_virt (as := [.int v1008, .int x5]) (r := []) gx238_168 rfl (show zmt[235]? = some zM235 from rfl) rfl rfl rfl rfl (c_235 S h1008 z5) (kqP (fun v1009 h1009 => ?_)))
        show Pt _ _ _ 171 _ [.int v1009] _ _
        refine pt_d (pt_ifB_ne gx238_171 h1009 (fun e1010 => ?_) (fun e1010 => ?_))
        · skip
          refine pt_d (pt_1 (fun n d => r_iload gx238_177 rfl) ?_)
          refine pt_d (pt_1 (fun n d => r_aloadn gx238_179 rfl) ?_)
          refine pt_d (pt_getR gx238_180 S tr_72_45 ?_)
          refine pt_d (pt_1 (fun n d => r_iload gx238_183 rfl) ?_)
          refine pt_d (pt_zald (N' := 576) gx238_185 S tl_108 z5 (fun v1012 p1012 q1012 h1012 => ?_))
          refine pt_d (pt_if_eq gx238_186 h1012 (fun e1013 => ?_) (fun e1013 => ?_))
          · skip
            refine pt_d (pt_iconst gx238_193 (fun v1014 h1014 => ?_))
            exact ih238_194 h0 h x1 x2 x3 x4 x5 x4 v1014 S G I
          · skip
            refine pt_d (pt_iconst gx238_189 (fun v1015 h1015 => ?_))
            refine pt_d (pt_1 (fun n d => r_goto gx238_190) ?_)
            exact ih238_194 h0 h x1 x2 x3 x4 x5 x4 v1015 S G I
        · skip
          refine pt_d (pt_1 (fun n d => r_goto gx238_174) ?_)
          exact ih238_235 h0 h x1 x2 x3 x4 x5 S G I
    · intro h0 h x1 x2 x3 x4 x5 xs0 xs1 S G I
      obtain ⟨a1, z1⟩ : ∃ a : Int, x1.toInt = a := ⟨_, rfl⟩
      obtain ⟨a2, z2⟩ : ∃ a : Int, x2.toInt = a := ⟨_, rfl⟩
      obtain ⟨a3, z3⟩ : ∃ a : Int, x3.toInt = a := ⟨_, rfl⟩
      obtain ⟨a4, z4⟩ : ∃ a : Int, x4.toInt = a := ⟨_, rfl⟩
      obtain ⟨a5, z5⟩ : ∃ a : Int, x5.toInt = a := ⟨_, rfl⟩
      obtain ⟨as0, zs0⟩ : ∃ a : Int, xs0.toInt = a := ⟨_, rfl⟩
      obtain ⟨as1, zs1⟩ : ∃ a : Int, xs1.toInt = a := ⟨_, rfl⟩
      refine pt_iadd gx238_194 zs0 zs1 (fun v1001 h1001 => ?_)
      refine pt_d (pt_1 (fun n d => r_istore (L' := [some (.ref 72), some (.int x1), some (.int x2), some (.int x3), some (.int v1001), some (.int x5)]) gx238_195 rfl rfl) ?_)
      refine pt_d (pt_1 (fun n d => r_iloadn gx238_197 rfl) ?_)
      refine pt_d (pt_1 (fun n d => r_aloadn gx238_198 rfl) ?_)
      refine pt_d (pt_getR gx238_199 S tr_72_45 ?_)
      refine pt_d (pt_1 (fun n d => r_iload gx238_202 rfl) ?_)
      refine pt_d (pt_zald (N' := 576) gx238_204 S tl_108 z5 (fun v1003 p1003 q1003 h1003 => ?_))
      refine pt_d (pt_if_ne gx238_205 h1003 (fun e1004 => ?_) (fun e1004 => ?_))
      · skip
        exact ih238_228 h0 h x1 x2 x3 v1001 x5 x3 S G I
      · skip
        refine pt_d (pt_1 (fun n d => r_aloadn gx238_208 rfl) ?_)
        refine pt_d (pt_getR gx238_209 S tr_72_46 ?_)
        refine pt_d (pt_1 (fun n d => r_iload gx238_212 rfl) ?_)
        refine pt_d (pt_zald (N' := 576) gx238_214 S tl_109 z5 (fun v1006 p1006 q1006 h1006 => ?_))
        refine pt_d (pt_if_ne gx238_215 h1006 (fun e1007 => ?_) (fun e1007 => ?_))
        · skip
          exact ih238_228 h0 h x1 x2 x3 v1001 x5 x3 S G I
        · skip
          refine pt_d (pt_1 (fun n d => r_aloadn gx238_218 rfl) ?_)
          refine pt_d (pt_getR gx238_219 S tr_72_47 ?_)
          refine pt_d (pt_1 (fun n d => r_iload gx238_222 rfl) ?_)
          refine pt_d (pt_zald (N' := 576) gx238_224 S tl_110 z5 (fun v1009 p1009 q1009 h1009 => ?_))
          refine pt_d (pt_if_eq gx238_225 h1009 (fun e1010 => ?_) (fun e1010 => ?_))
          · skip
            refine pt_d (pt_iconst gx238_232 (fun v1011 h1011 => ?_))
            exact ih238_233 h0 h x1 x2 x3 v1001 x5 x3 v1011 S G I
          · skip
            exact ih238_228 h0 h x1 x2 x3 v1001 x5 x3 S G I
    · intro h0 h x1 x2 x3 x4 x5 xs0 S G I
      obtain ⟨a1, z1⟩ : ∃ a : Int, x1.toInt = a := ⟨_, rfl⟩
      obtain ⟨a2, z2⟩ : ∃ a : Int, x2.toInt = a := ⟨_, rfl⟩
      obtain ⟨a3, z3⟩ : ∃ a : Int, x3.toInt = a := ⟨_, rfl⟩
      obtain ⟨a4, z4⟩ : ∃ a : Int, x4.toInt = a := ⟨_, rfl⟩
      obtain ⟨a5, z5⟩ : ∃ a : Int, x5.toInt = a := ⟨_, rfl⟩
      obtain ⟨as0, zs0⟩ : ∃ a : Int, xs0.toInt = a := ⟨_, rfl⟩
      refine pt_iconst gx238_228 (fun v1001 h1001 => ?_)
      refine pt_d (pt_1 (fun n d => r_goto gx238_229) ?_)
      exact ih238_233 h0 h x1 x2 x3 x4 x5 xs0 v1001 S G I
    · intro h0 h x1 x2 x3 x4 x5 xs0 xs1 S G I
      obtain ⟨a1, z1⟩ : ∃ a : Int, x1.toInt = a := ⟨_, rfl⟩
      obtain ⟨a2, z2⟩ : ∃ a : Int, x2.toInt = a := ⟨_, rfl⟩
      obtain ⟨a3, z3⟩ : ∃ a : Int, x3.toInt = a := ⟨_, rfl⟩
      obtain ⟨a4, z4⟩ : ∃ a : Int, x4.toInt = a := ⟨_, rfl⟩
      obtain ⟨a5, z5⟩ : ∃ a : Int, x5.toInt = a := ⟨_, rfl⟩
      obtain ⟨as0, zs0⟩ : ∃ a : Int, xs0.toInt = a := ⟨_, rfl⟩
      obtain ⟨as1, zs1⟩ : ∃ a : Int, xs1.toInt = a := ⟨_, rfl⟩
      refine pt_iadd gx238_233 zs0 zs1 (fun v1001 h1001 => ?_)
      refine pt_d (pt_1 (fun n d => r_istoren (L' := [some (.ref 72), some (.int x1), some (.int x2), some (.int v1001), some (.int x4), some (.int x5)]) gx238_234 rfl rfl) ?_)
      exact ih238_235 h0 h x1 x2 v1001 x4 x5 S G I
    · intro h0 h x1 x2 x3 x4 x5 S G I
      obtain ⟨a1, z1⟩ : ∃ a : Int, x1.toInt = a := ⟨_, rfl⟩
      obtain ⟨a2, z2⟩ : ∃ a : Int, x2.toInt = a := ⟨_, rfl⟩
      obtain ⟨a3, z3⟩ : ∃ a : Int, x3.toInt = a := ⟨_, rfl⟩
      obtain ⟨a4, z4⟩ : ∃ a : Int, x4.toInt = a := ⟨_, rfl⟩
      obtain ⟨a5, z5⟩ : ∃ a : Int, x5.toInt = a := ⟨_, rfl⟩
      refine pt_iinc (c := 1) gx238_235 rfl z5 (fun v1001 h1001 => ?_)
      show Pt _ _ _ _ [some (.ref 72), some (.int x1), some (.int x2), some (.int x3), some (.int x4), some (.int v1001)] [] _ _
      refine pt_d (pt_1 (fun n d => r_goto gx238_238) ?_)
      exact ih238_151 h0 h x1 x2 x3 x4 v1001 S G I
theorem uk_238 {n : Nat} {X : aX} {h : aH} {x1 : Int32} {x2 : Int32} {a1 : Int} {a2 : Int} (S : wS h) (z1 : x1.toInt = a1) (z2 : x2.toInt = a2) (I : TV h) : Pt n X zM238 0 [some (.ref 72), some (.int x1), some (.int x2), none, none, none] [] h (qN (fun h' => wS h' ∧ hk h h' ∧ TV h')) := (ul_238 n).1 h h x1 x2 S (hk_r h) I
theorem ul_239 {X : aX} : ∀ n : Nat, (∀ (h0 h : aH) (x1 : Int32), wS h → hk h0 h → TV h → Pt n X zM239 0 [some (.ref 72), some (.int x1), none, none, none] [] h (qN (fun h' => wS h' ∧ hk h0 h' ∧ TV h'))) ∧
    (∀ (h0 h : aH) (x1 : Int32), wS h → hk h0 h → TV h → Pt n X zM239 16 [some (.ref 72), some (.int x1), none, none, none] [] h (qN (fun h' => wS h' ∧ hk h0 h' ∧ TV h'))) ∧
    (∀ (h0 h : aH) (x1 : Int32) (x2 : Int32), wS h → hk h0 h → TV h → Pt n X zM239 28 [some (.ref 72), some (.int x1), some (.int x2), none, none] [] h (qN (fun h' => wS h' ∧ hk h0 h' ∧ TV h'))) ∧
    (∀ (h0 h : aH) (x1 : Int32) (x2 : Int32) (u3 : Option Value) (u4 : Option Value), wS h → hk h0 h → TV h → Pt n X zM239 56 [some (.ref 72), some (.int x1), some (.int x2), u3, u4] [] h (qN (fun h' => wS h' ∧ hk h0 h' ∧ TV h'))) ∧
    (∀ (h0 h : aH) (x1 : Int32) (x2 : Int32) (x3 : Int32) (u4 : Option Value), wS h → hk h0 h → TV h → Pt n X zM239 70 [some (.ref 72), some (.int x1), some (.int x2), some (.int x3), u4] [] h (qN (fun h' => wS h' ∧ hk h0 h' ∧ TV h'))) ∧
    (∀ (h0 h : aH) (x1 : Int32) (x2 : Int32) (x3 : Int32) (x4 : Int32) (xs1 : Int32) (xs2 : Int32), wS h → hk h0 h → TV h → Pt n X zM239 136 [some (.ref 72), some (.int x1), some (.int x2), some (.int x3), some (.int x4)] [.int xs2, .int xs1, .ref 105] h (qN (fun h' => wS h' ∧ hk h0 h' ∧ TV h'))) ∧
    (∀ (h0 h : aH) (x1 : Int32) (x2 : Int32) (x3 : Int32) (u4 : Option Value), wS h → hk h0 h → TV h → Pt n X zM239 137 [some (.ref 72), some (.int x1), some (.int x2), some (.int x3), u4] [] h (qN (fun h' => wS h' ∧ hk h0 h' ∧ TV h'))) := by
  intro n
  induction n with
  | zero => refine ⟨?_, ?_, ?_, ?_, ?_, ?_, ?_⟩ <;> (intros; exact pt_z)
  | succ n ih =>
    obtain ⟨ih239_0, ih239_16, ih239_28, ih239_56, ih239_70, ih239_136, ih239_137⟩ := ih
    refine ⟨?_, ?_, ?_, ?_, ?_, ?_, ?_⟩
    · intro h0 h x1 S G I
      obtain ⟨a1, z1⟩ : ∃ a : Int, x1.toInt = a := ⟨_, rfl⟩
      refine pt_1 (fun n d => r_aloadn gx239_0 rfl) ?_
      refine pt_d (pt_getI (B := 38) gx239_1 S (fun v1001 h1001 => ?_))
      refine pt_d (pt_if_ne gx239_4 h1001 (fun e1002 => ?_) (fun e1002 => ?_))
      · skip
        exact ih239_16 h0 h x1 S G I
      · skip
        refine pt_d (pt_1 (fun n d => r_aloadn gx239_7 rfl) ?_)
        refine pt_d (pt_getI (B := 39) gx239_8 S (fun v1003 h1003 => ?_))
        refine pt_d (pt_1 (fun n d => r_iloadn gx239_11 rfl) ?_)
        refine pt_d (pt_icmp_ne gx239_12 h1003 z1 (fun e1004 => ?_) (fun e1004 => ?_))
        · skip
          exact ih239_16 h0 h x1 S G I
        · skip
          exact pt_d (pt_vret gx239_15 ⟨rfl, S, G, I⟩)
    · intro h0 h x1 S G I
      obtain ⟨a1, z1⟩ : ∃ a : Int, x1.toInt = a := ⟨_, rfl⟩
      refine pt_1 (fun n d => r_aloadn gx239_16 rfl) ?_
      refine pt_d (pt_iconst gx239_17 (fun v1001 h1001 => ?_))
      refine pt_d (pt_putIh (B := 38) gx239_18 S h1001 (fun h_1002 S1002 e1002 K1002 => ?_))
      have G1002 := hk_t G K1002
      have I1002 := TV_uf I K1002 e1002 (by decide)
      refine pt_d (pt_1 (fun n d => r_aloadn gx239_21 rfl) ?_)
      refine pt_d (pt_1 (fun n d => r_iloadn gx239_22 rfl) ?_)
      refine pt_d (pt_putIh (B := 39) gx239_23 S1002 z1 (fun h_1003 S1003 e1003 K1003 => ?_))
      have G1003 := hk_t G1002 K1003
      have I1003 := TV_uf I1002 K1003 e1003 (by decide)
      refine pt_d (pt_iconst gx239_26 (fun v1004 h1004 => ?_))
      refine pt_d (pt_1 (fun n d => r_istoren (L' := [some (.ref 72), some (.int x1), some (.int v1004), none, none]) gx239_27 rfl rfl) ?_)
      exact ih239_28 h0 h_1003 x1 v1004 S1003 G1003 I1003
    · intro h0 h x1 x2 S G I
      obtain ⟨a1, z1⟩ : ∃ a : Int, x1.toInt = a := ⟨_, rfl⟩
      obtain ⟨a2, z2⟩ : ∃ a : Int, x2.toInt = a := ⟨_, rfl⟩
      refine pt_1 (fun n d => r_iloadn gx239_28 rfl) ?_
      refine pt_d (pt_1 (fun n d => r_aloadn gx239_29 rfl) ?_)
      refine pt_d (pt_getI (B := 19) gx239_30 S (fun v1001 h1001 => ?_))
      refine pt_d (pt_icmp_ge gx239_33 z2 h1001 (fun e1002 => ?_) (fun e1002 => ?_))
      · skip
        refine pt_d (pt_iconst gx239_54 (fun v1003 h1003 => ?_))
        refine pt_d (pt_1 (fun n d => r_istoren (L' := [some (.ref 72), some (.int x1), some (.int v1003), none, none]) gx239_55 rfl rfl) ?_)
        exact ih239_56 h0 h x1 v1003 _ _ S G I
      · skip
        refine pt_d (pt_1 (fun n d => r_aloadn gx239_36 rfl) ?_)
        refine pt_d (pt_getR gx239_37 S tr_72_40 ?_)
        refine pt_d (pt_1 (fun n d => r_iloadn gx239_40 rfl) ?_)
        refine pt_d (pt_1 (fun n d => r_aloadn gx239_41 rfl) ?_)
        refine pt_d (pt_1 (fun n d => r_iloadn gx239_42 rfl) ?_)
        refine pt_d (pt_1 (fun n d => r_iloadn gx239_43 rfl) ?_)
        refine pt_d (pt_virt (as := [.int x2, .int x1]) (r := [.int x2, .ref 103]) gx239_44 rfl (show zmt[234]? = some zM234 from rfl) rfl rfl rfl rfl (uk_234 S z2 z1 I) (kqI (fun v1005 y1005 h_1005 h1005 P1005 => ?_)))
        have S1005 := P1005.1
        have G1005 := hk_t G P1005.2.1
        have I1005 := P1005.2.2
        show Pt _ _ _ 47 _ [.int v1005, .int x2, .ref 103] _ _
        refine pt_d (pt_zasth (N' := 300) gx239_47 S1005 tl_103 z2 h1005 (fun h_1006 S1006 p1006 q1006 e1006 K1006 => ?_))
        have G1006 := hk_t G1005 K1006
        have I1006 := TV_ua I1005 K1006 e1006 (by decide)
        refine pt_d (pt_iinc (c := 1) gx239_48 rfl z2 (fun v1007 h1007 => ?_))
        show Pt _ _ _ _ [some (.ref 72), some (.int x1), some (.int v1007), none, none] [] _ _
        refine pt_d (pt_1 (fun n d => r_goto gx239_51) ?_)
        exact ih239_28 h0 h_1006 x1 v1007 S1006 G1006 I1006
    · intro h0 h x1 x2 u3 u4 S G I
      obtain ⟨a1, z1⟩ : ∃ a : Int, x1.toInt = a := ⟨_, rfl⟩
      obtain ⟨a2, z2⟩ : ∃ a : Int, x2.toInt = a := ⟨_, rfl⟩
      refine pt_1 (fun n d => r_iloadn gx239_56 rfl) ?_
      refine pt_d (pt_bipush gx239_57 (fun v1001 h1001 => ?_))
      refine pt_d (pt_icmp_ge gx239_59 z2 h1001 (fun e1002 => ?_) (fun e1002 => ?_))
      · skip
        exact pt_d (pt_vret gx239_149 ⟨rfl, S, G, I⟩)
      · skip
        refine pt_d (pt_1 (fun n d => r_aloadn gx239_62 rfl) ?_)
        refine pt_d (pt_1 (fun n d => r_iloadn gx239_63 rfl) ?_)
        refine pt_d (pt_1 (fun n d => r_iloadn gx239_64 rfl) ?_)
        refine pt_d (pt_virt (as := [.int x2, .int x1]) (r := []) gx239_65 rfl (show zmt[236]? = some zM236 from rfl) rfl rfl rfl rfl (uk_236 S z2 z1 I) (kqN (fun h_1003 P1003 => ?_)))
        have S1003 := P1003.1
        have G1003 := hk_t G P1003.2.1
        have I1003 := P1003.2.2
        show Pt _ _ _ 68 _ [] _ _
        refine pt_d (pt_iconst gx239_68 (fun v1004 h1004 => ?_))
        refine pt_d (pt_1 (fun n d => r_istoren (L' := [some (.ref 72), some (.int x1), some (.int x2), some (.int v1004), u4]) gx239_69 rfl rfl) ?_)
        exact ih239_70 h0 h_1003 x1 x2 v1004 _ S1003 G1003 I1003
    · intro h0 h x1 x2 x3 u4 S G I
      obtain ⟨a1, z1⟩ : ∃ a : Int, x1.toInt = a := ⟨_, rfl⟩
      obtain ⟨a2, z2⟩ : ∃ a : Int, x2.toInt = a := ⟨_, rfl⟩
      obtain ⟨a3, z3⟩ : ∃ a : Int, x3.toInt = a := ⟨_, rfl⟩
      refine pt_1 (fun n d => r_iloadn gx239_70 rfl) ?_
      refine pt_d (pt_1 (fun n d => r_aloadn gx239_71 rfl) ?_)
      refine pt_d (pt_getI (B := 19) gx239_72 S (fun v1001 h1001 => ?_))
      refine pt_d (pt_icmp_ge gx239_75 z3 h1001 (fun e1002 => ?_) (fun e1002 => ?_))
      · skip
        refine pt_d (pt_iinc (c := 1) gx239_143 rfl z2 (fun v1003 h1003 => ?_))
        show Pt _ _ _ _ [some (.ref 72), some (.int x1), some (.int v1003), some (.int x3), u4] [] _ _
        refine pt_d (pt_1 (fun n d => r_goto gx239_146) ?_)
        exact ih239_56 h0 h x1 v1003 _ _ S G I
      · skip
        refine pt_d (pt_1 (fun n d => r_aloadn gx239_78 rfl) ?_)
        refine pt_d (pt_getR gx239_79 S tr_72_40 ?_)
        refine pt_d (pt_1 (fun n d => r_iloadn gx239_82 rfl) ?_)
        refine pt_d (pt_zald (N' := 300) gx239_83 S tl_103 z3 (fun v1005 p1005 q1005 h1005 => ?_))
        refine pt_d (pt_if_eq gx239_84 h1005 (fun e1006 => ?_) (fun e1006 => ?_))
        · skip
          exact ih239_137 h0 h x1 x2 x3 _ S G I
        · skip
          refine pt_d (pt_1 (fun n d => r_aloadn gx239_87 rfl) ?_)
          refine pt_d (pt_1 (fun n d => r_iloadn gx239_88 rfl) ?_)
          refine pt_d (pt_virt (as := [.int x3]) (r := []) gx239_89 rfl (show zmt[229]? = some zM229 from rfl) rfl rfl rfl rfl (c_229 S z3) (kqP (fun v1007 h1007 => ?_)))
          show Pt _ _ _ 92 _ [.int v1007] _ _
          refine pt_d (pt_1 (fun n d => r_iloadn gx239_92 rfl) ?_)
          refine pt_d (pt_icmp_eq gx239_93 h1007 z2 (fun e1008 => ?_) (fun e1008 => ?_))
          · skip
            refine pt_d (pt_1 (fun n d => r_aloadn gx239_99 rfl) ?_)
            refine pt_d (pt_1 (fun n d => r_iloadn gx239_100 rfl) ?_)
            refine pt_d (pt_1 (fun n d => r_iloadn gx239_101 rfl) ?_)
            refine pt_d (pt_virt (as := [.int x3, .int x2]) (r := []) gx239_102 rfl (show zmt[238]? = some zM238 from rfl) rfl rfl rfl rfl (uk_238 S z3 z2 I) (kqN (fun h_1009 P1009 => ?_)))
            have S1009 := P1009.1
            have G1009 := hk_t G P1009.2.1
            have I1009 := P1009.2.2
            show Pt _ _ _ 105 _ [] _ _
            refine pt_d (pt_1 (fun n d => r_aloadn gx239_105 rfl) ?_)
            refine pt_d (pt_getR gx239_106 S1009 tr_72_41 ?_)
            refine pt_d (pt_1 (fun n d => r_iloadn gx239_109 rfl) ?_)
            refine pt_d (pt_iald (N' := 300) gx239_110 S1009 tl_104 z3 (fun v1011 p1011 q1011 h1011 => ?_))
            refine pt_d (pt_1 (fun n d => r_aloadn gx239_111 rfl) ?_)
            refine pt_d (pt_1 (fun n d => r_iloadn gx239_112 rfl) ?_)
            refine pt_d (pt_1 (fun n d => r_iloadn gx239_113 rfl) ?_)
            refine pt_d (pt_virt (as := [.int x3, .int x1]) (r := [.int v1011]) gx239_114 rfl (show zmt[237]? = some zM237 from rfl) rfl rfl rfl rfl (uk_237 S1009 z3 z1 I1009) (kqI (fun v1012 y1012 h_1012 h1012 P1012 => ?_)))
            have S1012 := P1012.1
            have G1012 := hk_t G1009 P1012.2.1
            have I1012 := P1012.2.2
            show Pt _ _ _ 117 _ [.int v1012, .int v1011] _ _
            refine pt_d (pt_isub gx239_117 h1011 h1012 (fun v1013 h1013 => ?_))
            refine pt_d (pt_1 (fun n d => r_istore (L' := [some (.ref 72), some (.int x1), some (.int x2), some (.int x3), some (.int v1013)]) gx239_118 rfl rfl) ?_)
            refine pt_d (pt_1 (fun n d => r_aloadn gx239_120 rfl) ?_)
            refine pt_d (pt_getR gx239_121 S1012 tr_72_42 ?_)
            refine pt_d (pt_1 (fun n d => r_iloadn gx239_124 rfl) ?_)
            refine pt_d (pt_1 (fun n d => r_iload gx239_125 rfl) ?_)
            refine pt_d (pt_if_ge gx239_127 h1013 (fun e1015 => ?_) (fun e1015 => ?_))
            · skip
              refine pt_d (pt_1 (fun n d => r_iload gx239_134 rfl) ?_)
              exact ih239_136 h0 h_1012 x1 x2 x3 v1013 x3 v1013 S1012 G1012 I1012
            · skip
              refine pt_d (pt_iconst gx239_130 (fun v1016 h1016 => ?_))
              refine pt_d (pt_1 (fun n d => r_goto gx239_131) ?_)
              exact ih239_136 h0 h_1012 x1 x2 x3 v1013 x3 v1016 S1012 G1012 I1012
          · skip
            refine pt_d (pt_1 (fun n d => r_goto gx239_96) ?_)
            exact ih239_137 h0 h x1 x2 x3 _ S G I
    · intro h0 h x1 x2 x3 x4 xs1 xs2 S G I
      obtain ⟨a1, z1⟩ : ∃ a : Int, x1.toInt = a := ⟨_, rfl⟩
      obtain ⟨a2, z2⟩ : ∃ a : Int, x2.toInt = a := ⟨_, rfl⟩
      obtain ⟨a3, z3⟩ : ∃ a : Int, x3.toInt = a := ⟨_, rfl⟩
      obtain ⟨a4, z4⟩ : ∃ a : Int, x4.toInt = a := ⟨_, rfl⟩
      obtain ⟨as1, zs1⟩ : ∃ a : Int, xs1.toInt = a := ⟨_, rfl⟩
      obtain ⟨as2, zs2⟩ : ∃ a : Int, xs2.toInt = a := ⟨_, rfl⟩
      refine pt_iasth (N' := 300) gx239_136 S tl_105 zs1 zs2 (fun h_1001 S1001 p1001 q1001 e1001 K1001 => ?_)
      have G1001 := hk_t G K1001
      have I1001 := TV_ua I K1001 e1001 (by decide)
      exact ih239_137 h0 h_1001 x1 x2 x3 _ S1001 G1001 I1001
    · intro h0 h x1 x2 x3 u4 S G I
      obtain ⟨a1, z1⟩ : ∃ a : Int, x1.toInt = a := ⟨_, rfl⟩
      obtain ⟨a2, z2⟩ : ∃ a : Int, x2.toInt = a := ⟨_, rfl⟩
      obtain ⟨a3, z3⟩ : ∃ a : Int, x3.toInt = a := ⟨_, rfl⟩
      refine pt_iinc (c := 1) gx239_137 rfl z3 (fun v1001 h1001 => ?_)
      show Pt _ _ _ _ [some (.ref 72), some (.int x1), some (.int x2), some (.int v1001), u4] [] _ _
      refine pt_d (pt_1 (fun n d => r_goto gx239_140) ?_)
      exact ih239_70 h0 h x1 x2 v1001 _ S G I
theorem uk_239 {n : Nat} {X : aX} {h : aH} {x1 : Int32} {a1 : Int} (S : wS h) (z1 : x1.toInt = a1) (I : TV h) : Pt n X zM239 0 [some (.ref 72), some (.int x1), none, none, none] [] h (qN (fun h' => wS h' ∧ hk h h' ∧ TV h')) := (ul_239 n).1 h h x1 S (hk_r h) I
theorem IV_239 {h h' : aH} {k : Int} (I : IV h) (K : hk h h') (R : R239 (vw h) k (vw h')) : IV h' := by
  obtain ⟨a, b, c, ⟨d1, d2, d3, d4, -⟩⟩ := I
  have A := R.1.1
  have e1 : ∀ (c : Nat) j, c < 33 → vw h' c j = vw h c j := fun c j z => A c j (Or.inl (by omega)) (Or.inl (by omega))
  have e2 : ∀ j, vw h' 42 j = vw h 42 j := fun j => A 42 j (Or.inl (by decide)) (Or.inl (by decide))
  refine ⟨pbK_c a e1, fun y y0 y9 q e => ?_, fun y y' hy hy' n q q' e e' => c y y' hy hy' n q q' ((e2 y).symm.trans e) ((e2 y').symm.trans e'), ?_⟩
  · have s := b y y0 y9 q ((e2 y).symm.trans e)
    have := s.1
    exact sea_c s K e1 (fun c j u _ => A c j (Or.inr (by omega)) (Or.inl (by omega)))
  · exact ⟨by rw [agR_y A (by decide) (by decide)]; exact d1, by rw [agR_y A (by decide) (by decide)]; exact d2, by rw [agR_y A (by decide) (by decide)]; exact d3, fun c u v => by rw [agR_x A 87 c (by decide) (by decide)]; exact d4 c u v, rOK_R R⟩
theorem wk_239 {n : Nat} {X : aX} {h : aH} {x1 : Int32} {a1 : Int} (S : wS h) (z1 : x1.toInt = a1) (I : IV h) : Pt n X zM239 0 [some (.ref 72), some (.int x1), none, none, none] [] h (qN (fun h' => wS h' ∧ hk h h' ∧ IV h')) := by
  intro m hm d v h' e
  obtain ⟨ev, S', R⟩ := c_239 S z1 I.2.2.2 m hm d v h' e
  obtain ⟨-, -, K, -⟩ := uk_239 S z1 trivial m hm d v h' e
  exact ⟨ev, S', K, IV_239 I K R⟩

-- ===== 82s.plots: 3 texts =====
section
-- ===== plot and colour on both sides =====
theorem f40_0 : aF 0 zM40.2.2.2.2.2.2.2 = some (0, (.iload_n 1), 1, 0, 0) := by decide +kernel
theorem f40_1 : aF 1 zM40.2.2.2.2.2.2.2 = some (1, (.bipush 6), 2, 0, 0) := by decide +kernel
theorem f40_3 : aF 3 zM40.2.2.2.2.2.2.2 = some (3, .imul, 1, 0, 0) := by decide +kernel
theorem f40_4 : aF 4 zM40.2.2.2.2.2.2.2 = some (4, (.iload_n 2), 1, 0, 0) := by decide +kernel
theorem f40_5 : aF 5 zM40.2.2.2.2.2.2.2 = some (5, .iadd, 1, 0, 0) := by decide +kernel
theorem f40_6 : aF 6 zM40.2.2.2.2.2.2.2 = some (6, (.istore 4), 2, 0, 0) := by decide +kernel
theorem f40_8 : aF 8 zM40.2.2.2.2.2.2.2 = some (8, (.aload_n 0), 1, 0, 0) := by decide +kernel
theorem f40_9 : aF 9 zM40.2.2.2.2.2.2.2 = some (9, (.getfield 9), 3, 3, 0) := by decide +kernel
theorem f40_12 : aF 12 zM40.2.2.2.2.2.2.2 = some (12, (.iload 4), 2, 0, 0) := by decide +kernel
theorem f40_14 : aF 14 zM40.2.2.2.2.2.2.2 = some (14, .iaload, 1, 0, 0) := by decide +kernel
theorem f40_15 : aF 15 zM40.2.2.2.2.2.2.2 = some (15, (.istore 5), 2, 0, 0) := by decide +kernel
theorem f40_17 : aF 17 zM40.2.2.2.2.2.2.2 = some (17, (.aload_n 0), 1, 0, 0) := by decide +kernel
theorem f40_18 : aF 18 zM40.2.2.2.2.2.2.2 = some (18, (.getfield 9), 3, 3, 0) := by decide +kernel
theorem f40_21 : aF 21 zM40.2.2.2.2.2.2.2 = some (21, (.iload 4), 2, 0, 0) := by decide +kernel
theorem f40_23 : aF 23 zM40.2.2.2.2.2.2.2 = some (23, (.iload_n 3), 1, 0, 0) := by decide +kernel
theorem f40_24 : aF 24 zM40.2.2.2.2.2.2.2 = some (24, .iastore, 1, 0, 0) := by decide +kernel
theorem f40_25 : aF 25 zM40.2.2.2.2.2.2.2 = some (25, (.iload 5), 2, 0, 0) := by decide +kernel
theorem f40_27 : aF 27 zM40.2.2.2.2.2.2.2 = some (27, .ireturn, 1, 0, 0) := by decide +kernel
theorem f45_0 : aF 0 zM45.2.2.2.2.2.2.2 = some (0, (.aload_n 0), 1, 0, 0) := by decide +kernel
theorem f45_1 : aF 1 zM45.2.2.2.2.2.2.2 = some (1, (.getfield 33), 3, 4, 1) := by decide +kernel
theorem f45_4 : aF 4 zM45.2.2.2.2.2.2.2 = some (4, (.bipush 6), 2, 0, 0) := by decide +kernel
theorem f45_6 : aF 6 zM45.2.2.2.2.2.2.2 = some (6, (.if_icmp .ge 23), 3, 29, 0) := by decide +kernel
theorem f45_9 : aF 9 zM45.2.2.2.2.2.2.2 = some (9, (.aload_n 0), 1, 0, 0) := by decide +kernel
theorem f45_10 : aF 10 zM45.2.2.2.2.2.2.2 = some (10, (.getfield 9), 3, 4, 0) := by decide +kernel
theorem f45_13 : aF 13 zM45.2.2.2.2.2.2.2 = some (13, (.aload_n 0), 1, 0, 0) := by decide +kernel
theorem f45_14 : aF 14 zM45.2.2.2.2.2.2.2 = some (14, (.getfield 33), 3, 4, 1) := by decide +kernel
theorem f45_17 : aF 17 zM45.2.2.2.2.2.2.2 = some (17, (.iload_n 1), 1, 0, 0) := by decide +kernel
theorem f45_18 : aF 18 zM45.2.2.2.2.2.2.2 = some (18, .iastore, 1, 0, 0) := by decide +kernel
theorem f45_19 : aF 19 zM45.2.2.2.2.2.2.2 = some (19, (.aload_n 0), 1, 0, 0) := by decide +kernel
theorem f45_20 : aF 20 zM45.2.2.2.2.2.2.2 = some (20, .dup, 1, 0, 0) := by decide +kernel
theorem f45_21 : aF 21 zM45.2.2.2.2.2.2.2 = some (21, (.getfield 33), 3, 4, 1) := by decide +kernel
theorem f45_24 : aF 24 zM45.2.2.2.2.2.2.2 = some (24, (.iconst 1), 1, 0, 0) := by decide +kernel
theorem f45_25 : aF 25 zM45.2.2.2.2.2.2.2 = some (25, .iadd, 1, 0, 0) := by decide +kernel
theorem f45_26 : aF 26 zM45.2.2.2.2.2.2.2 = some (26, (.putfield 33), 3, 4, 1) := by decide +kernel
theorem f45_29 : aF 29 zM45.2.2.2.2.2.2.2 = some (29, (.aload_n 0), 1, 0, 0) := by decide +kernel
theorem f45_30 : aF 30 zM45.2.2.2.2.2.2.2 = some (30, (.getfield 33), 3, 4, 1) := by decide +kernel
theorem f45_33 : aF 33 zM45.2.2.2.2.2.2.2 = some (33, .ireturn, 1, 0, 0) := by decide +kernel
theorem f163_0 : aF 0 zM163.2.2.2.2.2.2.2 = some (0, (.iload_n 1), 1, 0, 0) := by decide +kernel
theorem f163_1 : aF 1 zM163.2.2.2.2.2.2.2 = some (1, (.invokestatic 173), 3, 141, 0) := by decide +kernel
theorem f163_4 : aF 4 zM163.2.2.2.2.2.2.2 = some (4, (.ifCond .eq 22), 3, 26, 0) := by decide +kernel
theorem f163_7 : aF 7 zM163.2.2.2.2.2.2.2 = some (7, (.iload_n 2), 1, 0, 0) := by decide +kernel
theorem f163_8 : aF 8 zM163.2.2.2.2.2.2.2 = some (8, (.iconst 0), 1, 0, 0) := by decide +kernel
theorem f163_9 : aF 9 zM163.2.2.2.2.2.2.2 = some (9, (.iconst 5), 1, 0, 0) := by decide +kernel
theorem f163_10 : aF 10 zM163.2.2.2.2.2.2.2 = some (10, (.invokestatic 85), 3, 137, 0) := by decide +kernel
theorem f163_13 : aF 13 zM163.2.2.2.2.2.2.2 = some (13, (.ifCond .eq 13), 3, 26, 0) := by decide +kernel
theorem f163_16 : aF 16 zM163.2.2.2.2.2.2.2 = some (16, (.iload_n 3), 1, 0, 0) := by decide +kernel
theorem f163_17 : aF 17 zM163.2.2.2.2.2.2.2 = some (17, (.iconst 0), 1, 0, 0) := by decide +kernel
theorem f163_18 : aF 18 zM163.2.2.2.2.2.2.2 = some (18, (.bipush 99), 2, 0, 0) := by decide +kernel
theorem f163_20 : aF 20 zM163.2.2.2.2.2.2.2 = some (20, (.invokestatic 85), 3, 137, 0) := by decide +kernel
theorem f163_23 : aF 23 zM163.2.2.2.2.2.2.2 = some (23, (.ifCond .ne 5), 3, 28, 0) := by decide +kernel
theorem f163_26 : aF 26 zM163.2.2.2.2.2.2.2 = some (26, (.iconst (-1)), 1, 0, 0) := by decide +kernel
theorem f163_27 : aF 27 zM163.2.2.2.2.2.2.2 = some (27, .ireturn, 1, 0, 0) := by decide +kernel
theorem f163_28 : aF 28 zM163.2.2.2.2.2.2.2 = some (28, (.aload_n 0), 1, 0, 0) := by decide +kernel
theorem f163_29 : aF 29 zM163.2.2.2.2.2.2.2 = some (29, (.getfield 67), 3, 11, 7) := by decide +kernel
theorem f163_32 : aF 32 zM163.2.2.2.2.2.2.2 = some (32, (.iload_n 1), 1, 0, 0) := by decide +kernel
theorem f163_33 : aF 33 zM163.2.2.2.2.2.2.2 = some (33, (.iload_n 2), 1, 0, 0) := by decide +kernel
theorem f163_34 : aF 34 zM163.2.2.2.2.2.2.2 = some (34, (.iload_n 3), 1, 0, 0) := by decide +kernel
theorem f163_35 : aF 35 zM163.2.2.2.2.2.2.2 = some (35, (.invokevirtual 232), 3, 40, 0) := by decide +kernel
theorem f163_38 : aF 38 zM163.2.2.2.2.2.2.2 = some (38, .ireturn, 1, 0, 0) := by decide +kernel
theorem f181_0 : aF 0 zM181.2.2.2.2.2.2.2 = some (0, (.iload_n 1), 1, 0, 0) := by decide +kernel
theorem f181_1 : aF 1 zM181.2.2.2.2.2.2.2 = some (1, (.iconst 1), 1, 0, 0) := by decide +kernel
theorem f181_2 : aF 2 zM181.2.2.2.2.2.2.2 = some (2, (.sipush 576), 3, 0, 0) := by decide +kernel
theorem f181_5 : aF 5 zM181.2.2.2.2.2.2.2 = some (5, (.invokestatic 85), 3, 137, 0) := by decide +kernel
theorem f181_8 : aF 8 zM181.2.2.2.2.2.2.2 = some (8, (.ifCond .ne 5), 3, 13, 0) := by decide +kernel
theorem f181_11 : aF 11 zM181.2.2.2.2.2.2.2 = some (11, (.iconst (-1)), 1, 0, 0) := by decide +kernel
theorem f181_12 : aF 12 zM181.2.2.2.2.2.2.2 = some (12, .ireturn, 1, 0, 0) := by decide +kernel
theorem f181_13 : aF 13 zM181.2.2.2.2.2.2.2 = some (13, (.aload_n 0), 1, 0, 0) := by decide +kernel
theorem f181_14 : aF 14 zM181.2.2.2.2.2.2.2 = some (14, (.getfield 60), 3, 11, 6) := by decide +kernel
theorem f181_17 : aF 17 zM181.2.2.2.2.2.2.2 = some (17, (.getfield 327), 3, 4, 1) := by decide +kernel
theorem f181_20 : aF 20 zM181.2.2.2.2.2.2.2 = some (20, (.bipush 6), 2, 0, 0) := by decide +kernel
theorem f181_22 : aF 22 zM181.2.2.2.2.2.2.2 = some (22, (.if_icmp .lt 8), 3, 30, 0) := by decide +kernel
theorem f181_25 : aF 25 zM181.2.2.2.2.2.2.2 = some (25, (.bipush (-3)), 2, 0, 0) := by decide +kernel
theorem f181_27 : aF 27 zM181.2.2.2.2.2.2.2 = some (27, (.goto 11), 3, 38, 0) := by decide +kernel
theorem f181_30 : aF 30 zM181.2.2.2.2.2.2.2 = some (30, (.aload_n 0), 1, 0, 0) := by decide +kernel
theorem f181_31 : aF 31 zM181.2.2.2.2.2.2.2 = some (31, (.getfield 60), 3, 11, 6) := by decide +kernel
theorem f181_34 : aF 34 zM181.2.2.2.2.2.2.2 = some (34, (.iload_n 1), 1, 0, 0) := by decide +kernel
theorem f181_35 : aF 35 zM181.2.2.2.2.2.2.2 = some (35, (.invokevirtual 328), 3, 45, 0) := by decide +kernel
theorem f181_38 : aF 38 zM181.2.2.2.2.2.2.2 = some (38, .ireturn, 1, 0, 0) := by decide +kernel
theorem f245_0 : aF 0 zM245.2.2.2.2.2.2.2 = some (0, (.iload_n 1), 1, 0, 0) := by decide +kernel
theorem f245_1 : aF 1 zM245.2.2.2.2.2.2.2 = some (1, (.iconst 0), 1, 0, 0) := by decide +kernel
theorem f245_2 : aF 2 zM245.2.2.2.2.2.2.2 = some (2, (.bipush 7), 2, 0, 0) := by decide +kernel
theorem f245_4 : aF 4 zM245.2.2.2.2.2.2.2 = some (4, (.invokestatic 258), 3, 196, 0) := by decide +kernel
theorem f245_7 : aF 7 zM245.2.2.2.2.2.2.2 = some (7, (.ifCond .eq 22), 3, 29, 0) := by decide +kernel
theorem f245_10 : aF 10 zM245.2.2.2.2.2.2.2 = some (10, (.iload_n 2), 1, 0, 0) := by decide +kernel
theorem f245_11 : aF 11 zM245.2.2.2.2.2.2.2 = some (11, (.iconst 0), 1, 0, 0) := by decide +kernel
theorem f245_12 : aF 12 zM245.2.2.2.2.2.2.2 = some (12, (.iconst 5), 1, 0, 0) := by decide +kernel
theorem f245_13 : aF 13 zM245.2.2.2.2.2.2.2 = some (13, (.invokestatic 258), 3, 196, 0) := by decide +kernel
theorem f245_16 : aF 16 zM245.2.2.2.2.2.2.2 = some (16, (.ifCond .eq 13), 3, 29, 0) := by decide +kernel
theorem f245_19 : aF 19 zM245.2.2.2.2.2.2.2 = some (19, (.iload_n 3), 1, 0, 0) := by decide +kernel
theorem f245_20 : aF 20 zM245.2.2.2.2.2.2.2 = some (20, (.iconst 0), 1, 0, 0) := by decide +kernel
theorem f245_21 : aF 21 zM245.2.2.2.2.2.2.2 = some (21, (.bipush 99), 2, 0, 0) := by decide +kernel
theorem f245_23 : aF 23 zM245.2.2.2.2.2.2.2 = some (23, (.invokestatic 258), 3, 196, 0) := by decide +kernel
theorem f245_26 : aF 26 zM245.2.2.2.2.2.2.2 = some (26, (.ifCond .ne 5), 3, 31, 0) := by decide +kernel
theorem f245_29 : aF 29 zM245.2.2.2.2.2.2.2 = some (29, (.iconst (-1)), 1, 0, 0) := by decide +kernel
theorem f245_30 : aF 30 zM245.2.2.2.2.2.2.2 = some (30, .ireturn, 1, 0, 0) := by decide +kernel
theorem f245_31 : aF 31 zM245.2.2.2.2.2.2.2 = some (31, (.aload_n 0), 1, 0, 0) := by decide +kernel
theorem f245_32 : aF 32 zM245.2.2.2.2.2.2.2 = some (32, (.getfield 136), 3, 12, 49) := by decide +kernel
theorem f245_35 : aF 35 zM245.2.2.2.2.2.2.2 = some (35, (.bipush 6), 2, 0, 0) := by decide +kernel
theorem f245_37 : aF 37 zM245.2.2.2.2.2.2.2 = some (37, (.iload_n 1), 1, 0, 0) := by decide +kernel
theorem f245_38 : aF 38 zM245.2.2.2.2.2.2.2 = some (38, .imul, 1, 0, 0) := by decide +kernel
theorem f245_39 : aF 39 zM245.2.2.2.2.2.2.2 = some (39, (.iload_n 2), 1, 0, 0) := by decide +kernel
theorem f245_40 : aF 40 zM245.2.2.2.2.2.2.2 = some (40, .iadd, 1, 0, 0) := by decide +kernel
theorem f245_41 : aF 41 zM245.2.2.2.2.2.2.2 = some (41, .iaload, 1, 0, 0) := by decide +kernel
theorem f245_42 : aF 42 zM245.2.2.2.2.2.2.2 = some (42, (.istore 4), 2, 0, 0) := by decide +kernel
theorem f245_44 : aF 44 zM245.2.2.2.2.2.2.2 = some (44, (.aload_n 0), 1, 0, 0) := by decide +kernel
theorem f245_45 : aF 45 zM245.2.2.2.2.2.2.2 = some (45, (.getfield 136), 3, 12, 49) := by decide +kernel
theorem f245_48 : aF 48 zM245.2.2.2.2.2.2.2 = some (48, (.bipush 6), 2, 0, 0) := by decide +kernel
theorem f245_50 : aF 50 zM245.2.2.2.2.2.2.2 = some (50, (.iload_n 1), 1, 0, 0) := by decide +kernel
theorem f245_51 : aF 51 zM245.2.2.2.2.2.2.2 = some (51, .imul, 1, 0, 0) := by decide +kernel
theorem f245_52 : aF 52 zM245.2.2.2.2.2.2.2 = some (52, (.iload_n 2), 1, 0, 0) := by decide +kernel
theorem f245_53 : aF 53 zM245.2.2.2.2.2.2.2 = some (53, .iadd, 1, 0, 0) := by decide +kernel
theorem f245_54 : aF 54 zM245.2.2.2.2.2.2.2 = some (54, (.iload_n 3), 1, 0, 0) := by decide +kernel
theorem f245_55 : aF 55 zM245.2.2.2.2.2.2.2 = some (55, .iastore, 1, 0, 0) := by decide +kernel
theorem f245_56 : aF 56 zM245.2.2.2.2.2.2.2 = some (56, (.iload 4), 2, 0, 0) := by decide +kernel
theorem f245_58 : aF 58 zM245.2.2.2.2.2.2.2 = some (58, .ireturn, 1, 0, 0) := by decide +kernel
theorem f299_0 : aF 0 zM299.2.2.2.2.2.2.2 = some (0, (.iload_n 1), 1, 0, 0) := by decide +kernel
theorem f299_1 : aF 1 zM299.2.2.2.2.2.2.2 = some (1, (.iconst 1), 1, 0, 0) := by decide +kernel
theorem f299_2 : aF 2 zM299.2.2.2.2.2.2.2 = some (2, (.sipush 576), 3, 0, 0) := by decide +kernel
theorem f299_5 : aF 5 zM299.2.2.2.2.2.2.2 = some (5, (.invokestatic 258), 3, 196, 0) := by decide +kernel
theorem f299_8 : aF 8 zM299.2.2.2.2.2.2.2 = some (8, (.ifCond .ne 5), 3, 13, 0) := by decide +kernel
theorem f299_11 : aF 11 zM299.2.2.2.2.2.2.2 = some (11, (.iconst (-1)), 1, 0, 0) := by decide +kernel
theorem f299_12 : aF 12 zM299.2.2.2.2.2.2.2 = some (12, .ireturn, 1, 0, 0) := by decide +kernel
theorem f299_13 : aF 13 zM299.2.2.2.2.2.2.2 = some (13, (.aload_n 0), 1, 0, 0) := by decide +kernel
theorem f299_14 : aF 14 zM299.2.2.2.2.2.2.2 = some (14, (.getfield 546), 3, 12, 87) := by decide +kernel
theorem f299_17 : aF 17 zM299.2.2.2.2.2.2.2 = some (17, (.bipush 6), 2, 0, 0) := by decide +kernel
theorem f299_19 : aF 19 zM299.2.2.2.2.2.2.2 = some (19, (.if_icmp .ne 6), 3, 25, 0) := by decide +kernel
theorem f299_22 : aF 22 zM299.2.2.2.2.2.2.2 = some (22, (.bipush (-3)), 2, 0, 0) := by decide +kernel
theorem f299_24 : aF 24 zM299.2.2.2.2.2.2.2 = some (24, .ireturn, 1, 0, 0) := by decide +kernel
theorem f299_25 : aF 25 zM299.2.2.2.2.2.2.2 = some (25, (.aload_n 0), 1, 0, 0) := by decide +kernel
theorem f299_26 : aF 26 zM299.2.2.2.2.2.2.2 = some (26, (.getfield 222), 3, 12, 88) := by decide +kernel
theorem f299_29 : aF 29 zM299.2.2.2.2.2.2.2 = some (29, (.aload_n 0), 1, 0, 0) := by decide +kernel
theorem f299_30 : aF 30 zM299.2.2.2.2.2.2.2 = some (30, (.getfield 546), 3, 12, 87) := by decide +kernel
theorem f299_33 : aF 33 zM299.2.2.2.2.2.2.2 = some (33, (.iload_n 1), 1, 0, 0) := by decide +kernel
theorem f299_34 : aF 34 zM299.2.2.2.2.2.2.2 = some (34, .iastore, 1, 0, 0) := by decide +kernel
theorem f299_35 : aF 35 zM299.2.2.2.2.2.2.2 = some (35, (.aload_n 0), 1, 0, 0) := by decide +kernel
theorem f299_36 : aF 36 zM299.2.2.2.2.2.2.2 = some (36, .dup, 1, 0, 0) := by decide +kernel
theorem f299_37 : aF 37 zM299.2.2.2.2.2.2.2 = some (37, (.getfield 546), 3, 12, 87) := by decide +kernel
theorem f299_40 : aF 40 zM299.2.2.2.2.2.2.2 = some (40, (.iconst 1), 1, 0, 0) := by decide +kernel
theorem f299_41 : aF 41 zM299.2.2.2.2.2.2.2 = some (41, .iadd, 1, 0, 0) := by decide +kernel
theorem f299_42 : aF 42 zM299.2.2.2.2.2.2.2 = some (42, (.putfield 546), 3, 12, 87) := by decide +kernel
theorem f299_45 : aF 45 zM299.2.2.2.2.2.2.2 = some (45, (.aload_n 0), 1, 0, 0) := by decide +kernel
theorem f299_46 : aF 46 zM299.2.2.2.2.2.2.2 = some (46, (.getfield 546), 3, 12, 87) := by decide +kernel
theorem f299_49 : aF 49 zM299.2.2.2.2.2.2.2 = some (49, .ireturn, 1, 0, 0) := by decide +kernel
/-- what plot answers, and how many plots stand then -/
def plf (x t r t' : Int32) : Prop := (¬ (1 ≤ x.toInt ∧ x.toInt ≤ 576) ∧ r.toInt = -1 ∧ t' = t) ∨ ((1 ≤ x.toInt ∧ x.toInt ≤ 576) ∧ 6 ≤ t.toInt ∧ r.toInt = -3 ∧ t' = t) ∨ ((1 ≤ x.toInt ∧ x.toInt ≤ 576) ∧ t.toInt < 6 ∧ r.toInt = t.toInt + 1 ∧ t'.toInt = t.toInt + 1)
theorem plf_eq {x t r1 t1 r2 t2 : Int32} (h1 : plf x t r1 t1) (h2 : plf x t r2 t2) : r1.toInt = r2.toInt ∧ t1 = t2 := by
  unfold plf at h1 h2
  rcases h1 with ⟨a, b, c⟩ | ⟨a, d, b, c⟩ | ⟨a, d, b, c⟩ <;> rcases h2 with ⟨a', b', c'⟩ | ⟨a', d', b', c'⟩ | ⟨a', d', b', c'⟩
  all_goals first
    | exact absurd a a'
    | exact absurd a' a
    | (exfalso; omega)
    | exact ⟨by omega, c.trans c'.symm⟩
    | exact ⟨by omega, b_i.mpr (by omega)⟩
/-- what colour answers, and the row that stands then -/
def clc (x y z : Int32) (g : Nat → Int32) (r : Int32) (g' : Nat → Int32) : Prop := ((0 ≤ x.toInt ∧ x.toInt ≤ 7 ∧ 0 ≤ y.toInt ∧ y.toInt ≤ 5 ∧ 0 ≤ z.toInt ∧ z.toInt ≤ 99) ∧ r = g (6 * x.toInt + y.toInt).toNat ∧ g' = upd g (6 * x.toInt + y.toInt).toNat z) ∨ (¬ (0 ≤ x.toInt ∧ x.toInt ≤ 7 ∧ 0 ≤ y.toInt ∧ y.toInt ≤ 5 ∧ 0 ≤ z.toInt ∧ z.toInt ≤ 99) ∧ r.toInt = -1 ∧ g' = g)
theorem clc_eq {x y z r1 r2 : Int32} {g1 g1' g2 g2' : Nat → Int32} (h1 : clc x y z g1 r1 g1') (h2 : clc x y z g2 r2 g2') (e : ∀ j, j < 48 → g1 j = g2 j) : r1.toInt = r2.toInt ∧ ∀ j, j < 48 → g1' j = g2' j := by
  unfold clc at h1 h2
  rcases h1 with ⟨a, b, c⟩ | ⟨a, b, c⟩ <;> rcases h2 with ⟨a', b', c'⟩ | ⟨a', b', c'⟩
  · subst b b' c c'
    refine ⟨by rw [e _ (by omega)], fun j hj => ?_⟩
    unfold upd
    rw [e j hj]
  · exact absurd a a'
  · exact absurd a' a
  · subst c c'
    exact ⟨by omega, e⟩
theorem add_45 {X : aX} {σ : List Nat} {h : aH} {x t : Int32} {fs : List Value} (I : dI σ h) (c : h.1[55]? = some (.inr (4, fs))) (F : fs[1]? = some (.int t)) (t0 : 0 ≤ t.toInt) (t6 : t.toInt < 6) : Wp X 0 zM45 (fun v h' => dI σ h' ∧ dG [(55, 1), (56, 0)] σ h σ h' ∧ ∃ (r : Int32) (fs' : List Value), v = some (.int r) ∧ h'.1[55]? = some (.inr (4, fs')) ∧ fs'[1]? = some (.int r) ∧ r.toInt = t.toInt + 1) 0 [some (.ref 55), some (.int x)] [] h := by
  refine wp1 (fun n d => r_aloadn f45_0 rfl) ?_
  refine w_get f45_1 c F ?_
  refine w_bipush f45_4 (fun v4 hv4 => ?_)
  refine w_icmp_ge f45_6 (fun q => absurd q (by omega)) (fun q => ?_)
  refine wp1 (fun n d => r_aloadn f45_9 rfl) ?_
  have F1001 := hI_r I c (f := 0) (q := 56) (by decide +kernel)
  refine w_get f45_10 c F1001 ?_
  refine wp1 (fun n d => r_aloadn f45_13 rfl) ?_
  refine w_get f45_14 c F ?_
  refine wp1 (fun n d => r_iloadn f45_17 rfl) ?_
  obtain ⟨g1002, c1002, R1002⟩ := hI_a I (r := 56) (a := 0) (n := 6) (lo := (-2147483648)) (hi := 2147483647) (by decide +kernel)
  refine w_iastI f45_18 c1002 (by omega) (by omega) I (W := [(55, 1), (56, 0)]) (lo := (-2147483648)) (hi := 2147483647) (by decide +kernel) (by decide) (iR x).1 (iR x).2 (fun h1003 I1003 G1003 c1003 ne1003 => ?_)
  obtain ⟨g1003, hg1003⟩ : ∃ g', g' = upd g1002 t.toInt.toNat x := ⟨_, rfl⟩
  rw [← hg1003] at c1003
  have c1004 := (ne1003 55 (by decide)).trans c
  refine wp1 (fun n d => r_aloadn f45_19 rfl) ?_
  refine wp1 (fun n d => r_dup f45_20 rfl) ?_
  refine w_get f45_21 c1004 F ?_
  refine w_iconst f45_24 (fun v24 hv24 => ?_)
  refine w_iadd f45_25 (by omega) (by omega) (fun v25 hv25 => ?_)
  refine w_putI f45_26 c1004 I1003 (W := [(55, 1), (56, 0)]) (lo := 0) (hi := 6) (by decide +kernel) (by decide) (by decide) (by omega) (by omega) (by decide) (by first | rfl | (simp [aok, zY])) (fun h1005 fs1005 I1005 G1005 c1005 Fx1005 nf1005 ne1005 => ?_)
  have c1006 := (ne1005 56 (by decide)).trans c1003
  have F1007 := (nf1005 0 (by decide)).trans F1001
  refine wp1 (fun n d => r_aloadn f45_29 rfl) ?_
  refine w_get f45_30 c1005 Fx1005 ?_
  exact wp_end (fun n d => r_ireturn f45_33 rfl) ⟨I1005, (dG_trans G1003 G1005), _, _, rfl, c1005, Fx1005, by omega⟩
theorem plot_181 {X : aX} {σ : List Nat} {h : aH} {x t : Int32} {fs : List Value} (I : dI σ h) (c : h.1[55]? = some (.inr (4, fs))) (F : fs[1]? = some (.int t)) : Wp X 1 zM181 (fun v h' => dI σ h' ∧ dG [(55, 1), (56, 0)] σ h σ h' ∧ ∃ (r t' : Int32) (fs' : List Value), v = some (.int r) ∧ h'.1[55]? = some (.inr (4, fs')) ∧ fs'[1]? = some (.int t') ∧ plf x t r t') 0 [some (.ref 0), some (.int x)] [] h := by
  obtain ⟨t0, F0, tl, th⟩ := hI_i I c (f := 1) (lo := 0) (hi := 6) (by decide +kernel)
  cases F.symm.trans F0
  refine wp1 (fun n d => r_iloadn f181_0 rfl) ?_
  refine w_iconst f181_1 (fun v1 hv1 => ?_)
  refine w_sipush f181_2 (fun v2 hv2 => ?_)
  refine wp_in (lv := 0) (Y := zM137) (within_wp) (fun n d v h' e => r_stat (as := [.int x, .int v1, .int v2]) (r := []) f181_5 rfl (show zmt[137]? = some zM137 from rfl) rfl rfl rfl rfl rfl rfl e) (by first | decide | omega) ?_
  rintro v h' ⟨rfl, v5, rfl, z1, hr1⟩
  show Wp _ _ _ _ 8 [some (.ref 0), some (.int x)] [.int v5] _
  refine w_if_ne f181_8 (fun q2 => ?_) (fun q => w_iconst f181_11 (fun v hv => wp_end (fun n d => r_ireturn f181_12 rfl) ⟨I, dG_refl _ _ _, v, t, fs, rfl, c, F, Or.inl ⟨fun q9 => by have := hr1.mpr ⟨by omega, by omega⟩; omega, hv, rfl⟩⟩))
  have w1 := hr1.mp (by omega)
  refine wp1 (fun n d => r_aloadn f181_13 rfl) ?_
  obtain ⟨fs1001, c1001⟩ := hI_o I (r := 0) (ci := 11) (by decide +kernel)
  have F1002 := hI_r I c1001 (f := 6) (q := 55) (by decide +kernel)
  refine w_get f181_14 c1001 F1002 ?_
  refine w_get f181_17 c F ?_
  refine w_bipush f181_20 (fun v20 hv20 => ?_)
  refine w_icmp_lt f181_22 (fun q => ?_) (fun q => ?_)
  · refine wp1 (fun n d => r_aloadn f181_30 rfl) ?_
    refine w_get f181_31 c1001 F1002 ?_
    refine wp1 (fun n d => r_iloadn f181_34 rfl) ?_
    refine wp_in (lv := 0) (Y := zM45) (add_45 (x := x) I c F (by omega) (by omega)) (fun n d v h' e => r_virt (as := [.int x]) (r := []) f181_35 c (show zmt[45]? = some zM45 from rfl) rfl rfl rfl rfl rfl rfl e) (by decide) ?_
    rintro v' h1 ⟨I1, G1, r, fs1, rfl, d1, b1, e1⟩
    exact wp_end (fun n d => r_ireturn f181_38 rfl) ⟨I1, G1, r, r, fs1, rfl, d1, b1, Or.inr (Or.inr ⟨⟨by omega, by omega⟩, by omega, e1, e1⟩)⟩
  · refine w_bipush f181_25 (fun v25 hv25 => ?_)
    refine wp1 (fun n d => r_goto f181_27) ?_
    exact wp_end (fun n d => r_ireturn f181_38 rfl) ⟨I, dG_refl _ _ _, v25, t, _, rfl, c, F, Or.inr (Or.inl ⟨⟨by omega, by omega⟩, by omega, by omega, rfl⟩)⟩
theorem plot_299 {X : aX} {σ : List Nat} {h : aH} {x t : Int32} {fs : List Value} (I : dI σ h) (c : h.1[72]? = some (.inr (12, fs))) (F : fs[87]? = some (.int t)) : Wp X 1 zM299 (fun v h' => dI σ h' ∧ dG [(72, 87), (136, 0)] σ h σ h' ∧ ∃ (r t' : Int32) (fs' : List Value), v = some (.int r) ∧ h'.1[72]? = some (.inr (12, fs')) ∧ fs'[87]? = some (.int t') ∧ plf x t r t') 0 [some (.ref 72), some (.int x)] [] h := by
  obtain ⟨t0, F0, tl, th⟩ := hI_i I c (f := 87) (lo := 0) (hi := 6) (by decide +kernel)
  cases F.symm.trans F0
  refine wp1 (fun n d => r_iloadn f299_0 rfl) ?_
  refine w_iconst f299_1 (fun v1 hv1 => ?_)
  refine w_sipush f299_2 (fun v2 hv2 => ?_)
  refine wp_in (lv := 0) (Y := zM196) (inx_wp) (fun n d v h' e => r_stat (as := [.int x, .int v1, .int v2]) (r := []) f299_5 rfl (show zmt[196]? = some zM196 from rfl) rfl rfl rfl rfl rfl rfl e) (by first | decide | omega) ?_
  rintro v h' ⟨rfl, v5, rfl, z1, hr1⟩
  show Wp _ _ _ _ 8 [some (.ref 72), some (.int x)] [.int v5] _
  refine w_if_ne f299_8 (fun q2 => ?_) (fun q => w_iconst f299_11 (fun v hv => wp_end (fun n d => r_ireturn f299_12 rfl) ⟨I, dG_refl _ _ _, v, t, fs, rfl, c, F, Or.inl ⟨fun q9 => by have := hr1.mpr ⟨by omega, by omega⟩; omega, hv, rfl⟩⟩))
  have w1 := hr1.mp (by omega)
  refine wp1 (fun n d => r_aloadn f299_13 rfl) ?_
  refine w_get f299_14 c F ?_
  refine w_bipush f299_17 (fun v17 hv17 => ?_)
  refine w_icmp_ne f299_19 (fun q => ?_) (fun q => ?_)
  · refine wp1 (fun n d => r_aloadn f299_25 rfl) ?_
    have F1001 := hI_r I c (f := 88) (q := 136) (by decide +kernel)
    refine w_get f299_26 c F1001 ?_
    refine wp1 (fun n d => r_aloadn f299_29 rfl) ?_
    refine w_get f299_30 c F ?_
    refine wp1 (fun n d => r_iloadn f299_33 rfl) ?_
    obtain ⟨g1002, c1002, R1002⟩ := hI_a I (r := 136) (a := 0) (n := 6) (lo := (-2147483648)) (hi := 2147483647) (by decide +kernel)
    refine w_iastI f299_34 c1002 (by omega) (by omega) I (W := [(72, 87), (136, 0)]) (lo := (-2147483648)) (hi := 2147483647) (by decide +kernel) (by decide) (iR x).1 (iR x).2 (fun h1003 I1003 G1003 c1003 ne1003 => ?_)
    obtain ⟨g1003, hg1003⟩ : ∃ g', g' = upd g1002 t.toInt.toNat x := ⟨_, rfl⟩
    rw [← hg1003] at c1003
    have c1004 := (ne1003 72 (by decide)).trans c
    refine wp1 (fun n d => r_aloadn f299_35 rfl) ?_
    refine wp1 (fun n d => r_dup f299_36 rfl) ?_
    refine w_get f299_37 c1004 F ?_
    refine w_iconst f299_40 (fun v40 hv40 => ?_)
    refine w_iadd f299_41 (by omega) (by omega) (fun v41 hv41 => ?_)
    refine w_putI f299_42 c1004 I1003 (W := [(72, 87), (136, 0)]) (lo := 0) (hi := 6) (by decide +kernel) (by decide) (by decide) (by omega) (by omega) (by decide) (by first | rfl | (simp [aok, zY])) (fun h1005 fs1005 I1005 G1005 c1005 Fx1005 nf1005 ne1005 => ?_)
    have c1006 := (ne1005 136 (by decide)).trans c1003
    have F1007 := (nf1005 88 (by decide)).trans F1001
    refine wp1 (fun n d => r_aloadn f299_45 rfl) ?_
    refine w_get f299_46 c1005 Fx1005 ?_
    exact wp_end (fun n d => r_ireturn f299_49 rfl) ⟨I1005, (dG_trans G1003 G1005), _, _, _, rfl, c1005, Fx1005, Or.inr (Or.inr ⟨⟨by omega, by omega⟩, by omega, by omega, by omega⟩)⟩
  · refine w_bipush f299_22 (fun v22 hv22 => ?_)
    exact wp_end (fun n d => r_ireturn f299_24 rfl) ⟨I, dG_refl _ _ _, v22, t, _, rfl, c, F, Or.inr (Or.inl ⟨⟨by omega, by omega⟩, by omega, by omega, rfl⟩)⟩
theorem paint_40 {X : aX} {σ : List Nat} {h : aH} {x y z : Int32} {g : Nat → Int32} (I : dI σ h) (c : h.1[64]? = some (.inl (0, 48, .inl g))) (x0 : 0 ≤ x.toInt) (x7 : x.toInt ≤ 7) (y0 : 0 ≤ y.toInt) (y5 : y.toInt ≤ 5) : Wp X 0 zM40 (fun v h' => dI σ h' ∧ dG [(64, 0)] σ h σ h' ∧ ∃ (r : Int32) (g' : Nat → Int32), v = some (.int r) ∧ h'.1[64]? = some (.inl (0, 48, .inl g')) ∧ r = g (6 * x.toInt + y.toInt).toNat ∧ g' = upd g (6 * x.toInt + y.toInt).toNat z) 0 [some (.ref 63), some (.int x), some (.int y), some (.int z), none, none] [] h := by
  refine wp1 (fun n d => r_iloadn f40_0 rfl) ?_
  refine w_bipush f40_1 (fun v1 hv1 => ?_)
  refine w_imul f40_3 (by rw [hv1]; omega) (by rw [hv1]; omega) (fun v3 hv3 => ?_)
  rw [hv1] at hv3
  refine wp1 (fun n d => r_iloadn f40_4 rfl) ?_
  refine w_iadd f40_5 (by omega) (by omega) (fun v5 hv5 => ?_)
  refine wp1 (fun n d => r_istore (L' := [some (.ref 63), some (.int x), some (.int y), some (.int z), some (.int v5), none]) f40_6 rfl rfl) ?_
  refine wp1 (fun n d => r_aloadn f40_8 rfl) ?_
  obtain ⟨fs1001, c1001⟩ := hI_o I (r := 63) (ci := 3) (by decide +kernel)
  have F1002 := hI_r I c1001 (f := 0) (q := 64) (by decide +kernel)
  refine w_get f40_9 c1001 F1002 ?_
  refine wp1 (fun n d => r_iload f40_12 rfl) ?_
  refine w_iald f40_14 c (by omega) (by omega) (fun v14 hv14 => ?_)
  refine wp1 (fun n d => r_istore (L' := [some (.ref 63), some (.int x), some (.int y), some (.int z), some (.int v5), some (.int v14)]) f40_15 rfl rfl) ?_
  refine wp1 (fun n d => r_aloadn f40_17 rfl) ?_
  refine w_get f40_18 c1001 F1002 ?_
  refine wp1 (fun n d => r_iload f40_21 rfl) ?_
  refine wp1 (fun n d => r_iloadn f40_23 rfl) ?_
  refine w_iastI f40_24 c (by omega) (by omega) I (W := [(64, 0)]) (lo := (-2147483648)) (hi := 2147483647) (by decide +kernel) (by decide) (iR z).1 (iR z).2 (fun h1003 I1003 G1003 c1003 ne1003 => ?_)
  obtain ⟨g1003, hg1003⟩ : ∃ g', g' = upd g v5.toInt.toNat z := ⟨_, rfl⟩
  rw [← hg1003] at c1003
  have c1004 := (ne1003 63 (by decide)).trans c1001
  refine wp1 (fun n d => r_iload f40_25 rfl) ?_
  have ei : v5.toInt = 6 * x.toInt + y.toInt := by omega
  exact wp_end (fun n d => r_ireturn f40_27 rfl) ⟨I1003, G1003, _, _, rfl, c1003, by rw [hv14, ei], by rw [hg1003, ei]⟩
theorem colour_163 {X : aX} {σ : List Nat} {h : aH} {x y z : Int32} {g : Nat → Int32} (I : dI σ h) (c : h.1[64]? = some (.inl (0, 48, .inl g))) : Wp X 2 zM163 (fun v h' => dI σ h' ∧ dG [(64, 0)] σ h σ h' ∧ ∃ (r : Int32) (g' : Nat → Int32), v = some (.int r) ∧ h'.1[64]? = some (.inl (0, 48, .inl g')) ∧ clc x y z g r g') 0 [some (.ref 0), some (.int x), some (.int y), some (.int z)] [] h := by
  have kb : ¬ (0 ≤ x.toInt ∧ x.toInt ≤ 7 ∧ 0 ≤ y.toInt ∧ y.toInt ≤ 5 ∧ 0 ≤ z.toInt ∧ z.toInt ≤ 99) → Wp X 2 zM163 (fun v h' => dI σ h' ∧ dG [(64, 0)] σ h σ h' ∧ ∃ (r : Int32) (g' : Nat → Int32), v = some (.int r) ∧ h'.1[64]? = some (.inl (0, 48, .inl g')) ∧ clc x y z g r g') 26 [some (.ref 0), some (.int x), some (.int y), some (.int z)] [] h := fun q => w_iconst f163_26 (fun v hv => wp_end (fun n d => r_ireturn f163_27 rfl) ⟨I, dG_refl _ _ _, v, g, rfl, c, Or.inr ⟨q, hv, rfl⟩⟩)
  refine wp1 (fun n d => r_iloadn f163_0 rfl) ?_
  refine wp_in (lv := 1) (Y := zM141) (rng_141) (fun n d v h' e => r_stat (as := [.int x]) (r := []) f163_1 rfl (show zmt[141]? = some zM141 from rfl) rfl rfl rfl rfl rfl rfl e) (by first | decide | omega) ?_
  rintro v h' ⟨rfl, v1, rfl, z1, hr1⟩
  show Wp _ _ _ _ 4 [some (.ref 0), some (.int x), some (.int y), some (.int z)] [.int v1] _
  refine w_if_eq f163_4 (fun q => kb (by omega)) (fun q1 => ?_)
  refine wp1 (fun n d => r_iloadn f163_7 rfl) ?_
  refine w_iconst f163_8 (fun v8 hv8 => ?_)
  refine w_iconst f163_9 (fun v9 hv9 => ?_)
  refine wp_in (lv := 0) (Y := zM137) (within_wp) (fun n d v h' e => r_stat (as := [.int y, .int v8, .int v9]) (r := []) f163_10 rfl (show zmt[137]? = some zM137 from rfl) rfl rfl rfl rfl rfl rfl e) (by first | decide | omega) ?_
  rintro v h' ⟨rfl, v10, rfl, z2, hr2⟩
  show Wp _ _ _ _ 13 [some (.ref 0), some (.int x), some (.int y), some (.int z)] [.int v10] _
  refine w_if_eq f163_13 (fun q => kb (by omega)) (fun q2 => ?_)
  refine wp1 (fun n d => r_iloadn f163_16 rfl) ?_
  refine w_iconst f163_17 (fun v17 hv17 => ?_)
  refine w_bipush f163_18 (fun v18 hv18 => ?_)
  refine wp_in (lv := 0) (Y := zM137) (within_wp) (fun n d v h' e => r_stat (as := [.int z, .int v17, .int v18]) (r := []) f163_20 rfl (show zmt[137]? = some zM137 from rfl) rfl rfl rfl rfl rfl rfl e) (by first | decide | omega) ?_
  rintro v h' ⟨rfl, v20, rfl, z3, hr3⟩
  show Wp _ _ _ _ 23 [some (.ref 0), some (.int x), some (.int y), some (.int z)] [.int v20] _
  refine w_if_ne f163_23 (fun q3 => ?_) (fun q => kb (by omega))
  have w1 := hr1.mp (by omega)
  have w2 := hr2.mp (by omega)
  have w3 := hr3.mp (by omega)
  refine wp1 (fun n d => r_aloadn f163_28 rfl) ?_
  obtain ⟨fs1001, c1001⟩ := hI_o I (r := 0) (ci := 11) (by decide +kernel)
  have F1002 := hI_r I c1001 (f := 7) (q := 63) (by decide +kernel)
  refine w_get f163_29 c1001 F1002 ?_
  refine wp1 (fun n d => r_iloadn f163_32 rfl) ?_
  refine wp1 (fun n d => r_iloadn f163_33 rfl) ?_
  refine wp1 (fun n d => r_iloadn f163_34 rfl) ?_
  obtain ⟨fs1003, c1003⟩ := hI_o I (r := 63) (ci := 3) (by decide +kernel)
  refine wp_in (lv := 0) (Y := zM40) (paint_40 (x := x) (y := y) (z := z) I c (by omega) (by omega) (by omega) (by omega)) (fun n d v h' e => r_virt (as := [.int x, .int y, .int z]) (r := []) f163_35 c1003 (show zmt[40]? = some zM40 from rfl) rfl rfl rfl rfl rfl rfl e) (by decide) ?_
  rintro v' h1 ⟨I1, G1, r, g1, rfl, d1, b1, b2⟩
  exact wp_end (fun n d => r_ireturn f163_38 rfl) ⟨I1, G1, r, g1, rfl, d1, Or.inl ⟨⟨by omega, by omega, by omega, by omega, by omega, by omega⟩, b1, b2⟩⟩
theorem colour_245 {X : aX} {σ : List Nat} {h : aH} {x y z : Int32} {g : Nat → Int32} (I : dI σ h) (c : h.1[112]? = some (.inl (0, 48, .inl g))) : Wp X 1 zM245 (fun v h' => dI σ h' ∧ dG [(112, 0)] σ h σ h' ∧ ∃ (r : Int32) (g' : Nat → Int32), v = some (.int r) ∧ h'.1[112]? = some (.inl (0, 48, .inl g')) ∧ clc x y z g r g') 0 [some (.ref 72), some (.int x), some (.int y), some (.int z), none] [] h := by
  have kb : ¬ (0 ≤ x.toInt ∧ x.toInt ≤ 7 ∧ 0 ≤ y.toInt ∧ y.toInt ≤ 5 ∧ 0 ≤ z.toInt ∧ z.toInt ≤ 99) → Wp X 1 zM245 (fun v h' => dI σ h' ∧ dG [(112, 0)] σ h σ h' ∧ ∃ (r : Int32) (g' : Nat → Int32), v = some (.int r) ∧ h'.1[112]? = some (.inl (0, 48, .inl g')) ∧ clc x y z g r g') 29 [some (.ref 72), some (.int x), some (.int y), some (.int z), none] [] h := fun q => w_iconst f245_29 (fun v hv => wp_end (fun n d => r_ireturn f245_30 rfl) ⟨I, dG_refl _ _ _, v, g, rfl, c, Or.inr ⟨q, hv, rfl⟩⟩)
  refine wp1 (fun n d => r_iloadn f245_0 rfl) ?_
  refine w_iconst f245_1 (fun v1 hv1 => ?_)
  refine w_bipush f245_2 (fun v2 hv2 => ?_)
  refine wp_in (lv := 0) (Y := zM196) (inx_wp) (fun n d v h' e => r_stat (as := [.int x, .int v1, .int v2]) (r := []) f245_4 rfl (show zmt[196]? = some zM196 from rfl) rfl rfl rfl rfl rfl rfl e) (by first | decide | omega) ?_
  rintro v h' ⟨rfl, v4, rfl, z1, hr1⟩
  show Wp _ _ _ _ 7 [some (.ref 72), some (.int x), some (.int y), some (.int z), none] [.int v4] _
  refine w_if_eq f245_7 (fun q => kb (by omega)) (fun q1 => ?_)
  refine wp1 (fun n d => r_iloadn f245_10 rfl) ?_
  refine w_iconst f245_11 (fun v11 hv11 => ?_)
  refine w_iconst f245_12 (fun v12 hv12 => ?_)
  refine wp_in (lv := 0) (Y := zM196) (inx_wp) (fun n d v h' e => r_stat (as := [.int y, .int v11, .int v12]) (r := []) f245_13 rfl (show zmt[196]? = some zM196 from rfl) rfl rfl rfl rfl rfl rfl e) (by first | decide | omega) ?_
  rintro v h' ⟨rfl, v13, rfl, z2, hr2⟩
  show Wp _ _ _ _ 16 [some (.ref 72), some (.int x), some (.int y), some (.int z), none] [.int v13] _
  refine w_if_eq f245_16 (fun q => kb (by omega)) (fun q2 => ?_)
  refine wp1 (fun n d => r_iloadn f245_19 rfl) ?_
  refine w_iconst f245_20 (fun v20 hv20 => ?_)
  refine w_bipush f245_21 (fun v21 hv21 => ?_)
  refine wp_in (lv := 0) (Y := zM196) (inx_wp) (fun n d v h' e => r_stat (as := [.int z, .int v20, .int v21]) (r := []) f245_23 rfl (show zmt[196]? = some zM196 from rfl) rfl rfl rfl rfl rfl rfl e) (by first | decide | omega) ?_
  rintro v h' ⟨rfl, v23, rfl, z3, hr3⟩
  show Wp _ _ _ _ 26 [some (.ref 72), some (.int x), some (.int y), some (.int z), none] [.int v23] _
  refine w_if_ne f245_26 (fun q3 => ?_) (fun q => kb (by omega))
  have w1 := hr1.mp (by omega)
  have w2 := hr2.mp (by omega)
  have w3 := hr3.mp (by omega)
  refine wp1 (fun n d => r_aloadn f245_31 rfl) ?_
  obtain ⟨fs1001, c1001⟩ := hI_o I (r := 72) (ci := 12) (by decide +kernel)
  have F1002 := hI_r I c1001 (f := 49) (q := 112) (by decide +kernel)
  refine w_get f245_32 c1001 F1002 ?_
  refine w_bipush f245_35 (fun v35 hv35 => ?_)
  refine wp1 (fun n d => r_iloadn f245_37 rfl) ?_
  refine w_imul f245_38 (by rw [hv35]; omega) (by rw [hv35]; omega) (fun v38 hv38 => ?_)
  rw [hv35] at hv38
  refine wp1 (fun n d => r_iloadn f245_39 rfl) ?_
  refine w_iadd f245_40 (by omega) (by omega) (fun v40 hv40 => ?_)
  refine w_iald f245_41 c (by omega) (by omega) (fun v41 hv41 => ?_)
  refine wp1 (fun n d => r_istore (L' := [some (.ref 72), some (.int x), some (.int y), some (.int z), some (.int v41)]) f245_42 rfl rfl) ?_
  refine wp1 (fun n d => r_aloadn f245_44 rfl) ?_
  refine w_get f245_45 c1001 F1002 ?_
  refine w_bipush f245_48 (fun v48 hv48 => ?_)
  refine wp1 (fun n d => r_iloadn f245_50 rfl) ?_
  refine w_imul f245_51 (by rw [hv48]; omega) (by rw [hv48]; omega) (fun v51 hv51 => ?_)
  rw [hv48] at hv51
  refine wp1 (fun n d => r_iloadn f245_52 rfl) ?_
  refine w_iadd f245_53 (by omega) (by omega) (fun v53 hv53 => ?_)
  refine wp1 (fun n d => r_iloadn f245_54 rfl) ?_
  refine w_iastI f245_55 c (by omega) (by omega) I (W := [(112, 0)]) (lo := (-2147483648)) (hi := 2147483647) (by decide +kernel) (by decide) (iR z).1 (iR z).2 (fun h1003 I1003 G1003 c1003 ne1003 => ?_)
  obtain ⟨g1003, hg1003⟩ : ∃ g', g' = upd g v53.toInt.toNat z := ⟨_, rfl⟩
  rw [← hg1003] at c1003
  have c1004 := (ne1003 72 (by decide)).trans c1001
  refine wp1 (fun n d => r_iload f245_56 rfl) ?_
  have ei : v40.toInt = 6 * x.toInt + y.toInt := by omega
  have ej : v53.toInt = 6 * x.toInt + y.toInt := by omega
  exact wp_end (fun n d => r_ireturn f245_58 rfl) ⟨I1003, G1003, _, _, rfl, c1003, Or.inl ⟨⟨by omega, by omega, by omega, by omega, by omega, by omega⟩, by rw [hv41, ei], by rw [hg1003, ej]⟩⟩
end
section
-- ===== the relation of the two sides =====

def JR (h : aH) : Prop := JF 63 3 1 72 12 52 h ∧ JA 22 91 4 h ∧ JA 57 137 8 h ∧ JA 64 112 48 h
def jrW (W : List (Nat × Nat)) : Bool := !(cWn W 63 1) && !(cWn W 72 52) && !(cWn W 22 0) && !(cWn W 91 0) && !(cWn W 57 0) && !(cWn W 137 0) && !(cWn W 64 0) && !(cWn W 112 0)
theorem JR_dG {σ σ' : List Nat} {h h' : aH} {W : List (Nat × Nat)} (J : JR h) (I : dI σ h) (G : dG W σ h σ' h') (k : jrW W = true) : JR h' := by
  unfold jrW at k
  simp only [Bool.and_eq_true, Bool.not_eq_true'] at k
  obtain ⟨⟨⟨⟨⟨⟨⟨k1, k2⟩, k3⟩, k4⟩, k5⟩, k6⟩, k9⟩, k10⟩ := k
  refine ⟨JF_dG J.1 I G ?_, JA_dG J.2.1 I G ?_, JA_dG J.2.2.1 I G ?_, JA_dG J.2.2.2 I G ?_⟩
  · rw [k1, k2]; decide
  · rw [k3, k4]; decide
  · rw [k5, k6]; decide
  · rw [k9, k10]; decide
def JQ (h : aH) : Prop := JP h ∧ JR h
theorem JQ_dG {σ σ' : List Nat} {h h' : aH} {W : List (Nat × Nat)} (J : JQ h) (I : dI σ h) (G : dG W σ h σ' h') (k : ((!(cWn W 1 0) && !(cWn W 1 1) && !(cWn W 1 4) && !(cWn W 72 1)) && jrW W) = true) : JQ h' :=
  ⟨JP_dG J.1 I G ((Bool.and_eq_true _ _).mp k).1, JR_dG J.2 I G ((Bool.and_eq_true _ _).mp k).2⟩
theorem zJR0 : JR zH0 := by
  refine ⟨⟨_, _, -1, zh63, rfl, zh72, rfl⟩, ⟨_, _, zh22, zh91, ?_⟩, ⟨_, _, zh57, zh137, ?_⟩, ⟨_, _, zh64, zh112, ?_⟩⟩
  · decide +kernel
  · decide +kernel
  · decide +kernel
end
section
-- ===== what a run comes to, if it comes to anything; the heap as numbers =====
def Pt (n : Nat) (X : aX) (M : aM) (pc : Nat) (l : aL) (st : List Value) (h : aH) (Q : Option Value → aH → Prop) : Prop := ∀ m, m ≤ n → ∀ d v h', arun X m d M pc l st h = some (v, h') → Q v h'
abbrev vS : Type := Nat → Int → Int
def vV (v : Value) : Int := match v with
  | .int x => x.toInt
  | .long x => x.toInt
  | .ref q => (q : Int)
  | .null => -1
  | _ => 0
def vA (a : (Nat → Int32) ⊕ (Nat → Int64) ⊕ (Nat → UInt32) ⊕ (Nat → UInt64) ⊕ (Nat → Option Nat)) (j : Nat) : Int := match a with
  | .inl g => (g j).toInt
  | .inr (.inl g) => (g j).toInt
  | .inr (.inr (.inr (.inr g))) => (match g j with
    | some q => (q : Int)
    | none => -1)
  | _ => 0
def vw (h : aH) : vS := fun c j => if j < 0 then 0 else match h.1[c]? with
  | some (.inl (_, _, a)) => vA a j.toNat
  | some (.inr (_, fs)) => (match fs[j.toNat]? with
    | some v => vV v
    | none => 0)
  | none => 0
def up (V : vS) (c : Nat) (j v : Int) : vS := fun c' j' => if c' = c ∧ j' = j then v else V c' j'
def w32 (z : Int) : Int := (z + 2147483648) % 4294967296 - 2147483648
def w64 (z : Int) : Int := (z + 9223372036854775808) % 18446744073709551616 - 9223372036854775808
def w16 (z : Int) : Int := (z + 32768) % 65536 - 32768
def w8 (z : Int) : Int := (z + 128) % 256 - 128
def bAnd (a b : Int) : Int := (Int32.ofInt a &&& Int32.ofInt b).toInt
def bOr (a b : Int) : Int := (Int32.ofInt a ||| Int32.ofInt b).toInt
def bXor (a b : Int) : Int := (Int32.ofInt a ^^^ Int32.ofInt b).toInt
def bShl (a b : Int) : Int := (Int32.ofInt a <<< (Int32.ofInt b &&& 31)).toInt
def bShr (a b : Int) : Int := (Int32.ofInt a >>> (Int32.ofInt b &&& 31)).toInt
def bUshr (a b : Int) : Int := ((Int32.ofInt a).toUInt32 >>> ((Int32.ofInt b).toUInt32 &&& Int32.toUInt32 31)).toInt32.toInt
def iDiv (a b : Int) : Int := (Int32.ofInt a / Int32.ofInt b).toInt
def iRem (a b : Int) : Int := (Int32.ofInt a - Int32.ofInt a / Int32.ofInt b * Int32.ofInt b).toInt
def jDiv (a b : Int) : Int := (Int64.ofInt a / Int64.ofInt b).toInt
def jRem (a b : Int) : Int := (Int64.ofInt a - Int64.ofInt a / Int64.ofInt b * Int64.ofInt b).toInt
def iAbs (a : Int) : Int := if 0 ≤ a then a else w32 (-a)
def iIx (a : Int) : Int := (zIx (Int32.ofInt a)).toInt
noncomputable def bI (p : Prop) : Int := @ite Int p (Classical.propDecidable p) 1 0
theorem bI_t {p : Prop} (h : p) : bI p = 1 := by unfold bI; rw [if_pos h]
theorem bI_f {p : Prop} (h : ¬ p) : bI p = 0 := by unfold bI; rw [if_neg h]
theorem bI_1 {p : Prop} : bI p = 1 ↔ p := by
  constructor
  · intro e
    by_cases h : p
    · exact h
    · rw [bI_f h] at e; cases e
  · exact bI_t
theorem bI_0 {p : Prop} : bI p = 0 ↔ ¬ p := by
  constructor
  · intro e h
    rw [bI_t h] at e; cases e
  · exact bI_f
theorem bI_c {p q : Prop} (h : p ↔ q) : bI p = bI q := by
  by_cases c : p
  · rw [bI_t c, bI_t (h.mp c)]
  · rw [bI_f c, bI_f (fun d => c (h.mpr d))]
theorem bI_r (p : Prop) : bI p = 0 ∨ bI p = 1 := by
  by_cases c : p
  · exact Or.inr (bI_t c)
  · exact Or.inl (bI_f c)
-- numbers that wrap
theorem w32_b (z : Int) : z.bmod (2 ^ 32) = w32 z := by
  unfold w32
  have e : z.bmod (2 ^ 32) = z.bmod 4294967296 := rfl
  rw [e, Int.bmod_def]
  split <;> omega
theorem w64_b (z : Int) : z.bmod (2 ^ 64) = w64 z := by
  unfold w64
  have e : z.bmod (2 ^ 64) = z.bmod 18446744073709551616 := rfl
  rw [e, Int.bmod_def]
  split <;> omega
theorem w32_id {z : Int} (h1 : -2147483648 ≤ z) (h2 : z ≤ 2147483647) : w32 z = z := by unfold w32; omega
theorem w64_id {z : Int} (h1 : -9223372036854775808 ≤ z) (h2 : z ≤ 9223372036854775807) : w64 z = z := by unfold w64; omega
theorem oI (x : Int32) : Int32.ofInt x.toInt = x := Int32.ofInt_toInt x
theorem oJ (x : Int64) : Int64.ofInt x.toInt = x := Int64.ofInt_toInt x
theorem t_add (x y : Int32) : (x + y).toInt = w32 (x.toInt + y.toInt) := by rw [Int32.toInt_add, w32_b]
theorem t_sub (x y : Int32) : (x - y).toInt = w32 (x.toInt - y.toInt) := by rw [Int32.toInt_sub, w32_b]
theorem t_mul (x y : Int32) : (x * y).toInt = w32 (x.toInt * y.toInt) := by rw [Int32.toInt_mul, w32_b]
theorem t_neg (x : Int32) : (-x).toInt = w32 (-x.toInt) := by rw [Int32.toInt_neg, w32_b]
theorem u_add (x y : Int64) : (x + y).toInt = w64 (x.toInt + y.toInt) := by rw [Int64.toInt_add, w64_b]
theorem u_sub (x y : Int64) : (x - y).toInt = w64 (x.toInt - y.toInt) := by rw [Int64.toInt_sub, w64_b]
theorem u_mul (x y : Int64) : (x * y).toInt = w64 (x.toInt * y.toInt) := by rw [Int64.toInt_mul, w64_b]
theorem iDiv_pos {a b : Int} (ha : 0 ≤ a) (ha2 : a ≤ 2147483647) (hb : 1 ≤ b) (hb2 : b ≤ 2147483647) : iDiv a b = a / b := by
  unfold iDiv
  have e1 : (Int32.ofInt a).toInt = a := Int32.toInt_ofInt_of_le (by omega) (by omega)
  have e2 : (Int32.ofInt b).toInt = b := Int32.toInt_ofInt_of_le (by omega) (by omega)
  have t := (tdiv_b (x := (Int32.ofInt a).toInt) (y := (Int32.ofInt b).toInt) (by omega)).1 (by omega)
  rw [i_div (by omega) (by omega), e1, e2, Int.tdiv_eq_ediv_of_nonneg ha]
theorem iRem_pos {a b : Int} (ha : 0 ≤ a) (ha2 : a ≤ 2147483647) (hb : 1 ≤ b) (hb2 : b ≤ 2147483647) : iRem a b = a % b := by
  unfold iRem
  have e1 : (Int32.ofInt a).toInt = a := Int32.toInt_ofInt_of_le (by omega) (by omega)
  have e2 : (Int32.ofInt b).toInt = b := Int32.toInt_ofInt_of_le (by omega) (by omega)
  rw [i_rem (by omega), e1, e2, Int.tmod_eq_emod_of_nonneg ha]
theorem jDiv_pos {a b : Int} (ha : 0 ≤ a) (ha2 : a ≤ 9223372036854775807) (hb : 1 ≤ b) (hb2 : b ≤ 9223372036854775807) : jDiv a b = a / b := by
  unfold jDiv
  have e1 : (Int64.ofInt a).toInt = a := Int64.toInt_ofInt_of_le (by omega) (by omega)
  have e2 : (Int64.ofInt b).toInt = b := Int64.toInt_ofInt_of_le (by omega) (by omega)
  have t := (tdiv_b (x := (Int64.ofInt a).toInt) (y := (Int64.ofInt b).toInt) (by omega)).1 (by omega)
  rw [j_div (by omega) (by omega), e1, e2, Int.tdiv_eq_ediv_of_nonneg ha]
theorem jRem_pos {a b : Int} (ha : 0 ≤ a) (ha2 : a ≤ 9223372036854775807) (hb : 1 ≤ b) (hb2 : b ≤ 9223372036854775807) : jRem a b = a % b := by
  unfold jRem
  have e1 : (Int64.ofInt a).toInt = a := Int64.toInt_ofInt_of_le (by omega) (by omega)
  have e2 : (Int64.ofInt b).toInt = b := Int64.toInt_ofInt_of_le (by omega) (by omega)
  rw [j_rem (by omega), e1, e2, Int.tmod_eq_emod_of_nonneg ha]
-- the heap as numbers
theorem up_s (V : vS) (c : Nat) (j v : Int) : up V c j v c j = v := if_pos ⟨rfl, rfl⟩
theorem up_c {V : vS} {c c' : Nat} {j j' v : Int} (h : c' ≠ c) : up V c j v c' j' = V c' j' := if_neg (fun q => h q.1)
theorem up_j {V : vS} {c c' : Nat} {j j' v : Int} (h : j' ≠ j) : up V c j v c' j' = V c' j' := if_neg (fun q => h q.2)
theorem up_p {V : vS} {c : Nat} {j j' v : Int} : up V c j v c j' = if j' = j then v else V c j' := by
  unfold up
  by_cases q : j' = j
  · rw [if_pos ⟨rfl, q⟩, if_pos q]
  · rw [if_neg (fun r => q r.2), if_neg q]
theorem vw_a {h : aH} {c t n : Nat} {a : (Nat → Int32) ⊕ (Nat → Int64) ⊕ (Nat → UInt32) ⊕ (Nat → UInt64) ⊕ (Nat → Option Nat)} {j : Int} (e : h.1[c]? = some (.inl (t, n, a))) (hj : 0 ≤ j) : vw h c j = vA a j.toNat := by
  unfold vw
  rw [if_neg (by omega), e]
theorem vw_o {h : aH} {c ci : Nat} {fs : List Value} {i : Nat} {v : Value} (e : h.1[c]? = some (.inr (ci, fs))) (hv : fs[i]? = some v) : vw h c (i : Nat) = vV v := by
  unfold vw
  rw [if_neg (by omega), e]
  simp only [Int.toNat_natCast, hv]
theorem vw_eq {h h' : aH} {c : Nat} (e : h'.1[c]? = h.1[c]?) (j : Int) : vw h' c j = vw h c j := by
  unfold vw
  rw [e]
/-- what a frame leaves, in numbers -/
theorem vw_dG {W : List (Nat × Nat)} {σ σ1 : List Nat} {h h1 : aH} (H : dH σ h) (G : dG W σ h σ1 h1) {r : Nat} (hr : r < 146) {t : cRt} (ht : cRT[r]? = some t) (j : Int) (hW : (t.1 = 0 → cWn W r j.toNat = false) ∧ (t.1 ≠ 0 → cWn W r 0 = false)) : vw h1 r j = vw h r j := by
  obtain ⟨c, e, k⟩ := dH_cell H (H.2.2.2 r hr) ht
  obtain ⟨c1, a1, a2⟩ := G.2.1 r r _ (H.2.2.2 r hr) e
  by_cases h0 : t.1 = 0
  · obtain ⟨fs, rfl, -, -⟩ := dC_0 k h0
    obtain ⟨fs1, rfl, a3⟩ := a2.2 _ fs rfl
    unfold vw
    rw [e, a1]
    simp only [a3 _ (hW.1 h0)]
  · have : ∃ x, c = .inl x := by
      unfold dC at k
      split at k
      · exact absurd ‹_› h0
      · obtain ⟨g, rfl, -⟩ := k; exact ⟨_, rfl⟩
      · obtain ⟨g, rfl, -⟩ := k; exact ⟨_, rfl⟩
      · obtain ⟨g, rfl, -⟩ := k; exact ⟨_, rfl⟩
      · exact k.elim
    obtain ⟨x, rfl⟩ := this
    rw [a2.1 x rfl (hW.2 h0)] at a1
    exact vw_eq (a1.trans e.symm) j
def tyA (h : aH) (c : Nat) : Option (Nat × Nat) := match h.1[c]? with
  | some (.inl (t, n, _)) => some (t, n)
  | _ => none
def tkL (c t n : Nat) : Bool := match cRT[c]? with
  | some q => !(Nat.beq q.1 0) && Nat.beq q.2.1 t && Nat.beq q.2.2.1 n && Nat.blt c 146
  | none => false
def tkN (o b : Nat) : Bool := match cRT[o]? with
  | some t => (match t.2.2.2.2.2[b]? with
    | some ty => !(Nat.beq ty.1 1)
    | none => true)
  | none => true
theorem tkN_R {o b : Nat} (h : tkN o b = true) (q : Nat) : tkR o b q = false := by
  unfold tkN at h
  unfold tkR
  split
  · rename_i t e
    simp only [e] at h
    split
    · rename_i ty ety
      simp only [ety] at h
      cases k : Nat.beq ty.1 1 with
      | true => rw [k] at h; cases h
      | false => simp
    · simp
  · rfl
/-- a heap whose fields keep their kinds, whose two objects' parts lie where they lay -/
def wS (h : aH) : Prop := (∀ (q ci : Nat) (fs : List Value) (i : Nat) (v : Value), h.1[q]? = some (.inr (ci, fs)) → fs[i]? = some v → aok (zY ci i) v = true) ∧ (∀ c i q : Nat, tkR c i q = true → ∃ (ci : Nat) (fs : List Value), h.1[c]? = some (.inr (ci, fs)) ∧ fs[i]? = some (.ref q)) ∧ (∀ c t n : Nat, tkL c t n = true → tyA h c = some (t, n))
def fY (ci i : Nat) (ty : Nat × Int × Int) : Bool := match ty.1, zY ci i with
  | 0, .int => true
  | 0, .boolean => ceI ty.2.1 0 && ceI ty.2.2 1
  | 1, .object _ => true
  | 1, .array _ => true
  | 4, .array _ => true
  | _, _ => false
def fYs (ci : Nat) : Nat → List (Nat × Int × Int) → Bool
  | _, [] => true
  | i, ty :: r => fY ci i ty && fYs ci (i + 1) r
def fYt : List cRt → Bool
  | [] => true
  | t :: r => (!(Nat.beq t.1 0) || fYs t.2.1 0 t.2.2.2.2.2) && fYt r
theorem fYt_0 : fYt cRT = true := by decide +kernel
theorem fYs_i {ci : Nat} : ∀ {k : Nat} {L : List (Nat × Int × Int)}, fYs ci k L = true → ∀ (i : Nat) (ty : Nat × Int × Int), L[i]? = some ty → fY ci (k + i) ty = true
  | _, [], _, i, ty, e => by simp at e
  | k, t :: r, h, 0, ty, e => by
    unfold fYs at h
    rw [Bool.and_eq_true] at h
    simp only [List.getElem?_cons_zero, Option.some.injEq] at e
    subst e
    exact h.1
  | k, t :: r, h, i + 1, ty, e => by
    unfold fYs at h
    rw [Bool.and_eq_true] at h
    rw [List.getElem?_cons_succ] at e
    rw [show k + (i + 1) = (k + 1) + i by omega]
    exact fYs_i h.2 i ty e
theorem fYt_i : ∀ {L : List cRt}, fYt L = true → ∀ (r : Nat) (t : cRt), L[r]? = some t → t.1 = 0 → fYs t.2.1 0 t.2.2.2.2.2 = true
  | [], _, r, t, e, _ => by simp at e
  | u :: L, h, 0, t, e, h0 => by
    unfold fYt at h
    rw [Bool.and_eq_true] at h
    simp only [List.getElem?_cons_zero, Option.some.injEq] at e
    subst e
    have := h.1
    rw [h0] at this
    simpa using this
  | u :: L, h, r + 1, t, e, h0 => by
    unfold fYt at h
    rw [Bool.and_eq_true] at h
    rw [List.getElem?_cons_succ] at e
    exact fYt_i h.2 r t e h0
theorem fY_ok {σ : List Nat} {ci i : Nat} {ty : Nat × Int × Int} {v : Value} (h : fY ci i ty = true) (k : dT σ ty v) : aok (zY ci i) v = true := by
  unfold fY at h
  unfold dT at k
  split at h
  · rename_i e1 e2
    rw [e1] at k
    obtain ⟨x, rfl, -, -⟩ := k
    rw [e2]; rfl
  · rename_i e1 e2
    rw [e1] at k
    obtain ⟨x, rfl, k1, k2⟩ := k
    rw [e2]
    simp only [Bool.and_eq_true, ceI_i] at h
    have : x.toInt = 0 ∨ x.toInt = 1 := by omega
    rcases this with q | q
    · rw [b_i.mpr (show x.toInt = (0 : Int32).toInt from q)]; rfl
    · rw [b_i.mpr (show x.toInt = (1 : Int32).toInt from q)]; rfl
  · rename_i e1 e2
    rw [e1] at k
    obtain ⟨q, rfl, -⟩ := k
    rw [e2]; rfl
  · rename_i e1 e2
    rw [e1] at k
    obtain ⟨q, rfl, -⟩ := k
    rw [e2]; rfl
  · rename_i e1 e2
    rw [e1] at k
    rcases k with rfl | rfl
    · rw [e2]; rfl
    · rw [e2]; rfl
  · cases h
theorem wS_dI {σ : List Nat} {h : aH} (I : dI σ h) : wS h := by
  refine ⟨fun q ci fs i v e ev => ?_, fun c i q k => ?_, fun c t n k => ?_⟩
  · obtain ⟨H1, H2, -, -⟩ := I.1
    have hq : q < σ.length := by rw [H1]; exact (List.getElem?_eq_some_iff.mp e).1
    obtain ⟨t, c, e1, e2, e3⟩ := H2 q σ[q] (List.getElem?_eq_getElem hq)
    rw [e] at e2
    cases e2
    by_cases h0 : t.1 = 0
    · obtain ⟨fs', c1, c2, c3⟩ := dC_0 e3 h0
      cases c1
      have hi : i < t.2.2.2.2.2.length := by rw [← c2]; exact (List.getElem?_eq_some_iff.mp ev).1
      obtain ⟨v', d1, d2⟩ := c3 i _ (List.getElem?_eq_getElem hi)
      rw [ev] at d1
      cases d1
      have := fYs_i (fYt_i fYt_0 _ _ e1 h0) i _ (List.getElem?_eq_getElem hi)
      rw [Nat.zero_add] at this
      exact fY_ok this d2
    · unfold dC at e3
      split at e3
      · exact absurd ‹_› h0
      · obtain ⟨g, e4, -⟩ := e3; cases e4
      · obtain ⟨g, e4, -⟩ := e3; cases e4
      · obtain ⟨g, e4, -⟩ := e3; cases e4
      · exact e3.elim
  · have k0 := k
    unfold tkR at k
    split at k
    · rename_i t e
      rw [Bool.and_eq_true, Bool.and_eq_true, Nat.blt_eq] at k
      obtain ⟨⟨k1, k2⟩, k3⟩ := k
      obtain ⟨fs, a, -, -⟩ := dI_o I k2 e (Nat.eq_of_beq_eq_true k1)
      exact ⟨_, fs, a, hI_r I a k0⟩
    · cases k
  · unfold tkL at k
    split at k
    · rename_i q e
      simp only [Bool.and_eq_true, Bool.not_eq_true', Nat.blt_eq] at k
      obtain ⟨⟨⟨k1, k2⟩, k3⟩, k4⟩ := k
      have h0 : q.1 ≠ 0 := fun z => by rw [z] at k1; cases k1
      obtain ⟨x, e1, e2⟩ := dH_cell I.1 (I.1.2.2.2 c k4) e
      have e3 := Nat.eq_of_beq_eq_true k2
      have e4 := Nat.eq_of_beq_eq_true k3
      unfold tyA
      unfold dC at e2
      split at e2
      · exact absurd ‹_› h0
      · obtain ⟨g, rfl, -⟩ := e2; rw [e1]; simp only [e3, e4]
      · rename_i h2
        obtain ⟨g, rfl, -⟩ := e2; rw [e1]
        have : q.2.1 = 1 := by
          have z : (cRT.all (fun t => !(Nat.beq t.1 2) || Nat.beq t.2.1 1)) = true := by decide +kernel
          have := List.all_eq_true.mp z q (List.mem_of_getElem? e)
          rw [h2] at this
          exact Nat.eq_of_beq_eq_true (by simpa using this)
        simp only [← e3, this, e4]
      · obtain ⟨g, rfl, -⟩ := e2; rw [e1]; simp only [e3, e4]
      · exact e2.elim
    · cases k
/-- a row of numbers changed at one place -/
theorem wS_arr {h : aH} {o t n : Nat} {s : Nat} {a a' : (Nat → Int32) ⊕ (Nat → Int64) ⊕ (Nat → UInt32) ⊕ (Nat → UInt64) ⊕ (Nat → Option Nat)} (S : wS h) (c : h.1[o]? = some (.inl (t, n, a))) : wS (h.1.set o (.inl (t, n, a')), s) := by
  have hne : ∀ q ci fs, h.1[q]? = some (.inr (ci, fs)) → o ≠ q := by
    intro q ci fs e z
    rw [z, e] at c
    cases c
  refine ⟨fun q ci fs i v e ev => ?_, fun c' i q k => ?_, fun c' t' n' k => ?_⟩
  · by_cases z : o = q
    · subst z
      rw [set_eq' c] at e
      cases e
    · rw [set_ne' z] at e
      exact S.1 q ci fs i v e ev
  · obtain ⟨ci, fs, e1, e2⟩ := S.2.1 c' i q k
    exact ⟨ci, fs, (set_ne' (hne _ _ _ e1)).trans e1, e2⟩
  · have := S.2.2 c' t' n' k
    by_cases z : o = c'
    · subst z
      unfold tyA at this ⊢
      rw [c] at this
      rw [set_eq' c]
      exact this
    · unfold tyA at this ⊢
      rw [set_ne' z]
      exact this
theorem vw_arr {h : aH} {o t n s : Nat} {a a' : (Nat → Int32) ⊕ (Nat → Int64) ⊕ (Nat → UInt32) ⊕ (Nat → UInt64) ⊕ (Nat → Option Nat)} {J B : Int} (c : h.1[o]? = some (.inl (t, n, a))) (hJ : 0 ≤ J) (e : ∀ k : Nat, vA a' k = if k = J.toNat then B else vA a k) : vw (h.1.set o (.inl (t, n, a')), s) = up (vw h) o J B := by
  funext c' j'
  unfold up
  by_cases z : c' = o
  · subst z
    unfold vw
    rw [set_eq' c, c]
    by_cases q : j' < 0
    · rw [if_pos q, if_pos q, if_neg (by omega)]
    · rw [if_neg q, if_neg q]
      dsimp only
      rw [e]
      by_cases y : j' = J
      · rw [if_pos (by rw [y]), if_pos ⟨rfl, y⟩]
      · rw [if_neg (by omega), if_neg (fun w => y w.2)]
  · rw [if_neg (fun w => z w.1)]
    exact vw_eq (set_ne' (fun w => z w.symm)) j'
theorem wS_obj {h : aH} {o ci b s : Nat} {fs : List Value} {v : Value} (S : wS h) (c : h.1[o]? = some (.inr (ci, fs))) (hv : aok (zY ci b) v = true) (hn : ∀ q, tkR o b q = false) : wS (h.1.set o (.inr (ci, fs.set b v)), s) := by
  refine ⟨fun q ci' fs' i v' e ev => ?_, fun c' i q k => ?_, fun c' t' n' k => ?_⟩
  · by_cases z : o = q
    · subst z
      rw [set_eq' c] at e
      cases e
      rw [List.getElem?_set] at ev
      by_cases y : b = i
      · subst y
        rw [if_pos rfl] at ev
        split at ev
        · cases ev; exact hv
        · cases ev
      · rw [if_neg y] at ev
        exact S.1 _ _ _ _ _ c ev
    · rw [set_ne' z] at e
      exact S.1 q ci' fs' i v' e ev
  · obtain ⟨ci', fs', e1, e2⟩ := S.2.1 c' i q k
    by_cases z : o = c'
    · subst z
      rw [c] at e1
      cases e1
      have y : b ≠ i := fun y => by rw [← y, hn] at k; cases k
      exact ⟨ci, fs.set b v, set_eq' c, by rw [List.getElem?_set, if_neg y]; exact e2⟩
    · exact ⟨ci', fs', (set_ne' z).trans e1, e2⟩
  · have := S.2.2 c' t' n' k
    by_cases z : o = c'
    · subst z
      unfold tyA at this
      rw [c] at this
      cases this
    · unfold tyA at this ⊢
      rw [set_ne' z]
      exact this
theorem vw_obj {h : aH} {o ci b s : Nat} {fs : List Value} {v : Value} (c : h.1[o]? = some (.inr (ci, fs))) (hb : b < fs.length) : vw (h.1.set o (.inr (ci, fs.set b v)), s) = up (vw h) o (b : Nat) (vV v) := by
  funext c' j'
  unfold up
  by_cases z : c' = o
  · subst z
    unfold vw
    rw [set_eq' c, c]
    by_cases q : j' < 0
    · rw [if_pos q, if_pos q, if_neg (by omega)]
    · rw [if_neg q, if_neg q]
      dsimp only
      rw [List.getElem?_set]
      by_cases y : j' = (b : Nat)
      · subst y
        rw [Int.toNat_natCast, if_pos rfl, if_pos hb, if_pos ⟨rfl, rfl⟩]
      · rw [if_neg (by omega), if_neg (fun w => y w.2)]
  · rw [if_neg (fun w => z w.1)]
    exact vw_eq (set_ne' (fun w => z w.symm)) j'
end

-- ===== plot and colour on both sides =====
theorem f40_0 : aF 0 zM40.2.2.2.2.2.2.2 = some (0, (.iload_n 1), 1, 0, 0) := by decide +kernel
theorem f40_1 : aF 1 zM40.2.2.2.2.2.2.2 = some (1, (.bipush 6), 2, 0, 0) := by decide +kernel
theorem f40_3 : aF 3 zM40.2.2.2.2.2.2.2 = some (3, .imul, 1, 0, 0) := by decide +kernel
theorem f40_4 : aF 4 zM40.2.2.2.2.2.2.2 = some (4, (.iload_n 2), 1, 0, 0) := by decide +kernel
theorem f40_5 : aF 5 zM40.2.2.2.2.2.2.2 = some (5, .iadd, 1, 0, 0) := by decide +kernel
theorem f40_6 : aF 6 zM40.2.2.2.2.2.2.2 = some (6, (.istore 4), 2, 0, 0) := by decide +kernel
theorem f40_8 : aF 8 zM40.2.2.2.2.2.2.2 = some (8, (.aload_n 0), 1, 0, 0) := by decide +kernel
theorem f40_9 : aF 9 zM40.2.2.2.2.2.2.2 = some (9, (.getfield 9), 3, 3, 0) := by decide +kernel
theorem f40_12 : aF 12 zM40.2.2.2.2.2.2.2 = some (12, (.iload 4), 2, 0, 0) := by decide +kernel
theorem f40_14 : aF 14 zM40.2.2.2.2.2.2.2 = some (14, .iaload, 1, 0, 0) := by decide +kernel
theorem f40_15 : aF 15 zM40.2.2.2.2.2.2.2 = some (15, (.istore 5), 2, 0, 0) := by decide +kernel
theorem f40_17 : aF 17 zM40.2.2.2.2.2.2.2 = some (17, (.aload_n 0), 1, 0, 0) := by decide +kernel
theorem f40_18 : aF 18 zM40.2.2.2.2.2.2.2 = some (18, (.getfield 9), 3, 3, 0) := by decide +kernel
theorem f40_21 : aF 21 zM40.2.2.2.2.2.2.2 = some (21, (.iload 4), 2, 0, 0) := by decide +kernel
theorem f40_23 : aF 23 zM40.2.2.2.2.2.2.2 = some (23, (.iload_n 3), 1, 0, 0) := by decide +kernel
theorem f40_24 : aF 24 zM40.2.2.2.2.2.2.2 = some (24, .iastore, 1, 0, 0) := by decide +kernel
theorem f40_25 : aF 25 zM40.2.2.2.2.2.2.2 = some (25, (.iload 5), 2, 0, 0) := by decide +kernel
theorem f40_27 : aF 27 zM40.2.2.2.2.2.2.2 = some (27, .ireturn, 1, 0, 0) := by decide +kernel
theorem f45_0 : aF 0 zM45.2.2.2.2.2.2.2 = some (0, (.aload_n 0), 1, 0, 0) := by decide +kernel
theorem f45_1 : aF 1 zM45.2.2.2.2.2.2.2 = some (1, (.getfield 33), 3, 4, 1) := by decide +kernel
theorem f45_4 : aF 4 zM45.2.2.2.2.2.2.2 = some (4, (.bipush 6), 2, 0, 0) := by decide +kernel
theorem f45_6 : aF 6 zM45.2.2.2.2.2.2.2 = some (6, (.if_icmp .ge 23), 3, 29, 0) := by decide +kernel
theorem f45_9 : aF 9 zM45.2.2.2.2.2.2.2 = some (9, (.aload_n 0), 1, 0, 0) := by decide +kernel
theorem f45_10 : aF 10 zM45.2.2.2.2.2.2.2 = some (10, (.getfield 9), 3, 4, 0) := by decide +kernel
theorem f45_13 : aF 13 zM45.2.2.2.2.2.2.2 = some (13, (.aload_n 0), 1, 0, 0) := by decide +kernel
theorem f45_14 : aF 14 zM45.2.2.2.2.2.2.2 = some (14, (.getfield 33), 3, 4, 1) := by decide +kernel
theorem f45_17 : aF 17 zM45.2.2.2.2.2.2.2 = some (17, (.iload_n 1), 1, 0, 0) := by decide +kernel
theorem f45_18 : aF 18 zM45.2.2.2.2.2.2.2 = some (18, .iastore, 1, 0, 0) := by decide +kernel
theorem f45_19 : aF 19 zM45.2.2.2.2.2.2.2 = some (19, (.aload_n 0), 1, 0, 0) := by decide +kernel
theorem f45_20 : aF 20 zM45.2.2.2.2.2.2.2 = some (20, .dup, 1, 0, 0) := by decide +kernel
theorem f45_21 : aF 21 zM45.2.2.2.2.2.2.2 = some (21, (.getfield 33), 3, 4, 1) := by decide +kernel
theorem f45_24 : aF 24 zM45.2.2.2.2.2.2.2 = some (24, (.iconst 1), 1, 0, 0) := by decide +kernel
theorem f45_25 : aF 25 zM45.2.2.2.2.2.2.2 = some (25, .iadd, 1, 0, 0) := by decide +kernel
theorem f45_26 : aF 26 zM45.2.2.2.2.2.2.2 = some (26, (.putfield 33), 3, 4, 1) := by decide +kernel
theorem f45_29 : aF 29 zM45.2.2.2.2.2.2.2 = some (29, (.aload_n 0), 1, 0, 0) := by decide +kernel
theorem f45_30 : aF 30 zM45.2.2.2.2.2.2.2 = some (30, (.getfield 33), 3, 4, 1) := by decide +kernel
theorem f45_33 : aF 33 zM45.2.2.2.2.2.2.2 = some (33, .ireturn, 1, 0, 0) := by decide +kernel
theorem f163_0 : aF 0 zM163.2.2.2.2.2.2.2 = some (0, (.iload_n 1), 1, 0, 0) := by decide +kernel
theorem f163_1 : aF 1 zM163.2.2.2.2.2.2.2 = some (1, (.invokestatic 173), 3, 141, 0) := by decide +kernel
theorem f163_4 : aF 4 zM163.2.2.2.2.2.2.2 = some (4, (.ifCond .eq 22), 3, 26, 0) := by decide +kernel
theorem f163_7 : aF 7 zM163.2.2.2.2.2.2.2 = some (7, (.iload_n 2), 1, 0, 0) := by decide +kernel
theorem f163_8 : aF 8 zM163.2.2.2.2.2.2.2 = some (8, (.iconst 0), 1, 0, 0) := by decide +kernel
theorem f163_9 : aF 9 zM163.2.2.2.2.2.2.2 = some (9, (.iconst 5), 1, 0, 0) := by decide +kernel
theorem f163_10 : aF 10 zM163.2.2.2.2.2.2.2 = some (10, (.invokestatic 85), 3, 137, 0) := by decide +kernel
theorem f163_13 : aF 13 zM163.2.2.2.2.2.2.2 = some (13, (.ifCond .eq 13), 3, 26, 0) := by decide +kernel
theorem f163_16 : aF 16 zM163.2.2.2.2.2.2.2 = some (16, (.iload_n 3), 1, 0, 0) := by decide +kernel
theorem f163_17 : aF 17 zM163.2.2.2.2.2.2.2 = some (17, (.iconst 0), 1, 0, 0) := by decide +kernel
theorem f163_18 : aF 18 zM163.2.2.2.2.2.2.2 = some (18, (.bipush 99), 2, 0, 0) := by decide +kernel
theorem f163_20 : aF 20 zM163.2.2.2.2.2.2.2 = some (20, (.invokestatic 85), 3, 137, 0) := by decide +kernel
theorem f163_23 : aF 23 zM163.2.2.2.2.2.2.2 = some (23, (.ifCond .ne 5), 3, 28, 0) := by decide +kernel
theorem f163_26 : aF 26 zM163.2.2.2.2.2.2.2 = some (26, (.iconst (-1)), 1, 0, 0) := by decide +kernel
theorem f163_27 : aF 27 zM163.2.2.2.2.2.2.2 = some (27, .ireturn, 1, 0, 0) := by decide +kernel
theorem f163_28 : aF 28 zM163.2.2.2.2.2.2.2 = some (28, (.aload_n 0), 1, 0, 0) := by decide +kernel
theorem f163_29 : aF 29 zM163.2.2.2.2.2.2.2 = some (29, (.getfield 67), 3, 11, 7) := by decide +kernel
theorem f163_32 : aF 32 zM163.2.2.2.2.2.2.2 = some (32, (.iload_n 1), 1, 0, 0) := by decide +kernel
theorem f163_33 : aF 33 zM163.2.2.2.2.2.2.2 = some (33, (.iload_n 2), 1, 0, 0) := by decide +kernel
theorem f163_34 : aF 34 zM163.2.2.2.2.2.2.2 = some (34, (.iload_n 3), 1, 0, 0) := by decide +kernel
theorem f163_35 : aF 35 zM163.2.2.2.2.2.2.2 = some (35, (.invokevirtual 232), 3, 40, 0) := by decide +kernel
theorem f163_38 : aF 38 zM163.2.2.2.2.2.2.2 = some (38, .ireturn, 1, 0, 0) := by decide +kernel
theorem f181_0 : aF 0 zM181.2.2.2.2.2.2.2 = some (0, (.iload_n 1), 1, 0, 0) := by decide +kernel
theorem f181_1 : aF 1 zM181.2.2.2.2.2.2.2 = some (1, (.iconst 1), 1, 0, 0) := by decide +kernel
theorem f181_2 : aF 2 zM181.2.2.2.2.2.2.2 = some (2, (.sipush 576), 3, 0, 0) := by decide +kernel
theorem f181_5 : aF 5 zM181.2.2.2.2.2.2.2 = some (5, (.invokestatic 85), 3, 137, 0) := by decide +kernel
theorem f181_8 : aF 8 zM181.2.2.2.2.2.2.2 = some (8, (.ifCond .ne 5), 3, 13, 0) := by decide +kernel
theorem f181_11 : aF 11 zM181.2.2.2.2.2.2.2 = some (11, (.iconst (-1)), 1, 0, 0) := by decide +kernel
theorem f181_12 : aF 12 zM181.2.2.2.2.2.2.2 = some (12, .ireturn, 1, 0, 0) := by decide +kernel
theorem f181_13 : aF 13 zM181.2.2.2.2.2.2.2 = some (13, (.aload_n 0), 1, 0, 0) := by decide +kernel
theorem f181_14 : aF 14 zM181.2.2.2.2.2.2.2 = some (14, (.getfield 60), 3, 11, 6) := by decide +kernel
theorem f181_17 : aF 17 zM181.2.2.2.2.2.2.2 = some (17, (.getfield 327), 3, 4, 1) := by decide +kernel
theorem f181_20 : aF 20 zM181.2.2.2.2.2.2.2 = some (20, (.bipush 6), 2, 0, 0) := by decide +kernel
theorem f181_22 : aF 22 zM181.2.2.2.2.2.2.2 = some (22, (.if_icmp .lt 8), 3, 30, 0) := by decide +kernel
theorem f181_25 : aF 25 zM181.2.2.2.2.2.2.2 = some (25, (.bipush (-3)), 2, 0, 0) := by decide +kernel
theorem f181_27 : aF 27 zM181.2.2.2.2.2.2.2 = some (27, (.goto 11), 3, 38, 0) := by decide +kernel
theorem f181_30 : aF 30 zM181.2.2.2.2.2.2.2 = some (30, (.aload_n 0), 1, 0, 0) := by decide +kernel
theorem f181_31 : aF 31 zM181.2.2.2.2.2.2.2 = some (31, (.getfield 60), 3, 11, 6) := by decide +kernel
theorem f181_34 : aF 34 zM181.2.2.2.2.2.2.2 = some (34, (.iload_n 1), 1, 0, 0) := by decide +kernel
theorem f181_35 : aF 35 zM181.2.2.2.2.2.2.2 = some (35, (.invokevirtual 328), 3, 45, 0) := by decide +kernel
theorem f181_38 : aF 38 zM181.2.2.2.2.2.2.2 = some (38, .ireturn, 1, 0, 0) := by decide +kernel
theorem f245_0 : aF 0 zM245.2.2.2.2.2.2.2 = some (0, (.iload_n 1), 1, 0, 0) := by decide +kernel
theorem f245_1 : aF 1 zM245.2.2.2.2.2.2.2 = some (1, (.iconst 0), 1, 0, 0) := by decide +kernel
theorem f245_2 : aF 2 zM245.2.2.2.2.2.2.2 = some (2, (.bipush 7), 2, 0, 0) := by decide +kernel
theorem f245_4 : aF 4 zM245.2.2.2.2.2.2.2 = some (4, (.invokestatic 258), 3, 196, 0) := by decide +kernel
theorem f245_7 : aF 7 zM245.2.2.2.2.2.2.2 = some (7, (.ifCond .eq 22), 3, 29, 0) := by decide +kernel
theorem f245_10 : aF 10 zM245.2.2.2.2.2.2.2 = some (10, (.iload_n 2), 1, 0, 0) := by decide +kernel
theorem f245_11 : aF 11 zM245.2.2.2.2.2.2.2 = some (11, (.iconst 0), 1, 0, 0) := by decide +kernel
theorem f245_12 : aF 12 zM245.2.2.2.2.2.2.2 = some (12, (.iconst 5), 1, 0, 0) := by decide +kernel
theorem f245_13 : aF 13 zM245.2.2.2.2.2.2.2 = some (13, (.invokestatic 258), 3, 196, 0) := by decide +kernel
theorem f245_16 : aF 16 zM245.2.2.2.2.2.2.2 = some (16, (.ifCond .eq 13), 3, 29, 0) := by decide +kernel
theorem f245_19 : aF 19 zM245.2.2.2.2.2.2.2 = some (19, (.iload_n 3), 1, 0, 0) := by decide +kernel
theorem f245_20 : aF 20 zM245.2.2.2.2.2.2.2 = some (20, (.iconst 0), 1, 0, 0) := by decide +kernel
theorem f245_21 : aF 21 zM245.2.2.2.2.2.2.2 = some (21, (.bipush 99), 2, 0, 0) := by decide +kernel
theorem f245_23 : aF 23 zM245.2.2.2.2.2.2.2 = some (23, (.invokestatic 258), 3, 196, 0) := by decide +kernel
theorem f245_26 : aF 26 zM245.2.2.2.2.2.2.2 = some (26, (.ifCond .ne 5), 3, 31, 0) := by decide +kernel
theorem f245_29 : aF 29 zM245.2.2.2.2.2.2.2 = some (29, (.iconst (-1)), 1, 0, 0) := by decide +kernel
theorem f245_30 : aF 30 zM245.2.2.2.2.2.2.2 = some (30, .ireturn, 1, 0, 0) := by decide +kernel
theorem f245_31 : aF 31 zM245.2.2.2.2.2.2.2 = some (31, (.aload_n 0), 1, 0, 0) := by decide +kernel
theorem f245_32 : aF 32 zM245.2.2.2.2.2.2.2 = some (32, (.getfield 136), 3, 12, 49) := by decide +kernel
theorem f245_35 : aF 35 zM245.2.2.2.2.2.2.2 = some (35, (.bipush 6), 2, 0, 0) := by decide +kernel
theorem f245_37 : aF 37 zM245.2.2.2.2.2.2.2 = some (37, (.iload_n 1), 1, 0, 0) := by decide +kernel
theorem f245_38 : aF 38 zM245.2.2.2.2.2.2.2 = some (38, .imul, 1, 0, 0) := by decide +kernel
theorem f245_39 : aF 39 zM245.2.2.2.2.2.2.2 = some (39, (.iload_n 2), 1, 0, 0) := by decide +kernel
theorem f245_40 : aF 40 zM245.2.2.2.2.2.2.2 = some (40, .iadd, 1, 0, 0) := by decide +kernel
theorem f245_41 : aF 41 zM245.2.2.2.2.2.2.2 = some (41, .iaload, 1, 0, 0) := by decide +kernel
theorem f245_42 : aF 42 zM245.2.2.2.2.2.2.2 = some (42, (.istore 4), 2, 0, 0) := by decide +kernel
theorem f245_44 : aF 44 zM245.2.2.2.2.2.2.2 = some (44, (.aload_n 0), 1, 0, 0) := by decide +kernel
theorem f245_45 : aF 45 zM245.2.2.2.2.2.2.2 = some (45, (.getfield 136), 3, 12, 49) := by decide +kernel
theorem f245_48 : aF 48 zM245.2.2.2.2.2.2.2 = some (48, (.bipush 6), 2, 0, 0) := by decide +kernel
theorem f245_50 : aF 50 zM245.2.2.2.2.2.2.2 = some (50, (.iload_n 1), 1, 0, 0) := by decide +kernel
theorem f245_51 : aF 51 zM245.2.2.2.2.2.2.2 = some (51, .imul, 1, 0, 0) := by decide +kernel
theorem f245_52 : aF 52 zM245.2.2.2.2.2.2.2 = some (52, (.iload_n 2), 1, 0, 0) := by decide +kernel
theorem f245_53 : aF 53 zM245.2.2.2.2.2.2.2 = some (53, .iadd, 1, 0, 0) := by decide +kernel
theorem f245_54 : aF 54 zM245.2.2.2.2.2.2.2 = some (54, (.iload_n 3), 1, 0, 0) := by decide +kernel
theorem f245_55 : aF 55 zM245.2.2.2.2.2.2.2 = some (55, .iastore, 1, 0, 0) := by decide +kernel
theorem f245_56 : aF 56 zM245.2.2.2.2.2.2.2 = some (56, (.iload 4), 2, 0, 0) := by decide +kernel
theorem f245_58 : aF 58 zM245.2.2.2.2.2.2.2 = some (58, .ireturn, 1, 0, 0) := by decide +kernel
theorem f299_0 : aF 0 zM299.2.2.2.2.2.2.2 = some (0, (.iload_n 1), 1, 0, 0) := by decide +kernel
theorem f299_1 : aF 1 zM299.2.2.2.2.2.2.2 = some (1, (.iconst 1), 1, 0, 0) := by decide +kernel
theorem f299_2 : aF 2 zM299.2.2.2.2.2.2.2 = some (2, (.sipush 576), 3, 0, 0) := by decide +kernel
theorem f299_5 : aF 5 zM299.2.2.2.2.2.2.2 = some (5, (.invokestatic 258), 3, 196, 0) := by decide +kernel
theorem f299_8 : aF 8 zM299.2.2.2.2.2.2.2 = some (8, (.ifCond .ne 5), 3, 13, 0) := by decide +kernel
theorem f299_11 : aF 11 zM299.2.2.2.2.2.2.2 = some (11, (.iconst (-1)), 1, 0, 0) := by decide +kernel
theorem f299_12 : aF 12 zM299.2.2.2.2.2.2.2 = some (12, .ireturn, 1, 0, 0) := by decide +kernel
theorem f299_13 : aF 13 zM299.2.2.2.2.2.2.2 = some (13, (.aload_n 0), 1, 0, 0) := by decide +kernel
theorem f299_14 : aF 14 zM299.2.2.2.2.2.2.2 = some (14, (.getfield 546), 3, 12, 87) := by decide +kernel
theorem f299_17 : aF 17 zM299.2.2.2.2.2.2.2 = some (17, (.bipush 6), 2, 0, 0) := by decide +kernel
theorem f299_19 : aF 19 zM299.2.2.2.2.2.2.2 = some (19, (.if_icmp .ne 6), 3, 25, 0) := by decide +kernel
theorem f299_22 : aF 22 zM299.2.2.2.2.2.2.2 = some (22, (.bipush (-3)), 2, 0, 0) := by decide +kernel
theorem f299_24 : aF 24 zM299.2.2.2.2.2.2.2 = some (24, .ireturn, 1, 0, 0) := by decide +kernel
theorem f299_25 : aF 25 zM299.2.2.2.2.2.2.2 = some (25, (.aload_n 0), 1, 0, 0) := by decide +kernel
theorem f299_26 : aF 26 zM299.2.2.2.2.2.2.2 = some (26, (.getfield 222), 3, 12, 88) := by decide +kernel
theorem f299_29 : aF 29 zM299.2.2.2.2.2.2.2 = some (29, (.aload_n 0), 1, 0, 0) := by decide +kernel
theorem f299_30 : aF 30 zM299.2.2.2.2.2.2.2 = some (30, (.getfield 546), 3, 12, 87) := by decide +kernel
theorem f299_33 : aF 33 zM299.2.2.2.2.2.2.2 = some (33, (.iload_n 1), 1, 0, 0) := by decide +kernel
theorem f299_34 : aF 34 zM299.2.2.2.2.2.2.2 = some (34, .iastore, 1, 0, 0) := by decide +kernel
theorem f299_35 : aF 35 zM299.2.2.2.2.2.2.2 = some (35, (.aload_n 0), 1, 0, 0) := by decide +kernel
theorem f299_36 : aF 36 zM299.2.2.2.2.2.2.2 = some (36, .dup, 1, 0, 0) := by decide +kernel
theorem f299_37 : aF 37 zM299.2.2.2.2.2.2.2 = some (37, (.getfield 546), 3, 12, 87) := by decide +kernel
theorem f299_40 : aF 40 zM299.2.2.2.2.2.2.2 = some (40, (.iconst 1), 1, 0, 0) := by decide +kernel
theorem f299_41 : aF 41 zM299.2.2.2.2.2.2.2 = some (41, .iadd, 1, 0, 0) := by decide +kernel
theorem f299_42 : aF 42 zM299.2.2.2.2.2.2.2 = some (42, (.putfield 546), 3, 12, 87) := by decide +kernel
theorem f299_45 : aF 45 zM299.2.2.2.2.2.2.2 = some (45, (.aload_n 0), 1, 0, 0) := by decide +kernel
theorem f299_46 : aF 46 zM299.2.2.2.2.2.2.2 = some (46, (.getfield 546), 3, 12, 87) := by decide +kernel
theorem f299_49 : aF 49 zM299.2.2.2.2.2.2.2 = some (49, .ireturn, 1, 0, 0) := by decide +kernel
/-- what plot answers, and how many plots stand then -/
def plf (x t r t' : Int32) : Prop := (¬ (1 ≤ x.toInt ∧ x.toInt ≤ 576) ∧ r.toInt = -1 ∧ t' = t) ∨ ((1 ≤ x.toInt ∧ x.toInt ≤ 576) ∧ 6 ≤ t.toInt ∧ r.toInt = -3 ∧ t' = t) ∨ ((1 ≤ x.toInt ∧ x.toInt ≤ 576) ∧ t.toInt < 6 ∧ r.toInt = t.toInt + 1 ∧ t'.toInt = t.toInt + 1)
theorem plf_eq {x t r1 t1 r2 t2 : Int32} (h1 : plf x t r1 t1) (h2 : plf x t r2 t2) : r1.toInt = r2.toInt ∧ t1 = t2 := by
  unfold plf at h1 h2
  rcases h1 with ⟨a, b, c⟩ | ⟨a, d, b, c⟩ | ⟨a, d, b, c⟩ <;> rcases h2 with ⟨a', b', c'⟩ | ⟨a', d', b', c'⟩ | ⟨a', d', b', c'⟩
  all_goals first
    | exact absurd a a'
    | exact absurd a' a
    | (exfalso; omega)
    | exact ⟨by omega, c.trans c'.symm⟩
    | exact ⟨by omega, b_i.mpr (by omega)⟩
/-- what colour answers, and the row that stands then -/
def clc (x y z : Int32) (g : Nat → Int32) (r : Int32) (g' : Nat → Int32) : Prop := ((0 ≤ x.toInt ∧ x.toInt ≤ 7 ∧ 0 ≤ y.toInt ∧ y.toInt ≤ 5 ∧ 0 ≤ z.toInt ∧ z.toInt ≤ 99) ∧ r = g (6 * x.toInt + y.toInt).toNat ∧ g' = upd g (6 * x.toInt + y.toInt).toNat z) ∨ (¬ (0 ≤ x.toInt ∧ x.toInt ≤ 7 ∧ 0 ≤ y.toInt ∧ y.toInt ≤ 5 ∧ 0 ≤ z.toInt ∧ z.toInt ≤ 99) ∧ r.toInt = -1 ∧ g' = g)
theorem clc_eq {x y z r1 r2 : Int32} {g1 g1' g2 g2' : Nat → Int32} (h1 : clc x y z g1 r1 g1') (h2 : clc x y z g2 r2 g2') (e : ∀ j, j < 48 → g1 j = g2 j) : r1.toInt = r2.toInt ∧ ∀ j, j < 48 → g1' j = g2' j := by
  unfold clc at h1 h2
  rcases h1 with ⟨a, b, c⟩ | ⟨a, b, c⟩ <;> rcases h2 with ⟨a', b', c'⟩ | ⟨a', b', c'⟩
  · subst b b' c c'
    refine ⟨by rw [e _ (by omega)], fun j hj => ?_⟩
    unfold upd
    rw [e j hj]
  · exact absurd a a'
  · exact absurd a' a
  · subst c c'
    exact ⟨by omega, e⟩
theorem add_45 {X : aX} {σ : List Nat} {h : aH} {x t : Int32} {fs : List Value} (I : dI σ h) (c : h.1[55]? = some (.inr (4, fs))) (F : fs[1]? = some (.int t)) (t0 : 0 ≤ t.toInt) (t6 : t.toInt < 6) : Wp X 0 zM45 (fun v h' => dI σ h' ∧ dG [(55, 1), (56, 0)] σ h σ h' ∧ ∃ (r : Int32) (fs' : List Value), v = some (.int r) ∧ h'.1[55]? = some (.inr (4, fs')) ∧ fs'[1]? = some (.int r) ∧ r.toInt = t.toInt + 1) 0 [some (.ref 55), some (.int x)] [] h := by
  refine wp1 (fun n d => r_aloadn f45_0 rfl) ?_
  refine w_get f45_1 c F ?_
  refine w_bipush f45_4 (fun v4 hv4 => ?_)
  refine w_icmp_ge f45_6 (fun q => absurd q (by omega)) (fun q => ?_)
  refine wp1 (fun n d => r_aloadn f45_9 rfl) ?_
  have F1001 := hI_r I c (f := 0) (q := 56) (by decide +kernel)
  refine w_get f45_10 c F1001 ?_
  refine wp1 (fun n d => r_aloadn f45_13 rfl) ?_
  refine w_get f45_14 c F ?_
  refine wp1 (fun n d => r_iloadn f45_17 rfl) ?_
  obtain ⟨g1002, c1002, R1002⟩ := hI_a I (r := 56) (a := 0) (n := 6) (lo := (-2147483648)) (hi := 2147483647) (by decide +kernel)
  refine w_iastI f45_18 c1002 (by omega) (by omega) I (W := [(55, 1), (56, 0)]) (lo := (-2147483648)) (hi := 2147483647) (by decide +kernel) (by decide) (iR x).1 (iR x).2 (fun h1003 I1003 G1003 c1003 ne1003 => ?_)
  obtain ⟨g1003, hg1003⟩ : ∃ g', g' = upd g1002 t.toInt.toNat x := ⟨_, rfl⟩
  rw [← hg1003] at c1003
  have c1004 := (ne1003 55 (by decide)).trans c
  refine wp1 (fun n d => r_aloadn f45_19 rfl) ?_
  refine wp1 (fun n d => r_dup f45_20 rfl) ?_
  refine w_get f45_21 c1004 F ?_
  refine w_iconst f45_24 (fun v24 hv24 => ?_)
  refine w_iadd f45_25 (by omega) (by omega) (fun v25 hv25 => ?_)
  refine w_putI f45_26 c1004 I1003 (W := [(55, 1), (56, 0)]) (lo := 0) (hi := 6) (by decide +kernel) (by decide) (by decide) (by omega) (by omega) (by decide) (by first | rfl | (simp [aok, zY])) (fun h1005 fs1005 I1005 G1005 c1005 Fx1005 nf1005 ne1005 => ?_)
  have c1006 := (ne1005 56 (by decide)).trans c1003
  have F1007 := (nf1005 0 (by decide)).trans F1001
  refine wp1 (fun n d => r_aloadn f45_29 rfl) ?_
  refine w_get f45_30 c1005 Fx1005 ?_
  exact wp_end (fun n d => r_ireturn f45_33 rfl) ⟨I1005, (dG_trans G1003 G1005), _, _, rfl, c1005, Fx1005, by omega⟩
theorem plot_181 {X : aX} {σ : List Nat} {h : aH} {x t : Int32} {fs : List Value} (I : dI σ h) (c : h.1[55]? = some (.inr (4, fs))) (F : fs[1]? = some (.int t)) : Wp X 1 zM181 (fun v h' => dI σ h' ∧ dG [(55, 1), (56, 0)] σ h σ h' ∧ ∃ (r t' : Int32) (fs' : List Value), v = some (.int r) ∧ h'.1[55]? = some (.inr (4, fs')) ∧ fs'[1]? = some (.int t') ∧ plf x t r t') 0 [some (.ref 0), some (.int x)] [] h := by
  obtain ⟨t0, F0, tl, th⟩ := hI_i I c (f := 1) (lo := 0) (hi := 6) (by decide +kernel)
  cases F.symm.trans F0
  refine wp1 (fun n d => r_iloadn f181_0 rfl) ?_
  refine w_iconst f181_1 (fun v1 hv1 => ?_)
  refine w_sipush f181_2 (fun v2 hv2 => ?_)
  refine wp_in (lv := 0) (Y := zM137) (within_wp) (fun n d v h' e => r_stat (as := [.int x, .int v1, .int v2]) (r := []) f181_5 rfl (show zmt[137]? = some zM137 from rfl) rfl rfl rfl rfl rfl rfl e) (by first | decide | omega) ?_
  rintro v h' ⟨rfl, v5, rfl, z1, hr1⟩
  show Wp _ _ _ _ 8 [some (.ref 0), some (.int x)] [.int v5] _
  refine w_if_ne f181_8 (fun q2 => ?_) (fun q => w_iconst f181_11 (fun v hv => wp_end (fun n d => r_ireturn f181_12 rfl) ⟨I, dG_refl _ _ _, v, t, fs, rfl, c, F, Or.inl ⟨fun q9 => by have := hr1.mpr ⟨by omega, by omega⟩; omega, hv, rfl⟩⟩))
  have w1 := hr1.mp (by omega)
  refine wp1 (fun n d => r_aloadn f181_13 rfl) ?_
  obtain ⟨fs1001, c1001⟩ := hI_o I (r := 0) (ci := 11) (by decide +kernel)
  have F1002 := hI_r I c1001 (f := 6) (q := 55) (by decide +kernel)
  refine w_get f181_14 c1001 F1002 ?_
  refine w_get f181_17 c F ?_
  refine w_bipush f181_20 (fun v20 hv20 => ?_)
  refine w_icmp_lt f181_22 (fun q => ?_) (fun q => ?_)
  · refine wp1 (fun n d => r_aloadn f181_30 rfl) ?_
    refine w_get f181_31 c1001 F1002 ?_
    refine wp1 (fun n d => r_iloadn f181_34 rfl) ?_
    refine wp_in (lv := 0) (Y := zM45) (add_45 (x := x) I c F (by omega) (by omega)) (fun n d v h' e => r_virt (as := [.int x]) (r := []) f181_35 c (show zmt[45]? = some zM45 from rfl) rfl rfl rfl rfl rfl rfl e) (by decide) ?_
    rintro v' h1 ⟨I1, G1, r, fs1, rfl, d1, b1, e1⟩
    exact wp_end (fun n d => r_ireturn f181_38 rfl) ⟨I1, G1, r, r, fs1, rfl, d1, b1, Or.inr (Or.inr ⟨⟨by omega, by omega⟩, by omega, e1, e1⟩)⟩
  · refine w_bipush f181_25 (fun v25 hv25 => ?_)
    refine wp1 (fun n d => r_goto f181_27) ?_
    exact wp_end (fun n d => r_ireturn f181_38 rfl) ⟨I, dG_refl _ _ _, v25, t, _, rfl, c, F, Or.inr (Or.inl ⟨⟨by omega, by omega⟩, by omega, by omega, rfl⟩)⟩
theorem plot_299 {X : aX} {σ : List Nat} {h : aH} {x t : Int32} {fs : List Value} (I : dI σ h) (c : h.1[72]? = some (.inr (12, fs))) (F : fs[87]? = some (.int t)) : Wp X 1 zM299 (fun v h' => dI σ h' ∧ dG [(72, 87), (136, 0)] σ h σ h' ∧ ∃ (r t' : Int32) (fs' : List Value), v = some (.int r) ∧ h'.1[72]? = some (.inr (12, fs')) ∧ fs'[87]? = some (.int t') ∧ plf x t r t') 0 [some (.ref 72), some (.int x)] [] h := by
  obtain ⟨t0, F0, tl, th⟩ := hI_i I c (f := 87) (lo := 0) (hi := 6) (by decide +kernel)
  cases F.symm.trans F0
  refine wp1 (fun n d => r_iloadn f299_0 rfl) ?_
  refine w_iconst f299_1 (fun v1 hv1 => ?_)
  refine w_sipush f299_2 (fun v2 hv2 => ?_)
  refine wp_in (lv := 0) (Y := zM196) (inx_wp) (fun n d v h' e => r_stat (as := [.int x, .int v1, .int v2]) (r := []) f299_5 rfl (show zmt[196]? = some zM196 from rfl) rfl rfl rfl rfl rfl rfl e) (by first | decide | omega) ?_
  rintro v h' ⟨rfl, v5, rfl, z1, hr1⟩
  show Wp _ _ _ _ 8 [some (.ref 72), some (.int x)] [.int v5] _
  refine w_if_ne f299_8 (fun q2 => ?_) (fun q => w_iconst f299_11 (fun v hv => wp_end (fun n d => r_ireturn f299_12 rfl) ⟨I, dG_refl _ _ _, v, t, fs, rfl, c, F, Or.inl ⟨fun q9 => by have := hr1.mpr ⟨by omega, by omega⟩; omega, hv, rfl⟩⟩))
  have w1 := hr1.mp (by omega)
  refine wp1 (fun n d => r_aloadn f299_13 rfl) ?_
  refine w_get f299_14 c F ?_
  refine w_bipush f299_17 (fun v17 hv17 => ?_)
  refine w_icmp_ne f299_19 (fun q => ?_) (fun q => ?_)
  · refine wp1 (fun n d => r_aloadn f299_25 rfl) ?_
    have F1001 := hI_r I c (f := 88) (q := 136) (by decide +kernel)
    refine w_get f299_26 c F1001 ?_
    refine wp1 (fun n d => r_aloadn f299_29 rfl) ?_
    refine w_get f299_30 c F ?_
    refine wp1 (fun n d => r_iloadn f299_33 rfl) ?_
    obtain ⟨g1002, c1002, R1002⟩ := hI_a I (r := 136) (a := 0) (n := 6) (lo := (-2147483648)) (hi := 2147483647) (by decide +kernel)
    refine w_iastI f299_34 c1002 (by omega) (by omega) I (W := [(72, 87), (136, 0)]) (lo := (-2147483648)) (hi := 2147483647) (by decide +kernel) (by decide) (iR x).1 (iR x).2 (fun h1003 I1003 G1003 c1003 ne1003 => ?_)
    obtain ⟨g1003, hg1003⟩ : ∃ g', g' = upd g1002 t.toInt.toNat x := ⟨_, rfl⟩
    rw [← hg1003] at c1003
    have c1004 := (ne1003 72 (by decide)).trans c
    refine wp1 (fun n d => r_aloadn f299_35 rfl) ?_
    refine wp1 (fun n d => r_dup f299_36 rfl) ?_
    refine w_get f299_37 c1004 F ?_
    refine w_iconst f299_40 (fun v40 hv40 => ?_)
    refine w_iadd f299_41 (by omega) (by omega) (fun v41 hv41 => ?_)
    refine w_putI f299_42 c1004 I1003 (W := [(72, 87), (136, 0)]) (lo := 0) (hi := 6) (by decide +kernel) (by decide) (by decide) (by omega) (by omega) (by decide) (by first | rfl | (simp [aok, zY])) (fun h1005 fs1005 I1005 G1005 c1005 Fx1005 nf1005 ne1005 => ?_)
    have c1006 := (ne1005 136 (by decide)).trans c1003
    have F1007 := (nf1005 88 (by decide)).trans F1001
    refine wp1 (fun n d => r_aloadn f299_45 rfl) ?_
    refine w_get f299_46 c1005 Fx1005 ?_
    exact wp_end (fun n d => r_ireturn f299_49 rfl) ⟨I1005, (dG_trans G1003 G1005), _, _, _, rfl, c1005, Fx1005, Or.inr (Or.inr ⟨⟨by omega, by omega⟩, by omega, by omega, by omega⟩)⟩
  · refine w_bipush f299_22 (fun v22 hv22 => ?_)
    exact wp_end (fun n d => r_ireturn f299_24 rfl) ⟨I, dG_refl _ _ _, v22, t, _, rfl, c, F, Or.inr (Or.inl ⟨⟨by omega, by omega⟩, by omega, by omega, rfl⟩)⟩
theorem paint_40 {X : aX} {σ : List Nat} {h : aH} {x y z : Int32} {g : Nat → Int32} (I : dI σ h) (c : h.1[64]? = some (.inl (0, 48, .inl g))) (x0 : 0 ≤ x.toInt) (x7 : x.toInt ≤ 7) (y0 : 0 ≤ y.toInt) (y5 : y.toInt ≤ 5) : Wp X 0 zM40 (fun v h' => dI σ h' ∧ dG [(64, 0)] σ h σ h' ∧ ∃ (r : Int32) (g' : Nat → Int32), v = some (.int r) ∧ h'.1[64]? = some (.inl (0, 48, .inl g')) ∧ r = g (6 * x.toInt + y.toInt).toNat ∧ g' = upd g (6 * x.toInt + y.toInt).toNat z) 0 [some (.ref 63), some (.int x), some (.int y), some (.int z), none, none] [] h := by
  refine wp1 (fun n d => r_iloadn f40_0 rfl) ?_
  refine w_bipush f40_1 (fun v1 hv1 => ?_)
  refine w_imul f40_3 (by rw [hv1]; omega) (by rw [hv1]; omega) (fun v3 hv3 => ?_)
  rw [hv1] at hv3
  refine wp1 (fun n d => r_iloadn f40_4 rfl) ?_
  refine w_iadd f40_5 (by omega) (by omega) (fun v5 hv5 => ?_)
  refine wp1 (fun n d => r_istore (L' := [some (.ref 63), some (.int x), some (.int y), some (.int z), some (.int v5), none]) f40_6 rfl rfl) ?_
  refine wp1 (fun n d => r_aloadn f40_8 rfl) ?_
  obtain ⟨fs1001, c1001⟩ := hI_o I (r := 63) (ci := 3) (by decide +kernel)
  have F1002 := hI_r I c1001 (f := 0) (q := 64) (by decide +kernel)
  refine w_get f40_9 c1001 F1002 ?_
  refine wp1 (fun n d => r_iload f40_12 rfl) ?_
  refine w_iald f40_14 c (by omega) (by omega) (fun v14 hv14 => ?_)
  refine wp1 (fun n d => r_istore (L' := [some (.ref 63), some (.int x), some (.int y), some (.int z), some (.int v5), some (.int v14)]) f40_15 rfl rfl) ?_
  refine wp1 (fun n d => r_aloadn f40_17 rfl) ?_
  refine w_get f40_18 c1001 F1002 ?_
  refine wp1 (fun n d => r_iload f40_21 rfl) ?_
  refine wp1 (fun n d => r_iloadn f40_23 rfl) ?_
  refine w_iastI f40_24 c (by omega) (by omega) I (W := [(64, 0)]) (lo := (-2147483648)) (hi := 2147483647) (by decide +kernel) (by decide) (iR z).1 (iR z).2 (fun h1003 I1003 G1003 c1003 ne1003 => ?_)
  obtain ⟨g1003, hg1003⟩ : ∃ g', g' = upd g v5.toInt.toNat z := ⟨_, rfl⟩
  rw [← hg1003] at c1003
  have c1004 := (ne1003 63 (by decide)).trans c1001
  refine wp1 (fun n d => r_iload f40_25 rfl) ?_
  have ei : v5.toInt = 6 * x.toInt + y.toInt := by omega
  exact wp_end (fun n d => r_ireturn f40_27 rfl) ⟨I1003, G1003, _, _, rfl, c1003, by rw [hv14, ei], by rw [hg1003, ei]⟩
theorem colour_163 {X : aX} {σ : List Nat} {h : aH} {x y z : Int32} {g : Nat → Int32} (I : dI σ h) (c : h.1[64]? = some (.inl (0, 48, .inl g))) : Wp X 2 zM163 (fun v h' => dI σ h' ∧ dG [(64, 0)] σ h σ h' ∧ ∃ (r : Int32) (g' : Nat → Int32), v = some (.int r) ∧ h'.1[64]? = some (.inl (0, 48, .inl g')) ∧ clc x y z g r g') 0 [some (.ref 0), some (.int x), some (.int y), some (.int z)] [] h := by
  have kb : ¬ (0 ≤ x.toInt ∧ x.toInt ≤ 7 ∧ 0 ≤ y.toInt ∧ y.toInt ≤ 5 ∧ 0 ≤ z.toInt ∧ z.toInt ≤ 99) → Wp X 2 zM163 (fun v h' => dI σ h' ∧ dG [(64, 0)] σ h σ h' ∧ ∃ (r : Int32) (g' : Nat → Int32), v = some (.int r) ∧ h'.1[64]? = some (.inl (0, 48, .inl g')) ∧ clc x y z g r g') 26 [some (.ref 0), some (.int x), some (.int y), some (.int z)] [] h := fun q => w_iconst f163_26 (fun v hv => wp_end (fun n d => r_ireturn f163_27 rfl) ⟨I, dG_refl _ _ _, v, g, rfl, c, Or.inr ⟨q, hv, rfl⟩⟩)
  refine wp1 (fun n d => r_iloadn f163_0 rfl) ?_
  refine wp_in (lv := 1) (Y := zM141) (rng_141) (fun n d v h' e => r_stat (as := [.int x]) (r := []) f163_1 rfl (show zmt[141]? = some zM141 from rfl) rfl rfl rfl rfl rfl rfl e) (by first | decide | omega) ?_
  rintro v h' ⟨rfl, v1, rfl, z1, hr1⟩
  show Wp _ _ _ _ 4 [some (.ref 0), some (.int x), some (.int y), some (.int z)] [.int v1] _
  refine w_if_eq f163_4 (fun q => kb (by omega)) (fun q1 => ?_)
  refine wp1 (fun n d => r_iloadn f163_7 rfl) ?_
  refine w_iconst f163_8 (fun v8 hv8 => ?_)
  refine w_iconst f163_9 (fun v9 hv9 => ?_)
  refine wp_in (lv := 0) (Y := zM137) (within_wp) (fun n d v h' e => r_stat (as := [.int y, .int v8, .int v9]) (r := []) f163_10 rfl (show zmt[137]? = some zM137 from rfl) rfl rfl rfl rfl rfl rfl e) (by first | decide | omega) ?_
  rintro v h' ⟨rfl, v10, rfl, z2, hr2⟩
  show Wp _ _ _ _ 13 [some (.ref 0), some (.int x), some (.int y), some (.int z)] [.int v10] _
  refine w_if_eq f163_13 (fun q => kb (by omega)) (fun q2 => ?_)
  refine wp1 (fun n d => r_iloadn f163_16 rfl) ?_
  refine w_iconst f163_17 (fun v17 hv17 => ?_)
  refine w_bipush f163_18 (fun v18 hv18 => ?_)
  refine wp_in (lv := 0) (Y := zM137) (within_wp) (fun n d v h' e => r_stat (as := [.int z, .int v17, .int v18]) (r := []) f163_20 rfl (show zmt[137]? = some zM137 from rfl) rfl rfl rfl rfl rfl rfl e) (by first | decide | omega) ?_
  rintro v h' ⟨rfl, v20, rfl, z3, hr3⟩
  show Wp _ _ _ _ 23 [some (.ref 0), some (.int x), some (.int y), some (.int z)] [.int v20] _
  refine w_if_ne f163_23 (fun q3 => ?_) (fun q => kb (by omega))
  have w1 := hr1.mp (by omega)
  have w2 := hr2.mp (by omega)
  have w3 := hr3.mp (by omega)
  refine wp1 (fun n d => r_aloadn f163_28 rfl) ?_
  obtain ⟨fs1001, c1001⟩ := hI_o I (r := 0) (ci := 11) (by decide +kernel)
  have F1002 := hI_r I c1001 (f := 7) (q := 63) (by decide +kernel)
  refine w_get f163_29 c1001 F1002 ?_
  refine wp1 (fun n d => r_iloadn f163_32 rfl) ?_
  refine wp1 (fun n d => r_iloadn f163_33 rfl) ?_
  refine wp1 (fun n d => r_iloadn f163_34 rfl) ?_
  obtain ⟨fs1003, c1003⟩ := hI_o I (r := 63) (ci := 3) (by decide +kernel)
  refine wp_in (lv := 0) (Y := zM40) (paint_40 (x := x) (y := y) (z := z) I c (by omega) (by omega) (by omega) (by omega)) (fun n d v h' e => r_virt (as := [.int x, .int y, .int z]) (r := []) f163_35 c1003 (show zmt[40]? = some zM40 from rfl) rfl rfl rfl rfl rfl rfl e) (by decide) ?_
  rintro v' h1 ⟨I1, G1, r, g1, rfl, d1, b1, b2⟩
  exact wp_end (fun n d => r_ireturn f163_38 rfl) ⟨I1, G1, r, g1, rfl, d1, Or.inl ⟨⟨by omega, by omega, by omega, by omega, by omega, by omega⟩, b1, b2⟩⟩
theorem colour_245 {X : aX} {σ : List Nat} {h : aH} {x y z : Int32} {g : Nat → Int32} (I : dI σ h) (c : h.1[112]? = some (.inl (0, 48, .inl g))) : Wp X 1 zM245 (fun v h' => dI σ h' ∧ dG [(112, 0)] σ h σ h' ∧ ∃ (r : Int32) (g' : Nat → Int32), v = some (.int r) ∧ h'.1[112]? = some (.inl (0, 48, .inl g')) ∧ clc x y z g r g') 0 [some (.ref 72), some (.int x), some (.int y), some (.int z), none] [] h := by
  have kb : ¬ (0 ≤ x.toInt ∧ x.toInt ≤ 7 ∧ 0 ≤ y.toInt ∧ y.toInt ≤ 5 ∧ 0 ≤ z.toInt ∧ z.toInt ≤ 99) → Wp X 1 zM245 (fun v h' => dI σ h' ∧ dG [(112, 0)] σ h σ h' ∧ ∃ (r : Int32) (g' : Nat → Int32), v = some (.int r) ∧ h'.1[112]? = some (.inl (0, 48, .inl g')) ∧ clc x y z g r g') 29 [some (.ref 72), some (.int x), some (.int y), some (.int z), none] [] h := fun q => w_iconst f245_29 (fun v hv => wp_end (fun n d => r_ireturn f245_30 rfl) ⟨I, dG_refl _ _ _, v, g, rfl, c, Or.inr ⟨q, hv, rfl⟩⟩)
  refine wp1 (fun n d => r_iloadn f245_0 rfl) ?_
  refine w_iconst f245_1 (fun v1 hv1 => ?_)
  refine w_bipush f245_2 (fun v2 hv2 => ?_)
  refine wp_in (lv := 0) (Y := zM196) (inx_wp) (fun n d v h' e => r_stat (as := [.int x, .int v1, .int v2]) (r := []) f245_4 rfl (show zmt[196]? = some zM196 from rfl) rfl rfl rfl rfl rfl rfl e) (by first | decide | omega) ?_
  rintro v h' ⟨rfl, v4, rfl, z1, hr1⟩
  show Wp _ _ _ _ 7 [some (.ref 72), some (.int x), some (.int y), some (.int z), none] [.int v4] _
  refine w_if_eq f245_7 (fun q => kb (by omega)) (fun q1 => ?_)
  refine wp1 (fun n d => r_iloadn f245_10 rfl) ?_
  refine w_iconst f245_11 (fun v11 hv11 => ?_)
  refine w_iconst f245_12 (fun v12 hv12 => ?_)
  refine wp_in (lv := 0) (Y := zM196) (inx_wp) (fun n d v h' e => r_stat (as := [.int y, .int v11, .int v12]) (r := []) f245_13 rfl (show zmt[196]? = some zM196 from rfl) rfl rfl rfl rfl rfl rfl e) (by first | decide | omega) ?_
  rintro v h' ⟨rfl, v13, rfl, z2, hr2⟩
  show Wp _ _ _ _ 16 [some (.ref 72), some (.int x), some (.int y), some (.int z), none] [.int v13] _
  refine w_if_eq f245_16 (fun q => kb (by omega)) (fun q2 => ?_)
  refine wp1 (fun n d => r_iloadn f245_19 rfl) ?_
  refine w_iconst f245_20 (fun v20 hv20 => ?_)
  refine w_bipush f245_21 (fun v21 hv21 => ?_)
  refine wp_in (lv := 0) (Y := zM196) (inx_wp) (fun n d v h' e => r_stat (as := [.int z, .int v20, .int v21]) (r := []) f245_23 rfl (show zmt[196]? = some zM196 from rfl) rfl rfl rfl rfl rfl rfl e) (by first | decide | omega) ?_
  rintro v h' ⟨rfl, v23, rfl, z3, hr3⟩
  show Wp _ _ _ _ 26 [some (.ref 72), some (.int x), some (.int y), some (.int z), none] [.int v23] _
  refine w_if_ne f245_26 (fun q3 => ?_) (fun q => kb (by omega))
  have w1 := hr1.mp (by omega)
  have w2 := hr2.mp (by omega)
  have w3 := hr3.mp (by omega)
  refine wp1 (fun n d => r_aloadn f245_31 rfl) ?_
  obtain ⟨fs1001, c1001⟩ := hI_o I (r := 72) (ci := 12) (by decide +kernel)
  have F1002 := hI_r I c1001 (f := 49) (q := 112) (by decide +kernel)
  refine w_get f245_32 c1001 F1002 ?_
  refine w_bipush f245_35 (fun v35 hv35 => ?_)
  refine wp1 (fun n d => r_iloadn f245_37 rfl) ?_
  refine w_imul f245_38 (by rw [hv35]; omega) (by rw [hv35]; omega) (fun v38 hv38 => ?_)
  rw [hv35] at hv38
  refine wp1 (fun n d => r_iloadn f245_39 rfl) ?_
  refine w_iadd f245_40 (by omega) (by omega) (fun v40 hv40 => ?_)
  refine w_iald f245_41 c (by omega) (by omega) (fun v41 hv41 => ?_)
  refine wp1 (fun n d => r_istore (L' := [some (.ref 72), some (.int x), some (.int y), some (.int z), some (.int v41)]) f245_42 rfl rfl) ?_
  refine wp1 (fun n d => r_aloadn f245_44 rfl) ?_
  refine w_get f245_45 c1001 F1002 ?_
  refine w_bipush f245_48 (fun v48 hv48 => ?_)
  refine wp1 (fun n d => r_iloadn f245_50 rfl) ?_
  refine w_imul f245_51 (by rw [hv48]; omega) (by rw [hv48]; omega) (fun v51 hv51 => ?_)
  rw [hv48] at hv51
  refine wp1 (fun n d => r_iloadn f245_52 rfl) ?_
  refine w_iadd f245_53 (by omega) (by omega) (fun v53 hv53 => ?_)
  refine wp1 (fun n d => r_iloadn f245_54 rfl) ?_
  refine w_iastI f245_55 c (by omega) (by omega) I (W := [(112, 0)]) (lo := (-2147483648)) (hi := 2147483647) (by decide +kernel) (by decide) (iR z).1 (iR z).2 (fun h1003 I1003 G1003 c1003 ne1003 => ?_)
  obtain ⟨g1003, hg1003⟩ : ∃ g', g' = upd g v53.toInt.toNat z := ⟨_, rfl⟩
  rw [← hg1003] at c1003
  have c1004 := (ne1003 72 (by decide)).trans c1001
  refine wp1 (fun n d => r_iload f245_56 rfl) ?_
  have ei : v40.toInt = 6 * x.toInt + y.toInt := by omega
  have ej : v53.toInt = 6 * x.toInt + y.toInt := by omega
  exact wp_end (fun n d => r_ireturn f245_58 rfl) ⟨I1003, G1003, _, _, rfl, c1003, Or.inl ⟨⟨by omega, by omega, by omega, by omega, by omega, by omega⟩, by rw [hv41, ei], by rw [hg1003, ej]⟩⟩

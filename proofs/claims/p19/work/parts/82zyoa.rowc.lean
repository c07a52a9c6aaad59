-- ===== seasons: a row of squares =====
theorem gx100_0 : aF 0 zM100.2.2.2.2.2.2.2 = some (0, (.aload_n 0), 1, 0, 0) := by decide +kernel
theorem gx100_1 : aF 1 zM100.2.2.2.2.2.2.2 = some (1, (.getfield 44), 3, 8, 1) := by decide +kernel
theorem gx100_4 : aF 4 zM100.2.2.2.2.2.2.2 = some (4, (.getfield 87), 3, 2, 4) := by decide +kernel
theorem gx100_7 : aF 7 zM100.2.2.2.2.2.2.2 = some (7, (.aload_n 0), 1, 0, 0) := by decide +kernel
theorem gx100_8 : aF 8 zM100.2.2.2.2.2.2.2 = some (8, (.getfield 18), 3, 8, 6) := by decide +kernel
theorem gx100_11 : aF 11 zM100.2.2.2.2.2.2.2 = some (11, (.iload_n 1), 1, 0, 0) := by decide +kernel
theorem gx100_12 : aF 12 zM100.2.2.2.2.2.2.2 = some (12, .iaload, 1, 0, 0) := by decide +kernel
theorem gx100_13 : aF 13 zM100.2.2.2.2.2.2.2 = some (13, .iaload, 1, 0, 0) := by decide +kernel
theorem gx100_14 : aF 14 zM100.2.2.2.2.2.2.2 = some (14, .ireturn, 1, 0, 0) := by decide +kernel
theorem gx101_0 : aF 0 zM101.2.2.2.2.2.2.2 = some (0, (.aload_n 0), 1, 0, 0) := by decide +kernel
theorem gx101_1 : aF 1 zM101.2.2.2.2.2.2.2 = some (1, (.getfield 44), 3, 8, 1) := by decide +kernel
theorem gx101_4 : aF 4 zM101.2.2.2.2.2.2.2 = some (4, (.getfield 90), 3, 2, 5) := by decide +kernel
theorem gx101_7 : aF 7 zM101.2.2.2.2.2.2.2 = some (7, (.aload_n 0), 1, 0, 0) := by decide +kernel
theorem gx101_8 : aF 8 zM101.2.2.2.2.2.2.2 = some (8, (.getfield 18), 3, 8, 6) := by decide +kernel
theorem gx101_11 : aF 11 zM101.2.2.2.2.2.2.2 = some (11, (.iload_n 1), 1, 0, 0) := by decide +kernel
theorem gx101_12 : aF 12 zM101.2.2.2.2.2.2.2 = some (12, .iaload, 1, 0, 0) := by decide +kernel
theorem gx101_13 : aF 13 zM101.2.2.2.2.2.2.2 = some (13, .iaload, 1, 0, 0) := by decide +kernel
theorem gx101_14 : aF 14 zM101.2.2.2.2.2.2.2 = some (14, .ireturn, 1, 0, 0) := by decide +kernel
theorem gx103_0 : aF 0 zM103.2.2.2.2.2.2.2 = some (0, (.iconst 0), 1, 0, 0) := by decide +kernel
theorem gx103_1 : aF 1 zM103.2.2.2.2.2.2.2 = some (1, (.istore_n 2), 1, 0, 0) := by decide +kernel
theorem gx103_2 : aF 2 zM103.2.2.2.2.2.2.2 = some (2, (.iconst 0), 1, 0, 0) := by decide +kernel
theorem gx103_3 : aF 3 zM103.2.2.2.2.2.2.2 = some (3, (.istore_n 3), 1, 0, 0) := by decide +kernel
theorem gx103_4 : aF 4 zM103.2.2.2.2.2.2.2 = some (4, (.iconst 0), 1, 0, 0) := by decide +kernel
theorem gx103_5 : aF 5 zM103.2.2.2.2.2.2.2 = some (5, (.istore 4), 2, 0, 0) := by decide +kernel
theorem gx103_7 : aF 7 zM103.2.2.2.2.2.2.2 = some (7, (.iconst 0), 1, 0, 0) := by decide +kernel
theorem gx103_8 : aF 8 zM103.2.2.2.2.2.2.2 = some (8, (.istore 5), 2, 0, 0) := by decide +kernel
theorem gx103_10 : aF 10 zM103.2.2.2.2.2.2.2 = some (10, (.iload 5), 2, 0, 0) := by decide +kernel
theorem gx103_12 : aF 12 zM103.2.2.2.2.2.2.2 = some (12, (.aload_n 0), 1, 0, 0) := by decide +kernel
theorem gx103_13 : aF 13 zM103.2.2.2.2.2.2.2 = some (13, (.getfield 51), 3, 8, 5) := by decide +kernel
theorem gx103_16 : aF 16 zM103.2.2.2.2.2.2.2 = some (16, (.if_icmp .ge 65), 3, 81, 0) := by decide +kernel
theorem gx103_81 : aF 81 zM103.2.2.2.2.2.2.2 = some (81, (.iload_n 3), 1, 0, 0) := by decide +kernel
theorem gx103_82 : aF 82 zM103.2.2.2.2.2.2.2 = some (82, (.iload_n 2), 1, 0, 0) := by decide +kernel
theorem gx103_83 : aF 83 zM103.2.2.2.2.2.2.2 = some (83, (.iload 4), 2, 0, 0) := by decide +kernel
theorem gx103_85 : aF 85 zM103.2.2.2.2.2.2.2 = some (85, .iand, 1, 0, 0) := by decide +kernel
theorem gx103_86 : aF 86 zM103.2.2.2.2.2.2.2 = some (86, .ior, 1, 0, 0) := by decide +kernel
theorem gx103_87 : aF 87 zM103.2.2.2.2.2.2.2 = some (87, .ireturn, 1, 0, 0) := by decide +kernel
theorem gx103_19 : aF 19 zM103.2.2.2.2.2.2.2 = some (19, (.iload 5), 2, 0, 0) := by decide +kernel
theorem gx103_21 : aF 21 zM103.2.2.2.2.2.2.2 = some (21, (.ifCond .le 35), 3, 56, 0) := by decide +kernel
theorem gx103_56 : aF 56 zM103.2.2.2.2.2.2.2 = some (56, (.iload 4), 2, 0, 0) := by decide +kernel
theorem gx103_58 : aF 58 zM103.2.2.2.2.2.2.2 = some (58, (.aload_n 0), 1, 0, 0) := by decide +kernel
theorem gx103_59 : aF 59 zM103.2.2.2.2.2.2.2 = some (59, (.getfield 40), 3, 8, 0) := by decide +kernel
theorem gx103_62 : aF 62 zM103.2.2.2.2.2.2.2 = some (62, (.aload_n 0), 1, 0, 0) := by decide +kernel
theorem gx103_63 : aF 63 zM103.2.2.2.2.2.2.2 = some (63, (.iload 5), 2, 0, 0) := by decide +kernel
theorem gx103_65 : aF 65 zM103.2.2.2.2.2.2.2 = some (65, (.invokevirtual 84), 3, 101, 0) := by decide +kernel
theorem gx103_68 : aF 68 zM103.2.2.2.2.2.2.2 = some (68, (.iload_n 1), 1, 0, 0) := by decide +kernel
theorem gx103_69 : aF 69 zM103.2.2.2.2.2.2.2 = some (69, (.invokevirtual 99), 3, 82, 0) := by decide +kernel
theorem gx103_72 : aF 72 zM103.2.2.2.2.2.2.2 = some (72, .ior, 1, 0, 0) := by decide +kernel
theorem gx103_73 : aF 73 zM103.2.2.2.2.2.2.2 = some (73, (.istore 4), 2, 0, 0) := by decide +kernel
theorem gx103_75 : aF 75 zM103.2.2.2.2.2.2.2 = some (75, (.iinc 5 1), 3, 0, 0) := by decide +kernel
theorem gx103_78 : aF 78 zM103.2.2.2.2.2.2.2 = some (78, (.goto (-68)), 3, 10, 0) := by decide +kernel
theorem gx103_24 : aF 24 zM103.2.2.2.2.2.2.2 = some (24, (.aload_n 0), 1, 0, 0) := by decide +kernel
theorem gx103_25 : aF 25 zM103.2.2.2.2.2.2.2 = some (25, (.iload 5), 2, 0, 0) := by decide +kernel
theorem gx103_27 : aF 27 zM103.2.2.2.2.2.2.2 = some (27, (.invokevirtual 81), 3, 100, 0) := by decide +kernel
theorem gx103_30 : aF 30 zM103.2.2.2.2.2.2.2 = some (30, (.aload_n 0), 1, 0, 0) := by decide +kernel
theorem gx103_31 : aF 31 zM103.2.2.2.2.2.2.2 = some (31, (.iload 5), 2, 0, 0) := by decide +kernel
theorem gx103_33 : aF 33 zM103.2.2.2.2.2.2.2 = some (33, (.iconst 1), 1, 0, 0) := by decide +kernel
theorem gx103_34 : aF 34 zM103.2.2.2.2.2.2.2 = some (34, .isub, 1, 0, 0) := by decide +kernel
theorem gx103_35 : aF 35 zM103.2.2.2.2.2.2.2 = some (35, (.invokevirtual 81), 3, 100, 0) := by decide +kernel
theorem gx103_38 : aF 38 zM103.2.2.2.2.2.2.2 = some (38, (.if_icmp .eq 18), 3, 56, 0) := by decide +kernel
theorem gx103_41 : aF 41 zM103.2.2.2.2.2.2.2 = some (41, (.iload_n 3), 1, 0, 0) := by decide +kernel
theorem gx103_42 : aF 42 zM103.2.2.2.2.2.2.2 = some (42, (.iload_n 2), 1, 0, 0) := by decide +kernel
theorem gx103_43 : aF 43 zM103.2.2.2.2.2.2.2 = some (43, (.iload 4), 2, 0, 0) := by decide +kernel
theorem gx103_45 : aF 45 zM103.2.2.2.2.2.2.2 = some (45, .iand, 1, 0, 0) := by decide +kernel
theorem gx103_46 : aF 46 zM103.2.2.2.2.2.2.2 = some (46, .ior, 1, 0, 0) := by decide +kernel
theorem gx103_47 : aF 47 zM103.2.2.2.2.2.2.2 = some (47, (.istore_n 3), 1, 0, 0) := by decide +kernel
theorem gx103_48 : aF 48 zM103.2.2.2.2.2.2.2 = some (48, (.iload_n 2), 1, 0, 0) := by decide +kernel
theorem gx103_49 : aF 49 zM103.2.2.2.2.2.2.2 = some (49, (.iload 4), 2, 0, 0) := by decide +kernel
theorem gx103_51 : aF 51 zM103.2.2.2.2.2.2.2 = some (51, .ior, 1, 0, 0) := by decide +kernel
theorem gx103_52 : aF 52 zM103.2.2.2.2.2.2.2 = some (52, (.istore_n 2), 1, 0, 0) := by decide +kernel
theorem gx103_53 : aF 53 zM103.2.2.2.2.2.2.2 = some (53, (.iconst 0), 1, 0, 0) := by decide +kernel
theorem gx103_54 : aF 54 zM103.2.2.2.2.2.2.2 = some (54, (.istore 4), 2, 0, 0) := by decide +kernel
theorem gx104_0 : aF 0 zM104.2.2.2.2.2.2.2 = some (0, (.aload_n 0), 1, 0, 0) := by decide +kernel
theorem gx104_1 : aF 1 zM104.2.2.2.2.2.2.2 = some (1, (.getfield 28), 3, 8, 9) := by decide +kernel
theorem gx104_4 : aF 4 zM104.2.2.2.2.2.2.2 = some (4, (.iload_n 1), 1, 0, 0) := by decide +kernel
theorem gx104_5 : aF 5 zM104.2.2.2.2.2.2.2 = some (5, .iaload, 1, 0, 0) := by decide +kernel
theorem gx104_6 : aF 6 zM104.2.2.2.2.2.2.2 = some (6, (.aload_n 0), 1, 0, 0) := by decide +kernel
theorem gx104_7 : aF 7 zM104.2.2.2.2.2.2.2 = some (7, (.getfield 44), 3, 8, 1) := by decide +kernel
theorem gx104_10 : aF 10 zM104.2.2.2.2.2.2.2 = some (10, (.iload_n 1), 1, 0, 0) := by decide +kernel
theorem gx104_11 : aF 11 zM104.2.2.2.2.2.2.2 = some (11, (.aload_n 0), 1, 0, 0) := by decide +kernel
theorem gx104_12 : aF 12 zM104.2.2.2.2.2.2.2 = some (12, (.getfield 48), 3, 8, 2) := by decide +kernel
theorem gx104_15 : aF 15 zM104.2.2.2.2.2.2.2 = some (15, (.aload_n 0), 1, 0, 0) := by decide +kernel
theorem gx104_16 : aF 16 zM104.2.2.2.2.2.2.2 = some (16, (.getfield 9), 3, 8, 3) := by decide +kernel
theorem gx104_19 : aF 19 zM104.2.2.2.2.2.2.2 = some (19, (.invokevirtual 104), 3, 33, 0) := by decide +kernel
theorem gx104_22 : aF 22 zM104.2.2.2.2.2.2.2 = some (22, .ior, 1, 0, 0) := by decide +kernel
theorem gx104_23 : aF 23 zM104.2.2.2.2.2.2.2 = some (23, (.istore_n 2), 1, 0, 0) := by decide +kernel
theorem gx104_24 : aF 24 zM104.2.2.2.2.2.2.2 = some (24, (.iconst 0), 1, 0, 0) := by decide +kernel
theorem gx104_25 : aF 25 zM104.2.2.2.2.2.2.2 = some (25, (.istore_n 3), 1, 0, 0) := by decide +kernel
theorem gx104_26 : aF 26 zM104.2.2.2.2.2.2.2 = some (26, (.iconst 0), 1, 0, 0) := by decide +kernel
theorem gx104_27 : aF 27 zM104.2.2.2.2.2.2.2 = some (27, (.istore 4), 2, 0, 0) := by decide +kernel
theorem gx104_29 : aF 29 zM104.2.2.2.2.2.2.2 = some (29, (.iload 4), 2, 0, 0) := by decide +kernel
theorem gx104_31 : aF 31 zM104.2.2.2.2.2.2.2 = some (31, (.aload_n 0), 1, 0, 0) := by decide +kernel
theorem gx104_32 : aF 32 zM104.2.2.2.2.2.2.2 = some (32, (.getfield 51), 3, 8, 5) := by decide +kernel
theorem gx104_35 : aF 35 zM104.2.2.2.2.2.2.2 = some (35, (.if_icmp .ge 77), 3, 112, 0) := by decide +kernel
theorem gx104_112 : aF 112 zM104.2.2.2.2.2.2.2 = some (112, .return_, 1, 0, 0) := by decide +kernel
theorem gx104_38 : aF 38 zM104.2.2.2.2.2.2.2 = some (38, (.iload 4), 2, 0, 0) := by decide +kernel
theorem gx104_40 : aF 40 zM104.2.2.2.2.2.2.2 = some (40, (.ifCond .le 22), 3, 62, 0) := by decide +kernel
theorem gx104_62 : aF 62 zM104.2.2.2.2.2.2.2 = some (62, (.aload_n 0), 1, 0, 0) := by decide +kernel
theorem gx104_63 : aF 63 zM104.2.2.2.2.2.2.2 = some (63, (.getfield 40), 3, 8, 0) := by decide +kernel
theorem gx104_66 : aF 66 zM104.2.2.2.2.2.2.2 = some (66, (.aload_n 0), 1, 0, 0) := by decide +kernel
theorem gx104_67 : aF 67 zM104.2.2.2.2.2.2.2 = some (67, (.iload 4), 2, 0, 0) := by decide +kernel
theorem gx104_69 : aF 69 zM104.2.2.2.2.2.2.2 = some (69, (.invokevirtual 84), 3, 101, 0) := by decide +kernel
theorem gx104_72 : aF 72 zM104.2.2.2.2.2.2.2 = some (72, (.iload_n 1), 1, 0, 0) := by decide +kernel
theorem gx104_73 : aF 73 zM104.2.2.2.2.2.2.2 = some (73, (.invokevirtual 99), 3, 82, 0) := by decide +kernel
theorem gx104_76 : aF 76 zM104.2.2.2.2.2.2.2 = some (76, (.istore 5), 2, 0, 0) := by decide +kernel
theorem gx104_78 : aF 78 zM104.2.2.2.2.2.2.2 = some (78, (.aload_n 0), 1, 0, 0) := by decide +kernel
theorem gx104_79 : aF 79 zM104.2.2.2.2.2.2.2 = some (79, (.getfield 22), 3, 8, 7) := by decide +kernel
theorem gx104_82 : aF 82 zM104.2.2.2.2.2.2.2 = some (82, (.iload 4), 2, 0, 0) := by decide +kernel
theorem gx104_84 : aF 84 zM104.2.2.2.2.2.2.2 = some (84, .dup2, 1, 0, 0) := by decide +kernel
theorem gx104_85 : aF 85 zM104.2.2.2.2.2.2.2 = some (85, .iaload, 1, 0, 0) := by decide +kernel
theorem gx104_86 : aF 86 zM104.2.2.2.2.2.2.2 = some (86, (.iload 5), 2, 0, 0) := by decide +kernel
theorem gx104_88 : aF 88 zM104.2.2.2.2.2.2.2 = some (88, (.iload_n 2), 1, 0, 0) := by decide +kernel
theorem gx104_89 : aF 89 zM104.2.2.2.2.2.2.2 = some (89, (.iconst (-1)), 1, 0, 0) := by decide +kernel
theorem gx104_90 : aF 90 zM104.2.2.2.2.2.2.2 = some (90, .ixor, 1, 0, 0) := by decide +kernel
theorem gx104_91 : aF 91 zM104.2.2.2.2.2.2.2 = some (91, .iand, 1, 0, 0) := by decide +kernel
theorem gx104_92 : aF 92 zM104.2.2.2.2.2.2.2 = some (92, (.iload_n 3), 1, 0, 0) := by decide +kernel
theorem gx104_93 : aF 93 zM104.2.2.2.2.2.2.2 = some (93, (.iconst (-1)), 1, 0, 0) := by decide +kernel
theorem gx104_94 : aF 94 zM104.2.2.2.2.2.2.2 = some (94, .ixor, 1, 0, 0) := by decide +kernel
theorem gx104_95 : aF 95 zM104.2.2.2.2.2.2.2 = some (95, .iand, 1, 0, 0) := by decide +kernel
theorem gx104_96 : aF 96 zM104.2.2.2.2.2.2.2 = some (96, (.invokestatic 108), 3, 329, 0) := by decide +kernel
theorem gx104_99 : aF 99 zM104.2.2.2.2.2.2.2 = some (99, .iadd, 1, 0, 0) := by decide +kernel
theorem gx104_100 : aF 100 zM104.2.2.2.2.2.2.2 = some (100, .iastore, 1, 0, 0) := by decide +kernel
theorem gx104_101 : aF 101 zM104.2.2.2.2.2.2.2 = some (101, (.iload_n 3), 1, 0, 0) := by decide +kernel
theorem gx104_102 : aF 102 zM104.2.2.2.2.2.2.2 = some (102, (.iload 5), 2, 0, 0) := by decide +kernel
theorem gx104_104 : aF 104 zM104.2.2.2.2.2.2.2 = some (104, .ior, 1, 0, 0) := by decide +kernel
theorem gx104_105 : aF 105 zM104.2.2.2.2.2.2.2 = some (105, (.istore_n 3), 1, 0, 0) := by decide +kernel
theorem gx104_106 : aF 106 zM104.2.2.2.2.2.2.2 = some (106, (.iinc 4 1), 3, 0, 0) := by decide +kernel
theorem gx104_109 : aF 109 zM104.2.2.2.2.2.2.2 = some (109, (.goto (-80)), 3, 29, 0) := by decide +kernel
theorem gx104_43 : aF 43 zM104.2.2.2.2.2.2.2 = some (43, (.aload_n 0), 1, 0, 0) := by decide +kernel
theorem gx104_44 : aF 44 zM104.2.2.2.2.2.2.2 = some (44, (.iload 4), 2, 0, 0) := by decide +kernel
theorem gx104_46 : aF 46 zM104.2.2.2.2.2.2.2 = some (46, (.invokevirtual 81), 3, 100, 0) := by decide +kernel
theorem gx104_49 : aF 49 zM104.2.2.2.2.2.2.2 = some (49, (.aload_n 0), 1, 0, 0) := by decide +kernel
theorem gx104_50 : aF 50 zM104.2.2.2.2.2.2.2 = some (50, (.iload 4), 2, 0, 0) := by decide +kernel
theorem gx104_52 : aF 52 zM104.2.2.2.2.2.2.2 = some (52, (.iconst 1), 1, 0, 0) := by decide +kernel
theorem gx104_53 : aF 53 zM104.2.2.2.2.2.2.2 = some (53, .isub, 1, 0, 0) := by decide +kernel
theorem gx104_54 : aF 54 zM104.2.2.2.2.2.2.2 = some (54, (.invokevirtual 81), 3, 100, 0) := by decide +kernel
theorem gx104_57 : aF 57 zM104.2.2.2.2.2.2.2 = some (57, (.if_icmp .eq 5), 3, 62, 0) := by decide +kernel
theorem gx104_60 : aF 60 zM104.2.2.2.2.2.2.2 = some (60, (.iconst 0), 1, 0, 0) := by decide +kernel
theorem gx104_61 : aF 61 zM104.2.2.2.2.2.2.2 = some (61, (.istore_n 3), 1, 0, 0) := by decide +kernel
theorem d100_0 {n : Nat} {X : aX} {h : aH} {P : Int → aH → Prop} {x1 : Int32} {a1 : Int} {q0 : Nat} (S : wS h) (z1 : x1.toInt = a1) (H : ((vw h) q0 1 = ((16 : Nat) : Int) ∧ ((vw h) q0 6 = (((q0 + 1) : Nat) : Int) ∧ (0 ≤ a1 → (0 ≤ vw h (q0 + 1) a1 → vw h (q0 + 1) a1 < 300 → P (vw h 17 (vw h (q0 + 1) a1)) h))))) : Pt (n + 1) X zM100 0 [some (.ref q0), some (.int x1)] [] h (qI P) := by
  refine pt_1 (fun n d => r_aloadn gx100_0 rfl) ?_
  obtain ⟨pr1, H⟩ := H
  refine pt_d (pt_getK (B := 1) gx100_1 S (pr1) ?_)
  refine pt_d (pt_getR gx100_4 S tr_16_4 ?_)
  refine pt_d (pt_1 (fun n d => r_aloadn gx100_7 rfl) ?_)
  obtain ⟨pr3, H⟩ := H
  refine pt_d (pt_getK (B := 6) gx100_8 S (pr3) ?_)
  refine pt_d (pt_1 (fun n d => r_iloadn gx100_11 rfl) ?_)
  refine pt_d (pt_ialdD gx100_12 z1 (fun v4 p4 h4 => ?_))
  have H := H p4
  refine pt_d (pt_iald (N' := 300) gx100_13 S tl_17 h4 (fun v5 p5 q5 h5 => ?_))
  have H := H p5 q5
  exact pt_d (pt_iret gx100_14 ⟨_, rfl, by rw [h5]; exact H⟩)
theorem d101_0 {n : Nat} {X : aX} {h : aH} {P : Int → aH → Prop} {x1 : Int32} {a1 : Int} {q0 : Nat} (S : wS h) (z1 : x1.toInt = a1) (H : ((vw h) q0 1 = ((16 : Nat) : Int) ∧ ((vw h) q0 6 = (((q0 + 1) : Nat) : Int) ∧ (0 ≤ a1 → (0 ≤ vw h (q0 + 1) a1 → vw h (q0 + 1) a1 < 300 → P (vw h 18 (vw h (q0 + 1) a1)) h))))) : Pt (n + 1) X zM101 0 [some (.ref q0), some (.int x1)] [] h (qI P) := by
  refine pt_1 (fun n d => r_aloadn gx101_0 rfl) ?_
  obtain ⟨pr1, H⟩ := H
  refine pt_d (pt_getK (B := 1) gx101_1 S (pr1) ?_)
  refine pt_d (pt_getR gx101_4 S tr_16_5 ?_)
  refine pt_d (pt_1 (fun n d => r_aloadn gx101_7 rfl) ?_)
  obtain ⟨pr3, H⟩ := H
  refine pt_d (pt_getK (B := 6) gx101_8 S (pr3) ?_)
  refine pt_d (pt_1 (fun n d => r_iloadn gx101_11 rfl) ?_)
  refine pt_d (pt_ialdD gx101_12 z1 (fun v4 p4 h4 => ?_))
  have H := H p4
  refine pt_d (pt_iald (N' := 300) gx101_13 S tl_18 h4 (fun v5 p5 q5 h5 => ?_))
  have H := H p5 q5
  exact pt_d (pt_iret gx101_14 ⟨_, rfl, by rw [h5]; exact H⟩)
theorem c_100 {n : Nat} {X : aX} {h : aH} {x1 : Int32} {a1 : Int} {q0 : Nat} (S : wS h) (z1 : x1.toInt = a1) (hp : vw h q0 1 = ((16 : Nat) : Int) ∧ vw h q0 6 = (((q0 + 1) : Nat) : Int)) : Pt n X zM100 0 [some (.ref q0), some (.int x1)] [] h (qI (fun y h' => h' = h ∧ y = vw h 17 (vw h (q0 + 1) a1))) := pt_d (d100_0 S z1 ⟨hp.1, hp.2, fun _ _ _ => ⟨rfl, rfl⟩⟩)
theorem c_101 {n : Nat} {X : aX} {h : aH} {x1 : Int32} {a1 : Int} {q0 : Nat} (S : wS h) (z1 : x1.toInt = a1) (hp : vw h q0 1 = ((16 : Nat) : Int) ∧ vw h q0 6 = (((q0 + 1) : Nat) : Int)) : Pt n X zM101 0 [some (.ref q0), some (.int x1)] [] h (qI (fun y h' => h' = h ∧ y = vw h 18 (vw h (q0 + 1) a1))) := pt_d (d101_0 S z1 ⟨hp.1, hp.2, fun _ _ _ => ⟨rfl, rfl⟩⟩)

theorem k_82 {n : Nat} {X : aX} {h : aH} {x1 x2 : Int32} {a1 a2 : Int} (S : wS h) (z1 : x1.toInt = a1) (z2 : x2.toInt = a2) (hp : (0 ≤ a1 ∧ a1 < 150) ∧ 0 ≤ a2 ∧ a2 < 24) : Pt n X zM82 0 [some (.ref 1), some (.int x1), some (.int x2)] [] h (qI (fun y h' => h' = h ∧ y = vw h 8 (24 * a1 + a2))) := by
  refine pt_d (d82_0 S z1 z2 (fun _ _ => ⟨rfl, ?_⟩))
  rw [w32_id (z := a1 * 24) (by omega) (by omega), w32_id (by omega) (by omega), Int.mul_comm]

section PT6
def hk (h h' : aH) : Prop := ∀ (c t N : Nat) (y : (Nat → Int32) ⊕ (Nat → Int64) ⊕ (Nat → UInt32) ⊕ (Nat → UInt64) ⊕ (Nat → Option Nat)), h.1[c]? = some (.inl (t, N, y)) → ∃ y' : (Nat → Int32) ⊕ (Nat → Int64) ⊕ (Nat → UInt32) ⊕ (Nat → UInt64) ⊕ (Nat → Option Nat), h'.1[c]? = some (.inl (t, N, y'))
theorem hk_r (h : aH) : hk h h := fun _ _ _ y e => ⟨y, e⟩
theorem hk_t {a b c : aH} (p : hk a b) (q : hk b c) : hk a c := fun x t N y e => by
  obtain ⟨y', e'⟩ := p x t N y e
  exact q x t N y' e'
theorem hk_set {h : aH} {o t n s : Nat} {a a' : (Nat → Int32) ⊕ (Nat → Int64) ⊕ (Nat → UInt32) ⊕ (Nat → UInt64) ⊕ (Nat → Option Nat)} (c : h.1[o]? = some (.inl (t, n, a))) : hk h (h.1.set o (.inl (t, n, a')), s) := by
  intro q t' N y e
  by_cases z : q = o
  · subst z
    rw [c] at e
    cases e
    exact ⟨a', set_eq' c⟩
  · exact ⟨y, (set_ne' (Ne.symm z)).trans e⟩
theorem hk_obj {h : aH} {o ci s : Nat} {fs fs' : List Value} (c : h.1[o]? = some (.inr (ci, fs))) : hk h (h.1.set o (.inr (ci, fs')), s) := by
  intro q t' N y e
  by_cases z : q = o
  · subst z
    rw [c] at e
    cases e
  · exact ⟨y, (set_ne' (Ne.symm z)).trans e⟩
theorem tkR_o {o : Nat} (h : 146 ≤ o) (b q : Nat) : tkR o b q = false := by
  have e : Nat.blt o 146 = false := by
    cases w : Nat.blt o 146 with
    | false => rfl
    | true =>
      rw [Nat.blt_eq] at w
      omega
  unfold tkR
  split
  · rw [e, Bool.and_false]
    rfl
  · rfl
variable {n : Nat} {X : aX} {M : aM} {Q : Option Value → aH → Prop} {pc len a b : Nat} {l : aL} {r : List Value} {h : aH} {A B : Int}
theorem pt_iastDk {o : Nat} {j x : Int32} (hf : aF pc M.2.2.2.2.2.2.2 = some (pc, .iastore, len, a, b)) (S : wS h) (ha : j.toInt = A) (hb : x.toInt = B) (k : ∀ h', wS h' → 0 ≤ A → vw h' = up (vw h) o A B → hk h h' → Pt n X M (pc + 1) l r h' Q) : Pt (n + 1) X M pc l (.int x :: .int j :: .ref o :: r) h Q := pt_s fun m hm d v h2 e => by
  obtain ⟨N0, g, e1, e2, e3, e4⟩ := i_iast hf e
  exact k _ (wS_arr S e1) (by omega) (vw_arr e1 (by omega) (vA_upd ha hb)) (hk_set e1) m hm d v h2 e4
theorem pt_putIk {ix o : Nat} {x : Int32} (hf : aF pc M.2.2.2.2.2.2.2 = some (pc, (.putfield ix), len, a, b)) (S : wS h) (ho : 146 ≤ o) (ha : x.toInt = A) (k : ∀ h', wS h' → vw h' = up (vw h) o B A → hk h h' → Pt n X M (pc + 3) l r h' Q) (hB : ((b : Nat) : Int) = B := by rfl) : Pt (n + 1) X M pc l (.int x :: .ref o :: r) h Q := pt_s fun m hm d v h2 e => by
  obtain ⟨fs, e1, e2, e3, e4⟩ := i_put hf e
  exact k _ (wS_obj S e1 e2 (tkR_o ho b)) (by rw [vw_obj e1 e3, ← hB, ← ha]; rfl) (hk_obj e1) m hm d v h2 e4
end PT6

theorem e332k_0 {n : Nat} {X : aX} {h : aH} {P : aH → Prop} {x1 : Int32} {a1 : Int} {q0 : Nat} (S : wS h) (z1 : x1.toInt = a1) (H : ∃ N2 : Nat, (∃ t y, h.1[q0]? = some (.inl (t, N2, y))) ∧ N2 < 2147483648 ∧ (∀ (w2 : Int32) (w3 : Int32), w2.toInt = 0 → w3.toInt = (N2 : Int) → Pt n X zM332 5 [some (.ref q0), some (.int x1), some (.int w2), some (.int w3)] [] h (qN P))) : Pt (n + 1) X zM332 0 [some (.ref q0), some (.int x1), none, none] [] h (qN P) := by
  refine pt_iconst gx332_0 (fun v1 h1 => ?_)
  refine pt_d (pt_1 (fun n d => r_istoren (L' := [some (.ref q0), some (.int x1), some (.int v1), none]) gx332_1 rfl rfl) ?_)
  refine pt_d (pt_1 (fun n d => r_aloadn gx332_2 rfl) ?_)
  obtain ⟨N2, ⟨t2, y2, c2⟩, b2, H⟩ := H
  refine pt_d (pt_alenD gx332_3 c2 b2 (fun v2 h2 => ?_))
  refine pt_d (pt_1 (fun n d => r_istoren (L' := [some (.ref q0), some (.int x1), some (.int v1), some (.int v2)]) gx332_4 rfl rfl) ?_)
  exact H v1 v2 h1 h2
theorem e332k_5 {n : Nat} {X : aX} {h : aH} {P : aH → Prop} {x1 x2 x3 : Int32} {a1 a2 a3 : Int} {q0 : Nat} (S : wS h) (z1 : x1.toInt = a1) (z2 : x2.toInt = a2) (z3 : x3.toInt = a3) (H : ((a3 ≤ a2 → P h) ∧ (a2 < a3 → (0 ≤ a2 → ∀ h_2 : aH, wS h_2 → vw h_2 = up (vw h) q0 a2 a1 → hk h h_2 → (∀ (w2 : Int32), w2.toInt = w32 (a2 + 1) → Pt n X zM332 5 [some (.ref q0), some (.int x1), some (.int w2), some (.int x3)] [] h_2 (qN P)))))) : Pt (n + 1) X zM332 5 [some (.ref q0), some (.int x1), some (.int x2), some (.int x3)] [] h (qN P) := by
  refine pt_1 (fun n d => r_iloadn gx332_5 rfl) ?_
  refine pt_d (pt_1 (fun n d => r_iloadn gx332_6 rfl) ?_)
  refine pt_d (pt_icmp_ge gx332_7 z2 z3 (fun e1 => ?_) (fun e1 => ?_))
  · have H := H.1 e1
    exact pt_d (pt_vret gx332_20 ⟨rfl, H⟩)
  · have H := H.2 e1
    refine pt_d (pt_1 (fun n d => r_aloadn gx332_10 rfl) ?_)
    refine pt_d (pt_1 (fun n d => r_iloadn gx332_11 rfl) ?_)
    refine pt_d (pt_1 (fun n d => r_iloadn gx332_12 rfl) ?_)
    refine pt_d (pt_iastDk gx332_13 S z2 z1 (fun h_2 S2 p2 e2 K2 => ?_))
    have H := H p2
    refine pt_d (pt_iinc (c := 1) gx332_14 rfl z2 (fun v3 h3 => ?_))
    show Pt _ _ _ _ [some (.ref q0), some (.int x1), some (.int v3), some (.int x3)] [] _ _
    refine pt_d (pt_1 (fun n d => r_goto gx332_17) ?_)
    have H := H h_2 S2 (by rw [e2]) K2
    exact H v3 h3
theorem m_332k {X : aX} {V : vS} {h0 : aH} {q N : Nat} {v : Int} (hN : N < 2147483648) : ∀ (n : Nat) (h : aH) (x1 x2 x3 : Int32), wS h → hk h0 h → x1.toInt = v → x3.toInt = (N : Int) → 0 ≤ x2.toInt → x2.toInt ≤ (N : Int) → vw h = fillV V q 0 x2.toInt v → Pt n X zM332 5 [some (.ref q), some (.int x1), some (.int x2), some (.int x3)] [] h (qN (fun h' => wS h' ∧ hk h0 h' ∧ vw h' = fillV V q 0 (N : Int) v)) := by
  intro n
  induction n with
  | zero => exact fun _ _ _ _ _ _ _ _ _ _ _ => pt_z
  | succ n ih =>
    intro h x1 x2 x3 S K h1 h3 p p2 e
    refine e332k_5 S h1 rfl h3 ⟨fun e2 => ⟨S, K, ?_⟩, fun e2 p3 g S2 eg K2 w2 g2 => ?_⟩
    · rw [e, show x2.toInt = (N : Int) by omega]
    · replace g2 := w_1 g2 (by omega) (by omega)
      refine ih g x1 w2 x3 S2 (hk_t K K2) h1 h3 (by omega) (by omega) ?_
      rw [eg, e, g2]
      exact fillV_s p
theorem k_332k {n : Nat} {X : aX} {h : aH} {x1 : Int32} {a1 : Int} {q0 : Nat} (S : wS h) (z1 : x1.toInt = a1) (N : Nat) (hc : (∃ t y, h.1[q0]? = some (.inl (t, N, y))) ∧ N < 2147483648) : Pt n X zM332 0 [some (.ref q0), some (.int x1), none, none] [] h (qN (fun h' => wS h' ∧ hk h h' ∧ vw h' = fillV (vw h) q0 0 (N : Int) a1)) := by
  refine pt_d (e332k_0 S z1 ⟨N, hc.1, hc.2, fun w2 w3 g2 g3 => m_332k hc.2 n h x1 w2 w3 S (hk_r h) z1 g3 (by omega) (by omega) ?_⟩)
  rw [g2, fillV_0]

theorem d103_0 {n : Nat} {X : aX} {h : aH} {P : Int → aH → Prop} {x1 : Int32} {a1 : Int} {q0 : Nat} (S : wS h) (z1 : x1.toInt = a1) (H : (∀ (w2 : Int32) (w3 : Int32) (w4 : Int32) (w5 : Int32), w2.toInt = 0 → w3.toInt = 0 → w4.toInt = 0 → w5.toInt = 0 → Pt n X zM103 10 [some (.ref q0), some (.int x1), some (.int w2), some (.int w3), some (.int w4), some (.int w5)] [] h (qI P))) : Pt (n + 1) X zM103 0 [some (.ref q0), some (.int x1), none, none, none, none] [] h (qI P) := by
  refine pt_iconst gx103_0 (fun v1 h1 => ?_)
  refine pt_d (pt_1 (fun n d => r_istoren (L' := [some (.ref q0), some (.int x1), some (.int v1), none, none, none]) gx103_1 rfl rfl) ?_)
  refine pt_d (pt_iconst gx103_2 (fun v2 h2 => ?_))
  refine pt_d (pt_1 (fun n d => r_istoren (L' := [some (.ref q0), some (.int x1), some (.int v1), some (.int v2), none, none]) gx103_3 rfl rfl) ?_)
  refine pt_d (pt_iconst gx103_4 (fun v3 h3 => ?_))
  refine pt_d (pt_1 (fun n d => r_istore (L' := [some (.ref q0), some (.int x1), some (.int v1), some (.int v2), some (.int v3), none]) gx103_5 rfl rfl) ?_)
  refine pt_d (pt_iconst gx103_7 (fun v4 h4 => ?_))
  refine pt_d (pt_1 (fun n d => r_istore (L' := [some (.ref q0), some (.int x1), some (.int v1), some (.int v2), some (.int v3), some (.int v4)]) gx103_8 rfl rfl) ?_)
  exact H v1 v2 v3 v4 h1 h2 h3 h4
theorem d103_10 {n : Nat} {X : aX} {h : aH} {P : Int → aH → Prop} {x1 x2 x3 x4 x5 : Int32} {a1 a2 a3 a4 a5 : Int} {q0 : Nat} (S : wS h) (z1 : x1.toInt = a1) (z2 : x2.toInt = a2) (z3 : x3.toInt = a3) (z4 : x4.toInt = a4) (z5 : x5.toInt = a5) (H : ((vw h q0 5 ≤ a5 → P (bOr a3 (bAnd a2 a4)) h) ∧ (a5 < vw h q0 5 → ((a5 ≤ 0 → ((vw h) q0 0 = ((1 : Nat) : Int) ∧ ((vw h q0 1 = ((16 : Nat) : Int) ∧ vw h q0 6 = ((q0 + 1 : Nat) : Int)) ∧ (((0 ≤ ((vw h) 18 ((vw h) (q0 + 1) a5)) ∧ ((vw h) 18 ((vw h) (q0 + 1) a5)) < 150) ∧ 0 ≤ a1 ∧ a1 < 24) ∧ (∀ (w4 : Int32) (w5 : Int32), w4.toInt = bOr a4 ((vw h) 8 (24 * ((vw h) 18 ((vw h) (q0 + 1) a5)) + a1)) → w5.toInt = w32 (a5 + 1) → Pt n X zM103 10 [some (.ref q0), some (.int x1), some (.int x2), some (.int x3), some (.int w4), some (.int w5)] [] h (qI P)))))) ∧ (0 < a5 → ((vw h q0 1 = ((16 : Nat) : Int) ∧ vw h q0 6 = ((q0 + 1 : Nat) : Int)) ∧ ((vw h q0 1 = ((16 : Nat) : Int) ∧ vw h q0 6 = ((q0 + 1 : Nat) : Int)) ∧ (((vw h) 17 ((vw h) (q0 + 1) a5) = (vw h) 17 ((vw h) (q0 + 1) (w32 (a5 - 1))) → ((vw h) q0 0 = ((1 : Nat) : Int) ∧ ((vw h q0 1 = ((16 : Nat) : Int) ∧ vw h q0 6 = ((q0 + 1 : Nat) : Int)) ∧ (((0 ≤ ((vw h) 18 ((vw h) (q0 + 1) a5)) ∧ ((vw h) 18 ((vw h) (q0 + 1) a5)) < 150) ∧ 0 ≤ a1 ∧ a1 < 24) ∧ (∀ (w4 : Int32) (w5 : Int32), w4.toInt = bOr a4 ((vw h) 8 (24 * ((vw h) 18 ((vw h) (q0 + 1) a5)) + a1)) → w5.toInt = w32 (a5 + 1) → Pt n X zM103 10 [some (.ref q0), some (.int x1), some (.int x2), some (.int x3), some (.int w4), some (.int w5)] [] h (qI P)))))) ∧ ((vw h) 17 ((vw h) (q0 + 1) a5) ≠ (vw h) 17 ((vw h) (q0 + 1) (w32 (a5 - 1))) → ((vw h) q0 0 = ((1 : Nat) : Int) ∧ ((vw h q0 1 = ((16 : Nat) : Int) ∧ vw h q0 6 = ((q0 + 1 : Nat) : Int)) ∧ (((0 ≤ ((vw h) 18 ((vw h) (q0 + 1) a5)) ∧ ((vw h) 18 ((vw h) (q0 + 1) a5)) < 150) ∧ 0 ≤ a1 ∧ a1 < 24) ∧ (∀ (w2 : Int32) (w3 : Int32) (w4 : Int32) (w5 : Int32), w2.toInt = bOr a2 a4 → w3.toInt = bOr a3 (bAnd a2 a4) → w4.toInt = bOr 0 ((vw h) 8 (24 * ((vw h) 18 ((vw h) (q0 + 1) a5)) + a1)) → w5.toInt = w32 (a5 + 1) → Pt n X zM103 10 [some (.ref q0), some (.int x1), some (.int w2), some (.int w3), some (.int w4), some (.int w5)] [] h (qI P)))))))))))))) : Pt (n + 1) X zM103 10 [some (.ref q0), some (.int x1), some (.int x2), some (.int x3), some (.int x4), some (.int x5)] [] h (qI P) := by
  refine pt_1 (fun n d => r_iload gx103_10 rfl) ?_
  refine pt_d (pt_1 (fun n d => r_aloadn gx103_12 rfl) ?_)
  refine pt_d (pt_getI (B := 5) gx103_13 S (fun v1 h1 => ?_))
  refine pt_d (pt_icmp_ge gx103_16 z5 h1 (fun e2 => ?_) (fun e2 => ?_))
  · have H := H.1 e2
    refine pt_d (pt_1 (fun n d => r_iloadn gx103_81 rfl) ?_)
    refine pt_d (pt_1 (fun n d => r_iloadn gx103_82 rfl) ?_)
    refine pt_d (pt_1 (fun n d => r_iload gx103_83 rfl) ?_)
    refine pt_d (pt_iand gx103_85 z2 z4 (fun v3 h3 => ?_))
    refine pt_d (pt_ior gx103_86 z3 h3 (fun v4 h4 => ?_))
    exact pt_d (pt_iret gx103_87 ⟨_, rfl, by rw [h4]; exact H⟩)
  · have H := H.2 e2
    refine pt_d (pt_1 (fun n d => r_iload gx103_19 rfl) ?_)
    refine pt_d (pt_if_le gx103_21 z5 (fun e5 => ?_) (fun e5 => ?_))
    · have H := H.1 e5
      refine pt_d (pt_1 (fun n d => r_iload gx103_56 rfl) ?_)
      refine pt_d (pt_1 (fun n d => r_aloadn gx103_58 rfl) ?_)
      obtain ⟨pr6, H⟩ := H
      refine pt_d (pt_getK (B := 0) gx103_59 S (pr6) ?_)
      refine pt_d (pt_1 (fun n d => r_aloadn gx103_62 rfl) ?_)
      refine pt_d (pt_1 (fun n d => r_iload gx103_63 rfl) ?_)
      obtain ⟨pr7, H⟩ := H
      refine pt_d (pt_virt (as := [.int x5]) (r := [.ref 1, .int x4]) gx103_65 rfl (show zmt[101]? = some zM101 from rfl) rfl rfl rfl rfl (c_101 S z5 pr7) (kqP (fun v7 h7 => ?_)))
      show Pt _ _ _ 68 _ [.int v7, .ref 1, .int x4] _ _
      refine pt_d (pt_1 (fun n d => r_iloadn gx103_68 rfl) ?_)
      obtain ⟨pr8, H⟩ := H
      refine pt_d (pt_virt (as := [.int v7, .int x1]) (r := [.int x4]) gx103_69 rfl (show zmt[82]? = some zM82 from rfl) rfl rfl rfl rfl (k_82 S h7 z1 pr8) (kqP (fun v8 h8 => ?_)))
      show Pt _ _ _ 72 _ [.int v8, .int x4] _ _
      refine pt_d (pt_ior gx103_72 z4 h8 (fun v9 h9 => ?_))
      refine pt_d (pt_1 (fun n d => r_istore (L' := [some (.ref q0), some (.int x1), some (.int x2), some (.int x3), some (.int v9), some (.int x5)]) gx103_73 rfl rfl) ?_)
      refine pt_d (pt_iinc (c := 1) gx103_75 rfl z5 (fun v10 h10 => ?_))
      show Pt _ _ _ _ [some (.ref q0), some (.int x1), some (.int x2), some (.int x3), some (.int v9), some (.int v10)] [] _ _
      refine pt_d (pt_1 (fun n d => r_goto gx103_78) ?_)
      exact H v9 v10 h9 h10
    · have H := H.2 e5
      refine pt_d (pt_1 (fun n d => r_aloadn gx103_24 rfl) ?_)
      refine pt_d (pt_1 (fun n d => r_iload gx103_25 rfl) ?_)
      obtain ⟨pr11, H⟩ := H
      refine pt_d (pt_virt (as := [.int x5]) (r := []) gx103_27 rfl (show zmt[100]? = some zM100 from rfl) rfl rfl rfl rfl (c_100 S z5 pr11) (kqP (fun v11 h11 => ?_)))
      show Pt _ _ _ 30 _ [.int v11] _ _
      refine pt_d (pt_1 (fun n d => r_aloadn gx103_30 rfl) ?_)
      refine pt_d (pt_1 (fun n d => r_iload gx103_31 rfl) ?_)
      refine pt_d (pt_iconst gx103_33 (fun v12 h12 => ?_))
      refine pt_d (pt_isub gx103_34 z5 h12 (fun v13 h13 => ?_))
      obtain ⟨pr14, H⟩ := H
      refine pt_d (pt_virt (as := [.int v13]) (r := [.int v11]) gx103_35 rfl (show zmt[100]? = some zM100 from rfl) rfl rfl rfl rfl (c_100 S h13 pr14) (kqP (fun v14 h14 => ?_)))
      show Pt _ _ _ 38 _ [.int v14, .int v11] _ _
      refine pt_d (pt_icmp_eq gx103_38 h11 h14 (fun e15 => ?_) (fun e15 => ?_))
      · have H := H.1 e15
        refine pt_d (pt_1 (fun n d => r_iload gx103_56 rfl) ?_)
        refine pt_d (pt_1 (fun n d => r_aloadn gx103_58 rfl) ?_)
        obtain ⟨pr16, H⟩ := H
        refine pt_d (pt_getK (B := 0) gx103_59 S (pr16) ?_)
        refine pt_d (pt_1 (fun n d => r_aloadn gx103_62 rfl) ?_)
        refine pt_d (pt_1 (fun n d => r_iload gx103_63 rfl) ?_)
        obtain ⟨pr17, H⟩ := H
        refine pt_d (pt_virt (as := [.int x5]) (r := [.ref 1, .int x4]) gx103_65 rfl (show zmt[101]? = some zM101 from rfl) rfl rfl rfl rfl (c_101 S z5 pr17) (kqP (fun v17 h17 => ?_)))
        show Pt _ _ _ 68 _ [.int v17, .ref 1, .int x4] _ _
        refine pt_d (pt_1 (fun n d => r_iloadn gx103_68 rfl) ?_)
        obtain ⟨pr18, H⟩ := H
        refine pt_d (pt_virt (as := [.int v17, .int x1]) (r := [.int x4]) gx103_69 rfl (show zmt[82]? = some zM82 from rfl) rfl rfl rfl rfl (k_82 S h17 z1 pr18) (kqP (fun v18 h18 => ?_)))
        show Pt _ _ _ 72 _ [.int v18, .int x4] _ _
        refine pt_d (pt_ior gx103_72 z4 h18 (fun v19 h19 => ?_))
        refine pt_d (pt_1 (fun n d => r_istore (L' := [some (.ref q0), some (.int x1), some (.int x2), some (.int x3), some (.int v19), some (.int x5)]) gx103_73 rfl rfl) ?_)
        refine pt_d (pt_iinc (c := 1) gx103_75 rfl z5 (fun v20 h20 => ?_))
        show Pt _ _ _ _ [some (.ref q0), some (.int x1), some (.int x2), some (.int x3), some (.int v19), some (.int v20)] [] _ _
        refine pt_d (pt_1 (fun n d => r_goto gx103_78) ?_)
        exact H v19 v20 h19 h20
      · have H := H.2 e15
        refine pt_d (pt_1 (fun n d => r_iloadn gx103_41 rfl) ?_)
        refine pt_d (pt_1 (fun n d => r_iloadn gx103_42 rfl) ?_)
        refine pt_d (pt_1 (fun n d => r_iload gx103_43 rfl) ?_)
        refine pt_d (pt_iand gx103_45 z2 z4 (fun v21 h21 => ?_))
        refine pt_d (pt_ior gx103_46 z3 h21 (fun v22 h22 => ?_))
        refine pt_d (pt_1 (fun n d => r_istoren (L' := [some (.ref q0), some (.int x1), some (.int x2), some (.int v22), some (.int x4), some (.int x5)]) gx103_47 rfl rfl) ?_)
        refine pt_d (pt_1 (fun n d => r_iloadn gx103_48 rfl) ?_)
        refine pt_d (pt_1 (fun n d => r_iload gx103_49 rfl) ?_)
        refine pt_d (pt_ior gx103_51 z2 z4 (fun v23 h23 => ?_))
        refine pt_d (pt_1 (fun n d => r_istoren (L' := [some (.ref q0), some (.int x1), some (.int v23), some (.int v22), some (.int x4), some (.int x5)]) gx103_52 rfl rfl) ?_)
        refine pt_d (pt_iconst gx103_53 (fun v24 h24 => ?_))
        refine pt_d (pt_1 (fun n d => r_istore (L' := [some (.ref q0), some (.int x1), some (.int v23), some (.int v22), some (.int v24), some (.int x5)]) gx103_54 rfl rfl) ?_)
        refine pt_d (pt_1 (fun n d => r_iload gx103_56 rfl) ?_)
        refine pt_d (pt_1 (fun n d => r_aloadn gx103_58 rfl) ?_)
        obtain ⟨pr25, H⟩ := H
        refine pt_d (pt_getK (B := 0) gx103_59 S (pr25) ?_)
        refine pt_d (pt_1 (fun n d => r_aloadn gx103_62 rfl) ?_)
        refine pt_d (pt_1 (fun n d => r_iload gx103_63 rfl) ?_)
        obtain ⟨pr26, H⟩ := H
        refine pt_d (pt_virt (as := [.int x5]) (r := [.ref 1, .int v24]) gx103_65 rfl (show zmt[101]? = some zM101 from rfl) rfl rfl rfl rfl (c_101 S z5 pr26) (kqP (fun v26 h26 => ?_)))
        show Pt _ _ _ 68 _ [.int v26, .ref 1, .int v24] _ _
        refine pt_d (pt_1 (fun n d => r_iloadn gx103_68 rfl) ?_)
        obtain ⟨pr27, H⟩ := H
        refine pt_d (pt_virt (as := [.int v26, .int x1]) (r := [.int v24]) gx103_69 rfl (show zmt[82]? = some zM82 from rfl) rfl rfl rfl rfl (k_82 S h26 z1 pr27) (kqP (fun v27 h27 => ?_)))
        show Pt _ _ _ 72 _ [.int v27, .int v24] _ _
        refine pt_d (pt_ior gx103_72 h24 h27 (fun v28 h28 => ?_))
        refine pt_d (pt_1 (fun n d => r_istore (L' := [some (.ref q0), some (.int x1), some (.int v23), some (.int v22), some (.int v28), some (.int x5)]) gx103_73 rfl rfl) ?_)
        refine pt_d (pt_iinc (c := 1) gx103_75 rfl z5 (fun v29 h29 => ?_))
        show Pt _ _ _ _ [some (.ref q0), some (.int x1), some (.int v23), some (.int v22), some (.int v28), some (.int v29)] [] _ _
        refine pt_d (pt_1 (fun n d => r_goto gx103_78) ?_)
        exact H v23 v22 v28 v29 h23 h22 h28 h29
theorem d104_0 {n : Nat} {X : aX} {h : aH} {P : aH → Prop} {x1 : Int32} {a1 : Int} {q0 : Nat} (S : wS h) (z1 : x1.toInt = a1)  (hq0 : 146 ≤ q0) (H : ((vw h) q0 9 = (((q0 + 4) : Nat) : Int) ∧ (0 ≤ a1 → ((vw h) q0 1 = ((16 : Nat) : Int) ∧ ((0 ≤ vw h 16 2 ∧ vw h 16 2 ≤ 40) ∧ (∀ (w2 : Int32) (w3 : Int32) (w4 : Int32) (u5_ : Option Value), w2.toInt = bOr (vw h (q0 + 4) a1) (oRw (vw h) a1 (vw h q0 2) (vw h q0 3) ((vw h) 16 2).toNat) → w3.toInt = 0 → w4.toInt = 0 → Pt n X zM104 29 [some (.ref q0), some (.int x1), some (.int w2), some (.int w3), some (.int w4), u5_] [] h (qN P))))))) : Pt (n + 1) X zM104 0 [some (.ref q0), some (.int x1), none, none, none, none] [] h (qN P) := by
  refine pt_1 (fun n d => r_aloadn gx104_0 rfl) ?_
  obtain ⟨pr1, H⟩ := H
  refine pt_d (pt_getK (B := 9) gx104_1 S (pr1) ?_)
  refine pt_d (pt_1 (fun n d => r_iloadn gx104_4 rfl) ?_)
  refine pt_d (pt_ialdD gx104_5 z1 (fun v2 p2 h2 => ?_))
  have H := H p2
  refine pt_d (pt_1 (fun n d => r_aloadn gx104_6 rfl) ?_)
  obtain ⟨pr3, H⟩ := H
  refine pt_d (pt_getK (B := 1) gx104_7 S (pr3) ?_)
  refine pt_d (pt_1 (fun n d => r_iloadn gx104_10 rfl) ?_)
  refine pt_d (pt_1 (fun n d => r_aloadn gx104_11 rfl) ?_)
  refine pt_d (pt_getI (B := 2) gx104_12 S (fun v4 h4 => ?_))
  refine pt_d (pt_1 (fun n d => r_aloadn gx104_15 rfl) ?_)
  refine pt_d (pt_getI (B := 3) gx104_16 S (fun v5 h5 => ?_))
  obtain ⟨pr6, H⟩ := H
  refine pt_d (pt_virt (as := [.int x1, .int v4, .int v5]) (r := [.int v2]) gx104_19 rfl (show zmt[33]? = some zM33 from rfl) rfl rfl rfl rfl (c_33 S z1 h4 h5 pr6) (kqP (fun v6 h6 => ?_)))
  show Pt _ _ _ 22 _ [.int v6, .int v2] _ _
  refine pt_d (pt_ior gx104_22 h2 h6 (fun v7 h7 => ?_))
  refine pt_d (pt_1 (fun n d => r_istoren (L' := [some (.ref q0), some (.int x1), some (.int v7), none, none, none]) gx104_23 rfl rfl) ?_)
  refine pt_d (pt_iconst gx104_24 (fun v8 h8 => ?_))
  refine pt_d (pt_1 (fun n d => r_istoren (L' := [some (.ref q0), some (.int x1), some (.int v7), some (.int v8), none, none]) gx104_25 rfl rfl) ?_)
  refine pt_d (pt_iconst gx104_26 (fun v9 h9 => ?_))
  refine pt_d (pt_1 (fun n d => r_istore (L' := [some (.ref q0), some (.int x1), some (.int v7), some (.int v8), some (.int v9), none]) gx104_27 rfl rfl) ?_)
  exact H v7 v8 v9 _ h7 h8 h9
theorem d104_29 {n : Nat} {X : aX} {h : aH} {P : aH → Prop} {x1 x2 x3 x4 : Int32} {a1 a2 a3 a4 : Int} {u5 : Option Value} {q0 : Nat} (S : wS h) (z1 : x1.toInt = a1) (z2 : x2.toInt = a2) (z3 : x3.toInt = a3) (z4 : x4.toInt = a4)  (hq0 : 146 ≤ q0) (H : ((vw h q0 5 ≤ a4 → P h) ∧ (a4 < vw h q0 5 → ((a4 ≤ 0 → ((vw h) q0 0 = ((1 : Nat) : Int) ∧ ((vw h q0 1 = ((16 : Nat) : Int) ∧ vw h q0 6 = ((q0 + 1 : Nat) : Int)) ∧ (((0 ≤ ((vw h) 18 ((vw h) (q0 + 1) a4)) ∧ ((vw h) 18 ((vw h) (q0 + 1) a4)) < 150) ∧ 0 ≤ a1 ∧ a1 < 24) ∧ ((vw h) q0 7 = (((q0 + 2) : Nat) : Int) ∧ (0 ≤ a4 → (((0 : Int) ≤ (bAnd (bAnd ((vw h) 8 (24 * ((vw h) 18 ((vw h) (q0 + 1) a4)) + a1)) (bXor a2 (-1))) (bXor a3 (-1)))) ∧ (0 ≤ a4 → ∀ h_17 : aH, wS h_17 → vw h_17 = up (vw h) (q0 + 2) a4 (w32 ((vw h (q0 + 2) a4) + (bcn (tb (bAnd (bAnd ((vw h) 8 (24 * ((vw h) 18 ((vw h) (q0 + 1) a4)) + a1)) (bXor a2 (-1))) (bXor a3 (-1)))) 32))) → hk h h_17 → (∀ (w3 : Int32) (w4 : Int32) (u5_ : Option Value), w3.toInt = bOr a3 ((vw h) 8 (24 * ((vw h) 18 ((vw h) (q0 + 1) a4)) + a1)) → w4.toInt = w32 (a4 + 1) → Pt n X zM104 29 [some (.ref q0), some (.int x1), some (.int x2), some (.int w3), some (.int w4), u5_] [] h_17 (qN P)))))))))) ∧ (0 < a4 → ((vw h q0 1 = ((16 : Nat) : Int) ∧ vw h q0 6 = ((q0 + 1 : Nat) : Int)) ∧ ((vw h q0 1 = ((16 : Nat) : Int) ∧ vw h q0 6 = ((q0 + 1 : Nat) : Int)) ∧ (((vw h) 17 ((vw h) (q0 + 1) a4) = (vw h) 17 ((vw h) (q0 + 1) (w32 (a4 - 1))) → ((vw h) q0 0 = ((1 : Nat) : Int) ∧ ((vw h q0 1 = ((16 : Nat) : Int) ∧ vw h q0 6 = ((q0 + 1 : Nat) : Int)) ∧ (((0 ≤ ((vw h) 18 ((vw h) (q0 + 1) a4)) ∧ ((vw h) 18 ((vw h) (q0 + 1) a4)) < 150) ∧ 0 ≤ a1 ∧ a1 < 24) ∧ ((vw h) q0 7 = (((q0 + 2) : Nat) : Int) ∧ (0 ≤ a4 → (((0 : Int) ≤ (bAnd (bAnd ((vw h) 8 (24 * ((vw h) 18 ((vw h) (q0 + 1) a4)) + a1)) (bXor a2 (-1))) (bXor a3 (-1)))) ∧ (0 ≤ a4 → ∀ h_38 : aH, wS h_38 → vw h_38 = up (vw h) (q0 + 2) a4 (w32 ((vw h (q0 + 2) a4) + (bcn (tb (bAnd (bAnd ((vw h) 8 (24 * ((vw h) 18 ((vw h) (q0 + 1) a4)) + a1)) (bXor a2 (-1))) (bXor a3 (-1)))) 32))) → hk h h_38 → (∀ (w3 : Int32) (w4 : Int32) (u5_ : Option Value), w3.toInt = bOr a3 ((vw h) 8 (24 * ((vw h) 18 ((vw h) (q0 + 1) a4)) + a1)) → w4.toInt = w32 (a4 + 1) → Pt n X zM104 29 [some (.ref q0), some (.int x1), some (.int x2), some (.int w3), some (.int w4), u5_] [] h_38 (qN P)))))))))) ∧ ((vw h) 17 ((vw h) (q0 + 1) a4) ≠ (vw h) 17 ((vw h) (q0 + 1) (w32 (a4 - 1))) → ((vw h) q0 0 = ((1 : Nat) : Int) ∧ ((vw h q0 1 = ((16 : Nat) : Int) ∧ vw h q0 6 = ((q0 + 1 : Nat) : Int)) ∧ (((0 ≤ ((vw h) 18 ((vw h) (q0 + 1) a4)) ∧ ((vw h) 18 ((vw h) (q0 + 1) a4)) < 150) ∧ 0 ≤ a1 ∧ a1 < 24) ∧ ((vw h) q0 7 = (((q0 + 2) : Nat) : Int) ∧ (0 ≤ a4 → (((0 : Int) ≤ (bAnd (bAnd ((vw h) 8 (24 * ((vw h) 18 ((vw h) (q0 + 1) a4)) + a1)) (bXor a2 (-1))) (bXor 0 (-1)))) ∧ (0 ≤ a4 → ∀ h_55 : aH, wS h_55 → vw h_55 = up (vw h) (q0 + 2) a4 (w32 ((vw h (q0 + 2) a4) + (bcn (tb (bAnd (bAnd ((vw h) 8 (24 * ((vw h) 18 ((vw h) (q0 + 1) a4)) + a1)) (bXor a2 (-1))) (bXor 0 (-1)))) 32))) → hk h h_55 → (∀ (w3 : Int32) (w4 : Int32) (u5_ : Option Value), w3.toInt = bOr 0 ((vw h) 8 (24 * ((vw h) 18 ((vw h) (q0 + 1) a4)) + a1)) → w4.toInt = w32 (a4 + 1) → Pt n X zM104 29 [some (.ref q0), some (.int x1), some (.int x2), some (.int w3), some (.int w4), u5_] [] h_55 (qN P)))))))))))))))))) : Pt (n + 1) X zM104 29 [some (.ref q0), some (.int x1), some (.int x2), some (.int x3), some (.int x4), u5] [] h (qN P) := by
  refine pt_1 (fun n d => r_iload gx104_29 rfl) ?_
  refine pt_d (pt_1 (fun n d => r_aloadn gx104_31 rfl) ?_)
  refine pt_d (pt_getI (B := 5) gx104_32 S (fun v1 h1 => ?_))
  refine pt_d (pt_icmp_ge gx104_35 z4 h1 (fun e2 => ?_) (fun e2 => ?_))
  · have H := H.1 e2
    exact pt_d (pt_vret gx104_112 ⟨rfl, H⟩)
  · have H := H.2 e2
    refine pt_d (pt_1 (fun n d => r_iload gx104_38 rfl) ?_)
    refine pt_d (pt_if_le gx104_40 z4 (fun e3 => ?_) (fun e3 => ?_))
    · have H := H.1 e3
      refine pt_d (pt_1 (fun n d => r_aloadn gx104_62 rfl) ?_)
      obtain ⟨pr4, H⟩ := H
      refine pt_d (pt_getK (B := 0) gx104_63 S (pr4) ?_)
      refine pt_d (pt_1 (fun n d => r_aloadn gx104_66 rfl) ?_)
      refine pt_d (pt_1 (fun n d => r_iload gx104_67 rfl) ?_)
      obtain ⟨pr5, H⟩ := H
      refine pt_d (pt_virt (as := [.int x4]) (r := [.ref 1]) gx104_69 rfl (show zmt[101]? = some zM101 from rfl) rfl rfl rfl rfl (c_101 S z4 pr5) (kqP (fun v5 h5 => ?_)))
      show Pt _ _ _ 72 _ [.int v5, .ref 1] _ _
      refine pt_d (pt_1 (fun n d => r_iloadn gx104_72 rfl) ?_)
      obtain ⟨pr6, H⟩ := H
      refine pt_d (pt_virt (as := [.int v5, .int x1]) (r := []) gx104_73 rfl (show zmt[82]? = some zM82 from rfl) rfl rfl rfl rfl (k_82 S h5 z1 pr6) (kqP (fun v6 h6 => ?_)))
      show Pt _ _ _ 76 _ [.int v6] _ _
      refine pt_d (pt_1 (fun n d => r_istore (L' := [some (.ref q0), some (.int x1), some (.int x2), some (.int x3), some (.int x4), some (.int v6)]) gx104_76 rfl rfl) ?_)
      refine pt_d (pt_1 (fun n d => r_aloadn gx104_78 rfl) ?_)
      obtain ⟨pr7, H⟩ := H
      refine pt_d (pt_getK (B := 7) gx104_79 S (pr7) ?_)
      refine pt_d (pt_1 (fun n d => r_iload gx104_82 rfl) ?_)
      refine pt_d (pt_1 (fun n d => r_dup2 gx104_84 rfl) ?_)
      refine pt_d (pt_ialdD gx104_85 z4 (fun v8 p8 h8 => ?_))
      have H := H p8
      refine pt_d (pt_1 (fun n d => r_iload gx104_86 rfl) ?_)
      refine pt_d (pt_1 (fun n d => r_iloadn gx104_88 rfl) ?_)
      refine pt_d (pt_iconst gx104_89 (fun v9 h9 => ?_))
      refine pt_d (pt_ixor gx104_90 z2 h9 (fun v10 h10 => ?_))
      refine pt_d (pt_iand gx104_91 h6 h10 (fun v11 h11 => ?_))
      refine pt_d (pt_1 (fun n d => r_iloadn gx104_92 rfl) ?_)
      refine pt_d (pt_iconst gx104_93 (fun v12 h12 => ?_))
      refine pt_d (pt_ixor gx104_94 z3 h12 (fun v13 h13 => ?_))
      refine pt_d (pt_iand gx104_95 h11 h13 (fun v14 h14 => ?_))
      obtain ⟨pr15, H⟩ := H
      refine pt_d (pt_stat (as := [.int v14]) (r := [.int v8, .int x4, .ref (q0 + 2)]) gx104_96 rfl (show zmt[329]? = some zM329 from rfl) rfl rfl rfl rfl (c_329 S h14 pr15) (kqP (fun v15 h15 => ?_)))
      show Pt _ _ _ 99 _ [.int v15, .int v8, .int x4, .ref (q0 + 2)] _ _
      refine pt_d (pt_iadd gx104_99 h8 h15 (fun v16 h16 => ?_))
      refine pt_d (pt_iastDk gx104_100 S z4 h16 (fun h_17 S17 p17 e17 K17 => ?_))
      have H := H p17
      refine pt_d (pt_1 (fun n d => r_iloadn gx104_101 rfl) ?_)
      refine pt_d (pt_1 (fun n d => r_iload gx104_102 rfl) ?_)
      refine pt_d (pt_ior gx104_104 z3 h6 (fun v18 h18 => ?_))
      refine pt_d (pt_1 (fun n d => r_istoren (L' := [some (.ref q0), some (.int x1), some (.int x2), some (.int v18), some (.int x4), some (.int v6)]) gx104_105 rfl rfl) ?_)
      refine pt_d (pt_iinc (c := 1) gx104_106 rfl z4 (fun v19 h19 => ?_))
      show Pt _ _ _ _ [some (.ref q0), some (.int x1), some (.int x2), some (.int v18), some (.int v19), some (.int v6)] [] _ _
      refine pt_d (pt_1 (fun n d => r_goto gx104_109) ?_)
      have H := H h_17 S17 (by rw [e17]) K17
      exact H v18 v19 _ h18 h19
    · have H := H.2 e3
      refine pt_d (pt_1 (fun n d => r_aloadn gx104_43 rfl) ?_)
      refine pt_d (pt_1 (fun n d => r_iload gx104_44 rfl) ?_)
      obtain ⟨pr20, H⟩ := H
      refine pt_d (pt_virt (as := [.int x4]) (r := []) gx104_46 rfl (show zmt[100]? = some zM100 from rfl) rfl rfl rfl rfl (c_100 S z4 pr20) (kqP (fun v20 h20 => ?_)))
      show Pt _ _ _ 49 _ [.int v20] _ _
      refine pt_d (pt_1 (fun n d => r_aloadn gx104_49 rfl) ?_)
      refine pt_d (pt_1 (fun n d => r_iload gx104_50 rfl) ?_)
      refine pt_d (pt_iconst gx104_52 (fun v21 h21 => ?_))
      refine pt_d (pt_isub gx104_53 z4 h21 (fun v22 h22 => ?_))
      obtain ⟨pr23, H⟩ := H
      refine pt_d (pt_virt (as := [.int v22]) (r := [.int v20]) gx104_54 rfl (show zmt[100]? = some zM100 from rfl) rfl rfl rfl rfl (c_100 S h22 pr23) (kqP (fun v23 h23 => ?_)))
      show Pt _ _ _ 57 _ [.int v23, .int v20] _ _
      refine pt_d (pt_icmp_eq gx104_57 h20 h23 (fun e24 => ?_) (fun e24 => ?_))
      · have H := H.1 e24
        refine pt_d (pt_1 (fun n d => r_aloadn gx104_62 rfl) ?_)
        obtain ⟨pr25, H⟩ := H
        refine pt_d (pt_getK (B := 0) gx104_63 S (pr25) ?_)
        refine pt_d (pt_1 (fun n d => r_aloadn gx104_66 rfl) ?_)
        refine pt_d (pt_1 (fun n d => r_iload gx104_67 rfl) ?_)
        obtain ⟨pr26, H⟩ := H
        refine pt_d (pt_virt (as := [.int x4]) (r := [.ref 1]) gx104_69 rfl (show zmt[101]? = some zM101 from rfl) rfl rfl rfl rfl (c_101 S z4 pr26) (kqP (fun v26 h26 => ?_)))
        show Pt _ _ _ 72 _ [.int v26, .ref 1] _ _
        refine pt_d (pt_1 (fun n d => r_iloadn gx104_72 rfl) ?_)
        obtain ⟨pr27, H⟩ := H
        refine pt_d (pt_virt (as := [.int v26, .int x1]) (r := []) gx104_73 rfl (show zmt[82]? = some zM82 from rfl) rfl rfl rfl rfl (k_82 S h26 z1 pr27) (kqP (fun v27 h27 => ?_)))
        show Pt _ _ _ 76 _ [.int v27] _ _
        refine pt_d (pt_1 (fun n d => r_istore (L' := [some (.ref q0), some (.int x1), some (.int x2), some (.int x3), some (.int x4), some (.int v27)]) gx104_76 rfl rfl) ?_)
        refine pt_d (pt_1 (fun n d => r_aloadn gx104_78 rfl) ?_)
        obtain ⟨pr28, H⟩ := H
        refine pt_d (pt_getK (B := 7) gx104_79 S (pr28) ?_)
        refine pt_d (pt_1 (fun n d => r_iload gx104_82 rfl) ?_)
        refine pt_d (pt_1 (fun n d => r_dup2 gx104_84 rfl) ?_)
        refine pt_d (pt_ialdD gx104_85 z4 (fun v29 p29 h29 => ?_))
        have H := H p29
        refine pt_d (pt_1 (fun n d => r_iload gx104_86 rfl) ?_)
        refine pt_d (pt_1 (fun n d => r_iloadn gx104_88 rfl) ?_)
        refine pt_d (pt_iconst gx104_89 (fun v30 h30 => ?_))
        refine pt_d (pt_ixor gx104_90 z2 h30 (fun v31 h31 => ?_))
        refine pt_d (pt_iand gx104_91 h27 h31 (fun v32 h32 => ?_))
        refine pt_d (pt_1 (fun n d => r_iloadn gx104_92 rfl) ?_)
        refine pt_d (pt_iconst gx104_93 (fun v33 h33 => ?_))
        refine pt_d (pt_ixor gx104_94 z3 h33 (fun v34 h34 => ?_))
        refine pt_d (pt_iand gx104_95 h32 h34 (fun v35 h35 => ?_))
        obtain ⟨pr36, H⟩ := H
        refine pt_d (pt_stat (as := [.int v35]) (r := [.int v29, .int x4, .ref (q0 + 2)]) gx104_96 rfl (show zmt[329]? = some zM329 from rfl) rfl rfl rfl rfl (c_329 S h35 pr36) (kqP (fun v36 h36 => ?_)))
        show Pt _ _ _ 99 _ [.int v36, .int v29, .int x4, .ref (q0 + 2)] _ _
        refine pt_d (pt_iadd gx104_99 h29 h36 (fun v37 h37 => ?_))
        refine pt_d (pt_iastDk gx104_100 S z4 h37 (fun h_38 S38 p38 e38 K38 => ?_))
        have H := H p38
        refine pt_d (pt_1 (fun n d => r_iloadn gx104_101 rfl) ?_)
        refine pt_d (pt_1 (fun n d => r_iload gx104_102 rfl) ?_)
        refine pt_d (pt_ior gx104_104 z3 h27 (fun v39 h39 => ?_))
        refine pt_d (pt_1 (fun n d => r_istoren (L' := [some (.ref q0), some (.int x1), some (.int x2), some (.int v39), some (.int x4), some (.int v27)]) gx104_105 rfl rfl) ?_)
        refine pt_d (pt_iinc (c := 1) gx104_106 rfl z4 (fun v40 h40 => ?_))
        show Pt _ _ _ _ [some (.ref q0), some (.int x1), some (.int x2), some (.int v39), some (.int v40), some (.int v27)] [] _ _
        refine pt_d (pt_1 (fun n d => r_goto gx104_109) ?_)
        have H := H h_38 S38 (by rw [e38]) K38
        exact H v39 v40 _ h39 h40
      · have H := H.2 e24
        refine pt_d (pt_iconst gx104_60 (fun v41 h41 => ?_))
        refine pt_d (pt_1 (fun n d => r_istoren (L' := [some (.ref q0), some (.int x1), some (.int x2), some (.int v41), some (.int x4), u5]) gx104_61 rfl rfl) ?_)
        refine pt_d (pt_1 (fun n d => r_aloadn gx104_62 rfl) ?_)
        obtain ⟨pr42, H⟩ := H
        refine pt_d (pt_getK (B := 0) gx104_63 S (pr42) ?_)
        refine pt_d (pt_1 (fun n d => r_aloadn gx104_66 rfl) ?_)
        refine pt_d (pt_1 (fun n d => r_iload gx104_67 rfl) ?_)
        obtain ⟨pr43, H⟩ := H
        refine pt_d (pt_virt (as := [.int x4]) (r := [.ref 1]) gx104_69 rfl (show zmt[101]? = some zM101 from rfl) rfl rfl rfl rfl (c_101 S z4 pr43) (kqP (fun v43 h43 => ?_)))
        show Pt _ _ _ 72 _ [.int v43, .ref 1] _ _
        refine pt_d (pt_1 (fun n d => r_iloadn gx104_72 rfl) ?_)
        obtain ⟨pr44, H⟩ := H
        refine pt_d (pt_virt (as := [.int v43, .int x1]) (r := []) gx104_73 rfl (show zmt[82]? = some zM82 from rfl) rfl rfl rfl rfl (k_82 S h43 z1 pr44) (kqP (fun v44 h44 => ?_)))
        show Pt _ _ _ 76 _ [.int v44] _ _
        refine pt_d (pt_1 (fun n d => r_istore (L' := [some (.ref q0), some (.int x1), some (.int x2), some (.int v41), some (.int x4), some (.int v44)]) gx104_76 rfl rfl) ?_)
        refine pt_d (pt_1 (fun n d => r_aloadn gx104_78 rfl) ?_)
        obtain ⟨pr45, H⟩ := H
        refine pt_d (pt_getK (B := 7) gx104_79 S (pr45) ?_)
        refine pt_d (pt_1 (fun n d => r_iload gx104_82 rfl) ?_)
        refine pt_d (pt_1 (fun n d => r_dup2 gx104_84 rfl) ?_)
        refine pt_d (pt_ialdD gx104_85 z4 (fun v46 p46 h46 => ?_))
        have H := H p46
        refine pt_d (pt_1 (fun n d => r_iload gx104_86 rfl) ?_)
        refine pt_d (pt_1 (fun n d => r_iloadn gx104_88 rfl) ?_)
        refine pt_d (pt_iconst gx104_89 (fun v47 h47 => ?_))
        refine pt_d (pt_ixor gx104_90 z2 h47 (fun v48 h48 => ?_))
        refine pt_d (pt_iand gx104_91 h44 h48 (fun v49 h49 => ?_))
        refine pt_d (pt_1 (fun n d => r_iloadn gx104_92 rfl) ?_)
        refine pt_d (pt_iconst gx104_93 (fun v50 h50 => ?_))
        refine pt_d (pt_ixor gx104_94 h41 h50 (fun v51 h51 => ?_))
        refine pt_d (pt_iand gx104_95 h49 h51 (fun v52 h52 => ?_))
        obtain ⟨pr53, H⟩ := H
        refine pt_d (pt_stat (as := [.int v52]) (r := [.int v46, .int x4, .ref (q0 + 2)]) gx104_96 rfl (show zmt[329]? = some zM329 from rfl) rfl rfl rfl rfl (c_329 S h52 pr53) (kqP (fun v53 h53 => ?_)))
        show Pt _ _ _ 99 _ [.int v53, .int v46, .int x4, .ref (q0 + 2)] _ _
        refine pt_d (pt_iadd gx104_99 h46 h53 (fun v54 h54 => ?_))
        refine pt_d (pt_iastDk gx104_100 S z4 h54 (fun h_55 S55 p55 e55 K55 => ?_))
        have H := H p55
        refine pt_d (pt_1 (fun n d => r_iloadn gx104_101 rfl) ?_)
        refine pt_d (pt_1 (fun n d => r_iload gx104_102 rfl) ?_)
        refine pt_d (pt_ior gx104_104 h41 h44 (fun v56 h56 => ?_))
        refine pt_d (pt_1 (fun n d => r_istoren (L' := [some (.ref q0), some (.int x1), some (.int x2), some (.int v56), some (.int x4), some (.int v44)]) gx104_105 rfl rfl) ?_)
        refine pt_d (pt_iinc (c := 1) gx104_106 rfl z4 (fun v57 h57 => ?_))
        show Pt _ _ _ _ [some (.ref q0), some (.int x1), some (.int x2), some (.int v56), some (.int v57), some (.int v44)] [] _ _
        refine pt_d (pt_1 (fun n d => r_goto gx104_109) ?_)
        have H := H h_55 S55 (by rw [e55]) K55
        exact H v56 v57 _ h56 h57
-- a season's list: its farms, its fields, its rows
def fmA (V : vS) (r6 : Nat) (i : Int) : Int := V 17 (V r6 i)
def fdA (V : vS) (r6 : Nat) (i : Int) : Int := V 18 (V r6 i)
def Bt (V : vS) (r6 : Nat) (y i : Int) (x : Nat) : Bool := tb (V 8 (24 * fdA V r6 i + y)) x
def lst (V : vS) (q : Nat) : Prop := (V q 0 = ((1 : Nat) : Int) ∧ V q 1 = ((16 : Nat) : Int) ∧ V q 6 = ((q + 1 : Nat) : Int)) ∧ (0 ≤ V q 5 ∧ V q 5 ≤ 300) ∧ (∀ i, 0 ≤ i → i < V q 5 → 0 ≤ fdA V (q + 1) i ∧ fdA V (q + 1) i < 150) ∧ ∀ i j, 0 ≤ i → i ≤ j → j < V q 5 → fmA V (q + 1) i ≤ fmA V (q + 1) j
def fInv (V : vS) (r6 : Nat) (y i once more own : Int) : Prop := ∀ x, x < 32 → (tb own x = true ↔ ∃ j, (0 ≤ j ∧ j < i) ∧ fmA V r6 j = fmA V r6 (i - 1) ∧ Bt V r6 y j x = true) ∧ (tb once x = true ↔ ∃ j, (0 ≤ j ∧ j < i) ∧ fmA V r6 j ≠ fmA V r6 (i - 1) ∧ Bt V r6 y j x = true) ∧ (tb more x = true ↔ ∃ j j', (0 ≤ j ∧ j < j' ∧ j' < i) ∧ fmA V r6 j ≠ fmA V r6 j' ∧ fmA V r6 j' ≠ fmA V r6 (i - 1) ∧ Bt V r6 y j x = true ∧ Bt V r6 y j' x = true)
theorem tb_or' (a b : Int) (x : Nat) : tb (bOr a b) x = true ↔ tb a x = true ∨ tb b x = true := by rw [tb_or, Bool.or_eq_true]
theorem tb_and' (a b : Int) (x : Nat) : tb (bAnd a b) x = true ↔ tb a x = true ∧ tb b x = true := by rw [tb_and, Bool.and_eq_true]
theorem fInv_0 (V : vS) (r6 : Nat) (y : Int) : fInv V r6 y 0 0 0 0 := by
  intro x hx
  rw [tb_0 hx]
  refine ⟨⟨fun z => (by cases z), fun ⟨j, h, _⟩ => by omega⟩, ⟨fun z => (by cases z), fun ⟨j, h, _⟩ => by omega⟩, ⟨fun z => (by cases z), fun ⟨j, j', h, _⟩ => by omega⟩⟩
theorem fInv_s {V : vS} {r6 : Nat} {y i once more own : Int} (I : fInv V r6 y i once more own) (i0 : 0 ≤ i) (e : i ≤ 0 ∨ fmA V r6 i = fmA V r6 (i - 1)) : fInv V r6 y (i + 1) once more (bOr own (V 8 (24 * fdA V r6 i + y))) := by
  intro x hx
  obtain ⟨a, b, c⟩ := I x hx
  have k : ∀ j, 0 ≤ j → j < i → (fmA V r6 (i - 1) = fmA V r6 i) := fun j j0 j1 => by
    rcases e with e | e
    · omega
    · exact e.symm
  rw [tb_or', a, b, c, show i + 1 - 1 = i by omega]
  refine ⟨⟨fun z => ?_, fun ⟨j, h, f, g⟩ => ?_⟩, ⟨fun ⟨j, h, f, g⟩ => ?_, fun ⟨j, h, f, g⟩ => ?_⟩, ⟨fun ⟨j, j', h, f, g, u⟩ => ?_, fun ⟨j, j', h, f, g, u⟩ => ?_⟩⟩
  · rcases z with ⟨j, h, f, g⟩ | z
    · exact ⟨j, ⟨h.1, by omega⟩, f.trans (k j h.1 h.2), g⟩
    · exact ⟨i, ⟨i0, by omega⟩, rfl, z⟩
  · by_cases w : j = i
    · subst w
      exact Or.inr g
    · exact Or.inl ⟨j, ⟨h.1, by omega⟩, f.trans (k j h.1 (by omega)).symm, g⟩
  · exact ⟨j, ⟨h.1, by omega⟩, fun w => f (w.trans (k j h.1 h.2).symm), g⟩
  · by_cases w : j = i
    · subst w
      exact absurd rfl f
    · exact ⟨j, ⟨h.1, by omega⟩, fun u => f (u.trans (k j h.1 (by omega))), g⟩
  · exact ⟨j, j', ⟨h.1, h.2.1, by omega⟩, f, fun w => g (w.trans (k j' (by omega) h.2.2).symm), u⟩
  · by_cases w : j' = i
    · subst w
      exact absurd rfl g
    · exact ⟨j, j', ⟨h.1, h.2.1, by omega⟩, f, fun v => g (v.trans (k j' (by omega) (by omega))), u⟩
theorem fInv_n {V : vS} {r6 : Nat} {y i N once more own : Int} (hs : ∀ i j, 0 ≤ i → i ≤ j → j < N → fmA V r6 i ≤ fmA V r6 j) (I : fInv V r6 y i once more own) (i0 : 0 < i) (iN : i < N) (e : fmA V r6 i ≠ fmA V r6 (i - 1)) : fInv V r6 y (i + 1) (bOr once own) (bOr more (bAnd once own)) (bOr 0 (V 8 (24 * fdA V r6 i + y))) := by
  intro x hx
  have lt : fmA V r6 (i - 1) < fmA V r6 i := by
    have := hs (i - 1) i (by omega) (by omega) iN
    omega
  have le : ∀ j, 0 ≤ j → j < i → fmA V r6 j ≤ fmA V r6 (i - 1) := fun j j0 j1 => hs j (i - 1) j0 (by omega) (by omega)
  obtain ⟨a, b, c⟩ := I x hx
  rw [tb_or', tb_or', tb_or', tb_and', a, b, c, tb_0 hx, show i + 1 - 1 = i from Int.add_sub_cancel i 1]
  clear a b c I
  refine ⟨⟨fun z => ?_, fun ⟨j, h, f, g⟩ => ?_⟩, ⟨fun z => ?_, fun ⟨j, h, f, g⟩ => ?_⟩, ⟨fun z => ?_, fun ⟨j, j', h, f, g, u⟩ => ?_⟩⟩
  · rcases z with z | z
    · cases z
    · exact ⟨i, ⟨by omega, by omega⟩, rfl, z⟩
  · by_cases w : j = i
    · subst w
      exact Or.inr g
    · have := le j h.1 (by omega)
      omega
  · rcases z with ⟨j, h, f, g⟩ | ⟨j, h, f, g⟩
    · have := le j h.1 h.2
      exact ⟨j, ⟨h.1, by omega⟩, by omega, g⟩
    · have := le j h.1 h.2
      exact ⟨j, ⟨h.1, by omega⟩, by omega, g⟩
  · by_cases w : j = i
    · subst w
      exact absurd rfl f
    · by_cases v : fmA V r6 j = fmA V r6 (i - 1)
      · exact Or.inr ⟨j, ⟨h.1, by omega⟩, v, g⟩
      · exact Or.inl ⟨j, ⟨h.1, by omega⟩, v, g⟩
  · rcases z with ⟨j, j', h, f, g, u⟩ | ⟨⟨j, h, f, g⟩, ⟨j', h', f', g'⟩⟩
    · have := le j' (by omega) h.2.2
      exact ⟨j, j', ⟨h.1, h.2.1, by omega⟩, f, by omega, u⟩
    · have l1 := le j h.1 h.2
      have jj : j < j' := by
        rcases Int.lt_or_le j j' with w | w
        · exact w
        · have := hs j' j h'.1 w (by omega)
          omega
      exact ⟨j, j', ⟨h.1, jj, by omega⟩, by omega, by omega, g, g'⟩
  · have wj : j' ≠ i := fun w => by subst w; exact absurd rfl g
    by_cases v : fmA V r6 j' = fmA V r6 (i - 1)
    · exact Or.inr ⟨⟨j, ⟨h.1, by omega⟩, fun w => f (w.trans v.symm), u.1⟩, ⟨j', ⟨by omega, by omega⟩, v, u.2⟩⟩
    · exact Or.inl ⟨j, j', ⟨h.1, h.2.1, by omega⟩, f, v, u⟩
def fltB (V : vS) (r6 : Nat) (y N : Int) (x : Nat) : Prop := ∃ j j', (0 ≤ j ∧ j < j' ∧ j' < N) ∧ fmA V r6 j ≠ fmA V r6 j' ∧ Bt V r6 y j x = true ∧ Bt V r6 y j' x = true
theorem fInv_e {V : vS} {r6 : Nat} {y N once more own : Int} (hs : ∀ i j, 0 ≤ i → i ≤ j → j < N → fmA V r6 i ≤ fmA V r6 j) (I : fInv V r6 y N once more own) : ∀ x, x < 32 → (tb (bOr more (bAnd once own)) x = true ↔ fltB V r6 y N x) := by
  intro x hx
  obtain ⟨a, b, c⟩ := I x hx
  rw [tb_or', tb_and', a, b, c]
  refine ⟨fun z => ?_, fun ⟨j, j', h, f, u⟩ => ?_⟩
  · rcases z with ⟨j, j', h, f, g, u⟩ | ⟨⟨j, h, f, g⟩, ⟨j', h', f', g'⟩⟩
    · exact ⟨j, j', h, f, u⟩
    · have l1 := hs j (N - 1) h.1 (by omega) (by omega)
      have jj : j < j' := by
        rcases Int.lt_or_le j j' with w | w
        · exact w
        · have := hs j' j h'.1 w h.2
          omega
      exact ⟨j, j', ⟨h.1, jj, h'.2⟩, by omega, g, g'⟩
  · by_cases v : fmA V r6 j' = fmA V r6 (N - 1)
    · exact Or.inr ⟨⟨j, ⟨h.1, by omega⟩, fun w => f (w.trans v.symm), u.1⟩, ⟨j', ⟨by omega, h.2.2⟩, v, u.2⟩⟩
    · exact Or.inl ⟨j, j', h, f, v, u⟩
theorem l_103 {X : aX} {h : aH} {q0 : Nat} {y : Int} (S : wS h) (L : lst (vw h) q0) (hy : 0 ≤ y ∧ y < 24) : ∀ (n : Nat) (x1 x2 x3 x4 x5 : Int32) (i : Int), x1.toInt = y → x5.toInt = i → 0 ≤ i → i ≤ vw h q0 5 → fInv (vw h) (q0 + 1) y i x2.toInt x3.toInt x4.toInt → Pt n X zM103 10 [some (.ref q0), some (.int x1), some (.int x2), some (.int x3), some (.int x4), some (.int x5)] [] h (qI (fun r h' => h' = h ∧ ∀ x, x < 32 → (tb r x = true ↔ fltB (vw h) (q0 + 1) y (vw h q0 5) x))) := by
  obtain ⟨⟨k0, k1, k6⟩, hN, hf, hs⟩ := L
  intro n
  induction n with
  | zero => exact fun _ _ _ _ _ _ _ _ _ _ _ => pt_z
  | succ n ih =>
    intro x1 x2 x3 x4 x5 i h1 h5 i0 iN I
    refine d103_10 S h1 rfl rfl rfl h5 ⟨fun e => ⟨rfl, ?_⟩, fun e => ⟨fun e2 => ⟨k0, ⟨k1, k6⟩, ⟨hf i i0 e, hy⟩, fun w4 w5 g4 g5 => ?_⟩, fun e2 => ⟨⟨k1, k6⟩, ⟨k1, k6⟩, fun e3 => ⟨k0, ⟨k1, k6⟩, ⟨hf i i0 e, hy⟩, fun w4 w5 g4 g5 => ?_⟩, fun e3 => ⟨k0, ⟨k1, k6⟩, ⟨hf i i0 e, hy⟩, fun w2 w3 w4 w5 g2 g3 g4 g5 => ?_⟩⟩⟩⟩
    · have : i = vw h q0 5 := by omega
      subst this
      exact fInv_e hs I
    · replace g5 := w_1 g5 (by omega) (by omega)
      exact ih x1 x2 x3 w4 w5 (i + 1) h1 g5 (by omega) (by omega) (by rw [g4]; exact fInv_s I i0 (Or.inl e2))
    · replace g5 := w_1 g5 (by omega) (by omega)
      rw [w32_id (by omega) (by omega)] at e3
      exact ih x1 x2 x3 w4 w5 (i + 1) h1 g5 (by omega) (by omega) (by rw [g4]; exact fInv_s I i0 (Or.inr e3))
    · replace g5 := w_1 g5 (by omega) (by omega)
      rw [w32_id (by omega) (by omega)] at e3
      exact ih x1 w2 w3 w4 w5 (i + 1) h1 g5 (by omega) (by omega) (by rw [g2, g3, g4]; exact fInv_n hs I e2 e e3)
def R103 (V : vS) (q : Nat) (y r : Int) : Prop := ∀ x, x < 32 → (tb r x = true ↔ fltB V (q + 1) y (V q 5) x)
theorem c_103 {n : Nat} {X : aX} {h : aH} {x1 : Int32} {a1 : Int} {q0 : Nat} (S : wS h) (z1 : x1.toInt = a1) (hp : lst (vw h) q0 ∧ 0 ≤ a1 ∧ a1 < 24) : Pt n X zM103 0 [some (.ref q0), some (.int x1), none, none, none, none] [] h (qI (fun y h' => wS h' ∧ h' = h ∧ R103 (vw h) q0 a1 y)) := by
  refine pt_d (d103_0 S z1 (fun w2 w3 w4 w5 g2 g3 g4 g5 => ?_))
  refine pt_q (l_103 S hp.1 hp.2 n x1 w2 w3 w4 w5 0 z1 g5 (Int.le_refl _) hp.1.2.1.1 (by rw [g2, g3, g4]; exact fInv_0 _ _ _)) ?_
  rintro v h' ⟨x, ex, p1, p2⟩
  exact ⟨x, ex, by rw [p1]; exact S, p1, p2⟩


-- ===== proofs, outs =====
theorem tl_32 : tkL 32 0 1500 = true := by decide +kernel
theorem tl_111 : tkL 111 0 1500 = true := by decide +kernel
theorem tl_23 : tkL 23 0 40 = true := by decide +kernel
theorem tl_24 : tkL 24 0 40 = true := by decide +kernel
theorem tl_25 : tkL 25 0 40 = true := by decide +kernel
theorem tl_26 : tkL 26 0 40 = true := by decide +kernel
theorem tl_92 : tkL 92 0 40 = true := by decide +kernel
theorem tl_93 : tkL 93 0 40 = true := by decide +kernel
theorem tl_94 : tkL 94 0 40 = true := by decide +kernel
theorem tl_95 : tkL 95 0 40 = true := by decide +kernel
theorem tl_96 : tkL 96 0 40 = true := by decide +kernel
theorem tl_97 : tkL 97 0 40 = true := by decide +kernel
theorem tr_16_19 : tkR 16 19 32 = true := by decide +kernel
theorem tr_72_48 : tkR 72 48 111 = true := by decide +kernel
theorem tr_16_10 : tkR 16 10 23 = true := by decide +kernel
theorem tr_16_11 : tkR 16 11 24 = true := by decide +kernel
theorem tr_16_12 : tkR 16 12 25 = true := by decide +kernel
theorem tr_16_13 : tkR 16 13 26 = true := by decide +kernel
theorem tr_72_26 : tkR 72 26 92 = true := by decide +kernel
theorem tr_72_27 : tkR 72 27 93 = true := by decide +kernel
theorem tr_72_28 : tkR 72 28 94 = true := by decide +kernel
theorem tr_72_29 : tkR 72 29 95 = true := by decide +kernel
theorem tr_72_30 : tkR 72 30 96 = true := by decide +kernel
theorem tr_72_31 : tkR 72 31 97 = true := by decide +kernel
theorem gx37_0 : aF 0 zM37.2.2.2.2.2.2.2 = some (0, (.iload_n 1), 1, 0, 0) := by decide +kernel
theorem gx37_1 : aF 1 zM37.2.2.2.2.2.2.2 = some (1, (.bipush 10), 2, 0, 0) := by decide +kernel
theorem gx37_3 : aF 3 zM37.2.2.2.2.2.2.2 = some (3, .imul, 1, 0, 0) := by decide +kernel
theorem gx37_4 : aF 4 zM37.2.2.2.2.2.2.2 = some (4, (.iload_n 2), 1, 0, 0) := by decide +kernel
theorem gx37_5 : aF 5 zM37.2.2.2.2.2.2.2 = some (5, .iadd, 1, 0, 0) := by decide +kernel
theorem gx37_6 : aF 6 zM37.2.2.2.2.2.2.2 = some (6, (.istore_n 3), 1, 0, 0) := by decide +kernel
theorem gx37_7 : aF 7 zM37.2.2.2.2.2.2.2 = some (7, (.aload_n 0), 1, 0, 0) := by decide +kernel
theorem gx37_8 : aF 8 zM37.2.2.2.2.2.2.2 = some (8, (.getfield 57), 3, 2, 19) := by decide +kernel
theorem gx37_11 : aF 11 zM37.2.2.2.2.2.2.2 = some (11, (.iload_n 3), 1, 0, 0) := by decide +kernel
theorem gx37_12 : aF 12 zM37.2.2.2.2.2.2.2 = some (12, .iaload, 1, 0, 0) := by decide +kernel
theorem gx37_13 : aF 13 zM37.2.2.2.2.2.2.2 = some (13, (.ifCond .eq 5), 3, 18, 0) := by decide +kernel
theorem gx37_18 : aF 18 zM37.2.2.2.2.2.2.2 = some (18, (.aload_n 0), 1, 0, 0) := by decide +kernel
theorem gx37_19 : aF 19 zM37.2.2.2.2.2.2.2 = some (19, (.getfield 57), 3, 2, 19) := by decide +kernel
theorem gx37_22 : aF 22 zM37.2.2.2.2.2.2.2 = some (22, (.iload_n 3), 1, 0, 0) := by decide +kernel
theorem gx37_23 : aF 23 zM37.2.2.2.2.2.2.2 = some (23, (.aload_n 0), 1, 0, 0) := by decide +kernel
theorem gx37_24 : aF 24 zM37.2.2.2.2.2.2.2 = some (24, (.getfield 60), 3, 2, 0) := by decide +kernel
theorem gx37_27 : aF 27 zM37.2.2.2.2.2.2.2 = some (27, (.getfield 68), 3, 6, 0) := by decide +kernel
theorem gx37_30 : aF 30 zM37.2.2.2.2.2.2.2 = some (30, (.iconst 1), 1, 0, 0) := by decide +kernel
theorem gx37_31 : aF 31 zM37.2.2.2.2.2.2.2 = some (31, .iadd, 1, 0, 0) := by decide +kernel
theorem gx37_32 : aF 32 zM37.2.2.2.2.2.2.2 = some (32, .iastore, 1, 0, 0) := by decide +kernel
theorem gx37_33 : aF 33 zM37.2.2.2.2.2.2.2 = some (33, (.iconst 1), 1, 0, 0) := by decide +kernel
theorem gx37_34 : aF 34 zM37.2.2.2.2.2.2.2 = some (34, .ireturn, 1, 0, 0) := by decide +kernel
theorem gx37_16 : aF 16 zM37.2.2.2.2.2.2.2 = some (16, (.iconst 0), 1, 0, 0) := by decide +kernel
theorem gx37_17 : aF 17 zM37.2.2.2.2.2.2.2 = some (17, .ireturn, 1, 0, 0) := by decide +kernel
theorem gx162_0 : aF 0 zM162.2.2.2.2.2.2.2 = some (0, (.aload_n 0), 1, 0, 0) := by decide +kernel
theorem gx162_1 : aF 1 zM162.2.2.2.2.2.2.2 = some (1, (.getfield 12), 3, 11, 0) := by decide +kernel
theorem gx162_4 : aF 4 zM162.2.2.2.2.2.2.2 = some (4, (.iload_n 1), 1, 0, 0) := by decide +kernel
theorem gx162_5 : aF 5 zM162.2.2.2.2.2.2.2 = some (5, (.invokevirtual 121), 3, 75, 0) := by decide +kernel
theorem gx162_8 : aF 8 zM162.2.2.2.2.2.2.2 = some (8, (.ifCond .eq 10), 3, 18, 0) := by decide +kernel
theorem gx162_18 : aF 18 zM162.2.2.2.2.2.2.2 = some (18, (.iconst (-1)), 1, 0, 0) := by decide +kernel
theorem gx162_19 : aF 19 zM162.2.2.2.2.2.2.2 = some (19, .ireturn, 1, 0, 0) := by decide +kernel
theorem gx162_11 : aF 11 zM162.2.2.2.2.2.2.2 = some (11, (.iload_n 2), 1, 0, 0) := by decide +kernel
theorem gx162_12 : aF 12 zM162.2.2.2.2.2.2.2 = some (12, (.invokestatic 187), 3, 139, 0) := by decide +kernel
theorem gx162_15 : aF 15 zM162.2.2.2.2.2.2.2 = some (15, (.ifCond .ne 5), 3, 20, 0) := by decide +kernel
theorem gx162_20 : aF 20 zM162.2.2.2.2.2.2.2 = some (20, (.aload_n 0), 1, 0, 0) := by decide +kernel
theorem gx162_21 : aF 21 zM162.2.2.2.2.2.2.2 = some (21, (.getfield 28), 3, 11, 2) := by decide +kernel
theorem gx162_24 : aF 24 zM162.2.2.2.2.2.2.2 = some (24, (.iload_n 1), 1, 0, 0) := by decide +kernel
theorem gx162_25 : aF 25 zM162.2.2.2.2.2.2.2 = some (25, (.iload_n 2), 1, 0, 0) := by decide +kernel
theorem gx162_26 : aF 26 zM162.2.2.2.2.2.2.2 = some (26, (.invokevirtual 228), 3, 37, 0) := by decide +kernel
theorem gx162_29 : aF 29 zM162.2.2.2.2.2.2.2 = some (29, (.ifCond .eq 7), 3, 36, 0) := by decide +kernel
theorem gx162_36 : aF 36 zM162.2.2.2.2.2.2.2 = some (36, (.bipush (-2)), 2, 0, 0) := by decide +kernel
theorem gx162_38 : aF 38 zM162.2.2.2.2.2.2.2 = some (38, .ireturn, 1, 0, 0) := by decide +kernel
theorem gx162_32 : aF 32 zM162.2.2.2.2.2.2.2 = some (32, (.iconst 1), 1, 0, 0) := by decide +kernel
theorem gx162_33 : aF 33 zM162.2.2.2.2.2.2.2 = some (33, (.goto 5), 3, 38, 0) := by decide +kernel
theorem gx244_0 : aF 0 zM244.2.2.2.2.2.2.2 = some (0, (.aload_n 0), 1, 0, 0) := by decide +kernel
theorem gx244_1 : aF 1 zM244.2.2.2.2.2.2.2 = some (1, (.iload_n 1), 1, 0, 0) := by decide +kernel
theorem gx244_2 : aF 2 zM244.2.2.2.2.2.2.2 = some (2, (.invokevirtual 316), 3, 202, 0) := by decide +kernel
theorem gx244_5 : aF 5 zM244.2.2.2.2.2.2.2 = some (5, (.ifCond .eq 10), 3, 15, 0) := by decide +kernel
theorem gx244_15 : aF 15 zM244.2.2.2.2.2.2.2 = some (15, (.iconst (-1)), 1, 0, 0) := by decide +kernel
theorem gx244_16 : aF 16 zM244.2.2.2.2.2.2.2 = some (16, .ireturn, 1, 0, 0) := by decide +kernel
theorem gx244_8 : aF 8 zM244.2.2.2.2.2.2.2 = some (8, (.iload_n 2), 1, 0, 0) := by decide +kernel
theorem gx244_9 : aF 9 zM244.2.2.2.2.2.2.2 = some (9, (.invokestatic 372), 3, 198, 0) := by decide +kernel
theorem gx244_12 : aF 12 zM244.2.2.2.2.2.2.2 = some (12, (.ifCond .ne 5), 3, 17, 0) := by decide +kernel
theorem gx244_17 : aF 17 zM244.2.2.2.2.2.2.2 = some (17, (.aload_n 0), 1, 0, 0) := by decide +kernel
theorem gx244_18 : aF 18 zM244.2.2.2.2.2.2.2 = some (18, (.getfield 133), 3, 12, 48) := by decide +kernel
theorem gx244_21 : aF 21 zM244.2.2.2.2.2.2.2 = some (21, (.bipush 10), 2, 0, 0) := by decide +kernel
theorem gx244_23 : aF 23 zM244.2.2.2.2.2.2.2 = some (23, (.iload_n 1), 1, 0, 0) := by decide +kernel
theorem gx244_24 : aF 24 zM244.2.2.2.2.2.2.2 = some (24, .imul, 1, 0, 0) := by decide +kernel
theorem gx244_25 : aF 25 zM244.2.2.2.2.2.2.2 = some (25, (.iload_n 2), 1, 0, 0) := by decide +kernel
theorem gx244_26 : aF 26 zM244.2.2.2.2.2.2.2 = some (26, .iadd, 1, 0, 0) := by decide +kernel
theorem gx244_27 : aF 27 zM244.2.2.2.2.2.2.2 = some (27, .iaload, 1, 0, 0) := by decide +kernel
theorem gx244_28 : aF 28 zM244.2.2.2.2.2.2.2 = some (28, (.ifCond .le 6), 3, 34, 0) := by decide +kernel
theorem gx244_34 : aF 34 zM244.2.2.2.2.2.2.2 = some (34, (.aload_n 0), 1, 0, 0) := by decide +kernel
theorem gx244_35 : aF 35 zM244.2.2.2.2.2.2.2 = some (35, (.getfield 133), 3, 12, 48) := by decide +kernel
theorem gx244_38 : aF 38 zM244.2.2.2.2.2.2.2 = some (38, (.bipush 10), 2, 0, 0) := by decide +kernel
theorem gx244_40 : aF 40 zM244.2.2.2.2.2.2.2 = some (40, (.iload_n 1), 1, 0, 0) := by decide +kernel
theorem gx244_41 : aF 41 zM244.2.2.2.2.2.2.2 = some (41, .imul, 1, 0, 0) := by decide +kernel
theorem gx244_42 : aF 42 zM244.2.2.2.2.2.2.2 = some (42, (.iload_n 2), 1, 0, 0) := by decide +kernel
theorem gx244_43 : aF 43 zM244.2.2.2.2.2.2.2 = some (43, .iadd, 1, 0, 0) := by decide +kernel
theorem gx244_44 : aF 44 zM244.2.2.2.2.2.2.2 = some (44, (.aload_n 0), 1, 0, 0) := by decide +kernel
theorem gx244_45 : aF 45 zM244.2.2.2.2.2.2.2 = some (45, (.getfield 262), 3, 12, 1) := by decide +kernel
theorem gx244_48 : aF 48 zM244.2.2.2.2.2.2.2 = some (48, (.iconst 1), 1, 0, 0) := by decide +kernel
theorem gx244_49 : aF 49 zM244.2.2.2.2.2.2.2 = some (49, .iadd, 1, 0, 0) := by decide +kernel
theorem gx244_50 : aF 50 zM244.2.2.2.2.2.2.2 = some (50, .iastore, 1, 0, 0) := by decide +kernel
theorem gx244_51 : aF 51 zM244.2.2.2.2.2.2.2 = some (51, (.iconst 1), 1, 0, 0) := by decide +kernel
theorem gx244_52 : aF 52 zM244.2.2.2.2.2.2.2 = some (52, .ireturn, 1, 0, 0) := by decide +kernel
theorem gx244_31 : aF 31 zM244.2.2.2.2.2.2.2 = some (31, (.bipush (-2)), 2, 0, 0) := by decide +kernel
theorem gx244_33 : aF 33 zM244.2.2.2.2.2.2.2 = some (33, .ireturn, 1, 0, 0) := by decide +kernel
theorem gx32_0 : aF 0 zM32.2.2.2.2.2.2.2 = some (0, (.aload_n 0), 1, 0, 0) := by decide +kernel
theorem gx32_1 : aF 1 zM32.2.2.2.2.2.2.2 = some (1, (.getfield 96), 3, 2, 2) := by decide +kernel
theorem gx32_4 : aF 4 zM32.2.2.2.2.2.2.2 = some (4, (.bipush 40), 2, 0, 0) := by decide +kernel
theorem gx32_6 : aF 6 zM32.2.2.2.2.2.2.2 = some (6, (.if_icmp .ge 59), 3, 65, 0) := by decide +kernel
theorem gx32_65 : aF 65 zM32.2.2.2.2.2.2.2 = some (65, (.aload_n 0), 1, 0, 0) := by decide +kernel
theorem gx32_66 : aF 66 zM32.2.2.2.2.2.2.2 = some (66, (.getfield 96), 3, 2, 2) := by decide +kernel
theorem gx32_69 : aF 69 zM32.2.2.2.2.2.2.2 = some (69, .ireturn, 1, 0, 0) := by decide +kernel
theorem gx32_9 : aF 9 zM32.2.2.2.2.2.2.2 = some (9, (.aload_n 0), 1, 0, 0) := by decide +kernel
theorem gx32_10 : aF 10 zM32.2.2.2.2.2.2.2 = some (10, (.getfield 30), 3, 2, 10) := by decide +kernel
theorem gx32_13 : aF 13 zM32.2.2.2.2.2.2.2 = some (13, (.aload_n 0), 1, 0, 0) := by decide +kernel
theorem gx32_14 : aF 14 zM32.2.2.2.2.2.2.2 = some (14, (.getfield 96), 3, 2, 2) := by decide +kernel
theorem gx32_17 : aF 17 zM32.2.2.2.2.2.2.2 = some (17, (.iload_n 1), 1, 0, 0) := by decide +kernel
theorem gx32_18 : aF 18 zM32.2.2.2.2.2.2.2 = some (18, .iastore, 1, 0, 0) := by decide +kernel
theorem gx32_19 : aF 19 zM32.2.2.2.2.2.2.2 = some (19, (.aload_n 0), 1, 0, 0) := by decide +kernel
theorem gx32_20 : aF 20 zM32.2.2.2.2.2.2.2 = some (20, (.getfield 33), 3, 2, 11) := by decide +kernel
theorem gx32_23 : aF 23 zM32.2.2.2.2.2.2.2 = some (23, (.aload_n 0), 1, 0, 0) := by decide +kernel
theorem gx32_24 : aF 24 zM32.2.2.2.2.2.2.2 = some (24, (.getfield 96), 3, 2, 2) := by decide +kernel
theorem gx32_27 : aF 27 zM32.2.2.2.2.2.2.2 = some (27, (.iload_n 2), 1, 0, 0) := by decide +kernel
theorem gx32_28 : aF 28 zM32.2.2.2.2.2.2.2 = some (28, .iastore, 1, 0, 0) := by decide +kernel
theorem gx32_29 : aF 29 zM32.2.2.2.2.2.2.2 = some (29, (.aload_n 0), 1, 0, 0) := by decide +kernel
theorem gx32_30 : aF 30 zM32.2.2.2.2.2.2.2 = some (30, (.getfield 36), 3, 2, 12) := by decide +kernel
theorem gx32_33 : aF 33 zM32.2.2.2.2.2.2.2 = some (33, (.aload_n 0), 1, 0, 0) := by decide +kernel
theorem gx32_34 : aF 34 zM32.2.2.2.2.2.2.2 = some (34, (.getfield 96), 3, 2, 2) := by decide +kernel
theorem gx32_37 : aF 37 zM32.2.2.2.2.2.2.2 = some (37, (.iload_n 3), 1, 0, 0) := by decide +kernel
theorem gx32_38 : aF 38 zM32.2.2.2.2.2.2.2 = some (38, .iastore, 1, 0, 0) := by decide +kernel
theorem gx32_39 : aF 39 zM32.2.2.2.2.2.2.2 = some (39, (.aload_n 0), 1, 0, 0) := by decide +kernel
theorem gx32_40 : aF 40 zM32.2.2.2.2.2.2.2 = some (40, (.getfield 39), 3, 2, 13) := by decide +kernel
theorem gx32_43 : aF 43 zM32.2.2.2.2.2.2.2 = some (43, (.aload_n 0), 1, 0, 0) := by decide +kernel
theorem gx32_44 : aF 44 zM32.2.2.2.2.2.2.2 = some (44, (.getfield 96), 3, 2, 2) := by decide +kernel
theorem gx32_47 : aF 47 zM32.2.2.2.2.2.2.2 = some (47, (.aload_n 0), 1, 0, 0) := by decide +kernel
theorem gx32_48 : aF 48 zM32.2.2.2.2.2.2.2 = some (48, (.getfield 60), 3, 2, 0) := by decide +kernel
theorem gx32_51 : aF 51 zM32.2.2.2.2.2.2.2 = some (51, (.getfield 68), 3, 6, 0) := by decide +kernel
theorem gx32_54 : aF 54 zM32.2.2.2.2.2.2.2 = some (54, .iastore, 1, 0, 0) := by decide +kernel
theorem gx32_55 : aF 55 zM32.2.2.2.2.2.2.2 = some (55, (.aload_n 0), 1, 0, 0) := by decide +kernel
theorem gx32_56 : aF 56 zM32.2.2.2.2.2.2.2 = some (56, .dup, 1, 0, 0) := by decide +kernel
theorem gx32_57 : aF 57 zM32.2.2.2.2.2.2.2 = some (57, (.getfield 96), 3, 2, 2) := by decide +kernel
theorem gx32_60 : aF 60 zM32.2.2.2.2.2.2.2 = some (60, (.iconst 1), 1, 0, 0) := by decide +kernel
theorem gx32_61 : aF 61 zM32.2.2.2.2.2.2.2 = some (61, .iadd, 1, 0, 0) := by decide +kernel
theorem gx32_62 : aF 62 zM32.2.2.2.2.2.2.2 = some (62, (.putfield 96), 3, 2, 2) := by decide +kernel
theorem gx159_0 : aF 0 zM159.2.2.2.2.2.2.2 = some (0, (.iload_n 1), 1, 0, 0) := by decide +kernel
theorem gx159_1 : aF 1 zM159.2.2.2.2.2.2.2 = some (1, (.ifCond .lt 14), 3, 15, 0) := by decide +kernel
theorem gx159_15 : aF 15 zM159.2.2.2.2.2.2.2 = some (15, (.iconst (-1)), 1, 0, 0) := by decide +kernel
theorem gx159_16 : aF 16 zM159.2.2.2.2.2.2.2 = some (16, .ireturn, 1, 0, 0) := by decide +kernel
theorem gx159_4 : aF 4 zM159.2.2.2.2.2.2.2 = some (4, (.iload_n 2), 1, 0, 0) := by decide +kernel
theorem gx159_5 : aF 5 zM159.2.2.2.2.2.2.2 = some (5, (.ifCond .lt 10), 3, 15, 0) := by decide +kernel
theorem gx159_8 : aF 8 zM159.2.2.2.2.2.2.2 = some (8, (.iload_n 3), 1, 0, 0) := by decide +kernel
theorem gx159_9 : aF 9 zM159.2.2.2.2.2.2.2 = some (9, (.invokestatic 164), 3, 138, 0) := by decide +kernel
theorem gx159_12 : aF 12 zM159.2.2.2.2.2.2.2 = some (12, (.ifCond .ne 5), 3, 17, 0) := by decide +kernel
theorem gx159_17 : aF 17 zM159.2.2.2.2.2.2.2 = some (17, (.iload_n 1), 1, 0, 0) := by decide +kernel
theorem gx159_18 : aF 18 zM159.2.2.2.2.2.2.2 = some (18, (.bipush 100), 2, 0, 0) := by decide +kernel
theorem gx159_20 : aF 20 zM159.2.2.2.2.2.2.2 = some (20, .idiv, 1, 0, 0) := by decide +kernel
theorem gx159_21 : aF 21 zM159.2.2.2.2.2.2.2 = some (21, (.istore 4), 2, 0, 0) := by decide +kernel
theorem gx159_23 : aF 23 zM159.2.2.2.2.2.2.2 = some (23, (.iload_n 1), 1, 0, 0) := by decide +kernel
theorem gx159_24 : aF 24 zM159.2.2.2.2.2.2.2 = some (24, (.bipush 100), 2, 0, 0) := by decide +kernel
theorem gx159_26 : aF 26 zM159.2.2.2.2.2.2.2 = some (26, .irem, 1, 0, 0) := by decide +kernel
theorem gx159_27 : aF 27 zM159.2.2.2.2.2.2.2 = some (27, (.istore 5), 2, 0, 0) := by decide +kernel
theorem gx159_29 : aF 29 zM159.2.2.2.2.2.2.2 = some (29, (.iload_n 2), 1, 0, 0) := by decide +kernel
theorem gx159_30 : aF 30 zM159.2.2.2.2.2.2.2 = some (30, (.bipush 100), 2, 0, 0) := by decide +kernel
theorem gx159_32 : aF 32 zM159.2.2.2.2.2.2.2 = some (32, .idiv, 1, 0, 0) := by decide +kernel
theorem gx159_33 : aF 33 zM159.2.2.2.2.2.2.2 = some (33, (.istore 6), 2, 0, 0) := by decide +kernel
theorem gx159_35 : aF 35 zM159.2.2.2.2.2.2.2 = some (35, (.iload_n 2), 1, 0, 0) := by decide +kernel
theorem gx159_36 : aF 36 zM159.2.2.2.2.2.2.2 = some (36, (.bipush 100), 2, 0, 0) := by decide +kernel
theorem gx159_38 : aF 38 zM159.2.2.2.2.2.2.2 = some (38, .irem, 1, 0, 0) := by decide +kernel
theorem gx159_39 : aF 39 zM159.2.2.2.2.2.2.2 = some (39, (.istore 7), 2, 0, 0) := by decide +kernel
theorem gx159_41 : aF 41 zM159.2.2.2.2.2.2.2 = some (41, (.iload 4), 2, 0, 0) := by decide +kernel
theorem gx159_43 : aF 43 zM159.2.2.2.2.2.2.2 = some (43, (.iload 6), 2, 0, 0) := by decide +kernel
theorem gx159_45 : aF 45 zM159.2.2.2.2.2.2.2 = some (45, (.if_icmp .gt 24), 3, 69, 0) := by decide +kernel
theorem gx159_69 : aF 69 zM159.2.2.2.2.2.2.2 = some (69, (.iconst (-1)), 1, 0, 0) := by decide +kernel
theorem gx159_70 : aF 70 zM159.2.2.2.2.2.2.2 = some (70, .ireturn, 1, 0, 0) := by decide +kernel
theorem gx159_48 : aF 48 zM159.2.2.2.2.2.2.2 = some (48, (.iload 5), 2, 0, 0) := by decide +kernel
theorem gx159_50 : aF 50 zM159.2.2.2.2.2.2.2 = some (50, (.iload 7), 2, 0, 0) := by decide +kernel
theorem gx159_52 : aF 52 zM159.2.2.2.2.2.2.2 = some (52, (.if_icmp .gt 17), 3, 69, 0) := by decide +kernel
theorem gx159_55 : aF 55 zM159.2.2.2.2.2.2.2 = some (55, (.iload 6), 2, 0, 0) := by decide +kernel
theorem gx159_57 : aF 57 zM159.2.2.2.2.2.2.2 = some (57, (.bipush 24), 2, 0, 0) := by decide +kernel
theorem gx159_59 : aF 59 zM159.2.2.2.2.2.2.2 = some (59, (.if_icmp .ge 10), 3, 69, 0) := by decide +kernel
theorem gx159_62 : aF 62 zM159.2.2.2.2.2.2.2 = some (62, (.iload 7), 2, 0, 0) := by decide +kernel
theorem gx159_64 : aF 64 zM159.2.2.2.2.2.2.2 = some (64, (.bipush 24), 2, 0, 0) := by decide +kernel
theorem gx159_66 : aF 66 zM159.2.2.2.2.2.2.2 = some (66, (.if_icmp .lt 5), 3, 71, 0) := by decide +kernel
theorem gx159_71 : aF 71 zM159.2.2.2.2.2.2.2 = some (71, (.aload_n 0), 1, 0, 0) := by decide +kernel
theorem gx159_72 : aF 72 zM159.2.2.2.2.2.2.2 = some (72, (.getfield 28), 3, 11, 2) := by decide +kernel
theorem gx159_75 : aF 75 zM159.2.2.2.2.2.2.2 = some (75, (.getfield 181), 3, 2, 2) := by decide +kernel
theorem gx159_78 : aF 78 zM159.2.2.2.2.2.2.2 = some (78, (.bipush 40), 2, 0, 0) := by decide +kernel
theorem gx159_80 : aF 80 zM159.2.2.2.2.2.2.2 = some (80, (.if_icmp .lt 8), 3, 88, 0) := by decide +kernel
theorem gx159_88 : aF 88 zM159.2.2.2.2.2.2.2 = some (88, (.aload_n 0), 1, 0, 0) := by decide +kernel
theorem gx159_89 : aF 89 zM159.2.2.2.2.2.2.2 = some (89, (.getfield 28), 3, 11, 2) := by decide +kernel
theorem gx159_92 : aF 92 zM159.2.2.2.2.2.2.2 = some (92, (.iload_n 1), 1, 0, 0) := by decide +kernel
theorem gx159_93 : aF 93 zM159.2.2.2.2.2.2.2 = some (93, (.iload_n 2), 1, 0, 0) := by decide +kernel
theorem gx159_94 : aF 94 zM159.2.2.2.2.2.2.2 = some (94, (.iload_n 3), 1, 0, 0) := by decide +kernel
theorem gx159_95 : aF 95 zM159.2.2.2.2.2.2.2 = some (95, (.invokevirtual 184), 3, 32, 0) := by decide +kernel
theorem gx159_98 : aF 98 zM159.2.2.2.2.2.2.2 = some (98, .ireturn, 1, 0, 0) := by decide +kernel
theorem gx159_83 : aF 83 zM159.2.2.2.2.2.2.2 = some (83, (.bipush (-3)), 2, 0, 0) := by decide +kernel
theorem gx159_85 : aF 85 zM159.2.2.2.2.2.2.2 = some (85, (.goto 13), 3, 98, 0) := by decide +kernel
theorem gx232_0 : aF 0 zM232.2.2.2.2.2.2.2 = some (0, (.iload_n 1), 1, 0, 0) := by decide +kernel
theorem gx232_1 : aF 1 zM232.2.2.2.2.2.2.2 = some (1, (.ifCond .lt 72), 3, 73, 0) := by decide +kernel
theorem gx232_73 : aF 73 zM232.2.2.2.2.2.2.2 = some (73, (.iconst (-1)), 1, 0, 0) := by decide +kernel
theorem gx232_74 : aF 74 zM232.2.2.2.2.2.2.2 = some (74, .ireturn, 1, 0, 0) := by decide +kernel
theorem gx232_4 : aF 4 zM232.2.2.2.2.2.2.2 = some (4, (.iload_n 2), 1, 0, 0) := by decide +kernel
theorem gx232_5 : aF 5 zM232.2.2.2.2.2.2.2 = some (5, (.ifCond .lt 68), 3, 73, 0) := by decide +kernel
theorem gx232_8 : aF 8 zM232.2.2.2.2.2.2.2 = some (8, (.iload_n 1), 1, 0, 0) := by decide +kernel
theorem gx232_9 : aF 9 zM232.2.2.2.2.2.2.2 = some (9, (.bipush 100), 2, 0, 0) := by decide +kernel
theorem gx232_11 : aF 11 zM232.2.2.2.2.2.2.2 = some (11, .idiv, 1, 0, 0) := by decide +kernel
theorem gx232_12 : aF 12 zM232.2.2.2.2.2.2.2 = some (12, (.iconst 0), 1, 0, 0) := by decide +kernel
theorem gx232_13 : aF 13 zM232.2.2.2.2.2.2.2 = some (13, (.bipush 23), 2, 0, 0) := by decide +kernel
theorem gx232_15 : aF 15 zM232.2.2.2.2.2.2.2 = some (15, (.invokestatic 258), 3, 196, 0) := by decide +kernel
theorem gx232_18 : aF 18 zM232.2.2.2.2.2.2.2 = some (18, (.ifCond .eq 55), 3, 73, 0) := by decide +kernel
theorem gx232_21 : aF 21 zM232.2.2.2.2.2.2.2 = some (21, (.iload_n 1), 1, 0, 0) := by decide +kernel
theorem gx232_22 : aF 22 zM232.2.2.2.2.2.2.2 = some (22, (.bipush 100), 2, 0, 0) := by decide +kernel
theorem gx232_24 : aF 24 zM232.2.2.2.2.2.2.2 = some (24, .irem, 1, 0, 0) := by decide +kernel
theorem gx232_25 : aF 25 zM232.2.2.2.2.2.2.2 = some (25, (.iconst 0), 1, 0, 0) := by decide +kernel
theorem gx232_26 : aF 26 zM232.2.2.2.2.2.2.2 = some (26, (.bipush 23), 2, 0, 0) := by decide +kernel
theorem gx232_28 : aF 28 zM232.2.2.2.2.2.2.2 = some (28, (.invokestatic 258), 3, 196, 0) := by decide +kernel
theorem gx232_31 : aF 31 zM232.2.2.2.2.2.2.2 = some (31, (.ifCond .eq 42), 3, 73, 0) := by decide +kernel
theorem gx232_34 : aF 34 zM232.2.2.2.2.2.2.2 = some (34, (.iload_n 2), 1, 0, 0) := by decide +kernel
theorem gx232_35 : aF 35 zM232.2.2.2.2.2.2.2 = some (35, (.bipush 100), 2, 0, 0) := by decide +kernel
theorem gx232_37 : aF 37 zM232.2.2.2.2.2.2.2 = some (37, .idiv, 1, 0, 0) := by decide +kernel
theorem gx232_38 : aF 38 zM232.2.2.2.2.2.2.2 = some (38, (.iload_n 1), 1, 0, 0) := by decide +kernel
theorem gx232_39 : aF 39 zM232.2.2.2.2.2.2.2 = some (39, (.bipush 100), 2, 0, 0) := by decide +kernel
theorem gx232_41 : aF 41 zM232.2.2.2.2.2.2.2 = some (41, .idiv, 1, 0, 0) := by decide +kernel
theorem gx232_42 : aF 42 zM232.2.2.2.2.2.2.2 = some (42, (.bipush 23), 2, 0, 0) := by decide +kernel
theorem gx232_44 : aF 44 zM232.2.2.2.2.2.2.2 = some (44, (.invokestatic 258), 3, 196, 0) := by decide +kernel
theorem gx232_47 : aF 47 zM232.2.2.2.2.2.2.2 = some (47, (.ifCond .eq 26), 3, 73, 0) := by decide +kernel
theorem gx232_50 : aF 50 zM232.2.2.2.2.2.2.2 = some (50, (.iload_n 2), 1, 0, 0) := by decide +kernel
theorem gx232_51 : aF 51 zM232.2.2.2.2.2.2.2 = some (51, (.bipush 100), 2, 0, 0) := by decide +kernel
theorem gx232_53 : aF 53 zM232.2.2.2.2.2.2.2 = some (53, .irem, 1, 0, 0) := by decide +kernel
theorem gx232_54 : aF 54 zM232.2.2.2.2.2.2.2 = some (54, (.iload_n 1), 1, 0, 0) := by decide +kernel
theorem gx232_55 : aF 55 zM232.2.2.2.2.2.2.2 = some (55, (.bipush 100), 2, 0, 0) := by decide +kernel
theorem gx232_57 : aF 57 zM232.2.2.2.2.2.2.2 = some (57, .irem, 1, 0, 0) := by decide +kernel
theorem gx232_58 : aF 58 zM232.2.2.2.2.2.2.2 = some (58, (.bipush 23), 2, 0, 0) := by decide +kernel
theorem gx232_60 : aF 60 zM232.2.2.2.2.2.2.2 = some (60, (.invokestatic 258), 3, 196, 0) := by decide +kernel
theorem gx232_63 : aF 63 zM232.2.2.2.2.2.2.2 = some (63, (.ifCond .eq 10), 3, 73, 0) := by decide +kernel
theorem gx232_66 : aF 66 zM232.2.2.2.2.2.2.2 = some (66, (.iload_n 3), 1, 0, 0) := by decide +kernel
theorem gx232_67 : aF 67 zM232.2.2.2.2.2.2.2 = some (67, (.invokestatic 325), 3, 197, 0) := by decide +kernel
theorem gx232_70 : aF 70 zM232.2.2.2.2.2.2.2 = some (70, (.ifCond .ne 5), 3, 75, 0) := by decide +kernel
theorem gx232_75 : aF 75 zM232.2.2.2.2.2.2.2 = some (75, (.aload_n 0), 1, 0, 0) := by decide +kernel
theorem gx232_76 : aF 76 zM232.2.2.2.2.2.2.2 = some (76, (.getfield 339), 3, 12, 25) := by decide +kernel
theorem gx232_79 : aF 79 zM232.2.2.2.2.2.2.2 = some (79, (.bipush 40), 2, 0, 0) := by decide +kernel
theorem gx232_81 : aF 81 zM232.2.2.2.2.2.2.2 = some (81, (.if_icmp .ne 6), 3, 87, 0) := by decide +kernel
theorem gx232_87 : aF 87 zM232.2.2.2.2.2.2.2 = some (87, (.aload_n 0), 1, 0, 0) := by decide +kernel
theorem gx232_88 : aF 88 zM232.2.2.2.2.2.2.2 = some (88, (.getfield 67), 3, 12, 26) := by decide +kernel
theorem gx232_91 : aF 91 zM232.2.2.2.2.2.2.2 = some (91, (.aload_n 0), 1, 0, 0) := by decide +kernel
theorem gx232_92 : aF 92 zM232.2.2.2.2.2.2.2 = some (92, (.getfield 339), 3, 12, 25) := by decide +kernel
theorem gx232_95 : aF 95 zM232.2.2.2.2.2.2.2 = some (95, (.iload_n 1), 1, 0, 0) := by decide +kernel
theorem gx232_96 : aF 96 zM232.2.2.2.2.2.2.2 = some (96, (.bipush 100), 2, 0, 0) := by decide +kernel
theorem gx232_98 : aF 98 zM232.2.2.2.2.2.2.2 = some (98, .idiv, 1, 0, 0) := by decide +kernel
theorem gx232_99 : aF 99 zM232.2.2.2.2.2.2.2 = some (99, .iastore, 1, 0, 0) := by decide +kernel
theorem gx232_100 : aF 100 zM232.2.2.2.2.2.2.2 = some (100, (.aload_n 0), 1, 0, 0) := by decide +kernel
theorem gx232_101 : aF 101 zM232.2.2.2.2.2.2.2 = some (101, (.getfield 70), 3, 12, 27) := by decide +kernel
theorem gx232_104 : aF 104 zM232.2.2.2.2.2.2.2 = some (104, (.aload_n 0), 1, 0, 0) := by decide +kernel
theorem gx232_105 : aF 105 zM232.2.2.2.2.2.2.2 = some (105, (.getfield 339), 3, 12, 25) := by decide +kernel
theorem gx232_108 : aF 108 zM232.2.2.2.2.2.2.2 = some (108, (.iload_n 1), 1, 0, 0) := by decide +kernel
theorem gx232_109 : aF 109 zM232.2.2.2.2.2.2.2 = some (109, (.bipush 100), 2, 0, 0) := by decide +kernel
theorem gx232_111 : aF 111 zM232.2.2.2.2.2.2.2 = some (111, .irem, 1, 0, 0) := by decide +kernel
theorem gx232_112 : aF 112 zM232.2.2.2.2.2.2.2 = some (112, .iastore, 1, 0, 0) := by decide +kernel
theorem gx232_113 : aF 113 zM232.2.2.2.2.2.2.2 = some (113, (.aload_n 0), 1, 0, 0) := by decide +kernel
theorem gx232_114 : aF 114 zM232.2.2.2.2.2.2.2 = some (114, (.getfield 73), 3, 12, 28) := by decide +kernel
theorem gx232_117 : aF 117 zM232.2.2.2.2.2.2.2 = some (117, (.aload_n 0), 1, 0, 0) := by decide +kernel
theorem gx232_118 : aF 118 zM232.2.2.2.2.2.2.2 = some (118, (.getfield 339), 3, 12, 25) := by decide +kernel
theorem gx232_121 : aF 121 zM232.2.2.2.2.2.2.2 = some (121, (.iload_n 2), 1, 0, 0) := by decide +kernel
theorem gx232_122 : aF 122 zM232.2.2.2.2.2.2.2 = some (122, (.bipush 100), 2, 0, 0) := by decide +kernel
theorem gx232_124 : aF 124 zM232.2.2.2.2.2.2.2 = some (124, .idiv, 1, 0, 0) := by decide +kernel
theorem gx232_125 : aF 125 zM232.2.2.2.2.2.2.2 = some (125, .iastore, 1, 0, 0) := by decide +kernel
theorem gx232_126 : aF 126 zM232.2.2.2.2.2.2.2 = some (126, (.aload_n 0), 1, 0, 0) := by decide +kernel
theorem gx232_127 : aF 127 zM232.2.2.2.2.2.2.2 = some (127, (.getfield 76), 3, 12, 29) := by decide +kernel
theorem gx232_130 : aF 130 zM232.2.2.2.2.2.2.2 = some (130, (.aload_n 0), 1, 0, 0) := by decide +kernel
theorem gx232_131 : aF 131 zM232.2.2.2.2.2.2.2 = some (131, (.getfield 339), 3, 12, 25) := by decide +kernel
theorem gx232_134 : aF 134 zM232.2.2.2.2.2.2.2 = some (134, (.iload_n 2), 1, 0, 0) := by decide +kernel
theorem gx232_135 : aF 135 zM232.2.2.2.2.2.2.2 = some (135, (.bipush 100), 2, 0, 0) := by decide +kernel
theorem gx232_137 : aF 137 zM232.2.2.2.2.2.2.2 = some (137, .irem, 1, 0, 0) := by decide +kernel
theorem gx232_138 : aF 138 zM232.2.2.2.2.2.2.2 = some (138, .iastore, 1, 0, 0) := by decide +kernel
theorem gx232_139 : aF 139 zM232.2.2.2.2.2.2.2 = some (139, (.aload_n 0), 1, 0, 0) := by decide +kernel
theorem gx232_140 : aF 140 zM232.2.2.2.2.2.2.2 = some (140, (.getfield 79), 3, 12, 30) := by decide +kernel
theorem gx232_143 : aF 143 zM232.2.2.2.2.2.2.2 = some (143, (.aload_n 0), 1, 0, 0) := by decide +kernel
theorem gx232_144 : aF 144 zM232.2.2.2.2.2.2.2 = some (144, (.getfield 339), 3, 12, 25) := by decide +kernel
theorem gx232_147 : aF 147 zM232.2.2.2.2.2.2.2 = some (147, (.iload_n 3), 1, 0, 0) := by decide +kernel
theorem gx232_148 : aF 148 zM232.2.2.2.2.2.2.2 = some (148, .iastore, 1, 0, 0) := by decide +kernel
theorem gx232_149 : aF 149 zM232.2.2.2.2.2.2.2 = some (149, (.aload_n 0), 1, 0, 0) := by decide +kernel
theorem gx232_150 : aF 150 zM232.2.2.2.2.2.2.2 = some (150, (.getfield 82), 3, 12, 31) := by decide +kernel
theorem gx232_153 : aF 153 zM232.2.2.2.2.2.2.2 = some (153, (.aload_n 0), 1, 0, 0) := by decide +kernel
theorem gx232_154 : aF 154 zM232.2.2.2.2.2.2.2 = some (154, (.getfield 339), 3, 12, 25) := by decide +kernel
theorem gx232_157 : aF 157 zM232.2.2.2.2.2.2.2 = some (157, (.aload_n 0), 1, 0, 0) := by decide +kernel
theorem gx232_158 : aF 158 zM232.2.2.2.2.2.2.2 = some (158, (.getfield 262), 3, 12, 1) := by decide +kernel
theorem gx232_161 : aF 161 zM232.2.2.2.2.2.2.2 = some (161, .iastore, 1, 0, 0) := by decide +kernel
theorem gx232_162 : aF 162 zM232.2.2.2.2.2.2.2 = some (162, (.aload_n 0), 1, 0, 0) := by decide +kernel
theorem gx232_163 : aF 163 zM232.2.2.2.2.2.2.2 = some (163, .dup, 1, 0, 0) := by decide +kernel
theorem gx232_164 : aF 164 zM232.2.2.2.2.2.2.2 = some (164, (.getfield 339), 3, 12, 25) := by decide +kernel
theorem gx232_167 : aF 167 zM232.2.2.2.2.2.2.2 = some (167, (.iconst 1), 1, 0, 0) := by decide +kernel
theorem gx232_168 : aF 168 zM232.2.2.2.2.2.2.2 = some (168, .iadd, 1, 0, 0) := by decide +kernel
theorem gx232_169 : aF 169 zM232.2.2.2.2.2.2.2 = some (169, (.putfield 339), 3, 12, 25) := by decide +kernel
theorem gx232_172 : aF 172 zM232.2.2.2.2.2.2.2 = some (172, (.aload_n 0), 1, 0, 0) := by decide +kernel
theorem gx232_173 : aF 173 zM232.2.2.2.2.2.2.2 = some (173, (.iconst 1), 1, 0, 0) := by decide +kernel
theorem gx232_174 : aF 174 zM232.2.2.2.2.2.2.2 = some (174, (.putfield 100), 3, 12, 38) := by decide +kernel
theorem gx232_177 : aF 177 zM232.2.2.2.2.2.2.2 = some (177, (.aload_n 0), 1, 0, 0) := by decide +kernel
theorem gx232_178 : aF 178 zM232.2.2.2.2.2.2.2 = some (178, (.getfield 339), 3, 12, 25) := by decide +kernel
theorem gx232_181 : aF 181 zM232.2.2.2.2.2.2.2 = some (181, .ireturn, 1, 0, 0) := by decide +kernel
theorem gx232_84 : aF 84 zM232.2.2.2.2.2.2.2 = some (84, (.bipush (-3)), 2, 0, 0) := by decide +kernel
theorem gx232_86 : aF 86 zM232.2.2.2.2.2.2.2 = some (86, .ireturn, 1, 0, 0) := by decide +kernel
theorem d37_0 {n : Nat} {X : aX} {h : aH} {P : Int → aH → Prop} {x1 x2 : Int32} {a1 a2 : Int} (S : wS h) (z1 : x1.toInt = a1) (z2 : x2.toInt = a2) (H : (0 ≤ w32 ((w32 (a1 * 10)) + a2) → w32 ((w32 (a1 * 10)) + a2) < 1500 → ((vw h 32 (w32 ((w32 (a1 * 10)) + a2)) = 0 → ∀ h_12 : aH, wS h_12 → vw h_12 = up (vw h) 32 (w32 ((w32 (a1 * 10)) + a2)) (w32 ((vw h 1 0) + 1)) → P 1 h_12) ∧ (vw h 32 (w32 ((w32 (a1 * 10)) + a2)) ≠ 0 → P 0 h)))) : Pt (n + 1) X zM37 0 [some (.ref 16), some (.int x1), some (.int x2), none] [] h (qI P) := by
  refine pt_1 (fun n d => r_iloadn gx37_0 rfl) ?_
  refine pt_d (pt_bipush gx37_1 (fun v1 h1 => ?_))
  refine pt_d (pt_imul gx37_3 z1 h1 (fun v2 h2 => ?_))
  refine pt_d (pt_1 (fun n d => r_iloadn gx37_4 rfl) ?_)
  refine pt_d (pt_iadd gx37_5 h2 z2 (fun v3 h3 => ?_))
  refine pt_d (pt_1 (fun n d => r_istoren (L' := [some (.ref 16), some (.int x1), some (.int x2), some (.int v3)]) gx37_6 rfl rfl) ?_)
  refine pt_d (pt_1 (fun n d => r_aloadn gx37_7 rfl) ?_)
  refine pt_d (pt_getR gx37_8 S tr_16_19 ?_)
  refine pt_d (pt_1 (fun n d => r_iloadn gx37_11 rfl) ?_)
  refine pt_d (pt_iald (N' := 1500) gx37_12 S tl_32 h3 (fun v5 p5 q5 h5 => ?_))
  have H := H p5 q5
  refine pt_d (pt_if_eq gx37_13 h5 (fun e6 => ?_) (fun e6 => ?_))
  · have H := H.1 e6
    refine pt_d (pt_1 (fun n d => r_aloadn gx37_18 rfl) ?_)
    refine pt_d (pt_getR gx37_19 S tr_16_19 ?_)
    refine pt_d (pt_1 (fun n d => r_iloadn gx37_22 rfl) ?_)
    refine pt_d (pt_1 (fun n d => r_aloadn gx37_23 rfl) ?_)
    refine pt_d (pt_getR gx37_24 S tr_16_0 ?_)
    refine pt_d (pt_getI (B := 0) gx37_27 S (fun v9 h9 => ?_))
    refine pt_d (pt_iconst gx37_30 (fun v10 h10 => ?_))
    refine pt_d (pt_iadd gx37_31 h9 h10 (fun v11 h11 => ?_))
    refine pt_d (pt_iast (N' := 1500) gx37_32 S tl_32 h3 h11 (fun h_12 S12 p12 q12 e12 => ?_))
    refine pt_d (pt_iconst gx37_33 (fun v13 h13 => ?_))
    have H := H h_12 S12 (by rw [e12])
    exact pt_d (pt_iret gx37_34 ⟨_, rfl, by rw [h13]; exact H⟩)
  · have H := H.2 e6
    refine pt_d (pt_iconst gx37_16 (fun v14 h14 => ?_))
    exact pt_d (pt_iret gx37_17 ⟨_, rfl, by rw [h14]; exact H⟩)
theorem sy {f y : Int} (h0 : 0 ≤ f) (h1 : f < 150) (h2 : 0 ≤ y) (h3 : y ≤ 9) : w32 (w32 (f * 10) + y) = 10 * f + y := by unfold w32; omega
def R37 (V : vS) (i r : Int) (V' : vS) : Prop := (V 32 i ≠ 0 ∧ r = 0 ∧ V' = V) ∨ (V 32 i = 0 ∧ r = 1 ∧ V' = up V 32 i (w32 (V 1 0 + 1)))
theorem c_37 {n : Nat} {X : aX} {h : aH} {x1 x2 : Int32} {a1 a2 : Int} (S : wS h) (z1 : x1.toInt = a1) (z2 : x2.toInt = a2) (hp : (0 ≤ a1 ∧ a1 < 150) ∧ 0 ≤ a2 ∧ a2 ≤ 9) : Pt n X zM37 0 [some (.ref 16), some (.int x1), some (.int x2), none] [] h (qI (fun y h' => wS h' ∧ R37 (vw h) (10 * a1 + a2) y (vw h'))) := by
  refine pt_d (d37_0 S z1 z2 ?_)
  rw [sy hp.1.1 hp.1.2 hp.2.1 hp.2.2]
  exact fun p q => ⟨fun e g S2 eg => ⟨S2, Or.inr ⟨e, rfl, eg⟩⟩, fun e => ⟨S, Or.inl ⟨e, rfl, rfl⟩⟩⟩

theorem d162_0 {n : Nat} {X : aX} {h : aH} {P : Int → aH → Prop} {x1 x2 : Int32} {a1 a2 : Int} (S : wS h) (z1 : x1.toInt = a1) (z2 : x2.toInt = a2) (H : ((¬ (cFarm (vw h) a1) → P (-1) h) ∧ ((cFarm (vw h) a1) → (((0 ≤ a2 ∧ a2 ≤ 9) → (((0 ≤ a1 ∧ a1 < 150) ∧ 0 ≤ a2 ∧ a2 ≤ 9) ∧ ∀ (y8 : Int) (h_8 : aH), (wS h_8 ∧ R37 (vw h) (10 * a1 + a2) y8 (vw h_8)) → ((y8 = 0 → P (-2) h_8) ∧ (y8 ≠ 0 → P 1 h_8)))) ∧ (¬ (0 ≤ a2 ∧ a2 ≤ 9) → P (-1) h))))) : Pt (n + 1) X zM162 0 [some (.ref 0), some (.int x1), some (.int x2)] [] h (qI P) := by
  refine pt_1 (fun n d => r_aloadn gx162_0 rfl) ?_
  refine pt_d (pt_getR gx162_1 S tr_0_0 ?_)
  refine pt_d (pt_1 (fun n d => r_iloadn gx162_4 rfl) ?_)
  refine pt_d (pt_virt (as := [.int x1]) (r := []) gx162_5 rfl (show zmt[75]? = some zM75 from rfl) rfl rfl rfl rfl (c_75 S z1) (kqP (fun v2 h2 => ?_)))
  show Pt _ _ _ 8 _ [.int v2] _ _
  refine pt_d (pt_ifB_eq gx162_8 h2 (fun e3 => ?_) (fun e3 => ?_))
  · have H := H.1 e3
    refine pt_d (pt_iconst gx162_18 (fun v4 h4 => ?_))
    exact pt_d (pt_iret gx162_19 ⟨_, rfl, by rw [h4]; exact H⟩)
  · have H := H.2 e3
    refine pt_d (pt_1 (fun n d => r_iloadn gx162_11 rfl) ?_)
    refine pt_d (pt_stat (as := [.int x2]) (r := []) gx162_12 rfl (show zmt[139]? = some zM139 from rfl) rfl rfl rfl rfl (c_139 S z2) (kqP (fun v5 h5 => ?_)))
    show Pt _ _ _ 15 _ [.int v5] _ _
    refine pt_d (pt_ifB_ne gx162_15 h5 (fun e6 => ?_) (fun e6 => ?_))
    · have H := H.1 e6
      refine pt_d (pt_1 (fun n d => r_aloadn gx162_20 rfl) ?_)
      refine pt_d (pt_getR gx162_21 S tr_0_2 ?_)
      refine pt_d (pt_1 (fun n d => r_iloadn gx162_24 rfl) ?_)
      refine pt_d (pt_1 (fun n d => r_iloadn gx162_25 rfl) ?_)
      obtain ⟨pr8, H⟩ := H
      refine pt_d (pt_virt (as := [.int x1, .int x2]) (r := []) gx162_26 rfl (show zmt[37]? = some zM37 from rfl) rfl rfl rfl rfl (c_37 S z1 z2 pr8) (kqI (fun v8 y8 h_8 h8 P8 => ?_)))
      have S8 := P8.1
      have H := H y8 h_8 P8
      show Pt _ _ _ 29 _ [.int v8] _ _
      refine pt_d (pt_if_eq gx162_29 h8 (fun e9 => ?_) (fun e9 => ?_))
      · have H := H.1 e9
        refine pt_d (pt_bipush gx162_36 (fun v10 h10 => ?_))
        exact pt_d (pt_iret gx162_38 ⟨_, rfl, by rw [h10]; exact H⟩)
      · have H := H.2 e9
        refine pt_d (pt_iconst gx162_32 (fun v11 h11 => ?_))
        refine pt_d (pt_1 (fun n d => r_goto gx162_33) ?_)
        exact pt_d (pt_iret gx162_38 ⟨_, rfl, by rw [h11]; exact H⟩)
    · have H := H.2 e6
      refine pt_d (pt_iconst gx162_18 (fun v12 h12 => ?_))
      exact pt_d (pt_iret gx162_19 ⟨_, rfl, by rw [h12]; exact H⟩)
theorem d244_0 {n : Nat} {X : aX} {h : aH} {P : Int → aH → Prop} {x1 x2 : Int32} {a1 a2 : Int} (S : wS h) (z1 : x1.toInt = a1) (z2 : x2.toInt = a2) (H : ((¬ (mFarm (vw h) a1) → P (-1) h) ∧ ((mFarm (vw h) a1) → (((0 ≤ a2 ∧ a2 ≤ 9) → (0 ≤ w32 ((w32 (10 * a1)) + a2) → w32 ((w32 (10 * a1)) + a2) < 1500 → ((vw h 111 (w32 ((w32 (10 * a1)) + a2)) ≤ 0 → ∀ h_19 : aH, wS h_19 → vw h_19 = up (vw h) 111 (w32 ((w32 (10 * a1)) + a2)) (w32 ((vw h 72 1) + 1)) → P 1 h_19) ∧ (0 < vw h 111 (w32 ((w32 (10 * a1)) + a2)) → P (-2) h)))) ∧ (¬ (0 ≤ a2 ∧ a2 ≤ 9) → P (-1) h))))) : Pt (n + 1) X zM244 0 [some (.ref 72), some (.int x1), some (.int x2)] [] h (qI P) := by
  refine pt_1 (fun n d => r_aloadn gx244_0 rfl) ?_
  refine pt_d (pt_1 (fun n d => r_iloadn gx244_1 rfl) ?_)
  refine pt_d (pt_virt (as := [.int x1]) (r := []) gx244_2 rfl (show zmt[202]? = some zM202 from rfl) rfl rfl rfl rfl (c_202 S z1) (kqP (fun v1 h1 => ?_)))
  show Pt _ _ _ 5 _ [.int v1] _ _
  refine pt_d (pt_ifB_eq gx244_5 h1 (fun e2 => ?_) (fun e2 => ?_))
  · have H := H.1 e2
    refine pt_d (pt_iconst gx244_15 (fun v3 h3 => ?_))
    exact pt_d (pt_iret gx244_16 ⟨_, rfl, by rw [h3]; exact H⟩)
  · have H := H.2 e2
    refine pt_d (pt_1 (fun n d => r_iloadn gx244_8 rfl) ?_)
    refine pt_d (pt_stat (as := [.int x2]) (r := []) gx244_9 rfl (show zmt[198]? = some zM198 from rfl) rfl rfl rfl rfl (c_198 S z2) (kqP (fun v4 h4 => ?_)))
    show Pt _ _ _ 12 _ [.int v4] _ _
    refine pt_d (pt_ifB_ne gx244_12 h4 (fun e5 => ?_) (fun e5 => ?_))
    · have H := H.1 e5
      refine pt_d (pt_1 (fun n d => r_aloadn gx244_17 rfl) ?_)
      refine pt_d (pt_getR gx244_18 S tr_72_48 ?_)
      refine pt_d (pt_bipush gx244_21 (fun v7 h7 => ?_))
      refine pt_d (pt_1 (fun n d => r_iloadn gx244_23 rfl) ?_)
      refine pt_d (pt_imul gx244_24 h7 z1 (fun v8 h8 => ?_))
      refine pt_d (pt_1 (fun n d => r_iloadn gx244_25 rfl) ?_)
      refine pt_d (pt_iadd gx244_26 h8 z2 (fun v9 h9 => ?_))
      refine pt_d (pt_iald (N' := 1500) gx244_27 S tl_111 h9 (fun v10 p10 q10 h10 => ?_))
      have H := H p10 q10
      refine pt_d (pt_if_le gx244_28 h10 (fun e11 => ?_) (fun e11 => ?_))
      · have H := H.1 e11
        refine pt_d (pt_1 (fun n d => r_aloadn gx244_34 rfl) ?_)
        refine pt_d (pt_getR gx244_35 S tr_72_48 ?_)
        refine pt_d (pt_bipush gx244_38 (fun v13 h13 => ?_))
        refine pt_d (pt_1 (fun n d => r_iloadn gx244_40 rfl) ?_)
        refine pt_d (pt_imul gx244_41 h13 z1 (fun v14 h14 => ?_))
        refine pt_d (pt_1 (fun n d => r_iloadn gx244_42 rfl) ?_)
        refine pt_d (pt_iadd gx244_43 h14 z2 (fun v15 h15 => ?_))
        refine pt_d (pt_1 (fun n d => r_aloadn gx244_44 rfl) ?_)
        refine pt_d (pt_getI (B := 1) gx244_45 S (fun v16 h16 => ?_))
        refine pt_d (pt_iconst gx244_48 (fun v17 h17 => ?_))
        refine pt_d (pt_iadd gx244_49 h16 h17 (fun v18 h18 => ?_))
        refine pt_d (pt_iast (N' := 1500) gx244_50 S tl_111 h15 h18 (fun h_19 S19 p19 q19 e19 => ?_))
        refine pt_d (pt_iconst gx244_51 (fun v20 h20 => ?_))
        have H := H h_19 S19 (by rw [e19])
        exact pt_d (pt_iret gx244_52 ⟨_, rfl, by rw [h20]; exact H⟩)
      · have H := H.2 e11
        refine pt_d (pt_bipush gx244_31 (fun v21 h21 => ?_))
        exact pt_d (pt_iret gx244_33 ⟨_, rfl, by rw [h21]; exact H⟩)
    · have H := H.2 e5
      refine pt_d (pt_iconst gx244_15 (fun v22 h22 => ?_))
      exact pt_d (pt_iret gx244_16 ⟨_, rfl, by rw [h22]; exact H⟩)
def ok162 (V : vS) (f y : Int) : Prop := cFarm V f ∧ 0 ≤ y ∧ y ≤ 9
def R162 (V : vS) (f y r : Int) (V' : vS) : Prop := (¬ ok162 V f y ∧ r = -1 ∧ V' = V) ∨ (ok162 V f y ∧ V 32 (10 * f + y) ≠ 0 ∧ r = -2 ∧ V' = V) ∨ (ok162 V f y ∧ V 32 (10 * f + y) = 0 ∧ r = 1 ∧ V' = up V 32 (10 * f + y) (w32 (V 1 0 + 1)))
theorem cFarm_b {V : vS} {f : Int} (k : cFarm V f) (hb : 0 ≤ V 1 1 ∧ V 1 1 ≤ 150) : 0 ≤ f ∧ f < 150 := by
  have h := k.1
  unfold cBody at h
  rw [w32_id (by omega) (by omega)] at h
  omega
theorem mFarm_b {V : vS} {f : Int} (k : mFarm V f) (hb : 0 ≤ V 72 2 ∧ V 72 2 ≤ 150) : 0 ≤ f ∧ f < 150 := by
  have h := k.1
  unfold mBody at h
  rw [w32_id (by omega) (by omega)] at h
  omega

theorem c_162 {n : Nat} {X : aX} {h : aH} {x1 x2 : Int32} {a1 a2 : Int} (S : wS h) (z1 : x1.toInt = a1) (z2 : x2.toInt = a2) (hb : 0 ≤ vw h 1 1 ∧ vw h 1 1 ≤ 150) : Pt n X zM162 0 [some (.ref 0), some (.int x1), some (.int x2)] [] h (qI (fun y h' => R162 (vw h) a1 a2 y (vw h'))) := by
  refine pt_d (d162_0 S z1 z2 ⟨fun e => Or.inl ⟨fun z => e z.1, rfl, rfl⟩, fun e => ⟨fun e2 => ⟨⟨cFarm_b e hb, e2⟩, fun y g p => ⟨fun e3 => ?_, fun e3 => ?_⟩⟩, fun e2 => Or.inl ⟨fun z => e2 z.2, rfl, rfl⟩⟩⟩)
  · obtain ⟨S2, ⟨k, ky, eg⟩ | ⟨k, ky, eg⟩⟩ := p
    · exact Or.inr (Or.inl ⟨⟨e, e2⟩, k, rfl, eg⟩)
    · omega
  · obtain ⟨S2, ⟨k, ky, eg⟩ | ⟨k, ky, eg⟩⟩ := p
    · omega
    · exact Or.inr (Or.inr ⟨⟨e, e2⟩, k, rfl, eg⟩)
theorem sy' {f y : Int} (h0 : 0 ≤ f) (h1 : f < 150) (h2 : 0 ≤ y) (h3 : y ≤ 9) : w32 (w32 (10 * f) + y) = 10 * f + y := by unfold w32; omega
def ok244 (V : vS) (f y : Int) : Prop := mFarm V f ∧ 0 ≤ y ∧ y ≤ 9
def R244 (V : vS) (f y r : Int) (V' : vS) : Prop := (¬ ok244 V f y ∧ r = -1 ∧ V' = V) ∨ (ok244 V f y ∧ 0 < V 111 (10 * f + y) ∧ r = -2 ∧ V' = V) ∨ (ok244 V f y ∧ V 111 (10 * f + y) ≤ 0 ∧ r = 1 ∧ V' = up V 111 (10 * f + y) (w32 (V 72 1 + 1)))
theorem c_244 {n : Nat} {X : aX} {h : aH} {x1 x2 : Int32} {a1 a2 : Int} (S : wS h) (z1 : x1.toInt = a1) (z2 : x2.toInt = a2) (hb : 0 ≤ vw h 72 2 ∧ vw h 72 2 ≤ 150) : Pt n X zM244 0 [some (.ref 72), some (.int x1), some (.int x2)] [] h (qI (fun y h' => R244 (vw h) a1 a2 y (vw h'))) := by
  refine pt_d (d244_0 S z1 z2 ⟨fun e => Or.inl ⟨fun z => e z.1, rfl, rfl⟩, fun e => ⟨fun e2 => ?_, fun e2 => Or.inl ⟨fun z => e2 z.2, rfl, rfl⟩⟩⟩)
  obtain ⟨f0, f1⟩ := mFarm_b e hb
  rw [sy' f0 f1 e2.1 e2.2]
  exact fun p q => ⟨fun e3 g S2 eg => Or.inr (Or.inr ⟨⟨e, e2⟩, e3, rfl, eg⟩), fun e3 => Or.inr (Or.inl ⟨⟨e, e2⟩, e3, rfl, rfl⟩)⟩

theorem d32_0 {n : Nat} {X : aX} {h : aH} {P : Int → aH → Prop} {x1 x2 x3 : Int32} {a1 a2 a3 : Int} (S : wS h) (z1 : x1.toInt = a1) (z2 : x2.toInt = a2) (z3 : x3.toInt = a3) (H : ((40 ≤ vw h 16 2 → P (vw h 16 2) h) ∧ (vw h 16 2 < 40 → (0 ≤ vw h 16 2 → vw h 16 2 < 40 → ∀ h_22 : aH, wS h_22 → vw h_22 = up (up (up (up (up (vw h) 23 (vw h 16 2) a1) 24 (vw h 16 2) a2) 25 (vw h 16 2) a3) 26 (vw h 16 2) (vw h 1 0)) 16 2 (w32 ((vw h 16 2) + 1)) → P (w32 ((vw h 16 2) + 1)) h_22)))) : Pt (n + 1) X zM32 0 [some (.ref 16), some (.int x1), some (.int x2), some (.int x3)] [] h (qI P) := by
  refine pt_1 (fun n d => r_aloadn gx32_0 rfl) ?_
  refine pt_d (pt_getI (B := 2) gx32_1 S (fun v1 h1 => ?_))
  refine pt_d (pt_bipush gx32_4 (fun v2 h2 => ?_))
  refine pt_d (pt_icmp_ge gx32_6 h1 h2 (fun e3 => ?_) (fun e3 => ?_))
  · have H := H.1 e3
    refine pt_d (pt_1 (fun n d => r_aloadn gx32_65 rfl) ?_)
    refine pt_d (pt_getI (B := 2) gx32_66 S (fun v4 h4 => ?_))
    exact pt_d (pt_iret gx32_69 ⟨_, rfl, by rw [h4]; exact H⟩)
  · have H := H.2 e3
    refine pt_d (pt_1 (fun n d => r_aloadn gx32_9 rfl) ?_)
    refine pt_d (pt_getR gx32_10 S tr_16_10 ?_)
    refine pt_d (pt_1 (fun n d => r_aloadn gx32_13 rfl) ?_)
    refine pt_d (pt_getI (B := 2) gx32_14 S (fun v6 h6 => ?_))
    refine pt_d (pt_1 (fun n d => r_iloadn gx32_17 rfl) ?_)
    refine pt_d (pt_iast (N' := 40) gx32_18 S tl_23 h6 z1 (fun h_7 S7 p7 q7 e7 => ?_))
    have H := H p7 q7
    refine pt_d (pt_1 (fun n d => r_aloadn gx32_19 rfl) ?_)
    refine pt_d (pt_getR gx32_20 S7 tr_16_11 ?_)
    refine pt_d (pt_1 (fun n d => r_aloadn gx32_23 rfl) ?_)
    refine pt_d (pt_getI (B := 2) gx32_24 S7 (fun v9 h9 => ?_))
    have h9 : v9.toInt = vw h 16 2 := by rw [h9, e7, up_c (by decide)]
    refine pt_d (pt_1 (fun n d => r_iloadn gx32_27 rfl) ?_)
    refine pt_d (pt_iast (N' := 40) gx32_28 S7 tl_24 h9 z2 (fun h_10 S10 p10 q10 e10 => ?_))
    refine pt_d (pt_1 (fun n d => r_aloadn gx32_29 rfl) ?_)
    refine pt_d (pt_getR gx32_30 S10 tr_16_12 ?_)
    refine pt_d (pt_1 (fun n d => r_aloadn gx32_33 rfl) ?_)
    refine pt_d (pt_getI (B := 2) gx32_34 S10 (fun v12 h12 => ?_))
    have h12 : v12.toInt = vw h 16 2 := by rw [h12, e10, up_c (by decide), e7, up_c (by decide)]
    refine pt_d (pt_1 (fun n d => r_iloadn gx32_37 rfl) ?_)
    refine pt_d (pt_iast (N' := 40) gx32_38 S10 tl_25 h12 z3 (fun h_13 S13 p13 q13 e13 => ?_))
    refine pt_d (pt_1 (fun n d => r_aloadn gx32_39 rfl) ?_)
    refine pt_d (pt_getR gx32_40 S13 tr_16_13 ?_)
    refine pt_d (pt_1 (fun n d => r_aloadn gx32_43 rfl) ?_)
    refine pt_d (pt_getI (B := 2) gx32_44 S13 (fun v15 h15 => ?_))
    have h15 : v15.toInt = vw h 16 2 := by rw [h15, e13, up_c (by decide), e10, up_c (by decide), e7, up_c (by decide)]
    refine pt_d (pt_1 (fun n d => r_aloadn gx32_47 rfl) ?_)
    refine pt_d (pt_getR gx32_48 S13 tr_16_0 ?_)
    refine pt_d (pt_getI (B := 0) gx32_51 S13 (fun v17 h17 => ?_))
    have h17 : v17.toInt = vw h 1 0 := by rw [h17, e13, up_c (by decide), e10, up_c (by decide), e7, up_c (by decide)]
    refine pt_d (pt_iast (N' := 40) gx32_54 S13 tl_26 h15 h17 (fun h_18 S18 p18 q18 e18 => ?_))
    refine pt_d (pt_1 (fun n d => r_aloadn gx32_55 rfl) ?_)
    refine pt_d (pt_1 (fun n d => r_dup gx32_56 rfl) ?_)
    refine pt_d (pt_getI (B := 2) gx32_57 S18 (fun v19 h19 => ?_))
    have h19 : v19.toInt = vw h 16 2 := by rw [h19, e18, up_c (by decide), e13, up_c (by decide), e10, up_c (by decide), e7, up_c (by decide)]
    refine pt_d (pt_iconst gx32_60 (fun v20 h20 => ?_))
    refine pt_d (pt_iadd gx32_61 h19 h20 (fun v21 h21 => ?_))
    refine pt_d (pt_putI (B := 2) gx32_62 S18 h21 (fun h_22 S22 e22 => ?_))
    refine pt_d (pt_1 (fun n d => r_aloadn gx32_65 rfl) ?_)
    refine pt_d (pt_getI (B := 2) gx32_66 S22 (fun v23 h23 => ?_))
    have h23 : v23.toInt = w32 ((vw h 16 2) + 1) := by rw [h23, e22, up_s]
    have H := H h_22 S22 (by rw [e22, e18, e13, e10, e7])
    exact pt_d (pt_iret gx32_69 ⟨_, rfl, by rw [h23]; exact H⟩)
def cOutV (V : vS) (a b d : Int) : vS := up (up (up (up (up V 23 (V 16 2) a) 24 (V 16 2) b) 25 (V 16 2) d) 26 (V 16 2) (V 1 0)) 16 2 (w32 (V 16 2 + 1))
def R32 (V : vS) (a b d r : Int) (V' : vS) : Prop := (40 ≤ V 16 2 ∧ r = V 16 2 ∧ V' = V) ∨ (V 16 2 < 40 ∧ 0 ≤ V 16 2 ∧ r = w32 (V 16 2 + 1) ∧ V' = cOutV V a b d)
theorem c_32 {n : Nat} {X : aX} {h : aH} {x1 x2 x3 : Int32} {a1 a2 a3 : Int} (S : wS h) (z1 : x1.toInt = a1) (z2 : x2.toInt = a2) (z3 : x3.toInt = a3) : Pt n X zM32 0 [some (.ref 16), some (.int x1), some (.int x2), some (.int x3)] [] h (qI (fun y h' => wS h' ∧ R32 (vw h) a1 a2 a3 y (vw h'))) := by
  refine pt_d (d32_0 S z1 z2 z3 ⟨fun e => ⟨S, Or.inl ⟨e, rfl, rfl⟩⟩, fun e p q g S2 eg => ⟨S2, Or.inr ⟨e, p, rfl, eg⟩⟩⟩)

theorem d159_0 {n : Nat} {X : aX} {h : aH} {P : Int → aH → Prop} {x1 x2 x3 : Int32} {a1 a2 a3 : Int} (S : wS h) (z1 : x1.toInt = a1) (z2 : x2.toInt = a2) (z3 : x3.toInt = a3) (H : ((a1 < 0 → P (-1) h) ∧ (0 ≤ a1 → ((a2 < 0 → P (-1) h) ∧ (0 ≤ a2 → (((0 ≤ a3 ∧ a3 ≤ 3649) → ((iDiv a2 100 < iDiv a1 100 → P (-1) h) ∧ (iDiv a1 100 ≤ iDiv a2 100 → ((iRem a2 100 < iRem a1 100 → P (-1) h) ∧ (iRem a1 100 ≤ iRem a2 100 → ((24 ≤ iDiv a2 100 → P (-1) h) ∧ (iDiv a2 100 < 24 → ((iRem a2 100 < 24 → ((vw h 16 2 < 40 → ∀ (y29 : Int) (h_29 : aH), (wS h_29 ∧ R32 (vw h) a1 a2 a3 y29 (vw h_29)) → P y29 h_29) ∧ (40 ≤ vw h 16 2 → P (-3) h))) ∧ (24 ≤ iRem a2 100 → P (-1) h))))))))) ∧ (¬ (0 ≤ a3 ∧ a3 ≤ 3649) → P (-1) h))))))) : Pt (n + 1) X zM159 0 [some (.ref 0), some (.int x1), some (.int x2), some (.int x3), none, none, none, none] [] h (qI P) := by
  refine pt_1 (fun n d => r_iloadn gx159_0 rfl) ?_
  refine pt_d (pt_if_lt gx159_1 z1 (fun e1 => ?_) (fun e1 => ?_))
  · have H := H.1 e1
    refine pt_d (pt_iconst gx159_15 (fun v2 h2 => ?_))
    exact pt_d (pt_iret gx159_16 ⟨_, rfl, by rw [h2]; exact H⟩)
  · have H := H.2 e1
    refine pt_d (pt_1 (fun n d => r_iloadn gx159_4 rfl) ?_)
    refine pt_d (pt_if_lt gx159_5 z2 (fun e3 => ?_) (fun e3 => ?_))
    · have H := H.1 e3
      refine pt_d (pt_iconst gx159_15 (fun v4 h4 => ?_))
      exact pt_d (pt_iret gx159_16 ⟨_, rfl, by rw [h4]; exact H⟩)
    · have H := H.2 e3
      refine pt_d (pt_1 (fun n d => r_iloadn gx159_8 rfl) ?_)
      refine pt_d (pt_stat (as := [.int x3]) (r := []) gx159_9 rfl (show zmt[138]? = some zM138 from rfl) rfl rfl rfl rfl (c_138 S z3) (kqP (fun v5 h5 => ?_)))
      show Pt _ _ _ 12 _ [.int v5] _ _
      refine pt_d (pt_ifB_ne gx159_12 h5 (fun e6 => ?_) (fun e6 => ?_))
      · have H := H.1 e6
        refine pt_d (pt_1 (fun n d => r_iloadn gx159_17 rfl) ?_)
        refine pt_d (pt_bipush gx159_18 (fun v7 h7 => ?_))
        refine pt_d (pt_idiv gx159_20 z1 h7 (fun v8 h8 => ?_))
        refine pt_d (pt_1 (fun n d => r_istore (L' := [some (.ref 0), some (.int x1), some (.int x2), some (.int x3), some (.int v8), none, none, none]) gx159_21 rfl rfl) ?_)
        refine pt_d (pt_1 (fun n d => r_iloadn gx159_23 rfl) ?_)
        refine pt_d (pt_bipush gx159_24 (fun v9 h9 => ?_))
        refine pt_d (pt_irem gx159_26 z1 h9 (fun v10 h10 => ?_))
        refine pt_d (pt_1 (fun n d => r_istore (L' := [some (.ref 0), some (.int x1), some (.int x2), some (.int x3), some (.int v8), some (.int v10), none, none]) gx159_27 rfl rfl) ?_)
        refine pt_d (pt_1 (fun n d => r_iloadn gx159_29 rfl) ?_)
        refine pt_d (pt_bipush gx159_30 (fun v11 h11 => ?_))
        refine pt_d (pt_idiv gx159_32 z2 h11 (fun v12 h12 => ?_))
        refine pt_d (pt_1 (fun n d => r_istore (L' := [some (.ref 0), some (.int x1), some (.int x2), some (.int x3), some (.int v8), some (.int v10), some (.int v12), none]) gx159_33 rfl rfl) ?_)
        refine pt_d (pt_1 (fun n d => r_iloadn gx159_35 rfl) ?_)
        refine pt_d (pt_bipush gx159_36 (fun v13 h13 => ?_))
        refine pt_d (pt_irem gx159_38 z2 h13 (fun v14 h14 => ?_))
        refine pt_d (pt_1 (fun n d => r_istore (L' := [some (.ref 0), some (.int x1), some (.int x2), some (.int x3), some (.int v8), some (.int v10), some (.int v12), some (.int v14)]) gx159_39 rfl rfl) ?_)
        refine pt_d (pt_1 (fun n d => r_iload gx159_41 rfl) ?_)
        refine pt_d (pt_1 (fun n d => r_iload gx159_43 rfl) ?_)
        refine pt_d (pt_icmp_gt gx159_45 h8 h12 (fun e15 => ?_) (fun e15 => ?_))
        · have H := H.1 e15
          refine pt_d (pt_iconst gx159_69 (fun v16 h16 => ?_))
          exact pt_d (pt_iret gx159_70 ⟨_, rfl, by rw [h16]; exact H⟩)
        · have H := H.2 e15
          refine pt_d (pt_1 (fun n d => r_iload gx159_48 rfl) ?_)
          refine pt_d (pt_1 (fun n d => r_iload gx159_50 rfl) ?_)
          refine pt_d (pt_icmp_gt gx159_52 h10 h14 (fun e17 => ?_) (fun e17 => ?_))
          · have H := H.1 e17
            refine pt_d (pt_iconst gx159_69 (fun v18 h18 => ?_))
            exact pt_d (pt_iret gx159_70 ⟨_, rfl, by rw [h18]; exact H⟩)
          · have H := H.2 e17
            refine pt_d (pt_1 (fun n d => r_iload gx159_55 rfl) ?_)
            refine pt_d (pt_bipush gx159_57 (fun v19 h19 => ?_))
            refine pt_d (pt_icmp_ge gx159_59 h12 h19 (fun e20 => ?_) (fun e20 => ?_))
            · have H := H.1 e20
              refine pt_d (pt_iconst gx159_69 (fun v21 h21 => ?_))
              exact pt_d (pt_iret gx159_70 ⟨_, rfl, by rw [h21]; exact H⟩)
            · have H := H.2 e20
              refine pt_d (pt_1 (fun n d => r_iload gx159_62 rfl) ?_)
              refine pt_d (pt_bipush gx159_64 (fun v22 h22 => ?_))
              refine pt_d (pt_icmp_lt gx159_66 h14 h22 (fun e23 => ?_) (fun e23 => ?_))
              · have H := H.1 e23
                refine pt_d (pt_1 (fun n d => r_aloadn gx159_71 rfl) ?_)
                refine pt_d (pt_getR gx159_72 S tr_0_2 ?_)
                refine pt_d (pt_getI (B := 2) gx159_75 S (fun v25 h25 => ?_))
                refine pt_d (pt_bipush gx159_78 (fun v26 h26 => ?_))
                refine pt_d (pt_icmp_lt gx159_80 h25 h26 (fun e27 => ?_) (fun e27 => ?_))
                · have H := H.1 e27
                  refine pt_d (pt_1 (fun n d => r_aloadn gx159_88 rfl) ?_)
                  refine pt_d (pt_getR gx159_89 S tr_0_2 ?_)
                  refine pt_d (pt_1 (fun n d => r_iloadn gx159_92 rfl) ?_)
                  refine pt_d (pt_1 (fun n d => r_iloadn gx159_93 rfl) ?_)
                  refine pt_d (pt_1 (fun n d => r_iloadn gx159_94 rfl) ?_)
                  refine pt_d (pt_virt (as := [.int x1, .int x2, .int x3]) (r := []) gx159_95 rfl (show zmt[32]? = some zM32 from rfl) rfl rfl rfl rfl (c_32 S z1 z2 z3) (kqI (fun v29 y29 h_29 h29 P29 => ?_)))
                  have S29 := P29.1
                  have H := H y29 h_29 P29
                  show Pt _ _ _ 98 _ [.int v29] _ _
                  exact pt_d (pt_iret gx159_98 ⟨_, rfl, by rw [h29]; exact H⟩)
                · have H := H.2 e27
                  refine pt_d (pt_bipush gx159_83 (fun v30 h30 => ?_))
                  refine pt_d (pt_1 (fun n d => r_goto gx159_85) ?_)
                  exact pt_d (pt_iret gx159_98 ⟨_, rfl, by rw [h30]; exact H⟩)
              · have H := H.2 e23
                refine pt_d (pt_iconst gx159_69 (fun v31 h31 => ?_))
                exact pt_d (pt_iret gx159_70 ⟨_, rfl, by rw [h31]; exact H⟩)
      · have H := H.2 e6
        refine pt_d (pt_iconst gx159_15 (fun v32 h32 => ?_))
        exact pt_d (pt_iret gx159_16 ⟨_, rfl, by rw [h32]; exact H⟩)
theorem d232_0 {n : Nat} {X : aX} {h : aH} {P : Int → aH → Prop} {x1 x2 x3 : Int32} {a1 a2 a3 : Int} (S : wS h) (z1 : x1.toInt = a1) (z2 : x2.toInt = a2) (z3 : x3.toInt = a3) (H : ((a1 < 0 → P (-1) h) ∧ (0 ≤ a1 → ((a2 < 0 → P (-1) h) ∧ (0 ≤ a2 → ((¬ (0 ≤ (iDiv a1 100) ∧ (iDiv a1 100) ≤ 23) → P (-1) h) ∧ ((0 ≤ (iDiv a1 100) ∧ (iDiv a1 100) ≤ 23) → ((¬ (0 ≤ (iRem a1 100) ∧ (iRem a1 100) ≤ 23) → P (-1) h) ∧ ((0 ≤ (iRem a1 100) ∧ (iRem a1 100) ≤ 23) → ((¬ ((iDiv a1 100) ≤ (iDiv a2 100) ∧ (iDiv a2 100) ≤ 23) → P (-1) h) ∧ (((iDiv a1 100) ≤ (iDiv a2 100) ∧ (iDiv a2 100) ≤ 23) → ((¬ ((iRem a1 100) ≤ (iRem a2 100) ∧ (iRem a2 100) ≤ 23) → P (-1) h) ∧ (((iRem a1 100) ≤ (iRem a2 100) ∧ (iRem a2 100) ≤ 23) → (((0 ≤ a3 ∧ a3 ≤ 3649) → ((vw h 72 25 ≠ 40 → (0 ≤ vw h 72 25 → vw h 72 25 < 40 → ∀ h_72 : aH, wS h_72 → vw h_72 = up (up (up (up (up (up (up (up (vw h) 92 (vw h 72 25) (iDiv a1 100)) 93 (vw h 72 25) (iRem a1 100)) 94 (vw h 72 25) (iDiv a2 100)) 95 (vw h 72 25) (iRem a2 100)) 96 (vw h 72 25) a3) 97 (vw h 72 25) (vw h 72 1)) 72 25 (w32 ((vw h 72 25) + 1))) 72 38 1 → P (w32 ((vw h 72 25) + 1)) h_72)) ∧ (vw h 72 25 = 40 → P (-3) h))) ∧ (¬ (0 ≤ a3 ∧ a3 ≤ 3649) → P (-1) h))))))))))))))) : Pt (n + 1) X zM232 0 [some (.ref 72), some (.int x1), some (.int x2), some (.int x3)] [] h (qI P) := by
  refine pt_1 (fun n d => r_iloadn gx232_0 rfl) ?_
  refine pt_d (pt_if_lt gx232_1 z1 (fun e1 => ?_) (fun e1 => ?_))
  · have H := H.1 e1
    refine pt_d (pt_iconst gx232_73 (fun v2 h2 => ?_))
    exact pt_d (pt_iret gx232_74 ⟨_, rfl, by rw [h2]; exact H⟩)
  · have H := H.2 e1
    refine pt_d (pt_1 (fun n d => r_iloadn gx232_4 rfl) ?_)
    refine pt_d (pt_if_lt gx232_5 z2 (fun e3 => ?_) (fun e3 => ?_))
    · have H := H.1 e3
      refine pt_d (pt_iconst gx232_73 (fun v4 h4 => ?_))
      exact pt_d (pt_iret gx232_74 ⟨_, rfl, by rw [h4]; exact H⟩)
    · have H := H.2 e3
      refine pt_d (pt_1 (fun n d => r_iloadn gx232_8 rfl) ?_)
      refine pt_d (pt_bipush gx232_9 (fun v5 h5 => ?_))
      refine pt_d (pt_idiv gx232_11 z1 h5 (fun v6 h6 => ?_))
      refine pt_d (pt_iconst gx232_12 (fun v7 h7 => ?_))
      refine pt_d (pt_bipush gx232_13 (fun v8 h8 => ?_))
      refine pt_d (pt_stat (as := [.int v6, .int v7, .int v8]) (r := []) gx232_15 rfl (show zmt[196]? = some zM196 from rfl) rfl rfl rfl rfl (c_196 S h6 h7 h8) (kqP (fun v9 h9 => ?_)))
      show Pt _ _ _ 18 _ [.int v9] _ _
      refine pt_d (pt_ifB_eq gx232_18 h9 (fun e10 => ?_) (fun e10 => ?_))
      · have H := H.1 e10
        refine pt_d (pt_iconst gx232_73 (fun v11 h11 => ?_))
        exact pt_d (pt_iret gx232_74 ⟨_, rfl, by rw [h11]; exact H⟩)
      · have H := H.2 e10
        refine pt_d (pt_1 (fun n d => r_iloadn gx232_21 rfl) ?_)
        refine pt_d (pt_bipush gx232_22 (fun v12 h12 => ?_))
        refine pt_d (pt_irem gx232_24 z1 h12 (fun v13 h13 => ?_))
        refine pt_d (pt_iconst gx232_25 (fun v14 h14 => ?_))
        refine pt_d (pt_bipush gx232_26 (fun v15 h15 => ?_))
        refine pt_d (pt_stat (as := [.int v13, .int v14, .int v15]) (r := []) gx232_28 rfl (show zmt[196]? = some zM196 from rfl) rfl rfl rfl rfl (c_196 S h13 h14 h15) (kqP (fun v16 h16 => ?_)))
        show Pt _ _ _ 31 _ [.int v16] _ _
        refine pt_d (pt_ifB_eq gx232_31 h16 (fun e17 => ?_) (fun e17 => ?_))
        · have H := H.1 e17
          refine pt_d (pt_iconst gx232_73 (fun v18 h18 => ?_))
          exact pt_d (pt_iret gx232_74 ⟨_, rfl, by rw [h18]; exact H⟩)
        · have H := H.2 e17
          refine pt_d (pt_1 (fun n d => r_iloadn gx232_34 rfl) ?_)
          refine pt_d (pt_bipush gx232_35 (fun v19 h19 => ?_))
          refine pt_d (pt_idiv gx232_37 z2 h19 (fun v20 h20 => ?_))
          refine pt_d (pt_1 (fun n d => r_iloadn gx232_38 rfl) ?_)
          refine pt_d (pt_bipush gx232_39 (fun v21 h21 => ?_))
          refine pt_d (pt_idiv gx232_41 z1 h21 (fun v22 h22 => ?_))
          refine pt_d (pt_bipush gx232_42 (fun v23 h23 => ?_))
          refine pt_d (pt_stat (as := [.int v20, .int v22, .int v23]) (r := []) gx232_44 rfl (show zmt[196]? = some zM196 from rfl) rfl rfl rfl rfl (c_196 S h20 h22 h23) (kqP (fun v24 h24 => ?_)))
          show Pt _ _ _ 47 _ [.int v24] _ _
          refine pt_d (pt_ifB_eq gx232_47 h24 (fun e25 => ?_) (fun e25 => ?_))
          · have H := H.1 e25
            refine pt_d (pt_iconst gx232_73 (fun v26 h26 => ?_))
            exact pt_d (pt_iret gx232_74 ⟨_, rfl, by rw [h26]; exact H⟩)
          · have H := H.2 e25
            refine pt_d (pt_1 (fun n d => r_iloadn gx232_50 rfl) ?_)
            refine pt_d (pt_bipush gx232_51 (fun v27 h27 => ?_))
            refine pt_d (pt_irem gx232_53 z2 h27 (fun v28 h28 => ?_))
            refine pt_d (pt_1 (fun n d => r_iloadn gx232_54 rfl) ?_)
            refine pt_d (pt_bipush gx232_55 (fun v29 h29 => ?_))
            refine pt_d (pt_irem gx232_57 z1 h29 (fun v30 h30 => ?_))
            refine pt_d (pt_bipush gx232_58 (fun v31 h31 => ?_))
            refine pt_d (pt_stat (as := [.int v28, .int v30, .int v31]) (r := []) gx232_60 rfl (show zmt[196]? = some zM196 from rfl) rfl rfl rfl rfl (c_196 S h28 h30 h31) (kqP (fun v32 h32 => ?_)))
            show Pt _ _ _ 63 _ [.int v32] _ _
            refine pt_d (pt_ifB_eq gx232_63 h32 (fun e33 => ?_) (fun e33 => ?_))
            · have H := H.1 e33
              refine pt_d (pt_iconst gx232_73 (fun v34 h34 => ?_))
              exact pt_d (pt_iret gx232_74 ⟨_, rfl, by rw [h34]; exact H⟩)
            · have H := H.2 e33
              refine pt_d (pt_1 (fun n d => r_iloadn gx232_66 rfl) ?_)
              refine pt_d (pt_stat (as := [.int x3]) (r := []) gx232_67 rfl (show zmt[197]? = some zM197 from rfl) rfl rfl rfl rfl (c_197 S z3) (kqP (fun v35 h35 => ?_)))
              show Pt _ _ _ 70 _ [.int v35] _ _
              refine pt_d (pt_ifB_ne gx232_70 h35 (fun e36 => ?_) (fun e36 => ?_))
              · have H := H.1 e36
                refine pt_d (pt_1 (fun n d => r_aloadn gx232_75 rfl) ?_)
                refine pt_d (pt_getI (B := 25) gx232_76 S (fun v37 h37 => ?_))
                refine pt_d (pt_bipush gx232_79 (fun v38 h38 => ?_))
                refine pt_d (pt_icmp_ne gx232_81 h37 h38 (fun e39 => ?_) (fun e39 => ?_))
                · have H := H.1 e39
                  refine pt_d (pt_1 (fun n d => r_aloadn gx232_87 rfl) ?_)
                  refine pt_d (pt_getR gx232_88 S tr_72_26 ?_)
                  refine pt_d (pt_1 (fun n d => r_aloadn gx232_91 rfl) ?_)
                  refine pt_d (pt_getI (B := 25) gx232_92 S (fun v41 h41 => ?_))
                  refine pt_d (pt_1 (fun n d => r_iloadn gx232_95 rfl) ?_)
                  refine pt_d (pt_bipush gx232_96 (fun v42 h42 => ?_))
                  refine pt_d (pt_idiv gx232_98 z1 h42 (fun v43 h43 => ?_))
                  refine pt_d (pt_iast (N' := 40) gx232_99 S tl_92 h41 h43 (fun h_44 S44 p44 q44 e44 => ?_))
                  have H := H p44 q44
                  refine pt_d (pt_1 (fun n d => r_aloadn gx232_100 rfl) ?_)
                  refine pt_d (pt_getR gx232_101 S44 tr_72_27 ?_)
                  refine pt_d (pt_1 (fun n d => r_aloadn gx232_104 rfl) ?_)
                  refine pt_d (pt_getI (B := 25) gx232_105 S44 (fun v46 h46 => ?_))
                  have h46 : v46.toInt = vw h 72 25 := by rw [h46, e44, up_c (by decide)]
                  refine pt_d (pt_1 (fun n d => r_iloadn gx232_108 rfl) ?_)
                  refine pt_d (pt_bipush gx232_109 (fun v47 h47 => ?_))
                  refine pt_d (pt_irem gx232_111 z1 h47 (fun v48 h48 => ?_))
                  refine pt_d (pt_iast (N' := 40) gx232_112 S44 tl_93 h46 h48 (fun h_49 S49 p49 q49 e49 => ?_))
                  refine pt_d (pt_1 (fun n d => r_aloadn gx232_113 rfl) ?_)
                  refine pt_d (pt_getR gx232_114 S49 tr_72_28 ?_)
                  refine pt_d (pt_1 (fun n d => r_aloadn gx232_117 rfl) ?_)
                  refine pt_d (pt_getI (B := 25) gx232_118 S49 (fun v51 h51 => ?_))
                  have h51 : v51.toInt = vw h 72 25 := by rw [h51, e49, up_c (by decide), e44, up_c (by decide)]
                  refine pt_d (pt_1 (fun n d => r_iloadn gx232_121 rfl) ?_)
                  refine pt_d (pt_bipush gx232_122 (fun v52 h52 => ?_))
                  refine pt_d (pt_idiv gx232_124 z2 h52 (fun v53 h53 => ?_))
                  refine pt_d (pt_iast (N' := 40) gx232_125 S49 tl_94 h51 h53 (fun h_54 S54 p54 q54 e54 => ?_))
                  refine pt_d (pt_1 (fun n d => r_aloadn gx232_126 rfl) ?_)
                  refine pt_d (pt_getR gx232_127 S54 tr_72_29 ?_)
                  refine pt_d (pt_1 (fun n d => r_aloadn gx232_130 rfl) ?_)
                  refine pt_d (pt_getI (B := 25) gx232_131 S54 (fun v56 h56 => ?_))
                  have h56 : v56.toInt = vw h 72 25 := by rw [h56, e54, up_c (by decide), e49, up_c (by decide), e44, up_c (by decide)]
                  refine pt_d (pt_1 (fun n d => r_iloadn gx232_134 rfl) ?_)
                  refine pt_d (pt_bipush gx232_135 (fun v57 h57 => ?_))
                  refine pt_d (pt_irem gx232_137 z2 h57 (fun v58 h58 => ?_))
                  refine pt_d (pt_iast (N' := 40) gx232_138 S54 tl_95 h56 h58 (fun h_59 S59 p59 q59 e59 => ?_))
                  refine pt_d (pt_1 (fun n d => r_aloadn gx232_139 rfl) ?_)
                  refine pt_d (pt_getR gx232_140 S59 tr_72_30 ?_)
                  refine pt_d (pt_1 (fun n d => r_aloadn gx232_143 rfl) ?_)
                  refine pt_d (pt_getI (B := 25) gx232_144 S59 (fun v61 h61 => ?_))
                  have h61 : v61.toInt = vw h 72 25 := by rw [h61, e59, up_c (by decide), e54, up_c (by decide), e49, up_c (by decide), e44, up_c (by decide)]
                  refine pt_d (pt_1 (fun n d => r_iloadn gx232_147 rfl) ?_)
                  refine pt_d (pt_iast (N' := 40) gx232_148 S59 tl_96 h61 z3 (fun h_62 S62 p62 q62 e62 => ?_))
                  refine pt_d (pt_1 (fun n d => r_aloadn gx232_149 rfl) ?_)
                  refine pt_d (pt_getR gx232_150 S62 tr_72_31 ?_)
                  refine pt_d (pt_1 (fun n d => r_aloadn gx232_153 rfl) ?_)
                  refine pt_d (pt_getI (B := 25) gx232_154 S62 (fun v64 h64 => ?_))
                  have h64 : v64.toInt = vw h 72 25 := by rw [h64, e62, up_c (by decide), e59, up_c (by decide), e54, up_c (by decide), e49, up_c (by decide), e44, up_c (by decide)]
                  refine pt_d (pt_1 (fun n d => r_aloadn gx232_157 rfl) ?_)
                  refine pt_d (pt_getI (B := 1) gx232_158 S62 (fun v65 h65 => ?_))
                  have h65 : v65.toInt = vw h 72 1 := by rw [h65, e62, up_c (by decide), e59, up_c (by decide), e54, up_c (by decide), e49, up_c (by decide), e44, up_c (by decide)]
                  refine pt_d (pt_iast (N' := 40) gx232_161 S62 tl_97 h64 h65 (fun h_66 S66 p66 q66 e66 => ?_))
                  refine pt_d (pt_1 (fun n d => r_aloadn gx232_162 rfl) ?_)
                  refine pt_d (pt_1 (fun n d => r_dup gx232_163 rfl) ?_)
                  refine pt_d (pt_getI (B := 25) gx232_164 S66 (fun v67 h67 => ?_))
                  have h67 : v67.toInt = vw h 72 25 := by rw [h67, e66, up_c (by decide), e62, up_c (by decide), e59, up_c (by decide), e54, up_c (by decide), e49, up_c (by decide), e44, up_c (by decide)]
                  refine pt_d (pt_iconst gx232_167 (fun v68 h68 => ?_))
                  refine pt_d (pt_iadd gx232_168 h67 h68 (fun v69 h69 => ?_))
                  refine pt_d (pt_putI (B := 25) gx232_169 S66 h69 (fun h_70 S70 e70 => ?_))
                  refine pt_d (pt_1 (fun n d => r_aloadn gx232_172 rfl) ?_)
                  refine pt_d (pt_iconst gx232_173 (fun v71 h71 => ?_))
                  refine pt_d (pt_putI (B := 38) gx232_174 S70 h71 (fun h_72 S72 e72 => ?_))
                  refine pt_d (pt_1 (fun n d => r_aloadn gx232_177 rfl) ?_)
                  refine pt_d (pt_getI (B := 25) gx232_178 S72 (fun v73 h73 => ?_))
                  have h73 : v73.toInt = w32 ((vw h 72 25) + 1) := by rw [h73, e72, up_j (by decide), e70, up_s]
                  have H := H h_72 S72 (by rw [e72, e70, e66, e62, e59, e54, e49, e44])
                  exact pt_d (pt_iret gx232_181 ⟨_, rfl, by rw [h73]; exact H⟩)
                · have H := H.2 e39
                  refine pt_d (pt_bipush gx232_84 (fun v74 h74 => ?_))
                  exact pt_d (pt_iret gx232_86 ⟨_, rfl, by rw [h74]; exact H⟩)
              · have H := H.2 e36
                refine pt_d (pt_iconst gx232_73 (fun v75 h75 => ?_))
                exact pt_d (pt_iret gx232_74 ⟨_, rfl, by rw [h75]; exact H⟩)
def okOut (a b d : Int) : Prop := 0 ≤ a ∧ 0 ≤ b ∧ (0 ≤ d ∧ d ≤ 3649) ∧ iDiv a 100 ≤ iDiv b 100 ∧ iRem a 100 ≤ iRem b 100 ∧ iDiv b 100 < 24 ∧ iRem b 100 < 24
def R159 (V : vS) (a b d r : Int) (V' : vS) : Prop := (a ≤ 2147483647 ∧ b ≤ 2147483647) ∧ ((¬ okOut a b d ∧ r = -1 ∧ V' = V) ∨ (okOut a b d ∧ 40 ≤ V 16 2 ∧ r = -3 ∧ V' = V) ∨ (okOut a b d ∧ V 16 2 < 40 ∧ R32 V a b d r V'))
theorem c_159 {n : Nat} {X : aX} {h : aH} {x1 x2 x3 : Int32} {a1 a2 a3 : Int} (S : wS h) (z1 : x1.toInt = a1) (z2 : x2.toInt = a2) (z3 : x3.toInt = a3) : Pt n X zM159 0 [some (.ref 0), some (.int x1), some (.int x2), some (.int x3), none, none, none, none] [] h (qI (fun y h' => R159 (vw h) a1 a2 a3 y (vw h'))) := by
  have b1 : a1 ≤ 2147483647 := by have := iR x1; omega
  have b2 : a2 ≤ 2147483647 := by have := iR x2; omega
  have bad : ¬ okOut a1 a2 a3 → R159 (vw h) a1 a2 a3 (-1) (vw h) := fun z => ⟨⟨b1, b2⟩, Or.inl ⟨z, rfl, rfl⟩⟩
  refine pt_d (d159_0 S z1 z2 z3 ⟨fun e => bad ?_, fun e => ⟨fun e2 => bad ?_, fun e2 => ⟨fun e3 => ⟨fun e4 => bad ?_, fun e4 => ⟨fun e5 => bad ?_, fun e5 => ⟨fun e6 => bad ?_, fun e6 => ⟨fun e7 => ?_, fun e7 => bad ?_⟩⟩⟩⟩, fun e3 => bad ?_⟩⟩⟩)
  all_goals try (unfold okOut; omega)
  have ok : okOut a1 a2 a3 := ⟨e, e2, e3, e4, e5, e6, e7⟩
  exact ⟨fun e8 y g p => ⟨⟨b1, b2⟩, Or.inr (Or.inr ⟨ok, e8, p.2⟩)⟩, fun e8 => ⟨⟨b1, b2⟩, Or.inr (Or.inl ⟨ok, e8, rfl, rfl⟩)⟩⟩
def okOum (a b d : Int) : Prop := 0 ≤ a ∧ 0 ≤ b ∧ (0 ≤ iDiv a 100 ∧ iDiv a 100 ≤ 23) ∧ (0 ≤ iRem a 100 ∧ iRem a 100 ≤ 23) ∧ (iDiv a 100 ≤ iDiv b 100 ∧ iDiv b 100 ≤ 23) ∧ (iRem a 100 ≤ iRem b 100 ∧ iRem b 100 ≤ 23) ∧ 0 ≤ d ∧ d ≤ 3649
def mOutV (V : vS) (a b d : Int) : vS := up (up (up (up (up (up (up (up V 92 (V 72 25) (iDiv a 100)) 93 (V 72 25) (iRem a 100)) 94 (V 72 25) (iDiv b 100)) 95 (V 72 25) (iRem b 100)) 96 (V 72 25) d) 97 (V 72 25) (V 72 1)) 72 25 (w32 (V 72 25 + 1))) 72 38 1
def R232 (V : vS) (a b d r : Int) (V' : vS) : Prop := (¬ okOum a b d ∧ r = -1 ∧ V' = V) ∨ (okOum a b d ∧ V 72 25 = 40 ∧ r = -3 ∧ V' = V) ∨ (okOum a b d ∧ V 72 25 ≠ 40 ∧ r = w32 (V 72 25 + 1) ∧ V' = mOutV V a b d)
theorem c_232 {n : Nat} {X : aX} {h : aH} {x1 x2 x3 : Int32} {a1 a2 a3 : Int} (S : wS h) (z1 : x1.toInt = a1) (z2 : x2.toInt = a2) (z3 : x3.toInt = a3) : Pt n X zM232 0 [some (.ref 72), some (.int x1), some (.int x2), some (.int x3)] [] h (qI (fun y h' => R232 (vw h) a1 a2 a3 y (vw h'))) := by
  have bad : ¬ okOum a1 a2 a3 → R232 (vw h) a1 a2 a3 (-1) (vw h) := fun z => Or.inl ⟨z, rfl, rfl⟩
  refine pt_d (d232_0 S z1 z2 z3 ⟨fun e => bad ?_, fun e => ⟨fun e2 => bad ?_, fun e2 => ⟨fun e3 => bad ?_, fun e3 => ⟨fun e4 => bad ?_, fun e4 => ⟨fun e5 => bad ?_, fun e5 => ⟨fun e6 => bad ?_, fun e6 => ⟨fun e7 => ?_, fun e7 => bad ?_⟩⟩⟩⟩⟩⟩⟩)
  all_goals try (unfold okOum; omega)
  have ok : okOum a1 a2 a3 := ⟨e, e2, e3, e4, e5, e6, e7⟩
  exact ⟨fun e8 p q g S2 eg => Or.inr (Or.inr ⟨ok, e8, rfl, eg⟩), fun e8 => Or.inr (Or.inl ⟨ok, e8, rfl, rfl⟩)⟩

def bg (V : vS) (v : Int) : vS := if V 66 1 < 24 then up (up V 67 (V 66 1) v) 66 1 (w32 (V 66 1 + 1)) else up V 66 1 (w32 (V 66 1 + 1))
def bgs (V : vS) : List Int → vS
  | [] => V
  | v :: r => bgs (bg V v) r
def hTr (f : Int) : List Int := if f = 4 ∨ f = 5 then [50, 11] else [11]
def hNr (f m b x : Int) : Int := if f = 4 ∨ f = 5 then w32 (bXor x b + m) else bXor x b
def R24 (V : vS) (f x r : Int) (V' : vS) : Prop := r = hNr f (V 66 4) (V 66 2) x ∧ V' = bgs V (hTr f)
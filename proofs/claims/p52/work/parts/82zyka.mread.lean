-- ===== the model reads a text =====
theorem tl_115 : tkL 115 3 160 = true := by decide +kernel
theorem tl_122 : tkL 122 0 2890 = true := by decide +kernel
theorem tl_123 : tkL 123 0 2890 = true := by decide +kernel
theorem tr_72_53 : tkR 72 53 115 = true := by decide +kernel
theorem tr_72_62 : tkR 72 62 122 = true := by decide +kernel
theorem tr_72_63 : tkR 72 63 123 = true := by decide +kernel
theorem gx251_0 : aF 0 zM251.2.2.2.2.2.2.2 = some (0, (.aload_n 0), 1, 0, 0) := by decide +kernel
theorem gx251_1 : aF 1 zM251.2.2.2.2.2.2.2 = some (1, (.getfield 394), 3, 12, 64) := by decide +kernel
theorem gx251_4 : aF 4 zM251.2.2.2.2.2.2.2 = some (4, (.aload_n 0), 1, 0, 0) := by decide +kernel
theorem gx251_5 : aF 5 zM251.2.2.2.2.2.2.2 = some (5, (.getfield 391), 3, 12, 54) := by decide +kernel
theorem gx251_8 : aF 8 zM251.2.2.2.2.2.2.2 = some (8, (.if_icmp .ge 15), 3, 23, 0) := by decide +kernel
theorem gx251_23 : aF 23 zM251.2.2.2.2.2.2.2 = some (23, (.iconst (-1)), 1, 0, 0) := by decide +kernel
theorem gx251_24 : aF 24 zM251.2.2.2.2.2.2.2 = some (24, .ireturn, 1, 0, 0) := by decide +kernel
theorem gx251_11 : aF 11 zM251.2.2.2.2.2.2.2 = some (11, (.aload_n 0), 1, 0, 0) := by decide +kernel
theorem gx251_12 : aF 12 zM251.2.2.2.2.2.2.2 = some (12, (.getfield 148), 3, 12, 53) := by decide +kernel
theorem gx251_15 : aF 15 zM251.2.2.2.2.2.2.2 = some (15, (.aload_n 0), 1, 0, 0) := by decide +kernel
theorem gx251_16 : aF 16 zM251.2.2.2.2.2.2.2 = some (16, (.getfield 394), 3, 12, 64) := by decide +kernel
theorem gx251_19 : aF 19 zM251.2.2.2.2.2.2.2 = some (19, .baload, 1, 0, 0) := by decide +kernel
theorem gx251_20 : aF 20 zM251.2.2.2.2.2.2.2 = some (20, (.goto 4), 3, 24, 0) := by decide +kernel
theorem gx252_0 : aF 0 zM252.2.2.2.2.2.2.2 = some (0, (.aload_n 0), 1, 0, 0) := by decide +kernel
theorem gx252_1 : aF 1 zM252.2.2.2.2.2.2.2 = some (1, (.getfield 397), 3, 12, 65) := by decide +kernel
theorem gx252_4 : aF 4 zM252.2.2.2.2.2.2.2 = some (4, (.ifCond .ge 11), 3, 15, 0) := by decide +kernel
theorem gx252_15 : aF 15 zM252.2.2.2.2.2.2.2 = some (15, .return_, 1, 0, 0) := by decide +kernel
theorem gx252_7 : aF 7 zM252.2.2.2.2.2.2.2 = some (7, (.aload_n 0), 1, 0, 0) := by decide +kernel
theorem gx252_8 : aF 8 zM252.2.2.2.2.2.2.2 = some (8, (.aload_n 0), 1, 0, 0) := by decide +kernel
theorem gx252_9 : aF 9 zM252.2.2.2.2.2.2.2 = some (9, (.getfield 394), 3, 12, 64) := by decide +kernel
theorem gx252_12 : aF 12 zM252.2.2.2.2.2.2.2 = some (12, (.putfield 397), 3, 12, 65) := by decide +kernel
theorem gx253_0 : aF 0 zM253.2.2.2.2.2.2.2 = some (0, (.aload_n 0), 1, 0, 0) := by decide +kernel
theorem gx253_1 : aF 1 zM253.2.2.2.2.2.2.2 = some (1, (.getfield 170), 3, 12, 62) := by decide +kernel
theorem gx253_4 : aF 4 zM253.2.2.2.2.2.2.2 = some (4, (.sipush 170), 3, 0, 0) := by decide +kernel
theorem gx253_7 : aF 7 zM253.2.2.2.2.2.2.2 = some (7, (.aload_n 0), 1, 0, 0) := by decide +kernel
theorem gx253_8 : aF 8 zM253.2.2.2.2.2.2.2 = some (8, (.getfield 400), 3, 12, 67) := by decide +kernel
theorem gx253_11 : aF 11 zM253.2.2.2.2.2.2.2 = some (11, .imul, 1, 0, 0) := by decide +kernel
theorem gx253_12 : aF 12 zM253.2.2.2.2.2.2.2 = some (12, (.aload_n 0), 1, 0, 0) := by decide +kernel
theorem gx253_13 : aF 13 zM253.2.2.2.2.2.2.2 = some (13, (.getfield 403), 3, 12, 68) := by decide +kernel
theorem gx253_16 : aF 16 zM253.2.2.2.2.2.2.2 = some (16, .iadd, 1, 0, 0) := by decide +kernel
theorem gx253_17 : aF 17 zM253.2.2.2.2.2.2.2 = some (17, (.iload_n 1), 1, 0, 0) := by decide +kernel
theorem gx253_18 : aF 18 zM253.2.2.2.2.2.2.2 = some (18, .iastore, 1, 0, 0) := by decide +kernel
theorem gx253_19 : aF 19 zM253.2.2.2.2.2.2.2 = some (19, (.aload_n 0), 1, 0, 0) := by decide +kernel
theorem gx253_20 : aF 20 zM253.2.2.2.2.2.2.2 = some (20, (.getfield 173), 3, 12, 63) := by decide +kernel
theorem gx253_23 : aF 23 zM253.2.2.2.2.2.2.2 = some (23, (.sipush 170), 3, 0, 0) := by decide +kernel
theorem gx253_26 : aF 26 zM253.2.2.2.2.2.2.2 = some (26, (.aload_n 0), 1, 0, 0) := by decide +kernel
theorem gx253_27 : aF 27 zM253.2.2.2.2.2.2.2 = some (27, (.getfield 400), 3, 12, 67) := by decide +kernel
theorem gx253_30 : aF 30 zM253.2.2.2.2.2.2.2 = some (30, .imul, 1, 0, 0) := by decide +kernel
theorem gx253_31 : aF 31 zM253.2.2.2.2.2.2.2 = some (31, (.aload_n 0), 1, 0, 0) := by decide +kernel
theorem gx253_32 : aF 32 zM253.2.2.2.2.2.2.2 = some (32, (.getfield 403), 3, 12, 68) := by decide +kernel
theorem gx253_35 : aF 35 zM253.2.2.2.2.2.2.2 = some (35, .iadd, 1, 0, 0) := by decide +kernel
theorem gx253_36 : aF 36 zM253.2.2.2.2.2.2.2 = some (36, (.iload_n 2), 1, 0, 0) := by decide +kernel
theorem gx253_37 : aF 37 zM253.2.2.2.2.2.2.2 = some (37, .iastore, 1, 0, 0) := by decide +kernel
theorem gx253_38 : aF 38 zM253.2.2.2.2.2.2.2 = some (38, (.aload_n 0), 1, 0, 0) := by decide +kernel
theorem gx253_39 : aF 39 zM253.2.2.2.2.2.2.2 = some (39, .dup, 1, 0, 0) := by decide +kernel
theorem gx253_40 : aF 40 zM253.2.2.2.2.2.2.2 = some (40, (.getfield 403), 3, 12, 68) := by decide +kernel
theorem gx253_43 : aF 43 zM253.2.2.2.2.2.2.2 = some (43, (.iconst 1), 1, 0, 0) := by decide +kernel
theorem gx253_44 : aF 44 zM253.2.2.2.2.2.2.2 = some (44, .iadd, 1, 0, 0) := by decide +kernel
theorem gx253_45 : aF 45 zM253.2.2.2.2.2.2.2 = some (45, (.putfield 403), 3, 12, 68) := by decide +kernel
theorem gx253_48 : aF 48 zM253.2.2.2.2.2.2.2 = some (48, .return_, 1, 0, 0) := by decide +kernel
theorem gx254_0 : aF 0 zM254.2.2.2.2.2.2.2 = some (0, (.aload_n 0), 1, 0, 0) := by decide +kernel
theorem gx254_1 : aF 1 zM254.2.2.2.2.2.2.2 = some (1, (.getfield 406), 3, 12, 66) := by decide +kernel
theorem gx254_4 : aF 4 zM254.2.2.2.2.2.2.2 = some (4, (.bipush 8), 2, 0, 0) := by decide +kernel
theorem gx254_6 : aF 6 zM254.2.2.2.2.2.2.2 = some (6, (.if_icmp .ne 9), 3, 15, 0) := by decide +kernel
theorem gx254_15 : aF 15 zM254.2.2.2.2.2.2.2 = some (15, (.aload_n 0), 1, 0, 0) := by decide +kernel
theorem gx254_16 : aF 16 zM254.2.2.2.2.2.2.2 = some (16, .dup, 1, 0, 0) := by decide +kernel
theorem gx254_17 : aF 17 zM254.2.2.2.2.2.2.2 = some (17, (.getfield 406), 3, 12, 66) := by decide +kernel
theorem gx254_20 : aF 20 zM254.2.2.2.2.2.2.2 = some (20, (.iconst 1), 1, 0, 0) := by decide +kernel
theorem gx254_21 : aF 21 zM254.2.2.2.2.2.2.2 = some (21, .iadd, 1, 0, 0) := by decide +kernel
theorem gx254_22 : aF 22 zM254.2.2.2.2.2.2.2 = some (22, (.putfield 406), 3, 12, 66) := by decide +kernel
theorem gx254_25 : aF 25 zM254.2.2.2.2.2.2.2 = some (25, (.aload_n 0), 1, 0, 0) := by decide +kernel
theorem gx254_26 : aF 26 zM254.2.2.2.2.2.2.2 = some (26, .dup, 1, 0, 0) := by decide +kernel
theorem gx254_27 : aF 27 zM254.2.2.2.2.2.2.2 = some (27, (.getfield 394), 3, 12, 64) := by decide +kernel
theorem gx254_30 : aF 30 zM254.2.2.2.2.2.2.2 = some (30, (.iconst 1), 1, 0, 0) := by decide +kernel
theorem gx254_31 : aF 31 zM254.2.2.2.2.2.2.2 = some (31, .iadd, 1, 0, 0) := by decide +kernel
theorem gx254_32 : aF 32 zM254.2.2.2.2.2.2.2 = some (32, (.putfield 394), 3, 12, 64) := by decide +kernel
theorem gx254_35 : aF 35 zM254.2.2.2.2.2.2.2 = some (35, (.iconst 1), 1, 0, 0) := by decide +kernel
theorem gx254_36 : aF 36 zM254.2.2.2.2.2.2.2 = some (36, .ireturn, 1, 0, 0) := by decide +kernel
theorem gx254_9 : aF 9 zM254.2.2.2.2.2.2.2 = some (9, (.aload_n 0), 1, 0, 0) := by decide +kernel
theorem gx254_10 : aF 10 zM254.2.2.2.2.2.2.2 = some (10, (.invokevirtual 409), 3, 252, 0) := by decide +kernel
theorem gx254_13 : aF 13 zM254.2.2.2.2.2.2.2 = some (13, (.iconst 0), 1, 0, 0) := by decide +kernel
theorem gx254_14 : aF 14 zM254.2.2.2.2.2.2.2 = some (14, .ireturn, 1, 0, 0) := by decide +kernel
theorem gx255_0 : aF 0 zM255.2.2.2.2.2.2.2 = some (0, (.iload_n 0), 1, 0, 0) := by decide +kernel
theorem gx255_1 : aF 1 zM255.2.2.2.2.2.2.2 = some (1, (.tableswitch 144 98 121 #[141, 121, 144, 129, 117, 119, 144, 144, 138, 113, 126, 135, 144, 144, 132, 144, 144, 115, 123, 144, 144, 144, 144, 111]), 111, 0, 0) := by decide +kernel
theorem gx255_142 : aF 142 zM255.2.2.2.2.2.2.2 = some (142, (.bipush 12), 2, 0, 0) := by decide +kernel
theorem gx255_144 : aF 144 zM255.2.2.2.2.2.2.2 = some (144, .ireturn, 1, 0, 0) := by decide +kernel
theorem gx255_122 : aF 122 zM255.2.2.2.2.2.2.2 = some (122, (.iconst 5), 1, 0, 0) := by decide +kernel
theorem gx255_123 : aF 123 zM255.2.2.2.2.2.2.2 = some (123, .ireturn, 1, 0, 0) := by decide +kernel
theorem gx255_145 : aF 145 zM255.2.2.2.2.2.2.2 = some (145, (.iconst (-1)), 1, 0, 0) := by decide +kernel
theorem gx255_146 : aF 146 zM255.2.2.2.2.2.2.2 = some (146, .ireturn, 1, 0, 0) := by decide +kernel
theorem gx255_130 : aF 130 zM255.2.2.2.2.2.2.2 = some (130, (.bipush 8), 2, 0, 0) := by decide +kernel
theorem gx255_132 : aF 132 zM255.2.2.2.2.2.2.2 = some (132, .ireturn, 1, 0, 0) := by decide +kernel
theorem gx255_118 : aF 118 zM255.2.2.2.2.2.2.2 = some (118, (.iconst 3), 1, 0, 0) := by decide +kernel
theorem gx255_119 : aF 119 zM255.2.2.2.2.2.2.2 = some (119, .ireturn, 1, 0, 0) := by decide +kernel
theorem gx255_120 : aF 120 zM255.2.2.2.2.2.2.2 = some (120, (.iconst 4), 1, 0, 0) := by decide +kernel
theorem gx255_121 : aF 121 zM255.2.2.2.2.2.2.2 = some (121, .ireturn, 1, 0, 0) := by decide +kernel
theorem gx255_139 : aF 139 zM255.2.2.2.2.2.2.2 = some (139, (.bipush 11), 2, 0, 0) := by decide +kernel
theorem gx255_141 : aF 141 zM255.2.2.2.2.2.2.2 = some (141, .ireturn, 1, 0, 0) := by decide +kernel
theorem gx255_114 : aF 114 zM255.2.2.2.2.2.2.2 = some (114, (.iconst 1), 1, 0, 0) := by decide +kernel
theorem gx255_115 : aF 115 zM255.2.2.2.2.2.2.2 = some (115, .ireturn, 1, 0, 0) := by decide +kernel
theorem gx255_127 : aF 127 zM255.2.2.2.2.2.2.2 = some (127, (.bipush 7), 2, 0, 0) := by decide +kernel
theorem gx255_129 : aF 129 zM255.2.2.2.2.2.2.2 = some (129, .ireturn, 1, 0, 0) := by decide +kernel
theorem gx255_136 : aF 136 zM255.2.2.2.2.2.2.2 = some (136, (.bipush 10), 2, 0, 0) := by decide +kernel
theorem gx255_138 : aF 138 zM255.2.2.2.2.2.2.2 = some (138, .ireturn, 1, 0, 0) := by decide +kernel
theorem gx255_133 : aF 133 zM255.2.2.2.2.2.2.2 = some (133, (.bipush 9), 2, 0, 0) := by decide +kernel
theorem gx255_135 : aF 135 zM255.2.2.2.2.2.2.2 = some (135, .ireturn, 1, 0, 0) := by decide +kernel
theorem gx255_116 : aF 116 zM255.2.2.2.2.2.2.2 = some (116, (.iconst 2), 1, 0, 0) := by decide +kernel
theorem gx255_117 : aF 117 zM255.2.2.2.2.2.2.2 = some (117, .ireturn, 1, 0, 0) := by decide +kernel
theorem gx255_124 : aF 124 zM255.2.2.2.2.2.2.2 = some (124, (.bipush 6), 2, 0, 0) := by decide +kernel
theorem gx255_126 : aF 126 zM255.2.2.2.2.2.2.2 = some (126, .ireturn, 1, 0, 0) := by decide +kernel
theorem gx255_112 : aF 112 zM255.2.2.2.2.2.2.2 = some (112, (.iconst 0), 1, 0, 0) := by decide +kernel
theorem gx255_113 : aF 113 zM255.2.2.2.2.2.2.2 = some (113, .ireturn, 1, 0, 0) := by decide +kernel
theorem gx257_0 : aF 0 zM257.2.2.2.2.2.2.2 = some (0, (.aload_n 0), 1, 0, 0) := by decide +kernel
theorem gx257_1 : aF 1 zM257.2.2.2.2.2.2.2 = some (1, (.invokevirtual 424), 3, 256, 0) := by decide +kernel
theorem gx257_4 : aF 4 zM257.2.2.2.2.2.2.2 = some (4, (.aload_n 0), 1, 0, 0) := by decide +kernel
theorem gx257_5 : aF 5 zM257.2.2.2.2.2.2.2 = some (5, (.getfield 397), 3, 12, 65) := by decide +kernel
theorem gx257_8 : aF 8 zM257.2.2.2.2.2.2.2 = some (8, (.ifCond .ge 58), 3, 66, 0) := by decide +kernel
theorem gx257_66 : aF 66 zM257.2.2.2.2.2.2.2 = some (66, .return_, 1, 0, 0) := by decide +kernel
theorem gx257_11 : aF 11 zM257.2.2.2.2.2.2.2 = some (11, (.aload_n 0), 1, 0, 0) := by decide +kernel
theorem gx257_12 : aF 12 zM257.2.2.2.2.2.2.2 = some (12, (.invokevirtual 412), 3, 251, 0) := by decide +kernel
theorem gx257_15 : aF 15 zM257.2.2.2.2.2.2.2 = some (15, (.bipush 42), 2, 0, 0) := by decide +kernel
theorem gx257_17 : aF 17 zM257.2.2.2.2.2.2.2 = some (17, (.if_icmp .eq 21), 3, 38, 0) := by decide +kernel
theorem gx257_38 : aF 38 zM257.2.2.2.2.2.2.2 = some (38, (.aload_n 0), 1, 0, 0) := by decide +kernel
theorem gx257_39 : aF 39 zM257.2.2.2.2.2.2.2 = some (39, (.invokevirtual 412), 3, 251, 0) := by decide +kernel
theorem gx257_42 : aF 42 zM257.2.2.2.2.2.2.2 = some (42, (.istore_n 1), 1, 0, 0) := by decide +kernel
theorem gx257_43 : aF 43 zM257.2.2.2.2.2.2.2 = some (43, (.aload_n 0), 1, 0, 0) := by decide +kernel
theorem gx257_44 : aF 44 zM257.2.2.2.2.2.2.2 = some (44, .dup, 1, 0, 0) := by decide +kernel
theorem gx257_45 : aF 45 zM257.2.2.2.2.2.2.2 = some (45, (.getfield 394), 3, 12, 64) := by decide +kernel
theorem gx257_48 : aF 48 zM257.2.2.2.2.2.2.2 = some (48, (.iconst 1), 1, 0, 0) := by decide +kernel
theorem gx257_49 : aF 49 zM257.2.2.2.2.2.2.2 = some (49, .iadd, 1, 0, 0) := by decide +kernel
theorem gx257_50 : aF 50 zM257.2.2.2.2.2.2.2 = some (50, (.putfield 394), 3, 12, 64) := by decide +kernel
theorem gx257_53 : aF 53 zM257.2.2.2.2.2.2.2 = some (53, (.aload_n 0), 1, 0, 0) := by decide +kernel
theorem gx257_54 : aF 54 zM257.2.2.2.2.2.2.2 = some (54, (.invokevirtual 424), 3, 256, 0) := by decide +kernel
theorem gx257_57 : aF 57 zM257.2.2.2.2.2.2.2 = some (57, (.aload_n 0), 1, 0, 0) := by decide +kernel
theorem gx257_58 : aF 58 zM257.2.2.2.2.2.2.2 = some (58, (.iload_n 1), 1, 0, 0) := by decide +kernel
theorem gx257_59 : aF 59 zM257.2.2.2.2.2.2.2 = some (59, (.iconst 0), 1, 0, 0) := by decide +kernel
theorem gx257_60 : aF 60 zM257.2.2.2.2.2.2.2 = some (60, (.invokevirtual 418), 3, 253, 0) := by decide +kernel
theorem gx257_63 : aF 63 zM257.2.2.2.2.2.2.2 = some (63, (.goto (-59)), 3, 4, 0) := by decide +kernel
theorem gx257_20 : aF 20 zM257.2.2.2.2.2.2.2 = some (20, (.aload_n 0), 1, 0, 0) := by decide +kernel
theorem gx257_21 : aF 21 zM257.2.2.2.2.2.2.2 = some (21, (.invokevirtual 412), 3, 251, 0) := by decide +kernel
theorem gx257_24 : aF 24 zM257.2.2.2.2.2.2.2 = some (24, (.bipush 47), 2, 0, 0) := by decide +kernel
theorem gx257_26 : aF 26 zM257.2.2.2.2.2.2.2 = some (26, (.if_icmp .eq 12), 3, 38, 0) := by decide +kernel
theorem gx257_29 : aF 29 zM257.2.2.2.2.2.2.2 = some (29, (.aload_n 0), 1, 0, 0) := by decide +kernel
theorem gx257_30 : aF 30 zM257.2.2.2.2.2.2.2 = some (30, (.invokevirtual 412), 3, 251, 0) := by decide +kernel
theorem gx257_33 : aF 33 zM257.2.2.2.2.2.2.2 = some (33, (.bipush 37), 2, 0, 0) := by decide +kernel
theorem gx257_35 : aF 35 zM257.2.2.2.2.2.2.2 = some (35, (.if_icmp .ne 31), 3, 66, 0) := by decide +kernel
theorem gx258_0 : aF 0 zM258.2.2.2.2.2.2.2 = some (0, (.aload_n 0), 1, 0, 0) := by decide +kernel
theorem gx258_1 : aF 1 zM258.2.2.2.2.2.2.2 = some (1, (.invokevirtual 430), 3, 257, 0) := by decide +kernel
theorem gx258_4 : aF 4 zM258.2.2.2.2.2.2.2 = some (4, (.aload_n 0), 1, 0, 0) := by decide +kernel
theorem gx258_5 : aF 5 zM258.2.2.2.2.2.2.2 = some (5, (.getfield 397), 3, 12, 65) := by decide +kernel
theorem gx258_8 : aF 8 zM258.2.2.2.2.2.2.2 = some (8, (.ifCond .ge 49), 3, 57, 0) := by decide +kernel
theorem gx258_57 : aF 57 zM258.2.2.2.2.2.2.2 = some (57, .return_, 1, 0, 0) := by decide +kernel
theorem gx258_11 : aF 11 zM258.2.2.2.2.2.2.2 = some (11, (.aload_n 0), 1, 0, 0) := by decide +kernel
theorem gx258_12 : aF 12 zM258.2.2.2.2.2.2.2 = some (12, (.invokevirtual 412), 3, 251, 0) := by decide +kernel
theorem gx258_15 : aF 15 zM258.2.2.2.2.2.2.2 = some (15, (.bipush 43), 2, 0, 0) := by decide +kernel
theorem gx258_17 : aF 17 zM258.2.2.2.2.2.2.2 = some (17, (.if_icmp .eq 12), 3, 29, 0) := by decide +kernel
theorem gx258_29 : aF 29 zM258.2.2.2.2.2.2.2 = some (29, (.aload_n 0), 1, 0, 0) := by decide +kernel
theorem gx258_30 : aF 30 zM258.2.2.2.2.2.2.2 = some (30, (.invokevirtual 412), 3, 251, 0) := by decide +kernel
theorem gx258_33 : aF 33 zM258.2.2.2.2.2.2.2 = some (33, (.istore_n 1), 1, 0, 0) := by decide +kernel
theorem gx258_34 : aF 34 zM258.2.2.2.2.2.2.2 = some (34, (.aload_n 0), 1, 0, 0) := by decide +kernel
theorem gx258_35 : aF 35 zM258.2.2.2.2.2.2.2 = some (35, .dup, 1, 0, 0) := by decide +kernel
theorem gx258_36 : aF 36 zM258.2.2.2.2.2.2.2 = some (36, (.getfield 394), 3, 12, 64) := by decide +kernel
theorem gx258_39 : aF 39 zM258.2.2.2.2.2.2.2 = some (39, (.iconst 1), 1, 0, 0) := by decide +kernel
theorem gx258_40 : aF 40 zM258.2.2.2.2.2.2.2 = some (40, .iadd, 1, 0, 0) := by decide +kernel
theorem gx258_41 : aF 41 zM258.2.2.2.2.2.2.2 = some (41, (.putfield 394), 3, 12, 64) := by decide +kernel
theorem gx258_44 : aF 44 zM258.2.2.2.2.2.2.2 = some (44, (.aload_n 0), 1, 0, 0) := by decide +kernel
theorem gx258_45 : aF 45 zM258.2.2.2.2.2.2.2 = some (45, (.invokevirtual 430), 3, 257, 0) := by decide +kernel
theorem gx258_48 : aF 48 zM258.2.2.2.2.2.2.2 = some (48, (.aload_n 0), 1, 0, 0) := by decide +kernel
theorem gx258_49 : aF 49 zM258.2.2.2.2.2.2.2 = some (49, (.iload_n 1), 1, 0, 0) := by decide +kernel
theorem gx258_50 : aF 50 zM258.2.2.2.2.2.2.2 = some (50, (.iconst 0), 1, 0, 0) := by decide +kernel
theorem gx258_51 : aF 51 zM258.2.2.2.2.2.2.2 = some (51, (.invokevirtual 418), 3, 253, 0) := by decide +kernel
theorem gx258_54 : aF 54 zM258.2.2.2.2.2.2.2 = some (54, (.goto (-50)), 3, 4, 0) := by decide +kernel
theorem gx258_20 : aF 20 zM258.2.2.2.2.2.2.2 = some (20, (.aload_n 0), 1, 0, 0) := by decide +kernel
theorem gx258_21 : aF 21 zM258.2.2.2.2.2.2.2 = some (21, (.invokevirtual 412), 3, 251, 0) := by decide +kernel
theorem gx258_24 : aF 24 zM258.2.2.2.2.2.2.2 = some (24, (.bipush 45), 2, 0, 0) := by decide +kernel
theorem gx258_26 : aF 26 zM258.2.2.2.2.2.2.2 = some (26, (.if_icmp .ne 31), 3, 57, 0) := by decide +kernel
theorem gx260_0 : aF 0 zM260.2.2.2.2.2.2.2 = some (0, (.aload_n 0), 1, 0, 0) := by decide +kernel
theorem gx260_1 : aF 1 zM260.2.2.2.2.2.2.2 = some (1, (.invokevirtual 436), 3, 259, 0) := by decide +kernel
theorem gx260_4 : aF 4 zM260.2.2.2.2.2.2.2 = some (4, (.aload_n 0), 1, 0, 0) := by decide +kernel
theorem gx260_5 : aF 5 zM260.2.2.2.2.2.2.2 = some (5, (.getfield 397), 3, 12, 65) := by decide +kernel
theorem gx260_8 : aF 8 zM260.2.2.2.2.2.2.2 = some (8, (.ifCond .ge 36), 3, 44, 0) := by decide +kernel
theorem gx260_44 : aF 44 zM260.2.2.2.2.2.2.2 = some (44, .return_, 1, 0, 0) := by decide +kernel
theorem gx260_11 : aF 11 zM260.2.2.2.2.2.2.2 = some (11, (.aload_n 0), 1, 0, 0) := by decide +kernel
theorem gx260_12 : aF 12 zM260.2.2.2.2.2.2.2 = some (12, (.invokevirtual 412), 3, 251, 0) := by decide +kernel
theorem gx260_15 : aF 15 zM260.2.2.2.2.2.2.2 = some (15, (.bipush 38), 2, 0, 0) := by decide +kernel
theorem gx260_17 : aF 17 zM260.2.2.2.2.2.2.2 = some (17, (.if_icmp .ne 27), 3, 44, 0) := by decide +kernel
theorem gx260_20 : aF 20 zM260.2.2.2.2.2.2.2 = some (20, (.aload_n 0), 1, 0, 0) := by decide +kernel
theorem gx260_21 : aF 21 zM260.2.2.2.2.2.2.2 = some (21, .dup, 1, 0, 0) := by decide +kernel
theorem gx260_22 : aF 22 zM260.2.2.2.2.2.2.2 = some (22, (.getfield 394), 3, 12, 64) := by decide +kernel
theorem gx260_25 : aF 25 zM260.2.2.2.2.2.2.2 = some (25, (.iconst 1), 1, 0, 0) := by decide +kernel
theorem gx260_26 : aF 26 zM260.2.2.2.2.2.2.2 = some (26, .iadd, 1, 0, 0) := by decide +kernel
theorem gx260_27 : aF 27 zM260.2.2.2.2.2.2.2 = some (27, (.putfield 394), 3, 12, 64) := by decide +kernel
theorem gx260_30 : aF 30 zM260.2.2.2.2.2.2.2 = some (30, (.aload_n 0), 1, 0, 0) := by decide +kernel
theorem gx260_31 : aF 31 zM260.2.2.2.2.2.2.2 = some (31, (.invokevirtual 436), 3, 259, 0) := by decide +kernel
theorem gx260_34 : aF 34 zM260.2.2.2.2.2.2.2 = some (34, (.aload_n 0), 1, 0, 0) := by decide +kernel
theorem gx260_35 : aF 35 zM260.2.2.2.2.2.2.2 = some (35, (.bipush 38), 2, 0, 0) := by decide +kernel
theorem gx260_37 : aF 37 zM260.2.2.2.2.2.2.2 = some (37, (.iconst 0), 1, 0, 0) := by decide +kernel
theorem gx260_38 : aF 38 zM260.2.2.2.2.2.2.2 = some (38, (.invokevirtual 418), 3, 253, 0) := by decide +kernel
theorem gx260_41 : aF 41 zM260.2.2.2.2.2.2.2 = some (41, (.goto (-37)), 3, 4, 0) := by decide +kernel
theorem gx261_0 : aF 0 zM261.2.2.2.2.2.2.2 = some (0, (.aload_n 0), 1, 0, 0) := by decide +kernel
theorem gx261_1 : aF 1 zM261.2.2.2.2.2.2.2 = some (1, (.invokevirtual 439), 3, 260, 0) := by decide +kernel
theorem gx261_4 : aF 4 zM261.2.2.2.2.2.2.2 = some (4, (.aload_n 0), 1, 0, 0) := by decide +kernel
theorem gx261_5 : aF 5 zM261.2.2.2.2.2.2.2 = some (5, (.getfield 397), 3, 12, 65) := by decide +kernel
theorem gx261_8 : aF 8 zM261.2.2.2.2.2.2.2 = some (8, (.ifCond .ge 36), 3, 44, 0) := by decide +kernel
theorem gx261_44 : aF 44 zM261.2.2.2.2.2.2.2 = some (44, .return_, 1, 0, 0) := by decide +kernel
theorem gx261_11 : aF 11 zM261.2.2.2.2.2.2.2 = some (11, (.aload_n 0), 1, 0, 0) := by decide +kernel
theorem gx261_12 : aF 12 zM261.2.2.2.2.2.2.2 = some (12, (.invokevirtual 412), 3, 251, 0) := by decide +kernel
theorem gx261_15 : aF 15 zM261.2.2.2.2.2.2.2 = some (15, (.bipush 124), 2, 0, 0) := by decide +kernel
theorem gx261_17 : aF 17 zM261.2.2.2.2.2.2.2 = some (17, (.if_icmp .ne 27), 3, 44, 0) := by decide +kernel
theorem gx261_20 : aF 20 zM261.2.2.2.2.2.2.2 = some (20, (.aload_n 0), 1, 0, 0) := by decide +kernel
theorem gx261_21 : aF 21 zM261.2.2.2.2.2.2.2 = some (21, .dup, 1, 0, 0) := by decide +kernel
theorem gx261_22 : aF 22 zM261.2.2.2.2.2.2.2 = some (22, (.getfield 394), 3, 12, 64) := by decide +kernel
theorem gx261_25 : aF 25 zM261.2.2.2.2.2.2.2 = some (25, (.iconst 1), 1, 0, 0) := by decide +kernel
theorem gx261_26 : aF 26 zM261.2.2.2.2.2.2.2 = some (26, .iadd, 1, 0, 0) := by decide +kernel
theorem gx261_27 : aF 27 zM261.2.2.2.2.2.2.2 = some (27, (.putfield 394), 3, 12, 64) := by decide +kernel
theorem gx261_30 : aF 30 zM261.2.2.2.2.2.2.2 = some (30, (.aload_n 0), 1, 0, 0) := by decide +kernel
theorem gx261_31 : aF 31 zM261.2.2.2.2.2.2.2 = some (31, (.invokevirtual 439), 3, 260, 0) := by decide +kernel
theorem gx261_34 : aF 34 zM261.2.2.2.2.2.2.2 = some (34, (.aload_n 0), 1, 0, 0) := by decide +kernel
theorem gx261_35 : aF 35 zM261.2.2.2.2.2.2.2 = some (35, (.bipush 124), 2, 0, 0) := by decide +kernel
theorem gx261_37 : aF 37 zM261.2.2.2.2.2.2.2 = some (37, (.iconst 0), 1, 0, 0) := by decide +kernel
theorem gx261_38 : aF 38 zM261.2.2.2.2.2.2.2 = some (38, (.invokevirtual 418), 3, 253, 0) := by decide +kernel
theorem gx261_41 : aF 41 zM261.2.2.2.2.2.2.2 = some (41, (.goto (-37)), 3, 4, 0) := by decide +kernel
theorem gx259_0 : aF 0 zM259.2.2.2.2.2.2.2 = some (0, (.aload_n 0), 1, 0, 0) := by decide +kernel
theorem gx259_1 : aF 1 zM259.2.2.2.2.2.2.2 = some (1, (.invokevirtual 433), 3, 258, 0) := by decide +kernel
theorem gx259_4 : aF 4 zM259.2.2.2.2.2.2.2 = some (4, (.aload_n 0), 1, 0, 0) := by decide +kernel
theorem gx259_5 : aF 5 zM259.2.2.2.2.2.2.2 = some (5, (.invokevirtual 412), 3, 251, 0) := by decide +kernel
theorem gx259_8 : aF 8 zM259.2.2.2.2.2.2.2 = some (8, (.istore_n 1), 1, 0, 0) := by decide +kernel
theorem gx259_9 : aF 9 zM259.2.2.2.2.2.2.2 = some (9, (.aload_n 0), 1, 0, 0) := by decide +kernel
theorem gx259_10 : aF 10 zM259.2.2.2.2.2.2.2 = some (10, (.getfield 397), 3, 12, 65) := by decide +kernel
theorem gx259_13 : aF 13 zM259.2.2.2.2.2.2.2 = some (13, (.ifCond .ge 21), 3, 34, 0) := by decide +kernel
theorem gx259_34 : aF 34 zM259.2.2.2.2.2.2.2 = some (34, .return_, 1, 0, 0) := by decide +kernel
theorem gx259_16 : aF 16 zM259.2.2.2.2.2.2.2 = some (16, (.iload_n 1), 1, 0, 0) := by decide +kernel
theorem gx259_17 : aF 17 zM259.2.2.2.2.2.2.2 = some (17, (.bipush 60), 2, 0, 0) := by decide +kernel
theorem gx259_19 : aF 19 zM259.2.2.2.2.2.2.2 = some (19, (.if_icmp .eq 16), 3, 35, 0) := by decide +kernel
theorem gx259_35 : aF 35 zM259.2.2.2.2.2.2.2 = some (35, (.aload_n 0), 1, 0, 0) := by decide +kernel
theorem gx259_36 : aF 36 zM259.2.2.2.2.2.2.2 = some (36, .dup, 1, 0, 0) := by decide +kernel
theorem gx259_37 : aF 37 zM259.2.2.2.2.2.2.2 = some (37, (.getfield 394), 3, 12, 64) := by decide +kernel
theorem gx259_40 : aF 40 zM259.2.2.2.2.2.2.2 = some (40, (.iconst 1), 1, 0, 0) := by decide +kernel
theorem gx259_41 : aF 41 zM259.2.2.2.2.2.2.2 = some (41, .iadd, 1, 0, 0) := by decide +kernel
theorem gx259_42 : aF 42 zM259.2.2.2.2.2.2.2 = some (42, (.putfield 394), 3, 12, 64) := by decide +kernel
theorem gx259_45 : aF 45 zM259.2.2.2.2.2.2.2 = some (45, (.aload_n 0), 1, 0, 0) := by decide +kernel
theorem gx259_46 : aF 46 zM259.2.2.2.2.2.2.2 = some (46, (.invokevirtual 433), 3, 258, 0) := by decide +kernel
theorem gx259_49 : aF 49 zM259.2.2.2.2.2.2.2 = some (49, (.aload_n 0), 1, 0, 0) := by decide +kernel
theorem gx259_50 : aF 50 zM259.2.2.2.2.2.2.2 = some (50, (.iload_n 1), 1, 0, 0) := by decide +kernel
theorem gx259_51 : aF 51 zM259.2.2.2.2.2.2.2 = some (51, (.iconst 0), 1, 0, 0) := by decide +kernel
theorem gx259_52 : aF 52 zM259.2.2.2.2.2.2.2 = some (52, (.invokevirtual 418), 3, 253, 0) := by decide +kernel
theorem gx259_55 : aF 55 zM259.2.2.2.2.2.2.2 = some (55, .return_, 1, 0, 0) := by decide +kernel
theorem gx259_22 : aF 22 zM259.2.2.2.2.2.2.2 = some (22, (.iload_n 1), 1, 0, 0) := by decide +kernel
theorem gx259_23 : aF 23 zM259.2.2.2.2.2.2.2 = some (23, (.bipush 61), 2, 0, 0) := by decide +kernel
theorem gx259_25 : aF 25 zM259.2.2.2.2.2.2.2 = some (25, (.if_icmp .eq 10), 3, 35, 0) := by decide +kernel
theorem gx259_28 : aF 28 zM259.2.2.2.2.2.2.2 = some (28, (.iload_n 1), 1, 0, 0) := by decide +kernel
theorem gx259_29 : aF 29 zM259.2.2.2.2.2.2.2 = some (29, (.bipush 62), 2, 0, 0) := by decide +kernel
theorem gx259_31 : aF 31 zM259.2.2.2.2.2.2.2 = some (31, (.if_icmp .eq 4), 3, 35, 0) := by decide +kernel
theorem gx256_0 : aF 0 zM256.2.2.2.2.2.2.2 = some (0, (.aload_n 0), 1, 0, 0) := by decide +kernel
theorem gx256_1 : aF 1 zM256.2.2.2.2.2.2.2 = some (1, (.invokevirtual 412), 3, 251, 0) := by decide +kernel
theorem gx256_4 : aF 4 zM256.2.2.2.2.2.2.2 = some (4, (.istore_n 1), 1, 0, 0) := by decide +kernel
theorem gx256_5 : aF 5 zM256.2.2.2.2.2.2.2 = some (5, (.iload_n 1), 1, 0, 0) := by decide +kernel
theorem gx256_6 : aF 6 zM256.2.2.2.2.2.2.2 = some (6, (.invokestatic 415), 3, 255, 0) := by decide +kernel
theorem gx256_9 : aF 9 zM256.2.2.2.2.2.2.2 = some (9, (.ifCond .lt 23), 3, 32, 0) := by decide +kernel
theorem gx256_32 : aF 32 zM256.2.2.2.2.2.2.2 = some (32, (.iload_n 1), 1, 0, 0) := by decide +kernel
theorem gx256_33 : aF 33 zM256.2.2.2.2.2.2.2 = some (33, (.bipush 33), 2, 0, 0) := by decide +kernel
theorem gx256_35 : aF 35 zM256.2.2.2.2.2.2.2 = some (35, (.if_icmp .eq 9), 3, 44, 0) := by decide +kernel
theorem gx256_44 : aF 44 zM256.2.2.2.2.2.2.2 = some (44, (.aload_n 0), 1, 0, 0) := by decide +kernel
theorem gx256_45 : aF 45 zM256.2.2.2.2.2.2.2 = some (45, (.invokevirtual 421), 3, 254, 0) := by decide +kernel
theorem gx256_48 : aF 48 zM256.2.2.2.2.2.2.2 = some (48, (.ifCond .ne 4), 3, 52, 0) := by decide +kernel
theorem gx256_52 : aF 52 zM256.2.2.2.2.2.2.2 = some (52, (.aload_n 0), 1, 0, 0) := by decide +kernel
theorem gx256_53 : aF 53 zM256.2.2.2.2.2.2.2 = some (53, (.invokevirtual 424), 3, 256, 0) := by decide +kernel
theorem gx256_56 : aF 56 zM256.2.2.2.2.2.2.2 = some (56, (.aload_n 0), 1, 0, 0) := by decide +kernel
theorem gx256_57 : aF 57 zM256.2.2.2.2.2.2.2 = some (57, .dup, 1, 0, 0) := by decide +kernel
theorem gx256_58 : aF 58 zM256.2.2.2.2.2.2.2 = some (58, (.getfield 406), 3, 12, 66) := by decide +kernel
theorem gx256_61 : aF 61 zM256.2.2.2.2.2.2.2 = some (61, (.iconst 1), 1, 0, 0) := by decide +kernel
theorem gx256_62 : aF 62 zM256.2.2.2.2.2.2.2 = some (62, .isub, 1, 0, 0) := by decide +kernel
theorem gx256_63 : aF 63 zM256.2.2.2.2.2.2.2 = some (63, (.putfield 406), 3, 12, 66) := by decide +kernel
theorem gx256_66 : aF 66 zM256.2.2.2.2.2.2.2 = some (66, (.aload_n 0), 1, 0, 0) := by decide +kernel
theorem gx256_67 : aF 67 zM256.2.2.2.2.2.2.2 = some (67, (.iload_n 1), 1, 0, 0) := by decide +kernel
theorem gx256_68 : aF 68 zM256.2.2.2.2.2.2.2 = some (68, (.bipush 33), 2, 0, 0) := by decide +kernel
theorem gx256_70 : aF 70 zM256.2.2.2.2.2.2.2 = some (70, (.if_icmp .ne 7), 3, 77, 0) := by decide +kernel
theorem gx256_77 : aF 77 zM256.2.2.2.2.2.2.2 = some (77, (.iconst 4), 1, 0, 0) := by decide +kernel
theorem gx256_78 : aF 78 zM256.2.2.2.2.2.2.2 = some (78, (.iconst 0), 1, 0, 0) := by decide +kernel
theorem gx256_79 : aF 79 zM256.2.2.2.2.2.2.2 = some (79, (.invokevirtual 418), 3, 253, 0) := by decide +kernel
theorem gx256_82 : aF 82 zM256.2.2.2.2.2.2.2 = some (82, .return_, 1, 0, 0) := by decide +kernel
theorem gx256_73 : aF 73 zM256.2.2.2.2.2.2.2 = some (73, (.iconst 3), 1, 0, 0) := by decide +kernel
theorem gx256_74 : aF 74 zM256.2.2.2.2.2.2.2 = some (74, (.goto 4), 3, 78, 0) := by decide +kernel
theorem gx256_51 : aF 51 zM256.2.2.2.2.2.2.2 = some (51, .return_, 1, 0, 0) := by decide +kernel
theorem gx256_38 : aF 38 zM256.2.2.2.2.2.2.2 = some (38, (.iload_n 1), 1, 0, 0) := by decide +kernel
theorem gx256_39 : aF 39 zM256.2.2.2.2.2.2.2 = some (39, (.bipush 45), 2, 0, 0) := by decide +kernel
theorem gx256_41 : aF 41 zM256.2.2.2.2.2.2.2 = some (41, (.if_icmp .ne 42), 3, 83, 0) := by decide +kernel
theorem gx256_83 : aF 83 zM256.2.2.2.2.2.2.2 = some (83, (.iload_n 1), 1, 0, 0) := by decide +kernel
theorem gx256_84 : aF 84 zM256.2.2.2.2.2.2.2 = some (84, (.bipush 40), 2, 0, 0) := by decide +kernel
theorem gx256_86 : aF 86 zM256.2.2.2.2.2.2.2 = some (86, (.if_icmp .ne 58), 3, 144, 0) := by decide +kernel
theorem gx256_144 : aF 144 zM256.2.2.2.2.2.2.2 = some (144, (.iconst 0), 1, 0, 0) := by decide +kernel
theorem gx256_145 : aF 145 zM256.2.2.2.2.2.2.2 = some (145, (.istore_n 2), 1, 0, 0) := by decide +kernel
theorem gx256_146 : aF 146 zM256.2.2.2.2.2.2.2 = some (146, (.iconst 0), 1, 0, 0) := by decide +kernel
theorem gx256_147 : aF 147 zM256.2.2.2.2.2.2.2 = some (147, (.istore_n 3), 1, 0, 0) := by decide +kernel
theorem gx256_89 : aF 89 zM256.2.2.2.2.2.2.2 = some (89, (.aload_n 0), 1, 0, 0) := by decide +kernel
theorem gx256_90 : aF 90 zM256.2.2.2.2.2.2.2 = some (90, (.invokevirtual 421), 3, 254, 0) := by decide +kernel
theorem gx256_93 : aF 93 zM256.2.2.2.2.2.2.2 = some (93, (.ifCond .ne 4), 3, 97, 0) := by decide +kernel
theorem gx256_97 : aF 97 zM256.2.2.2.2.2.2.2 = some (97, (.aload_n 0), 1, 0, 0) := by decide +kernel
theorem gx256_98 : aF 98 zM256.2.2.2.2.2.2.2 = some (98, (.invokevirtual 427), 3, 261, 0) := by decide +kernel
theorem gx256_101 : aF 101 zM256.2.2.2.2.2.2.2 = some (101, (.aload_n 0), 1, 0, 0) := by decide +kernel
theorem gx256_102 : aF 102 zM256.2.2.2.2.2.2.2 = some (102, (.getfield 397), 3, 12, 65) := by decide +kernel
theorem gx256_105 : aF 105 zM256.2.2.2.2.2.2.2 = some (105, (.ifCond .lt 4), 3, 109, 0) := by decide +kernel
theorem gx256_109 : aF 109 zM256.2.2.2.2.2.2.2 = some (109, (.aload_n 0), 1, 0, 0) := by decide +kernel
theorem gx256_110 : aF 110 zM256.2.2.2.2.2.2.2 = some (110, (.invokevirtual 412), 3, 251, 0) := by decide +kernel
theorem gx256_113 : aF 113 zM256.2.2.2.2.2.2.2 = some (113, (.bipush 41), 2, 0, 0) := by decide +kernel
theorem gx256_115 : aF 115 zM256.2.2.2.2.2.2.2 = some (115, (.if_icmp .eq 8), 3, 123, 0) := by decide +kernel
theorem gx256_123 : aF 123 zM256.2.2.2.2.2.2.2 = some (123, (.aload_n 0), 1, 0, 0) := by decide +kernel
theorem gx256_124 : aF 124 zM256.2.2.2.2.2.2.2 = some (124, .dup, 1, 0, 0) := by decide +kernel
theorem gx256_125 : aF 125 zM256.2.2.2.2.2.2.2 = some (125, (.getfield 406), 3, 12, 66) := by decide +kernel
theorem gx256_128 : aF 128 zM256.2.2.2.2.2.2.2 = some (128, (.iconst 1), 1, 0, 0) := by decide +kernel
theorem gx256_129 : aF 129 zM256.2.2.2.2.2.2.2 = some (129, .isub, 1, 0, 0) := by decide +kernel
theorem gx256_130 : aF 130 zM256.2.2.2.2.2.2.2 = some (130, (.putfield 406), 3, 12, 66) := by decide +kernel
theorem gx256_133 : aF 133 zM256.2.2.2.2.2.2.2 = some (133, (.aload_n 0), 1, 0, 0) := by decide +kernel
theorem gx256_134 : aF 134 zM256.2.2.2.2.2.2.2 = some (134, .dup, 1, 0, 0) := by decide +kernel
theorem gx256_135 : aF 135 zM256.2.2.2.2.2.2.2 = some (135, (.getfield 394), 3, 12, 64) := by decide +kernel
theorem gx256_138 : aF 138 zM256.2.2.2.2.2.2.2 = some (138, (.iconst 1), 1, 0, 0) := by decide +kernel
theorem gx256_139 : aF 139 zM256.2.2.2.2.2.2.2 = some (139, .iadd, 1, 0, 0) := by decide +kernel
theorem gx256_140 : aF 140 zM256.2.2.2.2.2.2.2 = some (140, (.putfield 394), 3, 12, 64) := by decide +kernel
theorem gx256_143 : aF 143 zM256.2.2.2.2.2.2.2 = some (143, .return_, 1, 0, 0) := by decide +kernel
theorem gx256_118 : aF 118 zM256.2.2.2.2.2.2.2 = some (118, (.aload_n 0), 1, 0, 0) := by decide +kernel
theorem gx256_119 : aF 119 zM256.2.2.2.2.2.2.2 = some (119, (.invokevirtual 409), 3, 252, 0) := by decide +kernel
theorem gx256_122 : aF 122 zM256.2.2.2.2.2.2.2 = some (122, .return_, 1, 0, 0) := by decide +kernel
theorem gx256_108 : aF 108 zM256.2.2.2.2.2.2.2 = some (108, .return_, 1, 0, 0) := by decide +kernel
theorem gx256_96 : aF 96 zM256.2.2.2.2.2.2.2 = some (96, .return_, 1, 0, 0) := by decide +kernel
theorem gx256_12 : aF 12 zM256.2.2.2.2.2.2.2 = some (12, (.aload_n 0), 1, 0, 0) := by decide +kernel
theorem gx256_13 : aF 13 zM256.2.2.2.2.2.2.2 = some (13, (.iconst 2), 1, 0, 0) := by decide +kernel
theorem gx256_14 : aF 14 zM256.2.2.2.2.2.2.2 = some (14, (.iload_n 1), 1, 0, 0) := by decide +kernel
theorem gx256_15 : aF 15 zM256.2.2.2.2.2.2.2 = some (15, (.invokestatic 415), 3, 255, 0) := by decide +kernel
theorem gx256_18 : aF 18 zM256.2.2.2.2.2.2.2 = some (18, (.invokevirtual 418), 3, 253, 0) := by decide +kernel
theorem gx256_21 : aF 21 zM256.2.2.2.2.2.2.2 = some (21, (.aload_n 0), 1, 0, 0) := by decide +kernel
theorem gx256_22 : aF 22 zM256.2.2.2.2.2.2.2 = some (22, .dup, 1, 0, 0) := by decide +kernel
theorem gx256_23 : aF 23 zM256.2.2.2.2.2.2.2 = some (23, (.getfield 394), 3, 12, 64) := by decide +kernel
theorem gx256_26 : aF 26 zM256.2.2.2.2.2.2.2 = some (26, (.iconst 1), 1, 0, 0) := by decide +kernel
theorem gx256_27 : aF 27 zM256.2.2.2.2.2.2.2 = some (27, .iadd, 1, 0, 0) := by decide +kernel
theorem gx256_28 : aF 28 zM256.2.2.2.2.2.2.2 = some (28, (.putfield 394), 3, 12, 64) := by decide +kernel
theorem gx256_31 : aF 31 zM256.2.2.2.2.2.2.2 = some (31, .return_, 1, 0, 0) := by decide +kernel
theorem gx256_148 : aF 148 zM256.2.2.2.2.2.2.2 = some (148, (.iload_n 2), 1, 0, 0) := by decide +kernel
theorem gx256_149 : aF 149 zM256.2.2.2.2.2.2.2 = some (149, (.bipush 6), 2, 0, 0) := by decide +kernel
theorem gx256_151 : aF 151 zM256.2.2.2.2.2.2.2 = some (151, (.if_icmp .ge 46), 3, 197, 0) := by decide +kernel
theorem gx256_197 : aF 197 zM256.2.2.2.2.2.2.2 = some (197, (.iload_n 2), 1, 0, 0) := by decide +kernel
theorem gx256_198 : aF 198 zM256.2.2.2.2.2.2.2 = some (198, (.ifCond .eq 17), 3, 215, 0) := by decide +kernel
theorem gx256_215 : aF 215 zM256.2.2.2.2.2.2.2 = some (215, (.aload_n 0), 1, 0, 0) := by decide +kernel
theorem gx256_216 : aF 216 zM256.2.2.2.2.2.2.2 = some (216, (.invokevirtual 409), 3, 252, 0) := by decide +kernel
theorem gx256_219 : aF 219 zM256.2.2.2.2.2.2.2 = some (219, (.goto 9), 3, 228, 0) := by decide +kernel
theorem gx256_228 : aF 228 zM256.2.2.2.2.2.2.2 = some (228, .return_, 1, 0, 0) := by decide +kernel
theorem gx256_201 : aF 201 zM256.2.2.2.2.2.2.2 = some (201, (.aload_n 0), 1, 0, 0) := by decide +kernel
theorem gx256_202 : aF 202 zM256.2.2.2.2.2.2.2 = some (202, (.invokevirtual 412), 3, 251, 0) := by decide +kernel
theorem gx256_205 : aF 205 zM256.2.2.2.2.2.2.2 = some (205, (.bipush 48), 2, 0, 0) := by decide +kernel
theorem gx256_207 : aF 207 zM256.2.2.2.2.2.2.2 = some (207, (.bipush 57), 2, 0, 0) := by decide +kernel
theorem gx256_209 : aF 209 zM256.2.2.2.2.2.2.2 = some (209, (.invokestatic 258), 3, 196, 0) := by decide +kernel
theorem gx256_212 : aF 212 zM256.2.2.2.2.2.2.2 = some (212, (.ifCond .eq 10), 3, 222, 0) := by decide +kernel
theorem gx256_222 : aF 222 zM256.2.2.2.2.2.2.2 = some (222, (.aload_n 0), 1, 0, 0) := by decide +kernel
theorem gx256_223 : aF 223 zM256.2.2.2.2.2.2.2 = some (223, (.iconst 1), 1, 0, 0) := by decide +kernel
theorem gx256_224 : aF 224 zM256.2.2.2.2.2.2.2 = some (224, (.iload_n 3), 1, 0, 0) := by decide +kernel
theorem gx256_225 : aF 225 zM256.2.2.2.2.2.2.2 = some (225, (.invokevirtual 418), 3, 253, 0) := by decide +kernel
theorem gx256_154 : aF 154 zM256.2.2.2.2.2.2.2 = some (154, (.aload_n 0), 1, 0, 0) := by decide +kernel
theorem gx256_155 : aF 155 zM256.2.2.2.2.2.2.2 = some (155, (.invokevirtual 412), 3, 251, 0) := by decide +kernel
theorem gx256_158 : aF 158 zM256.2.2.2.2.2.2.2 = some (158, (.bipush 48), 2, 0, 0) := by decide +kernel
theorem gx256_160 : aF 160 zM256.2.2.2.2.2.2.2 = some (160, (.bipush 57), 2, 0, 0) := by decide +kernel
theorem gx256_162 : aF 162 zM256.2.2.2.2.2.2.2 = some (162, (.invokestatic 258), 3, 196, 0) := by decide +kernel
theorem gx256_165 : aF 165 zM256.2.2.2.2.2.2.2 = some (165, (.ifCond .eq 32), 3, 197, 0) := by decide +kernel
theorem gx256_168 : aF 168 zM256.2.2.2.2.2.2.2 = some (168, (.bipush 10), 2, 0, 0) := by decide +kernel
theorem gx256_170 : aF 170 zM256.2.2.2.2.2.2.2 = some (170, (.iload_n 3), 1, 0, 0) := by decide +kernel
theorem gx256_171 : aF 171 zM256.2.2.2.2.2.2.2 = some (171, .imul, 1, 0, 0) := by decide +kernel
theorem gx256_172 : aF 172 zM256.2.2.2.2.2.2.2 = some (172, (.aload_n 0), 1, 0, 0) := by decide +kernel
theorem gx256_173 : aF 173 zM256.2.2.2.2.2.2.2 = some (173, (.invokevirtual 412), 3, 251, 0) := by decide +kernel
theorem gx256_176 : aF 176 zM256.2.2.2.2.2.2.2 = some (176, .iadd, 1, 0, 0) := by decide +kernel
theorem gx256_177 : aF 177 zM256.2.2.2.2.2.2.2 = some (177, (.bipush 48), 2, 0, 0) := by decide +kernel
theorem gx256_179 : aF 179 zM256.2.2.2.2.2.2.2 = some (179, .isub, 1, 0, 0) := by decide +kernel
theorem gx256_180 : aF 180 zM256.2.2.2.2.2.2.2 = some (180, (.istore_n 3), 1, 0, 0) := by decide +kernel
theorem gx256_181 : aF 181 zM256.2.2.2.2.2.2.2 = some (181, (.iinc 2 1), 3, 0, 0) := by decide +kernel
theorem gx256_184 : aF 184 zM256.2.2.2.2.2.2.2 = some (184, (.aload_n 0), 1, 0, 0) := by decide +kernel
theorem gx256_185 : aF 185 zM256.2.2.2.2.2.2.2 = some (185, .dup, 1, 0, 0) := by decide +kernel
theorem gx256_186 : aF 186 zM256.2.2.2.2.2.2.2 = some (186, (.getfield 394), 3, 12, 64) := by decide +kernel
theorem gx256_189 : aF 189 zM256.2.2.2.2.2.2.2 = some (189, (.iconst 1), 1, 0, 0) := by decide +kernel
theorem gx256_190 : aF 190 zM256.2.2.2.2.2.2.2 = some (190, .iadd, 1, 0, 0) := by decide +kernel
theorem gx256_191 : aF 191 zM256.2.2.2.2.2.2.2 = some (191, (.putfield 394), 3, 12, 64) := by decide +kernel
theorem gx256_194 : aF 194 zM256.2.2.2.2.2.2.2 = some (194, (.goto (-46)), 3, 148, 0) := by decide +kernel
theorem d251_0 {n : Nat} {X : aX} {h : aH} {P : Int → aH → Prop} (S : wS h) (H : ((vw h 72 54 ≤ vw h 72 64 → P (-1) h) ∧ (vw h 72 64 < vw h 72 54 → (0 ≤ vw h 72 64 → vw h 72 64 < 160 → P (vw h 115 (vw h 72 64)) h)))) : Pt (n + 1) X zM251 0 [some (.ref 72)] [] h (qI P) := by
  refine pt_1 (fun n d => r_aloadn gx251_0 rfl) ?_
  refine pt_d (pt_getI (B := 64) gx251_1 S (fun v1 h1 => ?_))
  refine pt_d (pt_1 (fun n d => r_aloadn gx251_4 rfl) ?_)
  refine pt_d (pt_getI (B := 54) gx251_5 S (fun v2 h2 => ?_))
  refine pt_d (pt_icmp_ge gx251_8 h1 h2 (fun e3 => ?_) (fun e3 => ?_))
  · have H := H.1 e3
    refine pt_d (pt_iconst gx251_23 (fun v4 h4 => ?_))
    exact pt_d (pt_iret gx251_24 ⟨_, rfl, by rw [h4]; exact H⟩)
  · have H := H.2 e3
    refine pt_d (pt_1 (fun n d => r_aloadn gx251_11 rfl) ?_)
    refine pt_d (pt_getR gx251_12 S tr_72_53 ?_)
    refine pt_d (pt_1 (fun n d => r_aloadn gx251_15 rfl) ?_)
    refine pt_d (pt_getI (B := 64) gx251_16 S (fun v6 h6 => ?_))
    refine pt_d (pt_bald (N' := 160) gx251_19 S tl_115 h6 (fun v7 p7 q7 h7 => ?_))
    have H := H p7 q7
    refine pt_d (pt_1 (fun n d => r_goto gx251_20) ?_)
    exact pt_d (pt_iret gx251_24 ⟨_, rfl, by rw [h7]; exact H⟩)
theorem d252_0 {n : Nat} {X : aX} {h : aH} {P : aH → Prop} (S : wS h) (H : ((0 ≤ vw h 72 65 → P h) ∧ (vw h 72 65 < 0 → ∀ h_4 : aH, wS h_4 → vw h_4 = up (vw h) 72 65 (vw h 72 64) → P h_4))) : Pt (n + 1) X zM252 0 [some (.ref 72)] [] h (qN P) := by
  refine pt_1 (fun n d => r_aloadn gx252_0 rfl) ?_
  refine pt_d (pt_getI (B := 65) gx252_1 S (fun v1 h1 => ?_))
  refine pt_d (pt_if_ge gx252_4 h1 (fun e2 => ?_) (fun e2 => ?_))
  · have H := H.1 e2
    exact pt_d (pt_vret gx252_15 ⟨rfl, H⟩)
  · have H := H.2 e2
    refine pt_d (pt_1 (fun n d => r_aloadn gx252_7 rfl) ?_)
    refine pt_d (pt_1 (fun n d => r_aloadn gx252_8 rfl) ?_)
    refine pt_d (pt_getI (B := 64) gx252_9 S (fun v3 h3 => ?_))
    refine pt_d (pt_putI (B := 65) gx252_12 S h3 (fun h_4 S4 e4 => ?_))
    have H := H h_4 S4 (by rw [e4])
    exact pt_d (pt_vret gx252_15 ⟨rfl, H⟩)
theorem d253_0 {n : Nat} {X : aX} {h : aH} {P : aH → Prop} {x1 x2 : Int32} {a1 a2 : Int} (S : wS h) (z1 : x1.toInt = a1) (z2 : x2.toInt = a2) (H : (0 ≤ w32 ((w32 (170 * (vw h 72 67))) + (vw h 72 68)) → w32 ((w32 (170 * (vw h 72 67))) + (vw h 72 68)) < 2890 → ∀ h_18 : aH, wS h_18 → vw h_18 = up (up (up (vw h) 122 (w32 ((w32 (170 * (vw h 72 67))) + (vw h 72 68))) a1) 123 (w32 ((w32 (170 * (vw h 72 67))) + (vw h 72 68))) a2) 72 68 (w32 ((vw h 72 68) + 1)) → P h_18)) : Pt (n + 1) X zM253 0 [some (.ref 72), some (.int x1), some (.int x2)] [] h (qN P) := by
  refine pt_1 (fun n d => r_aloadn gx253_0 rfl) ?_
  refine pt_d (pt_getR gx253_1 S tr_72_62 ?_)
  refine pt_d (pt_sipush gx253_4 (fun v2 h2 => ?_))
  refine pt_d (pt_1 (fun n d => r_aloadn gx253_7 rfl) ?_)
  refine pt_d (pt_getI (B := 67) gx253_8 S (fun v3 h3 => ?_))
  refine pt_d (pt_imul gx253_11 h2 h3 (fun v4 h4 => ?_))
  refine pt_d (pt_1 (fun n d => r_aloadn gx253_12 rfl) ?_)
  refine pt_d (pt_getI (B := 68) gx253_13 S (fun v5 h5 => ?_))
  refine pt_d (pt_iadd gx253_16 h4 h5 (fun v6 h6 => ?_))
  refine pt_d (pt_1 (fun n d => r_iloadn gx253_17 rfl) ?_)
  refine pt_d (pt_iast (N' := 2890) gx253_18 S tl_122 h6 z1 (fun h_7 S7 p7 q7 e7 => ?_))
  have H := H p7 q7
  refine pt_d (pt_1 (fun n d => r_aloadn gx253_19 rfl) ?_)
  refine pt_d (pt_getR gx253_20 S7 tr_72_63 ?_)
  refine pt_d (pt_sipush gx253_23 (fun v9 h9 => ?_))
  refine pt_d (pt_1 (fun n d => r_aloadn gx253_26 rfl) ?_)
  refine pt_d (pt_getI (B := 67) gx253_27 S7 (fun v10 h10 => ?_))
  have h10 : v10.toInt = vw h 72 67 := by rw [h10, e7, up_c (by decide)]
  refine pt_d (pt_imul gx253_30 h9 h10 (fun v11 h11 => ?_))
  refine pt_d (pt_1 (fun n d => r_aloadn gx253_31 rfl) ?_)
  refine pt_d (pt_getI (B := 68) gx253_32 S7 (fun v12 h12 => ?_))
  have h12 : v12.toInt = vw h 72 68 := by rw [h12, e7, up_c (by decide)]
  refine pt_d (pt_iadd gx253_35 h11 h12 (fun v13 h13 => ?_))
  refine pt_d (pt_1 (fun n d => r_iloadn gx253_36 rfl) ?_)
  refine pt_d (pt_iast (N' := 2890) gx253_37 S7 tl_123 h13 z2 (fun h_14 S14 p14 q14 e14 => ?_))
  refine pt_d (pt_1 (fun n d => r_aloadn gx253_38 rfl) ?_)
  refine pt_d (pt_1 (fun n d => r_dup gx253_39 rfl) ?_)
  refine pt_d (pt_getI (B := 68) gx253_40 S14 (fun v15 h15 => ?_))
  have h15 : v15.toInt = vw h 72 68 := by rw [h15, e14, up_c (by decide), e7, up_c (by decide)]
  refine pt_d (pt_iconst gx253_43 (fun v16 h16 => ?_))
  refine pt_d (pt_iadd gx253_44 h15 h16 (fun v17 h17 => ?_))
  refine pt_d (pt_putI (B := 68) gx253_45 S14 h17 (fun h_18 S18 e18 => ?_))
  have H := H h_18 S18 (by rw [e18, e14, e7])
  exact pt_d (pt_vret gx253_48 ⟨rfl, H⟩)
def mT (V : vS) (p : Int) : Int := if 0 ≤ p ∧ p < V 72 54 then V 115 p else -1
def mL (V : vS) : Int := if V 72 64 < V 72 54 then V 115 (V 72 64) else -1
theorem mL_T {V : vS} (h : 0 ≤ V 72 64) : mL V = mT V (V 72 64) := by
  unfold mL mT
  by_cases z : V 72 64 < V 72 54
  · rw [if_pos z, if_pos ⟨h, z⟩]
  · rw [if_neg z, if_neg (fun w => z w.2)]
theorem c_251 {n : Nat} {X : aX} {h : aH} (S : wS h) : Pt n X zM251 0 [some (.ref 72)] [] h (qI (fun y h' => h' = h ∧ y = mL (vw h))) :=
  pt_d (d251_0 S ⟨fun e => ⟨rfl, (if_neg (by omega)).symm⟩, fun e _ _ => ⟨rfl, (if_pos e).symm⟩⟩)
def R252 (V V' : vS) : Prop := (0 ≤ V 72 65 ∧ V' = V) ∨ (V 72 65 < 0 ∧ V' = up V 72 65 (V 72 64))
theorem c_252 {n : Nat} {X : aX} {h : aH} (S : wS h) : Pt n X zM252 0 [some (.ref 72)] [] h (qN (fun h' => wS h' ∧ R252 (vw h) (vw h'))) :=
  pt_d (d252_0 S ⟨fun e => ⟨S, Or.inl ⟨e, rfl⟩⟩, fun e g S2 eg => ⟨S2, Or.inr ⟨e, eg⟩⟩⟩)
def lfr (V V' : vS) : Prop := ∀ c j, c ≠ 122 → c ≠ 123 → (c = 72 → j ≠ 68) → V' c j = V c j
theorem c_253 {n : Nat} {X : aX} {h : aH} {x1 x2 : Int32} {a1 a2 : Int} (S : wS h) (z1 : x1.toInt = a1) (z2 : x2.toInt = a2) : Pt n X zM253 0 [some (.ref 72), some (.int x1), some (.int x2)] [] h (qN (fun h' => wS h' ∧ lfr (vw h) (vw h'))) := by
  refine pt_d (d253_0 S z1 z2 (fun _ _ g S2 eg => ⟨S2, fun c j h1 h2 h3 => ?_⟩))
  rw [eg]
  by_cases z : c = 72
  · subst z
    rw [up_j (h3 rfl), up_c h2, up_c h1]
  · rw [up_c z, up_c h2, up_c h1]

theorem d254_0 {n : Nat} {X : aX} {h : aH} {P : Int → aH → Prop} (S : wS h) (H : ((vw h 72 66 ≠ 8 → ∀ h_11 : aH, wS h_11 → vw h_11 = up (up (vw h) 72 66 (w32 ((vw h 72 66) + 1))) 72 64 (w32 ((vw h 72 64) + 1)) → P 1 h_11) ∧ (vw h 72 66 = 8 → ∀ (h_13 : aH), (wS h_13 ∧ R252 (vw h) (vw h_13)) → P 0 h_13))) : Pt (n + 1) X zM254 0 [some (.ref 72)] [] h (qI P) := by
  refine pt_1 (fun n d => r_aloadn gx254_0 rfl) ?_
  refine pt_d (pt_getI (B := 66) gx254_1 S (fun v1 h1 => ?_))
  refine pt_d (pt_bipush gx254_4 (fun v2 h2 => ?_))
  refine pt_d (pt_icmp_ne gx254_6 h1 h2 (fun e3 => ?_) (fun e3 => ?_))
  · have H := H.1 e3
    refine pt_d (pt_1 (fun n d => r_aloadn gx254_15 rfl) ?_)
    refine pt_d (pt_1 (fun n d => r_dup gx254_16 rfl) ?_)
    refine pt_d (pt_getI (B := 66) gx254_17 S (fun v4 h4 => ?_))
    refine pt_d (pt_iconst gx254_20 (fun v5 h5 => ?_))
    refine pt_d (pt_iadd gx254_21 h4 h5 (fun v6 h6 => ?_))
    refine pt_d (pt_putI (B := 66) gx254_22 S h6 (fun h_7 S7 e7 => ?_))
    refine pt_d (pt_1 (fun n d => r_aloadn gx254_25 rfl) ?_)
    refine pt_d (pt_1 (fun n d => r_dup gx254_26 rfl) ?_)
    refine pt_d (pt_getI (B := 64) gx254_27 S7 (fun v8 h8 => ?_))
    have h8 : v8.toInt = vw h 72 64 := by rw [h8, e7, up_j (by decide)]
    refine pt_d (pt_iconst gx254_30 (fun v9 h9 => ?_))
    refine pt_d (pt_iadd gx254_31 h8 h9 (fun v10 h10 => ?_))
    refine pt_d (pt_putI (B := 64) gx254_32 S7 h10 (fun h_11 S11 e11 => ?_))
    refine pt_d (pt_iconst gx254_35 (fun v12 h12 => ?_))
    have H := H h_11 S11 (by rw [e11, e7])
    exact pt_d (pt_iret gx254_36 ⟨_, rfl, by rw [h12]; exact H⟩)
  · have H := H.2 e3
    refine pt_d (pt_1 (fun n d => r_aloadn gx254_9 rfl) ?_)
    refine pt_d (pt_virt (as := []) (r := []) gx254_10 rfl (show zmt[252]? = some zM252 from rfl) rfl rfl rfl rfl (c_252 S) (kqN (fun h_13 P13 => ?_)))
    have S13 := P13.1
    have H := H h_13 P13
    show Pt _ _ _ 13 _ [] _ _
    refine pt_d (pt_iconst gx254_13 (fun v14 h14 => ?_))
    exact pt_d (pt_iret gx254_14 ⟨_, rfl, by rw [h14]; exact H⟩)
theorem d255_0 {n : Nat} {X : aX} {h : aH} {P : Int → aH → Prop} {x0 : Int32} {a0 : Int} (S : wS h) (z0 : x0.toInt = a0) (H : ((a0 = 98 → P 12 h) ∧ (a0 ≠ 98 → ((a0 = 99 → P 5 h) ∧ (a0 ≠ 99 → ((a0 = 100 → P (-1) h) ∧ (a0 ≠ 100 → ((a0 = 101 → P 8 h) ∧ (a0 ≠ 101 → ((a0 = 102 → P 3 h) ∧ (a0 ≠ 102 → ((a0 = 103 → P 4 h) ∧ (a0 ≠ 103 → ((a0 = 104 → P (-1) h) ∧ (a0 ≠ 104 → ((a0 = 105 → P (-1) h) ∧ (a0 ≠ 105 → ((a0 = 106 → P 11 h) ∧ (a0 ≠ 106 → ((a0 = 107 → P 1 h) ∧ (a0 ≠ 107 → ((a0 = 108 → P 7 h) ∧ (a0 ≠ 108 → ((a0 = 109 → P 10 h) ∧ (a0 ≠ 109 → ((a0 = 110 → P (-1) h) ∧ (a0 ≠ 110 → ((a0 = 111 → P (-1) h) ∧ (a0 ≠ 111 → ((a0 = 112 → P 9 h) ∧ (a0 ≠ 112 → ((a0 = 113 → P (-1) h) ∧ (a0 ≠ 113 → ((a0 = 114 → P (-1) h) ∧ (a0 ≠ 114 → ((a0 = 115 → P 2 h) ∧ (a0 ≠ 115 → ((a0 = 116 → P 6 h) ∧ (a0 ≠ 116 → ((a0 = 117 → P (-1) h) ∧ (a0 ≠ 117 → ((a0 = 118 → P (-1) h) ∧ (a0 ≠ 118 → ((a0 = 119 → P (-1) h) ∧ (a0 ≠ 119 → ((a0 = 120 → P (-1) h) ∧ (a0 ≠ 120 → ((a0 = 121 → P 0 h) ∧ (a0 ≠ 121 → P (-1) h))))))))))))))))))))))))))))))))))))))))))))))))) : Pt (n + 1) X zM255 0 [some (.int x0)] [] h (qI P) := by
  refine pt_1 (fun n d => r_iloadn gx255_0 rfl) ?_
  refine pt_d (pt_tsw gx255_1 ?_)
  refine pa_c (lo := 98) (lo' := 99) (p := 142) z0 (fun e1 => ?_) (fun e1 => ?_)
  · have H := H.1 e1
    refine pt_d (pt_bipush gx255_142 (fun v2 h2 => ?_))
    exact pt_d (pt_iret gx255_144 ⟨_, rfl, by rw [h2]; exact H⟩)
  have H := H.2 e1
  refine pa_c (lo := 99) (lo' := 100) (p := 122) z0 (fun e3 => ?_) (fun e3 => ?_)
  · have H := H.1 e3
    refine pt_d (pt_iconst gx255_122 (fun v4 h4 => ?_))
    exact pt_d (pt_iret gx255_123 ⟨_, rfl, by rw [h4]; exact H⟩)
  have H := H.2 e3
  refine pa_c (lo := 100) (lo' := 101) (p := 145) z0 (fun e5 => ?_) (fun e5 => ?_)
  · have H := H.1 e5
    refine pt_d (pt_iconst gx255_145 (fun v6 h6 => ?_))
    exact pt_d (pt_iret gx255_146 ⟨_, rfl, by rw [h6]; exact H⟩)
  have H := H.2 e5
  refine pa_c (lo := 101) (lo' := 102) (p := 130) z0 (fun e7 => ?_) (fun e7 => ?_)
  · have H := H.1 e7
    refine pt_d (pt_bipush gx255_130 (fun v8 h8 => ?_))
    exact pt_d (pt_iret gx255_132 ⟨_, rfl, by rw [h8]; exact H⟩)
  have H := H.2 e7
  refine pa_c (lo := 102) (lo' := 103) (p := 118) z0 (fun e9 => ?_) (fun e9 => ?_)
  · have H := H.1 e9
    refine pt_d (pt_iconst gx255_118 (fun v10 h10 => ?_))
    exact pt_d (pt_iret gx255_119 ⟨_, rfl, by rw [h10]; exact H⟩)
  have H := H.2 e9
  refine pa_c (lo := 103) (lo' := 104) (p := 120) z0 (fun e11 => ?_) (fun e11 => ?_)
  · have H := H.1 e11
    refine pt_d (pt_iconst gx255_120 (fun v12 h12 => ?_))
    exact pt_d (pt_iret gx255_121 ⟨_, rfl, by rw [h12]; exact H⟩)
  have H := H.2 e11
  refine pa_c (lo := 104) (lo' := 105) (p := 145) z0 (fun e13 => ?_) (fun e13 => ?_)
  · have H := H.1 e13
    refine pt_d (pt_iconst gx255_145 (fun v14 h14 => ?_))
    exact pt_d (pt_iret gx255_146 ⟨_, rfl, by rw [h14]; exact H⟩)
  have H := H.2 e13
  refine pa_c (lo := 105) (lo' := 106) (p := 145) z0 (fun e15 => ?_) (fun e15 => ?_)
  · have H := H.1 e15
    refine pt_d (pt_iconst gx255_145 (fun v16 h16 => ?_))
    exact pt_d (pt_iret gx255_146 ⟨_, rfl, by rw [h16]; exact H⟩)
  have H := H.2 e15
  refine pa_c (lo := 106) (lo' := 107) (p := 139) z0 (fun e17 => ?_) (fun e17 => ?_)
  · have H := H.1 e17
    refine pt_d (pt_bipush gx255_139 (fun v18 h18 => ?_))
    exact pt_d (pt_iret gx255_141 ⟨_, rfl, by rw [h18]; exact H⟩)
  have H := H.2 e17
  refine pa_c (lo := 107) (lo' := 108) (p := 114) z0 (fun e19 => ?_) (fun e19 => ?_)
  · have H := H.1 e19
    refine pt_d (pt_iconst gx255_114 (fun v20 h20 => ?_))
    exact pt_d (pt_iret gx255_115 ⟨_, rfl, by rw [h20]; exact H⟩)
  have H := H.2 e19
  refine pa_c (lo := 108) (lo' := 109) (p := 127) z0 (fun e21 => ?_) (fun e21 => ?_)
  · have H := H.1 e21
    refine pt_d (pt_bipush gx255_127 (fun v22 h22 => ?_))
    exact pt_d (pt_iret gx255_129 ⟨_, rfl, by rw [h22]; exact H⟩)
  have H := H.2 e21
  refine pa_c (lo := 109) (lo' := 110) (p := 136) z0 (fun e23 => ?_) (fun e23 => ?_)
  · have H := H.1 e23
    refine pt_d (pt_bipush gx255_136 (fun v24 h24 => ?_))
    exact pt_d (pt_iret gx255_138 ⟨_, rfl, by rw [h24]; exact H⟩)
  have H := H.2 e23
  refine pa_c (lo := 110) (lo' := 111) (p := 145) z0 (fun e25 => ?_) (fun e25 => ?_)
  · have H := H.1 e25
    refine pt_d (pt_iconst gx255_145 (fun v26 h26 => ?_))
    exact pt_d (pt_iret gx255_146 ⟨_, rfl, by rw [h26]; exact H⟩)
  have H := H.2 e25
  refine pa_c (lo := 111) (lo' := 112) (p := 145) z0 (fun e27 => ?_) (fun e27 => ?_)
  · have H := H.1 e27
    refine pt_d (pt_iconst gx255_145 (fun v28 h28 => ?_))
    exact pt_d (pt_iret gx255_146 ⟨_, rfl, by rw [h28]; exact H⟩)
  have H := H.2 e27
  refine pa_c (lo := 112) (lo' := 113) (p := 133) z0 (fun e29 => ?_) (fun e29 => ?_)
  · have H := H.1 e29
    refine pt_d (pt_bipush gx255_133 (fun v30 h30 => ?_))
    exact pt_d (pt_iret gx255_135 ⟨_, rfl, by rw [h30]; exact H⟩)
  have H := H.2 e29
  refine pa_c (lo := 113) (lo' := 114) (p := 145) z0 (fun e31 => ?_) (fun e31 => ?_)
  · have H := H.1 e31
    refine pt_d (pt_iconst gx255_145 (fun v32 h32 => ?_))
    exact pt_d (pt_iret gx255_146 ⟨_, rfl, by rw [h32]; exact H⟩)
  have H := H.2 e31
  refine pa_c (lo := 114) (lo' := 115) (p := 145) z0 (fun e33 => ?_) (fun e33 => ?_)
  · have H := H.1 e33
    refine pt_d (pt_iconst gx255_145 (fun v34 h34 => ?_))
    exact pt_d (pt_iret gx255_146 ⟨_, rfl, by rw [h34]; exact H⟩)
  have H := H.2 e33
  refine pa_c (lo := 115) (lo' := 116) (p := 116) z0 (fun e35 => ?_) (fun e35 => ?_)
  · have H := H.1 e35
    refine pt_d (pt_iconst gx255_116 (fun v36 h36 => ?_))
    exact pt_d (pt_iret gx255_117 ⟨_, rfl, by rw [h36]; exact H⟩)
  have H := H.2 e35
  refine pa_c (lo := 116) (lo' := 117) (p := 124) z0 (fun e37 => ?_) (fun e37 => ?_)
  · have H := H.1 e37
    refine pt_d (pt_bipush gx255_124 (fun v38 h38 => ?_))
    exact pt_d (pt_iret gx255_126 ⟨_, rfl, by rw [h38]; exact H⟩)
  have H := H.2 e37
  refine pa_c (lo := 117) (lo' := 118) (p := 145) z0 (fun e39 => ?_) (fun e39 => ?_)
  · have H := H.1 e39
    refine pt_d (pt_iconst gx255_145 (fun v40 h40 => ?_))
    exact pt_d (pt_iret gx255_146 ⟨_, rfl, by rw [h40]; exact H⟩)
  have H := H.2 e39
  refine pa_c (lo := 118) (lo' := 119) (p := 145) z0 (fun e41 => ?_) (fun e41 => ?_)
  · have H := H.1 e41
    refine pt_d (pt_iconst gx255_145 (fun v42 h42 => ?_))
    exact pt_d (pt_iret gx255_146 ⟨_, rfl, by rw [h42]; exact H⟩)
  have H := H.2 e41
  refine pa_c (lo := 119) (lo' := 120) (p := 145) z0 (fun e43 => ?_) (fun e43 => ?_)
  · have H := H.1 e43
    refine pt_d (pt_iconst gx255_145 (fun v44 h44 => ?_))
    exact pt_d (pt_iret gx255_146 ⟨_, rfl, by rw [h44]; exact H⟩)
  have H := H.2 e43
  refine pa_c (lo := 120) (lo' := 121) (p := 145) z0 (fun e45 => ?_) (fun e45 => ?_)
  · have H := H.1 e45
    refine pt_d (pt_iconst gx255_145 (fun v46 h46 => ?_))
    exact pt_d (pt_iret gx255_146 ⟨_, rfl, by rw [h46]; exact H⟩)
  have H := H.2 e45
  refine pa_c (lo := 121) (lo' := 122) (p := 112) z0 (fun e47 => ?_) (fun e47 => ?_)
  · have H := H.1 e47
    refine pt_d (pt_iconst gx255_112 (fun v48 h48 => ?_))
    exact pt_d (pt_iret gx255_113 ⟨_, rfl, by rw [h48]; exact H⟩)
  have H := H.2 e47
  refine pa_0 (p := 145) ?_
  refine pt_d (pt_iconst gx255_145 (fun v49 h49 => ?_))
  exact pt_d (pt_iret gx255_146 ⟨_, rfl, by rw [h49]; exact H⟩)
theorem c_254 {n : Nat} {X : aX} {h : aH} (S : wS h) : Pt n X zM254 0 [some (.ref 72)] [] h (qI (fun y h' => wS h' ∧ ((y = 1 ∧ vw h 72 66 ≠ 8 ∧ vw h' = up (up (vw h) 72 66 (w32 (vw h 72 66 + 1))) 72 64 (w32 (vw h 72 64 + 1))) ∨ (y = 0 ∧ vw h 72 66 = 8 ∧ R252 (vw h) (vw h'))))) :=
  pt_d (d254_0 S ⟨fun e g S2 eg => ⟨S2, Or.inl ⟨rfl, e, eg⟩⟩, fun e g k => ⟨k.1, Or.inr ⟨rfl, e, k.2⟩⟩⟩)
def R254 (V : vS) (y : Int) (V' : vS) : Prop := (y = 1 ∧ V 72 66 ≠ 8 ∧ V' = up (up V 72 66 (w32 (V 72 66 + 1))) 72 64 (w32 (V 72 64 + 1))) ∨ (y = 0 ∧ V 72 66 = 8 ∧ R252 V V')
def R255 (a y : Int) : Prop := (nmB a = true ∧ 0 ≤ y) ∨ (nmB a = false ∧ y < 0)
theorem c_255 {n : Nat} {X : aX} {h : aH} {x0 : Int32} {a0 : Int} (S : wS h) (z0 : x0.toInt = a0) : Pt n X zM255 0 [some (.int x0)] [] h (qI (fun y h' => wS h' ∧ h' = h ∧ R255 a0 y)) := by
  exact pt_d (d255_0 S z0 ⟨fun e => ⟨S, rfl, Or.inl ⟨by rw [e]; rfl, by decide⟩⟩, fun n98 => ⟨fun e => ⟨S, rfl, Or.inl ⟨by rw [e]; rfl, by decide⟩⟩, fun n99 => ⟨fun e => ⟨S, rfl, Or.inr ⟨by rw [e]; rfl, by decide⟩⟩, fun n100 => ⟨fun e => ⟨S, rfl, Or.inl ⟨by rw [e]; rfl, by decide⟩⟩, fun n101 => ⟨fun e => ⟨S, rfl, Or.inl ⟨by rw [e]; rfl, by decide⟩⟩, fun n102 => ⟨fun e => ⟨S, rfl, Or.inl ⟨by rw [e]; rfl, by decide⟩⟩, fun n103 => ⟨fun e => ⟨S, rfl, Or.inr ⟨by rw [e]; rfl, by decide⟩⟩, fun n104 => ⟨fun e => ⟨S, rfl, Or.inr ⟨by rw [e]; rfl, by decide⟩⟩, fun n105 => ⟨fun e => ⟨S, rfl, Or.inl ⟨by rw [e]; rfl, by decide⟩⟩, fun n106 => ⟨fun e => ⟨S, rfl, Or.inl ⟨by rw [e]; rfl, by decide⟩⟩, fun n107 => ⟨fun e => ⟨S, rfl, Or.inl ⟨by rw [e]; rfl, by decide⟩⟩, fun n108 => ⟨fun e => ⟨S, rfl, Or.inl ⟨by rw [e]; rfl, by decide⟩⟩, fun n109 => ⟨fun e => ⟨S, rfl, Or.inr ⟨by rw [e]; rfl, by decide⟩⟩, fun n110 => ⟨fun e => ⟨S, rfl, Or.inr ⟨by rw [e]; rfl, by decide⟩⟩, fun n111 => ⟨fun e => ⟨S, rfl, Or.inl ⟨by rw [e]; rfl, by decide⟩⟩, fun n112 => ⟨fun e => ⟨S, rfl, Or.inr ⟨by rw [e]; rfl, by decide⟩⟩, fun n113 => ⟨fun e => ⟨S, rfl, Or.inr ⟨by rw [e]; rfl, by decide⟩⟩, fun n114 => ⟨fun e => ⟨S, rfl, Or.inl ⟨by rw [e]; rfl, by decide⟩⟩, fun n115 => ⟨fun e => ⟨S, rfl, Or.inl ⟨by rw [e]; rfl, by decide⟩⟩, fun n116 => ⟨fun e => ⟨S, rfl, Or.inr ⟨by rw [e]; rfl, by decide⟩⟩, fun n117 => ⟨fun e => ⟨S, rfl, Or.inr ⟨by rw [e]; rfl, by decide⟩⟩, fun n118 => ⟨fun e => ⟨S, rfl, Or.inr ⟨by rw [e]; rfl, by decide⟩⟩, fun n119 => ⟨fun e => ⟨S, rfl, Or.inr ⟨by rw [e]; rfl, by decide⟩⟩, fun n120 => ⟨fun e => ⟨S, rfl, Or.inl ⟨by rw [e]; rfl, by decide⟩⟩, fun n121 => ⟨S, rfl, Or.inr ⟨(by unfold nmB; simp only [beq_false_of_ne n121, beq_false_of_ne n107, beq_false_of_ne n115, beq_false_of_ne n102, beq_false_of_ne n103, beq_false_of_ne n99, beq_false_of_ne n116, beq_false_of_ne n108, beq_false_of_ne n101, beq_false_of_ne n112, beq_false_of_ne n109, beq_false_of_ne n106, beq_false_of_ne n98, Bool.or_false]), by decide⟩⟩⟩⟩⟩⟩⟩⟩⟩⟩⟩⟩⟩⟩⟩⟩⟩⟩⟩⟩⟩⟩⟩⟩⟩⟩)

-- what a part of the reading comes to, on the model's side
def mfr (V V' : vS) : Prop := ∀ c j, c ≠ 119 → c ≠ 120 → c ≠ 121 → c ≠ 122 → c ≠ 123 → (c = 72 → j ≠ 64 ∧ j ≠ 65 ∧ j ≠ 66 ∧ j ≠ 68 ∧ j ≠ 67) → V' c j = V c j
theorem mfr_r (V : vS) : mfr V V := fun _ _ _ _ _ _ _ _ => rfl
theorem mfr_t {V V1 V' : vS} (a : mfr V V1) (b : mfr V1 V') : mfr V V' := fun c j h1 h2 h3 h4 h5 h6 => (b c j h1 h2 h3 h4 h5 h6).trans (a c j h1 h2 h3 h4 h5 h6)
theorem lfr_m {V V' : vS} (l : lfr V V') : mfr V V' := fun c j _ _ _ h4 h5 h6 => l c j h4 h5 (fun e => (h6 e).2.2.2.1)
theorem mfr_54 {V V' : vS} (a : mfr V V') : V' 72 54 = V 72 54 := a 72 54 (by decide) (by decide) (by decide) (by decide) (by decide) (fun _ => by decide)
theorem mfr_T {V V' : vS} (a : mfr V V') : mT V' = mT V := by
  funext p
  unfold mT
  rw [mfr_54 a, a 115 p (by decide) (by decide) (by decide) (by decide) (by decide) (fun e => absurd e (by decide))]
theorem mfr_u {V V' : vS} {j v : Int} (a : mfr V V') (h : j = 64 ∨ j = 65 ∨ j = 66 ∨ j = 68 ∨ j = 67) : mfr V (up V' 72 j v) := by
  intro c i h1 h2 h3 h4 h5 h6
  have e := a c i h1 h2 h3 h4 h5 h6
  by_cases z : c = 72
  · have := h6 z
    rw [up_j (by omega), e]
  · rw [up_c z, e]
def mpre (V : vS) : Prop := V 72 65 = -1 ∧ (0 ≤ V 72 66 ∧ V 72 66 ≤ 8) ∧ (0 ≤ V 72 64 ∧ V 72 64 ≤ V 72 54) ∧ V 72 54 ≤ 160
def mlp (V : vS) : Prop := (V 72 65 = -1 ∨ 0 ≤ V 72 65) ∧ (V 72 65 < 0 → 0 ≤ V 72 66 ∧ V 72 66 ≤ 8) ∧ (0 ≤ V 72 64 ∧ V 72 64 ≤ V 72 54) ∧ V 72 54 ≤ 160
def mRes (t : Nat) (V V' : vS) : Prop := mfr V V' ∧ ∃ q f : Int, Pr (mT V) t (V 72 66) (V 72 64) q f ∧ V' 72 64 = q ∧ V' 72 65 = f ∧ (f < 0 → V' 72 66 = V 72 66) ∧ q ≤ V 72 54
def mLo (t : Nat) (V V' : vS) : Prop := (V 72 65 < 0 → mRes t V V') ∧ (0 ≤ V 72 65 → mfr V V' ∧ V' 72 64 = V 72 64 ∧ V' 72 65 = V 72 65)
theorem mlp_m {V : vS} (H : mlp V) (h : V 72 65 < 0) : mpre V := ⟨by have := H.1; omega, H.2.1 h, H.2.2⟩
theorem mRes_l {t : Nat} {V V1 V2 : vS} (c : mRes t V V1) (F : mfr V1 V2) (e1 : V2 72 64 = V1 72 64) (e2 : V2 72 65 = V1 72 65) (e3 : V2 72 66 = V1 72 66) : mRes t V V2 := by
  obtain ⟨F1, q, f, p, a1, a2, a3, b⟩ := c
  exact ⟨mfr_t F1 F, q, f, p, e1.trans a1, e2.trans a2, fun w => e3.trans (a3 w), b⟩
theorem lfr_e {V V' : vS} (l : lfr V V') {j : Int} (h : j ≠ 68) : V' 72 j = V 72 j := l 72 j (by decide) (by decide) (fun _ => h)
theorem mRes_y {t : Nat} {V V1 V2 : vS} (c : mRes t V V1) (l : lfr V1 V2) : mRes t V V2 := mRes_l c (lfr_m l) (lfr_e l (by decide)) (lfr_e l (by decide)) (lfr_e l (by decide))
theorem mRes_p {t : Nat} {V V1 : vS} (H : mpre V) (c : mRes t V V1) : mlp V1 := by
  obtain ⟨F1, q, f, p, a1, a2, a3, b⟩ := c
  have pb := pr_b H.2.2.1.1 p
  have e := mfr_54 F1
  refine ⟨by rw [a2]; exact pb.1, fun w => ?_, ?_, by rw [e]; exact H.2.2.2⟩
  · rw [a3 (by rw [← a2]; exact w)]
    exact H.2.1
  · rw [a1, e]
    exact ⟨by have := H.2.2.1.1; omega, b⟩
theorem m_seq {t t1 t2 : Nat} (S : seqT t t1 t2) {V V1 V' : vS} (H : mpre V) (c1 : mRes t1 V V1) (c2 : mLo t2 V1 V') : mRes t V V' := by
  obtain ⟨F1, q, f, p1, e1, e2, e3, b⟩ := c1
  have pb := pr_b H.2.2.1.1 p1
  rcases pb.1 with rfl | d
  · obtain ⟨F2, q2, f2, p2, g1, g2, g3, b2⟩ := c2.1 (by rw [e2]; decide)
    rw [mfr_T F1, e3 (by decide), e1] at p2
    rw [mfr_54 F1] at b2
    exact ⟨mfr_t F1 F2, q2, f2, sq_n S p1 p2, g1, g2, fun w => (g3 w).trans (e3 (by decide)), b2⟩
  · obtain ⟨F2, g1, g2⟩ := c2.2 (by omega)
    exact ⟨mfr_t F1 F2, q, f, sq_f S p1 d, g1.trans e1, g2.trans e2, fun w => by omega, b⟩
theorem m_out {t : Nat} (lp : ∀ (T : Int → Int) (o p : Int), opB t (T p) = false → Pr T t o p p (-1)) {V : vS} (H : mlp V) (h : V 72 65 < 0 → opB t (mT V (V 72 64)) = false) : mLo t V V :=
  ⟨fun e => ⟨mfr_r V, _, _, lp _ _ _ (h e), rfl, by have := H.1; omega, fun _ => rfl, H.2.2.1.2⟩, fun _ => ⟨mfr_r V, rfl, rfl⟩⟩
theorem mT_lt {V : vS} {p : Int} (h : mT V p ≠ -1) : p < V 72 54 := by
  unfold mT at h
  split at h
  · rename_i w; exact w.2
  · exact absurd rfl h
theorem m_here {V V4 : vS} (H : mlp V) (hf : V 72 65 < 0) {c : Int} (c0 : 0 ≤ c) (hc : mL V = c) (e4 : V4 = up V 72 64 (w32 (V 72 64 + 1))) : mT V (V 72 64) = c ∧ mpre V4 ∧ V4 = up V 72 64 (V 72 64 + 1) ∧ V4 72 64 = V 72 64 + 1 ∧ V4 72 66 = V 72 66 ∧ mT V4 = mT V ∧ V4 72 54 = V 72 54 ∧ mfr V V4 := by
  have P := mlp_m H hf
  rw [mL_T P.2.2.1.1] at hc
  have lt : V 72 64 < V 72 54 := mT_lt (by omega)
  have b := P.2.2
  rw [w32_id (by omega) (by omega)] at e4
  have F : mfr V V4 := by rw [e4]; exact mfr_u (mfr_r V) (Or.inl rfl)
  have h64 : V4 72 64 = V 72 64 + 1 := by rw [e4, up_s]
  have h65 : V4 72 65 = V 72 65 := by rw [e4, up_j (by decide)]
  have h66 : V4 72 66 = V 72 66 := by rw [e4, up_j (by decide)]
  have h54 := mfr_54 F
  refine ⟨hc, ⟨h65.trans P.1, by rw [h66]; exact P.2.1, by rw [h64, h54]; omega, by rw [h54]; exact b.2⟩, e4, h64, h66, mfr_T F, h54, F⟩
theorem m_step {t t1 : Nat} (S : lopT t t1 t) {V V4 V1 V2 V' : vS} {c : Int} (H : mlp V) (hf : V 72 65 < 0) (c0 : 0 ≤ c) (hc : mL V = c) (ho : opB t c = true) (e4 : V4 = up V 72 64 (w32 (V 72 64 + 1))) (c1 : mRes t1 V4 V1) (l : lfr V1 V2) (c2 : mLo t V2 V') : mLo t V V' := by
  refine ⟨fun _ => ?_, fun w => by omega⟩
  obtain ⟨k1, k2, k3, k4, k5, k6, k7, k8⟩ := m_here H hf c0 hc e4
  have ho : opB t (mT V (V 72 64)) = true := by rw [k1]; exact ho
  obtain ⟨F1, q, f, p1, e1, e2, e3, b⟩ := mRes_y c1 l
  have pb := pr_b k2.2.2.1.1 p1
  rw [k6, k5, k4] at p1
  rw [k5] at e3
  rw [k7] at b
  rcases pb.1 with rfl | d
  · obtain ⟨F2, q2, f2, p2, g1, g2, g3, b2⟩ := c2.1 (by rw [e2]; decide)
    rw [mfr_T F1, k6, e3 (by decide), e1] at p2
    rw [mfr_54 F1, k7] at b2
    exact ⟨mfr_t k8 (mfr_t F1 F2), q2, f2, lp_n S ho p1 p2, g1, g2, fun w => (g3 w).trans (e3 (by decide)), b2⟩
  · obtain ⟨F2, g1, g2⟩ := c2.2 (by omega)
    exact ⟨mfr_t k8 (mfr_t F1 F2), q, f, lp_f S ho p1 d, g1.trans e1, g2.trans e2, fun w => by omega, b⟩
theorem m_cho {t t1 : Nat} (S : chT t t1) {V V4 V1 : vS} {c : Int} (H : mlp V) (hf : V 72 65 < 0) (c0 : 0 ≤ c) (hc : mL V = c) (ho : opB t c = true) (e4 : V4 = up V 72 64 (w32 (V 72 64 + 1))) (c1 : mRes t1 V4 V1) : mLo t V V1 := by
  refine ⟨fun _ => ?_, fun w => by omega⟩
  obtain ⟨k1, k2, k3, k4, k5, k6, k7, k8⟩ := m_here H hf c0 hc e4
  have ho : opB t (mT V (V 72 64)) = true := by rw [k1]; exact ho
  obtain ⟨F1, q, f, p1, e1, e2, e3, b⟩ := c1
  rw [k6, k5, k4] at p1
  rw [k5] at e3
  rw [k7] at b
  exact ⟨mfr_t k8 F1, q, f, ch_y S ho p1, e1, e2, e3, b⟩


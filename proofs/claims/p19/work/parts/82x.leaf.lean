-- ===== leaves of both sides: what they answer =====
theorem tl_2 : tkL 2 0 150 = true := by decide +kernel
theorem tl_3 : tkL 3 0 150 = true := by decide +kernel
theorem tl_73 : tkL 73 0 150 = true := by decide +kernel
theorem tl_8 : tkL 8 0 3600 = true := by decide +kernel
theorem tr_1_7 : tkR 1 7 2 = true := by decide +kernel
theorem tr_1_8 : tkR 1 8 3 = true := by decide +kernel
theorem tr_72_3 : tkR 72 3 73 = true := by decide +kernel
theorem tr_1_13 : tkR 1 13 8 = true := by decide +kernel
theorem gx137_0 : aF 0 zM137.2.2.2.2.2.2.2 = some (0, (.iload_n 1), 1, 0, 0) := by decide +kernel
theorem gx137_1 : aF 1 zM137.2.2.2.2.2.2.2 = some (1, (.iload_n 0), 1, 0, 0) := by decide +kernel
theorem gx137_2 : aF 2 zM137.2.2.2.2.2.2.2 = some (2, (.if_icmp .gt 12), 3, 14, 0) := by decide +kernel
theorem gx137_14 : aF 14 zM137.2.2.2.2.2.2.2 = some (14, (.iconst 0), 1, 0, 0) := by decide +kernel
theorem gx137_15 : aF 15 zM137.2.2.2.2.2.2.2 = some (15, .ireturn, 1, 0, 0) := by decide +kernel
theorem gx137_5 : aF 5 zM137.2.2.2.2.2.2.2 = some (5, (.iload_n 0), 1, 0, 0) := by decide +kernel
theorem gx137_6 : aF 6 zM137.2.2.2.2.2.2.2 = some (6, (.iload_n 2), 1, 0, 0) := by decide +kernel
theorem gx137_7 : aF 7 zM137.2.2.2.2.2.2.2 = some (7, (.if_icmp .gt 7), 3, 14, 0) := by decide +kernel
theorem gx137_10 : aF 10 zM137.2.2.2.2.2.2.2 = some (10, (.iconst 1), 1, 0, 0) := by decide +kernel
theorem gx137_11 : aF 11 zM137.2.2.2.2.2.2.2 = some (11, (.goto 4), 3, 15, 0) := by decide +kernel
theorem gx196_0 : aF 0 zM196.2.2.2.2.2.2.2 = some (0, (.iload_n 0), 1, 0, 0) := by decide +kernel
theorem gx196_1 : aF 1 zM196.2.2.2.2.2.2.2 = some (1, (.iload_n 1), 1, 0, 0) := by decide +kernel
theorem gx196_2 : aF 2 zM196.2.2.2.2.2.2.2 = some (2, (.if_icmp .lt 12), 3, 14, 0) := by decide +kernel
theorem gx196_14 : aF 14 zM196.2.2.2.2.2.2.2 = some (14, (.iconst 0), 1, 0, 0) := by decide +kernel
theorem gx196_15 : aF 15 zM196.2.2.2.2.2.2.2 = some (15, .ireturn, 1, 0, 0) := by decide +kernel
theorem gx196_5 : aF 5 zM196.2.2.2.2.2.2.2 = some (5, (.iload_n 0), 1, 0, 0) := by decide +kernel
theorem gx196_6 : aF 6 zM196.2.2.2.2.2.2.2 = some (6, (.iload_n 2), 1, 0, 0) := by decide +kernel
theorem gx196_7 : aF 7 zM196.2.2.2.2.2.2.2 = some (7, (.if_icmp .gt 7), 3, 14, 0) := by decide +kernel
theorem gx196_10 : aF 10 zM196.2.2.2.2.2.2.2 = some (10, (.iconst 1), 1, 0, 0) := by decide +kernel
theorem gx196_11 : aF 11 zM196.2.2.2.2.2.2.2 = some (11, (.goto 4), 3, 15, 0) := by decide +kernel
theorem gx138_0 : aF 0 zM138.2.2.2.2.2.2.2 = some (0, (.iload_n 0), 1, 0, 0) := by decide +kernel
theorem gx138_1 : aF 1 zM138.2.2.2.2.2.2.2 = some (1, (.iconst 0), 1, 0, 0) := by decide +kernel
theorem gx138_2 : aF 2 zM138.2.2.2.2.2.2.2 = some (2, (.sipush 3649), 3, 0, 0) := by decide +kernel
theorem gx138_5 : aF 5 zM138.2.2.2.2.2.2.2 = some (5, (.invokestatic 85), 3, 137, 0) := by decide +kernel
theorem gx138_8 : aF 8 zM138.2.2.2.2.2.2.2 = some (8, .ireturn, 1, 0, 0) := by decide +kernel
theorem gx139_0 : aF 0 zM139.2.2.2.2.2.2.2 = some (0, (.iload_n 0), 1, 0, 0) := by decide +kernel
theorem gx139_1 : aF 1 zM139.2.2.2.2.2.2.2 = some (1, (.iconst 0), 1, 0, 0) := by decide +kernel
theorem gx139_2 : aF 2 zM139.2.2.2.2.2.2.2 = some (2, (.bipush 9), 2, 0, 0) := by decide +kernel
theorem gx139_4 : aF 4 zM139.2.2.2.2.2.2.2 = some (4, (.invokestatic 85), 3, 137, 0) := by decide +kernel
theorem gx139_7 : aF 7 zM139.2.2.2.2.2.2.2 = some (7, .ireturn, 1, 0, 0) := by decide +kernel
theorem gx140_0 : aF 0 zM140.2.2.2.2.2.2.2 = some (0, (.iload_n 0), 1, 0, 0) := by decide +kernel
theorem gx140_1 : aF 1 zM140.2.2.2.2.2.2.2 = some (1, (.iconst 0), 1, 0, 0) := by decide +kernel
theorem gx140_2 : aF 2 zM140.2.2.2.2.2.2.2 = some (2, (.iconst 3), 1, 0, 0) := by decide +kernel
theorem gx140_3 : aF 3 zM140.2.2.2.2.2.2.2 = some (3, (.invokestatic 85), 3, 137, 0) := by decide +kernel
theorem gx140_6 : aF 6 zM140.2.2.2.2.2.2.2 = some (6, .ireturn, 1, 0, 0) := by decide +kernel
theorem gx141_0 : aF 0 zM141.2.2.2.2.2.2.2 = some (0, (.iload_n 0), 1, 0, 0) := by decide +kernel
theorem gx141_1 : aF 1 zM141.2.2.2.2.2.2.2 = some (1, (.iconst 0), 1, 0, 0) := by decide +kernel
theorem gx141_2 : aF 2 zM141.2.2.2.2.2.2.2 = some (2, (.bipush 7), 2, 0, 0) := by decide +kernel
theorem gx141_4 : aF 4 zM141.2.2.2.2.2.2.2 = some (4, (.invokestatic 85), 3, 137, 0) := by decide +kernel
theorem gx141_7 : aF 7 zM141.2.2.2.2.2.2.2 = some (7, .ireturn, 1, 0, 0) := by decide +kernel
theorem gx197_0 : aF 0 zM197.2.2.2.2.2.2.2 = some (0, (.iload_n 0), 1, 0, 0) := by decide +kernel
theorem gx197_1 : aF 1 zM197.2.2.2.2.2.2.2 = some (1, (.iconst 0), 1, 0, 0) := by decide +kernel
theorem gx197_2 : aF 2 zM197.2.2.2.2.2.2.2 = some (2, (.sipush 3649), 3, 0, 0) := by decide +kernel
theorem gx197_5 : aF 5 zM197.2.2.2.2.2.2.2 = some (5, (.invokestatic 258), 3, 196, 0) := by decide +kernel
theorem gx197_8 : aF 8 zM197.2.2.2.2.2.2.2 = some (8, .ireturn, 1, 0, 0) := by decide +kernel
theorem gx198_0 : aF 0 zM198.2.2.2.2.2.2.2 = some (0, (.iload_n 0), 1, 0, 0) := by decide +kernel
theorem gx198_1 : aF 1 zM198.2.2.2.2.2.2.2 = some (1, (.iconst 0), 1, 0, 0) := by decide +kernel
theorem gx198_2 : aF 2 zM198.2.2.2.2.2.2.2 = some (2, (.bipush 9), 2, 0, 0) := by decide +kernel
theorem gx198_4 : aF 4 zM198.2.2.2.2.2.2.2 = some (4, (.invokestatic 258), 3, 196, 0) := by decide +kernel
theorem gx198_7 : aF 7 zM198.2.2.2.2.2.2.2 = some (7, .ireturn, 1, 0, 0) := by decide +kernel
theorem gx206_0 : aF 0 zM206.2.2.2.2.2.2.2 = some (0, (.iload_n 0), 1, 0, 0) := by decide +kernel
theorem gx206_1 : aF 1 zM206.2.2.2.2.2.2.2 = some (1, (.iconst 0), 1, 0, 0) := by decide +kernel
theorem gx206_2 : aF 2 zM206.2.2.2.2.2.2.2 = some (2, (.iconst 3), 1, 0, 0) := by decide +kernel
theorem gx206_3 : aF 3 zM206.2.2.2.2.2.2.2 = some (3, (.invokestatic 258), 3, 196, 0) := by decide +kernel
theorem gx206_6 : aF 6 zM206.2.2.2.2.2.2.2 = some (6, .ireturn, 1, 0, 0) := by decide +kernel
theorem gx71_0 : aF 0 zM71.2.2.2.2.2.2.2 = some (0, (.iload_n 0), 1, 0, 0) := by decide +kernel
theorem gx71_1 : aF 1 zM71.2.2.2.2.2.2.2 = some (1, (.iconst 1), 1, 0, 0) := by decide +kernel
theorem gx71_2 : aF 2 zM71.2.2.2.2.2.2.2 = some (2, (.iconst 3), 1, 0, 0) := by decide +kernel
theorem gx71_3 : aF 3 zM71.2.2.2.2.2.2.2 = some (3, (.invokestatic 45), 3, 137, 0) := by decide +kernel
theorem gx71_6 : aF 6 zM71.2.2.2.2.2.2.2 = some (6, (.ifCond .ne 9), 3, 15, 0) := by decide +kernel
theorem gx71_15 : aF 15 zM71.2.2.2.2.2.2.2 = some (15, (.iconst 1), 1, 0, 0) := by decide +kernel
theorem gx71_16 : aF 16 zM71.2.2.2.2.2.2.2 = some (16, (.goto 4), 3, 20, 0) := by decide +kernel
theorem gx71_20 : aF 20 zM71.2.2.2.2.2.2.2 = some (20, .ireturn, 1, 0, 0) := by decide +kernel
theorem gx71_9 : aF 9 zM71.2.2.2.2.2.2.2 = some (9, (.iload_n 0), 1, 0, 0) := by decide +kernel
theorem gx71_10 : aF 10 zM71.2.2.2.2.2.2.2 = some (10, (.bipush 7), 2, 0, 0) := by decide +kernel
theorem gx71_12 : aF 12 zM71.2.2.2.2.2.2.2 = some (12, (.if_icmp .ne 7), 3, 19, 0) := by decide +kernel
theorem gx71_19 : aF 19 zM71.2.2.2.2.2.2.2 = some (19, (.iconst 0), 1, 0, 0) := by decide +kernel
theorem gx73_0 : aF 0 zM73.2.2.2.2.2.2.2 = some (0, (.aload_n 0), 1, 0, 0) := by decide +kernel
theorem gx73_1 : aF 1 zM73.2.2.2.2.2.2.2 = some (1, (.getfield 52), 3, 6, 1) := by decide +kernel
theorem gx73_4 : aF 4 zM73.2.2.2.2.2.2.2 = some (4, (.sipush 150), 3, 0, 0) := by decide +kernel
theorem gx73_7 : aF 7 zM73.2.2.2.2.2.2.2 = some (7, (.if_icmp .lt 7), 3, 14, 0) := by decide +kernel
theorem gx73_14 : aF 14 zM73.2.2.2.2.2.2.2 = some (14, (.iconst 0), 1, 0, 0) := by decide +kernel
theorem gx73_15 : aF 15 zM73.2.2.2.2.2.2.2 = some (15, .ireturn, 1, 0, 0) := by decide +kernel
theorem gx73_10 : aF 10 zM73.2.2.2.2.2.2.2 = some (10, (.iconst 1), 1, 0, 0) := by decide +kernel
theorem gx73_11 : aF 11 zM73.2.2.2.2.2.2.2 = some (11, (.goto 4), 3, 15, 0) := by decide +kernel
theorem gx74_0 : aF 0 zM74.2.2.2.2.2.2.2 = some (0, (.iload_n 1), 1, 0, 0) := by decide +kernel
theorem gx74_1 : aF 1 zM74.2.2.2.2.2.2.2 = some (1, (.iconst 0), 1, 0, 0) := by decide +kernel
theorem gx74_2 : aF 2 zM74.2.2.2.2.2.2.2 = some (2, (.aload_n 0), 1, 0, 0) := by decide +kernel
theorem gx74_3 : aF 3 zM74.2.2.2.2.2.2.2 = some (3, (.getfield 52), 3, 6, 1) := by decide +kernel
theorem gx74_6 : aF 6 zM74.2.2.2.2.2.2.2 = some (6, (.iconst 1), 1, 0, 0) := by decide +kernel
theorem gx74_7 : aF 7 zM74.2.2.2.2.2.2.2 = some (7, .isub, 1, 0, 0) := by decide +kernel
theorem gx74_8 : aF 8 zM74.2.2.2.2.2.2.2 = some (8, (.invokestatic 45), 3, 137, 0) := by decide +kernel
theorem gx74_11 : aF 11 zM74.2.2.2.2.2.2.2 = some (11, .ireturn, 1, 0, 0) := by decide +kernel
theorem gx75_0 : aF 0 zM75.2.2.2.2.2.2.2 = some (0, (.aload_n 0), 1, 0, 0) := by decide +kernel
theorem gx75_1 : aF 1 zM75.2.2.2.2.2.2.2 = some (1, (.iload_n 1), 1, 0, 0) := by decide +kernel
theorem gx75_2 : aF 2 zM75.2.2.2.2.2.2.2 = some (2, (.invokevirtual 56), 3, 74, 0) := by decide +kernel
theorem gx75_5 : aF 5 zM75.2.2.2.2.2.2.2 = some (5, (.ifCond .eq 19), 3, 24, 0) := by decide +kernel
theorem gx75_24 : aF 24 zM75.2.2.2.2.2.2.2 = some (24, (.iconst 0), 1, 0, 0) := by decide +kernel
theorem gx75_25 : aF 25 zM75.2.2.2.2.2.2.2 = some (25, .ireturn, 1, 0, 0) := by decide +kernel
theorem gx75_8 : aF 8 zM75.2.2.2.2.2.2.2 = some (8, (.aload_n 0), 1, 0, 0) := by decide +kernel
theorem gx75_9 : aF 9 zM75.2.2.2.2.2.2.2 = some (9, (.getfield 9), 3, 6, 7) := by decide +kernel
theorem gx75_12 : aF 12 zM75.2.2.2.2.2.2.2 = some (12, (.iload_n 1), 1, 0, 0) := by decide +kernel
theorem gx75_13 : aF 13 zM75.2.2.2.2.2.2.2 = some (13, .iaload, 1, 0, 0) := by decide +kernel
theorem gx75_14 : aF 14 zM75.2.2.2.2.2.2.2 = some (14, (.invokestatic 60), 3, 71, 0) := by decide +kernel
theorem gx75_17 : aF 17 zM75.2.2.2.2.2.2.2 = some (17, (.ifCond .eq 7), 3, 24, 0) := by decide +kernel
theorem gx75_20 : aF 20 zM75.2.2.2.2.2.2.2 = some (20, (.iconst 1), 1, 0, 0) := by decide +kernel
theorem gx75_21 : aF 21 zM75.2.2.2.2.2.2.2 = some (21, (.goto 4), 3, 25, 0) := by decide +kernel
theorem gx77_0 : aF 0 zM77.2.2.2.2.2.2.2 = some (0, (.aload_n 0), 1, 0, 0) := by decide +kernel
theorem gx77_1 : aF 1 zM77.2.2.2.2.2.2.2 = some (1, (.iload_n 1), 1, 0, 0) := by decide +kernel
theorem gx77_2 : aF 2 zM77.2.2.2.2.2.2.2 = some (2, (.invokevirtual 56), 3, 74, 0) := by decide +kernel
theorem gx77_5 : aF 5 zM77.2.2.2.2.2.2.2 = some (5, (.ifCond .eq 21), 3, 26, 0) := by decide +kernel
theorem gx77_26 : aF 26 zM77.2.2.2.2.2.2.2 = some (26, (.iconst 0), 1, 0, 0) := by decide +kernel
theorem gx77_27 : aF 27 zM77.2.2.2.2.2.2.2 = some (27, .ireturn, 1, 0, 0) := by decide +kernel
theorem gx77_8 : aF 8 zM77.2.2.2.2.2.2.2 = some (8, (.aload_n 0), 1, 0, 0) := by decide +kernel
theorem gx77_9 : aF 9 zM77.2.2.2.2.2.2.2 = some (9, (.getfield 9), 3, 6, 7) := by decide +kernel
theorem gx77_12 : aF 12 zM77.2.2.2.2.2.2.2 = some (12, (.iload_n 1), 1, 0, 0) := by decide +kernel
theorem gx77_13 : aF 13 zM77.2.2.2.2.2.2.2 = some (13, .iaload, 1, 0, 0) := by decide +kernel
theorem gx77_14 : aF 14 zM77.2.2.2.2.2.2.2 = some (14, (.iconst 4), 1, 0, 0) := by decide +kernel
theorem gx77_15 : aF 15 zM77.2.2.2.2.2.2.2 = some (15, (.iconst 5), 1, 0, 0) := by decide +kernel
theorem gx77_16 : aF 16 zM77.2.2.2.2.2.2.2 = some (16, (.invokestatic 45), 3, 137, 0) := by decide +kernel
theorem gx77_19 : aF 19 zM77.2.2.2.2.2.2.2 = some (19, (.ifCond .eq 7), 3, 26, 0) := by decide +kernel
theorem gx77_22 : aF 22 zM77.2.2.2.2.2.2.2 = some (22, (.iconst 1), 1, 0, 0) := by decide +kernel
theorem gx77_23 : aF 23 zM77.2.2.2.2.2.2.2 = some (23, (.goto 4), 3, 27, 0) := by decide +kernel
theorem gx78_0 : aF 0 zM78.2.2.2.2.2.2.2 = some (0, (.aload_n 0), 1, 0, 0) := by decide +kernel
theorem gx78_1 : aF 1 zM78.2.2.2.2.2.2.2 = some (1, (.iload_n 1), 1, 0, 0) := by decide +kernel
theorem gx78_2 : aF 2 zM78.2.2.2.2.2.2.2 = some (2, (.invokevirtual 56), 3, 74, 0) := by decide +kernel
theorem gx78_5 : aF 5 zM78.2.2.2.2.2.2.2 = some (5, (.ifCond .eq 22), 3, 27, 0) := by decide +kernel
theorem gx78_27 : aF 27 zM78.2.2.2.2.2.2.2 = some (27, (.iconst 0), 1, 0, 0) := by decide +kernel
theorem gx78_28 : aF 28 zM78.2.2.2.2.2.2.2 = some (28, .ireturn, 1, 0, 0) := by decide +kernel
theorem gx78_8 : aF 8 zM78.2.2.2.2.2.2.2 = some (8, (.aload_n 0), 1, 0, 0) := by decide +kernel
theorem gx78_9 : aF 9 zM78.2.2.2.2.2.2.2 = some (9, (.getfield 9), 3, 6, 7) := by decide +kernel
theorem gx78_12 : aF 12 zM78.2.2.2.2.2.2.2 = some (12, (.iload_n 1), 1, 0, 0) := by decide +kernel
theorem gx78_13 : aF 13 zM78.2.2.2.2.2.2.2 = some (13, .iaload, 1, 0, 0) := by decide +kernel
theorem gx78_14 : aF 14 zM78.2.2.2.2.2.2.2 = some (14, (.iconst 4), 1, 0, 0) := by decide +kernel
theorem gx78_15 : aF 15 zM78.2.2.2.2.2.2.2 = some (15, (.bipush 6), 2, 0, 0) := by decide +kernel
theorem gx78_17 : aF 17 zM78.2.2.2.2.2.2.2 = some (17, (.invokestatic 45), 3, 137, 0) := by decide +kernel
theorem gx78_20 : aF 20 zM78.2.2.2.2.2.2.2 = some (20, (.ifCond .eq 7), 3, 27, 0) := by decide +kernel
theorem gx78_23 : aF 23 zM78.2.2.2.2.2.2.2 = some (23, (.iconst 1), 1, 0, 0) := by decide +kernel
theorem gx78_24 : aF 24 zM78.2.2.2.2.2.2.2 = some (24, (.goto 4), 3, 28, 0) := by decide +kernel
theorem gx76_0 : aF 0 zM76.2.2.2.2.2.2.2 = some (0, (.aload_n 0), 1, 0, 0) := by decide +kernel
theorem gx76_1 : aF 1 zM76.2.2.2.2.2.2.2 = some (1, (.iload_n 1), 1, 0, 0) := by decide +kernel
theorem gx76_2 : aF 2 zM76.2.2.2.2.2.2.2 = some (2, (.invokevirtual 63), 3, 75, 0) := by decide +kernel
theorem gx76_5 : aF 5 zM76.2.2.2.2.2.2.2 = some (5, (.ifCond .eq 17), 3, 22, 0) := by decide +kernel
theorem gx76_22 : aF 22 zM76.2.2.2.2.2.2.2 = some (22, (.iconst 0), 1, 0, 0) := by decide +kernel
theorem gx76_23 : aF 23 zM76.2.2.2.2.2.2.2 = some (23, .ireturn, 1, 0, 0) := by decide +kernel
theorem gx76_8 : aF 8 zM76.2.2.2.2.2.2.2 = some (8, (.aload_n 0), 1, 0, 0) := by decide +kernel
theorem gx76_9 : aF 9 zM76.2.2.2.2.2.2.2 = some (9, (.getfield 15), 3, 6, 8) := by decide +kernel
theorem gx76_12 : aF 12 zM76.2.2.2.2.2.2.2 = some (12, (.iload_n 1), 1, 0, 0) := by decide +kernel
theorem gx76_13 : aF 13 zM76.2.2.2.2.2.2.2 = some (13, .iaload, 1, 0, 0) := by decide +kernel
theorem gx76_14 : aF 14 zM76.2.2.2.2.2.2.2 = some (14, (.iload_n 2), 1, 0, 0) := by decide +kernel
theorem gx76_15 : aF 15 zM76.2.2.2.2.2.2.2 = some (15, (.if_icmp .ne 7), 3, 22, 0) := by decide +kernel
theorem gx76_18 : aF 18 zM76.2.2.2.2.2.2.2 = some (18, (.iconst 1), 1, 0, 0) := by decide +kernel
theorem gx76_19 : aF 19 zM76.2.2.2.2.2.2.2 = some (19, (.goto 4), 3, 23, 0) := by decide +kernel
theorem gx200_0 : aF 0 zM200.2.2.2.2.2.2.2 = some (0, (.iload_n 1), 1, 0, 0) := by decide +kernel
theorem gx200_1 : aF 1 zM200.2.2.2.2.2.2.2 = some (1, (.iconst 0), 1, 0, 0) := by decide +kernel
theorem gx200_2 : aF 2 zM200.2.2.2.2.2.2.2 = some (2, (.aload_n 0), 1, 0, 0) := by decide +kernel
theorem gx200_3 : aF 3 zM200.2.2.2.2.2.2.2 = some (3, (.getfield 265), 3, 12, 2) := by decide +kernel
theorem gx200_6 : aF 6 zM200.2.2.2.2.2.2.2 = some (6, (.iconst 1), 1, 0, 0) := by decide +kernel
theorem gx200_7 : aF 7 zM200.2.2.2.2.2.2.2 = some (7, .isub, 1, 0, 0) := by decide +kernel
theorem gx200_8 : aF 8 zM200.2.2.2.2.2.2.2 = some (8, (.invokestatic 258), 3, 196, 0) := by decide +kernel
theorem gx200_11 : aF 11 zM200.2.2.2.2.2.2.2 = some (11, .ireturn, 1, 0, 0) := by decide +kernel
theorem gx201_0 : aF 0 zM201.2.2.2.2.2.2.2 = some (0, (.iload_n 1), 1, 0, 0) := by decide +kernel
theorem gx201_1 : aF 1 zM201.2.2.2.2.2.2.2 = some (1, (.ifCond .eq 8), 3, 9, 0) := by decide +kernel
theorem gx201_9 : aF 9 zM201.2.2.2.2.2.2.2 = some (9, (.iconst 1), 1, 0, 0) := by decide +kernel
theorem gx201_10 : aF 10 zM201.2.2.2.2.2.2.2 = some (10, .ireturn, 1, 0, 0) := by decide +kernel
theorem gx201_4 : aF 4 zM201.2.2.2.2.2.2.2 = some (4, (.iload_n 0), 1, 0, 0) := by decide +kernel
theorem gx201_5 : aF 5 zM201.2.2.2.2.2.2.2 = some (5, (.iload_n 1), 1, 0, 0) := by decide +kernel
theorem gx201_6 : aF 6 zM201.2.2.2.2.2.2.2 = some (6, (.if_icmp .ne 5), 3, 11, 0) := by decide +kernel
theorem gx201_11 : aF 11 zM201.2.2.2.2.2.2.2 = some (11, (.iload_n 1), 1, 0, 0) := by decide +kernel
theorem gx201_12 : aF 12 zM201.2.2.2.2.2.2.2 = some (12, (.iconst 1), 1, 0, 0) := by decide +kernel
theorem gx201_13 : aF 13 zM201.2.2.2.2.2.2.2 = some (13, (.if_icmp .ne 25), 3, 38, 0) := by decide +kernel
theorem gx201_38 : aF 38 zM201.2.2.2.2.2.2.2 = some (38, (.iload_n 1), 1, 0, 0) := by decide +kernel
theorem gx201_39 : aF 39 zM201.2.2.2.2.2.2.2 = some (39, (.iconst 2), 1, 0, 0) := by decide +kernel
theorem gx201_40 : aF 40 zM201.2.2.2.2.2.2.2 = some (40, (.if_icmp .ne 15), 3, 55, 0) := by decide +kernel
theorem gx201_55 : aF 55 zM201.2.2.2.2.2.2.2 = some (55, (.iload_n 1), 1, 0, 0) := by decide +kernel
theorem gx201_56 : aF 56 zM201.2.2.2.2.2.2.2 = some (56, (.iconst 4), 1, 0, 0) := by decide +kernel
theorem gx201_57 : aF 57 zM201.2.2.2.2.2.2.2 = some (57, (.if_icmp .ne 12), 3, 69, 0) := by decide +kernel
theorem gx201_69 : aF 69 zM201.2.2.2.2.2.2.2 = some (69, (.iconst 0), 1, 0, 0) := by decide +kernel
theorem gx201_70 : aF 70 zM201.2.2.2.2.2.2.2 = some (70, .ireturn, 1, 0, 0) := by decide +kernel
theorem gx201_60 : aF 60 zM201.2.2.2.2.2.2.2 = some (60, (.iload_n 0), 1, 0, 0) := by decide +kernel
theorem gx201_61 : aF 61 zM201.2.2.2.2.2.2.2 = some (61, (.iconst 5), 1, 0, 0) := by decide +kernel
theorem gx201_62 : aF 62 zM201.2.2.2.2.2.2.2 = some (62, (.if_icmp .ne 7), 3, 69, 0) := by decide +kernel
theorem gx201_65 : aF 65 zM201.2.2.2.2.2.2.2 = some (65, (.iconst 1), 1, 0, 0) := by decide +kernel
theorem gx201_66 : aF 66 zM201.2.2.2.2.2.2.2 = some (66, (.goto 4), 3, 70, 0) := by decide +kernel
theorem gx201_43 : aF 43 zM201.2.2.2.2.2.2.2 = some (43, (.iload_n 0), 1, 0, 0) := by decide +kernel
theorem gx201_44 : aF 44 zM201.2.2.2.2.2.2.2 = some (44, (.bipush 7), 2, 0, 0) := by decide +kernel
theorem gx201_46 : aF 46 zM201.2.2.2.2.2.2.2 = some (46, (.if_icmp .ne 7), 3, 53, 0) := by decide +kernel
theorem gx201_53 : aF 53 zM201.2.2.2.2.2.2.2 = some (53, (.iconst 0), 1, 0, 0) := by decide +kernel
theorem gx201_54 : aF 54 zM201.2.2.2.2.2.2.2 = some (54, .ireturn, 1, 0, 0) := by decide +kernel
theorem gx201_49 : aF 49 zM201.2.2.2.2.2.2.2 = some (49, (.iconst 1), 1, 0, 0) := by decide +kernel
theorem gx201_50 : aF 50 zM201.2.2.2.2.2.2.2 = some (50, (.goto 4), 3, 54, 0) := by decide +kernel
theorem gx201_16 : aF 16 zM201.2.2.2.2.2.2.2 = some (16, (.iload_n 0), 1, 0, 0) := by decide +kernel
theorem gx201_17 : aF 17 zM201.2.2.2.2.2.2.2 = some (17, (.iconst 2), 1, 0, 0) := by decide +kernel
theorem gx201_18 : aF 18 zM201.2.2.2.2.2.2.2 = some (18, (.if_icmp .eq 14), 3, 32, 0) := by decide +kernel
theorem gx201_32 : aF 32 zM201.2.2.2.2.2.2.2 = some (32, (.iconst 1), 1, 0, 0) := by decide +kernel
theorem gx201_33 : aF 33 zM201.2.2.2.2.2.2.2 = some (33, (.goto 4), 3, 37, 0) := by decide +kernel
theorem gx201_37 : aF 37 zM201.2.2.2.2.2.2.2 = some (37, .ireturn, 1, 0, 0) := by decide +kernel
theorem gx201_21 : aF 21 zM201.2.2.2.2.2.2.2 = some (21, (.iload_n 0), 1, 0, 0) := by decide +kernel
theorem gx201_22 : aF 22 zM201.2.2.2.2.2.2.2 = some (22, (.iconst 3), 1, 0, 0) := by decide +kernel
theorem gx201_23 : aF 23 zM201.2.2.2.2.2.2.2 = some (23, (.if_icmp .eq 9), 3, 32, 0) := by decide +kernel
theorem gx201_26 : aF 26 zM201.2.2.2.2.2.2.2 = some (26, (.iload_n 0), 1, 0, 0) := by decide +kernel
theorem gx201_27 : aF 27 zM201.2.2.2.2.2.2.2 = some (27, (.bipush 7), 2, 0, 0) := by decide +kernel
theorem gx201_29 : aF 29 zM201.2.2.2.2.2.2.2 = some (29, (.if_icmp .ne 7), 3, 36, 0) := by decide +kernel
theorem gx201_36 : aF 36 zM201.2.2.2.2.2.2.2 = some (36, (.iconst 0), 1, 0, 0) := by decide +kernel
theorem gx202_0 : aF 0 zM202.2.2.2.2.2.2.2 = some (0, (.aload_n 0), 1, 0, 0) := by decide +kernel
theorem gx202_1 : aF 1 zM202.2.2.2.2.2.2.2 = some (1, (.iload_n 1), 1, 0, 0) := by decide +kernel
theorem gx202_2 : aF 2 zM202.2.2.2.2.2.2.2 = some (2, (.invokevirtual 268), 3, 200, 0) := by decide +kernel
theorem gx202_5 : aF 5 zM202.2.2.2.2.2.2.2 = some (5, (.ifCond .eq 20), 3, 25, 0) := by decide +kernel
theorem gx202_25 : aF 25 zM202.2.2.2.2.2.2.2 = some (25, (.iconst 0), 1, 0, 0) := by decide +kernel
theorem gx202_26 : aF 26 zM202.2.2.2.2.2.2.2 = some (26, .ireturn, 1, 0, 0) := by decide +kernel
theorem gx202_8 : aF 8 zM202.2.2.2.2.2.2.2 = some (8, (.aload_n 0), 1, 0, 0) := by decide +kernel
theorem gx202_9 : aF 9 zM202.2.2.2.2.2.2.2 = some (9, (.getfield 7), 3, 12, 3) := by decide +kernel
theorem gx202_12 : aF 12 zM202.2.2.2.2.2.2.2 = some (12, (.iload_n 1), 1, 0, 0) := by decide +kernel
theorem gx202_13 : aF 13 zM202.2.2.2.2.2.2.2 = some (13, .iaload, 1, 0, 0) := by decide +kernel
theorem gx202_14 : aF 14 zM202.2.2.2.2.2.2.2 = some (14, (.iconst 1), 1, 0, 0) := by decide +kernel
theorem gx202_15 : aF 15 zM202.2.2.2.2.2.2.2 = some (15, (.invokestatic 272), 3, 201, 0) := by decide +kernel
theorem gx202_18 : aF 18 zM202.2.2.2.2.2.2.2 = some (18, (.ifCond .eq 7), 3, 25, 0) := by decide +kernel
theorem gx202_21 : aF 21 zM202.2.2.2.2.2.2.2 = some (21, (.iconst 1), 1, 0, 0) := by decide +kernel
theorem gx202_22 : aF 22 zM202.2.2.2.2.2.2.2 = some (22, (.goto 4), 3, 26, 0) := by decide +kernel
theorem gx203_0 : aF 0 zM203.2.2.2.2.2.2.2 = some (0, (.aload_n 0), 1, 0, 0) := by decide +kernel
theorem gx203_1 : aF 1 zM203.2.2.2.2.2.2.2 = some (1, (.iload_n 1), 1, 0, 0) := by decide +kernel
theorem gx203_2 : aF 2 zM203.2.2.2.2.2.2.2 = some (2, (.invokevirtual 268), 3, 200, 0) := by decide +kernel
theorem gx203_5 : aF 5 zM203.2.2.2.2.2.2.2 = some (5, (.ifCond .eq 20), 3, 25, 0) := by decide +kernel
theorem gx203_25 : aF 25 zM203.2.2.2.2.2.2.2 = some (25, (.iconst 0), 1, 0, 0) := by decide +kernel
theorem gx203_26 : aF 26 zM203.2.2.2.2.2.2.2 = some (26, .ireturn, 1, 0, 0) := by decide +kernel
theorem gx203_8 : aF 8 zM203.2.2.2.2.2.2.2 = some (8, (.aload_n 0), 1, 0, 0) := by decide +kernel
theorem gx203_9 : aF 9 zM203.2.2.2.2.2.2.2 = some (9, (.getfield 7), 3, 12, 3) := by decide +kernel
theorem gx203_12 : aF 12 zM203.2.2.2.2.2.2.2 = some (12, (.iload_n 1), 1, 0, 0) := by decide +kernel
theorem gx203_13 : aF 13 zM203.2.2.2.2.2.2.2 = some (13, .iaload, 1, 0, 0) := by decide +kernel
theorem gx203_14 : aF 14 zM203.2.2.2.2.2.2.2 = some (14, (.iconst 4), 1, 0, 0) := by decide +kernel
theorem gx203_15 : aF 15 zM203.2.2.2.2.2.2.2 = some (15, (.invokestatic 272), 3, 201, 0) := by decide +kernel
theorem gx203_18 : aF 18 zM203.2.2.2.2.2.2.2 = some (18, (.ifCond .eq 7), 3, 25, 0) := by decide +kernel
theorem gx203_21 : aF 21 zM203.2.2.2.2.2.2.2 = some (21, (.iconst 1), 1, 0, 0) := by decide +kernel
theorem gx203_22 : aF 22 zM203.2.2.2.2.2.2.2 = some (22, (.goto 4), 3, 26, 0) := by decide +kernel
theorem gx82_0 : aF 0 zM82.2.2.2.2.2.2.2 = some (0, (.aload_n 0), 1, 0, 0) := by decide +kernel
theorem gx82_1 : aF 1 zM82.2.2.2.2.2.2.2 = some (1, (.getfield 30), 3, 6, 13) := by decide +kernel
theorem gx82_4 : aF 4 zM82.2.2.2.2.2.2.2 = some (4, (.iload_n 1), 1, 0, 0) := by decide +kernel
theorem gx82_5 : aF 5 zM82.2.2.2.2.2.2.2 = some (5, (.bipush 24), 2, 0, 0) := by decide +kernel
theorem gx82_7 : aF 7 zM82.2.2.2.2.2.2.2 = some (7, .imul, 1, 0, 0) := by decide +kernel
theorem gx82_8 : aF 8 zM82.2.2.2.2.2.2.2 = some (8, (.iload_n 2), 1, 0, 0) := by decide +kernel
theorem gx82_9 : aF 9 zM82.2.2.2.2.2.2.2 = some (9, .iadd, 1, 0, 0) := by decide +kernel
theorem gx82_10 : aF 10 zM82.2.2.2.2.2.2.2 = some (10, .iaload, 1, 0, 0) := by decide +kernel
theorem gx82_11 : aF 11 zM82.2.2.2.2.2.2.2 = some (11, .ireturn, 1, 0, 0) := by decide +kernel
theorem gx211_0 : aF 0 zM211.2.2.2.2.2.2.2 = some (0, (.iload_n 0), 1, 0, 0) := by decide +kernel
theorem gx211_1 : aF 1 zM211.2.2.2.2.2.2.2 = some (1, (.iload_n 1), 1, 0, 0) := by decide +kernel
theorem gx211_2 : aF 2 zM211.2.2.2.2.2.2.2 = some (2, (.if_icmp .ge 7), 3, 9, 0) := by decide +kernel
theorem gx211_9 : aF 9 zM211.2.2.2.2.2.2.2 = some (9, (.iload_n 1), 1, 0, 0) := by decide +kernel
theorem gx211_10 : aF 10 zM211.2.2.2.2.2.2.2 = some (10, .ireturn, 1, 0, 0) := by decide +kernel
theorem gx211_5 : aF 5 zM211.2.2.2.2.2.2.2 = some (5, (.iload_n 0), 1, 0, 0) := by decide +kernel
theorem gx211_6 : aF 6 zM211.2.2.2.2.2.2.2 = some (6, (.goto 4), 3, 10, 0) := by decide +kernel
theorem gx212_0 : aF 0 zM212.2.2.2.2.2.2.2 = some (0, (.iload_n 0), 1, 0, 0) := by decide +kernel
theorem gx212_1 : aF 1 zM212.2.2.2.2.2.2.2 = some (1, (.iload_n 1), 1, 0, 0) := by decide +kernel
theorem gx212_2 : aF 2 zM212.2.2.2.2.2.2.2 = some (2, (.if_icmp .le 7), 3, 9, 0) := by decide +kernel
theorem gx212_9 : aF 9 zM212.2.2.2.2.2.2.2 = some (9, (.iload_n 1), 1, 0, 0) := by decide +kernel
theorem gx212_10 : aF 10 zM212.2.2.2.2.2.2.2 = some (10, .ireturn, 1, 0, 0) := by decide +kernel
theorem gx212_5 : aF 5 zM212.2.2.2.2.2.2.2 = some (5, (.iload_n 0), 1, 0, 0) := by decide +kernel
theorem gx212_6 : aF 6 zM212.2.2.2.2.2.2.2 = some (6, (.goto 4), 3, 10, 0) := by decide +kernel
theorem d137_0 {n : Nat} {X : aX} {h : aH} {P : Int → aH → Prop} {x0 x1 x2 : Int32} {a0 a1 a2 : Int} (S : wS h) (z0 : x0.toInt = a0) (z1 : x1.toInt = a1) (z2 : x2.toInt = a2) (H : ((a0 < a1 → P 0 h) ∧ (a1 ≤ a0 → ((a2 < a0 → P 0 h) ∧ (a0 ≤ a2 → P 1 h))))) : Pt (n + 1) X zM137 0 [some (.int x0), some (.int x1), some (.int x2)] [] h (qI P) := by
  refine pt_1 (fun n d => r_iloadn gx137_0 rfl) ?_
  refine pt_d (pt_1 (fun n d => r_iloadn gx137_1 rfl) ?_)
  refine pt_d (pt_icmp_gt gx137_2 z1 z0 (fun e1 => ?_) (fun e1 => ?_))
  · have H := H.1 e1
    refine pt_d (pt_iconst gx137_14 (fun v2 h2 => ?_))
    exact pt_d (pt_iret gx137_15 ⟨_, rfl, by rw [h2]; exact H⟩)
  · have H := H.2 e1
    refine pt_d (pt_1 (fun n d => r_iloadn gx137_5 rfl) ?_)
    refine pt_d (pt_1 (fun n d => r_iloadn gx137_6 rfl) ?_)
    refine pt_d (pt_icmp_gt gx137_7 z0 z2 (fun e3 => ?_) (fun e3 => ?_))
    · have H := H.1 e3
      refine pt_d (pt_iconst gx137_14 (fun v4 h4 => ?_))
      exact pt_d (pt_iret gx137_15 ⟨_, rfl, by rw [h4]; exact H⟩)
    · have H := H.2 e3
      refine pt_d (pt_iconst gx137_10 (fun v5 h5 => ?_))
      refine pt_d (pt_1 (fun n d => r_goto gx137_11) ?_)
      exact pt_d (pt_iret gx137_15 ⟨_, rfl, by rw [h5]; exact H⟩)
theorem c_137 {n : Nat} {X : aX} {h : aH} {x0 x1 x2 : Int32} {a0 a1 a2 : Int} (S : wS h) (z0 : x0.toInt = a0) (z1 : x1.toInt = a1) (z2 : x2.toInt = a2) : Pt n X zM137 0 [some (.int x0), some (.int x1), some (.int x2)] [] h (qI (fun y h' => h' = h ∧ y = bI (a1 ≤ a0 ∧ a0 ≤ a2))) := by
  refine pt_d (d137_0 S z0 z1 z2 ?_)
  repeat' (first | (refine And.intro ?_ ?_) | intro _)
  all_goals first
    | rfl
    | exact (bI_t (by omega)).symm
    | exact (bI_f (by omega)).symm
    | exact bI_c (by omega)
    | omega
theorem d196_0 {n : Nat} {X : aX} {h : aH} {P : Int → aH → Prop} {x0 x1 x2 : Int32} {a0 a1 a2 : Int} (S : wS h) (z0 : x0.toInt = a0) (z1 : x1.toInt = a1) (z2 : x2.toInt = a2) (H : ((a0 < a1 → P 0 h) ∧ (a1 ≤ a0 → ((a2 < a0 → P 0 h) ∧ (a0 ≤ a2 → P 1 h))))) : Pt (n + 1) X zM196 0 [some (.int x0), some (.int x1), some (.int x2)] [] h (qI P) := by
  refine pt_1 (fun n d => r_iloadn gx196_0 rfl) ?_
  refine pt_d (pt_1 (fun n d => r_iloadn gx196_1 rfl) ?_)
  refine pt_d (pt_icmp_lt gx196_2 z0 z1 (fun e1 => ?_) (fun e1 => ?_))
  · have H := H.1 e1
    refine pt_d (pt_iconst gx196_14 (fun v2 h2 => ?_))
    exact pt_d (pt_iret gx196_15 ⟨_, rfl, by rw [h2]; exact H⟩)
  · have H := H.2 e1
    refine pt_d (pt_1 (fun n d => r_iloadn gx196_5 rfl) ?_)
    refine pt_d (pt_1 (fun n d => r_iloadn gx196_6 rfl) ?_)
    refine pt_d (pt_icmp_gt gx196_7 z0 z2 (fun e3 => ?_) (fun e3 => ?_))
    · have H := H.1 e3
      refine pt_d (pt_iconst gx196_14 (fun v4 h4 => ?_))
      exact pt_d (pt_iret gx196_15 ⟨_, rfl, by rw [h4]; exact H⟩)
    · have H := H.2 e3
      refine pt_d (pt_iconst gx196_10 (fun v5 h5 => ?_))
      refine pt_d (pt_1 (fun n d => r_goto gx196_11) ?_)
      exact pt_d (pt_iret gx196_15 ⟨_, rfl, by rw [h5]; exact H⟩)
theorem c_196 {n : Nat} {X : aX} {h : aH} {x0 x1 x2 : Int32} {a0 a1 a2 : Int} (S : wS h) (z0 : x0.toInt = a0) (z1 : x1.toInt = a1) (z2 : x2.toInt = a2) : Pt n X zM196 0 [some (.int x0), some (.int x1), some (.int x2)] [] h (qI (fun y h' => h' = h ∧ y = bI (a1 ≤ a0 ∧ a0 ≤ a2))) := by
  refine pt_d (d196_0 S z0 z1 z2 ?_)
  repeat' (first | (refine And.intro ?_ ?_) | intro _)
  all_goals first
    | rfl
    | exact (bI_t (by omega)).symm
    | exact (bI_f (by omega)).symm
    | exact bI_c (by omega)
    | omega
def cBody (V : vS) (b : Int) : Prop := 0 ≤ b ∧ b ≤ w32 (V 1 1 - 1)
def mBody (V : vS) (b : Int) : Prop := 0 ≤ b ∧ b ≤ w32 (V 72 2 - 1)
def kFarm (k : Int) : Prop := (1 ≤ k ∧ k ≤ 3) ∨ k = 7
def uF (k a : Int) : Prop := a = 0 ∨ k = a ∨ (a = 1 ∧ (k = 2 ∨ k = 3 ∨ k = 7)) ∨ (a = 2 ∧ k = 7) ∨ (a = 4 ∧ k = 5)
def cFarm (V : vS) (b : Int) : Prop := cBody V b ∧ kFarm (V 2 b)
def cField (V : vS) (b : Int) : Prop := cBody V b ∧ 4 ≤ V 2 b ∧ V 2 b ≤ 5
def cHeld (V : vS) (b : Int) : Prop := cBody V b ∧ 4 ≤ V 2 b ∧ V 2 b ≤ 6
def mFarm (V : vS) (b : Int) : Prop := mBody V b ∧ uF (V 73 b) 1
def mField (V : vS) (b : Int) : Prop := mBody V b ∧ uF (V 73 b) 4
theorem d138_0 {n : Nat} {X : aX} {h : aH} {P : Int → aH → Prop} {x0 : Int32} {a0 : Int} (S : wS h) (z0 : x0.toInt = a0) (H : P (bI (0 ≤ a0 ∧ a0 ≤ 3649)) h) : Pt (n + 1) X zM138 0 [some (.int x0)] [] h (qI P) := by
  refine pt_1 (fun n d => r_iloadn gx138_0 rfl) ?_
  refine pt_d (pt_iconst gx138_1 (fun v1 h1 => ?_))
  refine pt_d (pt_sipush gx138_2 (fun v2 h2 => ?_))
  refine pt_d (pt_stat (as := [.int x0, .int v1, .int v2]) (r := []) gx138_5 rfl (show zmt[137]? = some zM137 from rfl) rfl rfl rfl rfl (c_137 S z0 h1 h2) (kqP (fun v3 h3 => ?_)))
  show Pt _ _ _ 8 _ [.int v3] _ _
  exact pt_d (pt_iret gx138_8 ⟨_, rfl, by rw [h3]; exact H⟩)
theorem c_138 {n : Nat} {X : aX} {h : aH} {x0 : Int32} {a0 : Int} (S : wS h) (z0 : x0.toInt = a0) : Pt n X zM138 0 [some (.int x0)] [] h (qI (fun y h' => h' = h ∧ y = bI (0 ≤ a0 ∧ a0 ≤ 3649))) := by
  refine pt_d (d138_0 S z0 ?_)
  repeat' (first | (refine And.intro ?_ ?_) | intro _)
  all_goals first
    | rfl
    | exact (bI_t (by omega)).symm
    | exact (bI_f (by omega)).symm
    | exact bI_c (by omega)
    | omega
theorem d139_0 {n : Nat} {X : aX} {h : aH} {P : Int → aH → Prop} {x0 : Int32} {a0 : Int} (S : wS h) (z0 : x0.toInt = a0) (H : P (bI (0 ≤ a0 ∧ a0 ≤ 9)) h) : Pt (n + 1) X zM139 0 [some (.int x0)] [] h (qI P) := by
  refine pt_1 (fun n d => r_iloadn gx139_0 rfl) ?_
  refine pt_d (pt_iconst gx139_1 (fun v1 h1 => ?_))
  refine pt_d (pt_bipush gx139_2 (fun v2 h2 => ?_))
  refine pt_d (pt_stat (as := [.int x0, .int v1, .int v2]) (r := []) gx139_4 rfl (show zmt[137]? = some zM137 from rfl) rfl rfl rfl rfl (c_137 S z0 h1 h2) (kqP (fun v3 h3 => ?_)))
  show Pt _ _ _ 7 _ [.int v3] _ _
  exact pt_d (pt_iret gx139_7 ⟨_, rfl, by rw [h3]; exact H⟩)
theorem c_139 {n : Nat} {X : aX} {h : aH} {x0 : Int32} {a0 : Int} (S : wS h) (z0 : x0.toInt = a0) : Pt n X zM139 0 [some (.int x0)] [] h (qI (fun y h' => h' = h ∧ y = bI (0 ≤ a0 ∧ a0 ≤ 9))) := by
  refine pt_d (d139_0 S z0 ?_)
  repeat' (first | (refine And.intro ?_ ?_) | intro _)
  all_goals first
    | rfl
    | exact (bI_t (by omega)).symm
    | exact (bI_f (by omega)).symm
    | exact bI_c (by omega)
    | omega
theorem d140_0 {n : Nat} {X : aX} {h : aH} {P : Int → aH → Prop} {x0 : Int32} {a0 : Int} (S : wS h) (z0 : x0.toInt = a0) (H : P (bI (0 ≤ a0 ∧ a0 ≤ 3)) h) : Pt (n + 1) X zM140 0 [some (.int x0)] [] h (qI P) := by
  refine pt_1 (fun n d => r_iloadn gx140_0 rfl) ?_
  refine pt_d (pt_iconst gx140_1 (fun v1 h1 => ?_))
  refine pt_d (pt_iconst gx140_2 (fun v2 h2 => ?_))
  refine pt_d (pt_stat (as := [.int x0, .int v1, .int v2]) (r := []) gx140_3 rfl (show zmt[137]? = some zM137 from rfl) rfl rfl rfl rfl (c_137 S z0 h1 h2) (kqP (fun v3 h3 => ?_)))
  show Pt _ _ _ 6 _ [.int v3] _ _
  exact pt_d (pt_iret gx140_6 ⟨_, rfl, by rw [h3]; exact H⟩)
theorem c_140 {n : Nat} {X : aX} {h : aH} {x0 : Int32} {a0 : Int} (S : wS h) (z0 : x0.toInt = a0) : Pt n X zM140 0 [some (.int x0)] [] h (qI (fun y h' => h' = h ∧ y = bI (0 ≤ a0 ∧ a0 ≤ 3))) := by
  refine pt_d (d140_0 S z0 ?_)
  repeat' (first | (refine And.intro ?_ ?_) | intro _)
  all_goals first
    | rfl
    | exact (bI_t (by omega)).symm
    | exact (bI_f (by omega)).symm
    | exact bI_c (by omega)
    | omega
theorem d141_0 {n : Nat} {X : aX} {h : aH} {P : Int → aH → Prop} {x0 : Int32} {a0 : Int} (S : wS h) (z0 : x0.toInt = a0) (H : P (bI (0 ≤ a0 ∧ a0 ≤ 7)) h) : Pt (n + 1) X zM141 0 [some (.int x0)] [] h (qI P) := by
  refine pt_1 (fun n d => r_iloadn gx141_0 rfl) ?_
  refine pt_d (pt_iconst gx141_1 (fun v1 h1 => ?_))
  refine pt_d (pt_bipush gx141_2 (fun v2 h2 => ?_))
  refine pt_d (pt_stat (as := [.int x0, .int v1, .int v2]) (r := []) gx141_4 rfl (show zmt[137]? = some zM137 from rfl) rfl rfl rfl rfl (c_137 S z0 h1 h2) (kqP (fun v3 h3 => ?_)))
  show Pt _ _ _ 7 _ [.int v3] _ _
  exact pt_d (pt_iret gx141_7 ⟨_, rfl, by rw [h3]; exact H⟩)
theorem c_141 {n : Nat} {X : aX} {h : aH} {x0 : Int32} {a0 : Int} (S : wS h) (z0 : x0.toInt = a0) : Pt n X zM141 0 [some (.int x0)] [] h (qI (fun y h' => h' = h ∧ y = bI (0 ≤ a0 ∧ a0 ≤ 7))) := by
  refine pt_d (d141_0 S z0 ?_)
  repeat' (first | (refine And.intro ?_ ?_) | intro _)
  all_goals first
    | rfl
    | exact (bI_t (by omega)).symm
    | exact (bI_f (by omega)).symm
    | exact bI_c (by omega)
    | omega
theorem d197_0 {n : Nat} {X : aX} {h : aH} {P : Int → aH → Prop} {x0 : Int32} {a0 : Int} (S : wS h) (z0 : x0.toInt = a0) (H : P (bI (0 ≤ a0 ∧ a0 ≤ 3649)) h) : Pt (n + 1) X zM197 0 [some (.int x0)] [] h (qI P) := by
  refine pt_1 (fun n d => r_iloadn gx197_0 rfl) ?_
  refine pt_d (pt_iconst gx197_1 (fun v1 h1 => ?_))
  refine pt_d (pt_sipush gx197_2 (fun v2 h2 => ?_))
  refine pt_d (pt_stat (as := [.int x0, .int v1, .int v2]) (r := []) gx197_5 rfl (show zmt[196]? = some zM196 from rfl) rfl rfl rfl rfl (c_196 S z0 h1 h2) (kqP (fun v3 h3 => ?_)))
  show Pt _ _ _ 8 _ [.int v3] _ _
  exact pt_d (pt_iret gx197_8 ⟨_, rfl, by rw [h3]; exact H⟩)
theorem c_197 {n : Nat} {X : aX} {h : aH} {x0 : Int32} {a0 : Int} (S : wS h) (z0 : x0.toInt = a0) : Pt n X zM197 0 [some (.int x0)] [] h (qI (fun y h' => h' = h ∧ y = bI (0 ≤ a0 ∧ a0 ≤ 3649))) := by
  refine pt_d (d197_0 S z0 ?_)
  repeat' (first | (refine And.intro ?_ ?_) | intro _)
  all_goals first
    | rfl
    | exact (bI_t (by omega)).symm
    | exact (bI_f (by omega)).symm
    | exact bI_c (by omega)
    | omega
theorem d198_0 {n : Nat} {X : aX} {h : aH} {P : Int → aH → Prop} {x0 : Int32} {a0 : Int} (S : wS h) (z0 : x0.toInt = a0) (H : P (bI (0 ≤ a0 ∧ a0 ≤ 9)) h) : Pt (n + 1) X zM198 0 [some (.int x0)] [] h (qI P) := by
  refine pt_1 (fun n d => r_iloadn gx198_0 rfl) ?_
  refine pt_d (pt_iconst gx198_1 (fun v1 h1 => ?_))
  refine pt_d (pt_bipush gx198_2 (fun v2 h2 => ?_))
  refine pt_d (pt_stat (as := [.int x0, .int v1, .int v2]) (r := []) gx198_4 rfl (show zmt[196]? = some zM196 from rfl) rfl rfl rfl rfl (c_196 S z0 h1 h2) (kqP (fun v3 h3 => ?_)))
  show Pt _ _ _ 7 _ [.int v3] _ _
  exact pt_d (pt_iret gx198_7 ⟨_, rfl, by rw [h3]; exact H⟩)
theorem c_198 {n : Nat} {X : aX} {h : aH} {x0 : Int32} {a0 : Int} (S : wS h) (z0 : x0.toInt = a0) : Pt n X zM198 0 [some (.int x0)] [] h (qI (fun y h' => h' = h ∧ y = bI (0 ≤ a0 ∧ a0 ≤ 9))) := by
  refine pt_d (d198_0 S z0 ?_)
  repeat' (first | (refine And.intro ?_ ?_) | intro _)
  all_goals first
    | rfl
    | exact (bI_t (by omega)).symm
    | exact (bI_f (by omega)).symm
    | exact bI_c (by omega)
    | omega
theorem d206_0 {n : Nat} {X : aX} {h : aH} {P : Int → aH → Prop} {x0 : Int32} {a0 : Int} (S : wS h) (z0 : x0.toInt = a0) (H : P (bI (0 ≤ a0 ∧ a0 ≤ 3)) h) : Pt (n + 1) X zM206 0 [some (.int x0)] [] h (qI P) := by
  refine pt_1 (fun n d => r_iloadn gx206_0 rfl) ?_
  refine pt_d (pt_iconst gx206_1 (fun v1 h1 => ?_))
  refine pt_d (pt_iconst gx206_2 (fun v2 h2 => ?_))
  refine pt_d (pt_stat (as := [.int x0, .int v1, .int v2]) (r := []) gx206_3 rfl (show zmt[196]? = some zM196 from rfl) rfl rfl rfl rfl (c_196 S z0 h1 h2) (kqP (fun v3 h3 => ?_)))
  show Pt _ _ _ 6 _ [.int v3] _ _
  exact pt_d (pt_iret gx206_6 ⟨_, rfl, by rw [h3]; exact H⟩)
theorem c_206 {n : Nat} {X : aX} {h : aH} {x0 : Int32} {a0 : Int} (S : wS h) (z0 : x0.toInt = a0) : Pt n X zM206 0 [some (.int x0)] [] h (qI (fun y h' => h' = h ∧ y = bI (0 ≤ a0 ∧ a0 ≤ 3))) := by
  refine pt_d (d206_0 S z0 ?_)
  repeat' (first | (refine And.intro ?_ ?_) | intro _)
  all_goals first
    | rfl
    | exact (bI_t (by omega)).symm
    | exact (bI_f (by omega)).symm
    | exact bI_c (by omega)
    | omega
theorem d71_0 {n : Nat} {X : aX} {h : aH} {P : Int → aH → Prop} {x0 : Int32} {a0 : Int} (S : wS h) (z0 : x0.toInt = a0) (H : (((1 ≤ a0 ∧ a0 ≤ 3) → P 1 h) ∧ (¬ (1 ≤ a0 ∧ a0 ≤ 3) → ((a0 ≠ 7 → P 0 h) ∧ (a0 = 7 → P 1 h))))) : Pt (n + 1) X zM71 0 [some (.int x0)] [] h (qI P) := by
  refine pt_1 (fun n d => r_iloadn gx71_0 rfl) ?_
  refine pt_d (pt_iconst gx71_1 (fun v1 h1 => ?_))
  refine pt_d (pt_iconst gx71_2 (fun v2 h2 => ?_))
  refine pt_d (pt_stat (as := [.int x0, .int v1, .int v2]) (r := []) gx71_3 rfl (show zmt[137]? = some zM137 from rfl) rfl rfl rfl rfl (c_137 S z0 h1 h2) (kqP (fun v3 h3 => ?_)))
  show Pt _ _ _ 6 _ [.int v3] _ _
  refine pt_d (pt_ifB_ne gx71_6 h3 (fun e4 => ?_) (fun e4 => ?_))
  · have H := H.1 e4
    refine pt_d (pt_iconst gx71_15 (fun v5 h5 => ?_))
    refine pt_d (pt_1 (fun n d => r_goto gx71_16) ?_)
    exact pt_d (pt_iret gx71_20 ⟨_, rfl, by rw [h5]; exact H⟩)
  · have H := H.2 e4
    refine pt_d (pt_1 (fun n d => r_iloadn gx71_9 rfl) ?_)
    refine pt_d (pt_bipush gx71_10 (fun v6 h6 => ?_))
    refine pt_d (pt_icmp_ne gx71_12 z0 h6 (fun e7 => ?_) (fun e7 => ?_))
    · have H := H.1 e7
      refine pt_d (pt_iconst gx71_19 (fun v8 h8 => ?_))
      exact pt_d (pt_iret gx71_20 ⟨_, rfl, by rw [h8]; exact H⟩)
    · have H := H.2 e7
      refine pt_d (pt_iconst gx71_15 (fun v9 h9 => ?_))
      refine pt_d (pt_1 (fun n d => r_goto gx71_16) ?_)
      exact pt_d (pt_iret gx71_20 ⟨_, rfl, by rw [h9]; exact H⟩)
theorem c_71 {n : Nat} {X : aX} {h : aH} {x0 : Int32} {a0 : Int} (S : wS h) (z0 : x0.toInt = a0) : Pt n X zM71 0 [some (.int x0)] [] h (qI (fun y h' => h' = h ∧ y = bI (kFarm a0))) := by
  refine pt_d (d71_0 S z0 ?_)
  repeat' (first | (refine And.intro ?_ ?_) | intro _)
  all_goals first
    | rfl
    | exact (bI_t (by omega)).symm
    | exact (bI_f (by omega)).symm
    | exact bI_c (by omega)
    | exact (bI_t (by simp only [kFarm, uF] at *; omega)).symm
    | exact (bI_f (by simp only [kFarm, uF] at *; omega)).symm
    | exact bI_c (by simp only [kFarm, uF] at *; omega)
    | exact bI_c (by grind)
    | exact (bI_t (by grind)).symm
    | exact (bI_f (by grind)).symm
    | omega
theorem d73_0 {n : Nat} {X : aX} {h : aH} {P : Int → aH → Prop} (S : wS h) (H : ((vw h 1 1 < 150 → P 0 h) ∧ (150 ≤ vw h 1 1 → P 1 h))) : Pt (n + 1) X zM73 0 [some (.ref 1)] [] h (qI P) := by
  refine pt_1 (fun n d => r_aloadn gx73_0 rfl) ?_
  refine pt_d (pt_getI (B := 1) gx73_1 S (fun v1 h1 => ?_))
  refine pt_d (pt_sipush gx73_4 (fun v2 h2 => ?_))
  refine pt_d (pt_icmp_lt gx73_7 h1 h2 (fun e3 => ?_) (fun e3 => ?_))
  · have H := H.1 e3
    refine pt_d (pt_iconst gx73_14 (fun v4 h4 => ?_))
    exact pt_d (pt_iret gx73_15 ⟨_, rfl, by rw [h4]; exact H⟩)
  · have H := H.2 e3
    refine pt_d (pt_iconst gx73_10 (fun v5 h5 => ?_))
    refine pt_d (pt_1 (fun n d => r_goto gx73_11) ?_)
    exact pt_d (pt_iret gx73_15 ⟨_, rfl, by rw [h5]; exact H⟩)
theorem c_73 {n : Nat} {X : aX} {h : aH} (S : wS h) : Pt n X zM73 0 [some (.ref 1)] [] h (qI (fun y h' => h' = h ∧ y = bI (150 ≤ (vw h) 1 1))) := by
  refine pt_d (d73_0 S  ?_)
  repeat' (first | (refine And.intro ?_ ?_) | intro _)
  all_goals first
    | rfl
    | exact (bI_t (by omega)).symm
    | exact (bI_f (by omega)).symm
    | exact bI_c (by omega)
    | omega
theorem d74_0 {n : Nat} {X : aX} {h : aH} {P : Int → aH → Prop} {x1 : Int32} {a1 : Int} (S : wS h) (z1 : x1.toInt = a1) (H : P (bI (0 ≤ a1 ∧ a1 ≤ (w32 ((vw h 1 1) - 1)))) h) : Pt (n + 1) X zM74 0 [some (.ref 1), some (.int x1)] [] h (qI P) := by
  refine pt_1 (fun n d => r_iloadn gx74_0 rfl) ?_
  refine pt_d (pt_iconst gx74_1 (fun v1 h1 => ?_))
  refine pt_d (pt_1 (fun n d => r_aloadn gx74_2 rfl) ?_)
  refine pt_d (pt_getI (B := 1) gx74_3 S (fun v2 h2 => ?_))
  refine pt_d (pt_iconst gx74_6 (fun v3 h3 => ?_))
  refine pt_d (pt_isub gx74_7 h2 h3 (fun v4 h4 => ?_))
  refine pt_d (pt_stat (as := [.int x1, .int v1, .int v4]) (r := []) gx74_8 rfl (show zmt[137]? = some zM137 from rfl) rfl rfl rfl rfl (c_137 S z1 h1 h4) (kqP (fun v5 h5 => ?_)))
  show Pt _ _ _ 11 _ [.int v5] _ _
  exact pt_d (pt_iret gx74_11 ⟨_, rfl, by rw [h5]; exact H⟩)
theorem c_74 {n : Nat} {X : aX} {h : aH} {x1 : Int32} {a1 : Int} (S : wS h) (z1 : x1.toInt = a1) : Pt n X zM74 0 [some (.ref 1), some (.int x1)] [] h (qI (fun y h' => h' = h ∧ y = bI (cBody (vw h) a1))) := by
  refine pt_d (d74_0 S z1 ?_)
  repeat' (first | (refine And.intro ?_ ?_) | intro _)
  all_goals first
    | rfl
    | exact (bI_t (by omega)).symm
    | exact (bI_f (by omega)).symm
    | exact bI_c (by omega)
    | omega
theorem d75_0 {n : Nat} {X : aX} {h : aH} {P : Int → aH → Prop} {x1 : Int32} {a1 : Int} (S : wS h) (z1 : x1.toInt = a1) (H : ((¬ (cBody (vw h) a1) → P 0 h) ∧ ((cBody (vw h) a1) → (0 ≤ a1 → a1 < 150 → ((¬ (kFarm (vw h 2 a1)) → P 0 h) ∧ ((kFarm (vw h 2 a1)) → P 1 h)))))) : Pt (n + 1) X zM75 0 [some (.ref 1), some (.int x1)] [] h (qI P) := by
  refine pt_1 (fun n d => r_aloadn gx75_0 rfl) ?_
  refine pt_d (pt_1 (fun n d => r_iloadn gx75_1 rfl) ?_)
  refine pt_d (pt_virt (as := [.int x1]) (r := []) gx75_2 rfl (show zmt[74]? = some zM74 from rfl) rfl rfl rfl rfl (c_74 S z1) (kqP (fun v1 h1 => ?_)))
  show Pt _ _ _ 5 _ [.int v1] _ _
  refine pt_d (pt_ifB_eq gx75_5 h1 (fun e2 => ?_) (fun e2 => ?_))
  · have H := H.1 e2
    refine pt_d (pt_iconst gx75_24 (fun v3 h3 => ?_))
    exact pt_d (pt_iret gx75_25 ⟨_, rfl, by rw [h3]; exact H⟩)
  · have H := H.2 e2
    refine pt_d (pt_1 (fun n d => r_aloadn gx75_8 rfl) ?_)
    refine pt_d (pt_getR gx75_9 S tr_1_7 ?_)
    refine pt_d (pt_1 (fun n d => r_iloadn gx75_12 rfl) ?_)
    refine pt_d (pt_iald (N' := 150) gx75_13 S tl_2 z1 (fun v5 p5 q5 h5 => ?_))
    have H := H p5 q5
    refine pt_d (pt_stat (as := [.int v5]) (r := []) gx75_14 rfl (show zmt[71]? = some zM71 from rfl) rfl rfl rfl rfl (c_71 S h5) (kqP (fun v6 h6 => ?_)))
    show Pt _ _ _ 17 _ [.int v6] _ _
    refine pt_d (pt_ifB_eq gx75_17 h6 (fun e7 => ?_) (fun e7 => ?_))
    · have H := H.1 e7
      refine pt_d (pt_iconst gx75_24 (fun v8 h8 => ?_))
      exact pt_d (pt_iret gx75_25 ⟨_, rfl, by rw [h8]; exact H⟩)
    · have H := H.2 e7
      refine pt_d (pt_iconst gx75_20 (fun v9 h9 => ?_))
      refine pt_d (pt_1 (fun n d => r_goto gx75_21) ?_)
      exact pt_d (pt_iret gx75_25 ⟨_, rfl, by rw [h9]; exact H⟩)
theorem c_75 {n : Nat} {X : aX} {h : aH} {x1 : Int32} {a1 : Int} (S : wS h) (z1 : x1.toInt = a1) : Pt n X zM75 0 [some (.ref 1), some (.int x1)] [] h (qI (fun y h' => h' = h ∧ y = bI (cFarm (vw h) a1))) := by
  refine pt_d (d75_0 S z1 ?_)
  repeat' (first | (refine And.intro ?_ ?_) | intro _)
  all_goals first
    | rfl
    | exact (bI_t (by omega)).symm
    | exact (bI_f (by omega)).symm
    | exact bI_c (by omega)
    | exact (bI_t (by simp only [kFarm, uF] at *; omega)).symm
    | exact (bI_f (by simp only [kFarm, uF] at *; omega)).symm
    | exact bI_c (by simp only [kFarm, uF] at *; omega)
    | exact bI_c (by unfold cFarm; grind)
    | exact (bI_t (by unfold cFarm; grind)).symm
    | exact (bI_f (by unfold cFarm; grind)).symm
    | omega
theorem d77_0 {n : Nat} {X : aX} {h : aH} {P : Int → aH → Prop} {x1 : Int32} {a1 : Int} (S : wS h) (z1 : x1.toInt = a1) (H : ((¬ (cBody (vw h) a1) → P 0 h) ∧ ((cBody (vw h) a1) → (0 ≤ a1 → a1 < 150 → ((¬ (4 ≤ (vw h 2 a1) ∧ (vw h 2 a1) ≤ 5) → P 0 h) ∧ ((4 ≤ (vw h 2 a1) ∧ (vw h 2 a1) ≤ 5) → P 1 h)))))) : Pt (n + 1) X zM77 0 [some (.ref 1), some (.int x1)] [] h (qI P) := by
  refine pt_1 (fun n d => r_aloadn gx77_0 rfl) ?_
  refine pt_d (pt_1 (fun n d => r_iloadn gx77_1 rfl) ?_)
  refine pt_d (pt_virt (as := [.int x1]) (r := []) gx77_2 rfl (show zmt[74]? = some zM74 from rfl) rfl rfl rfl rfl (c_74 S z1) (kqP (fun v1 h1 => ?_)))
  show Pt _ _ _ 5 _ [.int v1] _ _
  refine pt_d (pt_ifB_eq gx77_5 h1 (fun e2 => ?_) (fun e2 => ?_))
  · have H := H.1 e2
    refine pt_d (pt_iconst gx77_26 (fun v3 h3 => ?_))
    exact pt_d (pt_iret gx77_27 ⟨_, rfl, by rw [h3]; exact H⟩)
  · have H := H.2 e2
    refine pt_d (pt_1 (fun n d => r_aloadn gx77_8 rfl) ?_)
    refine pt_d (pt_getR gx77_9 S tr_1_7 ?_)
    refine pt_d (pt_1 (fun n d => r_iloadn gx77_12 rfl) ?_)
    refine pt_d (pt_iald (N' := 150) gx77_13 S tl_2 z1 (fun v5 p5 q5 h5 => ?_))
    have H := H p5 q5
    refine pt_d (pt_iconst gx77_14 (fun v6 h6 => ?_))
    refine pt_d (pt_iconst gx77_15 (fun v7 h7 => ?_))
    refine pt_d (pt_stat (as := [.int v5, .int v6, .int v7]) (r := []) gx77_16 rfl (show zmt[137]? = some zM137 from rfl) rfl rfl rfl rfl (c_137 S h5 h6 h7) (kqP (fun v8 h8 => ?_)))
    show Pt _ _ _ 19 _ [.int v8] _ _
    refine pt_d (pt_ifB_eq gx77_19 h8 (fun e9 => ?_) (fun e9 => ?_))
    · have H := H.1 e9
      refine pt_d (pt_iconst gx77_26 (fun v10 h10 => ?_))
      exact pt_d (pt_iret gx77_27 ⟨_, rfl, by rw [h10]; exact H⟩)
    · have H := H.2 e9
      refine pt_d (pt_iconst gx77_22 (fun v11 h11 => ?_))
      refine pt_d (pt_1 (fun n d => r_goto gx77_23) ?_)
      exact pt_d (pt_iret gx77_27 ⟨_, rfl, by rw [h11]; exact H⟩)
theorem c_77 {n : Nat} {X : aX} {h : aH} {x1 : Int32} {a1 : Int} (S : wS h) (z1 : x1.toInt = a1) : Pt n X zM77 0 [some (.ref 1), some (.int x1)] [] h (qI (fun y h' => h' = h ∧ y = bI (cField (vw h) a1))) := by
  refine pt_d (d77_0 S z1 ?_)
  repeat' (first | (refine And.intro ?_ ?_) | intro _)
  all_goals first
    | rfl
    | exact (bI_t (by omega)).symm
    | exact (bI_f (by omega)).symm
    | exact bI_c (by omega)
    | exact (bI_t (by simp only [kFarm, uF] at *; omega)).symm
    | exact (bI_f (by simp only [kFarm, uF] at *; omega)).symm
    | exact bI_c (by simp only [kFarm, uF] at *; omega)
    | exact bI_c (by unfold cField; grind)
    | exact (bI_t (by unfold cField; grind)).symm
    | exact (bI_f (by unfold cField; grind)).symm
    | omega
theorem d78_0 {n : Nat} {X : aX} {h : aH} {P : Int → aH → Prop} {x1 : Int32} {a1 : Int} (S : wS h) (z1 : x1.toInt = a1) (H : ((¬ (cBody (vw h) a1) → P 0 h) ∧ ((cBody (vw h) a1) → (0 ≤ a1 → a1 < 150 → ((¬ (4 ≤ (vw h 2 a1) ∧ (vw h 2 a1) ≤ 6) → P 0 h) ∧ ((4 ≤ (vw h 2 a1) ∧ (vw h 2 a1) ≤ 6) → P 1 h)))))) : Pt (n + 1) X zM78 0 [some (.ref 1), some (.int x1)] [] h (qI P) := by
  refine pt_1 (fun n d => r_aloadn gx78_0 rfl) ?_
  refine pt_d (pt_1 (fun n d => r_iloadn gx78_1 rfl) ?_)
  refine pt_d (pt_virt (as := [.int x1]) (r := []) gx78_2 rfl (show zmt[74]? = some zM74 from rfl) rfl rfl rfl rfl (c_74 S z1) (kqP (fun v1 h1 => ?_)))
  show Pt _ _ _ 5 _ [.int v1] _ _
  refine pt_d (pt_ifB_eq gx78_5 h1 (fun e2 => ?_) (fun e2 => ?_))
  · have H := H.1 e2
    refine pt_d (pt_iconst gx78_27 (fun v3 h3 => ?_))
    exact pt_d (pt_iret gx78_28 ⟨_, rfl, by rw [h3]; exact H⟩)
  · have H := H.2 e2
    refine pt_d (pt_1 (fun n d => r_aloadn gx78_8 rfl) ?_)
    refine pt_d (pt_getR gx78_9 S tr_1_7 ?_)
    refine pt_d (pt_1 (fun n d => r_iloadn gx78_12 rfl) ?_)
    refine pt_d (pt_iald (N' := 150) gx78_13 S tl_2 z1 (fun v5 p5 q5 h5 => ?_))
    have H := H p5 q5
    refine pt_d (pt_iconst gx78_14 (fun v6 h6 => ?_))
    refine pt_d (pt_bipush gx78_15 (fun v7 h7 => ?_))
    refine pt_d (pt_stat (as := [.int v5, .int v6, .int v7]) (r := []) gx78_17 rfl (show zmt[137]? = some zM137 from rfl) rfl rfl rfl rfl (c_137 S h5 h6 h7) (kqP (fun v8 h8 => ?_)))
    show Pt _ _ _ 20 _ [.int v8] _ _
    refine pt_d (pt_ifB_eq gx78_20 h8 (fun e9 => ?_) (fun e9 => ?_))
    · have H := H.1 e9
      refine pt_d (pt_iconst gx78_27 (fun v10 h10 => ?_))
      exact pt_d (pt_iret gx78_28 ⟨_, rfl, by rw [h10]; exact H⟩)
    · have H := H.2 e9
      refine pt_d (pt_iconst gx78_23 (fun v11 h11 => ?_))
      refine pt_d (pt_1 (fun n d => r_goto gx78_24) ?_)
      exact pt_d (pt_iret gx78_28 ⟨_, rfl, by rw [h11]; exact H⟩)
theorem c_78 {n : Nat} {X : aX} {h : aH} {x1 : Int32} {a1 : Int} (S : wS h) (z1 : x1.toInt = a1) : Pt n X zM78 0 [some (.ref 1), some (.int x1)] [] h (qI (fun y h' => h' = h ∧ y = bI (cHeld (vw h) a1))) := by
  refine pt_d (d78_0 S z1 ?_)
  repeat' (first | (refine And.intro ?_ ?_) | intro _)
  all_goals first
    | rfl
    | exact (bI_t (by omega)).symm
    | exact (bI_f (by omega)).symm
    | exact bI_c (by omega)
    | exact (bI_t (by simp only [kFarm, uF] at *; omega)).symm
    | exact (bI_f (by simp only [kFarm, uF] at *; omega)).symm
    | exact bI_c (by simp only [kFarm, uF] at *; omega)
    | exact bI_c (by unfold cHeld; grind)
    | exact (bI_t (by unfold cHeld; grind)).symm
    | exact (bI_f (by unfold cHeld; grind)).symm
    | omega
theorem d76_0 {n : Nat} {X : aX} {h : aH} {P : Int → aH → Prop} {x1 x2 : Int32} {a1 a2 : Int} (S : wS h) (z1 : x1.toInt = a1) (z2 : x2.toInt = a2) (H : ((¬ (cFarm (vw h) a1) → P 0 h) ∧ ((cFarm (vw h) a1) → (0 ≤ a1 → a1 < 150 → ((vw h 3 a1 ≠ a2 → P 0 h) ∧ (vw h 3 a1 = a2 → P 1 h)))))) : Pt (n + 1) X zM76 0 [some (.ref 1), some (.int x1), some (.int x2)] [] h (qI P) := by
  refine pt_1 (fun n d => r_aloadn gx76_0 rfl) ?_
  refine pt_d (pt_1 (fun n d => r_iloadn gx76_1 rfl) ?_)
  refine pt_d (pt_virt (as := [.int x1]) (r := []) gx76_2 rfl (show zmt[75]? = some zM75 from rfl) rfl rfl rfl rfl (c_75 S z1) (kqP (fun v1 h1 => ?_)))
  show Pt _ _ _ 5 _ [.int v1] _ _
  refine pt_d (pt_ifB_eq gx76_5 h1 (fun e2 => ?_) (fun e2 => ?_))
  · have H := H.1 e2
    refine pt_d (pt_iconst gx76_22 (fun v3 h3 => ?_))
    exact pt_d (pt_iret gx76_23 ⟨_, rfl, by rw [h3]; exact H⟩)
  · have H := H.2 e2
    refine pt_d (pt_1 (fun n d => r_aloadn gx76_8 rfl) ?_)
    refine pt_d (pt_getR gx76_9 S tr_1_8 ?_)
    refine pt_d (pt_1 (fun n d => r_iloadn gx76_12 rfl) ?_)
    refine pt_d (pt_iald (N' := 150) gx76_13 S tl_3 z1 (fun v5 p5 q5 h5 => ?_))
    have H := H p5 q5
    refine pt_d (pt_1 (fun n d => r_iloadn gx76_14 rfl) ?_)
    refine pt_d (pt_icmp_ne gx76_15 h5 z2 (fun e6 => ?_) (fun e6 => ?_))
    · have H := H.1 e6
      refine pt_d (pt_iconst gx76_22 (fun v7 h7 => ?_))
      exact pt_d (pt_iret gx76_23 ⟨_, rfl, by rw [h7]; exact H⟩)
    · have H := H.2 e6
      refine pt_d (pt_iconst gx76_18 (fun v8 h8 => ?_))
      refine pt_d (pt_1 (fun n d => r_goto gx76_19) ?_)
      exact pt_d (pt_iret gx76_23 ⟨_, rfl, by rw [h8]; exact H⟩)
theorem c_76 {n : Nat} {X : aX} {h : aH} {x1 x2 : Int32} {a1 a2 : Int} (S : wS h) (z1 : x1.toInt = a1) (z2 : x2.toInt = a2) : Pt n X zM76 0 [some (.ref 1), some (.int x1), some (.int x2)] [] h (qI (fun y h' => h' = h ∧ y = bI (cFarm (vw h) a1 ∧ (vw h) 3 a1 = a2))) := by
  refine pt_d (d76_0 S z1 z2 ?_)
  repeat' (first | (refine And.intro ?_ ?_) | intro _)
  all_goals first
    | rfl
    | exact (bI_t (by omega)).symm
    | exact (bI_f (by omega)).symm
    | exact bI_c (by omega)
    | exact (bI_t (by simp only [kFarm, uF] at *; omega)).symm
    | exact (bI_f (by simp only [kFarm, uF] at *; omega)).symm
    | exact bI_c (by simp only [kFarm, uF] at *; omega)
    | exact bI_c (by grind)
    | exact (bI_t (by grind)).symm
    | exact (bI_f (by grind)).symm
    | omega
theorem d200_0 {n : Nat} {X : aX} {h : aH} {P : Int → aH → Prop} {x1 : Int32} {a1 : Int} (S : wS h) (z1 : x1.toInt = a1) (H : P (bI (0 ≤ a1 ∧ a1 ≤ (w32 ((vw h 72 2) - 1)))) h) : Pt (n + 1) X zM200 0 [some (.ref 72), some (.int x1)] [] h (qI P) := by
  refine pt_1 (fun n d => r_iloadn gx200_0 rfl) ?_
  refine pt_d (pt_iconst gx200_1 (fun v1 h1 => ?_))
  refine pt_d (pt_1 (fun n d => r_aloadn gx200_2 rfl) ?_)
  refine pt_d (pt_getI (B := 2) gx200_3 S (fun v2 h2 => ?_))
  refine pt_d (pt_iconst gx200_6 (fun v3 h3 => ?_))
  refine pt_d (pt_isub gx200_7 h2 h3 (fun v4 h4 => ?_))
  refine pt_d (pt_stat (as := [.int x1, .int v1, .int v4]) (r := []) gx200_8 rfl (show zmt[196]? = some zM196 from rfl) rfl rfl rfl rfl (c_196 S z1 h1 h4) (kqP (fun v5 h5 => ?_)))
  show Pt _ _ _ 11 _ [.int v5] _ _
  exact pt_d (pt_iret gx200_11 ⟨_, rfl, by rw [h5]; exact H⟩)
theorem c_200 {n : Nat} {X : aX} {h : aH} {x1 : Int32} {a1 : Int} (S : wS h) (z1 : x1.toInt = a1) : Pt n X zM200 0 [some (.ref 72), some (.int x1)] [] h (qI (fun y h' => h' = h ∧ y = bI (mBody (vw h) a1))) := by
  refine pt_d (d200_0 S z1 ?_)
  repeat' (first | (refine And.intro ?_ ?_) | intro _)
  all_goals first
    | rfl
    | exact (bI_t (by omega)).symm
    | exact (bI_f (by omega)).symm
    | exact bI_c (by omega)
    | omega
theorem d201_0 {n : Nat} {X : aX} {h : aH} {P : Int → aH → Prop} {x0 x1 : Int32} {a0 a1 : Int} (S : wS h) (z0 : x0.toInt = a0) (z1 : x1.toInt = a1) (H : ((a1 = 0 → P 1 h) ∧ (a1 ≠ 0 → ((a0 ≠ a1 → ((a1 ≠ 1 → ((a1 ≠ 2 → ((a1 ≠ 4 → P 0 h) ∧ (a1 = 4 → ((a0 ≠ 5 → P 0 h) ∧ (a0 = 5 → P 1 h))))) ∧ (a1 = 2 → ((a0 ≠ 7 → P 0 h) ∧ (a0 = 7 → P 1 h))))) ∧ (a1 = 1 → ((a0 = 2 → P 1 h) ∧ (a0 ≠ 2 → ((a0 = 3 → P 1 h) ∧ (a0 ≠ 3 → ((a0 ≠ 7 → P 0 h) ∧ (a0 = 7 → P 1 h))))))))) ∧ (a0 = a1 → P 1 h))))) : Pt (n + 1) X zM201 0 [some (.int x0), some (.int x1)] [] h (qI P) := by
  refine pt_1 (fun n d => r_iloadn gx201_0 rfl) ?_
  refine pt_d (pt_if_eq gx201_1 z1 (fun e1 => ?_) (fun e1 => ?_))
  · have H := H.1 e1
    refine pt_d (pt_iconst gx201_9 (fun v2 h2 => ?_))
    exact pt_d (pt_iret gx201_10 ⟨_, rfl, by rw [h2]; exact H⟩)
  · have H := H.2 e1
    refine pt_d (pt_1 (fun n d => r_iloadn gx201_4 rfl) ?_)
    refine pt_d (pt_1 (fun n d => r_iloadn gx201_5 rfl) ?_)
    refine pt_d (pt_icmp_ne gx201_6 z0 z1 (fun e3 => ?_) (fun e3 => ?_))
    · have H := H.1 e3
      refine pt_d (pt_1 (fun n d => r_iloadn gx201_11 rfl) ?_)
      refine pt_d (pt_iconst gx201_12 (fun v4 h4 => ?_))
      refine pt_d (pt_icmp_ne gx201_13 z1 h4 (fun e5 => ?_) (fun e5 => ?_))
      · have H := H.1 e5
        refine pt_d (pt_1 (fun n d => r_iloadn gx201_38 rfl) ?_)
        refine pt_d (pt_iconst gx201_39 (fun v6 h6 => ?_))
        refine pt_d (pt_icmp_ne gx201_40 z1 h6 (fun e7 => ?_) (fun e7 => ?_))
        · have H := H.1 e7
          refine pt_d (pt_1 (fun n d => r_iloadn gx201_55 rfl) ?_)
          refine pt_d (pt_iconst gx201_56 (fun v8 h8 => ?_))
          refine pt_d (pt_icmp_ne gx201_57 z1 h8 (fun e9 => ?_) (fun e9 => ?_))
          · have H := H.1 e9
            refine pt_d (pt_iconst gx201_69 (fun v10 h10 => ?_))
            exact pt_d (pt_iret gx201_70 ⟨_, rfl, by rw [h10]; exact H⟩)
          · have H := H.2 e9
            refine pt_d (pt_1 (fun n d => r_iloadn gx201_60 rfl) ?_)
            refine pt_d (pt_iconst gx201_61 (fun v11 h11 => ?_))
            refine pt_d (pt_icmp_ne gx201_62 z0 h11 (fun e12 => ?_) (fun e12 => ?_))
            · have H := H.1 e12
              refine pt_d (pt_iconst gx201_69 (fun v13 h13 => ?_))
              exact pt_d (pt_iret gx201_70 ⟨_, rfl, by rw [h13]; exact H⟩)
            · have H := H.2 e12
              refine pt_d (pt_iconst gx201_65 (fun v14 h14 => ?_))
              refine pt_d (pt_1 (fun n d => r_goto gx201_66) ?_)
              exact pt_d (pt_iret gx201_70 ⟨_, rfl, by rw [h14]; exact H⟩)
        · have H := H.2 e7
          refine pt_d (pt_1 (fun n d => r_iloadn gx201_43 rfl) ?_)
          refine pt_d (pt_bipush gx201_44 (fun v15 h15 => ?_))
          refine pt_d (pt_icmp_ne gx201_46 z0 h15 (fun e16 => ?_) (fun e16 => ?_))
          · have H := H.1 e16
            refine pt_d (pt_iconst gx201_53 (fun v17 h17 => ?_))
            exact pt_d (pt_iret gx201_54 ⟨_, rfl, by rw [h17]; exact H⟩)
          · have H := H.2 e16
            refine pt_d (pt_iconst gx201_49 (fun v18 h18 => ?_))
            refine pt_d (pt_1 (fun n d => r_goto gx201_50) ?_)
            exact pt_d (pt_iret gx201_54 ⟨_, rfl, by rw [h18]; exact H⟩)
      · have H := H.2 e5
        refine pt_d (pt_1 (fun n d => r_iloadn gx201_16 rfl) ?_)
        refine pt_d (pt_iconst gx201_17 (fun v19 h19 => ?_))
        refine pt_d (pt_icmp_eq gx201_18 z0 h19 (fun e20 => ?_) (fun e20 => ?_))
        · have H := H.1 e20
          refine pt_d (pt_iconst gx201_32 (fun v21 h21 => ?_))
          refine pt_d (pt_1 (fun n d => r_goto gx201_33) ?_)
          exact pt_d (pt_iret gx201_37 ⟨_, rfl, by rw [h21]; exact H⟩)
        · have H := H.2 e20
          refine pt_d (pt_1 (fun n d => r_iloadn gx201_21 rfl) ?_)
          refine pt_d (pt_iconst gx201_22 (fun v22 h22 => ?_))
          refine pt_d (pt_icmp_eq gx201_23 z0 h22 (fun e23 => ?_) (fun e23 => ?_))
          · have H := H.1 e23
            refine pt_d (pt_iconst gx201_32 (fun v24 h24 => ?_))
            refine pt_d (pt_1 (fun n d => r_goto gx201_33) ?_)
            exact pt_d (pt_iret gx201_37 ⟨_, rfl, by rw [h24]; exact H⟩)
          · have H := H.2 e23
            refine pt_d (pt_1 (fun n d => r_iloadn gx201_26 rfl) ?_)
            refine pt_d (pt_bipush gx201_27 (fun v25 h25 => ?_))
            refine pt_d (pt_icmp_ne gx201_29 z0 h25 (fun e26 => ?_) (fun e26 => ?_))
            · have H := H.1 e26
              refine pt_d (pt_iconst gx201_36 (fun v27 h27 => ?_))
              exact pt_d (pt_iret gx201_37 ⟨_, rfl, by rw [h27]; exact H⟩)
            · have H := H.2 e26
              refine pt_d (pt_iconst gx201_32 (fun v28 h28 => ?_))
              refine pt_d (pt_1 (fun n d => r_goto gx201_33) ?_)
              exact pt_d (pt_iret gx201_37 ⟨_, rfl, by rw [h28]; exact H⟩)
    · have H := H.2 e3
      refine pt_d (pt_iconst gx201_9 (fun v29 h29 => ?_))
      exact pt_d (pt_iret gx201_10 ⟨_, rfl, by rw [h29]; exact H⟩)
theorem c_201 {n : Nat} {X : aX} {h : aH} {x0 x1 : Int32} {a0 a1 : Int} (S : wS h) (z0 : x0.toInt = a0) (z1 : x1.toInt = a1) : Pt n X zM201 0 [some (.int x0), some (.int x1)] [] h (qI (fun y h' => h' = h ∧ y = bI (uF a0 a1))) := by
  refine pt_d (d201_0 S z0 z1 ?_)
  repeat' (first | (refine And.intro ?_ ?_) | intro _)
  all_goals first
    | rfl
    | exact (bI_t (by omega)).symm
    | exact (bI_f (by omega)).symm
    | exact bI_c (by omega)
    | exact (bI_t (by simp only [kFarm, uF] at *; omega)).symm
    | exact (bI_f (by simp only [kFarm, uF] at *; omega)).symm
    | exact bI_c (by simp only [kFarm, uF] at *; omega)
    | exact bI_c (by grind)
    | exact (bI_t (by grind)).symm
    | exact (bI_f (by grind)).symm
    | omega
theorem d202_0 {n : Nat} {X : aX} {h : aH} {P : Int → aH → Prop} {x1 : Int32} {a1 : Int} (S : wS h) (z1 : x1.toInt = a1) (H : ((¬ (mBody (vw h) a1) → P 0 h) ∧ ((mBody (vw h) a1) → (0 ≤ a1 → a1 < 150 → ((¬ (uF (vw h 73 a1) 1) → P 0 h) ∧ ((uF (vw h 73 a1) 1) → P 1 h)))))) : Pt (n + 1) X zM202 0 [some (.ref 72), some (.int x1)] [] h (qI P) := by
  refine pt_1 (fun n d => r_aloadn gx202_0 rfl) ?_
  refine pt_d (pt_1 (fun n d => r_iloadn gx202_1 rfl) ?_)
  refine pt_d (pt_virt (as := [.int x1]) (r := []) gx202_2 rfl (show zmt[200]? = some zM200 from rfl) rfl rfl rfl rfl (c_200 S z1) (kqP (fun v1 h1 => ?_)))
  show Pt _ _ _ 5 _ [.int v1] _ _
  refine pt_d (pt_ifB_eq gx202_5 h1 (fun e2 => ?_) (fun e2 => ?_))
  · have H := H.1 e2
    refine pt_d (pt_iconst gx202_25 (fun v3 h3 => ?_))
    exact pt_d (pt_iret gx202_26 ⟨_, rfl, by rw [h3]; exact H⟩)
  · have H := H.2 e2
    refine pt_d (pt_1 (fun n d => r_aloadn gx202_8 rfl) ?_)
    refine pt_d (pt_getR gx202_9 S tr_72_3 ?_)
    refine pt_d (pt_1 (fun n d => r_iloadn gx202_12 rfl) ?_)
    refine pt_d (pt_iald (N' := 150) gx202_13 S tl_73 z1 (fun v5 p5 q5 h5 => ?_))
    have H := H p5 q5
    refine pt_d (pt_iconst gx202_14 (fun v6 h6 => ?_))
    refine pt_d (pt_stat (as := [.int v5, .int v6]) (r := []) gx202_15 rfl (show zmt[201]? = some zM201 from rfl) rfl rfl rfl rfl (c_201 S h5 h6) (kqP (fun v7 h7 => ?_)))
    show Pt _ _ _ 18 _ [.int v7] _ _
    refine pt_d (pt_ifB_eq gx202_18 h7 (fun e8 => ?_) (fun e8 => ?_))
    · have H := H.1 e8
      refine pt_d (pt_iconst gx202_25 (fun v9 h9 => ?_))
      exact pt_d (pt_iret gx202_26 ⟨_, rfl, by rw [h9]; exact H⟩)
    · have H := H.2 e8
      refine pt_d (pt_iconst gx202_21 (fun v10 h10 => ?_))
      refine pt_d (pt_1 (fun n d => r_goto gx202_22) ?_)
      exact pt_d (pt_iret gx202_26 ⟨_, rfl, by rw [h10]; exact H⟩)
theorem c_202 {n : Nat} {X : aX} {h : aH} {x1 : Int32} {a1 : Int} (S : wS h) (z1 : x1.toInt = a1) : Pt n X zM202 0 [some (.ref 72), some (.int x1)] [] h (qI (fun y h' => h' = h ∧ y = bI (mFarm (vw h) a1))) := by
  refine pt_d (d202_0 S z1 ?_)
  repeat' (first | (refine And.intro ?_ ?_) | intro _)
  all_goals first
    | rfl
    | exact (bI_t (by omega)).symm
    | exact (bI_f (by omega)).symm
    | exact bI_c (by omega)
    | exact (bI_t (by simp only [kFarm, uF] at *; omega)).symm
    | exact (bI_f (by simp only [kFarm, uF] at *; omega)).symm
    | exact bI_c (by simp only [kFarm, uF] at *; omega)
    | exact bI_c (by unfold mFarm; grind)
    | exact (bI_t (by unfold mFarm; grind)).symm
    | exact (bI_f (by unfold mFarm; grind)).symm
    | omega
theorem d203_0 {n : Nat} {X : aX} {h : aH} {P : Int → aH → Prop} {x1 : Int32} {a1 : Int} (S : wS h) (z1 : x1.toInt = a1) (H : ((¬ (mBody (vw h) a1) → P 0 h) ∧ ((mBody (vw h) a1) → (0 ≤ a1 → a1 < 150 → ((¬ (uF (vw h 73 a1) 4) → P 0 h) ∧ ((uF (vw h 73 a1) 4) → P 1 h)))))) : Pt (n + 1) X zM203 0 [some (.ref 72), some (.int x1)] [] h (qI P) := by
  refine pt_1 (fun n d => r_aloadn gx203_0 rfl) ?_
  refine pt_d (pt_1 (fun n d => r_iloadn gx203_1 rfl) ?_)
  refine pt_d (pt_virt (as := [.int x1]) (r := []) gx203_2 rfl (show zmt[200]? = some zM200 from rfl) rfl rfl rfl rfl (c_200 S z1) (kqP (fun v1 h1 => ?_)))
  show Pt _ _ _ 5 _ [.int v1] _ _
  refine pt_d (pt_ifB_eq gx203_5 h1 (fun e2 => ?_) (fun e2 => ?_))
  · have H := H.1 e2
    refine pt_d (pt_iconst gx203_25 (fun v3 h3 => ?_))
    exact pt_d (pt_iret gx203_26 ⟨_, rfl, by rw [h3]; exact H⟩)
  · have H := H.2 e2
    refine pt_d (pt_1 (fun n d => r_aloadn gx203_8 rfl) ?_)
    refine pt_d (pt_getR gx203_9 S tr_72_3 ?_)
    refine pt_d (pt_1 (fun n d => r_iloadn gx203_12 rfl) ?_)
    refine pt_d (pt_iald (N' := 150) gx203_13 S tl_73 z1 (fun v5 p5 q5 h5 => ?_))
    have H := H p5 q5
    refine pt_d (pt_iconst gx203_14 (fun v6 h6 => ?_))
    refine pt_d (pt_stat (as := [.int v5, .int v6]) (r := []) gx203_15 rfl (show zmt[201]? = some zM201 from rfl) rfl rfl rfl rfl (c_201 S h5 h6) (kqP (fun v7 h7 => ?_)))
    show Pt _ _ _ 18 _ [.int v7] _ _
    refine pt_d (pt_ifB_eq gx203_18 h7 (fun e8 => ?_) (fun e8 => ?_))
    · have H := H.1 e8
      refine pt_d (pt_iconst gx203_25 (fun v9 h9 => ?_))
      exact pt_d (pt_iret gx203_26 ⟨_, rfl, by rw [h9]; exact H⟩)
    · have H := H.2 e8
      refine pt_d (pt_iconst gx203_21 (fun v10 h10 => ?_))
      refine pt_d (pt_1 (fun n d => r_goto gx203_22) ?_)
      exact pt_d (pt_iret gx203_26 ⟨_, rfl, by rw [h10]; exact H⟩)
theorem c_203 {n : Nat} {X : aX} {h : aH} {x1 : Int32} {a1 : Int} (S : wS h) (z1 : x1.toInt = a1) : Pt n X zM203 0 [some (.ref 72), some (.int x1)] [] h (qI (fun y h' => h' = h ∧ y = bI (mField (vw h) a1))) := by
  refine pt_d (d203_0 S z1 ?_)
  repeat' (first | (refine And.intro ?_ ?_) | intro _)
  all_goals first
    | rfl
    | exact (bI_t (by omega)).symm
    | exact (bI_f (by omega)).symm
    | exact bI_c (by omega)
    | exact (bI_t (by simp only [kFarm, uF] at *; omega)).symm
    | exact (bI_f (by simp only [kFarm, uF] at *; omega)).symm
    | exact bI_c (by simp only [kFarm, uF] at *; omega)
    | exact bI_c (by unfold mField; grind)
    | exact (bI_t (by unfold mField; grind)).symm
    | exact (bI_f (by unfold mField; grind)).symm
    | omega
theorem d82_0 {n : Nat} {X : aX} {h : aH} {P : Int → aH → Prop} {x1 x2 : Int32} {a1 a2 : Int} (S : wS h) (z1 : x1.toInt = a1) (z2 : x2.toInt = a2) (H : (0 ≤ w32 ((w32 (a1 * 24)) + a2) → w32 ((w32 (a1 * 24)) + a2) < 3600 → P (vw h 8 (w32 ((w32 (a1 * 24)) + a2))) h)) : Pt (n + 1) X zM82 0 [some (.ref 1), some (.int x1), some (.int x2)] [] h (qI P) := by
  refine pt_1 (fun n d => r_aloadn gx82_0 rfl) ?_
  refine pt_d (pt_getR gx82_1 S tr_1_13 ?_)
  refine pt_d (pt_1 (fun n d => r_iloadn gx82_4 rfl) ?_)
  refine pt_d (pt_bipush gx82_5 (fun v2 h2 => ?_))
  refine pt_d (pt_imul gx82_7 z1 h2 (fun v3 h3 => ?_))
  refine pt_d (pt_1 (fun n d => r_iloadn gx82_8 rfl) ?_)
  refine pt_d (pt_iadd gx82_9 h3 z2 (fun v4 h4 => ?_))
  refine pt_d (pt_iald (N' := 3600) gx82_10 S tl_8 h4 (fun v5 p5 q5 h5 => ?_))
  have H := H p5 q5
  exact pt_d (pt_iret gx82_11 ⟨_, rfl, by rw [h5]; exact H⟩)
theorem d211_0 {n : Nat} {X : aX} {h : aH} {P : Int → aH → Prop} {x0 x1 : Int32} {a0 a1 : Int} (S : wS h) (z0 : x0.toInt = a0) (z1 : x1.toInt = a1) (H : ((a1 ≤ a0 → P a1 h) ∧ (a0 < a1 → P a0 h))) : Pt (n + 1) X zM211 0 [some (.int x0), some (.int x1)] [] h (qI P) := by
  refine pt_1 (fun n d => r_iloadn gx211_0 rfl) ?_
  refine pt_d (pt_1 (fun n d => r_iloadn gx211_1 rfl) ?_)
  refine pt_d (pt_icmp_ge gx211_2 z0 z1 (fun e1 => ?_) (fun e1 => ?_))
  · have H := H.1 e1
    refine pt_d (pt_1 (fun n d => r_iloadn gx211_9 rfl) ?_)
    exact pt_d (pt_iret gx211_10 ⟨_, rfl, by rw [z1]; exact H⟩)
  · have H := H.2 e1
    refine pt_d (pt_1 (fun n d => r_iloadn gx211_5 rfl) ?_)
    refine pt_d (pt_1 (fun n d => r_goto gx211_6) ?_)
    exact pt_d (pt_iret gx211_10 ⟨_, rfl, by rw [z0]; exact H⟩)
theorem c_211 {n : Nat} {X : aX} {h : aH} {x0 x1 : Int32} {a0 a1 : Int} (S : wS h) (z0 : x0.toInt = a0) (z1 : x1.toInt = a1) : Pt n X zM211 0 [some (.int x0), some (.int x1)] [] h (qI (fun y h' => h' = h ∧ y = min a0 a1)) := by
  refine pt_d (d211_0 S z0 z1 ?_)
  repeat' (first | (refine And.intro ?_ ?_) | intro _)
  all_goals first
    | rfl
    | exact (bI_t (by omega)).symm
    | exact (bI_f (by omega)).symm
    | exact bI_c (by omega)
    | omega
theorem d212_0 {n : Nat} {X : aX} {h : aH} {P : Int → aH → Prop} {x0 x1 : Int32} {a0 a1 : Int} (S : wS h) (z0 : x0.toInt = a0) (z1 : x1.toInt = a1) (H : ((a0 ≤ a1 → P a1 h) ∧ (a1 < a0 → P a0 h))) : Pt (n + 1) X zM212 0 [some (.int x0), some (.int x1)] [] h (qI P) := by
  refine pt_1 (fun n d => r_iloadn gx212_0 rfl) ?_
  refine pt_d (pt_1 (fun n d => r_iloadn gx212_1 rfl) ?_)
  refine pt_d (pt_icmp_le gx212_2 z0 z1 (fun e1 => ?_) (fun e1 => ?_))
  · have H := H.1 e1
    refine pt_d (pt_1 (fun n d => r_iloadn gx212_9 rfl) ?_)
    exact pt_d (pt_iret gx212_10 ⟨_, rfl, by rw [z1]; exact H⟩)
  · have H := H.2 e1
    refine pt_d (pt_1 (fun n d => r_iloadn gx212_5 rfl) ?_)
    refine pt_d (pt_1 (fun n d => r_goto gx212_6) ?_)
    exact pt_d (pt_iret gx212_10 ⟨_, rfl, by rw [z0]; exact H⟩)
theorem c_212 {n : Nat} {X : aX} {h : aH} {x0 x1 : Int32} {a0 a1 : Int} (S : wS h) (z0 : x0.toInt = a0) (z1 : x1.toInt = a1) : Pt n X zM212 0 [some (.int x0), some (.int x1)] [] h (qI (fun y h' => h' = h ∧ y = max a0 a1)) := by
  refine pt_d (d212_0 S z0 z1 ?_)
  repeat' (first | (refine And.intro ?_ ?_) | intro _)
  all_goals first
    | rfl
    | exact (bI_t (by omega)).symm
    | exact (bI_f (by omega)).symm
    | exact bI_c (by omega)
    | omega

-- ===== 73.parse2: 3 texts =====
section
-- ===== by hand: the parser, its lines of signs =====
theorem f257_0 : aF 0 zM257.2.2.2.2.2.2.2 = some (0, (.aload_n 0), 1, 0, 0) := by decide +kernel
theorem f257_1 : aF 1 zM257.2.2.2.2.2.2.2 = some (1, (.invokevirtual 424), 3, 256, 0) := by decide +kernel
theorem f257_4 : aF 4 zM257.2.2.2.2.2.2.2 = some (4, (.aload_n 0), 1, 0, 0) := by decide +kernel
theorem f257_5 : aF 5 zM257.2.2.2.2.2.2.2 = some (5, (.getfield 397), 3, 12, 65) := by decide +kernel
theorem f257_8 : aF 8 zM257.2.2.2.2.2.2.2 = some (8, (.ifCond .ge 58), 3, 66, 0) := by decide +kernel
theorem f257_11 : aF 11 zM257.2.2.2.2.2.2.2 = some (11, (.aload_n 0), 1, 0, 0) := by decide +kernel
theorem f257_12 : aF 12 zM257.2.2.2.2.2.2.2 = some (12, (.invokevirtual 412), 3, 251, 0) := by decide +kernel
theorem f257_15 : aF 15 zM257.2.2.2.2.2.2.2 = some (15, (.bipush 42), 2, 0, 0) := by decide +kernel
theorem f257_17 : aF 17 zM257.2.2.2.2.2.2.2 = some (17, (.if_icmp .eq 21), 3, 38, 0) := by decide +kernel
theorem f257_20 : aF 20 zM257.2.2.2.2.2.2.2 = some (20, (.aload_n 0), 1, 0, 0) := by decide +kernel
theorem f257_21 : aF 21 zM257.2.2.2.2.2.2.2 = some (21, (.invokevirtual 412), 3, 251, 0) := by decide +kernel
theorem f257_24 : aF 24 zM257.2.2.2.2.2.2.2 = some (24, (.bipush 47), 2, 0, 0) := by decide +kernel
theorem f257_26 : aF 26 zM257.2.2.2.2.2.2.2 = some (26, (.if_icmp .eq 12), 3, 38, 0) := by decide +kernel
theorem f257_29 : aF 29 zM257.2.2.2.2.2.2.2 = some (29, (.aload_n 0), 1, 0, 0) := by decide +kernel
theorem f257_30 : aF 30 zM257.2.2.2.2.2.2.2 = some (30, (.invokevirtual 412), 3, 251, 0) := by decide +kernel
theorem f257_33 : aF 33 zM257.2.2.2.2.2.2.2 = some (33, (.bipush 37), 2, 0, 0) := by decide +kernel
theorem f257_35 : aF 35 zM257.2.2.2.2.2.2.2 = some (35, (.if_icmp .ne 31), 3, 66, 0) := by decide +kernel
theorem f257_38 : aF 38 zM257.2.2.2.2.2.2.2 = some (38, (.aload_n 0), 1, 0, 0) := by decide +kernel
theorem f257_39 : aF 39 zM257.2.2.2.2.2.2.2 = some (39, (.invokevirtual 412), 3, 251, 0) := by decide +kernel
theorem f257_42 : aF 42 zM257.2.2.2.2.2.2.2 = some (42, (.istore_n 1), 1, 0, 0) := by decide +kernel
theorem f257_43 : aF 43 zM257.2.2.2.2.2.2.2 = some (43, (.aload_n 0), 1, 0, 0) := by decide +kernel
theorem f257_44 : aF 44 zM257.2.2.2.2.2.2.2 = some (44, .dup, 1, 0, 0) := by decide +kernel
theorem f257_45 : aF 45 zM257.2.2.2.2.2.2.2 = some (45, (.getfield 394), 3, 12, 64) := by decide +kernel
theorem f257_48 : aF 48 zM257.2.2.2.2.2.2.2 = some (48, (.iconst 1), 1, 0, 0) := by decide +kernel
theorem f257_49 : aF 49 zM257.2.2.2.2.2.2.2 = some (49, .iadd, 1, 0, 0) := by decide +kernel
theorem f257_50 : aF 50 zM257.2.2.2.2.2.2.2 = some (50, (.putfield 394), 3, 12, 64) := by decide +kernel
theorem f257_53 : aF 53 zM257.2.2.2.2.2.2.2 = some (53, (.aload_n 0), 1, 0, 0) := by decide +kernel
theorem f257_54 : aF 54 zM257.2.2.2.2.2.2.2 = some (54, (.invokevirtual 424), 3, 256, 0) := by decide +kernel
theorem f257_57 : aF 57 zM257.2.2.2.2.2.2.2 = some (57, (.aload_n 0), 1, 0, 0) := by decide +kernel
theorem f257_58 : aF 58 zM257.2.2.2.2.2.2.2 = some (58, (.iload_n 1), 1, 0, 0) := by decide +kernel
theorem f257_59 : aF 59 zM257.2.2.2.2.2.2.2 = some (59, (.iconst 0), 1, 0, 0) := by decide +kernel
theorem f257_60 : aF 60 zM257.2.2.2.2.2.2.2 = some (60, (.invokevirtual 418), 3, 253, 0) := by decide +kernel
theorem f257_63 : aF 63 zM257.2.2.2.2.2.2.2 = some (63, (.goto (-59)), 3, 4, 0) := by decide +kernel
theorem f257_66 : aF 66 zM257.2.2.2.2.2.2.2 = some (66, .return_, 1, 0, 0) := by decide +kernel
theorem f258_0 : aF 0 zM258.2.2.2.2.2.2.2 = some (0, (.aload_n 0), 1, 0, 0) := by decide +kernel
theorem f258_1 : aF 1 zM258.2.2.2.2.2.2.2 = some (1, (.invokevirtual 430), 3, 257, 0) := by decide +kernel
theorem f258_4 : aF 4 zM258.2.2.2.2.2.2.2 = some (4, (.aload_n 0), 1, 0, 0) := by decide +kernel
theorem f258_5 : aF 5 zM258.2.2.2.2.2.2.2 = some (5, (.getfield 397), 3, 12, 65) := by decide +kernel
theorem f258_8 : aF 8 zM258.2.2.2.2.2.2.2 = some (8, (.ifCond .ge 49), 3, 57, 0) := by decide +kernel
theorem f258_11 : aF 11 zM258.2.2.2.2.2.2.2 = some (11, (.aload_n 0), 1, 0, 0) := by decide +kernel
theorem f258_12 : aF 12 zM258.2.2.2.2.2.2.2 = some (12, (.invokevirtual 412), 3, 251, 0) := by decide +kernel
theorem f258_15 : aF 15 zM258.2.2.2.2.2.2.2 = some (15, (.bipush 43), 2, 0, 0) := by decide +kernel
theorem f258_17 : aF 17 zM258.2.2.2.2.2.2.2 = some (17, (.if_icmp .eq 12), 3, 29, 0) := by decide +kernel
theorem f258_20 : aF 20 zM258.2.2.2.2.2.2.2 = some (20, (.aload_n 0), 1, 0, 0) := by decide +kernel
theorem f258_21 : aF 21 zM258.2.2.2.2.2.2.2 = some (21, (.invokevirtual 412), 3, 251, 0) := by decide +kernel
theorem f258_24 : aF 24 zM258.2.2.2.2.2.2.2 = some (24, (.bipush 45), 2, 0, 0) := by decide +kernel
theorem f258_26 : aF 26 zM258.2.2.2.2.2.2.2 = some (26, (.if_icmp .ne 31), 3, 57, 0) := by decide +kernel
theorem f258_29 : aF 29 zM258.2.2.2.2.2.2.2 = some (29, (.aload_n 0), 1, 0, 0) := by decide +kernel
theorem f258_30 : aF 30 zM258.2.2.2.2.2.2.2 = some (30, (.invokevirtual 412), 3, 251, 0) := by decide +kernel
theorem f258_33 : aF 33 zM258.2.2.2.2.2.2.2 = some (33, (.istore_n 1), 1, 0, 0) := by decide +kernel
theorem f258_34 : aF 34 zM258.2.2.2.2.2.2.2 = some (34, (.aload_n 0), 1, 0, 0) := by decide +kernel
theorem f258_35 : aF 35 zM258.2.2.2.2.2.2.2 = some (35, .dup, 1, 0, 0) := by decide +kernel
theorem f258_36 : aF 36 zM258.2.2.2.2.2.2.2 = some (36, (.getfield 394), 3, 12, 64) := by decide +kernel
theorem f258_39 : aF 39 zM258.2.2.2.2.2.2.2 = some (39, (.iconst 1), 1, 0, 0) := by decide +kernel
theorem f258_40 : aF 40 zM258.2.2.2.2.2.2.2 = some (40, .iadd, 1, 0, 0) := by decide +kernel
theorem f258_41 : aF 41 zM258.2.2.2.2.2.2.2 = some (41, (.putfield 394), 3, 12, 64) := by decide +kernel
theorem f258_44 : aF 44 zM258.2.2.2.2.2.2.2 = some (44, (.aload_n 0), 1, 0, 0) := by decide +kernel
theorem f258_45 : aF 45 zM258.2.2.2.2.2.2.2 = some (45, (.invokevirtual 430), 3, 257, 0) := by decide +kernel
theorem f258_48 : aF 48 zM258.2.2.2.2.2.2.2 = some (48, (.aload_n 0), 1, 0, 0) := by decide +kernel
theorem f258_49 : aF 49 zM258.2.2.2.2.2.2.2 = some (49, (.iload_n 1), 1, 0, 0) := by decide +kernel
theorem f258_50 : aF 50 zM258.2.2.2.2.2.2.2 = some (50, (.iconst 0), 1, 0, 0) := by decide +kernel
theorem f258_51 : aF 51 zM258.2.2.2.2.2.2.2 = some (51, (.invokevirtual 418), 3, 253, 0) := by decide +kernel
theorem f258_54 : aF 54 zM258.2.2.2.2.2.2.2 = some (54, (.goto (-50)), 3, 4, 0) := by decide +kernel
theorem f258_57 : aF 57 zM258.2.2.2.2.2.2.2 = some (57, .return_, 1, 0, 0) := by decide +kernel
theorem f259_0 : aF 0 zM259.2.2.2.2.2.2.2 = some (0, (.aload_n 0), 1, 0, 0) := by decide +kernel
theorem f259_1 : aF 1 zM259.2.2.2.2.2.2.2 = some (1, (.invokevirtual 433), 3, 258, 0) := by decide +kernel
theorem f259_4 : aF 4 zM259.2.2.2.2.2.2.2 = some (4, (.aload_n 0), 1, 0, 0) := by decide +kernel
theorem f259_5 : aF 5 zM259.2.2.2.2.2.2.2 = some (5, (.invokevirtual 412), 3, 251, 0) := by decide +kernel
theorem f259_8 : aF 8 zM259.2.2.2.2.2.2.2 = some (8, (.istore_n 1), 1, 0, 0) := by decide +kernel
theorem f259_9 : aF 9 zM259.2.2.2.2.2.2.2 = some (9, (.aload_n 0), 1, 0, 0) := by decide +kernel
theorem f259_10 : aF 10 zM259.2.2.2.2.2.2.2 = some (10, (.getfield 397), 3, 12, 65) := by decide +kernel
theorem f259_13 : aF 13 zM259.2.2.2.2.2.2.2 = some (13, (.ifCond .ge 21), 3, 34, 0) := by decide +kernel
theorem f259_16 : aF 16 zM259.2.2.2.2.2.2.2 = some (16, (.iload_n 1), 1, 0, 0) := by decide +kernel
theorem f259_17 : aF 17 zM259.2.2.2.2.2.2.2 = some (17, (.bipush 60), 2, 0, 0) := by decide +kernel
theorem f259_19 : aF 19 zM259.2.2.2.2.2.2.2 = some (19, (.if_icmp .eq 16), 3, 35, 0) := by decide +kernel
theorem f259_22 : aF 22 zM259.2.2.2.2.2.2.2 = some (22, (.iload_n 1), 1, 0, 0) := by decide +kernel
theorem f259_23 : aF 23 zM259.2.2.2.2.2.2.2 = some (23, (.bipush 61), 2, 0, 0) := by decide +kernel
theorem f259_25 : aF 25 zM259.2.2.2.2.2.2.2 = some (25, (.if_icmp .eq 10), 3, 35, 0) := by decide +kernel
theorem f259_28 : aF 28 zM259.2.2.2.2.2.2.2 = some (28, (.iload_n 1), 1, 0, 0) := by decide +kernel
theorem f259_29 : aF 29 zM259.2.2.2.2.2.2.2 = some (29, (.bipush 62), 2, 0, 0) := by decide +kernel
theorem f259_31 : aF 31 zM259.2.2.2.2.2.2.2 = some (31, (.if_icmp .eq 4), 3, 35, 0) := by decide +kernel
theorem f259_34 : aF 34 zM259.2.2.2.2.2.2.2 = some (34, .return_, 1, 0, 0) := by decide +kernel
theorem f259_35 : aF 35 zM259.2.2.2.2.2.2.2 = some (35, (.aload_n 0), 1, 0, 0) := by decide +kernel
theorem f259_36 : aF 36 zM259.2.2.2.2.2.2.2 = some (36, .dup, 1, 0, 0) := by decide +kernel
theorem f259_37 : aF 37 zM259.2.2.2.2.2.2.2 = some (37, (.getfield 394), 3, 12, 64) := by decide +kernel
theorem f259_40 : aF 40 zM259.2.2.2.2.2.2.2 = some (40, (.iconst 1), 1, 0, 0) := by decide +kernel
theorem f259_41 : aF 41 zM259.2.2.2.2.2.2.2 = some (41, .iadd, 1, 0, 0) := by decide +kernel
theorem f259_42 : aF 42 zM259.2.2.2.2.2.2.2 = some (42, (.putfield 394), 3, 12, 64) := by decide +kernel
theorem f259_45 : aF 45 zM259.2.2.2.2.2.2.2 = some (45, (.aload_n 0), 1, 0, 0) := by decide +kernel
theorem f259_46 : aF 46 zM259.2.2.2.2.2.2.2 = some (46, (.invokevirtual 433), 3, 258, 0) := by decide +kernel
theorem f259_49 : aF 49 zM259.2.2.2.2.2.2.2 = some (49, (.aload_n 0), 1, 0, 0) := by decide +kernel
theorem f259_50 : aF 50 zM259.2.2.2.2.2.2.2 = some (50, (.iload_n 1), 1, 0, 0) := by decide +kernel
theorem f259_51 : aF 51 zM259.2.2.2.2.2.2.2 = some (51, (.iconst 0), 1, 0, 0) := by decide +kernel
theorem f259_52 : aF 52 zM259.2.2.2.2.2.2.2 = some (52, (.invokevirtual 418), 3, 253, 0) := by decide +kernel
theorem f259_55 : aF 55 zM259.2.2.2.2.2.2.2 = some (55, .return_, 1, 0, 0) := by decide +kernel
theorem f260_0 : aF 0 zM260.2.2.2.2.2.2.2 = some (0, (.aload_n 0), 1, 0, 0) := by decide +kernel
theorem f260_1 : aF 1 zM260.2.2.2.2.2.2.2 = some (1, (.invokevirtual 436), 3, 259, 0) := by decide +kernel
theorem f260_4 : aF 4 zM260.2.2.2.2.2.2.2 = some (4, (.aload_n 0), 1, 0, 0) := by decide +kernel
theorem f260_5 : aF 5 zM260.2.2.2.2.2.2.2 = some (5, (.getfield 397), 3, 12, 65) := by decide +kernel
theorem f260_8 : aF 8 zM260.2.2.2.2.2.2.2 = some (8, (.ifCond .ge 36), 3, 44, 0) := by decide +kernel
theorem f260_11 : aF 11 zM260.2.2.2.2.2.2.2 = some (11, (.aload_n 0), 1, 0, 0) := by decide +kernel
theorem f260_12 : aF 12 zM260.2.2.2.2.2.2.2 = some (12, (.invokevirtual 412), 3, 251, 0) := by decide +kernel
theorem f260_15 : aF 15 zM260.2.2.2.2.2.2.2 = some (15, (.bipush 38), 2, 0, 0) := by decide +kernel
theorem f260_17 : aF 17 zM260.2.2.2.2.2.2.2 = some (17, (.if_icmp .ne 27), 3, 44, 0) := by decide +kernel
theorem f260_20 : aF 20 zM260.2.2.2.2.2.2.2 = some (20, (.aload_n 0), 1, 0, 0) := by decide +kernel
theorem f260_21 : aF 21 zM260.2.2.2.2.2.2.2 = some (21, .dup, 1, 0, 0) := by decide +kernel
theorem f260_22 : aF 22 zM260.2.2.2.2.2.2.2 = some (22, (.getfield 394), 3, 12, 64) := by decide +kernel
theorem f260_25 : aF 25 zM260.2.2.2.2.2.2.2 = some (25, (.iconst 1), 1, 0, 0) := by decide +kernel
theorem f260_26 : aF 26 zM260.2.2.2.2.2.2.2 = some (26, .iadd, 1, 0, 0) := by decide +kernel
theorem f260_27 : aF 27 zM260.2.2.2.2.2.2.2 = some (27, (.putfield 394), 3, 12, 64) := by decide +kernel
theorem f260_30 : aF 30 zM260.2.2.2.2.2.2.2 = some (30, (.aload_n 0), 1, 0, 0) := by decide +kernel
theorem f260_31 : aF 31 zM260.2.2.2.2.2.2.2 = some (31, (.invokevirtual 436), 3, 259, 0) := by decide +kernel
theorem f260_34 : aF 34 zM260.2.2.2.2.2.2.2 = some (34, (.aload_n 0), 1, 0, 0) := by decide +kernel
theorem f260_35 : aF 35 zM260.2.2.2.2.2.2.2 = some (35, (.bipush 38), 2, 0, 0) := by decide +kernel
theorem f260_37 : aF 37 zM260.2.2.2.2.2.2.2 = some (37, (.iconst 0), 1, 0, 0) := by decide +kernel
theorem f260_38 : aF 38 zM260.2.2.2.2.2.2.2 = some (38, (.invokevirtual 418), 3, 253, 0) := by decide +kernel
theorem f260_41 : aF 41 zM260.2.2.2.2.2.2.2 = some (41, (.goto (-37)), 3, 4, 0) := by decide +kernel
theorem f260_44 : aF 44 zM260.2.2.2.2.2.2.2 = some (44, .return_, 1, 0, 0) := by decide +kernel
theorem f261_0 : aF 0 zM261.2.2.2.2.2.2.2 = some (0, (.aload_n 0), 1, 0, 0) := by decide +kernel
theorem f261_1 : aF 1 zM261.2.2.2.2.2.2.2 = some (1, (.invokevirtual 439), 3, 260, 0) := by decide +kernel
theorem f261_4 : aF 4 zM261.2.2.2.2.2.2.2 = some (4, (.aload_n 0), 1, 0, 0) := by decide +kernel
theorem f261_5 : aF 5 zM261.2.2.2.2.2.2.2 = some (5, (.getfield 397), 3, 12, 65) := by decide +kernel
theorem f261_8 : aF 8 zM261.2.2.2.2.2.2.2 = some (8, (.ifCond .ge 36), 3, 44, 0) := by decide +kernel
theorem f261_11 : aF 11 zM261.2.2.2.2.2.2.2 = some (11, (.aload_n 0), 1, 0, 0) := by decide +kernel
theorem f261_12 : aF 12 zM261.2.2.2.2.2.2.2 = some (12, (.invokevirtual 412), 3, 251, 0) := by decide +kernel
theorem f261_15 : aF 15 zM261.2.2.2.2.2.2.2 = some (15, (.bipush 124), 2, 0, 0) := by decide +kernel
theorem f261_17 : aF 17 zM261.2.2.2.2.2.2.2 = some (17, (.if_icmp .ne 27), 3, 44, 0) := by decide +kernel
theorem f261_20 : aF 20 zM261.2.2.2.2.2.2.2 = some (20, (.aload_n 0), 1, 0, 0) := by decide +kernel
theorem f261_21 : aF 21 zM261.2.2.2.2.2.2.2 = some (21, .dup, 1, 0, 0) := by decide +kernel
theorem f261_22 : aF 22 zM261.2.2.2.2.2.2.2 = some (22, (.getfield 394), 3, 12, 64) := by decide +kernel
theorem f261_25 : aF 25 zM261.2.2.2.2.2.2.2 = some (25, (.iconst 1), 1, 0, 0) := by decide +kernel
theorem f261_26 : aF 26 zM261.2.2.2.2.2.2.2 = some (26, .iadd, 1, 0, 0) := by decide +kernel
theorem f261_27 : aF 27 zM261.2.2.2.2.2.2.2 = some (27, (.putfield 394), 3, 12, 64) := by decide +kernel
theorem f261_30 : aF 30 zM261.2.2.2.2.2.2.2 = some (30, (.aload_n 0), 1, 0, 0) := by decide +kernel
theorem f261_31 : aF 31 zM261.2.2.2.2.2.2.2 = some (31, (.invokevirtual 439), 3, 260, 0) := by decide +kernel
theorem f261_34 : aF 34 zM261.2.2.2.2.2.2.2 = some (34, (.aload_n 0), 1, 0, 0) := by decide +kernel
theorem f261_35 : aF 35 zM261.2.2.2.2.2.2.2 = some (35, (.bipush 124), 2, 0, 0) := by decide +kernel
theorem f261_37 : aF 37 zM261.2.2.2.2.2.2.2 = some (37, (.iconst 0), 1, 0, 0) := by decide +kernel
theorem f261_38 : aF 38 zM261.2.2.2.2.2.2.2 = some (38, (.invokevirtual 418), 3, 253, 0) := by decide +kernel
theorem f261_41 : aF 41 zM261.2.2.2.2.2.2.2 = some (41, (.goto (-37)), 3, 4, 0) := by decide +kernel
theorem f261_44 : aF 44 zM261.2.2.2.2.2.2.2 = some (44, .return_, 1, 0, 0) := by decide +kernel
def PR (σ : List Nat) (h0 : aH) (hr0 op0 rw ld0 tp : Int32) (ga0 gw0 gT : Nat → Int32) (h1 : aH) (hr ft op ld : Int32) (ga gw : Nat → Int32) : Prop := dG lWP σ h0 σ h1 ∧ PS σ h1 hr ft op rw ld tp ga gw gT ∧ hr0.toInt ≤ hr.toInt ∧ ld0.toInt ≤ ld.toInt ∧ hr0.toInt - ld0.toInt ≤ hr.toInt - ld.toInt ∧ op0.toInt ≤ op.toInt ∧ (∀ k : Nat, k < ld0.toInt.toNat → ga (170 * rw.toInt.toNat + k) = ga0 (170 * rw.toInt.toNat + k) ∧ gw (170 * rw.toInt.toNat + k) = gw0 (170 * rw.toInt.toNat + k)) ∧ (ft.toInt < 0 → op.toInt = op0.toInt ∧ hr0.toInt < hr.toInt ∧ ∀ n, seg ga gw (170 * rw.toInt.toNat) ld0.toInt.toNat ld.toInt.toNat n (n + 1))
def PSp (X : aX) (lv : Nat) (M : aM) (l : aL) (m : Nat) : Prop := ∀ (σ : List Nat) (h : aH) (hr ft op rw ld tp : Int32) (ga gw gT : Nat → Int32), PS σ h hr ft op rw ld tp ga gw gT → ft.toInt < 0 → ld.toInt ≤ hr.toInt → 8 - op.toInt ≤ m → Wp X lv M (fun v h' => v = none ∧ ∃ (hr' ft' op' ld' : Int32) (ga' gw' : Nat → Int32), PR σ h hr op rw ld tp ga gw gT h' hr' ft' op' ld' ga' gw') 0 l [] h
theorem PS_b {σ : List Nat} {h : aH} {hr ft op rw ld tp : Int32} {ga gw gT : Nat → Int32} (P : PS σ h hr ft op rw ld tp ga gw gT) : 0 ≤ rw.toInt ∧ rw.toInt ≤ 15 ∧ 0 ≤ hr.toInt ∧ hr.toInt ≤ tp.toInt ∧ tp.toInt ≤ 160 ∧ 0 ≤ ld.toInt ∧ 0 ≤ op.toInt ∧ op.toInt ≤ 8 ∧ -1 ≤ ft.toInt ∧ ft.toInt ≤ 160 := P.2.2.2.2.2
theorem PS_c {σ : List Nat} {h : aH} {hr ft op rw ld tp : Int32} {ga gw gT : Nat → Int32} (P : PS σ h hr ft op rw ld tp ga gw gT) : ∃ fs : List Value, h.1[72]? = some (.inr (12, fs)) ∧ fs[65]? = some (.int ft) ∧ fs[66]? = some (.int op) ∧ fs[67]? = some (.int rw) ∧ fs[68]? = some (.int ld) := by
  obtain ⟨fs, c, -, f2, f3, f4, f5, -⟩ := P.2.1
  exact ⟨fs, c, f2, f3, f4, f5⟩
theorem PR_bin {σ : List Nat} {h0 h1 h1' h2 h3 : aH} {hr0 op0 rw ld0 tp hr1 ft1 op1 ld1 hr1' hr2 ft2 op2 ld2 ld3 s z : Int32} {ga0 gw0 gT ga1 gw1 ga2 gw2 : Nat → Int32} (A : PR σ h0 hr0 op0 rw ld0 tp ga0 gw0 gT h1 hr1 ft1 op1 ld1 ga1 gw1) (hf : ft1.toInt < 0) (G1 : dG lWP σ h1 σ h1') (e1 : hr1'.toInt = hr1.toInt + 1) (B : PR σ h1' hr1' op1 rw ld1 tp ga1 gw1 gT h2 hr2 ft2 op2 ld2 ga2 gw2) (G2 : dG lWP σ h2 σ h3) (e3 : ld3.toInt = ld2.toInt + 1) (P3 : PS σ h3 hr2 ft2 op2 rw ld3 tp (upd ga2 (170 * rw.toInt.toNat + ld2.toInt.toNat) s) (upd gw2 (170 * rw.toInt.toNat + ld2.toInt.toNat) z) gT) (hs : s.toInt ≠ 1 ∧ s.toInt ≠ 2 ∧ s.toInt ≠ 3 ∧ s.toInt ≠ 4) (l0 : 0 ≤ ld0.toInt) : PR σ h0 hr0 op0 rw ld0 tp ga0 gw0 gT h3 hr2 ft2 op2 ld3 (upd ga2 (170 * rw.toInt.toNat + ld2.toInt.toNat) s) (upd gw2 (170 * rw.toInt.toNat + ld2.toInt.toNat) z) := by
  obtain ⟨a1, a2, a3, a4, a5, a6, a7, a8⟩ := A
  obtain ⟨b1, b2, b3, b4, b5, b6, b7, b8⟩ := B
  refine ⟨dG_trans (dG_trans a1 G1) (dG_trans b1 G2), P3, by omega, by omega, by omega, by omega, fun k hk => ?_, fun hf2 => ?_⟩
  · rw [pk_un (by omega), pk_un (by omega), (b7 k (by omega)).1, (b7 k (by omega)).2]
    exact a7 k hk
  · obtain ⟨x1, x2, x3⟩ := a8 hf
    obtain ⟨y1, y2, y3⟩ := b8 hf2
    refine ⟨by omega, by omega, fun n => ?_⟩
    have s1 : seg (upd ga2 (170 * rw.toInt.toNat + ld2.toInt.toNat) s) (upd gw2 (170 * rw.toInt.toNat + ld2.toInt.toNat) z) (170 * rw.toInt.toNat) ld0.toInt.toNat ld1.toInt.toNat n (n + 1) := seg_congr (fun k k1 k2 => by
      rw [pk_un (by omega), pk_un (by omega)]
      exact b7 k (by omega)) (x3 n)
    have s2 : seg (upd ga2 (170 * rw.toInt.toNat + ld2.toInt.toNat) s) (upd gw2 (170 * rw.toInt.toNat + ld2.toInt.toNat) z) (170 * rw.toInt.toNat) ld1.toInt.toNat ld2.toInt.toNat (n + 1) (n + 1 + 1) := seg_congr (fun k k1 k2 => by
      rw [pk_un (by omega), pk_un (by omega)]
      exact ⟨rfl, rfl⟩) (y3 (n + 1))
    have s3 : seg (upd ga2 (170 * rw.toInt.toNat + ld2.toInt.toNat) s) (upd gw2 (170 * rw.toInt.toNat + ld2.toInt.toNat) z) (170 * rw.toInt.toNat) ld2.toInt.toNat (ld2.toInt.toNat + 1) (n + 1 + 1) (n + 1) := by
      refine seg_one ?_
      rw [pk_us, pk_us]
      refine Or.inr (Or.inr (Or.inr ⟨?_, ?_, ?_, ?_, by omega, by omega⟩))
      · rw [i_c (z := 1) (by decide)]; exact hs.1
      · rw [i_c (z := 2) (by decide)]; exact hs.2.1
      · rw [i_c (z := 3) (by decide)]; exact hs.2.2.1
      · rw [i_c (z := 4) (by decide)]; exact hs.2.2.2
    rw [show ld3.toInt.toNat = ld2.toInt.toNat + 1 by omega]
    exact seg_app (by omega) (by omega) s1 (seg_app (by omega) (by omega) s2 s3)
theorem prod_sp {X : aX} {lv m : Nat} (hlv : 1 ≤ lv) (O : PSp X lv zM256 [some (.ref 72), none, none, none] m) : PSp X (lv + 1) zM257 [some (.ref 72), none] m := by
  intro σ h hr ft op rw ld tp ga gw gT P hf hl ho
  have B0 := PS_b P
  have loop : ∀ (k : Nat) (h1 : aH) (hr1 ft1 op1 ld1 : Int32) (ga1 gw1 : Nat → Int32) (u1 : Option Value), (tp.toInt - hr1.toInt).toNat < k → PR σ h hr op rw ld tp ga gw gT h1 hr1 ft1 op1 ld1 ga1 gw1 → Wp X (lv + 1) zM257 (fun v h' => v = none ∧ ∃ (hr' ft' op' ld' : Int32) (ga' gw' : Nat → Int32), PR σ h hr op rw ld tp ga gw gT h' hr' ft' op' ld' ga' gw') 4 [some (.ref 72), u1] [] h1 := by
    intro k
    induction k with
    | zero => intro h1 hr1 ft1 op1 ld1 ga1 gw1 u1 hk; omega
    | succ k ih =>
      intro h1 hr1 ft1 op1 ld1 ga1 gw1 u1 hk A
      have P1 := A.2.1
      have B1 := PS_b P1
      obtain ⟨fs1, c1, F65, -⟩ := PS_c P1
      have A3 := A.2.2.1
      have A5 := A.2.2.2.2.1
      refine wp1 (fun n d => r_aloadn f257_4 rfl) ?_
      refine w_get f257_5 c1 F65 ?_
      have kE : Wp X (lv + 1) zM257 (fun v h' => v = none ∧ ∃ (hr' ft' op' ld' : Int32) (ga' gw' : Nat → Int32), PR σ h hr op rw ld tp ga gw gT h' hr' ft' op' ld' ga' gw') 66 [some (.ref 72), u1] [] h1 := wp_end (fun n d => r_vreturn f257_66 rfl) ⟨rfl, hr1, ft1, op1, ld1, ga1, gw1, A⟩
      refine w_if_ge f257_8 (fun _ => kE) (fun e8 => ?_)
      have hop := (A.2.2.2.2.2.2.2 e8).1
      have ks : (lkv hr1 tp gT).toInt ≠ -1 → (lkv hr1 tp gT).toInt ≠ 1 ∧ (lkv hr1 tp gT).toInt ≠ 2 ∧ (lkv hr1 tp gT).toInt ≠ 3 ∧ (lkv hr1 tp gT).toInt ≠ 4 → Wp X (lv + 1) zM257 (fun v h' => v = none ∧ ∃ (hr' ft' op' ld' : Int32) (ga' gw' : Nat → Int32), PR σ h hr op rw ld tp ga gw gT h' hr' ft' op' ld' ga' gw') 38 [some (.ref 72), u1] [] h1 := by
        intro hlt hsg
        have hlt := lkv_lt hlt
        refine wp1 (fun n d => r_aloadn f257_38 rfl) ?_
        refine wp_in (lv := 0) (Y := zM251) (look_wp P1) (fun n d v h' e => r_virt (as := []) (r := []) f257_39 c1 (show zmt[251]? = some zM251 from rfl) rfl rfl rfl rfl rfl rfl e) (by omega) ?_
        rintro v' h' ⟨rfl, rfl⟩
        show Wp _ _ _ _ 42 [some (.ref 72), u1] [.int (lkv hr1 tp gT)] _
        refine wp1 (fun n d => r_istoren (L' := [some (.ref 72), some (.int (lkv hr1 tp gT))]) f257_42 rfl rfl) ?_
        refine w_here P1 (by omega) rfl f257_43 f257_44 f257_45 f257_48 f257_49 f257_50 (fun h1' hr1' e1 G1 P1' => ?_)
        obtain ⟨fs2, c2, -⟩ := PS_c P1'
        refine wp1 (fun n d => r_aloadn f257_53 rfl) ?_
        refine wp_in (lv := lv) (Y := zM256) (O σ h1' hr1' ft1 op1 rw ld1 tp ga1 gw1 gT P1' e8 (by omega) (by omega)) (fun n d v h' e => r_virt (as := []) (r := []) f257_54 c2 (show zmt[256]? = some zM256 from rfl) rfl rfl rfl rfl rfl rfl e) (by omega) ?_
        rintro v' h2 ⟨rfl, hr2, ft2, op2, ld2, ga2, gw2, B⟩
        have P2 := B.2.1
        have B2 := PS_b P2
        have C3 := B.2.2.1
        have C5 := B.2.2.2.2.1
        obtain ⟨fs3, c3, -⟩ := PS_c P2
        show Wp _ _ _ _ 57 [some (.ref 72), some (.int (lkv hr1 tp gT))] [] _
        refine wp1 (fun n d => r_aloadn f257_57 rfl) ?_
        refine wp1 (fun n d => r_iloadn f257_58 rfl) ?_
        refine w_iconst f257_59 (fun z hz => ?_)
        refine wp_in (lv := 0) (Y := zM253) (lay_wp P2 (x1 := (lkv hr1 tp gT)) (x2 := z) (by omega)) (fun n d v h' e => r_virt (as := [.int (lkv hr1 tp gT), .int z]) (r := []) f257_60 c3 (show zmt[253]? = some zM253 from rfl) rfl rfl rfl rfl rfl rfl e) (by omega) ?_
        rintro v' h3 ⟨rfl, G2, ld3, e3, P3⟩
        show Wp _ _ _ _ 63 [some (.ref 72), some (.int (lkv hr1 tp gT))] [] _
        refine wp1 (fun n d => r_goto f257_63) ?_
        exact ih h3 hr2 ft2 op2 ld3 _ _ _ (by omega) (PR_bin A e8 G1 e1 B G2 e3 P3 hsg (by omega))
      refine wp1 (fun n d => r_aloadn f257_11 rfl) ?_
      refine wp_in (lv := 0) (Y := zM251) (look_wp P1) (fun n d v h' e => r_virt (as := []) (r := []) f257_12 c1 (show zmt[251]? = some zM251 from rfl) rfl rfl rfl rfl rfl rfl e) (by omega) ?_
      rintro v' h' ⟨rfl, rfl⟩
      show Wp _ _ _ _ 15 [some (.ref 72), u1] [.int (lkv hr1 tp gT)] _
      refine w_bipush f257_15 (fun v15 hv15 => ?_)
      refine w_icmp_eq f257_17 (fun e => ks (by omega) (by omega)) (fun _ => ?_)
      refine wp1 (fun n d => r_aloadn f257_20 rfl) ?_
      refine wp_in (lv := 0) (Y := zM251) (look_wp P1) (fun n d v h' e => r_virt (as := []) (r := []) f257_21 c1 (show zmt[251]? = some zM251 from rfl) rfl rfl rfl rfl rfl rfl e) (by omega) ?_
      rintro v' h' ⟨rfl, rfl⟩
      show Wp _ _ _ _ 24 [some (.ref 72), u1] [.int (lkv hr1 tp gT)] _
      refine w_bipush f257_24 (fun v24 hv24 => ?_)
      refine w_icmp_eq f257_26 (fun e => ks (by omega) (by omega)) (fun _ => ?_)
      refine wp1 (fun n d => r_aloadn f257_29 rfl) ?_
      refine wp_in (lv := 0) (Y := zM251) (look_wp P1) (fun n d v h' e => r_virt (as := []) (r := []) f257_30 c1 (show zmt[251]? = some zM251 from rfl) rfl rfl rfl rfl rfl rfl e) (by omega) ?_
      rintro v' h' ⟨rfl, rfl⟩
      show Wp _ _ _ _ 33 [some (.ref 72), u1] [.int (lkv hr1 tp gT)] _
      refine w_bipush f257_33 (fun v33 hv33 => ?_)
      exact w_icmp_ne f257_35 (fun _ => kE) (fun e => ks (by omega) (by omega))
  obtain ⟨fs, c, -⟩ := PS_c P
  refine wp1 (fun n d => r_aloadn f257_0 rfl) ?_
  refine wp_in (lv := lv) (Y := zM256) (O σ h hr ft op rw ld tp ga gw gT P hf hl ho) (fun n d v h' e => r_virt (as := []) (r := []) f257_1 c (show zmt[256]? = some zM256 from rfl) rfl rfl rfl rfl rfl rfl e) (by omega) ?_
  rintro v' h1 ⟨rfl, hr1, ft1, op1, ld1, ga1, gw1, A⟩
  exact loop _ h1 hr1 ft1 op1 ld1 ga1 gw1 none (Nat.lt_succ_self _) A
theorem sum_sp {X : aX} {lv m : Nat} (hlv : 1 ≤ lv) (O : PSp X lv zM257 [some (.ref 72), none] m) : PSp X (lv + 1) zM258 [some (.ref 72), none] m := by
  intro σ h hr ft op rw ld tp ga gw gT P hf hl ho
  have B0 := PS_b P
  have loop : ∀ (k : Nat) (h1 : aH) (hr1 ft1 op1 ld1 : Int32) (ga1 gw1 : Nat → Int32) (u1 : Option Value), (tp.toInt - hr1.toInt).toNat < k → PR σ h hr op rw ld tp ga gw gT h1 hr1 ft1 op1 ld1 ga1 gw1 → Wp X (lv + 1) zM258 (fun v h' => v = none ∧ ∃ (hr' ft' op' ld' : Int32) (ga' gw' : Nat → Int32), PR σ h hr op rw ld tp ga gw gT h' hr' ft' op' ld' ga' gw') 4 [some (.ref 72), u1] [] h1 := by
    intro k
    induction k with
    | zero => intro h1 hr1 ft1 op1 ld1 ga1 gw1 u1 hk; omega
    | succ k ih =>
      intro h1 hr1 ft1 op1 ld1 ga1 gw1 u1 hk A
      have P1 := A.2.1
      have B1 := PS_b P1
      obtain ⟨fs1, c1, F65, -⟩ := PS_c P1
      have A3 := A.2.2.1
      have A5 := A.2.2.2.2.1
      refine wp1 (fun n d => r_aloadn f258_4 rfl) ?_
      refine w_get f258_5 c1 F65 ?_
      have kE : Wp X (lv + 1) zM258 (fun v h' => v = none ∧ ∃ (hr' ft' op' ld' : Int32) (ga' gw' : Nat → Int32), PR σ h hr op rw ld tp ga gw gT h' hr' ft' op' ld' ga' gw') 57 [some (.ref 72), u1] [] h1 := wp_end (fun n d => r_vreturn f258_57 rfl) ⟨rfl, hr1, ft1, op1, ld1, ga1, gw1, A⟩
      refine w_if_ge f258_8 (fun _ => kE) (fun e8 => ?_)
      have hop := (A.2.2.2.2.2.2.2 e8).1
      have ks : (lkv hr1 tp gT).toInt ≠ -1 → (lkv hr1 tp gT).toInt ≠ 1 ∧ (lkv hr1 tp gT).toInt ≠ 2 ∧ (lkv hr1 tp gT).toInt ≠ 3 ∧ (lkv hr1 tp gT).toInt ≠ 4 → Wp X (lv + 1) zM258 (fun v h' => v = none ∧ ∃ (hr' ft' op' ld' : Int32) (ga' gw' : Nat → Int32), PR σ h hr op rw ld tp ga gw gT h' hr' ft' op' ld' ga' gw') 29 [some (.ref 72), u1] [] h1 := by
        intro hlt hsg
        have hlt := lkv_lt hlt
        refine wp1 (fun n d => r_aloadn f258_29 rfl) ?_
        refine wp_in (lv := 0) (Y := zM251) (look_wp P1) (fun n d v h' e => r_virt (as := []) (r := []) f258_30 c1 (show zmt[251]? = some zM251 from rfl) rfl rfl rfl rfl rfl rfl e) (by omega) ?_
        rintro v' h' ⟨rfl, rfl⟩
        show Wp _ _ _ _ 33 [some (.ref 72), u1] [.int (lkv hr1 tp gT)] _
        refine wp1 (fun n d => r_istoren (L' := [some (.ref 72), some (.int (lkv hr1 tp gT))]) f258_33 rfl rfl) ?_
        refine w_here P1 (by omega) rfl f258_34 f258_35 f258_36 f258_39 f258_40 f258_41 (fun h1' hr1' e1 G1 P1' => ?_)
        obtain ⟨fs2, c2, -⟩ := PS_c P1'
        refine wp1 (fun n d => r_aloadn f258_44 rfl) ?_
        refine wp_in (lv := lv) (Y := zM257) (O σ h1' hr1' ft1 op1 rw ld1 tp ga1 gw1 gT P1' e8 (by omega) (by omega)) (fun n d v h' e => r_virt (as := []) (r := []) f258_45 c2 (show zmt[257]? = some zM257 from rfl) rfl rfl rfl rfl rfl rfl e) (by omega) ?_
        rintro v' h2 ⟨rfl, hr2, ft2, op2, ld2, ga2, gw2, B⟩
        have P2 := B.2.1
        have B2 := PS_b P2
        have C3 := B.2.2.1
        have C5 := B.2.2.2.2.1
        obtain ⟨fs3, c3, -⟩ := PS_c P2
        show Wp _ _ _ _ 48 [some (.ref 72), some (.int (lkv hr1 tp gT))] [] _
        refine wp1 (fun n d => r_aloadn f258_48 rfl) ?_
        refine wp1 (fun n d => r_iloadn f258_49 rfl) ?_
        refine w_iconst f258_50 (fun z hz => ?_)
        refine wp_in (lv := 0) (Y := zM253) (lay_wp P2 (x1 := (lkv hr1 tp gT)) (x2 := z) (by omega)) (fun n d v h' e => r_virt (as := [.int (lkv hr1 tp gT), .int z]) (r := []) f258_51 c3 (show zmt[253]? = some zM253 from rfl) rfl rfl rfl rfl rfl rfl e) (by omega) ?_
        rintro v' h3 ⟨rfl, G2, ld3, e3, P3⟩
        show Wp _ _ _ _ 54 [some (.ref 72), some (.int (lkv hr1 tp gT))] [] _
        refine wp1 (fun n d => r_goto f258_54) ?_
        exact ih h3 hr2 ft2 op2 ld3 _ _ _ (by omega) (PR_bin A e8 G1 e1 B G2 e3 P3 hsg (by omega))
      refine wp1 (fun n d => r_aloadn f258_11 rfl) ?_
      refine wp_in (lv := 0) (Y := zM251) (look_wp P1) (fun n d v h' e => r_virt (as := []) (r := []) f258_12 c1 (show zmt[251]? = some zM251 from rfl) rfl rfl rfl rfl rfl rfl e) (by omega) ?_
      rintro v' h' ⟨rfl, rfl⟩
      show Wp _ _ _ _ 15 [some (.ref 72), u1] [.int (lkv hr1 tp gT)] _
      refine w_bipush f258_15 (fun v15 hv15 => ?_)
      refine w_icmp_eq f258_17 (fun e => ks (by omega) (by omega)) (fun _ => ?_)
      refine wp1 (fun n d => r_aloadn f258_20 rfl) ?_
      refine wp_in (lv := 0) (Y := zM251) (look_wp P1) (fun n d v h' e => r_virt (as := []) (r := []) f258_21 c1 (show zmt[251]? = some zM251 from rfl) rfl rfl rfl rfl rfl rfl e) (by omega) ?_
      rintro v' h' ⟨rfl, rfl⟩
      show Wp _ _ _ _ 24 [some (.ref 72), u1] [.int (lkv hr1 tp gT)] _
      refine w_bipush f258_24 (fun v24 hv24 => ?_)
      exact w_icmp_ne f258_26 (fun _ => kE) (fun e => ks (by omega) (by omega))
  obtain ⟨fs, c, -⟩ := PS_c P
  refine wp1 (fun n d => r_aloadn f258_0 rfl) ?_
  refine wp_in (lv := lv) (Y := zM257) (O σ h hr ft op rw ld tp ga gw gT P hf hl ho) (fun n d v h' e => r_virt (as := []) (r := []) f258_1 c (show zmt[257]? = some zM257 from rfl) rfl rfl rfl rfl rfl rfl e) (by omega) ?_
  rintro v' h1 ⟨rfl, hr1, ft1, op1, ld1, ga1, gw1, A⟩
  exact loop _ h1 hr1 ft1 op1 ld1 ga1 gw1 none (Nat.lt_succ_self _) A
theorem comp_sp {X : aX} {lv m : Nat} (hlv : 1 ≤ lv) (O : PSp X lv zM258 [some (.ref 72), none] m) : PSp X (lv + 1) zM259 [some (.ref 72), none] m := by
  intro σ h hr ft op rw ld tp ga gw gT P hf hl ho
  have B0 := PS_b P
  obtain ⟨fs, c, -⟩ := PS_c P
  refine wp1 (fun n d => r_aloadn f259_0 rfl) ?_
  refine wp_in (lv := lv) (Y := zM258) (O σ h hr ft op rw ld tp ga gw gT P hf hl ho) (fun n d v h' e => r_virt (as := []) (r := []) f259_1 c (show zmt[258]? = some zM258 from rfl) rfl rfl rfl rfl rfl rfl e) (by omega) ?_
  rintro v' h1 ⟨rfl, hr1, ft1, op1, ld1, ga1, gw1, A⟩
  show Wp _ _ _ _ 4 [some (.ref 72), none] [] _
  have P1 := A.2.1
  have B1 := PS_b P1
  obtain ⟨fs1, c1, F65, -⟩ := PS_c P1
  have A3 := A.2.2.1
  have A5 := A.2.2.2.2.1
  refine wp1 (fun n d => r_aloadn f259_4 rfl) ?_
  refine wp_in (lv := 0) (Y := zM251) (look_wp P1) (fun n d v h' e => r_virt (as := []) (r := []) f259_5 c1 (show zmt[251]? = some zM251 from rfl) rfl rfl rfl rfl rfl rfl e) (by omega) ?_
  rintro v' h' ⟨rfl, rfl⟩
  show Wp _ _ _ _ 8 [some (.ref 72), none] [.int (lkv hr1 tp gT)] _
  refine wp1 (fun n d => r_istoren (L' := [some (.ref 72), some (.int (lkv hr1 tp gT))]) f259_8 rfl rfl) ?_
  refine wp1 (fun n d => r_aloadn f259_9 rfl) ?_
  refine w_get f259_10 c1 F65 ?_
  have kE : Wp X (lv + 1) zM259 (fun v h' => v = none ∧ ∃ (hr' ft' op' ld' : Int32) (ga' gw' : Nat → Int32), PR σ h hr op rw ld tp ga gw gT h' hr' ft' op' ld' ga' gw') 34 [some (.ref 72), some (.int (lkv hr1 tp gT))] [] h1 := wp_end (fun n d => r_vreturn f259_34 rfl) ⟨rfl, hr1, ft1, op1, ld1, ga1, gw1, A⟩
  refine w_if_ge f259_13 (fun _ => kE) (fun e8 => ?_)
  have hop := (A.2.2.2.2.2.2.2 e8).1
  have ks : (lkv hr1 tp gT).toInt ≠ -1 → (lkv hr1 tp gT).toInt ≠ 1 ∧ (lkv hr1 tp gT).toInt ≠ 2 ∧ (lkv hr1 tp gT).toInt ≠ 3 ∧ (lkv hr1 tp gT).toInt ≠ 4 → Wp X (lv + 1) zM259 (fun v h' => v = none ∧ ∃ (hr' ft' op' ld' : Int32) (ga' gw' : Nat → Int32), PR σ h hr op rw ld tp ga gw gT h' hr' ft' op' ld' ga' gw') 35 [some (.ref 72), some (.int (lkv hr1 tp gT))] [] h1 := by
    intro hlt hsg
    have hlt := lkv_lt hlt
    refine w_here P1 (by omega) rfl f259_35 f259_36 f259_37 f259_40 f259_41 f259_42 (fun h1' hr1' e1 G1 P1' => ?_)
    obtain ⟨fs2, c2, -⟩ := PS_c P1'
    refine wp1 (fun n d => r_aloadn f259_45 rfl) ?_
    refine wp_in (lv := lv) (Y := zM258) (O σ h1' hr1' ft1 op1 rw ld1 tp ga1 gw1 gT P1' e8 (by omega) (by omega)) (fun n d v h' e => r_virt (as := []) (r := []) f259_46 c2 (show zmt[258]? = some zM258 from rfl) rfl rfl rfl rfl rfl rfl e) (by omega) ?_
    rintro v' h2 ⟨rfl, hr2, ft2, op2, ld2, ga2, gw2, B⟩
    have P2 := B.2.1
    have B2 := PS_b P2
    have C3 := B.2.2.1
    have C5 := B.2.2.2.2.1
    obtain ⟨fs3, c3, -⟩ := PS_c P2
    show Wp _ _ _ _ 49 [some (.ref 72), some (.int (lkv hr1 tp gT))] [] _
    refine wp1 (fun n d => r_aloadn f259_49 rfl) ?_
    refine wp1 (fun n d => r_iloadn f259_50 rfl) ?_
    refine w_iconst f259_51 (fun z hz => ?_)
    refine wp_in (lv := 0) (Y := zM253) (lay_wp P2 (x1 := (lkv hr1 tp gT)) (x2 := z) (by omega)) (fun n d v h' e => r_virt (as := [.int (lkv hr1 tp gT), .int z]) (r := []) f259_52 c3 (show zmt[253]? = some zM253 from rfl) rfl rfl rfl rfl rfl rfl e) (by omega) ?_
    rintro v' h3 ⟨rfl, G2, ld3, e3, P3⟩
    exact wp_end (fun n d => r_vreturn f259_55 rfl) ⟨rfl, hr2, ft2, op2, ld3, _, _, PR_bin A e8 G1 e1 B G2 e3 P3 hsg (by omega)⟩
  refine wp1 (fun n d => r_iloadn f259_16 rfl) ?_
  refine w_bipush f259_17 (fun v17 hv17 => ?_)
  refine w_icmp_eq f259_19 (fun e => ks (by omega) (by omega)) (fun _ => ?_)
  refine wp1 (fun n d => r_iloadn f259_22 rfl) ?_
  refine w_bipush f259_23 (fun v23 hv23 => ?_)
  refine w_icmp_eq f259_25 (fun e => ks (by omega) (by omega)) (fun _ => ?_)
  refine wp1 (fun n d => r_iloadn f259_28 rfl) ?_
  refine w_bipush f259_29 (fun v29 hv29 => ?_)
  exact w_icmp_eq f259_31 (fun e => ks (by omega) (by omega)) (fun _ => kE)
theorem all_sp {X : aX} {lv m : Nat} (hlv : 1 ≤ lv) (O : PSp X lv zM259 [some (.ref 72), none] m) : PSp X (lv + 1) zM260 [some (.ref 72)] m := by
  intro σ h hr ft op rw ld tp ga gw gT P hf hl ho
  have B0 := PS_b P
  have loop : ∀ (k : Nat) (h1 : aH) (hr1 ft1 op1 ld1 : Int32) (ga1 gw1 : Nat → Int32), (tp.toInt - hr1.toInt).toNat < k → PR σ h hr op rw ld tp ga gw gT h1 hr1 ft1 op1 ld1 ga1 gw1 → Wp X (lv + 1) zM260 (fun v h' => v = none ∧ ∃ (hr' ft' op' ld' : Int32) (ga' gw' : Nat → Int32), PR σ h hr op rw ld tp ga gw gT h' hr' ft' op' ld' ga' gw') 4 [some (.ref 72)] [] h1 := by
    intro k
    induction k with
    | zero => intro h1 hr1 ft1 op1 ld1 ga1 gw1 hk; omega
    | succ k ih =>
      intro h1 hr1 ft1 op1 ld1 ga1 gw1 hk A
      have P1 := A.2.1
      have B1 := PS_b P1
      obtain ⟨fs1, c1, F65, -⟩ := PS_c P1
      have A3 := A.2.2.1
      have A5 := A.2.2.2.2.1
      refine wp1 (fun n d => r_aloadn f260_4 rfl) ?_
      refine w_get f260_5 c1 F65 ?_
      have kE : Wp X (lv + 1) zM260 (fun v h' => v = none ∧ ∃ (hr' ft' op' ld' : Int32) (ga' gw' : Nat → Int32), PR σ h hr op rw ld tp ga gw gT h' hr' ft' op' ld' ga' gw') 44 [some (.ref 72)] [] h1 := wp_end (fun n d => r_vreturn f260_44 rfl) ⟨rfl, hr1, ft1, op1, ld1, ga1, gw1, A⟩
      refine w_if_ge f260_8 (fun _ => kE) (fun e8 => ?_)
      have hop := (A.2.2.2.2.2.2.2 e8).1
      have ks : (lkv hr1 tp gT).toInt ≠ -1 → (lkv hr1 tp gT).toInt ≠ 1 ∧ (lkv hr1 tp gT).toInt ≠ 2 ∧ (lkv hr1 tp gT).toInt ≠ 3 ∧ (lkv hr1 tp gT).toInt ≠ 4 → Wp X (lv + 1) zM260 (fun v h' => v = none ∧ ∃ (hr' ft' op' ld' : Int32) (ga' gw' : Nat → Int32), PR σ h hr op rw ld tp ga gw gT h' hr' ft' op' ld' ga' gw') 20 [some (.ref 72)] [] h1 := by
        intro hlt hsg
        have hlt := lkv_lt hlt
        refine w_here P1 (by omega) rfl f260_20 f260_21 f260_22 f260_25 f260_26 f260_27 (fun h1' hr1' e1 G1 P1' => ?_)
        obtain ⟨fs2, c2, -⟩ := PS_c P1'
        refine wp1 (fun n d => r_aloadn f260_30 rfl) ?_
        refine wp_in (lv := lv) (Y := zM259) (O σ h1' hr1' ft1 op1 rw ld1 tp ga1 gw1 gT P1' e8 (by omega) (by omega)) (fun n d v h' e => r_virt (as := []) (r := []) f260_31 c2 (show zmt[259]? = some zM259 from rfl) rfl rfl rfl rfl rfl rfl e) (by omega) ?_
        rintro v' h2 ⟨rfl, hr2, ft2, op2, ld2, ga2, gw2, B⟩
        have P2 := B.2.1
        have B2 := PS_b P2
        have C3 := B.2.2.1
        have C5 := B.2.2.2.2.1
        obtain ⟨fs3, c3, -⟩ := PS_c P2
        show Wp _ _ _ _ 34 [some (.ref 72)] [] _
        refine wp1 (fun n d => r_aloadn f260_34 rfl) ?_
        refine w_bipush f260_35 (fun sg hsg0 => ?_)
        refine w_iconst f260_37 (fun z hz => ?_)
        refine wp_in (lv := 0) (Y := zM253) (lay_wp P2 (x1 := sg) (x2 := z) (by omega)) (fun n d v h' e => r_virt (as := [.int sg, .int z]) (r := []) f260_38 c3 (show zmt[253]? = some zM253 from rfl) rfl rfl rfl rfl rfl rfl e) (by omega) ?_
        rintro v' h3 ⟨rfl, G2, ld3, e3, P3⟩
        show Wp _ _ _ _ 41 [some (.ref 72)] [] _
        refine wp1 (fun n d => r_goto f260_41) ?_
        exact ih h3 hr2 ft2 op2 ld3 _ _ (by omega) (PR_bin A e8 G1 e1 B G2 e3 P3 (by omega) (by omega))
      refine wp1 (fun n d => r_aloadn f260_11 rfl) ?_
      refine wp_in (lv := 0) (Y := zM251) (look_wp P1) (fun n d v h' e => r_virt (as := []) (r := []) f260_12 c1 (show zmt[251]? = some zM251 from rfl) rfl rfl rfl rfl rfl rfl e) (by omega) ?_
      rintro v' h' ⟨rfl, rfl⟩
      show Wp _ _ _ _ 15 [some (.ref 72)] [.int (lkv hr1 tp gT)] _
      refine w_bipush f260_15 (fun v15 hv15 => ?_)
      exact w_icmp_ne f260_17 (fun _ => kE) (fun e => ks (by omega) (by omega))
  obtain ⟨fs, c, -⟩ := PS_c P
  refine wp1 (fun n d => r_aloadn f260_0 rfl) ?_
  refine wp_in (lv := lv) (Y := zM259) (O σ h hr ft op rw ld tp ga gw gT P hf hl ho) (fun n d v h' e => r_virt (as := []) (r := []) f260_1 c (show zmt[259]? = some zM259 from rfl) rfl rfl rfl rfl rfl rfl e) (by omega) ?_
  rintro v' h1 ⟨rfl, hr1, ft1, op1, ld1, ga1, gw1, A⟩
  exact loop _ h1 hr1 ft1 op1 ld1 ga1 gw1 (Nat.lt_succ_self _) A
theorem either_sp {X : aX} {lv m : Nat} (hlv : 1 ≤ lv) (O : PSp X lv zM260 [some (.ref 72)] m) : PSp X (lv + 1) zM261 [some (.ref 72)] m := by
  intro σ h hr ft op rw ld tp ga gw gT P hf hl ho
  have B0 := PS_b P
  have loop : ∀ (k : Nat) (h1 : aH) (hr1 ft1 op1 ld1 : Int32) (ga1 gw1 : Nat → Int32), (tp.toInt - hr1.toInt).toNat < k → PR σ h hr op rw ld tp ga gw gT h1 hr1 ft1 op1 ld1 ga1 gw1 → Wp X (lv + 1) zM261 (fun v h' => v = none ∧ ∃ (hr' ft' op' ld' : Int32) (ga' gw' : Nat → Int32), PR σ h hr op rw ld tp ga gw gT h' hr' ft' op' ld' ga' gw') 4 [some (.ref 72)] [] h1 := by
    intro k
    induction k with
    | zero => intro h1 hr1 ft1 op1 ld1 ga1 gw1 hk; omega
    | succ k ih =>
      intro h1 hr1 ft1 op1 ld1 ga1 gw1 hk A
      have P1 := A.2.1
      have B1 := PS_b P1
      obtain ⟨fs1, c1, F65, -⟩ := PS_c P1
      have A3 := A.2.2.1
      have A5 := A.2.2.2.2.1
      refine wp1 (fun n d => r_aloadn f261_4 rfl) ?_
      refine w_get f261_5 c1 F65 ?_
      have kE : Wp X (lv + 1) zM261 (fun v h' => v = none ∧ ∃ (hr' ft' op' ld' : Int32) (ga' gw' : Nat → Int32), PR σ h hr op rw ld tp ga gw gT h' hr' ft' op' ld' ga' gw') 44 [some (.ref 72)] [] h1 := wp_end (fun n d => r_vreturn f261_44 rfl) ⟨rfl, hr1, ft1, op1, ld1, ga1, gw1, A⟩
      refine w_if_ge f261_8 (fun _ => kE) (fun e8 => ?_)
      have hop := (A.2.2.2.2.2.2.2 e8).1
      have ks : (lkv hr1 tp gT).toInt ≠ -1 → (lkv hr1 tp gT).toInt ≠ 1 ∧ (lkv hr1 tp gT).toInt ≠ 2 ∧ (lkv hr1 tp gT).toInt ≠ 3 ∧ (lkv hr1 tp gT).toInt ≠ 4 → Wp X (lv + 1) zM261 (fun v h' => v = none ∧ ∃ (hr' ft' op' ld' : Int32) (ga' gw' : Nat → Int32), PR σ h hr op rw ld tp ga gw gT h' hr' ft' op' ld' ga' gw') 20 [some (.ref 72)] [] h1 := by
        intro hlt hsg
        have hlt := lkv_lt hlt
        refine w_here P1 (by omega) rfl f261_20 f261_21 f261_22 f261_25 f261_26 f261_27 (fun h1' hr1' e1 G1 P1' => ?_)
        obtain ⟨fs2, c2, -⟩ := PS_c P1'
        refine wp1 (fun n d => r_aloadn f261_30 rfl) ?_
        refine wp_in (lv := lv) (Y := zM260) (O σ h1' hr1' ft1 op1 rw ld1 tp ga1 gw1 gT P1' e8 (by omega) (by omega)) (fun n d v h' e => r_virt (as := []) (r := []) f261_31 c2 (show zmt[260]? = some zM260 from rfl) rfl rfl rfl rfl rfl rfl e) (by omega) ?_
        rintro v' h2 ⟨rfl, hr2, ft2, op2, ld2, ga2, gw2, B⟩
        have P2 := B.2.1
        have B2 := PS_b P2
        have C3 := B.2.2.1
        have C5 := B.2.2.2.2.1
        obtain ⟨fs3, c3, -⟩ := PS_c P2
        show Wp _ _ _ _ 34 [some (.ref 72)] [] _
        refine wp1 (fun n d => r_aloadn f261_34 rfl) ?_
        refine w_bipush f261_35 (fun sg hsg0 => ?_)
        refine w_iconst f261_37 (fun z hz => ?_)
        refine wp_in (lv := 0) (Y := zM253) (lay_wp P2 (x1 := sg) (x2 := z) (by omega)) (fun n d v h' e => r_virt (as := [.int sg, .int z]) (r := []) f261_38 c3 (show zmt[253]? = some zM253 from rfl) rfl rfl rfl rfl rfl rfl e) (by omega) ?_
        rintro v' h3 ⟨rfl, G2, ld3, e3, P3⟩
        show Wp _ _ _ _ 41 [some (.ref 72)] [] _
        refine wp1 (fun n d => r_goto f261_41) ?_
        exact ih h3 hr2 ft2 op2 ld3 _ _ (by omega) (PR_bin A e8 G1 e1 B G2 e3 P3 (by omega) (by omega))
      refine wp1 (fun n d => r_aloadn f261_11 rfl) ?_
      refine wp_in (lv := 0) (Y := zM251) (look_wp P1) (fun n d v h' e => r_virt (as := []) (r := []) f261_12 c1 (show zmt[251]? = some zM251 from rfl) rfl rfl rfl rfl rfl rfl e) (by omega) ?_
      rintro v' h' ⟨rfl, rfl⟩
      show Wp _ _ _ _ 15 [some (.ref 72)] [.int (lkv hr1 tp gT)] _
      refine w_bipush f261_15 (fun v15 hv15 => ?_)
      exact w_icmp_ne f261_17 (fun _ => kE) (fun e => ks (by omega) (by omega))
  obtain ⟨fs, c, -⟩ := PS_c P
  refine wp1 (fun n d => r_aloadn f261_0 rfl) ?_
  refine wp_in (lv := lv) (Y := zM260) (O σ h hr ft op rw ld tp ga gw gT P hf hl ho) (fun n d v h' e => r_virt (as := []) (r := []) f261_1 c (show zmt[260]? = some zM260 from rfl) rfl rfl rfl rfl rfl rfl e) (by omega) ?_
  rintro v' h1 ⟨rfl, hr1, ft1, op1, ld1, ga1, gw1, A⟩
  exact loop _ h1 hr1 ft1 op1 ld1 ga1 gw1 (Nat.lt_succ_self _) A
end
section
-- ===== by hand: the parser, operands =====
theorem f255_0 : aF 0 zM255.2.2.2.2.2.2.2 = some (0, (.iload_n 0), 1, 0, 0) := by decide +kernel
theorem f255_1 : aF 1 zM255.2.2.2.2.2.2.2 = some (1, (.tableswitch 144 98 121 #[141, 121, 144, 129, 117, 119, 144, 144, 138, 113, 126, 135, 144, 144, 132, 144, 144, 115, 123, 144, 144, 144, 144, 111]), 111, 0, 0) := by decide +kernel
theorem f255_112 : aF 112 zM255.2.2.2.2.2.2.2 = some (112, (.iconst 0), 1, 0, 0) := by decide +kernel
theorem f255_113 : aF 113 zM255.2.2.2.2.2.2.2 = some (113, .ireturn, 1, 0, 0) := by decide +kernel
theorem f255_114 : aF 114 zM255.2.2.2.2.2.2.2 = some (114, (.iconst 1), 1, 0, 0) := by decide +kernel
theorem f255_115 : aF 115 zM255.2.2.2.2.2.2.2 = some (115, .ireturn, 1, 0, 0) := by decide +kernel
theorem f255_116 : aF 116 zM255.2.2.2.2.2.2.2 = some (116, (.iconst 2), 1, 0, 0) := by decide +kernel
theorem f255_117 : aF 117 zM255.2.2.2.2.2.2.2 = some (117, .ireturn, 1, 0, 0) := by decide +kernel
theorem f255_118 : aF 118 zM255.2.2.2.2.2.2.2 = some (118, (.iconst 3), 1, 0, 0) := by decide +kernel
theorem f255_119 : aF 119 zM255.2.2.2.2.2.2.2 = some (119, .ireturn, 1, 0, 0) := by decide +kernel
theorem f255_120 : aF 120 zM255.2.2.2.2.2.2.2 = some (120, (.iconst 4), 1, 0, 0) := by decide +kernel
theorem f255_121 : aF 121 zM255.2.2.2.2.2.2.2 = some (121, .ireturn, 1, 0, 0) := by decide +kernel
theorem f255_122 : aF 122 zM255.2.2.2.2.2.2.2 = some (122, (.iconst 5), 1, 0, 0) := by decide +kernel
theorem f255_123 : aF 123 zM255.2.2.2.2.2.2.2 = some (123, .ireturn, 1, 0, 0) := by decide +kernel
theorem f255_124 : aF 124 zM255.2.2.2.2.2.2.2 = some (124, (.bipush 6), 2, 0, 0) := by decide +kernel
theorem f255_126 : aF 126 zM255.2.2.2.2.2.2.2 = some (126, .ireturn, 1, 0, 0) := by decide +kernel
theorem f255_127 : aF 127 zM255.2.2.2.2.2.2.2 = some (127, (.bipush 7), 2, 0, 0) := by decide +kernel
theorem f255_129 : aF 129 zM255.2.2.2.2.2.2.2 = some (129, .ireturn, 1, 0, 0) := by decide +kernel
theorem f255_130 : aF 130 zM255.2.2.2.2.2.2.2 = some (130, (.bipush 8), 2, 0, 0) := by decide +kernel
theorem f255_132 : aF 132 zM255.2.2.2.2.2.2.2 = some (132, .ireturn, 1, 0, 0) := by decide +kernel
theorem f255_133 : aF 133 zM255.2.2.2.2.2.2.2 = some (133, (.bipush 9), 2, 0, 0) := by decide +kernel
theorem f255_135 : aF 135 zM255.2.2.2.2.2.2.2 = some (135, .ireturn, 1, 0, 0) := by decide +kernel
theorem f255_136 : aF 136 zM255.2.2.2.2.2.2.2 = some (136, (.bipush 10), 2, 0, 0) := by decide +kernel
theorem f255_138 : aF 138 zM255.2.2.2.2.2.2.2 = some (138, .ireturn, 1, 0, 0) := by decide +kernel
theorem f255_139 : aF 139 zM255.2.2.2.2.2.2.2 = some (139, (.bipush 11), 2, 0, 0) := by decide +kernel
theorem f255_141 : aF 141 zM255.2.2.2.2.2.2.2 = some (141, .ireturn, 1, 0, 0) := by decide +kernel
theorem f255_142 : aF 142 zM255.2.2.2.2.2.2.2 = some (142, (.bipush 12), 2, 0, 0) := by decide +kernel
theorem f255_144 : aF 144 zM255.2.2.2.2.2.2.2 = some (144, .ireturn, 1, 0, 0) := by decide +kernel
theorem f255_145 : aF 145 zM255.2.2.2.2.2.2.2 = some (145, (.iconst (-1)), 1, 0, 0) := by decide +kernel
theorem f255_146 : aF 146 zM255.2.2.2.2.2.2.2 = some (146, .ireturn, 1, 0, 0) := by decide +kernel
theorem f256_0 : aF 0 zM256.2.2.2.2.2.2.2 = some (0, (.aload_n 0), 1, 0, 0) := by decide +kernel
theorem f256_1 : aF 1 zM256.2.2.2.2.2.2.2 = some (1, (.invokevirtual 412), 3, 251, 0) := by decide +kernel
theorem f256_4 : aF 4 zM256.2.2.2.2.2.2.2 = some (4, (.istore_n 1), 1, 0, 0) := by decide +kernel
theorem f256_5 : aF 5 zM256.2.2.2.2.2.2.2 = some (5, (.iload_n 1), 1, 0, 0) := by decide +kernel
theorem f256_6 : aF 6 zM256.2.2.2.2.2.2.2 = some (6, (.invokestatic 415), 3, 255, 0) := by decide +kernel
theorem f256_9 : aF 9 zM256.2.2.2.2.2.2.2 = some (9, (.ifCond .lt 23), 3, 32, 0) := by decide +kernel
theorem f256_12 : aF 12 zM256.2.2.2.2.2.2.2 = some (12, (.aload_n 0), 1, 0, 0) := by decide +kernel
theorem f256_13 : aF 13 zM256.2.2.2.2.2.2.2 = some (13, (.iconst 2), 1, 0, 0) := by decide +kernel
theorem f256_14 : aF 14 zM256.2.2.2.2.2.2.2 = some (14, (.iload_n 1), 1, 0, 0) := by decide +kernel
theorem f256_15 : aF 15 zM256.2.2.2.2.2.2.2 = some (15, (.invokestatic 415), 3, 255, 0) := by decide +kernel
theorem f256_18 : aF 18 zM256.2.2.2.2.2.2.2 = some (18, (.invokevirtual 418), 3, 253, 0) := by decide +kernel
theorem f256_21 : aF 21 zM256.2.2.2.2.2.2.2 = some (21, (.aload_n 0), 1, 0, 0) := by decide +kernel
theorem f256_22 : aF 22 zM256.2.2.2.2.2.2.2 = some (22, .dup, 1, 0, 0) := by decide +kernel
theorem f256_23 : aF 23 zM256.2.2.2.2.2.2.2 = some (23, (.getfield 394), 3, 12, 64) := by decide +kernel
theorem f256_26 : aF 26 zM256.2.2.2.2.2.2.2 = some (26, (.iconst 1), 1, 0, 0) := by decide +kernel
theorem f256_27 : aF 27 zM256.2.2.2.2.2.2.2 = some (27, .iadd, 1, 0, 0) := by decide +kernel
theorem f256_28 : aF 28 zM256.2.2.2.2.2.2.2 = some (28, (.putfield 394), 3, 12, 64) := by decide +kernel
theorem f256_31 : aF 31 zM256.2.2.2.2.2.2.2 = some (31, .return_, 1, 0, 0) := by decide +kernel
theorem f256_32 : aF 32 zM256.2.2.2.2.2.2.2 = some (32, (.iload_n 1), 1, 0, 0) := by decide +kernel
theorem f256_33 : aF 33 zM256.2.2.2.2.2.2.2 = some (33, (.bipush 33), 2, 0, 0) := by decide +kernel
theorem f256_35 : aF 35 zM256.2.2.2.2.2.2.2 = some (35, (.if_icmp .eq 9), 3, 44, 0) := by decide +kernel
theorem f256_38 : aF 38 zM256.2.2.2.2.2.2.2 = some (38, (.iload_n 1), 1, 0, 0) := by decide +kernel
theorem f256_39 : aF 39 zM256.2.2.2.2.2.2.2 = some (39, (.bipush 45), 2, 0, 0) := by decide +kernel
theorem f256_41 : aF 41 zM256.2.2.2.2.2.2.2 = some (41, (.if_icmp .ne 42), 3, 83, 0) := by decide +kernel
theorem f256_44 : aF 44 zM256.2.2.2.2.2.2.2 = some (44, (.aload_n 0), 1, 0, 0) := by decide +kernel
theorem f256_45 : aF 45 zM256.2.2.2.2.2.2.2 = some (45, (.invokevirtual 421), 3, 254, 0) := by decide +kernel
theorem f256_48 : aF 48 zM256.2.2.2.2.2.2.2 = some (48, (.ifCond .ne 4), 3, 52, 0) := by decide +kernel
theorem f256_51 : aF 51 zM256.2.2.2.2.2.2.2 = some (51, .return_, 1, 0, 0) := by decide +kernel
theorem f256_52 : aF 52 zM256.2.2.2.2.2.2.2 = some (52, (.aload_n 0), 1, 0, 0) := by decide +kernel
theorem f256_53 : aF 53 zM256.2.2.2.2.2.2.2 = some (53, (.invokevirtual 424), 3, 256, 0) := by decide +kernel
theorem f256_56 : aF 56 zM256.2.2.2.2.2.2.2 = some (56, (.aload_n 0), 1, 0, 0) := by decide +kernel
theorem f256_57 : aF 57 zM256.2.2.2.2.2.2.2 = some (57, .dup, 1, 0, 0) := by decide +kernel
theorem f256_58 : aF 58 zM256.2.2.2.2.2.2.2 = some (58, (.getfield 406), 3, 12, 66) := by decide +kernel
theorem f256_61 : aF 61 zM256.2.2.2.2.2.2.2 = some (61, (.iconst 1), 1, 0, 0) := by decide +kernel
theorem f256_62 : aF 62 zM256.2.2.2.2.2.2.2 = some (62, .isub, 1, 0, 0) := by decide +kernel
theorem f256_63 : aF 63 zM256.2.2.2.2.2.2.2 = some (63, (.putfield 406), 3, 12, 66) := by decide +kernel
theorem f256_66 : aF 66 zM256.2.2.2.2.2.2.2 = some (66, (.aload_n 0), 1, 0, 0) := by decide +kernel
theorem f256_67 : aF 67 zM256.2.2.2.2.2.2.2 = some (67, (.iload_n 1), 1, 0, 0) := by decide +kernel
theorem f256_68 : aF 68 zM256.2.2.2.2.2.2.2 = some (68, (.bipush 33), 2, 0, 0) := by decide +kernel
theorem f256_70 : aF 70 zM256.2.2.2.2.2.2.2 = some (70, (.if_icmp .ne 7), 3, 77, 0) := by decide +kernel
theorem f256_73 : aF 73 zM256.2.2.2.2.2.2.2 = some (73, (.iconst 3), 1, 0, 0) := by decide +kernel
theorem f256_74 : aF 74 zM256.2.2.2.2.2.2.2 = some (74, (.goto 4), 3, 78, 0) := by decide +kernel
theorem f256_77 : aF 77 zM256.2.2.2.2.2.2.2 = some (77, (.iconst 4), 1, 0, 0) := by decide +kernel
theorem f256_78 : aF 78 zM256.2.2.2.2.2.2.2 = some (78, (.iconst 0), 1, 0, 0) := by decide +kernel
theorem f256_79 : aF 79 zM256.2.2.2.2.2.2.2 = some (79, (.invokevirtual 418), 3, 253, 0) := by decide +kernel
theorem f256_82 : aF 82 zM256.2.2.2.2.2.2.2 = some (82, .return_, 1, 0, 0) := by decide +kernel
theorem f256_83 : aF 83 zM256.2.2.2.2.2.2.2 = some (83, (.iload_n 1), 1, 0, 0) := by decide +kernel
theorem f256_84 : aF 84 zM256.2.2.2.2.2.2.2 = some (84, (.bipush 40), 2, 0, 0) := by decide +kernel
theorem f256_86 : aF 86 zM256.2.2.2.2.2.2.2 = some (86, (.if_icmp .ne 58), 3, 144, 0) := by decide +kernel
theorem f256_89 : aF 89 zM256.2.2.2.2.2.2.2 = some (89, (.aload_n 0), 1, 0, 0) := by decide +kernel
theorem f256_90 : aF 90 zM256.2.2.2.2.2.2.2 = some (90, (.invokevirtual 421), 3, 254, 0) := by decide +kernel
theorem f256_93 : aF 93 zM256.2.2.2.2.2.2.2 = some (93, (.ifCond .ne 4), 3, 97, 0) := by decide +kernel
theorem f256_96 : aF 96 zM256.2.2.2.2.2.2.2 = some (96, .return_, 1, 0, 0) := by decide +kernel
theorem f256_97 : aF 97 zM256.2.2.2.2.2.2.2 = some (97, (.aload_n 0), 1, 0, 0) := by decide +kernel
theorem f256_98 : aF 98 zM256.2.2.2.2.2.2.2 = some (98, (.invokevirtual 427), 3, 261, 0) := by decide +kernel
theorem f256_101 : aF 101 zM256.2.2.2.2.2.2.2 = some (101, (.aload_n 0), 1, 0, 0) := by decide +kernel
theorem f256_102 : aF 102 zM256.2.2.2.2.2.2.2 = some (102, (.getfield 397), 3, 12, 65) := by decide +kernel
theorem f256_105 : aF 105 zM256.2.2.2.2.2.2.2 = some (105, (.ifCond .lt 4), 3, 109, 0) := by decide +kernel
theorem f256_108 : aF 108 zM256.2.2.2.2.2.2.2 = some (108, .return_, 1, 0, 0) := by decide +kernel
theorem f256_109 : aF 109 zM256.2.2.2.2.2.2.2 = some (109, (.aload_n 0), 1, 0, 0) := by decide +kernel
theorem f256_110 : aF 110 zM256.2.2.2.2.2.2.2 = some (110, (.invokevirtual 412), 3, 251, 0) := by decide +kernel
theorem f256_113 : aF 113 zM256.2.2.2.2.2.2.2 = some (113, (.bipush 41), 2, 0, 0) := by decide +kernel
theorem f256_115 : aF 115 zM256.2.2.2.2.2.2.2 = some (115, (.if_icmp .eq 8), 3, 123, 0) := by decide +kernel
theorem f256_118 : aF 118 zM256.2.2.2.2.2.2.2 = some (118, (.aload_n 0), 1, 0, 0) := by decide +kernel
theorem f256_119 : aF 119 zM256.2.2.2.2.2.2.2 = some (119, (.invokevirtual 409), 3, 252, 0) := by decide +kernel
theorem f256_122 : aF 122 zM256.2.2.2.2.2.2.2 = some (122, .return_, 1, 0, 0) := by decide +kernel
theorem f256_123 : aF 123 zM256.2.2.2.2.2.2.2 = some (123, (.aload_n 0), 1, 0, 0) := by decide +kernel
theorem f256_124 : aF 124 zM256.2.2.2.2.2.2.2 = some (124, .dup, 1, 0, 0) := by decide +kernel
theorem f256_125 : aF 125 zM256.2.2.2.2.2.2.2 = some (125, (.getfield 406), 3, 12, 66) := by decide +kernel
theorem f256_128 : aF 128 zM256.2.2.2.2.2.2.2 = some (128, (.iconst 1), 1, 0, 0) := by decide +kernel
theorem f256_129 : aF 129 zM256.2.2.2.2.2.2.2 = some (129, .isub, 1, 0, 0) := by decide +kernel
theorem f256_130 : aF 130 zM256.2.2.2.2.2.2.2 = some (130, (.putfield 406), 3, 12, 66) := by decide +kernel
theorem f256_133 : aF 133 zM256.2.2.2.2.2.2.2 = some (133, (.aload_n 0), 1, 0, 0) := by decide +kernel
theorem f256_134 : aF 134 zM256.2.2.2.2.2.2.2 = some (134, .dup, 1, 0, 0) := by decide +kernel
theorem f256_135 : aF 135 zM256.2.2.2.2.2.2.2 = some (135, (.getfield 394), 3, 12, 64) := by decide +kernel
theorem f256_138 : aF 138 zM256.2.2.2.2.2.2.2 = some (138, (.iconst 1), 1, 0, 0) := by decide +kernel
theorem f256_139 : aF 139 zM256.2.2.2.2.2.2.2 = some (139, .iadd, 1, 0, 0) := by decide +kernel
theorem f256_140 : aF 140 zM256.2.2.2.2.2.2.2 = some (140, (.putfield 394), 3, 12, 64) := by decide +kernel
theorem f256_143 : aF 143 zM256.2.2.2.2.2.2.2 = some (143, .return_, 1, 0, 0) := by decide +kernel
theorem f256_144 : aF 144 zM256.2.2.2.2.2.2.2 = some (144, (.iconst 0), 1, 0, 0) := by decide +kernel
theorem f256_145 : aF 145 zM256.2.2.2.2.2.2.2 = some (145, (.istore_n 2), 1, 0, 0) := by decide +kernel
theorem f256_146 : aF 146 zM256.2.2.2.2.2.2.2 = some (146, (.iconst 0), 1, 0, 0) := by decide +kernel
theorem f256_147 : aF 147 zM256.2.2.2.2.2.2.2 = some (147, (.istore_n 3), 1, 0, 0) := by decide +kernel
theorem f256_148 : aF 148 zM256.2.2.2.2.2.2.2 = some (148, (.iload_n 2), 1, 0, 0) := by decide +kernel
theorem f256_149 : aF 149 zM256.2.2.2.2.2.2.2 = some (149, (.bipush 6), 2, 0, 0) := by decide +kernel
theorem f256_151 : aF 151 zM256.2.2.2.2.2.2.2 = some (151, (.if_icmp .ge 46), 3, 197, 0) := by decide +kernel
theorem f256_154 : aF 154 zM256.2.2.2.2.2.2.2 = some (154, (.aload_n 0), 1, 0, 0) := by decide +kernel
theorem f256_155 : aF 155 zM256.2.2.2.2.2.2.2 = some (155, (.invokevirtual 412), 3, 251, 0) := by decide +kernel
theorem f256_158 : aF 158 zM256.2.2.2.2.2.2.2 = some (158, (.bipush 48), 2, 0, 0) := by decide +kernel
theorem f256_160 : aF 160 zM256.2.2.2.2.2.2.2 = some (160, (.bipush 57), 2, 0, 0) := by decide +kernel
theorem f256_162 : aF 162 zM256.2.2.2.2.2.2.2 = some (162, (.invokestatic 258), 3, 196, 0) := by decide +kernel
theorem f256_165 : aF 165 zM256.2.2.2.2.2.2.2 = some (165, (.ifCond .eq 32), 3, 197, 0) := by decide +kernel
theorem f256_168 : aF 168 zM256.2.2.2.2.2.2.2 = some (168, (.bipush 10), 2, 0, 0) := by decide +kernel
theorem f256_170 : aF 170 zM256.2.2.2.2.2.2.2 = some (170, (.iload_n 3), 1, 0, 0) := by decide +kernel
theorem f256_171 : aF 171 zM256.2.2.2.2.2.2.2 = some (171, .imul, 1, 0, 0) := by decide +kernel
theorem f256_172 : aF 172 zM256.2.2.2.2.2.2.2 = some (172, (.aload_n 0), 1, 0, 0) := by decide +kernel
theorem f256_173 : aF 173 zM256.2.2.2.2.2.2.2 = some (173, (.invokevirtual 412), 3, 251, 0) := by decide +kernel
theorem f256_176 : aF 176 zM256.2.2.2.2.2.2.2 = some (176, .iadd, 1, 0, 0) := by decide +kernel
theorem f256_177 : aF 177 zM256.2.2.2.2.2.2.2 = some (177, (.bipush 48), 2, 0, 0) := by decide +kernel
theorem f256_179 : aF 179 zM256.2.2.2.2.2.2.2 = some (179, .isub, 1, 0, 0) := by decide +kernel
theorem f256_180 : aF 180 zM256.2.2.2.2.2.2.2 = some (180, (.istore_n 3), 1, 0, 0) := by decide +kernel
theorem f256_181 : aF 181 zM256.2.2.2.2.2.2.2 = some (181, (.iinc 2 1), 3, 0, 0) := by decide +kernel
theorem f256_184 : aF 184 zM256.2.2.2.2.2.2.2 = some (184, (.aload_n 0), 1, 0, 0) := by decide +kernel
theorem f256_185 : aF 185 zM256.2.2.2.2.2.2.2 = some (185, .dup, 1, 0, 0) := by decide +kernel
theorem f256_186 : aF 186 zM256.2.2.2.2.2.2.2 = some (186, (.getfield 394), 3, 12, 64) := by decide +kernel
theorem f256_189 : aF 189 zM256.2.2.2.2.2.2.2 = some (189, (.iconst 1), 1, 0, 0) := by decide +kernel
theorem f256_190 : aF 190 zM256.2.2.2.2.2.2.2 = some (190, .iadd, 1, 0, 0) := by decide +kernel
theorem f256_191 : aF 191 zM256.2.2.2.2.2.2.2 = some (191, (.putfield 394), 3, 12, 64) := by decide +kernel
theorem f256_194 : aF 194 zM256.2.2.2.2.2.2.2 = some (194, (.goto (-46)), 3, 148, 0) := by decide +kernel
theorem f256_197 : aF 197 zM256.2.2.2.2.2.2.2 = some (197, (.iload_n 2), 1, 0, 0) := by decide +kernel
theorem f256_198 : aF 198 zM256.2.2.2.2.2.2.2 = some (198, (.ifCond .eq 17), 3, 215, 0) := by decide +kernel
theorem f256_201 : aF 201 zM256.2.2.2.2.2.2.2 = some (201, (.aload_n 0), 1, 0, 0) := by decide +kernel
theorem f256_202 : aF 202 zM256.2.2.2.2.2.2.2 = some (202, (.invokevirtual 412), 3, 251, 0) := by decide +kernel
theorem f256_205 : aF 205 zM256.2.2.2.2.2.2.2 = some (205, (.bipush 48), 2, 0, 0) := by decide +kernel
theorem f256_207 : aF 207 zM256.2.2.2.2.2.2.2 = some (207, (.bipush 57), 2, 0, 0) := by decide +kernel
theorem f256_209 : aF 209 zM256.2.2.2.2.2.2.2 = some (209, (.invokestatic 258), 3, 196, 0) := by decide +kernel
theorem f256_212 : aF 212 zM256.2.2.2.2.2.2.2 = some (212, (.ifCond .eq 10), 3, 222, 0) := by decide +kernel
theorem f256_215 : aF 215 zM256.2.2.2.2.2.2.2 = some (215, (.aload_n 0), 1, 0, 0) := by decide +kernel
theorem f256_216 : aF 216 zM256.2.2.2.2.2.2.2 = some (216, (.invokevirtual 409), 3, 252, 0) := by decide +kernel
theorem f256_219 : aF 219 zM256.2.2.2.2.2.2.2 = some (219, (.goto 9), 3, 228, 0) := by decide +kernel
theorem f256_222 : aF 222 zM256.2.2.2.2.2.2.2 = some (222, (.aload_n 0), 1, 0, 0) := by decide +kernel
theorem f256_223 : aF 223 zM256.2.2.2.2.2.2.2 = some (223, (.iconst 1), 1, 0, 0) := by decide +kernel
theorem f256_224 : aF 224 zM256.2.2.2.2.2.2.2 = some (224, (.iload_n 3), 1, 0, 0) := by decide +kernel
theorem f256_225 : aF 225 zM256.2.2.2.2.2.2.2 = some (225, (.invokevirtual 418), 3, 253, 0) := by decide +kernel
theorem f256_228 : aF 228 zM256.2.2.2.2.2.2.2 = some (228, .return_, 1, 0, 0) := by decide +kernel
theorem asw_pick {x : Int32} {d : Int} : ∀ (l : List Int) (lo : Int), ∃ o, o ∈ d :: l ∧ ∀ k : Int → Option aR, asw x k d lo l = k o
  | [], lo => ⟨d, List.mem_cons_self, fun k => rfl⟩
  | o :: r, lo => by
    by_cases e : x = Int32.ofInt lo
    · exact ⟨o, List.mem_cons_of_mem _ List.mem_cons_self, fun k => by unfold asw; rw [if_pos e]⟩
    · obtain ⟨o', h1, h2⟩ := asw_pick (x := x) (d := d) r (lo + 1)
      refine ⟨o', ?_, fun k => by unfold asw; rw [if_neg e]; exact h2 k⟩
      rcases List.mem_cons.mp h1 with q | q
      · rw [q]; exact List.mem_cons_self
      · exact List.mem_cons_of_mem _ (List.mem_cons_of_mem _ q)
def nmW (x v : Int32) (pc : Nat) : Prop := ∀ (X : aX) (D : Nat) (h : aH), Wp X D zM255 (fun v' h' => h = h' ∧ v' = some (.int v)) pc [some (.int x)] [] h
theorem nm_112 {x : Int32} : ∃ v : Int32, -1 ≤ v.toInt ∧ v.toInt ≤ 12 ∧ nmW x v 112 := ⟨Int32.ofInt 0, by decide, by decide, fun X D h => wp1 (fun n d => r_iconst f255_112 rfl) (wp_end (fun n d => r_ireturn f255_113 rfl) ⟨rfl, rfl⟩)⟩
theorem nm_114 {x : Int32} : ∃ v : Int32, -1 ≤ v.toInt ∧ v.toInt ≤ 12 ∧ nmW x v 114 := ⟨Int32.ofInt 1, by decide, by decide, fun X D h => wp1 (fun n d => r_iconst f255_114 rfl) (wp_end (fun n d => r_ireturn f255_115 rfl) ⟨rfl, rfl⟩)⟩
theorem nm_116 {x : Int32} : ∃ v : Int32, -1 ≤ v.toInt ∧ v.toInt ≤ 12 ∧ nmW x v 116 := ⟨Int32.ofInt 2, by decide, by decide, fun X D h => wp1 (fun n d => r_iconst f255_116 rfl) (wp_end (fun n d => r_ireturn f255_117 rfl) ⟨rfl, rfl⟩)⟩
theorem nm_118 {x : Int32} : ∃ v : Int32, -1 ≤ v.toInt ∧ v.toInt ≤ 12 ∧ nmW x v 118 := ⟨Int32.ofInt 3, by decide, by decide, fun X D h => wp1 (fun n d => r_iconst f255_118 rfl) (wp_end (fun n d => r_ireturn f255_119 rfl) ⟨rfl, rfl⟩)⟩
theorem nm_120 {x : Int32} : ∃ v : Int32, -1 ≤ v.toInt ∧ v.toInt ≤ 12 ∧ nmW x v 120 := ⟨Int32.ofInt 4, by decide, by decide, fun X D h => wp1 (fun n d => r_iconst f255_120 rfl) (wp_end (fun n d => r_ireturn f255_121 rfl) ⟨rfl, rfl⟩)⟩
theorem nm_122 {x : Int32} : ∃ v : Int32, -1 ≤ v.toInt ∧ v.toInt ≤ 12 ∧ nmW x v 122 := ⟨Int32.ofInt 5, by decide, by decide, fun X D h => wp1 (fun n d => r_iconst f255_122 rfl) (wp_end (fun n d => r_ireturn f255_123 rfl) ⟨rfl, rfl⟩)⟩
theorem nm_124 {x : Int32} : ∃ v : Int32, -1 ≤ v.toInt ∧ v.toInt ≤ 12 ∧ nmW x v 124 := ⟨(Int8.ofInt 6).toInt32, by decide, by decide, fun X D h => wp1 (fun n d => r_bipush f255_124 rfl) (wp_end (fun n d => r_ireturn f255_126 rfl) ⟨rfl, rfl⟩)⟩
theorem nm_127 {x : Int32} : ∃ v : Int32, -1 ≤ v.toInt ∧ v.toInt ≤ 12 ∧ nmW x v 127 := ⟨(Int8.ofInt 7).toInt32, by decide, by decide, fun X D h => wp1 (fun n d => r_bipush f255_127 rfl) (wp_end (fun n d => r_ireturn f255_129 rfl) ⟨rfl, rfl⟩)⟩
theorem nm_130 {x : Int32} : ∃ v : Int32, -1 ≤ v.toInt ∧ v.toInt ≤ 12 ∧ nmW x v 130 := ⟨(Int8.ofInt 8).toInt32, by decide, by decide, fun X D h => wp1 (fun n d => r_bipush f255_130 rfl) (wp_end (fun n d => r_ireturn f255_132 rfl) ⟨rfl, rfl⟩)⟩
theorem nm_133 {x : Int32} : ∃ v : Int32, -1 ≤ v.toInt ∧ v.toInt ≤ 12 ∧ nmW x v 133 := ⟨(Int8.ofInt 9).toInt32, by decide, by decide, fun X D h => wp1 (fun n d => r_bipush f255_133 rfl) (wp_end (fun n d => r_ireturn f255_135 rfl) ⟨rfl, rfl⟩)⟩
theorem nm_136 {x : Int32} : ∃ v : Int32, -1 ≤ v.toInt ∧ v.toInt ≤ 12 ∧ nmW x v 136 := ⟨(Int8.ofInt 10).toInt32, by decide, by decide, fun X D h => wp1 (fun n d => r_bipush f255_136 rfl) (wp_end (fun n d => r_ireturn f255_138 rfl) ⟨rfl, rfl⟩)⟩
theorem nm_139 {x : Int32} : ∃ v : Int32, -1 ≤ v.toInt ∧ v.toInt ≤ 12 ∧ nmW x v 139 := ⟨(Int8.ofInt 11).toInt32, by decide, by decide, fun X D h => wp1 (fun n d => r_bipush f255_139 rfl) (wp_end (fun n d => r_ireturn f255_141 rfl) ⟨rfl, rfl⟩)⟩
theorem nm_142 {x : Int32} : ∃ v : Int32, -1 ≤ v.toInt ∧ v.toInt ≤ 12 ∧ nmW x v 142 := ⟨(Int8.ofInt 12).toInt32, by decide, by decide, fun X D h => wp1 (fun n d => r_bipush f255_142 rfl) (wp_end (fun n d => r_ireturn f255_144 rfl) ⟨rfl, rfl⟩)⟩
theorem nm_145 {x : Int32} : ∃ v : Int32, -1 ≤ v.toInt ∧ v.toInt ≤ 12 ∧ nmW x v 145 := ⟨Int32.ofInt (-1), by decide, by decide, fun X D h => wp1 (fun n d => r_iconst f255_145 rfl) (wp_end (fun n d => r_ireturn f255_146 rfl) ⟨rfl, rfl⟩)⟩
theorem nm_d {x : Int32} : nmW x (Int32.ofInt (-1)) 145 := fun X D h => wp1 (fun n d => r_iconst f255_145 rfl) (wp_end (fun n d => r_ireturn f255_146 rfl) ⟨rfl, rfl⟩)
theorem nameOf_v (x : Int32) : ∃ v : Int32, -1 ≤ v.toInt ∧ v.toInt ≤ 12 ∧ (0 ≤ v.toInt → x.toInt ≠ -1) ∧ nmW x v 0 := by
  by_cases hx : x = -1
  · subst hx
    refine ⟨Int32.ofInt (-1), by decide, by decide, fun q => absurd q (by decide), fun X D h => ?_⟩
    refine wp1 (fun n d => r_iloadn f255_0 rfl) ?_
    refine wp1 (fun n d => (r_tsw f255_1).trans ?_) (nm_d (x := -1) X D h)
    rfl
  · have hx' : x.toInt ≠ -1 := fun q => hx (b_i.mpr (by rw [q]; decide))
    obtain ⟨o, ho, hk⟩ := asw_pick (x := x) (d := 144) [141, 121, 144, 129, 117, 119, 144, 144, 138, 113, 126, 135, 144, 144, 132, 144, 144, 115, 123, 144, 144, 144, 144, 111] 98
    obtain ⟨v, v0, v1, v2⟩ : ∃ v : Int32, -1 ≤ v.toInt ∧ v.toInt ≤ 12 ∧ nmW x v (((1 : Nat) : Int) + o).toNat := by
      simp only [List.mem_cons, List.not_mem_nil, or_false] at ho
      rcases ho with rfl | rfl | rfl | rfl | rfl | rfl | rfl | rfl | rfl | rfl | rfl | rfl | rfl | rfl | rfl | rfl | rfl | rfl | rfl | rfl | rfl | rfl | rfl | rfl | rfl
      · exact nm_145
      · exact nm_142
      · exact nm_122
      · exact nm_145
      · exact nm_130
      · exact nm_118
      · exact nm_120
      · exact nm_145
      · exact nm_145
      · exact nm_139
      · exact nm_114
      · exact nm_127
      · exact nm_136
      · exact nm_145
      · exact nm_145
      · exact nm_133
      · exact nm_145
      · exact nm_145
      · exact nm_116
      · exact nm_124
      · exact nm_145
      · exact nm_145
      · exact nm_145
      · exact nm_145
      · exact nm_112
    refine ⟨v, v0, v1, fun _ => hx', fun X D h => ?_⟩
    refine wp1 (fun n d => r_iloadn f255_0 rfl) ?_
    exact wp1 (fun n d => (r_tsw f255_1).trans (hk _)) (v2 X D h)
theorem PR_bad {σ : List Nat} {h h1 : aH} {hr op rw ld tp hr1 ft1 op1 : Int32} {ga gw gT : Nat → Int32} (G : dG lWP σ h σ h1) (P : PS σ h1 hr1 ft1 op1 rw ld tp ga gw gT) (hf : 0 ≤ ft1.toInt) (q1 : hr.toInt ≤ hr1.toInt) (q2 : op.toInt ≤ op1.toInt) : PR σ h hr op rw ld tp ga gw gT h1 hr1 ft1 op1 ld ga gw := ⟨G, P, q1, Int.le_refl _, by omega, q2, fun k _ => ⟨rfl, rfl⟩, fun q => absurd q (by omega)⟩
theorem PR_one {σ : List Nat} {h h1 : aH} {hr op rw ld tp hr1 ft1 ld1 s z : Int32} {ga gw gT : Nat → Int32} (G : dG lWP σ h σ h1) (P : PS σ h1 hr1 ft1 op rw ld1 tp (upd ga (170 * rw.toInt.toNat + ld.toInt.toNat) s) (upd gw (170 * rw.toInt.toNat + ld.toInt.toNat) z) gT) (q1 : hr.toInt < hr1.toInt) (l0 : 0 ≤ ld.toInt) (e : ld1.toInt = ld.toInt + 1) (hs : ∀ n, stp s z n (n + 1)) : PR σ h hr op rw ld tp ga gw gT h1 hr1 ft1 op ld1 (upd ga (170 * rw.toInt.toNat + ld.toInt.toNat) s) (upd gw (170 * rw.toInt.toNat + ld.toInt.toNat) z) :=
  ⟨G, P, by omega, by omega, by omega, Int.le_refl _, fun k hk => ⟨pk_un (by omega), pk_un (by omega)⟩, fun _ => ⟨rfl, q1, fun n => by
    rw [show ld1.toInt.toNat = ld.toInt.toNat + 1 by omega]
    refine seg_one ?_
    rw [pk_us, pk_us]
    exact hs n⟩⟩
theorem PR_un {σ : List Nat} {h h1 h2 h3 h4 : aH} {hr op rw ld tp hr1 op1 hr2 ft2 op2 ld2 op3 ld4 s z : Int32} {ga gw gT ga2 gw2 : Nat → Int32} (G1 : dG lWP σ h σ h1) (e1 : hr1.toInt = hr.toInt + 1) (e2 : op1.toInt = op.toInt + 1) (B : PR σ h1 hr1 op1 rw ld tp ga gw gT h2 hr2 ft2 op2 ld2 ga2 gw2) (G3 : dG lWP σ h2 σ h3) (e3 : op3.toInt = op2.toInt - 1) (G4 : dG lWP σ h3 σ h4) (e4 : ld4.toInt = ld2.toInt + 1) (P4 : PS σ h4 hr2 ft2 op3 rw ld4 tp (upd ga2 (170 * rw.toInt.toNat + ld2.toInt.toNat) s) (upd gw2 (170 * rw.toInt.toNat + ld2.toInt.toNat) z) gT) (hs : s.toInt = 3 ∨ s.toInt = 4) (l0 : 0 ≤ ld.toInt) : PR σ h hr op rw ld tp ga gw gT h4 hr2 ft2 op3 ld4 (upd ga2 (170 * rw.toInt.toNat + ld2.toInt.toNat) s) (upd gw2 (170 * rw.toInt.toNat + ld2.toInt.toNat) z) := by
  obtain ⟨b1, b2, b3, b4, b5, b6, b7, b8⟩ := B
  refine ⟨dG_trans (dG_trans G1 b1) (dG_trans G3 G4), P4, by omega, by omega, by omega, by omega, fun k hk => ?_, fun hf2 => ?_⟩
  · rw [pk_un (by omega), pk_un (by omega)]
    exact b7 k hk
  · obtain ⟨y1, y2, y3⟩ := b8 hf2
    refine ⟨by omega, by omega, fun n => ?_⟩
    have s2 : seg (upd ga2 (170 * rw.toInt.toNat + ld2.toInt.toNat) s) (upd gw2 (170 * rw.toInt.toNat + ld2.toInt.toNat) z) (170 * rw.toInt.toNat) ld.toInt.toNat ld2.toInt.toNat n (n + 1) := seg_congr (fun k k1 k2 => by
      rw [pk_un (by omega), pk_un (by omega)]
      exact ⟨rfl, rfl⟩) (y3 n)
    have s3 : seg (upd ga2 (170 * rw.toInt.toNat + ld2.toInt.toNat) s) (upd gw2 (170 * rw.toInt.toNat + ld2.toInt.toNat) z) (170 * rw.toInt.toNat) ld2.toInt.toNat (ld2.toInt.toNat + 1) (n + 1) (n + 1) := by
      refine seg_one ?_
      rw [pk_us, pk_us]
      refine Or.inr (Or.inr (Or.inl ⟨?_, by omega, rfl⟩))
      rw [i_c (z := 3) (by decide), i_c (z := 4) (by decide)]
      exact hs
    rw [show ld4.toInt.toNat = ld2.toInt.toNat + 1 by omega]
    exact seg_app (by omega) (by omega) s2 s3
theorem op_body {X : aX} {lv m : Nat} (hlv : 2 ≤ lv) (O1 : ∀ m', m = m' + 1 → ∃ l1, l1 + 1 ≤ lv ∧ PSp X l1 zM256 [some (.ref 72), none, none, none] m') (O2 : ∀ m', m = m' + 1 → ∃ l2, l2 + 1 ≤ lv ∧ PSp X l2 zM261 [some (.ref 72)] m') : PSp X lv zM256 [some (.ref 72), none, none, none] m := by
  intro σ h hr ft op rw ld tp ga gw gT P hf hl ho
  have B0 := PS_b P
  obtain ⟨fs, c, F65, -⟩ := PS_c P
  refine wp1 (fun n d => r_aloadn f256_0 rfl) ?_
  refine wp_in (lv := 0) (Y := zM251) (look_wp P) (fun nn dd vv hh ee => r_virt (as := []) (r := []) f256_1 c (show zmt[251]? = some zM251 from rfl) rfl rfl rfl rfl rfl rfl ee) (by omega) ?_
  rintro v' h' ⟨rfl, rfl⟩
  show Wp _ _ _ _ 4 [some (.ref 72), none, none, none] [.int (lkv hr tp gT)] _
  refine wp1 (fun n d => r_istoren (L' := [some (.ref 72), some (.int (lkv hr tp gT)), none, none]) f256_4 rfl rfl) ?_
  have k215 : ∀ (h1 : aH) (hr1 n v : Int32), hr.toInt ≤ hr1.toInt → dG lWP σ h σ h1 → PS σ h1 hr1 ft op rw ld tp ga gw gT → Wp X lv zM256 (fun v h' => v = none ∧ ∃ (hr' ft' op' ld' : Int32) (ga' gw' : Nat → Int32), PR σ h hr op rw ld tp ga gw gT h' hr' ft' op' ld' ga' gw') 215 [some (.ref 72), some (.int (lkv hr tp gT)), some (.int n), some (.int v)] [] h1 := by
    intro h1 hr1 n v q1 G1 P1
    obtain ⟨fs1, c1, -⟩ := PS_c P1
    refine wp1 (fun n d => r_aloadn f256_215 rfl) ?_
    refine wp_in (lv := 0) (Y := zM252) (wrong_wp P1) (fun nn dd vv hh ee => r_virt (as := []) (r := []) f256_216 c1 (show zmt[252]? = some zM252 from rfl) rfl rfl rfl rfl rfl rfl ee) (by omega) ?_
    rintro v' h2 ⟨rfl, G2, ft2, f2, P2⟩
    refine wp1 (fun n d => r_goto f256_219) ?_
    exact wp_end (fun n d => r_vreturn f256_228 rfl) ⟨rfl, hr1, ft2, op, ld, ga, gw, PR_bad (dG_trans G1 G2) P2 f2 q1 (Int.le_refl _)⟩
  have k197 : ∀ (h1 : aH) (hr1 n v : Int32), 0 ≤ n.toInt → hr1.toInt = hr.toInt + n.toInt → dG lWP σ h σ h1 → PS σ h1 hr1 ft op rw ld tp ga gw gT → Wp X lv zM256 (fun v h' => v = none ∧ ∃ (hr' ft' op' ld' : Int32) (ga' gw' : Nat → Int32), PR σ h hr op rw ld tp ga gw gT h' hr' ft' op' ld' ga' gw') 197 [some (.ref 72), some (.int (lkv hr tp gT)), some (.int n), some (.int v)] [] h1 := by
    intro h1 hr1 n v n0 e1 G1 P1
    obtain ⟨fs1, c1, -⟩ := PS_c P1
    refine wp1 (fun n d => r_iloadn f256_197 rfl) ?_
    refine w_if_eq f256_198 (fun _ => k215 h1 hr1 n v (by omega) G1 P1) (fun e198 => ?_)
    refine wp1 (fun n d => r_aloadn f256_201 rfl) ?_
    refine wp_in (lv := 0) (Y := zM251) (look_wp P1) (fun nn dd vv hh ee => r_virt (as := []) (r := []) f256_202 c1 (show zmt[251]? = some zM251 from rfl) rfl rfl rfl rfl rfl rfl ee) (by omega) ?_
    rintro v' h' ⟨rfl, rfl⟩
    show Wp _ _ _ _ 205 [some (.ref 72), some (.int (lkv hr tp gT)), some (.int n), some (.int v)] [.int (lkv hr1 tp gT)] _
    refine w_bipush f256_205 (fun a ha => ?_)
    refine w_bipush f256_207 (fun b hb => ?_)
    refine wp_in (lv := 0) (Y := zM196) (in_wp (x := (lkv hr1 tp gT)) (a := a) (b := b)) (fun nn dd vv hh ee => r_stat (as := [.int (lkv hr1 tp gT), .int a, .int b]) (r := []) f256_209 rfl (show zmt[196]? = some zM196 from rfl) rfl rfl rfl rfl rfl rfl ee) (by omega) ?_
    rintro v' h' ⟨rfl, r, rfl, r01, hr_⟩
    refine w_if_eq f256_212 (fun _ => ?_) (fun _ => k215 h1 hr1 n v (by omega) G1 P1)
    refine wp1 (fun n d => r_aloadn f256_222 rfl) ?_
    refine w_iconst f256_223 (fun o ho => ?_)
    refine wp1 (fun nn dd => r_iloadn f256_224 rfl) ?_
    have B1 := PS_b P1
    refine wp_in (lv := 0) (Y := zM253) (lay_wp P1 (x1 := o) (x2 := v) (by omega)) (fun nn dd vv hh ee => r_virt (as := [.int o, .int v]) (r := []) f256_225 c1 (show zmt[253]? = some zM253 from rfl) rfl rfl rfl rfl rfl rfl ee) (by omega) ?_
    rintro v' h2 ⟨rfl, G2, ld2, e2, P2⟩
    exact wp_end (fun n d => r_vreturn f256_228 rfl) ⟨rfl, hr1, ft, op, ld2, _, _, PR_one (dG_trans G1 G2) P2 (by omega) (by omega) e2 (fun n => Or.inl ⟨by rw [i_c (z := 1) (by decide)]; exact ho, rfl⟩)⟩
  have k148 : ∀ (k : Nat) (h1 : aH) (hr1 n v : Int32), (6 - n.toInt).toNat < k → 0 ≤ n.toInt → hr1.toInt = hr.toInt + n.toInt → dG lWP σ h σ h1 → PS σ h1 hr1 ft op rw ld tp ga gw gT → Wp X lv zM256 (fun v h' => v = none ∧ ∃ (hr' ft' op' ld' : Int32) (ga' gw' : Nat → Int32), PR σ h hr op rw ld tp ga gw gT h' hr' ft' op' ld' ga' gw') 148 [some (.ref 72), some (.int (lkv hr tp gT)), some (.int n), some (.int v)] [] h1 := by
    intro k
    induction k with
    | zero => intro h1 hr1 n v hk; omega
    | succ k ih =>
      intro h1 hr1 n v hk n0 e1 G1 P1
      have B1 := PS_b P1
      obtain ⟨fs1, c1, -⟩ := PS_c P1
      refine wp1 (fun n d => r_iloadn f256_148 rfl) ?_
      refine w_bipush f256_149 (fun six h6 => ?_)
      refine w_icmp_ge f256_151 (fun _ => k197 h1 hr1 n v n0 e1 G1 P1) (fun e151 => ?_)
      refine wp1 (fun n d => r_aloadn f256_154 rfl) ?_
      refine wp_in (lv := 0) (Y := zM251) (look_wp P1) (fun nn dd vv hh ee => r_virt (as := []) (r := []) f256_155 c1 (show zmt[251]? = some zM251 from rfl) rfl rfl rfl rfl rfl rfl ee) (by omega) ?_
      rintro v' h' ⟨rfl, rfl⟩
      show Wp _ _ _ _ 158 [some (.ref 72), some (.int (lkv hr tp gT)), some (.int n), some (.int v)] [.int (lkv hr1 tp gT)] _
      refine w_bipush f256_158 (fun a ha => ?_)
      refine w_bipush f256_160 (fun b hb => ?_)
      refine wp_in (lv := 0) (Y := zM196) (in_wp (x := (lkv hr1 tp gT)) (a := a) (b := b)) (fun nn dd vv hh ee => r_stat (as := [.int (lkv hr1 tp gT), .int a, .int b]) (r := []) f256_162 rfl (show zmt[196]? = some zM196 from rfl) rfl rfl rfl rfl rfl rfl ee) (by omega) ?_
      rintro v' h' ⟨rfl, r, rfl, r01, hr_⟩
      refine w_if_eq f256_165 (fun _ => k197 h1 hr1 n v n0 e1 G1 P1) (fun e165 => ?_)
      have hlk := hr_ (by omega)
      have hlt := lkv_lt (hr := hr1) (tp := tp) (gT := gT) (by omega)
      refine w_bipush f256_168 (fun ten h10 => ?_)
      refine wp1 (fun n d => r_iloadn f256_170 rfl) ?_
      refine w_imul' f256_171 (fun v171 => ?_)
      refine wp1 (fun n d => r_aloadn f256_172 rfl) ?_
      refine wp_in (lv := 0) (Y := zM251) (look_wp P1) (fun nn dd vv hh ee => r_virt (as := []) (r := [.int v171]) f256_173 c1 (show zmt[251]? = some zM251 from rfl) rfl rfl rfl rfl rfl rfl ee) (by omega) ?_
      rintro v' h' ⟨rfl, rfl⟩
      show Wp _ _ _ _ 176 [some (.ref 72), some (.int (lkv hr tp gT)), some (.int n), some (.int v)] [.int (lkv hr1 tp gT), .int v171] _
      refine w_iadd' f256_176 (fun v176 => ?_)
      refine w_bipush f256_177 (fun v177 _ => ?_)
      refine w_isub' f256_179 (fun v179 => ?_)
      refine wp1 (fun nn dd => r_istoren (L' := [some (.ref 72), some (.int (lkv hr tp gT)), some (.int n), some (.int v179)]) f256_180 rfl rfl) ?_
      refine w_iinc f256_181 rfl (by omega) (by omega) (fun v181 hv181 => ?_)
      show Wp _ _ _ _ 184 [some (.ref 72), some (.int (lkv hr tp gT)), some (.int v181), some (.int v179)] [] _
      refine w_here P1 (by omega) rfl f256_184 f256_185 f256_186 f256_189 f256_190 f256_191 (fun h2 hr2 e2 G2 P2 => ?_)
      refine wp1 (fun n d => r_goto f256_194) ?_
      exact ih h2 hr2 v181 v179 (by omega) (by omega) (by omega) (dG_trans G1 G2) P2
  have k144 : Wp X lv zM256 (fun v h' => v = none ∧ ∃ (hr' ft' op' ld' : Int32) (ga' gw' : Nat → Int32), PR σ h hr op rw ld tp ga gw gT h' hr' ft' op' ld' ga' gw') 144 [some (.ref 72), some (.int (lkv hr tp gT)), none, none] [] h := by
    refine w_iconst f256_144 (fun n hn => ?_)
    refine wp1 (fun n' d => r_istoren (L' := [some (.ref 72), some (.int (lkv hr tp gT)), some (.int n), none]) f256_145 rfl rfl) ?_
    refine w_iconst f256_146 (fun v hv => ?_)
    refine wp1 (fun n' d => r_istoren (L' := [some (.ref 72), some (.int (lkv hr tp gT)), some (.int n), some (.int v)]) f256_147 rfl rfl) ?_
    exact k148 _ h hr n v (Nat.lt_succ_self _) (by omega) (by omega) (dG_refl _ _ _) P
  have k83 : Wp X lv zM256 (fun v h' => v = none ∧ ∃ (hr' ft' op' ld' : Int32) (ga' gw' : Nat → Int32), PR σ h hr op rw ld tp ga gw gT h' hr' ft' op' ld' ga' gw') 83 [some (.ref 72), some (.int (lkv hr tp gT)), none, none] [] h := by
    refine wp1 (fun n d => r_iloadn f256_83 rfl) ?_
    refine w_bipush f256_84 (fun v84 hv84 => ?_)
    refine w_icmp_ne f256_86 (fun _ => k144) (fun e86 => ?_)
    have hlt := lkv_lt (hr := hr) (tp := tp) (gT := gT) (by omega)
    refine wp1 (fun n d => r_aloadn f256_89 rfl) ?_
    refine wp_in (lv := 1) (Y := zM254) (opens_wp P (by decide) hlt) (fun nn dd vv hh ee => r_virt (as := []) (r := []) f256_90 c (show zmt[254]? = some zM254 from rfl) rfl rfl rfl rfl rfl rfl ee) (by omega) ?_
    rintro v' h1 ⟨G1, ⟨r, ft1, rfl, r0, f1, P1⟩ | ⟨r, hr1, op1, rfl, r1, e1, e2, o8, P1⟩⟩
    · refine w_if_ne f256_93 (fun q => absurd r0 q) (fun _ => ?_)
      exact wp_end (fun n d => r_vreturn f256_96 rfl) ⟨rfl, hr, ft1, op, ld, ga, gw, PR_bad G1 P1 f1 (Int.le_refl _) (Int.le_refl _)⟩
    obtain ⟨m', rfl⟩ : ∃ m', m = m' + 1 := ⟨m - 1, by omega⟩
    refine w_if_ne f256_93 (fun _ => ?_) (fun q => absurd q (by omega))
    obtain ⟨fs1, c1, -⟩ := PS_c P1
    obtain ⟨l2, hl2, E⟩ := O2 m' rfl
    refine wp1 (fun n d => r_aloadn f256_97 rfl) ?_
    refine wp_in (lv := l2) (Y := zM261) (E σ h1 hr1 ft op1 rw ld tp ga gw gT P1 hf (by omega) (by omega)) (fun nn dd vv hh ee => r_virt (as := []) (r := []) f256_98 c1 (show zmt[261]? = some zM261 from rfl) rfl rfl rfl rfl rfl rfl ee) hl2 ?_
    rintro v' h2 ⟨rfl, hr2, ft2, op2, ld2, ga2, gw2, B⟩
    have P2 := B.2.1
    have B2 := PS_b P2
    have C3 := B.2.2.1
    have C4 := B.2.2.2.1
    have C5 := B.2.2.2.2.1
    have C6 := B.2.2.2.2.2.1
    have C7 := B.2.2.2.2.2.2.1
    obtain ⟨fs2, c2, F65b, -⟩ := PS_c P2
    show Wp _ _ _ _ 101 [some (.ref 72), some (.int (lkv hr tp gT)), none, none] [] _
    refine wp1 (fun n d => r_aloadn f256_101 rfl) ?_
    refine w_get f256_102 c2 F65b ?_
    refine w_if_lt f256_105 (fun f2 => ?_) (fun f2 => wp_end (fun n d => r_vreturn f256_108 rfl) ⟨rfl, hr2, ft2, op2, ld2, ga2, gw2, ⟨dG_trans G1 B.1, P2, by omega, C4, by omega, by omega, C7, fun q => absurd q (by omega)⟩⟩)
    obtain ⟨D1, D2, D3⟩ := B.2.2.2.2.2.2.2 f2
    refine wp1 (fun n d => r_aloadn f256_109 rfl) ?_
    refine wp_in (lv := 0) (Y := zM251) (look_wp P2) (fun nn dd vv hh ee => r_virt (as := []) (r := []) f256_110 c2 (show zmt[251]? = some zM251 from rfl) rfl rfl rfl rfl rfl rfl ee) (by omega) ?_
    rintro v' h' ⟨rfl, rfl⟩
    show Wp _ _ _ _ 113 [some (.ref 72), some (.int (lkv hr tp gT)), none, none] [.int (lkv hr2 tp gT)] _
    refine w_bipush f256_113 (fun v113 hv113 => ?_)
    refine w_icmp_eq f256_115 (fun e115 => ?_) (fun _ => ?_)
    rotate_left
    · refine wp1 (fun n d => r_aloadn f256_118 rfl) ?_
      refine wp_in (lv := 0) (Y := zM252) (wrong_wp P2) (fun nn dd vv hh ee => r_virt (as := []) (r := []) f256_119 c2 (show zmt[252]? = some zM252 from rfl) rfl rfl rfl rfl rfl rfl ee) (by omega) ?_
      rintro v' h3 ⟨rfl, G3, ft3, f3, P3⟩
      exact wp_end (fun n d => r_vreturn f256_122 rfl) ⟨rfl, hr2, ft3, op2, ld2, ga2, gw2, ⟨dG_trans (dG_trans G1 B.1) G3, P3, by omega, C4, by omega, by omega, C7, fun q => absurd q (by omega)⟩⟩
    have hlt2 := lkv_lt (hr := hr2) (tp := tp) (gT := gT) (by omega)
    refine w_opdec P2 (by omega) rfl f256_123 f256_124 f256_125 f256_128 f256_129 f256_130 (fun h3 op3 e3 G3 P3 => ?_)
    refine w_here P3 (by omega) rfl f256_133 f256_134 f256_135 f256_138 f256_139 f256_140 (fun h4 hr4 e4 G4 P4 => ?_)
    exact wp_end (fun n d => r_vreturn f256_143 rfl) ⟨rfl, hr4, ft2, op3, ld2, ga2, gw2, ⟨dG_trans (dG_trans G1 B.1) (dG_trans G3 G4), P4, by omega, C4, by omega, by omega, C7, fun _ => ⟨by omega, by omega, D3⟩⟩⟩
  have k44 : (lkv hr tp gT).toInt ≠ -1 → Wp X lv zM256 (fun v h' => v = none ∧ ∃ (hr' ft' op' ld' : Int32) (ga' gw' : Nat → Int32), PR σ h hr op rw ld tp ga gw gT h' hr' ft' op' ld' ga' gw') 44 [some (.ref 72), some (.int (lkv hr tp gT)), none, none] [] h := by
    intro hlt
    have hlt := lkv_lt hlt
    refine wp1 (fun n d => r_aloadn f256_44 rfl) ?_
    refine wp_in (lv := 1) (Y := zM254) (opens_wp P (by decide) hlt) (fun nn dd vv hh ee => r_virt (as := []) (r := []) f256_45 c (show zmt[254]? = some zM254 from rfl) rfl rfl rfl rfl rfl rfl ee) (by omega) ?_
    rintro v' h1 ⟨G1, ⟨r, ft1, rfl, r0, f1, P1⟩ | ⟨r, hr1, op1, rfl, r1, e1, e2, o8, P1⟩⟩
    · refine w_if_ne f256_48 (fun q => absurd r0 q) (fun _ => ?_)
      exact wp_end (fun n d => r_vreturn f256_51 rfl) ⟨rfl, hr, ft1, op, ld, ga, gw, PR_bad G1 P1 f1 (Int.le_refl _) (Int.le_refl _)⟩
    obtain ⟨m', rfl⟩ : ∃ m', m = m' + 1 := ⟨m - 1, by omega⟩
    refine w_if_ne f256_48 (fun _ => ?_) (fun q => absurd q (by omega))
    obtain ⟨fs1, c1, -⟩ := PS_c P1
    obtain ⟨l1, hl1, E⟩ := O1 m' rfl
    refine wp1 (fun n d => r_aloadn f256_52 rfl) ?_
    refine wp_in (lv := l1) (Y := zM256) (E σ h1 hr1 ft op1 rw ld tp ga gw gT P1 hf (by omega) (by omega)) (fun nn dd vv hh ee => r_virt (as := []) (r := []) f256_53 c1 (show zmt[256]? = some zM256 from rfl) rfl rfl rfl rfl rfl rfl ee) hl1 ?_
    rintro v' h2 ⟨rfl, hr2, ft2, op2, ld2, ga2, gw2, B⟩
    have P2 := B.2.1
    have B2 := PS_b P2
    have C5 := B.2.2.2.2.1
    have C6 := B.2.2.2.2.2.1
    show Wp _ _ _ _ 56 [some (.ref 72), some (.int (lkv hr tp gT)), none, none] [] _
    refine w_opdec P2 (by omega) rfl f256_56 f256_57 f256_58 f256_61 f256_62 f256_63 (fun h3 op3 e3 G3 P3 => ?_)
    obtain ⟨fs3, c3, -⟩ := PS_c P3
    refine wp1 (fun n d => r_aloadn f256_66 rfl) ?_
    have k78 : ∀ s : Int32, (s.toInt = 3 ∨ s.toInt = 4) → Wp X lv zM256 (fun v h' => v = none ∧ ∃ (hr' ft' op' ld' : Int32) (ga' gw' : Nat → Int32), PR σ h hr op rw ld tp ga gw gT h' hr' ft' op' ld' ga' gw') 78 [some (.ref 72), some (.int (lkv hr tp gT)), none, none] [.int s, .ref 72] h3 := by
      intro s hs
      refine w_iconst f256_78 (fun z hz => ?_)
      refine wp_in (lv := 0) (Y := zM253) (lay_wp P3 (x1 := s) (x2 := z) (by omega)) (fun nn dd vv hh ee => r_virt (as := [.int s, .int z]) (r := []) f256_79 c3 (show zmt[253]? = some zM253 from rfl) rfl rfl rfl rfl rfl rfl ee) (by omega) ?_
      rintro v' h4 ⟨rfl, G4, ld4, e4, P4⟩
      exact wp_end (fun n d => r_vreturn f256_82 rfl) ⟨rfl, hr2, ft2, op3, ld4, _, _, PR_un G1 e1 e2 B G3 e3 G4 e4 P4 hs (by omega)⟩
    refine wp1 (fun n d => r_iloadn f256_67 rfl) ?_
    refine w_bipush f256_68 (fun v68 hv68 => ?_)
    refine w_icmp_ne f256_70 (fun _ => ?_) (fun _ => ?_)
    · exact w_iconst f256_77 (fun s hs => k78 s (Or.inr hs))
    · refine w_iconst f256_73 (fun s hs => ?_)
      refine wp1 (fun n d => r_goto f256_74) ?_
      exact k78 s (Or.inl hs)
  obtain ⟨nv, n0, n1, n2, hn⟩ := nameOf_v (lkv hr tp gT)
  refine wp1 (fun n d => r_iloadn f256_5 rfl) ?_
  refine wp_in (lv := 0) (Y := zM255) (hn X 0 h) (fun nn dd vv hh ee => r_stat (as := [.int (lkv hr tp gT)]) (r := []) f256_6 rfl (show zmt[255]? = some zM255 from rfl) rfl rfl rfl rfl rfl rfl ee) (by omega) ?_
  rintro v' h' ⟨rfl, rfl⟩
  refine w_if_lt f256_9 (fun _ => ?_) (fun e9 => ?_)
  rotate_left
  · have hlt := lkv_lt (n2 e9)
    refine wp1 (fun n d => r_aloadn f256_12 rfl) ?_
    refine w_iconst f256_13 (fun two htwo => ?_)
    refine wp1 (fun n d => r_iloadn f256_14 rfl) ?_
    refine wp_in (lv := 0) (Y := zM255) (hn X 0 h) (fun nn dd vv hh ee => r_stat (as := [.int (lkv hr tp gT)]) (r := [.int two, .ref 72]) f256_15 rfl (show zmt[255]? = some zM255 from rfl) rfl rfl rfl rfl rfl rfl ee) (by omega) ?_
    rintro v' h' ⟨rfl, rfl⟩
    show Wp _ _ _ _ 18 [some (.ref 72), some (.int (lkv hr tp gT)), none, none] [.int nv, .int two, .ref 72] _
    refine wp_in (lv := 0) (Y := zM253) (lay_wp P (x1 := two) (x2 := nv) (by omega)) (fun nn dd vv hh ee => r_virt (as := [.int two, .int nv]) (r := []) f256_18 c (show zmt[253]? = some zM253 from rfl) rfl rfl rfl rfl rfl rfl ee) (by omega) ?_
    rintro v' h1 ⟨rfl, G1, ld1, e1, P1⟩
    show Wp _ _ _ _ 21 [some (.ref 72), some (.int (lkv hr tp gT)), none, none] [] _
    refine w_here P1 (by omega) rfl f256_21 f256_22 f256_23 f256_26 f256_27 f256_28 (fun h2 hr2 e2 G2 P2 => ?_)
    exact wp_end (fun n d => r_vreturn f256_31 rfl) ⟨rfl, hr2, ft, op, ld1, _, _, PR_one (dG_trans G1 G2) P2 (by omega) (by omega) e1 (fun n => Or.inr (Or.inl ⟨by rw [i_c (z := 2) (by decide)]; exact htwo, by omega, n1, rfl⟩))⟩
  refine wp1 (fun n d => r_iloadn f256_32 rfl) ?_
  refine w_bipush f256_33 (fun v33 hv33 => ?_)
  refine w_icmp_eq f256_35 (fun e => k44 (by omega)) (fun _ => ?_)
  refine wp1 (fun n d => r_iloadn f256_38 rfl) ?_
  refine w_bipush f256_39 (fun v39 hv39 => ?_)
  exact w_icmp_ne f256_41 (fun _ => k83) (fun e => k44 (by omega))
theorem ei_of {X : aX} {l m : Nat} (hl : 2 ≤ l) (O : PSp X l zM256 [some (.ref 72), none, none, none] m) : PSp X (l + 5) zM261 [some (.ref 72)] m := either_sp (by omega) (all_sp (by omega) (comp_sp (by omega) (sum_sp (by omega) (prod_sp (by omega) O))))
theorem op_sp {X : aX} : ∀ m : Nat, PSp X (2 + 6 * m) zM256 [some (.ref 72), none, none, none] m
  | 0 => op_body (by omega) (fun m' e => absurd e (by omega)) (fun m' e => absurd e (by omega))
  | m + 1 => op_body (by omega) (fun m' e => ⟨2 + 6 * m, by omega, by cases e; exact op_sp m⟩) (fun m' e => ⟨2 + 6 * m + 5, by omega, by cases e; exact ei_of (by omega) (op_sp m)⟩)
theorem ei_sp {X : aX} : PSp X 55 zM261 [some (.ref 72)] 8 := ei_of (l := 50) (by decide) (op_sp 8)
end
section
-- ===== by hand: a line of a text =====
theorem f262_0 : aF 0 zM262.2.2.2.2.2.2.2 = some (0, (.bipush 90), 2, 0, 0) := by decide +kernel
theorem f262_2 : aF 2 zM262.2.2.2.2.2.2.2 = some (2, (.aload_n 0), 1, 0, 0) := by decide +kernel
theorem f262_3 : aF 3 zM262.2.2.2.2.2.2.2 = some (3, (.getfield 400), 3, 12, 67) := by decide +kernel
theorem f262_6 : aF 6 zM262.2.2.2.2.2.2.2 = some (6, .imul, 1, 0, 0) := by decide +kernel
theorem f262_7 : aF 7 zM262.2.2.2.2.2.2.2 = some (7, (.aload_n 0), 1, 0, 0) := by decide +kernel
theorem f262_8 : aF 8 zM262.2.2.2.2.2.2.2 = some (8, (.getfield 161), 3, 12, 59) := by decide +kernel
theorem f262_11 : aF 11 zM262.2.2.2.2.2.2.2 = some (11, (.aload_n 0), 1, 0, 0) := by decide +kernel
theorem f262_12 : aF 12 zM262.2.2.2.2.2.2.2 = some (12, (.getfield 400), 3, 12, 67) := by decide +kernel
theorem f262_15 : aF 15 zM262.2.2.2.2.2.2.2 = some (15, .iaload, 1, 0, 0) := by decide +kernel
theorem f262_16 : aF 16 zM262.2.2.2.2.2.2.2 = some (16, .iadd, 1, 0, 0) := by decide +kernel
theorem f262_17 : aF 17 zM262.2.2.2.2.2.2.2 = some (17, (.istore_n 1), 1, 0, 0) := by decide +kernel
theorem f262_18 : aF 18 zM262.2.2.2.2.2.2.2 = some (18, (.aload_n 0), 1, 0, 0) := by decide +kernel
theorem f262_19 : aF 19 zM262.2.2.2.2.2.2.2 = some (19, (.getfield 403), 3, 12, 68) := by decide +kernel
theorem f262_22 : aF 22 zM262.2.2.2.2.2.2.2 = some (22, (.istore_n 2), 1, 0, 0) := by decide +kernel
theorem f262_23 : aF 23 zM262.2.2.2.2.2.2.2 = some (23, (.aload_n 0), 1, 0, 0) := by decide +kernel
theorem f262_24 : aF 24 zM262.2.2.2.2.2.2.2 = some (24, (.invokevirtual 427), 3, 261, 0) := by decide +kernel
theorem f262_27 : aF 27 zM262.2.2.2.2.2.2.2 = some (27, (.aload_n 0), 1, 0, 0) := by decide +kernel
theorem f262_28 : aF 28 zM262.2.2.2.2.2.2.2 = some (28, (.getfield 164), 3, 12, 60) := by decide +kernel
theorem f262_31 : aF 31 zM262.2.2.2.2.2.2.2 = some (31, (.iload_n 1), 1, 0, 0) := by decide +kernel
theorem f262_32 : aF 32 zM262.2.2.2.2.2.2.2 = some (32, (.iload_n 2), 1, 0, 0) := by decide +kernel
theorem f262_33 : aF 33 zM262.2.2.2.2.2.2.2 = some (33, .iastore, 1, 0, 0) := by decide +kernel
theorem f262_34 : aF 34 zM262.2.2.2.2.2.2.2 = some (34, (.aload_n 0), 1, 0, 0) := by decide +kernel
theorem f262_35 : aF 35 zM262.2.2.2.2.2.2.2 = some (35, (.getfield 397), 3, 12, 65) := by decide +kernel
theorem f262_38 : aF 38 zM262.2.2.2.2.2.2.2 = some (38, (.ifCond .ge 36), 3, 74, 0) := by decide +kernel
theorem f262_41 : aF 41 zM262.2.2.2.2.2.2.2 = some (41, (.aload_n 0), 1, 0, 0) := by decide +kernel
theorem f262_42 : aF 42 zM262.2.2.2.2.2.2.2 = some (42, (.invokevirtual 412), 3, 251, 0) := by decide +kernel
theorem f262_45 : aF 45 zM262.2.2.2.2.2.2.2 = some (45, (.bipush 63), 2, 0, 0) := by decide +kernel
theorem f262_47 : aF 47 zM262.2.2.2.2.2.2.2 = some (47, (.if_icmp .ne 27), 3, 74, 0) := by decide +kernel
theorem f262_50 : aF 50 zM262.2.2.2.2.2.2.2 = some (50, (.aload_n 0), 1, 0, 0) := by decide +kernel
theorem f262_51 : aF 51 zM262.2.2.2.2.2.2.2 = some (51, .dup, 1, 0, 0) := by decide +kernel
theorem f262_52 : aF 52 zM262.2.2.2.2.2.2.2 = some (52, (.getfield 394), 3, 12, 64) := by decide +kernel
theorem f262_55 : aF 55 zM262.2.2.2.2.2.2.2 = some (55, (.iconst 1), 1, 0, 0) := by decide +kernel
theorem f262_56 : aF 56 zM262.2.2.2.2.2.2.2 = some (56, .iadd, 1, 0, 0) := by decide +kernel
theorem f262_57 : aF 57 zM262.2.2.2.2.2.2.2 = some (57, (.putfield 394), 3, 12, 64) := by decide +kernel
theorem f262_60 : aF 60 zM262.2.2.2.2.2.2.2 = some (60, (.aload_n 0), 1, 0, 0) := by decide +kernel
theorem f262_61 : aF 61 zM262.2.2.2.2.2.2.2 = some (61, (.getfield 164), 3, 12, 60) := by decide +kernel
theorem f262_64 : aF 64 zM262.2.2.2.2.2.2.2 = some (64, (.iload_n 1), 1, 0, 0) := by decide +kernel
theorem f262_65 : aF 65 zM262.2.2.2.2.2.2.2 = some (65, (.aload_n 0), 1, 0, 0) := by decide +kernel
theorem f262_66 : aF 66 zM262.2.2.2.2.2.2.2 = some (66, (.getfield 403), 3, 12, 68) := by decide +kernel
theorem f262_69 : aF 69 zM262.2.2.2.2.2.2.2 = some (69, .iastore, 1, 0, 0) := by decide +kernel
theorem f262_70 : aF 70 zM262.2.2.2.2.2.2.2 = some (70, (.aload_n 0), 1, 0, 0) := by decide +kernel
theorem f262_71 : aF 71 zM262.2.2.2.2.2.2.2 = some (71, (.invokevirtual 427), 3, 261, 0) := by decide +kernel
theorem f262_74 : aF 74 zM262.2.2.2.2.2.2.2 = some (74, (.aload_n 0), 1, 0, 0) := by decide +kernel
theorem f262_75 : aF 75 zM262.2.2.2.2.2.2.2 = some (75, (.getfield 167), 3, 12, 61) := by decide +kernel
theorem f262_78 : aF 78 zM262.2.2.2.2.2.2.2 = some (78, (.iload_n 1), 1, 0, 0) := by decide +kernel
theorem f262_79 : aF 79 zM262.2.2.2.2.2.2.2 = some (79, (.aload_n 0), 1, 0, 0) := by decide +kernel
theorem f262_80 : aF 80 zM262.2.2.2.2.2.2.2 = some (80, (.getfield 403), 3, 12, 68) := by decide +kernel
theorem f262_83 : aF 83 zM262.2.2.2.2.2.2.2 = some (83, .iastore, 1, 0, 0) := by decide +kernel
theorem f262_84 : aF 84 zM262.2.2.2.2.2.2.2 = some (84, (.aload_n 0), 1, 0, 0) := by decide +kernel
theorem f262_85 : aF 85 zM262.2.2.2.2.2.2.2 = some (85, (.getfield 161), 3, 12, 59) := by decide +kernel
theorem f262_88 : aF 88 zM262.2.2.2.2.2.2.2 = some (88, (.aload_n 0), 1, 0, 0) := by decide +kernel
theorem f262_89 : aF 89 zM262.2.2.2.2.2.2.2 = some (89, (.getfield 400), 3, 12, 67) := by decide +kernel
theorem f262_92 : aF 92 zM262.2.2.2.2.2.2.2 = some (92, .dup2, 1, 0, 0) := by decide +kernel
theorem f262_93 : aF 93 zM262.2.2.2.2.2.2.2 = some (93, .iaload, 1, 0, 0) := by decide +kernel
theorem f262_94 : aF 94 zM262.2.2.2.2.2.2.2 = some (94, (.iconst 1), 1, 0, 0) := by decide +kernel
theorem f262_95 : aF 95 zM262.2.2.2.2.2.2.2 = some (95, .iadd, 1, 0, 0) := by decide +kernel
theorem f262_96 : aF 96 zM262.2.2.2.2.2.2.2 = some (96, .iastore, 1, 0, 0) := by decide +kernel
theorem f262_97 : aF 97 zM262.2.2.2.2.2.2.2 = some (97, .return_, 1, 0, 0) := by decide +kernel
theorem wfS_lt {ga gw ga' gw' : Nat → Int32} {t a e : Nat} (h : ∀ k, k < e → ga' (170 * t + k) = ga (170 * t + k) ∧ gw' (170 * t + k) = gw (170 * t + k)) (s : wfS ga gw t a e) : wfS ga' gw' t a e := by
  obtain ⟨a1, a2, H, a3, a4⟩ := s
  refine ⟨a1, a2, H, a3, fun k k1 k2 => ?_⟩
  obtain ⟨e1, e2⟩ := h k k2
  rw [e1, e2]
  exact a4 k k1 k2
theorem wfS_nil {ga gw : Nat → Int32} {t a : Nat} (h : a ≤ 170) : wfS ga gw t a a := ⟨Nat.le_refl _, h, fun _ => 0, rfl, fun k k1 k2 => absurd k1 (by omega)⟩
def LN (rw c ld : Nat) (ga gw gt gl : Nat → Int32) : Prop := (c = 0 → ld = 0) ∧ (∀ j, c = j + 1 → (gl (90 * rw + j)).toInt = ld) ∧ ∀ i, i < c → ∃ a e l : Nat, (i = 0 → a = 0) ∧ (∀ j, i = j + 1 → (gl (90 * rw + j)).toInt = a) ∧ (gt (90 * rw + i)).toInt = e ∧ (gl (90 * rw + i)).toInt = l ∧ wfS ga gw rw a e ∧ wfS ga gw rw e l ∧ l ≤ ld
theorem LN_step {rw c ld ld2 e : Nat} {ga gw gt gl ga2 gw2 gt2 gl2 : Nat → Int32} (L : LN rw c ld ga gw gt gl) (h1 : ∀ k, k < ld → ga2 (170 * rw + k) = ga (170 * rw + k) ∧ gw2 (170 * rw + k) = gw (170 * rw + k)) (h2 : ld ≤ ld2) (h3 : ∀ i, i < c → gt2 (90 * rw + i) = gt (90 * rw + i) ∧ gl2 (90 * rw + i) = gl (90 * rw + i)) (h4 : (gt2 (90 * rw + c)).toInt = e) (h5 : (gl2 (90 * rw + c)).toInt = ld2) (h6 : wfS ga2 gw2 rw ld e) (h7 : wfS ga2 gw2 rw e ld2) : LN rw (c + 1) ld2 ga2 gw2 gt2 gl2 := by
  obtain ⟨l1, l2, l3⟩ := L
  refine ⟨fun q => absurd q (by omega), fun j hj => ?_, fun i hi => ?_⟩
  · have : j = c := by omega
    subst this
    exact h5
  · rcases Nat.lt_succ_iff_lt_or_eq.mp hi with q | q
    · obtain ⟨a, e', l, b1, b2, b3, b4, b5, b6, b7⟩ := l3 i q
      have := b6.1
      refine ⟨a, e', l, b1, fun j hj => ?_, by rw [(h3 i q).1]; exact b3, by rw [(h3 i q).2]; exact b4, wfS_lt (fun k hk => h1 k (by omega)) b5, wfS_lt (fun k hk => h1 k (by omega)) b6, by omega⟩
      rw [(h3 j (by omega)).2]
      exact b2 j hj
    · subst q
      refine ⟨ld, e, ld2, l1, fun j hj => ?_, h4, h5, h6, h7, Nat.le_refl _⟩
      rw [(h3 j (by omega)).2]
      exact l2 j hj
theorem PS_cells {σ : List Nat} {h h2 : aH} {hr ft op rw ld tp : Int32} {ga gw gT : Nat → Int32} (P : PS σ h hr ft op rw ld tp ga gw gT) (I2 : dI σ h2) (h72 : h2.1[72]? = h.1[72]?) (h122 : h2.1[122]? = h.1[122]?) (h123 : h2.1[123]? = h.1[123]?) (hT : h2.1[115]? = h.1[115]?) : PS σ h2 hr ft op rw ld tp ga gw gT := by
  obtain ⟨-, ⟨fs, c, r⟩, q1, q2, q3, q4⟩ := P
  exact ⟨I2, ⟨fs, h72.trans c, r⟩, h122.trans q1, h123.trans q2, hT.trans q3, q4⟩
def TS (h : aH) (gm gt gl : Nat → Int32) : Prop := h.1[119]? = some (.inl (0, 17, .inl gm)) ∧ h.1[120]? = some (.inl (0, 1530, .inl gt)) ∧ h.1[121]? = some (.inl (0, 1530, .inl gl))
theorem TS_dG {σ : List Nat} {h h2 : aH} {gm gt gl : Nat → Int32} (T : TS h gm gt gl) (I : dI σ h) (G : dG lWP σ h σ h2) : TS h2 gm gt gl := ⟨dG_a I.1 G T.1 (by decide) rfl, dG_a I.1 G T.2.1 (by decide) rfl, dG_a I.1 G T.2.2 (by decide) rfl⟩
theorem w_txt {X : aX} {D : Nat} {M : aM} {Q : Option Value → aH → Prop} {pc len a b : Nat} {l : aL} {r : List Value} {σ : List Nat} {h : aH} {hr ft op rw ld tp y idx : Int32} {ga gw gT g : Nat → Int32} {o n j : Nat} (hf : aF pc M.2.2.2.2.2.2.2 = some (pc, .iastore, len, a, b)) (P : PS σ h hr ft op rw ld tp ga gw gT) (ho : o = 120 ∧ n = 1530 ∨ o = 121 ∧ n = 1530 ∨ o = 119 ∧ n = 17) (c : h.1[o]? = some (.inl (0, n, .inl g))) (hj : idx.toInt = j) (hj1 : o = 120 ∨ o = 121 → 90 * rw.toInt.toNat ≤ j ∧ j < 90 * rw.toInt.toNat + 90) (hj2 : o = 119 → j = rw.toInt.toNat)
    (kk : ∀ h2 : aH, dG cC144.2.2.1 σ h σ h2 → PS σ h2 hr ft op rw ld tp ga gw gT → h2.1[o]? = some (.inl (0, n, .inl (upd g j y))) → (∀ q, o ≠ q → h2.1[q]? = h.1[q]?) → Wp X D M Q (pc + 1) l r h2) : Wp X D M Q pc l (.int y :: .int idx :: .ref o :: r) h := by
  obtain ⟨I, ⟨fs, c72, F64, F65, F66, F67, F68, F54, F55⟩, c122, c123, cT, q4, q5, -⟩ := id P
  have hW : cWn cC144.2.2.1 o 0 = true := by rcases ho with ⟨rfl, rfl⟩ | ⟨rfl, rfl⟩ | ⟨rfl, rfl⟩ <;> decide
  obtain ⟨I2, G2⟩ := hI_txt I (W := cC144.2.2.1) hW (r := o) (n := n) (j := j) (y := y) (by omega) c72 F55 c ⟨fun e => by omega, fun e t k ht hk => by have := hj1 e; omega, fun e t ht => by have := hj2 e; omega⟩
  have e : idx.toInt.toNat = j := by omega
  refine w_iast hf c (by omega) ?_ ?_
  · rcases ho with ⟨rfl, rfl⟩ | ⟨rfl, rfl⟩ | ⟨rfl, rfl⟩
    · have := hj1 (Or.inl rfl); omega
    · have := hj1 (Or.inr rfl); omega
    · have := hj2 rfl; omega
  · rw [e]
    exact kk _ G2 (PS_cells P I2 (set_ne' (by omega)) (set_ne' (by omega)) (set_ne' (by omega)) (set_ne' (by omega))) (set_eq' c) (fun q hq => set_ne' hq)
theorem line_wp {X : aX} {σ : List Nat} {h : aH} {hr ft op rw ld tp : Int32} {ga gw gT gm gt gl : Nat → Int32} {c : Nat} (P : PS σ h hr ft op rw ld tp ga gw gT) (T : TS h gm gt gl) (hf : ft.toInt < 0) (hl : ld.toInt ≤ hr.toInt) (hc : (gm rw.toInt.toNat).toInt = c) (c1 : c ≤ 89) (N : LN rw.toInt.toNat c ld.toInt.toNat ga gw gt gl) : Wp X 56 zM262 (fun v h' => v = none ∧ dG cC144.2.2.1 σ h σ h' ∧ ∃ (hr' ft' op' ld' : Int32) (ga' gw' gm' gt' gl' : Nat → Int32), PS σ h' hr' ft' op' rw ld' tp ga' gw' gT ∧ TS h' gm' gt' gl' ∧ (gm' rw.toInt.toNat).toInt = c + 1 ∧ (ft'.toInt < 0 → hr.toInt < hr'.toInt ∧ ld'.toInt ≤ hr'.toInt ∧ LN rw.toInt.toNat (c + 1) ld'.toInt.toNat ga' gw' gt' gl')) 0 [some (.ref 72), none, none] [] h := by
  have B0 := PS_b P
  obtain ⟨fs, c72, F65, F66, F67, F68⟩ := PS_c P
  have T0 := T
  obtain ⟨c119, c120, c121⟩ := T
  refine w_bipush f262_0 (fun v0 hv0 => ?_)
  refine wp1 (fun n d => r_aloadn f262_2 rfl) ?_
  refine w_get f262_3 c72 F67 ?_
  refine w_imul f262_6 (by rw [hv0]; omega) (by rw [hv0]; omega) (fun v6 hv6 => ?_)
  rw [hv0] at hv6
  refine wp1 (fun n d => r_aloadn f262_7 rfl) ?_
  have F1001 := hI_r P.1 c72 (f := 59) (q := 119) (by decide +kernel)
  refine w_get f262_8 c72 F1001 ?_
  refine wp1 (fun n d => r_aloadn f262_11 rfl) ?_
  refine w_get f262_12 c72 F67 ?_
  refine w_iald f262_15 c119 (by omega) (by omega) (fun v15 hv15 => ?_)
  have hcc : v15.toInt = c := by rw [hv15]; exact hc
  refine w_iadd f262_16 (by omega) (by omega) (fun v16 hv16 => ?_)
  refine wp1 (fun n d => r_istoren (L' := [some (.ref 72), some (.int v16), none]) f262_17 rfl rfl) ?_
  refine wp1 (fun n d => r_aloadn f262_18 rfl) ?_
  refine w_get f262_19 c72 F68 ?_
  refine wp1 (fun n d => r_istoren (L' := [some (.ref 72), some (.int v16), some (.int ld)]) f262_22 rfl rfl) ?_
  have hl0 : v16.toInt = ((90 * rw.toInt.toNat + c : Nat) : Int) := by omega
  have k74 : ∀ (h1 : aH) (hr1 ft1 op1 ld1 : Int32) (ga1 gw1 gt1 : Nat → Int32), dG cC144.2.2.1 σ h σ h1 → PS σ h1 hr1 ft1 op1 rw ld1 tp ga1 gw1 gT → TS h1 gm gt1 gl → ld.toInt ≤ ld1.toInt → (∀ k, k < ld.toInt.toNat → ga1 (170 * rw.toInt.toNat + k) = ga (170 * rw.toInt.toNat + k) ∧ gw1 (170 * rw.toInt.toNat + k) = gw (170 * rw.toInt.toNat + k)) → (∀ i, i < c → gt1 (90 * rw.toInt.toNat + i) = gt (90 * rw.toInt.toNat + i)) → (ft1.toInt < 0 → hr.toInt < hr1.toInt ∧ ld1.toInt ≤ hr1.toInt ∧ ∃ e : Nat, (gt1 (90 * rw.toInt.toNat + c)).toInt = e ∧ wfS ga1 gw1 rw.toInt.toNat ld.toInt.toNat e ∧ wfS ga1 gw1 rw.toInt.toNat e ld1.toInt.toNat) → Wp X 56 zM262 (fun v h' => v = none ∧ dG cC144.2.2.1 σ h σ h' ∧ ∃ (hr' ft' op' ld' : Int32) (ga' gw' gm' gt' gl' : Nat → Int32), PS σ h' hr' ft' op' rw ld' tp ga' gw' gT ∧ TS h' gm' gt' gl' ∧ (gm' rw.toInt.toNat).toInt = c + 1 ∧ (ft'.toInt < 0 → hr.toInt < hr'.toInt ∧ ld'.toInt ≤ hr'.toInt ∧ LN rw.toInt.toNat (c + 1) ld'.toInt.toNat ga' gw' gt' gl')) 74 [some (.ref 72), some (.int v16), some (.int ld)] [] h1 := by
    intro h1 hr1 ft1 op1 ld1 ga1 gw1 gt1 G1 P1 T1 q1 q2 q3 q4
    have B1 := PS_b P1
    obtain ⟨fs1, d72, F65a, F66a, F67a, F68a⟩ := PS_c P1
    obtain ⟨d119, d120, d121⟩ := T1
    refine wp1 (fun n d => r_aloadn f262_74 rfl) ?_
    have F2001 := hI_r P1.1 d72 (f := 61) (q := 121) (by decide +kernel)
    refine w_get f262_75 d72 F2001 ?_
    refine wp1 (fun n d => r_iloadn f262_78 rfl) ?_
    refine wp1 (fun n d => r_aloadn f262_79 rfl) ?_
    refine w_get f262_80 d72 F68a ?_
    refine w_txt f262_83 P1 (Or.inr (Or.inl ⟨rfl, rfl⟩)) d121 hl0 (fun _ => by omega) (fun e => by omega) (fun h2 G2 P2 e121 ne2 => ?_)
    have e119 := (ne2 119 (by decide)).trans d119
    have e120 := (ne2 120 (by decide)).trans d120
    obtain ⟨fs2, e72, F65b, F66b, F67b, F68b⟩ := PS_c P2
    refine wp1 (fun n d => r_aloadn f262_84 rfl) ?_
    have F3001 := hI_r P2.1 e72 (f := 59) (q := 119) (by decide +kernel)
    refine w_get f262_85 e72 F3001 ?_
    refine wp1 (fun n d => r_aloadn f262_88 rfl) ?_
    refine w_get f262_89 e72 F67b ?_
    refine wp1 (fun n d => r_dup2 f262_92 rfl) ?_
    refine w_iald f262_93 e119 (by omega) (by omega) (fun v93 hv93 => ?_)
    have hcb : v93.toInt = c := by rw [hv93]; exact hc
    refine w_iconst f262_94 (fun v94 hv94 => ?_)
    refine w_iadd f262_95 (by omega) (by omega) (fun v95 hv95 => ?_)
    refine w_txt f262_96 P2 (Or.inr (Or.inr ⟨rfl, rfl⟩)) e119 (j := rw.toInt.toNat) (by omega) (fun e => by omega) (fun _ => rfl) (fun h3 G3 P3 f119 ne3 => ?_)
    refine wp_end (fun n d => r_vreturn f262_97 rfl) ⟨rfl, dG_trans G1 (dG_trans G2 G3), hr1, ft1, op1, ld1, ga1, gw1, _, gt1, upd gl (90 * rw.toInt.toNat + c) ld1, P3, ⟨f119, (ne3 120 (by decide)).trans e120, (ne3 121 (by decide)).trans e121⟩, by rw [pk_us]; omega, fun hf1 => ?_⟩
    obtain ⟨r1, r2, e, r3, r4, r5⟩ := q4 hf1
    exact ⟨r1, r2, LN_step N q2 (by omega) (fun i hi => ⟨q3 i hi, pk_un (by omega)⟩) r3 (by rw [pk_us]; omega) r4 r5⟩
  refine wp1 (fun nn dd => r_aloadn f262_23 rfl) ?_
  refine wp_in (lv := 55) (Y := zM261) (ei_sp σ h hr ft op rw ld tp ga gw gT P hf hl (by omega)) (fun nn dd vv hh ee => r_virt (as := []) (r := []) f262_24 c72 (show zmt[261]? = some zM261 from rfl) rfl rfl rfl rfl rfl rfl ee) (by decide) ?_
  rintro v' h1 ⟨rfl, hr1, ft1, op1, ld1, ga1, gw1, B⟩
  have P1 := B.2.1
  have B1 := PS_b P1
  have C4 := B.2.2.2.1
  have C5 := B.2.2.2.2.1
  have C7 := B.2.2.2.2.2.2.1
  obtain ⟨d119, d120, d121⟩ := TS_dG T0 P.1 B.1
  obtain ⟨fs1, d72, F65a, F66a, F67a, F68a⟩ := PS_c P1
  show Wp _ _ _ _ 27 [some (.ref 72), some (.int v16), some (.int ld)] [] _
  refine wp1 (fun n d => r_aloadn f262_27 rfl) ?_
  have F2001 := hI_r P1.1 d72 (f := 60) (q := 120) (by decide +kernel)
  refine w_get f262_28 d72 F2001 ?_
  refine wp1 (fun n d => r_iloadn f262_31 rfl) ?_
  refine wp1 (fun n d => r_iloadn f262_32 rfl) ?_
  refine w_txt f262_33 P1 (Or.inl ⟨rfl, rfl⟩) d120 hl0 (fun _ => by omega) (fun e => by omega) (fun h2 G2 P2 e120 ne2 => ?_)
  have e119 := (ne2 119 (by decide)).trans d119
  have e121 := (ne2 121 (by decide)).trans d121
  obtain ⟨fs2, e72, F65b, F66b, F67b, F68b⟩ := PS_c P2
  have G12 : dG cC144.2.2.1 σ h σ h2 := dG_trans (dG_sub (by decide) B.1) G2
  have kk : Wp X 56 zM262 (fun v h' => v = none ∧ dG cC144.2.2.1 σ h σ h' ∧ ∃ (hr' ft' op' ld' : Int32) (ga' gw' gm' gt' gl' : Nat → Int32), PS σ h' hr' ft' op' rw ld' tp ga' gw' gT ∧ TS h' gm' gt' gl' ∧ (gm' rw.toInt.toNat).toInt = c + 1 ∧ (ft'.toInt < 0 → hr.toInt < hr'.toInt ∧ ld'.toInt ≤ hr'.toInt ∧ LN rw.toInt.toNat (c + 1) ld'.toInt.toNat ga' gw' gt' gl')) 74 [some (.ref 72), some (.int v16), some (.int ld)] [] h2 := k74 h2 hr1 ft1 op1 ld1 ga1 gw1 _ G12 P2 ⟨e119, e120, e121⟩ C4 C7 (fun i hi => pk_un (by omega)) (fun f1 => by
    obtain ⟨x1, x2, x3⟩ := B.2.2.2.2.2.2.2 f1
    exact ⟨x2, by omega, ld.toInt.toNat, by rw [pk_us]; omega, wfS_nil (by omega), wfS_seg (by omega) (by omega) (x3 0)⟩)
  refine wp1 (fun n d => r_aloadn f262_34 rfl) ?_
  refine w_get f262_35 e72 F65b ?_
  refine w_if_ge f262_38 (fun _ => kk) (fun f1 => ?_)
  obtain ⟨x1, x2, x3⟩ := B.2.2.2.2.2.2.2 f1
  refine wp1 (fun nn dd => r_aloadn f262_41 rfl) ?_
  refine wp_in (lv := 0) (Y := zM251) (look_wp P2) (fun nn dd vv hh ee => r_virt (as := []) (r := []) f262_42 e72 (show zmt[251]? = some zM251 from rfl) rfl rfl rfl rfl rfl rfl ee) (by decide) ?_
  rintro v' h' ⟨rfl, rfl⟩
  show Wp _ _ _ _ 45 [some (.ref 72), some (.int v16), some (.int ld)] [.int (lkv hr1 tp gT)] _
  refine w_bipush f262_45 (fun v45 hv45 => ?_)
  refine w_icmp_ne f262_47 (fun _ => kk) (fun e47 => ?_)
  have hlt := lkv_lt (hr := hr1) (tp := tp) (gT := gT) (by omega)
  refine w_here P2 (by omega) rfl f262_50 f262_51 f262_52 f262_55 f262_56 f262_57 (fun h3 hr3 e3 G3 P3 => ?_)
  obtain ⟨f119, f120, f121⟩ := TS_dG (h := h2) ⟨e119, e120, e121⟩ P2.1 G3
  obtain ⟨fs3, f72, F65c, F66c, F67c, F68c⟩ := PS_c P3
  have B3 := PS_b P3
  refine wp1 (fun n d => r_aloadn f262_60 rfl) ?_
  have F4001 := hI_r P3.1 f72 (f := 60) (q := 120) (by decide +kernel)
  refine w_get f262_61 f72 F4001 ?_
  refine wp1 (fun n d => r_iloadn f262_64 rfl) ?_
  refine wp1 (fun n d => r_aloadn f262_65 rfl) ?_
  refine w_get f262_66 f72 F68c ?_
  refine w_txt f262_69 P3 (Or.inl ⟨rfl, rfl⟩) f120 hl0 (fun _ => by omega) (fun e => by omega) (fun h4 G4 P4 g120 ne4 => ?_)
  have g119 := (ne4 119 (by decide)).trans f119
  have g121 := (ne4 121 (by decide)).trans f121
  obtain ⟨fs4, g72, -⟩ := PS_c P4
  refine wp1 (fun nn dd => r_aloadn f262_70 rfl) ?_
  refine wp_in (lv := 55) (Y := zM261) (ei_sp σ h4 hr3 ft1 op1 rw ld1 tp ga1 gw1 gT P4 f1 (by omega) (by omega)) (fun nn dd vv hh ee => r_virt (as := []) (r := []) f262_71 g72 (show zmt[261]? = some zM261 from rfl) rfl rfl rfl rfl rfl rfl ee) (by decide) ?_
  rintro v' h5 ⟨rfl, hr5, ft5, op5, ld5, ga5, gw5, E⟩
  have P5 := E.2.1
  have B5 := PS_b P5
  have E4 := E.2.2.2.1
  have E5 := E.2.2.2.2.1
  have E7 := E.2.2.2.2.2.2.1
  refine k74 h5 hr5 ft5 op5 ld5 ga5 gw5 _ (dG_trans G12 (dG_trans (dG_trans (dG_sub (by decide) G3) G4) (dG_sub (by decide) E.1))) P5 (TS_dG ⟨g119, g120, g121⟩ P4.1 E.1) (by omega) (fun k hk => ?_) (fun i hi => by rw [pk_un (by omega), pk_un (by omega)]) (fun f5 => ?_)
  · rw [(E7 k (by omega)).1, (E7 k (by omega)).2]
    exact C7 k hk
  · obtain ⟨y1, y2, y3⟩ := E.2.2.2.2.2.2.2 f5
    have E3 := E.2.2.1
    exact ⟨by omega, by omega, ld1.toInt.toNat, by rw [pk_us]; omega, wfS_seg (by omega) (by omega) (seg_congr (fun k k1 k2 => E7 k (by omega)) (x3 0)), wfS_seg (by omega) (by omega) (y3 0)⟩
end

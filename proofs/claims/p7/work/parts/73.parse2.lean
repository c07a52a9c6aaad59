-- ===== by hand: the parser, its lines of signs =====
theorem f257_0 : aF 0 zM257.2.2.2.2.2.2.2 = some (0, (.aload_n 0), 1, 0, 0) := by decide +kernel
theorem f257_1 : aF 1 zM257.2.2.2.2.2.2.2 = some (1, (.invokevirtual 424), 3, 256, 0) := by decide +kernel
theorem f257_4 : aF 4 zM257.2.2.2.2.2.2.2 = some (4, (.aload_n 0), 1, 0, 0) := by decide +kernel
theorem f257_5 : aF 5 zM257.2.2.2.2.2.2.2 = some (5, (.getfield 397), 3, 12, 65) := by decide +kernel
theorem f257_8 : aF 8 zM257.2.2.2.2.2.2.2 = some (8, (.ifCond .ge 58), 3, 66, 0) := by decide +kernel
theorem f257_11 : aF 11 zM257.2.2.2.2.2.2.2 = some (11, (.aload_n 0), 1, 0, 0) := by decide +kernel
theorem f257_12 : aF 12 zM257.2.2.2.2.2.2.2 = some (12, (.invokevirtual 412), 3, 251, 0) := by decide +kernel
theorem f257_15 : aF 15 zM257.2.2.2.2.2.2.2 = some (15, (.bipush 42), 2, 0, 0) := by decide +kernel
theorem f257_17 : aF 17 zM257.2.2.2.2.2.2.2 = some (17, (.if_icmp .eq 21), 3, 38, 0) := by decide +kernel
theorem f257_20 : aF 20 zM257.2.2.2.2.2.2.2 = some (20, (.aload_n 0), 1, 0, 0) := by decide +kernel
theorem f257_21 : aF 21 zM257.2.2.2.2.2.2.2 = some (21, (.invokevirtual 412), 3, 251, 0) := by decide +kernel
theorem f257_24 : aF 24 zM257.2.2.2.2.2.2.2 = some (24, (.bipush 47), 2, 0, 0) := by decide +kernel
theorem f257_26 : aF 26 zM257.2.2.2.2.2.2.2 = some (26, (.if_icmp .eq 12), 3, 38, 0) := by decide +kernel
theorem f257_29 : aF 29 zM257.2.2.2.2.2.2.2 = some (29, (.aload_n 0), 1, 0, 0) := by decide +kernel
theorem f257_30 : aF 30 zM257.2.2.2.2.2.2.2 = some (30, (.invokevirtual 412), 3, 251, 0) := by decide +kernel
theorem f257_33 : aF 33 zM257.2.2.2.2.2.2.2 = some (33, (.bipush 37), 2, 0, 0) := by decide +kernel
theorem f257_35 : aF 35 zM257.2.2.2.2.2.2.2 = some (35, (.if_icmp .ne 31), 3, 66, 0) := by decide +kernel
theorem f257_38 : aF 38 zM257.2.2.2.2.2.2.2 = some (38, (.aload_n 0), 1, 0, 0) := by decide +kernel
theorem f257_39 : aF 39 zM257.2.2.2.2.2.2.2 = some (39, (.invokevirtual 412), 3, 251, 0) := by decide +kernel
theorem f257_42 : aF 42 zM257.2.2.2.2.2.2.2 = some (42, (.istore_n 1), 1, 0, 0) := by decide +kernel
theorem f257_43 : aF 43 zM257.2.2.2.2.2.2.2 = some (43, (.aload_n 0), 1, 0, 0) := by decide +kernel
theorem f257_44 : aF 44 zM257.2.2.2.2.2.2.2 = some (44, .dup, 1, 0, 0) := by decide +kernel
theorem f257_45 : aF 45 zM257.2.2.2.2.2.2.2 = some (45, (.getfield 394), 3, 12, 64) := by decide +kernel
theorem f257_48 : aF 48 zM257.2.2.2.2.2.2.2 = some (48, (.iconst 1), 1, 0, 0) := by decide +kernel
theorem f257_49 : aF 49 zM257.2.2.2.2.2.2.2 = some (49, .iadd, 1, 0, 0) := by decide +kernel
theorem f257_50 : aF 50 zM257.2.2.2.2.2.2.2 = some (50, (.putfield 394), 3, 12, 64) := by decide +kernel
theorem f257_53 : aF 53 zM257.2.2.2.2.2.2.2 = some (53, (.aload_n 0), 1, 0, 0) := by decide +kernel
theorem f257_54 : aF 54 zM257.2.2.2.2.2.2.2 = some (54, (.invokevirtual 424), 3, 256, 0) := by decide +kernel
theorem f257_57 : aF 57 zM257.2.2.2.2.2.2.2 = some (57, (.aload_n 0), 1, 0, 0) := by decide +kernel
theorem f257_58 : aF 58 zM257.2.2.2.2.2.2.2 = some (58, (.iload_n 1), 1, 0, 0) := by decide +kernel
theorem f257_59 : aF 59 zM257.2.2.2.2.2.2.2 = some (59, (.iconst 0), 1, 0, 0) := by decide +kernel
theorem f257_60 : aF 60 zM257.2.2.2.2.2.2.2 = some (60, (.invokevirtual 418), 3, 253, 0) := by decide +kernel
theorem f257_63 : aF 63 zM257.2.2.2.2.2.2.2 = some (63, (.goto (-59)), 3, 4, 0) := by decide +kernel
theorem f257_66 : aF 66 zM257.2.2.2.2.2.2.2 = some (66, .return_, 1, 0, 0) := by decide +kernel
theorem f258_0 : aF 0 zM258.2.2.2.2.2.2.2 = some (0, (.aload_n 0), 1, 0, 0) := by decide +kernel
theorem f258_1 : aF 1 zM258.2.2.2.2.2.2.2 = some (1, (.invokevirtual 430), 3, 257, 0) := by decide +kernel
theorem f258_4 : aF 4 zM258.2.2.2.2.2.2.2 = some (4, (.aload_n 0), 1, 0, 0) := by decide +kernel
theorem f258_5 : aF 5 zM258.2.2.2.2.2.2.2 = some (5, (.getfield 397), 3, 12, 65) := by decide +kernel
theorem f258_8 : aF 8 zM258.2.2.2.2.2.2.2 = some (8, (.ifCond .ge 49), 3, 57, 0) := by decide +kernel
theorem f258_11 : aF 11 zM258.2.2.2.2.2.2.2 = some (11, (.aload_n 0), 1, 0, 0) := by decide +kernel
theorem f258_12 : aF 12 zM258.2.2.2.2.2.2.2 = some (12, (.invokevirtual 412), 3, 251, 0) := by decide +kernel
theorem f258_15 : aF 15 zM258.2.2.2.2.2.2.2 = some (15, (.bipush 43), 2, 0, 0) := by decide +kernel
theorem f258_17 : aF 17 zM258.2.2.2.2.2.2.2 = some (17, (.if_icmp .eq 12), 3, 29, 0) := by decide +kernel
theorem f258_20 : aF 20 zM258.2.2.2.2.2.2.2 = some (20, (.aload_n 0), 1, 0, 0) := by decide +kernel
theorem f258_21 : aF 21 zM258.2.2.2.2.2.2.2 = some (21, (.invokevirtual 412), 3, 251, 0) := by decide +kernel
theorem f258_24 : aF 24 zM258.2.2.2.2.2.2.2 = some (24, (.bipush 45), 2, 0, 0) := by decide +kernel
theorem f258_26 : aF 26 zM258.2.2.2.2.2.2.2 = some (26, (.if_icmp .ne 31), 3, 57, 0) := by decide +kernel
theorem f258_29 : aF 29 zM258.2.2.2.2.2.2.2 = some (29, (.aload_n 0), 1, 0, 0) := by decide +kernel
theorem f258_30 : aF 30 zM258.2.2.2.2.2.2.2 = some (30, (.invokevirtual 412), 3, 251, 0) := by decide +kernel
theorem f258_33 : aF 33 zM258.2.2.2.2.2.2.2 = some (33, (.istore_n 1), 1, 0, 0) := by decide +kernel
theorem f258_34 : aF 34 zM258.2.2.2.2.2.2.2 = some (34, (.aload_n 0), 1, 0, 0) := by decide +kernel
theorem f258_35 : aF 35 zM258.2.2.2.2.2.2.2 = some (35, .dup, 1, 0, 0) := by decide +kernel
theorem f258_36 : aF 36 zM258.2.2.2.2.2.2.2 = some (36, (.getfield 394), 3, 12, 64) := by decide +kernel
theorem f258_39 : aF 39 zM258.2.2.2.2.2.2.2 = some (39, (.iconst 1), 1, 0, 0) := by decide +kernel
theorem f258_40 : aF 40 zM258.2.2.2.2.2.2.2 = some (40, .iadd, 1, 0, 0) := by decide +kernel
theorem f258_41 : aF 41 zM258.2.2.2.2.2.2.2 = some (41, (.putfield 394), 3, 12, 64) := by decide +kernel
theorem f258_44 : aF 44 zM258.2.2.2.2.2.2.2 = some (44, (.aload_n 0), 1, 0, 0) := by decide +kernel
theorem f258_45 : aF 45 zM258.2.2.2.2.2.2.2 = some (45, (.invokevirtual 430), 3, 257, 0) := by decide +kernel
theorem f258_48 : aF 48 zM258.2.2.2.2.2.2.2 = some (48, (.aload_n 0), 1, 0, 0) := by decide +kernel
theorem f258_49 : aF 49 zM258.2.2.2.2.2.2.2 = some (49, (.iload_n 1), 1, 0, 0) := by decide +kernel
theorem f258_50 : aF 50 zM258.2.2.2.2.2.2.2 = some (50, (.iconst 0), 1, 0, 0) := by decide +kernel
theorem f258_51 : aF 51 zM258.2.2.2.2.2.2.2 = some (51, (.invokevirtual 418), 3, 253, 0) := by decide +kernel
theorem f258_54 : aF 54 zM258.2.2.2.2.2.2.2 = some (54, (.goto (-50)), 3, 4, 0) := by decide +kernel
theorem f258_57 : aF 57 zM258.2.2.2.2.2.2.2 = some (57, .return_, 1, 0, 0) := by decide +kernel
theorem f259_0 : aF 0 zM259.2.2.2.2.2.2.2 = some (0, (.aload_n 0), 1, 0, 0) := by decide +kernel
theorem f259_1 : aF 1 zM259.2.2.2.2.2.2.2 = some (1, (.invokevirtual 433), 3, 258, 0) := by decide +kernel
theorem f259_4 : aF 4 zM259.2.2.2.2.2.2.2 = some (4, (.aload_n 0), 1, 0, 0) := by decide +kernel
theorem f259_5 : aF 5 zM259.2.2.2.2.2.2.2 = some (5, (.invokevirtual 412), 3, 251, 0) := by decide +kernel
theorem f259_8 : aF 8 zM259.2.2.2.2.2.2.2 = some (8, (.istore_n 1), 1, 0, 0) := by decide +kernel
theorem f259_9 : aF 9 zM259.2.2.2.2.2.2.2 = some (9, (.aload_n 0), 1, 0, 0) := by decide +kernel
theorem f259_10 : aF 10 zM259.2.2.2.2.2.2.2 = some (10, (.getfield 397), 3, 12, 65) := by decide +kernel
theorem f259_13 : aF 13 zM259.2.2.2.2.2.2.2 = some (13, (.ifCond .ge 21), 3, 34, 0) := by decide +kernel
theorem f259_16 : aF 16 zM259.2.2.2.2.2.2.2 = some (16, (.iload_n 1), 1, 0, 0) := by decide +kernel
theorem f259_17 : aF 17 zM259.2.2.2.2.2.2.2 = some (17, (.bipush 60), 2, 0, 0) := by decide +kernel
theorem f259_19 : aF 19 zM259.2.2.2.2.2.2.2 = some (19, (.if_icmp .eq 16), 3, 35, 0) := by decide +kernel
theorem f259_22 : aF 22 zM259.2.2.2.2.2.2.2 = some (22, (.iload_n 1), 1, 0, 0) := by decide +kernel
theorem f259_23 : aF 23 zM259.2.2.2.2.2.2.2 = some (23, (.bipush 61), 2, 0, 0) := by decide +kernel
theorem f259_25 : aF 25 zM259.2.2.2.2.2.2.2 = some (25, (.if_icmp .eq 10), 3, 35, 0) := by decide +kernel
theorem f259_28 : aF 28 zM259.2.2.2.2.2.2.2 = some (28, (.iload_n 1), 1, 0, 0) := by decide +kernel
theorem f259_29 : aF 29 zM259.2.2.2.2.2.2.2 = some (29, (.bipush 62), 2, 0, 0) := by decide +kernel
theorem f259_31 : aF 31 zM259.2.2.2.2.2.2.2 = some (31, (.if_icmp .eq 4), 3, 35, 0) := by decide +kernel
theorem f259_34 : aF 34 zM259.2.2.2.2.2.2.2 = some (34, .return_, 1, 0, 0) := by decide +kernel
theorem f259_35 : aF 35 zM259.2.2.2.2.2.2.2 = some (35, (.aload_n 0), 1, 0, 0) := by decide +kernel
theorem f259_36 : aF 36 zM259.2.2.2.2.2.2.2 = some (36, .dup, 1, 0, 0) := by decide +kernel
theorem f259_37 : aF 37 zM259.2.2.2.2.2.2.2 = some (37, (.getfield 394), 3, 12, 64) := by decide +kernel
theorem f259_40 : aF 40 zM259.2.2.2.2.2.2.2 = some (40, (.iconst 1), 1, 0, 0) := by decide +kernel
theorem f259_41 : aF 41 zM259.2.2.2.2.2.2.2 = some (41, .iadd, 1, 0, 0) := by decide +kernel
theorem f259_42 : aF 42 zM259.2.2.2.2.2.2.2 = some (42, (.putfield 394), 3, 12, 64) := by decide +kernel
theorem f259_45 : aF 45 zM259.2.2.2.2.2.2.2 = some (45, (.aload_n 0), 1, 0, 0) := by decide +kernel
theorem f259_46 : aF 46 zM259.2.2.2.2.2.2.2 = some (46, (.invokevirtual 433), 3, 258, 0) := by decide +kernel
theorem f259_49 : aF 49 zM259.2.2.2.2.2.2.2 = some (49, (.aload_n 0), 1, 0, 0) := by decide +kernel
theorem f259_50 : aF 50 zM259.2.2.2.2.2.2.2 = some (50, (.iload_n 1), 1, 0, 0) := by decide +kernel
theorem f259_51 : aF 51 zM259.2.2.2.2.2.2.2 = some (51, (.iconst 0), 1, 0, 0) := by decide +kernel
theorem f259_52 : aF 52 zM259.2.2.2.2.2.2.2 = some (52, (.invokevirtual 418), 3, 253, 0) := by decide +kernel
theorem f259_55 : aF 55 zM259.2.2.2.2.2.2.2 = some (55, .return_, 1, 0, 0) := by decide +kernel
theorem f260_0 : aF 0 zM260.2.2.2.2.2.2.2 = some (0, (.aload_n 0), 1, 0, 0) := by decide +kernel
theorem f260_1 : aF 1 zM260.2.2.2.2.2.2.2 = some (1, (.invokevirtual 436), 3, 259, 0) := by decide +kernel
theorem f260_4 : aF 4 zM260.2.2.2.2.2.2.2 = some (4, (.aload_n 0), 1, 0, 0) := by decide +kernel
theorem f260_5 : aF 5 zM260.2.2.2.2.2.2.2 = some (5, (.getfield 397), 3, 12, 65) := by decide +kernel
theorem f260_8 : aF 8 zM260.2.2.2.2.2.2.2 = some (8, (.ifCond .ge 36), 3, 44, 0) := by decide +kernel
theorem f260_11 : aF 11 zM260.2.2.2.2.2.2.2 = some (11, (.aload_n 0), 1, 0, 0) := by decide +kernel
theorem f260_12 : aF 12 zM260.2.2.2.2.2.2.2 = some (12, (.invokevirtual 412), 3, 251, 0) := by decide +kernel
theorem f260_15 : aF 15 zM260.2.2.2.2.2.2.2 = some (15, (.bipush 38), 2, 0, 0) := by decide +kernel
theorem f260_17 : aF 17 zM260.2.2.2.2.2.2.2 = some (17, (.if_icmp .ne 27), 3, 44, 0) := by decide +kernel
theorem f260_20 : aF 20 zM260.2.2.2.2.2.2.2 = some (20, (.aload_n 0), 1, 0, 0) := by decide +kernel
theorem f260_21 : aF 21 zM260.2.2.2.2.2.2.2 = some (21, .dup, 1, 0, 0) := by decide +kernel
theorem f260_22 : aF 22 zM260.2.2.2.2.2.2.2 = some (22, (.getfield 394), 3, 12, 64) := by decide +kernel
theorem f260_25 : aF 25 zM260.2.2.2.2.2.2.2 = some (25, (.iconst 1), 1, 0, 0) := by decide +kernel
theorem f260_26 : aF 26 zM260.2.2.2.2.2.2.2 = some (26, .iadd, 1, 0, 0) := by decide +kernel
theorem f260_27 : aF 27 zM260.2.2.2.2.2.2.2 = some (27, (.putfield 394), 3, 12, 64) := by decide +kernel
theorem f260_30 : aF 30 zM260.2.2.2.2.2.2.2 = some (30, (.aload_n 0), 1, 0, 0) := by decide +kernel
theorem f260_31 : aF 31 zM260.2.2.2.2.2.2.2 = some (31, (.invokevirtual 436), 3, 259, 0) := by decide +kernel
theorem f260_34 : aF 34 zM260.2.2.2.2.2.2.2 = some (34, (.aload_n 0), 1, 0, 0) := by decide +kernel
theorem f260_35 : aF 35 zM260.2.2.2.2.2.2.2 = some (35, (.bipush 38), 2, 0, 0) := by decide +kernel
theorem f260_37 : aF 37 zM260.2.2.2.2.2.2.2 = some (37, (.iconst 0), 1, 0, 0) := by decide +kernel
theorem f260_38 : aF 38 zM260.2.2.2.2.2.2.2 = some (38, (.invokevirtual 418), 3, 253, 0) := by decide +kernel
theorem f260_41 : aF 41 zM260.2.2.2.2.2.2.2 = some (41, (.goto (-37)), 3, 4, 0) := by decide +kernel
theorem f260_44 : aF 44 zM260.2.2.2.2.2.2.2 = some (44, .return_, 1, 0, 0) := by decide +kernel
theorem f261_0 : aF 0 zM261.2.2.2.2.2.2.2 = some (0, (.aload_n 0), 1, 0, 0) := by decide +kernel
theorem f261_1 : aF 1 zM261.2.2.2.2.2.2.2 = some (1, (.invokevirtual 439), 3, 260, 0) := by decide +kernel
theorem f261_4 : aF 4 zM261.2.2.2.2.2.2.2 = some (4, (.aload_n 0), 1, 0, 0) := by decide +kernel
theorem f261_5 : aF 5 zM261.2.2.2.2.2.2.2 = some (5, (.getfield 397), 3, 12, 65) := by decide +kernel
theorem f261_8 : aF 8 zM261.2.2.2.2.2.2.2 = some (8, (.ifCond .ge 36), 3, 44, 0) := by decide +kernel
theorem f261_11 : aF 11 zM261.2.2.2.2.2.2.2 = some (11, (.aload_n 0), 1, 0, 0) := by decide +kernel
theorem f261_12 : aF 12 zM261.2.2.2.2.2.2.2 = some (12, (.invokevirtual 412), 3, 251, 0) := by decide +kernel
theorem f261_15 : aF 15 zM261.2.2.2.2.2.2.2 = some (15, (.bipush 124), 2, 0, 0) := by decide +kernel
theorem f261_17 : aF 17 zM261.2.2.2.2.2.2.2 = some (17, (.if_icmp .ne 27), 3, 44, 0) := by decide +kernel
theorem f261_20 : aF 20 zM261.2.2.2.2.2.2.2 = some (20, (.aload_n 0), 1, 0, 0) := by decide +kernel
theorem f261_21 : aF 21 zM261.2.2.2.2.2.2.2 = some (21, .dup, 1, 0, 0) := by decide +kernel
theorem f261_22 : aF 22 zM261.2.2.2.2.2.2.2 = some (22, (.getfield 394), 3, 12, 64) := by decide +kernel
theorem f261_25 : aF 25 zM261.2.2.2.2.2.2.2 = some (25, (.iconst 1), 1, 0, 0) := by decide +kernel
theorem f261_26 : aF 26 zM261.2.2.2.2.2.2.2 = some (26, .iadd, 1, 0, 0) := by decide +kernel
theorem f261_27 : aF 27 zM261.2.2.2.2.2.2.2 = some (27, (.putfield 394), 3, 12, 64) := by decide +kernel
theorem f261_30 : aF 30 zM261.2.2.2.2.2.2.2 = some (30, (.aload_n 0), 1, 0, 0) := by decide +kernel
theorem f261_31 : aF 31 zM261.2.2.2.2.2.2.2 = some (31, (.invokevirtual 439), 3, 260, 0) := by decide +kernel
theorem f261_34 : aF 34 zM261.2.2.2.2.2.2.2 = some (34, (.aload_n 0), 1, 0, 0) := by decide +kernel
theorem f261_35 : aF 35 zM261.2.2.2.2.2.2.2 = some (35, (.bipush 124), 2, 0, 0) := by decide +kernel
theorem f261_37 : aF 37 zM261.2.2.2.2.2.2.2 = some (37, (.iconst 0), 1, 0, 0) := by decide +kernel
theorem f261_38 : aF 38 zM261.2.2.2.2.2.2.2 = some (38, (.invokevirtual 418), 3, 253, 0) := by decide +kernel
theorem f261_41 : aF 41 zM261.2.2.2.2.2.2.2 = some (41, (.goto (-37)), 3, 4, 0) := by decide +kernel
theorem f261_44 : aF 44 zM261.2.2.2.2.2.2.2 = some (44, .return_, 1, 0, 0) := by decide +kernel
def PR (σ : List Nat) (h0 : aH) (hr0 op0 rw ld0 tp : Int32) (ga0 gw0 gT : Nat → Int32) (h1 : aH) (hr ft op ld : Int32) (ga gw : Nat → Int32) : Prop := dG lWP σ h0 σ h1 ∧ PS σ h1 hr ft op rw ld tp ga gw gT ∧ hr0.toInt ≤ hr.toInt ∧ ld0.toInt ≤ ld.toInt ∧ hr0.toInt - ld0.toInt ≤ hr.toInt - ld.toInt ∧ op0.toInt ≤ op.toInt ∧ (∀ k : Nat, k < ld0.toInt.toNat → ga (170 * rw.toInt.toNat + k) = ga0 (170 * rw.toInt.toNat + k) ∧ gw (170 * rw.toInt.toNat + k) = gw0 (170 * rw.toInt.toNat + k)) ∧ (ft.toInt < 0 → op.toInt = op0.toInt ∧ hr0.toInt < hr.toInt ∧ ∀ n, seg ga gw (170 * rw.toInt.toNat) ld0.toInt.toNat ld.toInt.toNat n (n + 1))
def PSp (X : aX) (lv : Nat) (M : aM) (l : aL) (m : Nat) : Prop := ∀ (σ : List Nat) (h : aH) (hr ft op rw ld tp : Int32) (ga gw gT : Nat → Int32), PS σ h hr ft op rw ld tp ga gw gT → ft.toInt < 0 → ld.toInt ≤ hr.toInt → 8 - op.toInt ≤ m → Wp X lv M (fun v h' => v = none ∧ ∃ (hr' ft' op' ld' : Int32) (ga' gw' : Nat → Int32), PR σ h hr op rw ld tp ga gw gT h' hr' ft' op' ld' ga' gw') 0 l [] h
theorem PS_b {σ : List Nat} {h : aH} {hr ft op rw ld tp : Int32} {ga gw gT : Nat → Int32} (P : PS σ h hr ft op rw ld tp ga gw gT) : 0 ≤ rw.toInt ∧ rw.toInt ≤ 15 ∧ 0 ≤ hr.toInt ∧ hr.toInt ≤ tp.toInt ∧ tp.toInt ≤ 160 ∧ 0 ≤ ld.toInt ∧ 0 ≤ op.toInt ∧ op.toInt ≤ 8 ∧ -1 ≤ ft.toInt ∧ ft.toInt ≤ 160 := P.2.2.2.2.2
theorem PS_c {σ : List Nat} {h : aH} {hr ft op rw ld tp : Int32} {ga gw gT : Nat → Int32} (P : PS σ h hr ft op rw ld tp ga gw gT) : ∃ fs : List Value, h.1[72]? = some (.inr (12, fs)) ∧ fs[65]? = some (.int ft) ∧ fs[66]? = some (.int op) ∧ fs[67]? = some (.int rw) ∧ fs[68]? = some (.int ld) := by
  obtain ⟨fs, c, -, f2, f3, f4, f5, -⟩ := P.2.1
  exact ⟨fs, c, f2, f3, f4, f5⟩
theorem PR_bin {σ : List Nat} {h0 h1 h1' h2 h3 : aH} {hr0 op0 rw ld0 tp hr1 ft1 op1 ld1 hr1' hr2 ft2 op2 ld2 ld3 s z : Int32} {ga0 gw0 gT ga1 gw1 ga2 gw2 : Nat → Int32} (A : PR σ h0 hr0 op0 rw ld0 tp ga0 gw0 gT h1 hr1 ft1 op1 ld1 ga1 gw1) (hf : ft1.toInt < 0) (G1 : dG lWP σ h1 σ h1') (e1 : hr1'.toInt = hr1.toInt + 1) (B : PR σ h1' hr1' op1 rw ld1 tp ga1 gw1 gT h2 hr2 ft2 op2 ld2 ga2 gw2) (G2 : dG lWP σ h2 σ h3) (e3 : ld3.toInt = ld2.toInt + 1) (P3 : PS σ h3 hr2 ft2 op2 rw ld3 tp (upd ga2 (170 * rw.toInt.toNat + ld2.toInt.toNat) s) (upd gw2 (170 * rw.toInt.toNat + ld2.toInt.toNat) z) gT) (hs : s.toInt ≠ 1 ∧ s.toInt ≠ 2 ∧ s.toInt ≠ 3 ∧ s.toInt ≠ 4) (l0 : 0 ≤ ld0.toInt) : PR σ h0 hr0 op0 rw ld0 tp ga0 gw0 gT h3 hr2 ft2 op2 ld3 (upd ga2 (170 * rw.toInt.toNat + ld2.toInt.toNat) s) (upd gw2 (170 * rw.toInt.toNat + ld2.toInt.toNat) z) := by
  obtain ⟨a1, a2, a3, a4, a5, a6, a7, a8⟩ := A
  obtain ⟨b1, b2, b3, b4, b5, b6, b7, b8⟩ := B
  refine ⟨dG_trans (dG_trans a1 G1) (dG_trans b1 G2), P3, by omega, by omega, by omega, by omega, fun k hk => ?_, fun hf2 => ?_⟩
  · rw [pk_un (by omega), pk_un (by omega), (b7 k (by omega)).1, (b7 k (by omega)).2]
    exact a7 k hk
  · obtain ⟨x1, x2, x3⟩ := a8 hf
    obtain ⟨y1, y2, y3⟩ := b8 hf2
    refine ⟨by omega, by omega, fun n => ?_⟩
    have s1 : seg (upd ga2 (170 * rw.toInt.toNat + ld2.toInt.toNat) s) (upd gw2 (170 * rw.toInt.toNat + ld2.toInt.toNat) z) (170 * rw.toInt.toNat) ld0.toInt.toNat ld1.toInt.toNat n (n + 1) := seg_congr (fun k k1 k2 => by
      rw [pk_un (by omega), pk_un (by omega)]
      exact b7 k (by omega)) (x3 n)
    have s2 : seg (upd ga2 (170 * rw.toInt.toNat + ld2.toInt.toNat) s) (upd gw2 (170 * rw.toInt.toNat + ld2.toInt.toNat) z) (170 * rw.toInt.toNat) ld1.toInt.toNat ld2.toInt.toNat (n + 1) (n + 1 + 1) := seg_congr (fun k k1 k2 => by
      rw [pk_un (by omega), pk_un (by omega)]
      exact ⟨rfl, rfl⟩) (y3 (n + 1))
    have s3 : seg (upd ga2 (170 * rw.toInt.toNat + ld2.toInt.toNat) s) (upd gw2 (170 * rw.toInt.toNat + ld2.toInt.toNat) z) (170 * rw.toInt.toNat) ld2.toInt.toNat (ld2.toInt.toNat + 1) (n + 1 + 1) (n + 1) := by
      refine seg_one ?_
      rw [pk_us, pk_us]
      refine Or.inr (Or.inr (Or.inr ⟨?_, ?_, ?_, ?_, by omega, by omega⟩))
      · rw [i_c (z := 1) (by decide)]; exact hs.1
      · rw [i_c (z := 2) (by decide)]; exact hs.2.1
      · rw [i_c (z := 3) (by decide)]; exact hs.2.2.1
      · rw [i_c (z := 4) (by decide)]; exact hs.2.2.2
    rw [show ld3.toInt.toNat = ld2.toInt.toNat + 1 by omega]
    exact seg_app (by omega) (by omega) s1 (seg_app (by omega) (by omega) s2 s3)
theorem prod_sp {X : aX} {lv m : Nat} (hlv : 1 ≤ lv) (O : PSp X lv zM256 [some (.ref 72), none, none, none] m) : PSp X (lv + 1) zM257 [some (.ref 72), none] m := by
  intro σ h hr ft op rw ld tp ga gw gT P hf hl ho
  have B0 := PS_b P
  have loop : ∀ (k : Nat) (h1 : aH) (hr1 ft1 op1 ld1 : Int32) (ga1 gw1 : Nat → Int32) (u1 : Option Value), (tp.toInt - hr1.toInt).toNat < k → PR σ h hr op rw ld tp ga gw gT h1 hr1 ft1 op1 ld1 ga1 gw1 → Wp X (lv + 1) zM257 (fun v h' => v = none ∧ ∃ (hr' ft' op' ld' : Int32) (ga' gw' : Nat → Int32), PR σ h hr op rw ld tp ga gw gT h' hr' ft' op' ld' ga' gw') 4 [some (.ref 72), u1] [] h1 := by
    intro k
    induction k with
    | zero => intro h1 hr1 ft1 op1 ld1 ga1 gw1 u1 hk; omega
    | succ k ih =>
      intro h1 hr1 ft1 op1 ld1 ga1 gw1 u1 hk A
      have P1 := A.2.1
      have B1 := PS_b P1
      obtain ⟨fs1, c1, F65, -⟩ := PS_c P1
      have A3 := A.2.2.1
      have A5 := A.2.2.2.2.1
      refine wp1 (fun n d => r_aloadn f257_4 rfl) ?_
      refine w_get f257_5 c1 F65 ?_
      have kE : Wp X (lv + 1) zM257 (fun v h' => v = none ∧ ∃ (hr' ft' op' ld' : Int32) (ga' gw' : Nat → Int32), PR σ h hr op rw ld tp ga gw gT h' hr' ft' op' ld' ga' gw') 66 [some (.ref 72), u1] [] h1 := wp_end (fun n d => r_vreturn f257_66 rfl) ⟨rfl, hr1, ft1, op1, ld1, ga1, gw1, A⟩
      refine w_if_ge f257_8 (fun _ => kE) (fun e8 => ?_)
      have hop := (A.2.2.2.2.2.2.2 e8).1
      have ks : (lkv hr1 tp gT).toInt ≠ -1 → (lkv hr1 tp gT).toInt ≠ 1 ∧ (lkv hr1 tp gT).toInt ≠ 2 ∧ (lkv hr1 tp gT).toInt ≠ 3 ∧ (lkv hr1 tp gT).toInt ≠ 4 → Wp X (lv + 1) zM257 (fun v h' => v = none ∧ ∃ (hr' ft' op' ld' : Int32) (ga' gw' : Nat → Int32), PR σ h hr op rw ld tp ga gw gT h' hr' ft' op' ld' ga' gw') 38 [some (.ref 72), u1] [] h1 := by
        intro hlt hsg
        have hlt := lkv_lt hlt
        refine wp1 (fun n d => r_aloadn f257_38 rfl) ?_
        refine wp_in (lv := 0) (Y := zM251) (look_wp P1) (fun n d v h' e => r_virt (as := []) (r := []) f257_39 c1 (show zmt[251]? = some zM251 from rfl) rfl rfl rfl rfl rfl rfl e) (by omega) ?_
        rintro v' h' ⟨rfl, rfl⟩
        show Wp _ _ _ _ 42 [some (.ref 72), u1] [.int (lkv hr1 tp gT)] _
        refine wp1 (fun n d => r_istoren (L' := [some (.ref 72), some (.int (lkv hr1 tp gT))]) f257_42 rfl rfl) ?_
        refine w_here P1 (by omega) rfl f257_43 f257_44 f257_45 f257_48 f257_49 f257_50 (fun h1' hr1' e1 G1 P1' => ?_)
        obtain ⟨fs2, c2, -⟩ := PS_c P1'
        refine wp1 (fun n d => r_aloadn f257_53 rfl) ?_
        refine wp_in (lv := lv) (Y := zM256) (O σ h1' hr1' ft1 op1 rw ld1 tp ga1 gw1 gT P1' e8 (by omega) (by omega)) (fun n d v h' e => r_virt (as := []) (r := []) f257_54 c2 (show zmt[256]? = some zM256 from rfl) rfl rfl rfl rfl rfl rfl e) (by omega) ?_
        rintro v' h2 ⟨rfl, hr2, ft2, op2, ld2, ga2, gw2, B⟩
        have P2 := B.2.1
        have B2 := PS_b P2
        have C3 := B.2.2.1
        have C5 := B.2.2.2.2.1
        obtain ⟨fs3, c3, -⟩ := PS_c P2
        show Wp _ _ _ _ 57 [some (.ref 72), some (.int (lkv hr1 tp gT))] [] _
        refine wp1 (fun n d => r_aloadn f257_57 rfl) ?_
        refine wp1 (fun n d => r_iloadn f257_58 rfl) ?_
        refine w_iconst f257_59 (fun z hz => ?_)
        refine wp_in (lv := 0) (Y := zM253) (lay_wp P2 (x1 := (lkv hr1 tp gT)) (x2 := z) (by omega)) (fun n d v h' e => r_virt (as := [.int (lkv hr1 tp gT), .int z]) (r := []) f257_60 c3 (show zmt[253]? = some zM253 from rfl) rfl rfl rfl rfl rfl rfl e) (by omega) ?_
        rintro v' h3 ⟨rfl, G2, ld3, e3, P3⟩
        show Wp _ _ _ _ 63 [some (.ref 72), some (.int (lkv hr1 tp gT))] [] _
        refine wp1 (fun n d => r_goto f257_63) ?_
        exact ih h3 hr2 ft2 op2 ld3 _ _ _ (by omega) (PR_bin A e8 G1 e1 B G2 e3 P3 hsg (by omega))
      refine wp1 (fun n d => r_aloadn f257_11 rfl) ?_
      refine wp_in (lv := 0) (Y := zM251) (look_wp P1) (fun n d v h' e => r_virt (as := []) (r := []) f257_12 c1 (show zmt[251]? = some zM251 from rfl) rfl rfl rfl rfl rfl rfl e) (by omega) ?_
      rintro v' h' ⟨rfl, rfl⟩
      show Wp _ _ _ _ 15 [some (.ref 72), u1] [.int (lkv hr1 tp gT)] _
      refine w_bipush f257_15 (fun v15 hv15 => ?_)
      refine w_icmp_eq f257_17 (fun e => ks (by omega) (by omega)) (fun _ => ?_)
      refine wp1 (fun n d => r_aloadn f257_20 rfl) ?_
      refine wp_in (lv := 0) (Y := zM251) (look_wp P1) (fun n d v h' e => r_virt (as := []) (r := []) f257_21 c1 (show zmt[251]? = some zM251 from rfl) rfl rfl rfl rfl rfl rfl e) (by omega) ?_
      rintro v' h' ⟨rfl, rfl⟩
      show Wp _ _ _ _ 24 [some (.ref 72), u1] [.int (lkv hr1 tp gT)] _
      refine w_bipush f257_24 (fun v24 hv24 => ?_)
      refine w_icmp_eq f257_26 (fun e => ks (by omega) (by omega)) (fun _ => ?_)
      refine wp1 (fun n d => r_aloadn f257_29 rfl) ?_
      refine wp_in (lv := 0) (Y := zM251) (look_wp P1) (fun n d v h' e => r_virt (as := []) (r := []) f257_30 c1 (show zmt[251]? = some zM251 from rfl) rfl rfl rfl rfl rfl rfl e) (by omega) ?_
      rintro v' h' ⟨rfl, rfl⟩
      show Wp _ _ _ _ 33 [some (.ref 72), u1] [.int (lkv hr1 tp gT)] _
      refine w_bipush f257_33 (fun v33 hv33 => ?_)
      exact w_icmp_ne f257_35 (fun _ => kE) (fun e => ks (by omega) (by omega))
  obtain ⟨fs, c, -⟩ := PS_c P
  refine wp1 (fun n d => r_aloadn f257_0 rfl) ?_
  refine wp_in (lv := lv) (Y := zM256) (O σ h hr ft op rw ld tp ga gw gT P hf hl ho) (fun n d v h' e => r_virt (as := []) (r := []) f257_1 c (show zmt[256]? = some zM256 from rfl) rfl rfl rfl rfl rfl rfl e) (by omega) ?_
  rintro v' h1 ⟨rfl, hr1, ft1, op1, ld1, ga1, gw1, A⟩
  exact loop _ h1 hr1 ft1 op1 ld1 ga1 gw1 none (Nat.lt_succ_self _) A
theorem sum_sp {X : aX} {lv m : Nat} (hlv : 1 ≤ lv) (O : PSp X lv zM257 [some (.ref 72), none] m) : PSp X (lv + 1) zM258 [some (.ref 72), none] m := by
  intro σ h hr ft op rw ld tp ga gw gT P hf hl ho
  have B0 := PS_b P
  have loop : ∀ (k : Nat) (h1 : aH) (hr1 ft1 op1 ld1 : Int32) (ga1 gw1 : Nat → Int32) (u1 : Option Value), (tp.toInt - hr1.toInt).toNat < k → PR σ h hr op rw ld tp ga gw gT h1 hr1 ft1 op1 ld1 ga1 gw1 → Wp X (lv + 1) zM258 (fun v h' => v = none ∧ ∃ (hr' ft' op' ld' : Int32) (ga' gw' : Nat → Int32), PR σ h hr op rw ld tp ga gw gT h' hr' ft' op' ld' ga' gw') 4 [some (.ref 72), u1] [] h1 := by
    intro k
    induction k with
    | zero => intro h1 hr1 ft1 op1 ld1 ga1 gw1 u1 hk; omega
    | succ k ih =>
      intro h1 hr1 ft1 op1 ld1 ga1 gw1 u1 hk A
      have P1 := A.2.1
      have B1 := PS_b P1
      obtain ⟨fs1, c1, F65, -⟩ := PS_c P1
      have A3 := A.2.2.1
      have A5 := A.2.2.2.2.1
      refine wp1 (fun n d => r_aloadn f258_4 rfl) ?_
      refine w_get f258_5 c1 F65 ?_
      have kE : Wp X (lv + 1) zM258 (fun v h' => v = none ∧ ∃ (hr' ft' op' ld' : Int32) (ga' gw' : Nat → Int32), PR σ h hr op rw ld tp ga gw gT h' hr' ft' op' ld' ga' gw') 57 [some (.ref 72), u1] [] h1 := wp_end (fun n d => r_vreturn f258_57 rfl) ⟨rfl, hr1, ft1, op1, ld1, ga1, gw1, A⟩
      refine w_if_ge f258_8 (fun _ => kE) (fun e8 => ?_)
      have hop := (A.2.2.2.2.2.2.2 e8).1
      have ks : (lkv hr1 tp gT).toInt ≠ -1 → (lkv hr1 tp gT).toInt ≠ 1 ∧ (lkv hr1 tp gT).toInt ≠ 2 ∧ (lkv hr1 tp gT).toInt ≠ 3 ∧ (lkv hr1 tp gT).toInt ≠ 4 → Wp X (lv + 1) zM258 (fun v h' => v = none ∧ ∃ (hr' ft' op' ld' : Int32) (ga' gw' : Nat → Int32), PR σ h hr op rw ld tp ga gw gT h' hr' ft' op' ld' ga' gw') 29 [some (.ref 72), u1] [] h1 := by
        intro hlt hsg
        have hlt := lkv_lt hlt
        refine wp1 (fun n d => r_aloadn f258_29 rfl) ?_
        refine wp_in (lv := 0) (Y := zM251) (look_wp P1) (fun n d v h' e => r_virt (as := []) (r := []) f258_30 c1 (show zmt[251]? = some zM251 from rfl) rfl rfl rfl rfl rfl rfl e) (by omega) ?_
        rintro v' h' ⟨rfl, rfl⟩
        show Wp _ _ _ _ 33 [some (.ref 72), u1] [.int (lkv hr1 tp gT)] _
        refine wp1 (fun n d => r_istoren (L' := [some (.ref 72), some (.int (lkv hr1 tp gT))]) f258_33 rfl rfl) ?_
        refine w_here P1 (by omega) rfl f258_34 f258_35 f258_36 f258_39 f258_40 f258_41 (fun h1' hr1' e1 G1 P1' => ?_)
        obtain ⟨fs2, c2, -⟩ := PS_c P1'
        refine wp1 (fun n d => r_aloadn f258_44 rfl) ?_
        refine wp_in (lv := lv) (Y := zM257) (O σ h1' hr1' ft1 op1 rw ld1 tp ga1 gw1 gT P1' e8 (by omega) (by omega)) (fun n d v h' e => r_virt (as := []) (r := []) f258_45 c2 (show zmt[257]? = some zM257 from rfl) rfl rfl rfl rfl rfl rfl e) (by omega) ?_
        rintro v' h2 ⟨rfl, hr2, ft2, op2, ld2, ga2, gw2, B⟩
        have P2 := B.2.1
        have B2 := PS_b P2
        have C3 := B.2.2.1
        have C5 := B.2.2.2.2.1
        obtain ⟨fs3, c3, -⟩ := PS_c P2
        show Wp _ _ _ _ 48 [some (.ref 72), some (.int (lkv hr1 tp gT))] [] _
        refine wp1 (fun n d => r_aloadn f258_48 rfl) ?_
        refine wp1 (fun n d => r_iloadn f258_49 rfl) ?_
        refine w_iconst f258_50 (fun z hz => ?_)
        refine wp_in (lv := 0) (Y := zM253) (lay_wp P2 (x1 := (lkv hr1 tp gT)) (x2 := z) (by omega)) (fun n d v h' e => r_virt (as := [.int (lkv hr1 tp gT), .int z]) (r := []) f258_51 c3 (show zmt[253]? = some zM253 from rfl) rfl rfl rfl rfl rfl rfl e) (by omega) ?_
        rintro v' h3 ⟨rfl, G2, ld3, e3, P3⟩
        show Wp _ _ _ _ 54 [some (.ref 72), some (.int (lkv hr1 tp gT))] [] _
        refine wp1 (fun n d => r_goto f258_54) ?_
        exact ih h3 hr2 ft2 op2 ld3 _ _ _ (by omega) (PR_bin A e8 G1 e1 B G2 e3 P3 hsg (by omega))
      refine wp1 (fun n d => r_aloadn f258_11 rfl) ?_
      refine wp_in (lv := 0) (Y := zM251) (look_wp P1) (fun n d v h' e => r_virt (as := []) (r := []) f258_12 c1 (show zmt[251]? = some zM251 from rfl) rfl rfl rfl rfl rfl rfl e) (by omega) ?_
      rintro v' h' ⟨rfl, rfl⟩
      show Wp _ _ _ _ 15 [some (.ref 72), u1] [.int (lkv hr1 tp gT)] _
      refine w_bipush f258_15 (fun v15 hv15 => ?_)
      refine w_icmp_eq f258_17 (fun e => ks (by omega) (by omega)) (fun _ => ?_)
      refine wp1 (fun n d => r_aloadn f258_20 rfl) ?_
      refine wp_in (lv := 0) (Y := zM251) (look_wp P1) (fun n d v h' e => r_virt (as := []) (r := []) f258_21 c1 (show zmt[251]? = some zM251 from rfl) rfl rfl rfl rfl rfl rfl e) (by omega) ?_
      rintro v' h' ⟨rfl, rfl⟩
      show Wp _ _ _ _ 24 [some (.ref 72), u1] [.int (lkv hr1 tp gT)] _
      refine w_bipush f258_24 (fun v24 hv24 => ?_)
      exact w_icmp_ne f258_26 (fun _ => kE) (fun e => ks (by omega) (by omega))
  obtain ⟨fs, c, -⟩ := PS_c P
  refine wp1 (fun n d => r_aloadn f258_0 rfl) ?_
  refine wp_in (lv := lv) (Y := zM257) (O σ h hr ft op rw ld tp ga gw gT P hf hl ho) (fun n d v h' e => r_virt (as := []) (r := []) f258_1 c (show zmt[257]? = some zM257 from rfl) rfl rfl rfl rfl rfl rfl e) (by omega) ?_
  rintro v' h1 ⟨rfl, hr1, ft1, op1, ld1, ga1, gw1, A⟩
  exact loop _ h1 hr1 ft1 op1 ld1 ga1 gw1 none (Nat.lt_succ_self _) A
theorem comp_sp {X : aX} {lv m : Nat} (hlv : 1 ≤ lv) (O : PSp X lv zM258 [some (.ref 72), none] m) : PSp X (lv + 1) zM259 [some (.ref 72), none] m := by
  intro σ h hr ft op rw ld tp ga gw gT P hf hl ho
  have B0 := PS_b P
  obtain ⟨fs, c, -⟩ := PS_c P
  refine wp1 (fun n d => r_aloadn f259_0 rfl) ?_
  refine wp_in (lv := lv) (Y := zM258) (O σ h hr ft op rw ld tp ga gw gT P hf hl ho) (fun n d v h' e => r_virt (as := []) (r := []) f259_1 c (show zmt[258]? = some zM258 from rfl) rfl rfl rfl rfl rfl rfl e) (by omega) ?_
  rintro v' h1 ⟨rfl, hr1, ft1, op1, ld1, ga1, gw1, A⟩
  show Wp _ _ _ _ 4 [some (.ref 72), none] [] _
  have P1 := A.2.1
  have B1 := PS_b P1
  obtain ⟨fs1, c1, F65, -⟩ := PS_c P1
  have A3 := A.2.2.1
  have A5 := A.2.2.2.2.1
  refine wp1 (fun n d => r_aloadn f259_4 rfl) ?_
  refine wp_in (lv := 0) (Y := zM251) (look_wp P1) (fun n d v h' e => r_virt (as := []) (r := []) f259_5 c1 (show zmt[251]? = some zM251 from rfl) rfl rfl rfl rfl rfl rfl e) (by omega) ?_
  rintro v' h' ⟨rfl, rfl⟩
  show Wp _ _ _ _ 8 [some (.ref 72), none] [.int (lkv hr1 tp gT)] _
  refine wp1 (fun n d => r_istoren (L' := [some (.ref 72), some (.int (lkv hr1 tp gT))]) f259_8 rfl rfl) ?_
  refine wp1 (fun n d => r_aloadn f259_9 rfl) ?_
  refine w_get f259_10 c1 F65 ?_
  have kE : Wp X (lv + 1) zM259 (fun v h' => v = none ∧ ∃ (hr' ft' op' ld' : Int32) (ga' gw' : Nat → Int32), PR σ h hr op rw ld tp ga gw gT h' hr' ft' op' ld' ga' gw') 34 [some (.ref 72), some (.int (lkv hr1 tp gT))] [] h1 := wp_end (fun n d => r_vreturn f259_34 rfl) ⟨rfl, hr1, ft1, op1, ld1, ga1, gw1, A⟩
  refine w_if_ge f259_13 (fun _ => kE) (fun e8 => ?_)
  have hop := (A.2.2.2.2.2.2.2 e8).1
  have ks : (lkv hr1 tp gT).toInt ≠ -1 → (lkv hr1 tp gT).toInt ≠ 1 ∧ (lkv hr1 tp gT).toInt ≠ 2 ∧ (lkv hr1 tp gT).toInt ≠ 3 ∧ (lkv hr1 tp gT).toInt ≠ 4 → Wp X (lv + 1) zM259 (fun v h' => v = none ∧ ∃ (hr' ft' op' ld' : Int32) (ga' gw' : Nat → Int32), PR σ h hr op rw ld tp ga gw gT h' hr' ft' op' ld' ga' gw') 35 [some (.ref 72), some (.int (lkv hr1 tp gT))] [] h1 := by
    intro hlt hsg
    have hlt := lkv_lt hlt
    refine w_here P1 (by omega) rfl f259_35 f259_36 f259_37 f259_40 f259_41 f259_42 (fun h1' hr1' e1 G1 P1' => ?_)
    obtain ⟨fs2, c2, -⟩ := PS_c P1'
    refine wp1 (fun n d => r_aloadn f259_45 rfl) ?_
    refine wp_in (lv := lv) (Y := zM258) (O σ h1' hr1' ft1 op1 rw ld1 tp ga1 gw1 gT P1' e8 (by omega) (by omega)) (fun n d v h' e => r_virt (as := []) (r := []) f259_46 c2 (show zmt[258]? = some zM258 from rfl) rfl rfl rfl rfl rfl rfl e) (by omega) ?_
    rintro v' h2 ⟨rfl, hr2, ft2, op2, ld2, ga2, gw2, B⟩
    have P2 := B.2.1
    have B2 := PS_b P2
    have C3 := B.2.2.1
    have C5 := B.2.2.2.2.1
    obtain ⟨fs3, c3, -⟩ := PS_c P2
    show Wp _ _ _ _ 49 [some (.ref 72), some (.int (lkv hr1 tp gT))] [] _
    refine wp1 (fun n d => r_aloadn f259_49 rfl) ?_
    refine wp1 (fun n d => r_iloadn f259_50 rfl) ?_
    refine w_iconst f259_51 (fun z hz => ?_)
    refine wp_in (lv := 0) (Y := zM253) (lay_wp P2 (x1 := (lkv hr1 tp gT)) (x2 := z) (by omega)) (fun n d v h' e => r_virt (as := [.int (lkv hr1 tp gT), .int z]) (r := []) f259_52 c3 (show zmt[253]? = some zM253 from rfl) rfl rfl rfl rfl rfl rfl e) (by omega) ?_
    rintro v' h3 ⟨rfl, G2, ld3, e3, P3⟩
    exact wp_end (fun n d => r_vreturn f259_55 rfl) ⟨rfl, hr2, ft2, op2, ld3, _, _, PR_bin A e8 G1 e1 B G2 e3 P3 hsg (by omega)⟩
  refine wp1 (fun n d => r_iloadn f259_16 rfl) ?_
  refine w_bipush f259_17 (fun v17 hv17 => ?_)
  refine w_icmp_eq f259_19 (fun e => ks (by omega) (by omega)) (fun _ => ?_)
  refine wp1 (fun n d => r_iloadn f259_22 rfl) ?_
  refine w_bipush f259_23 (fun v23 hv23 => ?_)
  refine w_icmp_eq f259_25 (fun e => ks (by omega) (by omega)) (fun _ => ?_)
  refine wp1 (fun n d => r_iloadn f259_28 rfl) ?_
  refine w_bipush f259_29 (fun v29 hv29 => ?_)
  exact w_icmp_eq f259_31 (fun e => ks (by omega) (by omega)) (fun _ => kE)
theorem all_sp {X : aX} {lv m : Nat} (hlv : 1 ≤ lv) (O : PSp X lv zM259 [some (.ref 72), none] m) : PSp X (lv + 1) zM260 [some (.ref 72)] m := by
  intro σ h hr ft op rw ld tp ga gw gT P hf hl ho
  have B0 := PS_b P
  have loop : ∀ (k : Nat) (h1 : aH) (hr1 ft1 op1 ld1 : Int32) (ga1 gw1 : Nat → Int32), (tp.toInt - hr1.toInt).toNat < k → PR σ h hr op rw ld tp ga gw gT h1 hr1 ft1 op1 ld1 ga1 gw1 → Wp X (lv + 1) zM260 (fun v h' => v = none ∧ ∃ (hr' ft' op' ld' : Int32) (ga' gw' : Nat → Int32), PR σ h hr op rw ld tp ga gw gT h' hr' ft' op' ld' ga' gw') 4 [some (.ref 72)] [] h1 := by
    intro k
    induction k with
    | zero => intro h1 hr1 ft1 op1 ld1 ga1 gw1 hk; omega
    | succ k ih =>
      intro h1 hr1 ft1 op1 ld1 ga1 gw1 hk A
      have P1 := A.2.1
      have B1 := PS_b P1
      obtain ⟨fs1, c1, F65, -⟩ := PS_c P1
      have A3 := A.2.2.1
      have A5 := A.2.2.2.2.1
      refine wp1 (fun n d => r_aloadn f260_4 rfl) ?_
      refine w_get f260_5 c1 F65 ?_
      have kE : Wp X (lv + 1) zM260 (fun v h' => v = none ∧ ∃ (hr' ft' op' ld' : Int32) (ga' gw' : Nat → Int32), PR σ h hr op rw ld tp ga gw gT h' hr' ft' op' ld' ga' gw') 44 [some (.ref 72)] [] h1 := wp_end (fun n d => r_vreturn f260_44 rfl) ⟨rfl, hr1, ft1, op1, ld1, ga1, gw1, A⟩
      refine w_if_ge f260_8 (fun _ => kE) (fun e8 => ?_)
      have hop := (A.2.2.2.2.2.2.2 e8).1
      have ks : (lkv hr1 tp gT).toInt ≠ -1 → (lkv hr1 tp gT).toInt ≠ 1 ∧ (lkv hr1 tp gT).toInt ≠ 2 ∧ (lkv hr1 tp gT).toInt ≠ 3 ∧ (lkv hr1 tp gT).toInt ≠ 4 → Wp X (lv + 1) zM260 (fun v h' => v = none ∧ ∃ (hr' ft' op' ld' : Int32) (ga' gw' : Nat → Int32), PR σ h hr op rw ld tp ga gw gT h' hr' ft' op' ld' ga' gw') 20 [some (.ref 72)] [] h1 := by
        intro hlt hsg
        have hlt := lkv_lt hlt
        refine w_here P1 (by omega) rfl f260_20 f260_21 f260_22 f260_25 f260_26 f260_27 (fun h1' hr1' e1 G1 P1' => ?_)
        obtain ⟨fs2, c2, -⟩ := PS_c P1'
        refine wp1 (fun n d => r_aloadn f260_30 rfl) ?_
        refine wp_in (lv := lv) (Y := zM259) (O σ h1' hr1' ft1 op1 rw ld1 tp ga1 gw1 gT P1' e8 (by omega) (by omega)) (fun n d v h' e => r_virt (as := []) (r := []) f260_31 c2 (show zmt[259]? = some zM259 from rfl) rfl rfl rfl rfl rfl rfl e) (by omega) ?_
        rintro v' h2 ⟨rfl, hr2, ft2, op2, ld2, ga2, gw2, B⟩
        have P2 := B.2.1
        have B2 := PS_b P2
        have C3 := B.2.2.1
        have C5 := B.2.2.2.2.1
        obtain ⟨fs3, c3, -⟩ := PS_c P2
        show Wp _ _ _ _ 34 [some (.ref 72)] [] _
        refine wp1 (fun n d => r_aloadn f260_34 rfl) ?_
        refine w_bipush f260_35 (fun sg hsg0 => ?_)
        refine w_iconst f260_37 (fun z hz => ?_)
        refine wp_in (lv := 0) (Y := zM253) (lay_wp P2 (x1 := sg) (x2 := z) (by omega)) (fun n d v h' e => r_virt (as := [.int sg, .int z]) (r := []) f260_38 c3 (show zmt[253]? = some zM253 from rfl) rfl rfl rfl rfl rfl rfl e) (by omega) ?_
        rintro v' h3 ⟨rfl, G2, ld3, e3, P3⟩
        show Wp _ _ _ _ 41 [some (.ref 72)] [] _
        refine wp1 (fun n d => r_goto f260_41) ?_
        exact ih h3 hr2 ft2 op2 ld3 _ _ (by omega) (PR_bin A e8 G1 e1 B G2 e3 P3 (by omega) (by omega))
      refine wp1 (fun n d => r_aloadn f260_11 rfl) ?_
      refine wp_in (lv := 0) (Y := zM251) (look_wp P1) (fun n d v h' e => r_virt (as := []) (r := []) f260_12 c1 (show zmt[251]? = some zM251 from rfl) rfl rfl rfl rfl rfl rfl e) (by omega) ?_
      rintro v' h' ⟨rfl, rfl⟩
      show Wp _ _ _ _ 15 [some (.ref 72)] [.int (lkv hr1 tp gT)] _
      refine w_bipush f260_15 (fun v15 hv15 => ?_)
      exact w_icmp_ne f260_17 (fun _ => kE) (fun e => ks (by omega) (by omega))
  obtain ⟨fs, c, -⟩ := PS_c P
  refine wp1 (fun n d => r_aloadn f260_0 rfl) ?_
  refine wp_in (lv := lv) (Y := zM259) (O σ h hr ft op rw ld tp ga gw gT P hf hl ho) (fun n d v h' e => r_virt (as := []) (r := []) f260_1 c (show zmt[259]? = some zM259 from rfl) rfl rfl rfl rfl rfl rfl e) (by omega) ?_
  rintro v' h1 ⟨rfl, hr1, ft1, op1, ld1, ga1, gw1, A⟩
  exact loop _ h1 hr1 ft1 op1 ld1 ga1 gw1 (Nat.lt_succ_self _) A
theorem either_sp {X : aX} {lv m : Nat} (hlv : 1 ≤ lv) (O : PSp X lv zM260 [some (.ref 72)] m) : PSp X (lv + 1) zM261 [some (.ref 72)] m := by
  intro σ h hr ft op rw ld tp ga gw gT P hf hl ho
  have B0 := PS_b P
  have loop : ∀ (k : Nat) (h1 : aH) (hr1 ft1 op1 ld1 : Int32) (ga1 gw1 : Nat → Int32), (tp.toInt - hr1.toInt).toNat < k → PR σ h hr op rw ld tp ga gw gT h1 hr1 ft1 op1 ld1 ga1 gw1 → Wp X (lv + 1) zM261 (fun v h' => v = none ∧ ∃ (hr' ft' op' ld' : Int32) (ga' gw' : Nat → Int32), PR σ h hr op rw ld tp ga gw gT h' hr' ft' op' ld' ga' gw') 4 [some (.ref 72)] [] h1 := by
    intro k
    induction k with
    | zero => intro h1 hr1 ft1 op1 ld1 ga1 gw1 hk; omega
    | succ k ih =>
      intro h1 hr1 ft1 op1 ld1 ga1 gw1 hk A
      have P1 := A.2.1
      have B1 := PS_b P1
      obtain ⟨fs1, c1, F65, -⟩ := PS_c P1
      have A3 := A.2.2.1
      have A5 := A.2.2.2.2.1
      refine wp1 (fun n d => r_aloadn f261_4 rfl) ?_
      refine w_get f261_5 c1 F65 ?_
      have kE : Wp X (lv + 1) zM261 (fun v h' => v = none ∧ ∃ (hr' ft' op' ld' : Int32) (ga' gw' : Nat → Int32), PR σ h hr op rw ld tp ga gw gT h' hr' ft' op' ld' ga' gw') 44 [some (.ref 72)] [] h1 := wp_end (fun n d => r_vreturn f261_44 rfl) ⟨rfl, hr1, ft1, op1, ld1, ga1, gw1, A⟩
      refine w_if_ge f261_8 (fun _ => kE) (fun e8 => ?_)
      have hop := (A.2.2.2.2.2.2.2 e8).1
      have ks : (lkv hr1 tp gT).toInt ≠ -1 → (lkv hr1 tp gT).toInt ≠ 1 ∧ (lkv hr1 tp gT).toInt ≠ 2 ∧ (lkv hr1 tp gT).toInt ≠ 3 ∧ (lkv hr1 tp gT).toInt ≠ 4 → Wp X (lv + 1) zM261 (fun v h' => v = none ∧ ∃ (hr' ft' op' ld' : Int32) (ga' gw' : Nat → Int32), PR σ h hr op rw ld tp ga gw gT h' hr' ft' op' ld' ga' gw') 20 [some (.ref 72)] [] h1 := by
        intro hlt hsg
        have hlt := lkv_lt hlt
        refine w_here P1 (by omega) rfl f261_20 f261_21 f261_22 f261_25 f261_26 f261_27 (fun h1' hr1' e1 G1 P1' => ?_)
        obtain ⟨fs2, c2, -⟩ := PS_c P1'
        refine wp1 (fun n d => r_aloadn f261_30 rfl) ?_
        refine wp_in (lv := lv) (Y := zM260) (O σ h1' hr1' ft1 op1 rw ld1 tp ga1 gw1 gT P1' e8 (by omega) (by omega)) (fun n d v h' e => r_virt (as := []) (r := []) f261_31 c2 (show zmt[260]? = some zM260 from rfl) rfl rfl rfl rfl rfl rfl e) (by omega) ?_
        rintro v' h2 ⟨rfl, hr2, ft2, op2, ld2, ga2, gw2, B⟩
        have P2 := B.2.1
        have B2 := PS_b P2
        have C3 := B.2.2.1
        have C5 := B.2.2.2.2.1
        obtain ⟨fs3, c3, -⟩ := PS_c P2
        show Wp _ _ _ _ 34 [some (.ref 72)] [] _
        refine wp1 (fun n d => r_aloadn f261_34 rfl) ?_
        refine w_bipush f261_35 (fun sg hsg0 => ?_)
        refine w_iconst f261_37 (fun z hz => ?_)
        refine wp_in (lv := 0) (Y := zM253) (lay_wp P2 (x1 := sg) (x2 := z) (by omega)) (fun n d v h' e => r_virt (as := [.int sg, .int z]) (r := []) f261_38 c3 (show zmt[253]? = some zM253 from rfl) rfl rfl rfl rfl rfl rfl e) (by omega) ?_
        rintro v' h3 ⟨rfl, G2, ld3, e3, P3⟩
        show Wp _ _ _ _ 41 [some (.ref 72)] [] _
        refine wp1 (fun n d => r_goto f261_41) ?_
        exact ih h3 hr2 ft2 op2 ld3 _ _ (by omega) (PR_bin A e8 G1 e1 B G2 e3 P3 (by omega) (by omega))
      refine wp1 (fun n d => r_aloadn f261_11 rfl) ?_
      refine wp_in (lv := 0) (Y := zM251) (look_wp P1) (fun n d v h' e => r_virt (as := []) (r := []) f261_12 c1 (show zmt[251]? = some zM251 from rfl) rfl rfl rfl rfl rfl rfl e) (by omega) ?_
      rintro v' h' ⟨rfl, rfl⟩
      show Wp _ _ _ _ 15 [some (.ref 72)] [.int (lkv hr1 tp gT)] _
      refine w_bipush f261_15 (fun v15 hv15 => ?_)
      exact w_icmp_ne f261_17 (fun _ => kE) (fun e => ks (by omega) (by omega))
  obtain ⟨fs, c, -⟩ := PS_c P
  refine wp1 (fun n d => r_aloadn f261_0 rfl) ?_
  refine wp_in (lv := lv) (Y := zM260) (O σ h hr ft op rw ld tp ga gw gT P hf hl ho) (fun n d v h' e => r_virt (as := []) (r := []) f261_1 c (show zmt[260]? = some zM260 from rfl) rfl rfl rfl rfl rfl rfl e) (by omega) ?_
  rintro v' h1 ⟨rfl, hr1, ft1, op1, ld1, ga1, gw1, A⟩
  exact loop _ h1 hr1 ft1 op1 ld1 ga1 gw1 (Nat.lt_succ_self _) A

-- ===== by hand: shift =====
theorem f196_0 : aF 0 zM196.2.2.2.2.2.2.2 = some (0, (.iload_n 0), 1, 0, 0) := by decide +kernel
theorem f196_1 : aF 1 zM196.2.2.2.2.2.2.2 = some (1, (.iload_n 1), 1, 0, 0) := by decide +kernel
theorem f196_2 : aF 2 zM196.2.2.2.2.2.2.2 = some (2, (.if_icmp .lt 12), 3, 14, 0) := by decide +kernel
theorem f196_5 : aF 5 zM196.2.2.2.2.2.2.2 = some (5, (.iload_n 0), 1, 0, 0) := by decide +kernel
theorem f196_6 : aF 6 zM196.2.2.2.2.2.2.2 = some (6, (.iload_n 2), 1, 0, 0) := by decide +kernel
theorem f196_7 : aF 7 zM196.2.2.2.2.2.2.2 = some (7, (.if_icmp .gt 7), 3, 14, 0) := by decide +kernel
theorem f196_10 : aF 10 zM196.2.2.2.2.2.2.2 = some (10, (.iconst 1), 1, 0, 0) := by decide +kernel
theorem f196_11 : aF 11 zM196.2.2.2.2.2.2.2 = some (11, (.goto 4), 3, 15, 0) := by decide +kernel
theorem f196_14 : aF 14 zM196.2.2.2.2.2.2.2 = some (14, (.iconst 0), 1, 0, 0) := by decide +kernel
theorem f196_15 : aF 15 zM196.2.2.2.2.2.2.2 = some (15, .ireturn, 1, 0, 0) := by decide +kernel
theorem f318_0 : aF 0 zM318.2.2.2.2.2.2.2 = some (0, (.iload_n 0), 1, 0, 0) := by decide +kernel
theorem f318_1 : aF 1 zM318.2.2.2.2.2.2.2 = some (1, (.iconst 0), 1, 0, 0) := by decide +kernel
theorem f318_2 : aF 2 zM318.2.2.2.2.2.2.2 = some (2, (.iconst 5), 1, 0, 0) := by decide +kernel
theorem f318_3 : aF 3 zM318.2.2.2.2.2.2.2 = some (3, (.invokestatic 258), 3, 196, 0) := by decide +kernel
theorem f318_6 : aF 6 zM318.2.2.2.2.2.2.2 = some (6, .ireturn, 1, 0, 0) := by decide +kernel
theorem f324_0 : aF 0 zM324.2.2.2.2.2.2.2 = some (0, (.iload_n 1), 1, 0, 0) := by decide +kernel
theorem f324_1 : aF 1 zM324.2.2.2.2.2.2.2 = some (1, (.invokestatic 382), 3, 318, 0) := by decide +kernel
theorem f324_4 : aF 4 zM324.2.2.2.2.2.2.2 = some (4, (.ifCond .eq 10), 3, 14, 0) := by decide +kernel
theorem f324_7 : aF 7 zM324.2.2.2.2.2.2.2 = some (7, (.iload_n 3), 1, 0, 0) := by decide +kernel
theorem f324_8 : aF 8 zM324.2.2.2.2.2.2.2 = some (8, (.invokestatic 382), 3, 318, 0) := by decide +kernel
theorem f324_11 : aF 11 zM324.2.2.2.2.2.2.2 = some (11, (.ifCond .ne 5), 3, 16, 0) := by decide +kernel
theorem f324_14 : aF 14 zM324.2.2.2.2.2.2.2 = some (14, (.iconst (-1)), 1, 0, 0) := by decide +kernel
theorem f324_15 : aF 15 zM324.2.2.2.2.2.2.2 = some (15, .ireturn, 1, 0, 0) := by decide +kernel
theorem f324_16 : aF 16 zM324.2.2.2.2.2.2.2 = some (16, (.aload_n 0), 1, 0, 0) := by decide +kernel
theorem f324_17 : aF 17 zM324.2.2.2.2.2.2.2 = some (17, (.getfield 243), 3, 12, 97) := by decide +kernel
theorem f324_20 : aF 20 zM324.2.2.2.2.2.2.2 = some (20, (.iload_n 1), 1, 0, 0) := by decide +kernel
theorem f324_21 : aF 21 zM324.2.2.2.2.2.2.2 = some (21, .iaload, 1, 0, 0) := by decide +kernel
theorem f324_22 : aF 22 zM324.2.2.2.2.2.2.2 = some (22, (.iconst (-1)), 1, 0, 0) := by decide +kernel
theorem f324_23 : aF 23 zM324.2.2.2.2.2.2.2 = some (23, (.if_icmp .eq 13), 3, 36, 0) := by decide +kernel
theorem f324_26 : aF 26 zM324.2.2.2.2.2.2.2 = some (26, (.aload_n 0), 1, 0, 0) := by decide +kernel
theorem f324_27 : aF 27 zM324.2.2.2.2.2.2.2 = some (27, (.getfield 243), 3, 12, 97) := by decide +kernel
theorem f324_30 : aF 30 zM324.2.2.2.2.2.2.2 = some (30, (.iload_n 3), 1, 0, 0) := by decide +kernel
theorem f324_31 : aF 31 zM324.2.2.2.2.2.2.2 = some (31, .iaload, 1, 0, 0) := by decide +kernel
theorem f324_32 : aF 32 zM324.2.2.2.2.2.2.2 = some (32, (.iconst (-1)), 1, 0, 0) := by decide +kernel
theorem f324_33 : aF 33 zM324.2.2.2.2.2.2.2 = some (33, (.if_icmp .ne 6), 3, 39, 0) := by decide +kernel
theorem f324_36 : aF 36 zM324.2.2.2.2.2.2.2 = some (36, (.bipush (-11)), 2, 0, 0) := by decide +kernel
theorem f324_38 : aF 38 zM324.2.2.2.2.2.2.2 = some (38, .ireturn, 1, 0, 0) := by decide +kernel
theorem f324_39 : aF 39 zM324.2.2.2.2.2.2.2 = some (39, (.aload_n 0), 1, 0, 0) := by decide +kernel
theorem f324_40 : aF 40 zM324.2.2.2.2.2.2.2 = some (40, (.getfield 243), 3, 12, 97) := by decide +kernel
theorem f324_43 : aF 43 zM324.2.2.2.2.2.2.2 = some (43, (.iload_n 1), 1, 0, 0) := by decide +kernel
theorem f324_44 : aF 44 zM324.2.2.2.2.2.2.2 = some (44, .iaload, 1, 0, 0) := by decide +kernel
theorem f324_45 : aF 45 zM324.2.2.2.2.2.2.2 = some (45, (.ifCond .ge 18), 3, 63, 0) := by decide +kernel
theorem f324_48 : aF 48 zM324.2.2.2.2.2.2.2 = some (48, (.aload_n 0), 1, 0, 0) := by decide +kernel
theorem f324_49 : aF 49 zM324.2.2.2.2.2.2.2 = some (49, (.getfield 243), 3, 12, 97) := by decide +kernel
theorem f324_52 : aF 52 zM324.2.2.2.2.2.2.2 = some (52, (.iload_n 1), 1, 0, 0) := by decide +kernel
theorem f324_53 : aF 53 zM324.2.2.2.2.2.2.2 = some (53, .iaload, 1, 0, 0) := by decide +kernel
theorem f324_54 : aF 54 zM324.2.2.2.2.2.2.2 = some (54, (.aload_n 0), 1, 0, 0) := by decide +kernel
theorem f324_55 : aF 55 zM324.2.2.2.2.2.2.2 = some (55, (.getfield 243), 3, 12, 97) := by decide +kernel
theorem f324_58 : aF 58 zM324.2.2.2.2.2.2.2 = some (58, (.iload_n 3), 1, 0, 0) := by decide +kernel
theorem f324_59 : aF 59 zM324.2.2.2.2.2.2.2 = some (59, .iaload, 1, 0, 0) := by decide +kernel
theorem f324_60 : aF 60 zM324.2.2.2.2.2.2.2 = some (60, (.if_icmp .eq 6), 3, 66, 0) := by decide +kernel
theorem f324_63 : aF 63 zM324.2.2.2.2.2.2.2 = some (63, (.bipush (-12)), 2, 0, 0) := by decide +kernel
theorem f324_65 : aF 65 zM324.2.2.2.2.2.2.2 = some (65, .ireturn, 1, 0, 0) := by decide +kernel
theorem f324_66 : aF 66 zM324.2.2.2.2.2.2.2 = some (66, (.iload 5), 2, 0, 0) := by decide +kernel
theorem f324_68 : aF 68 zM324.2.2.2.2.2.2.2 = some (68, (.ifCond .lt 39), 3, 107, 0) := by decide +kernel
theorem f324_71 : aF 71 zM324.2.2.2.2.2.2.2 = some (71, (.iload_n 2), 1, 0, 0) := by decide +kernel
theorem f324_72 : aF 72 zM324.2.2.2.2.2.2.2 = some (72, (.ifCond .lt 35), 3, 107, 0) := by decide +kernel
theorem f324_75 : aF 75 zM324.2.2.2.2.2.2.2 = some (75, (.iload 4), 2, 0, 0) := by decide +kernel
theorem f324_77 : aF 77 zM324.2.2.2.2.2.2.2 = some (77, (.ifCond .lt 30), 3, 107, 0) := by decide +kernel
theorem f324_80 : aF 80 zM324.2.2.2.2.2.2.2 = some (80, (.iload_n 2), 1, 0, 0) := by decide +kernel
theorem f324_81 : aF 81 zM324.2.2.2.2.2.2.2 = some (81, (.aload_n 0), 1, 0, 0) := by decide +kernel
theorem f324_82 : aF 82 zM324.2.2.2.2.2.2.2 = some (82, (.getfield 246), 3, 12, 98) := by decide +kernel
theorem f324_85 : aF 85 zM324.2.2.2.2.2.2.2 = some (85, (.iload_n 1), 1, 0, 0) := by decide +kernel
theorem f324_86 : aF 86 zM324.2.2.2.2.2.2.2 = some (86, .iaload, 1, 0, 0) := by decide +kernel
theorem f324_87 : aF 87 zM324.2.2.2.2.2.2.2 = some (87, (.iload 5), 2, 0, 0) := by decide +kernel
theorem f324_89 : aF 89 zM324.2.2.2.2.2.2.2 = some (89, .isub, 1, 0, 0) := by decide +kernel
theorem f324_90 : aF 90 zM324.2.2.2.2.2.2.2 = some (90, (.if_icmp .gt 17), 3, 107, 0) := by decide +kernel
theorem f324_93 : aF 93 zM324.2.2.2.2.2.2.2 = some (93, (.iload 4), 2, 0, 0) := by decide +kernel
theorem f324_95 : aF 95 zM324.2.2.2.2.2.2.2 = some (95, (.aload_n 0), 1, 0, 0) := by decide +kernel
theorem f324_96 : aF 96 zM324.2.2.2.2.2.2.2 = some (96, (.getfield 246), 3, 12, 98) := by decide +kernel
theorem f324_99 : aF 99 zM324.2.2.2.2.2.2.2 = some (99, (.iload_n 3), 1, 0, 0) := by decide +kernel
theorem f324_100 : aF 100 zM324.2.2.2.2.2.2.2 = some (100, .iaload, 1, 0, 0) := by decide +kernel
theorem f324_101 : aF 101 zM324.2.2.2.2.2.2.2 = some (101, (.iload 5), 2, 0, 0) := by decide +kernel
theorem f324_103 : aF 103 zM324.2.2.2.2.2.2.2 = some (103, .isub, 1, 0, 0) := by decide +kernel
theorem f324_104 : aF 104 zM324.2.2.2.2.2.2.2 = some (104, (.if_icmp .le 6), 3, 110, 0) := by decide +kernel
theorem f324_107 : aF 107 zM324.2.2.2.2.2.2.2 = some (107, (.bipush (-13)), 2, 0, 0) := by decide +kernel
theorem f324_109 : aF 109 zM324.2.2.2.2.2.2.2 = some (109, .ireturn, 1, 0, 0) := by decide +kernel
theorem f324_110 : aF 110 zM324.2.2.2.2.2.2.2 = some (110, (.iconst 0), 1, 0, 0) := by decide +kernel
theorem f324_111 : aF 111 zM324.2.2.2.2.2.2.2 = some (111, (.istore 6), 2, 0, 0) := by decide +kernel
theorem f324_113 : aF 113 zM324.2.2.2.2.2.2.2 = some (113, (.iload 6), 2, 0, 0) := by decide +kernel
theorem f324_115 : aF 115 zM324.2.2.2.2.2.2.2 = some (115, (.iload 5), 2, 0, 0) := by decide +kernel
theorem f324_117 : aF 117 zM324.2.2.2.2.2.2.2 = some (117, (.if_icmp .ge 30), 3, 147, 0) := by decide +kernel
theorem f324_120 : aF 120 zM324.2.2.2.2.2.2.2 = some (120, (.aload_n 0), 1, 0, 0) := by decide +kernel
theorem f324_121 : aF 121 zM324.2.2.2.2.2.2.2 = some (121, (.getfield 252), 3, 12, 100) := by decide +kernel
theorem f324_124 : aF 124 zM324.2.2.2.2.2.2.2 = some (124, (.iload 6), 2, 0, 0) := by decide +kernel
theorem f324_126 : aF 126 zM324.2.2.2.2.2.2.2 = some (126, (.aload_n 0), 1, 0, 0) := by decide +kernel
theorem f324_127 : aF 127 zM324.2.2.2.2.2.2.2 = some (127, (.getfield 249), 3, 12, 99) := by decide +kernel
theorem f324_130 : aF 130 zM324.2.2.2.2.2.2.2 = some (130, (.bipush 60), 2, 0, 0) := by decide +kernel
theorem f324_132 : aF 132 zM324.2.2.2.2.2.2.2 = some (132, (.iload_n 1), 1, 0, 0) := by decide +kernel
theorem f324_133 : aF 133 zM324.2.2.2.2.2.2.2 = some (133, .imul, 1, 0, 0) := by decide +kernel
theorem f324_134 : aF 134 zM324.2.2.2.2.2.2.2 = some (134, (.iload_n 2), 1, 0, 0) := by decide +kernel
theorem f324_135 : aF 135 zM324.2.2.2.2.2.2.2 = some (135, .iadd, 1, 0, 0) := by decide +kernel
theorem f324_136 : aF 136 zM324.2.2.2.2.2.2.2 = some (136, (.iload 6), 2, 0, 0) := by decide +kernel
theorem f324_138 : aF 138 zM324.2.2.2.2.2.2.2 = some (138, .iadd, 1, 0, 0) := by decide +kernel
theorem f324_139 : aF 139 zM324.2.2.2.2.2.2.2 = some (139, .laload, 1, 0, 0) := by decide +kernel
theorem f324_140 : aF 140 zM324.2.2.2.2.2.2.2 = some (140, .lastore, 1, 0, 0) := by decide +kernel
theorem f324_141 : aF 141 zM324.2.2.2.2.2.2.2 = some (141, (.iinc 6 1), 3, 0, 0) := by decide +kernel
theorem f324_144 : aF 144 zM324.2.2.2.2.2.2.2 = some (144, (.goto (-31)), 3, 113, 0) := by decide +kernel
theorem f324_147 : aF 147 zM324.2.2.2.2.2.2.2 = some (147, (.iconst 0), 1, 0, 0) := by decide +kernel
theorem f324_148 : aF 148 zM324.2.2.2.2.2.2.2 = some (148, (.istore 6), 2, 0, 0) := by decide +kernel
theorem f324_150 : aF 150 zM324.2.2.2.2.2.2.2 = some (150, (.iload 6), 2, 0, 0) := by decide +kernel
theorem f324_152 : aF 152 zM324.2.2.2.2.2.2.2 = some (152, (.iload 5), 2, 0, 0) := by decide +kernel
theorem f324_154 : aF 154 zM324.2.2.2.2.2.2.2 = some (154, (.if_icmp .ge 31), 3, 185, 0) := by decide +kernel
theorem f324_157 : aF 157 zM324.2.2.2.2.2.2.2 = some (157, (.aload_n 0), 1, 0, 0) := by decide +kernel
theorem f324_158 : aF 158 zM324.2.2.2.2.2.2.2 = some (158, (.getfield 249), 3, 12, 99) := by decide +kernel
theorem f324_161 : aF 161 zM324.2.2.2.2.2.2.2 = some (161, (.bipush 60), 2, 0, 0) := by decide +kernel
theorem f324_163 : aF 163 zM324.2.2.2.2.2.2.2 = some (163, (.iload_n 3), 1, 0, 0) := by decide +kernel
theorem f324_164 : aF 164 zM324.2.2.2.2.2.2.2 = some (164, .imul, 1, 0, 0) := by decide +kernel
theorem f324_165 : aF 165 zM324.2.2.2.2.2.2.2 = some (165, (.iload 4), 2, 0, 0) := by decide +kernel
theorem f324_167 : aF 167 zM324.2.2.2.2.2.2.2 = some (167, .iadd, 1, 0, 0) := by decide +kernel
theorem f324_168 : aF 168 zM324.2.2.2.2.2.2.2 = some (168, (.iload 6), 2, 0, 0) := by decide +kernel
theorem f324_170 : aF 170 zM324.2.2.2.2.2.2.2 = some (170, .iadd, 1, 0, 0) := by decide +kernel
theorem f324_171 : aF 171 zM324.2.2.2.2.2.2.2 = some (171, (.aload_n 0), 1, 0, 0) := by decide +kernel
theorem f324_172 : aF 172 zM324.2.2.2.2.2.2.2 = some (172, (.getfield 252), 3, 12, 100) := by decide +kernel
theorem f324_175 : aF 175 zM324.2.2.2.2.2.2.2 = some (175, (.iload 6), 2, 0, 0) := by decide +kernel
theorem f324_177 : aF 177 zM324.2.2.2.2.2.2.2 = some (177, .laload, 1, 0, 0) := by decide +kernel
theorem f324_178 : aF 178 zM324.2.2.2.2.2.2.2 = some (178, .lastore, 1, 0, 0) := by decide +kernel
theorem f324_179 : aF 179 zM324.2.2.2.2.2.2.2 = some (179, (.iinc 6 1), 3, 0, 0) := by decide +kernel
theorem f324_182 : aF 182 zM324.2.2.2.2.2.2.2 = some (182, (.goto (-32)), 3, 150, 0) := by decide +kernel
theorem f324_185 : aF 185 zM324.2.2.2.2.2.2.2 = some (185, (.iload 5), 2, 0, 0) := by decide +kernel
theorem f324_187 : aF 187 zM324.2.2.2.2.2.2.2 = some (187, .ireturn, 1, 0, 0) := by decide +kernel
theorem in_wp {X : aX} {D : Nat} {h : aH} {x a b : Int32} : Wp X D zM196 (fun v h' => h = h' ∧ ∃ r : Int32, v = some (.int r) ∧ (r.toInt = 0 ∨ r.toInt = 1) ∧ (r.toInt = 1 → a.toInt ≤ x.toInt ∧ x.toInt ≤ b.toInt)) 0 [some (.int x), some (.int a), some (.int b)] [] h := by
  have k14 : Wp X D zM196 (fun v h' => h = h' ∧ ∃ r : Int32, v = some (.int r) ∧ (r.toInt = 0 ∨ r.toInt = 1) ∧ (r.toInt = 1 → a.toInt ≤ x.toInt ∧ x.toInt ≤ b.toInt)) 14 [some (.int x), some (.int a), some (.int b)] [] h :=
    w_iconst f196_14 (fun v hv => wp_end (fun n d => r_zreturn f196_15 rfl (Or.inl (b_i.mpr hv))) ⟨rfl, v, rfl, Or.inl hv, fun q => by omega⟩)
  refine wp1 (fun n d => r_iloadn f196_0 rfl) ?_
  refine wp1 (fun n d => r_iloadn f196_1 rfl) ?_
  refine w_icmp_lt f196_2 (fun _ => k14) (fun e2 => ?_)
  refine wp1 (fun n d => r_iloadn f196_5 rfl) ?_
  refine wp1 (fun n d => r_iloadn f196_6 rfl) ?_
  refine w_icmp_gt f196_7 (fun _ => k14) (fun e7 => ?_)
  refine w_iconst f196_10 (fun v hv => ?_)
  refine wp1 (fun n d => r_goto f196_11) ?_
  exact wp_end (fun n d => r_zreturn f196_15 rfl (Or.inr (b_i.mpr hv))) ⟨rfl, v, rfl, Or.inr hv, fun _ => ⟨by omega, by omega⟩⟩
theorem shelf_wp {X : aX} {h : aH} {x : Int32} : Wp X 1 zM318 (fun v h' => h = h' ∧ ∃ r : Int32, v = some (.int r) ∧ (r.toInt = 0 ∨ r.toInt = 1) ∧ (r.toInt = 1 → 0 ≤ x.toInt ∧ x.toInt ≤ 5)) 0 [some (.int x)] [] h := by
  refine wp1 (fun n d => r_iloadn f318_0 rfl) ?_
  refine w_iconst f318_1 (fun a ha => ?_)
  refine w_iconst f318_2 (fun b hb => ?_)
  refine wp_in (lv := 0) (Y := zM196) (in_wp (x := x) (a := a) (b := b)) (fun n d v h' e => r_stat (as := [.int x, .int a, .int b]) (r := []) f318_3 rfl (show zmt[196]? = some zM196 from rfl) rfl rfl rfl rfl rfl rfl e) (by decide) ?_
  rintro v h' ⟨rfl, r, rfl, h01, hr⟩
  refine wp_end (fun n d => r_zreturn f318_6 rfl (h01.elim (fun q => Or.inl (b_i.mpr q)) (fun q => Or.inr (b_i.mpr q)))) ⟨rfl, r, rfl, h01, fun q => ?_⟩
  have := hr q
  omega
theorem shift_l1 {X : aX} {D : Nat} {σ : List Nat} {W : List (Nat × Nat)} (w1 : cWn W 144 0 = true) (w2 : cWn W 145 0 = true) {Q : Option Value → aH → Prop} {x1 x2 x3 x4 x5 : Int32} (h1 : 0 ≤ x1.toInt) (h1b : x1.toInt ≤ 5) (h2 : 0 ≤ x2.toInt) (h3 : 0 ≤ x3.toInt) (h3b : x3.toInt ≤ 5) (h4 : 0 ≤ x4.toInt) (h5 : 0 ≤ x5.toInt) (h25 : x2.toInt + x5.toInt ≤ 60) (h45 : x4.toInt + x5.toInt ≤ 60) : ∀ (k : Nat) (i : Int32) (h : aH), (x5.toInt - i.toInt).toNat = k → 0 ≤ i.toInt → dI σ h →
    (∀ (i : Int32) (h' : aH), dI σ h' → dG W σ h σ h' → Wp X D zM324 Q 147 [some (.ref 72), some (.int x1), some (.int x2), some (.int x3), some (.int x4), some (.int x5), some (.int i)] [] h') → Wp X D zM324 Q 113 [some (.ref 72), some (.int x1), some (.int x2), some (.int x3), some (.int x4), some (.int x5), some (.int i)] [] h := by
  intro k
  induction k with
  | zero =>
    intro i h hk hi I kq
    refine wp1 (fun n d => r_iload f324_113 rfl) ?_
    refine wp1 (fun n d => r_iload f324_115 rfl) ?_
    exact w_icmp_ge f324_117 (fun e => kq i h I (dG_refl _ _ _)) (fun e => absurd e (by omega))
  | succ k ih =>
    intro i h hk hi I kq
    obtain ⟨fs, c72⟩ := hI_o I (r := 72) (ci := 12) (by decide +kernel)
    have F72_99 := hI_r I c72 (f := 99) (q := 144) (by decide +kernel)
    have F72_100 := hI_r I c72 (f := 100) (q := 145) (by decide +kernel)
    obtain ⟨ge, c144, -⟩ := hI_j I (r := 144) (n := 360) (lo := -9223372036854775808) (hi := 9223372036854775807) (by decide +kernel)
    obtain ⟨gt, c145, -⟩ := hI_j I (r := 145) (n := 60) (lo := -9223372036854775808) (hi := 9223372036854775807) (by decide +kernel)
    refine wp1 (fun n d => r_iload f324_113 rfl) ?_
    refine wp1 (fun n d => r_iload f324_115 rfl) ?_
    refine w_icmp_ge f324_117 (fun e => kq i h I (dG_refl _ _ _)) (fun e => ?_)
    refine wp1 (fun n d => r_aloadn f324_120 rfl) ?_
    refine w_get f324_121 c72 F72_100 ?_
    refine wp1 (fun n d => r_iload f324_124 rfl) ?_
    refine wp1 (fun n d => r_aloadn f324_126 rfl) ?_
    refine w_get f324_127 c72 F72_99 ?_
    refine w_bipush f324_130 (fun v130 hv130 => ?_)
    refine wp1 (fun n d => r_iloadn f324_132 rfl) ?_
    refine w_imul f324_133 (by rw [hv130]; omega) (by rw [hv130]; omega) (fun v133 hv133 => ?_)
    rw [hv130] at hv133
    refine wp1 (fun n d => r_iloadn f324_134 rfl) ?_
    refine w_iadd f324_135 (by omega) (by omega) (fun v135 hv135 => ?_)
    refine wp1 (fun n d => r_iload f324_136 rfl) ?_
    refine w_iadd f324_138 (by omega) (by omega) (fun v138 hv138 => ?_)
    refine w_lald f324_139 c144 (by omega) (by omega) (fun v139 hv139 => ?_)
    refine w_last f324_140 c145 (by omega) (by omega) ?_
    have hs := hI_l I (W := W) (r := 145) (n := 60) (by decide +kernel) w2 (by omega) (g' := vp_updL gt i.toInt.toNat v139) c145
    refine w_iinc f324_141 rfl (by omega) (by omega) (fun v141 hv141 => ?_)
    show Wp _ _ _ _ 144 [some (.ref 72), some (.int x1), some (.int x2), some (.int x3), some (.int x4), some (.int x5), some (.int v141)] _ _
    refine wp1 (fun n d => r_goto f324_144) ?_
    exact ih _ _ (by omega) (by omega) hs.1 (fun i' h' I' G' => kq i' h' I' (dG_trans hs.2 G'))
theorem shift_l2 {X : aX} {D : Nat} {σ : List Nat} {W : List (Nat × Nat)} (w1 : cWn W 144 0 = true) (w2 : cWn W 145 0 = true) {Q : Option Value → aH → Prop} {x1 x2 x3 x4 x5 : Int32} (h1 : 0 ≤ x1.toInt) (h1b : x1.toInt ≤ 5) (h2 : 0 ≤ x2.toInt) (h3 : 0 ≤ x3.toInt) (h3b : x3.toInt ≤ 5) (h4 : 0 ≤ x4.toInt) (h5 : 0 ≤ x5.toInt) (h25 : x2.toInt + x5.toInt ≤ 60) (h45 : x4.toInt + x5.toInt ≤ 60) : ∀ (k : Nat) (i : Int32) (h : aH), (x5.toInt - i.toInt).toNat = k → 0 ≤ i.toInt → dI σ h →
    (∀ (i : Int32) (h' : aH), dI σ h' → dG W σ h σ h' → Wp X D zM324 Q 185 [some (.ref 72), some (.int x1), some (.int x2), some (.int x3), some (.int x4), some (.int x5), some (.int i)] [] h') → Wp X D zM324 Q 150 [some (.ref 72), some (.int x1), some (.int x2), some (.int x3), some (.int x4), some (.int x5), some (.int i)] [] h := by
  intro k
  induction k with
  | zero =>
    intro i h hk hi I kq
    refine wp1 (fun n d => r_iload f324_150 rfl) ?_
    refine wp1 (fun n d => r_iload f324_152 rfl) ?_
    exact w_icmp_ge f324_154 (fun e => kq i h I (dG_refl _ _ _)) (fun e => absurd e (by omega))
  | succ k ih =>
    intro i h hk hi I kq
    obtain ⟨fs, c72⟩ := hI_o I (r := 72) (ci := 12) (by decide +kernel)
    have F72_99 := hI_r I c72 (f := 99) (q := 144) (by decide +kernel)
    have F72_100 := hI_r I c72 (f := 100) (q := 145) (by decide +kernel)
    obtain ⟨ge, c144, -⟩ := hI_j I (r := 144) (n := 360) (lo := -9223372036854775808) (hi := 9223372036854775807) (by decide +kernel)
    obtain ⟨gt, c145, -⟩ := hI_j I (r := 145) (n := 60) (lo := -9223372036854775808) (hi := 9223372036854775807) (by decide +kernel)
    refine wp1 (fun n d => r_iload f324_150 rfl) ?_
    refine wp1 (fun n d => r_iload f324_152 rfl) ?_
    refine w_icmp_ge f324_154 (fun e => kq i h I (dG_refl _ _ _)) (fun e => ?_)
    refine wp1 (fun n d => r_aloadn f324_157 rfl) ?_
    refine w_get f324_158 c72 F72_99 ?_
    refine w_bipush f324_161 (fun v161 hv161 => ?_)
    refine wp1 (fun n d => r_iloadn f324_163 rfl) ?_
    refine w_imul f324_164 (by rw [hv161]; omega) (by rw [hv161]; omega) (fun v164 hv164 => ?_)
    rw [hv161] at hv164
    refine wp1 (fun n d => r_iload f324_165 rfl) ?_
    refine w_iadd f324_167 (by omega) (by omega) (fun v167 hv167 => ?_)
    refine wp1 (fun n d => r_iload f324_168 rfl) ?_
    refine w_iadd f324_170 (by omega) (by omega) (fun v170 hv170 => ?_)
    refine wp1 (fun n d => r_aloadn f324_171 rfl) ?_
    refine w_get f324_172 c72 F72_100 ?_
    refine wp1 (fun n d => r_iload f324_175 rfl) ?_
    refine w_lald f324_177 c145 (by omega) (by omega) (fun v177 hv177 => ?_)
    refine w_last f324_178 c144 (by omega) (by omega) ?_
    have hs := hI_l I (W := W) (r := 144) (n := 360) (by decide +kernel) w1 (by omega) (g' := vp_updL ge v170.toInt.toNat v177) c144
    refine w_iinc f324_179 rfl (by omega) (by omega) (fun v179 hv179 => ?_)
    show Wp _ _ _ _ 182 [some (.ref 72), some (.int x1), some (.int x2), some (.int x3), some (.int x4), some (.int x5), some (.int v179)] _ _
    refine wp1 (fun n d => r_goto f324_182) ?_
    exact ih _ _ (by omega) (by omega) hs.1 (fun i' h' I' G' => kq i' h' I' (dG_trans hs.2 G'))
theorem hand_293 {X : aX} : dGood X cC293 := by
  intro M hM l h σ ρ rh I K L
  have hM0 : zmt[324]? = some zM324 := rfl
  cases (show zmt[324]? = some M from hM).symm.trans hM0
  have a0 := dL_r L (i := 0) (c := 72) (o := 0) rfl (by decide)
  obtain ⟨x1, a1, b1, b1'⟩ := hL_i L K.1 (i := 1) (p := 1) (o := 0) (lo := -2147483648) (hi := 2147483647) rfl rfl
  obtain ⟨x2, a2, b2, b2'⟩ := hL_i L K.1 (i := 2) (p := 2) (o := 0) (lo := -2147483648) (hi := 2147483647) rfl rfl
  obtain ⟨x3, a3, b3, b3'⟩ := hL_i L K.1 (i := 3) (p := 3) (o := 0) (lo := -2147483648) (hi := 2147483647) rfl rfl
  obtain ⟨x4, a4, b4, b4'⟩ := hL_i L K.1 (i := 4) (p := 4) (o := 0) (lo := -2147483648) (hi := 2147483647) rfl rfl
  obtain ⟨x5, a5, b5, b5'⟩ := hL_i L K.1 (i := 5) (p := 5) (o := 0) (lo := -2147483648) (hi := 2147483647) rfl rfl
  obtain ⟨u0, l1, rfl, e1⟩ := hcons (show l.length = 7 from L.1)
  obtain ⟨u1, l2, rfl, e2⟩ := hcons e1
  obtain ⟨u2, l3, rfl, e3⟩ := hcons e2
  obtain ⟨u3, l4, rfl, e4⟩ := hcons e3
  obtain ⟨u4, l5, rfl, e5⟩ := hcons e4
  obtain ⟨u5, l6, rfl, e6⟩ := hcons e5
  obtain ⟨u6, l7, rfl, e7⟩ := hcons e6
  cases hnil e7
  cases Option.some.inj a0
  cases Option.some.inj a1
  cases Option.some.inj a2
  cases Option.some.inj a3
  cases Option.some.inj a4
  cases Option.some.inj a5
  obtain ⟨fs, c72⟩ := hI_o I (r := 72) (ci := 12) (by decide +kernel)
  have F72_97 := hI_r I c72 (f := 97) (q := 142) (by decide +kernel)
  have F72_98 := hI_r I c72 (f := 98) (q := 143) (by decide +kernel)
  obtain ⟨gs, c142, r142⟩ := hI_a I (r := 142) (a := 0) (n := 6) (lo := -6) (hi := 149) (by decide +kernel)
  obtain ⟨gh, c143, r143⟩ := hI_a I (r := 143) (a := 0) (n := 6) (lo := 0) (hi := 60) (by decide +kernel)
  have fin : ∀ (x : Int32) (h' : aH), dI σ h' → dG [(144, 0), (145, 0)] σ h σ h' → hQ cC293 σ h (some (.int x)) h' := fun x h' I' G' => ⟨σ, I', G', _, List.mem_cons_self, post_i I'.1 (iR x).1 (iR x).2⟩
  have fin0 : ∀ x : Int32, hQ cC293 σ h (some (.int x)) h := fun x => fin x h I (dG_refl _ _ _)
  refine hEnd ?_
  have k14 : Wp X 30 zM324 (hQ cC293 σ h) 14 [some (.ref 72), some (.int x1), some (.int x2), some (.int x3), some (.int x4), some (.int x5), u6] [] h := w_iconst f324_14 (fun v _ => wp_end (fun n d => r_ireturn f324_15 rfl) (fin0 v))
  have k36 : Wp X 30 zM324 (hQ cC293 σ h) 36 [some (.ref 72), some (.int x1), some (.int x2), some (.int x3), some (.int x4), some (.int x5), u6] [] h := w_bipush f324_36 (fun v _ => wp_end (fun n d => r_ireturn f324_38 rfl) (fin0 v))
  have k63 : Wp X 30 zM324 (hQ cC293 σ h) 63 [some (.ref 72), some (.int x1), some (.int x2), some (.int x3), some (.int x4), some (.int x5), u6] [] h := w_bipush f324_63 (fun v _ => wp_end (fun n d => r_ireturn f324_65 rfl) (fin0 v))
  have k107 : Wp X 30 zM324 (hQ cC293 σ h) 107 [some (.ref 72), some (.int x1), some (.int x2), some (.int x3), some (.int x4), some (.int x5), u6] [] h := w_bipush f324_107 (fun v _ => wp_end (fun n d => r_ireturn f324_109 rfl) (fin0 v))
  refine wp1 (fun n d => r_iloadn f324_0 rfl) ?_
  refine wp_in (lv := 1) (Y := zM318) (shelf_wp (x := x1)) (fun n d v h' e => r_stat (as := [.int x1]) (r := []) f324_1 rfl (show zmt[318]? = some zM318 from rfl) rfl rfl rfl rfl rfl rfl e) (by decide) ?_
  rintro v h' ⟨rfl, r1, rfl, z1, hr1⟩
  refine w_if_eq f324_4 (fun _ => k14) (fun e4 => ?_)
  refine wp1 (fun n d => r_iloadn f324_7 rfl) ?_
  refine wp_in (lv := 1) (Y := zM318) (shelf_wp (x := x3)) (fun n d v h' e => r_stat (as := [.int x3]) (r := []) f324_8 rfl (show zmt[318]? = some zM318 from rfl) rfl rfl rfl rfl rfl rfl e) (by decide) ?_
  rintro v h' ⟨rfl, r3, rfl, z3, hr3⟩
  refine w_if_ne f324_11 (fun e11 => ?_) (fun _ => k14)
  have B1 := hr1 (by omega)
  have B3 := hr3 (by omega)
  have R1 := r143 x1.toInt.toNat (by omega)
  have R3 := r143 x3.toInt.toNat (by omega)
  refine wp1 (fun n d => r_aloadn f324_16 rfl) ?_
  refine w_get f324_17 c72 F72_97 ?_
  refine wp1 (fun n d => r_iloadn f324_20 rfl) ?_
  refine w_iald f324_21 c142 (by omega) (by omega) (fun v21 hv21 => ?_)
  have g21 := congrArg Int32.toInt hv21
  refine w_iconst f324_22 (fun v22 hv22 => ?_)
  refine w_icmp_eq f324_23 (fun _ => k36) (fun e23 => ?_)
  refine wp1 (fun n d => r_aloadn f324_26 rfl) ?_
  refine w_get f324_27 c72 F72_97 ?_
  refine wp1 (fun n d => r_iloadn f324_30 rfl) ?_
  refine w_iald f324_31 c142 (by omega) (by omega) (fun v31 hv31 => ?_)
  have g31 := congrArg Int32.toInt hv31
  refine w_iconst f324_32 (fun v32 hv32 => ?_)
  refine w_icmp_ne f324_33 (fun e33 => ?_) (fun _ => k36)
  refine wp1 (fun n d => r_aloadn f324_39 rfl) ?_
  refine w_get f324_40 c72 F72_97 ?_
  refine wp1 (fun n d => r_iloadn f324_43 rfl) ?_
  refine w_iald f324_44 c142 (by omega) (by omega) (fun v44 hv44 => ?_)
  have g44 := congrArg Int32.toInt hv44
  refine w_if_ge f324_45 (fun _ => k63) (fun e45 => ?_)
  refine wp1 (fun n d => r_aloadn f324_48 rfl) ?_
  refine w_get f324_49 c72 F72_97 ?_
  refine wp1 (fun n d => r_iloadn f324_52 rfl) ?_
  refine w_iald f324_53 c142 (by omega) (by omega) (fun v53 hv53 => ?_)
  have g53 := congrArg Int32.toInt hv53
  refine wp1 (fun n d => r_aloadn f324_54 rfl) ?_
  refine w_get f324_55 c72 F72_97 ?_
  refine wp1 (fun n d => r_iloadn f324_58 rfl) ?_
  refine w_iald f324_59 c142 (by omega) (by omega) (fun v59 hv59 => ?_)
  have g59 := congrArg Int32.toInt hv59
  refine w_icmp_eq f324_60 (fun e60 => ?_) (fun _ => k63)
  refine wp1 (fun n d => r_iload f324_66 rfl) ?_
  refine w_if_lt f324_68 (fun _ => k107) (fun e68 => ?_)
  refine wp1 (fun n d => r_iloadn f324_71 rfl) ?_
  refine w_if_lt f324_72 (fun _ => k107) (fun e72 => ?_)
  refine wp1 (fun n d => r_iload f324_75 rfl) ?_
  refine w_if_lt f324_77 (fun _ => k107) (fun e77 => ?_)
  refine wp1 (fun n d => r_iloadn f324_80 rfl) ?_
  refine wp1 (fun n d => r_aloadn f324_81 rfl) ?_
  refine w_get f324_82 c72 F72_98 ?_
  refine wp1 (fun n d => r_iloadn f324_85 rfl) ?_
  refine w_iald f324_86 c143 (by omega) (by omega) (fun v86 hv86 => ?_)
  have g86 := congrArg Int32.toInt hv86
  refine wp1 (fun n d => r_iload f324_87 rfl) ?_
  refine w_isub f324_89 (by omega) (by omega) (fun v89 hv89 => ?_)
  refine w_icmp_gt f324_90 (fun _ => k107) (fun e90 => ?_)
  refine wp1 (fun n d => r_iload f324_93 rfl) ?_
  refine wp1 (fun n d => r_aloadn f324_95 rfl) ?_
  refine w_get f324_96 c72 F72_98 ?_
  refine wp1 (fun n d => r_iloadn f324_99 rfl) ?_
  refine w_iald f324_100 c143 (by omega) (by omega) (fun v100 hv100 => ?_)
  have g100 := congrArg Int32.toInt hv100
  refine wp1 (fun n d => r_iload f324_101 rfl) ?_
  refine w_isub f324_103 (by omega) (by omega) (fun v103 hv103 => ?_)
  refine w_icmp_le f324_104 (fun e104 => ?_) (fun _ => k107)
  refine w_iconst f324_110 (fun v110 hv110 => ?_)
  refine wp1 (fun n d => r_istore (L' := [some (.ref 72), some (.int x1), some (.int x2), some (.int x3), some (.int x4), some (.int x5), some (.int v110)]) f324_111 rfl rfl) ?_
  refine shift_l1 (W := [(144, 0), (145, 0)]) rfl rfl (by omega) (by omega) (by omega) (by omega) (by omega) (by omega) (by omega) (by omega) (by omega) _ v110 h rfl (by omega) I (fun i h1 I1 G1 => ?_)
  refine w_iconst f324_147 (fun v147 hv147 => ?_)
  refine wp1 (fun n d => r_istore (L' := [some (.ref 72), some (.int x1), some (.int x2), some (.int x3), some (.int x4), some (.int x5), some (.int v147)]) f324_148 rfl rfl) ?_
  refine shift_l2 (W := [(144, 0), (145, 0)]) rfl rfl (by omega) (by omega) (by omega) (by omega) (by omega) (by omega) (by omega) (by omega) (by omega) _ v147 h1 rfl (by omega) I1 (fun i h2 I2 G2 => ?_)
  refine wp1 (fun n d => r_iload f324_185 rfl) ?_
  exact wp_end (fun n d => r_ireturn f324_187 rfl) (fin x5 h2 I2 (dG_trans G1 G2))

-- ===== 56.shift: 7 texts =====
section
-- ===== by hand: shift =====
theorem f196_0 : aF 0 zM196.2.2.2.2.2.2.2 = some (0, (.iload_n 0), 1, 0, 0) := by decide +kernel
theorem f196_1 : aF 1 zM196.2.2.2.2.2.2.2 = some (1, (.iload_n 1), 1, 0, 0) := by decide +kernel
theorem f196_2 : aF 2 zM196.2.2.2.2.2.2.2 = some (2, (.if_icmp .lt 12), 3, 14, 0) := by decide +kernel
theorem f196_5 : aF 5 zM196.2.2.2.2.2.2.2 = some (5, (.iload_n 0), 1, 0, 0) := by decide +kernel
theorem f196_6 : aF 6 zM196.2.2.2.2.2.2.2 = some (6, (.iload_n 2), 1, 0, 0) := by decide +kernel
theorem f196_7 : aF 7 zM196.2.2.2.2.2.2.2 = some (7, (.if_icmp .gt 7), 3, 14, 0) := by decide +kernel
theorem f196_10 : aF 10 zM196.2.2.2.2.2.2.2 = some (10, (.iconst 1), 1, 0, 0) := by decide +kernel
theorem f196_11 : aF 11 zM196.2.2.2.2.2.2.2 = some (11, (.goto 4), 3, 15, 0) := by decide +kernel
theorem f196_14 : aF 14 zM196.2.2.2.2.2.2.2 = some (14, (.iconst 0), 1, 0, 0) := by decide +kernel
theorem f196_15 : aF 15 zM196.2.2.2.2.2.2.2 = some (15, .ireturn, 1, 0, 0) := by decide +kernel
theorem f318_0 : aF 0 zM318.2.2.2.2.2.2.2 = some (0, (.iload_n 0), 1, 0, 0) := by decide +kernel
theorem f318_1 : aF 1 zM318.2.2.2.2.2.2.2 = some (1, (.iconst 0), 1, 0, 0) := by decide +kernel
theorem f318_2 : aF 2 zM318.2.2.2.2.2.2.2 = some (2, (.iconst 5), 1, 0, 0) := by decide +kernel
theorem f318_3 : aF 3 zM318.2.2.2.2.2.2.2 = some (3, (.invokestatic 258), 3, 196, 0) := by decide +kernel
theorem f318_6 : aF 6 zM318.2.2.2.2.2.2.2 = some (6, .ireturn, 1, 0, 0) := by decide +kernel
theorem f324_0 : aF 0 zM324.2.2.2.2.2.2.2 = some (0, (.iload_n 1), 1, 0, 0) := by decide +kernel
theorem f324_1 : aF 1 zM324.2.2.2.2.2.2.2 = some (1, (.invokestatic 382), 3, 318, 0) := by decide +kernel
theorem f324_4 : aF 4 zM324.2.2.2.2.2.2.2 = some (4, (.ifCond .eq 10), 3, 14, 0) := by decide +kernel
theorem f324_7 : aF 7 zM324.2.2.2.2.2.2.2 = some (7, (.iload_n 3), 1, 0, 0) := by decide +kernel
theorem f324_8 : aF 8 zM324.2.2.2.2.2.2.2 = some (8, (.invokestatic 382), 3, 318, 0) := by decide +kernel
theorem f324_11 : aF 11 zM324.2.2.2.2.2.2.2 = some (11, (.ifCond .ne 5), 3, 16, 0) := by decide +kernel
theorem f324_14 : aF 14 zM324.2.2.2.2.2.2.2 = some (14, (.iconst (-1)), 1, 0, 0) := by decide +kernel
theorem f324_15 : aF 15 zM324.2.2.2.2.2.2.2 = some (15, .ireturn, 1, 0, 0) := by decide +kernel
theorem f324_16 : aF 16 zM324.2.2.2.2.2.2.2 = some (16, (.aload_n 0), 1, 0, 0) := by decide +kernel
theorem f324_17 : aF 17 zM324.2.2.2.2.2.2.2 = some (17, (.getfield 243), 3, 12, 97) := by decide +kernel
theorem f324_20 : aF 20 zM324.2.2.2.2.2.2.2 = some (20, (.iload_n 1), 1, 0, 0) := by decide +kernel
theorem f324_21 : aF 21 zM324.2.2.2.2.2.2.2 = some (21, .iaload, 1, 0, 0) := by decide +kernel
theorem f324_22 : aF 22 zM324.2.2.2.2.2.2.2 = some (22, (.iconst (-1)), 1, 0, 0) := by decide +kernel
theorem f324_23 : aF 23 zM324.2.2.2.2.2.2.2 = some (23, (.if_icmp .eq 13), 3, 36, 0) := by decide +kernel
theorem f324_26 : aF 26 zM324.2.2.2.2.2.2.2 = some (26, (.aload_n 0), 1, 0, 0) := by decide +kernel
theorem f324_27 : aF 27 zM324.2.2.2.2.2.2.2 = some (27, (.getfield 243), 3, 12, 97) := by decide +kernel
theorem f324_30 : aF 30 zM324.2.2.2.2.2.2.2 = some (30, (.iload_n 3), 1, 0, 0) := by decide +kernel
theorem f324_31 : aF 31 zM324.2.2.2.2.2.2.2 = some (31, .iaload, 1, 0, 0) := by decide +kernel
theorem f324_32 : aF 32 zM324.2.2.2.2.2.2.2 = some (32, (.iconst (-1)), 1, 0, 0) := by decide +kernel
theorem f324_33 : aF 33 zM324.2.2.2.2.2.2.2 = some (33, (.if_icmp .ne 6), 3, 39, 0) := by decide +kernel
theorem f324_36 : aF 36 zM324.2.2.2.2.2.2.2 = some (36, (.bipush (-11)), 2, 0, 0) := by decide +kernel
theorem f324_38 : aF 38 zM324.2.2.2.2.2.2.2 = some (38, .ireturn, 1, 0, 0) := by decide +kernel
theorem f324_39 : aF 39 zM324.2.2.2.2.2.2.2 = some (39, (.aload_n 0), 1, 0, 0) := by decide +kernel
theorem f324_40 : aF 40 zM324.2.2.2.2.2.2.2 = some (40, (.getfield 243), 3, 12, 97) := by decide +kernel
theorem f324_43 : aF 43 zM324.2.2.2.2.2.2.2 = some (43, (.iload_n 1), 1, 0, 0) := by decide +kernel
theorem f324_44 : aF 44 zM324.2.2.2.2.2.2.2 = some (44, .iaload, 1, 0, 0) := by decide +kernel
theorem f324_45 : aF 45 zM324.2.2.2.2.2.2.2 = some (45, (.ifCond .ge 18), 3, 63, 0) := by decide +kernel
theorem f324_48 : aF 48 zM324.2.2.2.2.2.2.2 = some (48, (.aload_n 0), 1, 0, 0) := by decide +kernel
theorem f324_49 : aF 49 zM324.2.2.2.2.2.2.2 = some (49, (.getfield 243), 3, 12, 97) := by decide +kernel
theorem f324_52 : aF 52 zM324.2.2.2.2.2.2.2 = some (52, (.iload_n 1), 1, 0, 0) := by decide +kernel
theorem f324_53 : aF 53 zM324.2.2.2.2.2.2.2 = some (53, .iaload, 1, 0, 0) := by decide +kernel
theorem f324_54 : aF 54 zM324.2.2.2.2.2.2.2 = some (54, (.aload_n 0), 1, 0, 0) := by decide +kernel
theorem f324_55 : aF 55 zM324.2.2.2.2.2.2.2 = some (55, (.getfield 243), 3, 12, 97) := by decide +kernel
theorem f324_58 : aF 58 zM324.2.2.2.2.2.2.2 = some (58, (.iload_n 3), 1, 0, 0) := by decide +kernel
theorem f324_59 : aF 59 zM324.2.2.2.2.2.2.2 = some (59, .iaload, 1, 0, 0) := by decide +kernel
theorem f324_60 : aF 60 zM324.2.2.2.2.2.2.2 = some (60, (.if_icmp .eq 6), 3, 66, 0) := by decide +kernel
theorem f324_63 : aF 63 zM324.2.2.2.2.2.2.2 = some (63, (.bipush (-12)), 2, 0, 0) := by decide +kernel
theorem f324_65 : aF 65 zM324.2.2.2.2.2.2.2 = some (65, .ireturn, 1, 0, 0) := by decide +kernel
theorem f324_66 : aF 66 zM324.2.2.2.2.2.2.2 = some (66, (.iload 5), 2, 0, 0) := by decide +kernel
theorem f324_68 : aF 68 zM324.2.2.2.2.2.2.2 = some (68, (.ifCond .lt 39), 3, 107, 0) := by decide +kernel
theorem f324_71 : aF 71 zM324.2.2.2.2.2.2.2 = some (71, (.iload_n 2), 1, 0, 0) := by decide +kernel
theorem f324_72 : aF 72 zM324.2.2.2.2.2.2.2 = some (72, (.ifCond .lt 35), 3, 107, 0) := by decide +kernel
theorem f324_75 : aF 75 zM324.2.2.2.2.2.2.2 = some (75, (.iload 4), 2, 0, 0) := by decide +kernel
theorem f324_77 : aF 77 zM324.2.2.2.2.2.2.2 = some (77, (.ifCond .lt 30), 3, 107, 0) := by decide +kernel
theorem f324_80 : aF 80 zM324.2.2.2.2.2.2.2 = some (80, (.iload_n 2), 1, 0, 0) := by decide +kernel
theorem f324_81 : aF 81 zM324.2.2.2.2.2.2.2 = some (81, (.aload_n 0), 1, 0, 0) := by decide +kernel
theorem f324_82 : aF 82 zM324.2.2.2.2.2.2.2 = some (82, (.getfield 246), 3, 12, 98) := by decide +kernel
theorem f324_85 : aF 85 zM324.2.2.2.2.2.2.2 = some (85, (.iload_n 1), 1, 0, 0) := by decide +kernel
theorem f324_86 : aF 86 zM324.2.2.2.2.2.2.2 = some (86, .iaload, 1, 0, 0) := by decide +kernel
theorem f324_87 : aF 87 zM324.2.2.2.2.2.2.2 = some (87, (.iload 5), 2, 0, 0) := by decide +kernel
theorem f324_89 : aF 89 zM324.2.2.2.2.2.2.2 = some (89, .isub, 1, 0, 0) := by decide +kernel
theorem f324_90 : aF 90 zM324.2.2.2.2.2.2.2 = some (90, (.if_icmp .gt 17), 3, 107, 0) := by decide +kernel
theorem f324_93 : aF 93 zM324.2.2.2.2.2.2.2 = some (93, (.iload 4), 2, 0, 0) := by decide +kernel
theorem f324_95 : aF 95 zM324.2.2.2.2.2.2.2 = some (95, (.aload_n 0), 1, 0, 0) := by decide +kernel
theorem f324_96 : aF 96 zM324.2.2.2.2.2.2.2 = some (96, (.getfield 246), 3, 12, 98) := by decide +kernel
theorem f324_99 : aF 99 zM324.2.2.2.2.2.2.2 = some (99, (.iload_n 3), 1, 0, 0) := by decide +kernel
theorem f324_100 : aF 100 zM324.2.2.2.2.2.2.2 = some (100, .iaload, 1, 0, 0) := by decide +kernel
theorem f324_101 : aF 101 zM324.2.2.2.2.2.2.2 = some (101, (.iload 5), 2, 0, 0) := by decide +kernel
theorem f324_103 : aF 103 zM324.2.2.2.2.2.2.2 = some (103, .isub, 1, 0, 0) := by decide +kernel
theorem f324_104 : aF 104 zM324.2.2.2.2.2.2.2 = some (104, (.if_icmp .le 6), 3, 110, 0) := by decide +kernel
theorem f324_107 : aF 107 zM324.2.2.2.2.2.2.2 = some (107, (.bipush (-13)), 2, 0, 0) := by decide +kernel
theorem f324_109 : aF 109 zM324.2.2.2.2.2.2.2 = some (109, .ireturn, 1, 0, 0) := by decide +kernel
theorem f324_110 : aF 110 zM324.2.2.2.2.2.2.2 = some (110, (.iconst 0), 1, 0, 0) := by decide +kernel
theorem f324_111 : aF 111 zM324.2.2.2.2.2.2.2 = some (111, (.istore 6), 2, 0, 0) := by decide +kernel
theorem f324_113 : aF 113 zM324.2.2.2.2.2.2.2 = some (113, (.iload 6), 2, 0, 0) := by decide +kernel
theorem f324_115 : aF 115 zM324.2.2.2.2.2.2.2 = some (115, (.iload 5), 2, 0, 0) := by decide +kernel
theorem f324_117 : aF 117 zM324.2.2.2.2.2.2.2 = some (117, (.if_icmp .ge 30), 3, 147, 0) := by decide +kernel
theorem f324_120 : aF 120 zM324.2.2.2.2.2.2.2 = some (120, (.aload_n 0), 1, 0, 0) := by decide +kernel
theorem f324_121 : aF 121 zM324.2.2.2.2.2.2.2 = some (121, (.getfield 252), 3, 12, 100) := by decide +kernel
theorem f324_124 : aF 124 zM324.2.2.2.2.2.2.2 = some (124, (.iload 6), 2, 0, 0) := by decide +kernel
theorem f324_126 : aF 126 zM324.2.2.2.2.2.2.2 = some (126, (.aload_n 0), 1, 0, 0) := by decide +kernel
theorem f324_127 : aF 127 zM324.2.2.2.2.2.2.2 = some (127, (.getfield 249), 3, 12, 99) := by decide +kernel
theorem f324_130 : aF 130 zM324.2.2.2.2.2.2.2 = some (130, (.bipush 60), 2, 0, 0) := by decide +kernel
theorem f324_132 : aF 132 zM324.2.2.2.2.2.2.2 = some (132, (.iload_n 1), 1, 0, 0) := by decide +kernel
theorem f324_133 : aF 133 zM324.2.2.2.2.2.2.2 = some (133, .imul, 1, 0, 0) := by decide +kernel
theorem f324_134 : aF 134 zM324.2.2.2.2.2.2.2 = some (134, (.iload_n 2), 1, 0, 0) := by decide +kernel
theorem f324_135 : aF 135 zM324.2.2.2.2.2.2.2 = some (135, .iadd, 1, 0, 0) := by decide +kernel
theorem f324_136 : aF 136 zM324.2.2.2.2.2.2.2 = some (136, (.iload 6), 2, 0, 0) := by decide +kernel
theorem f324_138 : aF 138 zM324.2.2.2.2.2.2.2 = some (138, .iadd, 1, 0, 0) := by decide +kernel
theorem f324_139 : aF 139 zM324.2.2.2.2.2.2.2 = some (139, .laload, 1, 0, 0) := by decide +kernel
theorem f324_140 : aF 140 zM324.2.2.2.2.2.2.2 = some (140, .lastore, 1, 0, 0) := by decide +kernel
theorem f324_141 : aF 141 zM324.2.2.2.2.2.2.2 = some (141, (.iinc 6 1), 3, 0, 0) := by decide +kernel
theorem f324_144 : aF 144 zM324.2.2.2.2.2.2.2 = some (144, (.goto (-31)), 3, 113, 0) := by decide +kernel
theorem f324_147 : aF 147 zM324.2.2.2.2.2.2.2 = some (147, (.iconst 0), 1, 0, 0) := by decide +kernel
theorem f324_148 : aF 148 zM324.2.2.2.2.2.2.2 = some (148, (.istore 6), 2, 0, 0) := by decide +kernel
theorem f324_150 : aF 150 zM324.2.2.2.2.2.2.2 = some (150, (.iload 6), 2, 0, 0) := by decide +kernel
theorem f324_152 : aF 152 zM324.2.2.2.2.2.2.2 = some (152, (.iload 5), 2, 0, 0) := by decide +kernel
theorem f324_154 : aF 154 zM324.2.2.2.2.2.2.2 = some (154, (.if_icmp .ge 31), 3, 185, 0) := by decide +kernel
theorem f324_157 : aF 157 zM324.2.2.2.2.2.2.2 = some (157, (.aload_n 0), 1, 0, 0) := by decide +kernel
theorem f324_158 : aF 158 zM324.2.2.2.2.2.2.2 = some (158, (.getfield 249), 3, 12, 99) := by decide +kernel
theorem f324_161 : aF 161 zM324.2.2.2.2.2.2.2 = some (161, (.bipush 60), 2, 0, 0) := by decide +kernel
theorem f324_163 : aF 163 zM324.2.2.2.2.2.2.2 = some (163, (.iload_n 3), 1, 0, 0) := by decide +kernel
theorem f324_164 : aF 164 zM324.2.2.2.2.2.2.2 = some (164, .imul, 1, 0, 0) := by decide +kernel
theorem f324_165 : aF 165 zM324.2.2.2.2.2.2.2 = some (165, (.iload 4), 2, 0, 0) := by decide +kernel
theorem f324_167 : aF 167 zM324.2.2.2.2.2.2.2 = some (167, .iadd, 1, 0, 0) := by decide +kernel
theorem f324_168 : aF 168 zM324.2.2.2.2.2.2.2 = some (168, (.iload 6), 2, 0, 0) := by decide +kernel
theorem f324_170 : aF 170 zM324.2.2.2.2.2.2.2 = some (170, .iadd, 1, 0, 0) := by decide +kernel
theorem f324_171 : aF 171 zM324.2.2.2.2.2.2.2 = some (171, (.aload_n 0), 1, 0, 0) := by decide +kernel
theorem f324_172 : aF 172 zM324.2.2.2.2.2.2.2 = some (172, (.getfield 252), 3, 12, 100) := by decide +kernel
theorem f324_175 : aF 175 zM324.2.2.2.2.2.2.2 = some (175, (.iload 6), 2, 0, 0) := by decide +kernel
theorem f324_177 : aF 177 zM324.2.2.2.2.2.2.2 = some (177, .laload, 1, 0, 0) := by decide +kernel
theorem f324_178 : aF 178 zM324.2.2.2.2.2.2.2 = some (178, .lastore, 1, 0, 0) := by decide +kernel
theorem f324_179 : aF 179 zM324.2.2.2.2.2.2.2 = some (179, (.iinc 6 1), 3, 0, 0) := by decide +kernel
theorem f324_182 : aF 182 zM324.2.2.2.2.2.2.2 = some (182, (.goto (-32)), 3, 150, 0) := by decide +kernel
theorem f324_185 : aF 185 zM324.2.2.2.2.2.2.2 = some (185, (.iload 5), 2, 0, 0) := by decide +kernel
theorem f324_187 : aF 187 zM324.2.2.2.2.2.2.2 = some (187, .ireturn, 1, 0, 0) := by decide +kernel
theorem in_wp {X : aX} {D : Nat} {h : aH} {x a b : Int32} : Wp X D zM196 (fun v h' => h = h' ∧ ∃ r : Int32, v = some (.int r) ∧ (r.toInt = 0 ∨ r.toInt = 1) ∧ (r.toInt = 1 → a.toInt ≤ x.toInt ∧ x.toInt ≤ b.toInt)) 0 [some (.int x), some (.int a), some (.int b)] [] h := by
  have k14 : Wp X D zM196 (fun v h' => h = h' ∧ ∃ r : Int32, v = some (.int r) ∧ (r.toInt = 0 ∨ r.toInt = 1) ∧ (r.toInt = 1 → a.toInt ≤ x.toInt ∧ x.toInt ≤ b.toInt)) 14 [some (.int x), some (.int a), some (.int b)] [] h :=
    w_iconst f196_14 (fun v hv => wp_end (fun n d => r_zreturn f196_15 rfl (Or.inl (b_i.mpr hv))) ⟨rfl, v, rfl, Or.inl hv, fun q => by omega⟩)
  refine wp1 (fun n d => r_iloadn f196_0 rfl) ?_
  refine wp1 (fun n d => r_iloadn f196_1 rfl) ?_
  refine w_icmp_lt f196_2 (fun _ => k14) (fun e2 => ?_)
  refine wp1 (fun n d => r_iloadn f196_5 rfl) ?_
  refine wp1 (fun n d => r_iloadn f196_6 rfl) ?_
  refine w_icmp_gt f196_7 (fun _ => k14) (fun e7 => ?_)
  refine w_iconst f196_10 (fun v hv => ?_)
  refine wp1 (fun n d => r_goto f196_11) ?_
  exact wp_end (fun n d => r_zreturn f196_15 rfl (Or.inr (b_i.mpr hv))) ⟨rfl, v, rfl, Or.inr hv, fun _ => ⟨by omega, by omega⟩⟩
theorem shelf_wp {X : aX} {h : aH} {x : Int32} : Wp X 1 zM318 (fun v h' => h = h' ∧ ∃ r : Int32, v = some (.int r) ∧ (r.toInt = 0 ∨ r.toInt = 1) ∧ (r.toInt = 1 → 0 ≤ x.toInt ∧ x.toInt ≤ 5)) 0 [some (.int x)] [] h := by
  refine wp1 (fun n d => r_iloadn f318_0 rfl) ?_
  refine w_iconst f318_1 (fun a ha => ?_)
  refine w_iconst f318_2 (fun b hb => ?_)
  refine wp_in (lv := 0) (Y := zM196) (in_wp (x := x) (a := a) (b := b)) (fun n d v h' e => r_stat (as := [.int x, .int a, .int b]) (r := []) f318_3 rfl (show zmt[196]? = some zM196 from rfl) rfl rfl rfl rfl rfl rfl e) (by decide) ?_
  rintro v h' ⟨rfl, r, rfl, h01, hr⟩
  refine wp_end (fun n d => r_zreturn f318_6 rfl (h01.elim (fun q => Or.inl (b_i.mpr q)) (fun q => Or.inr (b_i.mpr q)))) ⟨rfl, r, rfl, h01, fun q => ?_⟩
  have := hr q
  omega
theorem shift_l1 {X : aX} {D : Nat} {σ : List Nat} {W : List (Nat × Nat)} (w1 : cWn W 144 0 = true) (w2 : cWn W 145 0 = true) {Q : Option Value → aH → Prop} {x1 x2 x3 x4 x5 : Int32} (h1 : 0 ≤ x1.toInt) (h1b : x1.toInt ≤ 5) (h2 : 0 ≤ x2.toInt) (h3 : 0 ≤ x3.toInt) (h3b : x3.toInt ≤ 5) (h4 : 0 ≤ x4.toInt) (h5 : 0 ≤ x5.toInt) (h25 : x2.toInt + x5.toInt ≤ 60) (h45 : x4.toInt + x5.toInt ≤ 60) : ∀ (k : Nat) (i : Int32) (h : aH), (x5.toInt - i.toInt).toNat = k → 0 ≤ i.toInt → dI σ h →
    (∀ (i : Int32) (h' : aH), dI σ h' → dG W σ h σ h' → Wp X D zM324 Q 147 [some (.ref 72), some (.int x1), some (.int x2), some (.int x3), some (.int x4), some (.int x5), some (.int i)] [] h') → Wp X D zM324 Q 113 [some (.ref 72), some (.int x1), some (.int x2), some (.int x3), some (.int x4), some (.int x5), some (.int i)] [] h := by
  intro k
  induction k with
  | zero =>
    intro i h hk hi I kq
    refine wp1 (fun n d => r_iload f324_113 rfl) ?_
    refine wp1 (fun n d => r_iload f324_115 rfl) ?_
    exact w_icmp_ge f324_117 (fun e => kq i h I (dG_refl _ _ _)) (fun e => absurd e (by omega))
  | succ k ih =>
    intro i h hk hi I kq
    obtain ⟨fs, c72⟩ := hI_o I (r := 72) (ci := 12) (by decide +kernel)
    have F72_99 := hI_r I c72 (f := 99) (q := 144) (by decide +kernel)
    have F72_100 := hI_r I c72 (f := 100) (q := 145) (by decide +kernel)
    obtain ⟨ge, c144, -⟩ := hI_j I (r := 144) (n := 360) (lo := -9223372036854775808) (hi := 9223372036854775807) (by decide +kernel)
    obtain ⟨gt, c145, -⟩ := hI_j I (r := 145) (n := 60) (lo := -9223372036854775808) (hi := 9223372036854775807) (by decide +kernel)
    refine wp1 (fun n d => r_iload f324_113 rfl) ?_
    refine wp1 (fun n d => r_iload f324_115 rfl) ?_
    refine w_icmp_ge f324_117 (fun e => kq i h I (dG_refl _ _ _)) (fun e => ?_)
    refine wp1 (fun n d => r_aloadn f324_120 rfl) ?_
    refine w_get f324_121 c72 F72_100 ?_
    refine wp1 (fun n d => r_iload f324_124 rfl) ?_
    refine wp1 (fun n d => r_aloadn f324_126 rfl) ?_
    refine w_get f324_127 c72 F72_99 ?_
    refine w_bipush f324_130 (fun v130 hv130 => ?_)
    refine wp1 (fun n d => r_iloadn f324_132 rfl) ?_
    refine w_imul f324_133 (by rw [hv130]; omega) (by rw [hv130]; omega) (fun v133 hv133 => ?_)
    rw [hv130] at hv133
    refine wp1 (fun n d => r_iloadn f324_134 rfl) ?_
    refine w_iadd f324_135 (by omega) (by omega) (fun v135 hv135 => ?_)
    refine wp1 (fun n d => r_iload f324_136 rfl) ?_
    refine w_iadd f324_138 (by omega) (by omega) (fun v138 hv138 => ?_)
    refine w_lald f324_139 c144 (by omega) (by omega) (fun v139 hv139 => ?_)
    refine w_last f324_140 c145 (by omega) (by omega) ?_
    have hs := hI_l I (W := W) (r := 145) (n := 60) (by decide +kernel) w2 (by omega) (g' := vp_updL gt i.toInt.toNat v139) c145
    refine w_iinc f324_141 rfl (by omega) (by omega) (fun v141 hv141 => ?_)
    show Wp _ _ _ _ 144 [some (.ref 72), some (.int x1), some (.int x2), some (.int x3), some (.int x4), some (.int x5), some (.int v141)] _ _
    refine wp1 (fun n d => r_goto f324_144) ?_
    exact ih _ _ (by omega) (by omega) hs.1 (fun i' h' I' G' => kq i' h' I' (dG_trans hs.2 G'))
theorem shift_l2 {X : aX} {D : Nat} {σ : List Nat} {W : List (Nat × Nat)} (w1 : cWn W 144 0 = true) (w2 : cWn W 145 0 = true) {Q : Option Value → aH → Prop} {x1 x2 x3 x4 x5 : Int32} (h1 : 0 ≤ x1.toInt) (h1b : x1.toInt ≤ 5) (h2 : 0 ≤ x2.toInt) (h3 : 0 ≤ x3.toInt) (h3b : x3.toInt ≤ 5) (h4 : 0 ≤ x4.toInt) (h5 : 0 ≤ x5.toInt) (h25 : x2.toInt + x5.toInt ≤ 60) (h45 : x4.toInt + x5.toInt ≤ 60) : ∀ (k : Nat) (i : Int32) (h : aH), (x5.toInt - i.toInt).toNat = k → 0 ≤ i.toInt → dI σ h →
    (∀ (i : Int32) (h' : aH), dI σ h' → dG W σ h σ h' → Wp X D zM324 Q 185 [some (.ref 72), some (.int x1), some (.int x2), some (.int x3), some (.int x4), some (.int x5), some (.int i)] [] h') → Wp X D zM324 Q 150 [some (.ref 72), some (.int x1), some (.int x2), some (.int x3), some (.int x4), some (.int x5), some (.int i)] [] h := by
  intro k
  induction k with
  | zero =>
    intro i h hk hi I kq
    refine wp1 (fun n d => r_iload f324_150 rfl) ?_
    refine wp1 (fun n d => r_iload f324_152 rfl) ?_
    exact w_icmp_ge f324_154 (fun e => kq i h I (dG_refl _ _ _)) (fun e => absurd e (by omega))
  | succ k ih =>
    intro i h hk hi I kq
    obtain ⟨fs, c72⟩ := hI_o I (r := 72) (ci := 12) (by decide +kernel)
    have F72_99 := hI_r I c72 (f := 99) (q := 144) (by decide +kernel)
    have F72_100 := hI_r I c72 (f := 100) (q := 145) (by decide +kernel)
    obtain ⟨ge, c144, -⟩ := hI_j I (r := 144) (n := 360) (lo := -9223372036854775808) (hi := 9223372036854775807) (by decide +kernel)
    obtain ⟨gt, c145, -⟩ := hI_j I (r := 145) (n := 60) (lo := -9223372036854775808) (hi := 9223372036854775807) (by decide +kernel)
    refine wp1 (fun n d => r_iload f324_150 rfl) ?_
    refine wp1 (fun n d => r_iload f324_152 rfl) ?_
    refine w_icmp_ge f324_154 (fun e => kq i h I (dG_refl _ _ _)) (fun e => ?_)
    refine wp1 (fun n d => r_aloadn f324_157 rfl) ?_
    refine w_get f324_158 c72 F72_99 ?_
    refine w_bipush f324_161 (fun v161 hv161 => ?_)
    refine wp1 (fun n d => r_iloadn f324_163 rfl) ?_
    refine w_imul f324_164 (by rw [hv161]; omega) (by rw [hv161]; omega) (fun v164 hv164 => ?_)
    rw [hv161] at hv164
    refine wp1 (fun n d => r_iload f324_165 rfl) ?_
    refine w_iadd f324_167 (by omega) (by omega) (fun v167 hv167 => ?_)
    refine wp1 (fun n d => r_iload f324_168 rfl) ?_
    refine w_iadd f324_170 (by omega) (by omega) (fun v170 hv170 => ?_)
    refine wp1 (fun n d => r_aloadn f324_171 rfl) ?_
    refine w_get f324_172 c72 F72_100 ?_
    refine wp1 (fun n d => r_iload f324_175 rfl) ?_
    refine w_lald f324_177 c145 (by omega) (by omega) (fun v177 hv177 => ?_)
    refine w_last f324_178 c144 (by omega) (by omega) ?_
    have hs := hI_l I (W := W) (r := 144) (n := 360) (by decide +kernel) w1 (by omega) (g' := vp_updL ge v170.toInt.toNat v177) c144
    refine w_iinc f324_179 rfl (by omega) (by omega) (fun v179 hv179 => ?_)
    show Wp _ _ _ _ 182 [some (.ref 72), some (.int x1), some (.int x2), some (.int x3), some (.int x4), some (.int x5), some (.int v179)] _ _
    refine wp1 (fun n d => r_goto f324_182) ?_
    exact ih _ _ (by omega) (by omega) hs.1 (fun i' h' I' G' => kq i' h' I' (dG_trans hs.2 G'))
theorem hand_293 {X : aX} : dGood X cC293 := by
  intro M hM l h σ ρ rh I K L
  have hM0 : zmt[324]? = some zM324 := rfl
  cases (show zmt[324]? = some M from hM).symm.trans hM0
  have a0 := dL_r L (i := 0) (c := 72) (o := 0) rfl (by decide)
  obtain ⟨x1, a1, b1, b1'⟩ := hL_i L K.1 (i := 1) (p := 1) (o := 0) (lo := -2147483648) (hi := 2147483647) rfl rfl
  obtain ⟨x2, a2, b2, b2'⟩ := hL_i L K.1 (i := 2) (p := 2) (o := 0) (lo := -2147483648) (hi := 2147483647) rfl rfl
  obtain ⟨x3, a3, b3, b3'⟩ := hL_i L K.1 (i := 3) (p := 3) (o := 0) (lo := -2147483648) (hi := 2147483647) rfl rfl
  obtain ⟨x4, a4, b4, b4'⟩ := hL_i L K.1 (i := 4) (p := 4) (o := 0) (lo := -2147483648) (hi := 2147483647) rfl rfl
  obtain ⟨x5, a5, b5, b5'⟩ := hL_i L K.1 (i := 5) (p := 5) (o := 0) (lo := -2147483648) (hi := 2147483647) rfl rfl
  obtain ⟨u0, l1, rfl, e1⟩ := hcons (show l.length = 7 from L.1)
  obtain ⟨u1, l2, rfl, e2⟩ := hcons e1
  obtain ⟨u2, l3, rfl, e3⟩ := hcons e2
  obtain ⟨u3, l4, rfl, e4⟩ := hcons e3
  obtain ⟨u4, l5, rfl, e5⟩ := hcons e4
  obtain ⟨u5, l6, rfl, e6⟩ := hcons e5
  obtain ⟨u6, l7, rfl, e7⟩ := hcons e6
  cases hnil e7
  cases Option.some.inj a0
  cases Option.some.inj a1
  cases Option.some.inj a2
  cases Option.some.inj a3
  cases Option.some.inj a4
  cases Option.some.inj a5
  obtain ⟨fs, c72⟩ := hI_o I (r := 72) (ci := 12) (by decide +kernel)
  have F72_97 := hI_r I c72 (f := 97) (q := 142) (by decide +kernel)
  have F72_98 := hI_r I c72 (f := 98) (q := 143) (by decide +kernel)
  obtain ⟨gs, c142, r142⟩ := hI_a I (r := 142) (a := 0) (n := 6) (lo := -6) (hi := 149) (by decide +kernel)
  obtain ⟨gh, c143, r143⟩ := hI_a I (r := 143) (a := 0) (n := 6) (lo := 0) (hi := 60) (by decide +kernel)
  have fin : ∀ (x : Int32) (h' : aH), dI σ h' → dG [(144, 0), (145, 0)] σ h σ h' → hQ cC293 σ h (some (.int x)) h' := fun x h' I' G' => ⟨σ, I', G', _, List.mem_cons_self, post_i I'.1 (iR x).1 (iR x).2⟩
  have fin0 : ∀ x : Int32, hQ cC293 σ h (some (.int x)) h := fun x => fin x h I (dG_refl _ _ _)
  refine hEnd ?_
  have k14 : Wp X 30 zM324 (hQ cC293 σ h) 14 [some (.ref 72), some (.int x1), some (.int x2), some (.int x3), some (.int x4), some (.int x5), u6] [] h := w_iconst f324_14 (fun v _ => wp_end (fun n d => r_ireturn f324_15 rfl) (fin0 v))
  have k36 : Wp X 30 zM324 (hQ cC293 σ h) 36 [some (.ref 72), some (.int x1), some (.int x2), some (.int x3), some (.int x4), some (.int x5), u6] [] h := w_bipush f324_36 (fun v _ => wp_end (fun n d => r_ireturn f324_38 rfl) (fin0 v))
  have k63 : Wp X 30 zM324 (hQ cC293 σ h) 63 [some (.ref 72), some (.int x1), some (.int x2), some (.int x3), some (.int x4), some (.int x5), u6] [] h := w_bipush f324_63 (fun v _ => wp_end (fun n d => r_ireturn f324_65 rfl) (fin0 v))
  have k107 : Wp X 30 zM324 (hQ cC293 σ h) 107 [some (.ref 72), some (.int x1), some (.int x2), some (.int x3), some (.int x4), some (.int x5), u6] [] h := w_bipush f324_107 (fun v _ => wp_end (fun n d => r_ireturn f324_109 rfl) (fin0 v))
  refine wp1 (fun n d => r_iloadn f324_0 rfl) ?_
  refine wp_in (lv := 1) (Y := zM318) (shelf_wp (x := x1)) (fun n d v h' e => r_stat (as := [.int x1]) (r := []) f324_1 rfl (show zmt[318]? = some zM318 from rfl) rfl rfl rfl rfl rfl rfl e) (by decide) ?_
  rintro v h' ⟨rfl, r1, rfl, z1, hr1⟩
  refine w_if_eq f324_4 (fun _ => k14) (fun e4 => ?_)
  refine wp1 (fun n d => r_iloadn f324_7 rfl) ?_
  refine wp_in (lv := 1) (Y := zM318) (shelf_wp (x := x3)) (fun n d v h' e => r_stat (as := [.int x3]) (r := []) f324_8 rfl (show zmt[318]? = some zM318 from rfl) rfl rfl rfl rfl rfl rfl e) (by decide) ?_
  rintro v h' ⟨rfl, r3, rfl, z3, hr3⟩
  refine w_if_ne f324_11 (fun e11 => ?_) (fun _ => k14)
  have B1 := hr1 (by omega)
  have B3 := hr3 (by omega)
  have R1 := r143 x1.toInt.toNat (by omega)
  have R3 := r143 x3.toInt.toNat (by omega)
  refine wp1 (fun n d => r_aloadn f324_16 rfl) ?_
  refine w_get f324_17 c72 F72_97 ?_
  refine wp1 (fun n d => r_iloadn f324_20 rfl) ?_
  refine w_iald f324_21 c142 (by omega) (by omega) (fun v21 hv21 => ?_)
  have g21 := congrArg Int32.toInt hv21
  refine w_iconst f324_22 (fun v22 hv22 => ?_)
  refine w_icmp_eq f324_23 (fun _ => k36) (fun e23 => ?_)
  refine wp1 (fun n d => r_aloadn f324_26 rfl) ?_
  refine w_get f324_27 c72 F72_97 ?_
  refine wp1 (fun n d => r_iloadn f324_30 rfl) ?_
  refine w_iald f324_31 c142 (by omega) (by omega) (fun v31 hv31 => ?_)
  have g31 := congrArg Int32.toInt hv31
  refine w_iconst f324_32 (fun v32 hv32 => ?_)
  refine w_icmp_ne f324_33 (fun e33 => ?_) (fun _ => k36)
  refine wp1 (fun n d => r_aloadn f324_39 rfl) ?_
  refine w_get f324_40 c72 F72_97 ?_
  refine wp1 (fun n d => r_iloadn f324_43 rfl) ?_
  refine w_iald f324_44 c142 (by omega) (by omega) (fun v44 hv44 => ?_)
  have g44 := congrArg Int32.toInt hv44
  refine w_if_ge f324_45 (fun _ => k63) (fun e45 => ?_)
  refine wp1 (fun n d => r_aloadn f324_48 rfl) ?_
  refine w_get f324_49 c72 F72_97 ?_
  refine wp1 (fun n d => r_iloadn f324_52 rfl) ?_
  refine w_iald f324_53 c142 (by omega) (by omega) (fun v53 hv53 => ?_)
  have g53 := congrArg Int32.toInt hv53
  refine wp1 (fun n d => r_aloadn f324_54 rfl) ?_
  refine w_get f324_55 c72 F72_97 ?_
  refine wp1 (fun n d => r_iloadn f324_58 rfl) ?_
  refine w_iald f324_59 c142 (by omega) (by omega) (fun v59 hv59 => ?_)
  have g59 := congrArg Int32.toInt hv59
  refine w_icmp_eq f324_60 (fun e60 => ?_) (fun _ => k63)
  refine wp1 (fun n d => r_iload f324_66 rfl) ?_
  refine w_if_lt f324_68 (fun _ => k107) (fun e68 => ?_)
  refine wp1 (fun n d => r_iloadn f324_71 rfl) ?_
  refine w_if_lt f324_72 (fun _ => k107) (fun e72 => ?_)
  refine wp1 (fun n d => r_iload f324_75 rfl) ?_
  refine w_if_lt f324_77 (fun _ => k107) (fun e77 => ?_)
  refine wp1 (fun n d => r_iloadn f324_80 rfl) ?_
  refine wp1 (fun n d => r_aloadn f324_81 rfl) ?_
  refine w_get f324_82 c72 F72_98 ?_
  refine wp1 (fun n d => r_iloadn f324_85 rfl) ?_
  refine w_iald f324_86 c143 (by omega) (by omega) (fun v86 hv86 => ?_)
  have g86 := congrArg Int32.toInt hv86
  refine wp1 (fun n d => r_iload f324_87 rfl) ?_
  refine w_isub f324_89 (by omega) (by omega) (fun v89 hv89 => ?_)
  refine w_icmp_gt f324_90 (fun _ => k107) (fun e90 => ?_)
  refine wp1 (fun n d => r_iload f324_93 rfl) ?_
  refine wp1 (fun n d => r_aloadn f324_95 rfl) ?_
  refine w_get f324_96 c72 F72_98 ?_
  refine wp1 (fun n d => r_iloadn f324_99 rfl) ?_
  refine w_iald f324_100 c143 (by omega) (by omega) (fun v100 hv100 => ?_)
  have g100 := congrArg Int32.toInt hv100
  refine wp1 (fun n d => r_iload f324_101 rfl) ?_
  refine w_isub f324_103 (by omega) (by omega) (fun v103 hv103 => ?_)
  refine w_icmp_le f324_104 (fun e104 => ?_) (fun _ => k107)
  refine w_iconst f324_110 (fun v110 hv110 => ?_)
  refine wp1 (fun n d => r_istore (L' := [some (.ref 72), some (.int x1), some (.int x2), some (.int x3), some (.int x4), some (.int x5), some (.int v110)]) f324_111 rfl rfl) ?_
  refine shift_l1 (W := [(144, 0), (145, 0)]) rfl rfl (by omega) (by omega) (by omega) (by omega) (by omega) (by omega) (by omega) (by omega) (by omega) _ v110 h rfl (by omega) I (fun i h1 I1 G1 => ?_)
  refine w_iconst f324_147 (fun v147 hv147 => ?_)
  refine wp1 (fun n d => r_istore (L' := [some (.ref 72), some (.int x1), some (.int x2), some (.int x3), some (.int x4), some (.int x5), some (.int v147)]) f324_148 rfl rfl) ?_
  refine shift_l2 (W := [(144, 0), (145, 0)]) rfl rfl (by omega) (by omega) (by omega) (by omega) (by omega) (by omega) (by omega) (by omega) (by omega) _ v147 h1 rfl (by omega) I1 (fun i h2 I2 G2 => ?_)
  refine wp1 (fun n d => r_iload f324_185 rfl) ?_
  exact wp_end (fun n d => r_ireturn f324_187 rfl) (fin x5 h2 I2 (dG_trans G1 G2))
end
section
-- ===== by hand: a field written; counts; small callees of the reference =====
theorem hI_f {σ : List Nat} {h : aH} (I : dI σ h) {W : List (Nat × Nat)} {r ci b : Nat} {lo hi : Int} {fs : List Value} {x : Int32} (c : h.1[r]? = some (.inr (ci, fs))) (k : tkI r b lo hi = true) (hJ : cJs r b = false) (hW : cWn W r b = true) (h1 : lo ≤ x.toInt) (h2 : x.toInt ≤ hi) :
    Nat.blt b fs.length = true ∧ dI σ (h.1.set r (.inr (ci, fs.set b (.int x))), h.2) ∧ dG W σ h σ (h.1.set r (.inr (ci, fs.set b (.int x))), h.2) := by
  unfold tkI at k
  split at k
  · rename_i t e
    rw [Bool.and_eq_true, Bool.and_eq_true, Nat.blt_eq] at k
    obtain ⟨⟨k1, k2⟩, k3⟩ := k
    obtain ⟨fs', a, al, a3⟩ := dI_o I k2 e (Nat.eq_of_beq_eq_true k1)
    rw [c] at a
    cases a
    split at k3
    · rename_i ty ety
      simp only [Bool.and_eq_true, ceI_i] at k3
      have hv : dT σ ty (.int x) := by
        unfold dT
        rw [Nat.eq_of_beq_eq_true k3.1.1]
        exact ⟨x, rfl, by omega, by omega⟩
      have hl : b < fs.length := by rw [al]; exact (List.getElem?_eq_some_iff.mp ety).1
      exact ⟨by rw [Nat.blt_eq]; exact hl, dI_obj I (W := W) (I.1.2.2.2 r k2) e (Nat.eq_of_beq_eq_true k1) c ety hv hJ hW⟩
    · cases k3
  · cases k
def cntN (g : Nat → Int32) : Nat → Nat
  | 0 => 0
  | n + 1 => cntN g n + (if (g n).toInt = 0 then 0 else 1)
theorem cntN_le (g : Nat → Int32) : ∀ n, cntN g n ≤ n
  | 0 => Nat.le_refl _
  | n + 1 => by
    have := cntN_le g n
    show cntN g n + (if (g n).toInt = 0 then 0 else 1) ≤ n + 1
    split <;> omega
theorem cntN_congr {g g' : Nat → Int32} : ∀ n, (∀ j, j < n → g j = g' j) → cntN g n = cntN g' n
  | 0, _ => rfl
  | n + 1, h => by
    show cntN g n + (if (g n).toInt = 0 then 0 else 1) = cntN g' n + (if (g' n).toInt = 0 then 0 else 1)
    rw [cntN_congr n (fun j hj => h j (by omega)), h n (by omega)]
theorem cntN_mono (g : Nat → Int32) : ∀ n m, n ≤ m → cntN g n ≤ cntN g m
  | n, 0, h => by rw [Nat.le_zero.mp h]; exact Nat.le_refl _
  | n, m + 1, h => by
    rcases Nat.lt_or_ge m n with q | q
    · rw [show n = m + 1 by omega]; exact Nat.le_refl _
    · have := cntN_mono g n m q
      show cntN g n ≤ cntN g m + (if (g m).toInt = 0 then 0 else 1)
      omega
theorem cntN_upd (g : Nat → Int32) (k : Nat) (x : Int32) (hx : x.toInt = 0) (hk : (g k).toInt ≠ 0) : ∀ n, k < n → cntN (upd g k x) n + 1 = cntN g n
  | 0, h => by omega
  | n + 1, h => by
    show cntN (upd g k x) n + (if (upd g k x n).toInt = 0 then 0 else 1) + 1 = cntN g n + (if (g n).toInt = 0 then 0 else 1)
    by_cases e : k = n
    · subst e
      have e1 : upd g k x k = x := by unfold upd; rw [if_pos rfl]
      rw [e1, if_pos hx, if_neg hk, cntN_congr k (g := upd g k x) (g' := g) (fun j hj => by unfold upd; rw [if_neg (by omega)])]
    · have e1 : upd g k x n = g n := by unfold upd; rw [if_neg (fun q => e q.symm)]
      have := cntN_upd g k x hx hk n (by omega)
      rw [e1]
      omega
end
section
-- ===== by hand: draw (the first search) =====
theorem f292_152 : aF 152 zM292.2.2.2.2.2.2.2 = some (152, (.iload 8), 2, 0, 0) := by decide +kernel
theorem f292_154 : aF 154 zM292.2.2.2.2.2.2.2 = some (154, (.aload_n 0), 1, 0, 0) := by decide +kernel
theorem f292_155 : aF 155 zM292.2.2.2.2.2.2.2 = some (155, (.getfield 265), 3, 12, 2) := by decide +kernel
theorem f292_158 : aF 158 zM292.2.2.2.2.2.2.2 = some (158, (.if_icmp .ge 45), 3, 203, 0) := by decide +kernel
theorem f292_161 : aF 161 zM292.2.2.2.2.2.2.2 = some (161, (.aload_n 0), 1, 0, 0) := by decide +kernel
theorem f292_162 : aF 162 zM292.2.2.2.2.2.2.2 = some (162, (.getfield 219), 3, 12, 86) := by decide +kernel
theorem f292_165 : aF 165 zM292.2.2.2.2.2.2.2 = some (165, (.iload 8), 2, 0, 0) := by decide +kernel
theorem f292_167 : aF 167 zM292.2.2.2.2.2.2.2 = some (167, .baload, 1, 0, 0) := by decide +kernel
theorem f292_168 : aF 168 zM292.2.2.2.2.2.2.2 = some (168, (.ifCond .eq 29), 3, 197, 0) := by decide +kernel
theorem f292_171 : aF 171 zM292.2.2.2.2.2.2.2 = some (171, (.iload 7), 2, 0, 0) := by decide +kernel
theorem f292_173 : aF 173 zM292.2.2.2.2.2.2.2 = some (173, (.ifCond .lt 20), 3, 193, 0) := by decide +kernel
theorem f292_176 : aF 176 zM292.2.2.2.2.2.2.2 = some (176, (.aload_n 0), 1, 0, 0) := by decide +kernel
theorem f292_177 : aF 177 zM292.2.2.2.2.2.2.2 = some (177, (.iload 8), 2, 0, 0) := by decide +kernel
theorem f292_179 : aF 179 zM292.2.2.2.2.2.2.2 = some (179, (.iload_n 2), 1, 0, 0) := by decide +kernel
theorem f292_180 : aF 180 zM292.2.2.2.2.2.2.2 = some (180, (.invokevirtual 532), 3, 293, 0) := by decide +kernel
theorem f292_183 : aF 183 zM292.2.2.2.2.2.2.2 = some (183, (.aload_n 0), 1, 0, 0) := by decide +kernel
theorem f292_184 : aF 184 zM292.2.2.2.2.2.2.2 = some (184, (.iload 7), 2, 0, 0) := by decide +kernel
theorem f292_186 : aF 186 zM292.2.2.2.2.2.2.2 = some (186, (.iload_n 2), 1, 0, 0) := by decide +kernel
theorem f292_187 : aF 187 zM292.2.2.2.2.2.2.2 = some (187, (.invokevirtual 532), 3, 293, 0) := by decide +kernel
theorem f292_190 : aF 190 zM292.2.2.2.2.2.2.2 = some (190, (.if_icmp .le 7), 3, 197, 0) := by decide +kernel
theorem f292_193 : aF 193 zM292.2.2.2.2.2.2.2 = some (193, (.iload 8), 2, 0, 0) := by decide +kernel
theorem f292_195 : aF 195 zM292.2.2.2.2.2.2.2 = some (195, (.istore 7), 2, 0, 0) := by decide +kernel
theorem f292_197 : aF 197 zM292.2.2.2.2.2.2.2 = some (197, (.iinc 8 1), 3, 0, 0) := by decide +kernel
theorem f292_200 : aF 200 zM292.2.2.2.2.2.2.2 = some (200, (.goto (-48)), 3, 152, 0) := by decide +kernel
theorem risk_call {X : aX} {D : Nat} (G : dGood X cC305) {Q : Option Value → aH → Prop} {x2 b : Int32} {l : aL} {r : List Value} {pc : Nat} {σ : List Nat} {h : aH} {fs : List Value} (hf : aF pc zM292.2.2.2.2.2.2.2 = some (pc, (.invokevirtual 532), 3, 293, 0)) (c72 : h.1[72]? = some (.inr (12, fs))) (I : dI σ h) (b0 : 0 ≤ b.toInt) (b1 : b.toInt ≤ 149) (y0 : 0 ≤ x2.toInt) (y1 : x2.toInt ≤ 9) (h8 : Nat.ble (aws r) 8 = true) (hd : 3 + 1 ≤ D)
    (k : ∀ (v : Int32) (h1 : aH) (σ1 : List Nat), dI σ1 h1 → dG [] σ h σ1 h1 → Wp X D zM292 Q (pc + 3) l (.int v :: r) h1) : Wp X D zM292 Q pc l (.int x2 :: .int b :: .ref 72 :: r) h := by
  refine wp_good G (Y := zM293) (show zmt[293]? = some zM293 from rfl) I (ρ := [0, b.toInt, x2.toInt]) (dK_v (kV_of rfl ⟨⟨by decide, by decide⟩, ⟨b0, b1⟩, ⟨y0, y1⟩, trivial⟩)) (dL_of (l := [some (.ref 72), some (.int b), some (.int x2)]) ⟨lw_r (by decide), lw_i rfl, lw_i rfl, trivial⟩) (fun n d v h' e => r_virt (as := [.int b, .int x2]) (r := r) hf c72 (show zmt[293]? = some zM293 from rfl) rfl rfl rfl rfl h8 rfl e) hd (fun v h1 σ1 I1 G1 P1 => ?_)
  obtain ⟨x, rfl, -, -⟩ := rpost_i P1 rfl
  exact k x h1 σ1 I1 G1
theorem drawA {X : aX} {D : Nat} (G : dGood X cC305) (hD : 4 ≤ D) {Q : Option Value → aH → Prop} {x1 x2 x3 x4 x5 x6 nb : Int32} {u9 : Option Value} {g : Nat → Int32} (y0 : 0 ≤ x2.toInt) (y1 : x2.toInt ≤ 9) (n0 : 0 ≤ nb.toInt) (n1 : nb.toInt ≤ 150) : ∀ (k : Nat) (x7 x8 : Int32) (σ : List Nat) (h : aH) (fs : List Value), (nb.toInt - x8.toInt).toNat = k → 0 ≤ x8.toInt → x8.toInt ≤ nb.toInt → dI σ h → h.1[135]? = some (.inl (2, 150, .inl g)) → h.1[72]? = some (.inr (12, fs)) → fs[2]? = some (.int nb) → fs[86]? = some (.ref 135) → (x7.toInt = -1 ∧ cntN g x8.toInt.toNat = 0 ∨ 0 ≤ x7.toInt ∧ x7.toInt.toNat < x8.toInt.toNat ∧ (g x7.toInt.toNat).toInt ≠ 0) →
    (∀ (σ' : List Nat) (h' : aH) (x7' x8' : Int32), dI σ' h' → dG [] σ h σ' h' → (x7'.toInt = -1 ∧ cntN g nb.toInt.toNat = 0 ∨ 0 ≤ x7'.toInt ∧ x7'.toInt.toNat < nb.toInt.toNat ∧ (g x7'.toInt.toNat).toInt ≠ 0) → Wp X D zM292 Q 203 [some (.ref 72), some (.int x1), some (.int x2), some (.int x3), some (.int x4), some (.int x5), some (.int x6), some (.int x7'), some (.int x8'), u9] [] h') → Wp X D zM292 Q 152 [some (.ref 72), some (.int x1), some (.int x2), some (.int x3), some (.int x4), some (.int x5), some (.int x6), some (.int x7), some (.int x8), u9] [] h := by
  intro k
  induction k with
  | zero =>
    intro x7 x8 σ h fs hk a0 a1 I c135 c72 F72_2 F72_86 inv kq
    refine wp1 (fun n d => r_iload f292_152 rfl) ?_
    refine wp1 (fun n d => r_aloadn f292_154 rfl) ?_
    refine w_get f292_155 c72 F72_2 ?_
    refine w_icmp_ge f292_158 (fun e => kq σ h x7 x8 I (dG_refl _ _ _) ?_) (fun e => absurd e (by omega))
    rw [show nb.toInt.toNat = x8.toInt.toNat by omega]
    exact inv
  | succ k ih =>
    intro x7 x8 σ h fs hk a0 a1 I c135 c72 F72_2 F72_86 inv kq
    refine wp1 (fun n d => r_iload f292_152 rfl) ?_
    refine wp1 (fun n d => r_aloadn f292_154 rfl) ?_
    refine w_get f292_155 c72 F72_2 ?_
    refine w_icmp_ge f292_158 (fun e => absurd e (by omega)) (fun e => ?_)
    have hs : x8.toInt.toNat + 1 = (x8.toInt + 1).toNat := by omega
    have hc : cntN g (x8.toInt.toNat + 1) = cntN g x8.toInt.toNat + (if (g x8.toInt.toNat).toInt = 0 then 0 else 1) := rfl
    have k197 : ∀ (σ1 : List Nat) (h1 : aH) (x7' : Int32), dI σ1 h1 → dG [] σ h σ1 h1 → (x7'.toInt = -1 ∧ cntN g (x8.toInt.toNat + 1) = 0 ∨ 0 ≤ x7'.toInt ∧ x7'.toInt.toNat < (x8.toInt.toNat + 1) ∧ (g x7'.toInt.toNat).toInt ≠ 0) → Wp X D zM292 Q 197 [some (.ref 72), some (.int x1), some (.int x2), some (.int x3), some (.int x4), some (.int x5), some (.int x6), some (.int x7'), some (.int x8), u9] [] h1 := by
      intro σ1 h1 x7' I1 G1 inv1
      obtain ⟨fs1, d72, dfs⟩ := dG_o I.1 G1 c72 (by decide)
      have d135 := dG_a I.1 G1 c135 (by decide) rfl
      refine w_iinc f292_197 rfl (by omega) (by omega) (fun v197 hv197 => ?_)
      show Wp _ _ _ _ 200 [some (.ref 72), some (.int x1), some (.int x2), some (.int x3), some (.int x4), some (.int x5), some (.int x6), some (.int x7'), some (.int v197), u9] _ _
      refine wp1 (fun n d => r_goto f292_200) ?_
      have e1 : v197.toInt.toNat = x8.toInt.toNat + 1 := by omega
      exact ih x7' v197 σ1 h1 fs1 (by omega) (by omega) (by omega) I1 d135 d72 ((dfs 2 rfl).trans F72_2) ((dfs 86 rfl).trans F72_86) (by rw [e1]; exact inv1) (fun σ' h' y7 y8 I' G' inv' => kq σ' h' y7 y8 I' (dG_trans G1 G') inv')
    refine wp1 (fun n d => r_aloadn f292_161 rfl) ?_
    refine w_get f292_162 c72 F72_86 ?_
    refine wp1 (fun n d => r_iload f292_165 rfl) ?_
    refine w_zald f292_167 c135 (by omega) (by omega) (fun v167 hv167 => ?_)
    refine w_if_eq f292_168 (fun e2 => k197 σ h x7 I (dG_refl _ _ _) ?_) (fun e2 => ?_)
    · rw [hv167] at e2
      rcases inv with ⟨i1, i2⟩ | ⟨i1, i2, i3⟩
      · exact Or.inl ⟨i1, by rw [hc, i2, if_pos e2]⟩
      · exact Or.inr ⟨i1, by omega, i3⟩
    rw [hv167] at e2
    have k193 : ∀ (σ1 : List Nat) (h1 : aH), dI σ1 h1 → dG [] σ h σ1 h1 → Wp X D zM292 Q 193 [some (.ref 72), some (.int x1), some (.int x2), some (.int x3), some (.int x4), some (.int x5), some (.int x6), some (.int x7), some (.int x8), u9] [] h1 := by
      intro σ1 h1 I1 G1
      refine wp1 (fun n d => r_iload f292_193 rfl) ?_
      refine wp1 (fun n d => r_istore (L' := [some (.ref 72), some (.int x1), some (.int x2), some (.int x3), some (.int x4), some (.int x5), some (.int x6), some (.int x8), some (.int x8), u9]) f292_195 rfl rfl) ?_
      exact k197 σ1 h1 x8 I1 G1 (Or.inr ⟨a0, by omega, e2⟩)
    refine wp1 (fun n d => r_iload f292_171 rfl) ?_
    refine w_if_lt f292_173 (fun _ => k193 σ h I (dG_refl _ _ _)) (fun e3 => ?_)
    obtain ⟨i1, i2, i3⟩ : 0 ≤ x7.toInt ∧ x7.toInt.toNat < x8.toInt.toNat ∧ (g x7.toInt.toNat).toInt ≠ 0 := by
      rcases inv with ⟨i1, i2⟩ | i
      · omega
      · exact i
    refine wp1 (fun n d => r_aloadn f292_176 rfl) ?_
    refine wp1 (fun n d => r_iload f292_177 rfl) ?_
    refine wp1 (fun n d => r_iloadn f292_179 rfl) ?_
    refine risk_call G f292_180 c72 I (by omega) (by omega) y0 y1 rfl hD (fun v1 h1 σ1 I1 G1 => ?_)
    obtain ⟨fs1, d72, dfs⟩ := dG_o I.1 G1 c72 (by decide)
    refine wp1 (fun n d => r_aloadn f292_183 rfl) ?_
    refine wp1 (fun n d => r_iload f292_184 rfl) ?_
    refine wp1 (fun n d => r_iloadn f292_186 rfl) ?_
    refine risk_call G f292_187 d72 I1 (by omega) (by omega) y0 y1 rfl hD (fun v2 h2 σ2 I2 G2 => ?_)
    refine w_icmp_le f292_190 (fun _ => k197 σ2 h2 x7 I2 (dG_trans G1 G2) (Or.inr ⟨i1, by omega, i3⟩)) (fun _ => k193 σ2 h2 I2 (dG_trans G1 G2))
end
section
-- ===== by hand: draw (the second search) =====
theorem f292_240 : aF 240 zM292.2.2.2.2.2.2.2 = some (240, (.iload 9), 2, 0, 0) := by decide +kernel
theorem f292_242 : aF 242 zM292.2.2.2.2.2.2.2 = some (242, (.aload_n 0), 1, 0, 0) := by decide +kernel
theorem f292_243 : aF 243 zM292.2.2.2.2.2.2.2 = some (243, (.getfield 265), 3, 12, 2) := by decide +kernel
theorem f292_246 : aF 246 zM292.2.2.2.2.2.2.2 = some (246, (.if_icmp .ge 39), 3, 285, 0) := by decide +kernel
theorem f292_249 : aF 249 zM292.2.2.2.2.2.2.2 = some (249, (.iload 7), 2, 0, 0) := by decide +kernel
theorem f292_251 : aF 251 zM292.2.2.2.2.2.2.2 = some (251, (.ifCond .ge 34), 3, 285, 0) := by decide +kernel
theorem f292_254 : aF 254 zM292.2.2.2.2.2.2.2 = some (254, (.aload_n 0), 1, 0, 0) := by decide +kernel
theorem f292_255 : aF 255 zM292.2.2.2.2.2.2.2 = some (255, (.getfield 219), 3, 12, 86) := by decide +kernel
theorem f292_258 : aF 258 zM292.2.2.2.2.2.2.2 = some (258, (.iload 9), 2, 0, 0) := by decide +kernel
theorem f292_260 : aF 260 zM292.2.2.2.2.2.2.2 = some (260, .baload, 1, 0, 0) := by decide +kernel
theorem f292_261 : aF 261 zM292.2.2.2.2.2.2.2 = some (261, (.ifCond .ne 6), 3, 267, 0) := by decide +kernel
theorem f292_264 : aF 264 zM292.2.2.2.2.2.2.2 = some (264, (.goto 15), 3, 279, 0) := by decide +kernel
theorem f292_267 : aF 267 zM292.2.2.2.2.2.2.2 = some (267, (.iload 8), 2, 0, 0) := by decide +kernel
theorem f292_269 : aF 269 zM292.2.2.2.2.2.2.2 = some (269, (.ifCond .ne 7), 3, 276, 0) := by decide +kernel
theorem f292_272 : aF 272 zM292.2.2.2.2.2.2.2 = some (272, (.iload 9), 2, 0, 0) := by decide +kernel
theorem f292_274 : aF 274 zM292.2.2.2.2.2.2.2 = some (274, (.istore 7), 2, 0, 0) := by decide +kernel
theorem f292_276 : aF 276 zM292.2.2.2.2.2.2.2 = some (276, (.iinc 8 (-1)), 3, 0, 0) := by decide +kernel
theorem f292_279 : aF 279 zM292.2.2.2.2.2.2.2 = some (279, (.iinc 9 1), 3, 0, 0) := by decide +kernel
theorem f292_282 : aF 282 zM292.2.2.2.2.2.2.2 = some (282, (.goto (-42)), 3, 240, 0) := by decide +kernel
theorem drawB {X : aX} {D : Nat} {Q : Option Value → aH → Prop} {x1 x2 x3 x4 x5 x6 nb : Int32} {g : Nat → Int32} {σ : List Nat} {h : aH} {fs : List Value} {rr : Int} (n0 : 0 ≤ nb.toInt) (n1 : nb.toInt ≤ 150) (c135 : h.1[135]? = some (.inl (2, 150, .inl g))) (c72 : h.1[72]? = some (.inr (12, fs))) (F72_2 : fs[2]? = some (.int nb)) (F72_86 : fs[86]? = some (.ref 135)) (hr : rr < cntN g nb.toInt.toNat)
    (kq : ∀ (x7' x8' x9' : Int32), 0 ≤ x7'.toInt → x7'.toInt.toNat < nb.toInt.toNat → (g x7'.toInt.toNat).toInt ≠ 0 → Wp X D zM292 Q 285 [some (.ref 72), some (.int x1), some (.int x2), some (.int x3), some (.int x4), some (.int x5), some (.int x6), some (.int x7'), some (.int x8'), some (.int x9')] [] h) : ∀ (k : Nat) (x7 x8 x9 : Int32), (nb.toInt - x9.toInt).toNat = k → 0 ≤ x9.toInt → x9.toInt ≤ nb.toInt →
    (x7.toInt = -1 ∧ 0 ≤ x8.toInt ∧ x8.toInt + cntN g x9.toInt.toNat = rr ∨ 0 ≤ x7.toInt ∧ x7.toInt.toNat < nb.toInt.toNat ∧ (g x7.toInt.toNat).toInt ≠ 0) → Wp X D zM292 Q 240 [some (.ref 72), some (.int x1), some (.int x2), some (.int x3), some (.int x4), some (.int x5), some (.int x6), some (.int x7), some (.int x8), some (.int x9)] [] h := by
  intro k
  induction k with
  | zero =>
    intro x7 x8 x9 hk a0 a1 inv
    refine wp1 (fun n d => r_iload f292_240 rfl) ?_
    refine wp1 (fun n d => r_aloadn f292_242 rfl) ?_
    refine w_get f292_243 c72 F72_2 ?_
    refine w_icmp_ge f292_246 (fun e => ?_) (fun e => absurd e (by omega))
    rcases inv with ⟨i1, i2, i3⟩ | ⟨i1, i2, i3⟩
    · rw [show x9.toInt.toNat = nb.toInt.toNat by omega] at i3
      omega
    · exact kq x7 x8 x9 i1 i2 i3
  | succ k ih =>
    intro x7 x8 x9 hk a0 a1 inv
    have r8 := iR x8
    refine wp1 (fun n d => r_iload f292_240 rfl) ?_
    refine wp1 (fun n d => r_aloadn f292_242 rfl) ?_
    refine w_get f292_243 c72 F72_2 ?_
    refine w_icmp_ge f292_246 (fun e => absurd e (by omega)) (fun e => ?_)
    have hc : cntN g (x9.toInt.toNat + 1) = cntN g x9.toInt.toNat + (if (g x9.toInt.toNat).toInt = 0 then 0 else 1) := rfl
    have k279 : ∀ (x7' x8' : Int32), (x7'.toInt = -1 ∧ 0 ≤ x8'.toInt ∧ x8'.toInt + cntN g (x9.toInt.toNat + 1) = rr ∨ 0 ≤ x7'.toInt ∧ x7'.toInt.toNat < nb.toInt.toNat ∧ (g x7'.toInt.toNat).toInt ≠ 0) → Wp X D zM292 Q 279 [some (.ref 72), some (.int x1), some (.int x2), some (.int x3), some (.int x4), some (.int x5), some (.int x6), some (.int x7'), some (.int x8'), some (.int x9)] [] h := by
      intro x7' x8' inv1
      refine w_iinc f292_279 rfl (by omega) (by omega) (fun v279 hv279 => ?_)
      show Wp _ _ _ _ 282 [some (.ref 72), some (.int x1), some (.int x2), some (.int x3), some (.int x4), some (.int x5), some (.int x6), some (.int x7'), some (.int x8'), some (.int v279)] _ _
      refine wp1 (fun n d => r_goto f292_282) ?_
      have e1 : v279.toInt.toNat = x9.toInt.toNat + 1 := by omega
      exact ih x7' x8' v279 (by omega) (by omega) (by omega) (by rw [e1]; exact inv1)
    refine wp1 (fun n d => r_iload f292_249 rfl) ?_
    rcases inv with ⟨i1, i2, i3⟩ | ⟨i1, i2, i3⟩
    · refine w_if_ge f292_251 (fun e2 => absurd e2 (by omega)) (fun _ => ?_)
      refine wp1 (fun n d => r_aloadn f292_254 rfl) ?_
      refine w_get f292_255 c72 F72_86 ?_
      refine wp1 (fun n d => r_iload f292_258 rfl) ?_
      refine w_zald f292_260 c135 (by omega) (by omega) (fun v260 hv260 => ?_)
      refine w_if_ne f292_261 (fun e3 => ?_) (fun e3 => ?_)
      · rw [hv260] at e3
        refine wp1 (fun n d => r_iload f292_267 rfl) ?_
        refine w_if_ne f292_269 (fun e4 => ?_) (fun e4 => ?_)
        · refine w_iinc f292_276 rfl (by omega) (by omega) (fun v276 hv276 => ?_)
          show Wp _ _ _ _ 279 [some (.ref 72), some (.int x1), some (.int x2), some (.int x3), some (.int x4), some (.int x5), some (.int x6), some (.int x7), some (.int v276), some (.int x9)] _ _
          exact k279 x7 v276 (Or.inl ⟨i1, by omega, by rw [hc, if_neg e3]; omega⟩)
        · refine wp1 (fun n d => r_iload f292_272 rfl) ?_
          refine wp1 (fun n d => r_istore (L' := [some (.ref 72), some (.int x1), some (.int x2), some (.int x3), some (.int x4), some (.int x5), some (.int x6), some (.int x9), some (.int x8), some (.int x9)]) f292_274 rfl rfl) ?_
          refine w_iinc f292_276 rfl (by omega) (by omega) (fun v276 hv276 => ?_)
          show Wp _ _ _ _ 279 [some (.ref 72), some (.int x1), some (.int x2), some (.int x3), some (.int x4), some (.int x5), some (.int x6), some (.int x9), some (.int v276), some (.int x9)] _ _
          exact k279 x9 v276 (Or.inr ⟨a0, by omega, e3⟩)
      · rw [hv260] at e3
        refine wp1 (fun n d => r_goto f292_264) ?_
        exact k279 x7 x8 (Or.inl ⟨i1, i2, by rw [hc, if_pos e3]; omega⟩)
    · exact w_if_ge f292_251 (fun _ => kq x7 x8 x9 i1 i2 i3) (fun e2 => absurd e2 (by omega))
end
section
-- ===== by hand: stores with what they leave, calls with what they say =====
theorem hI_arr {σ : List Nat} {h : aH} (I : dI σ h) {W : List (Nat × Nat)} {r a n : Nat} {lo hi : Int} (k : tkA r a n lo hi = true) (hJ : cJs r 0 = false) (hW : cWn W r 0 = true) {g g' : Nat → Int32} (c : h.1[r]? = some (.inl (a, n, .inl g))) (hg : ∀ j, j < n → lo ≤ (g' j).toInt ∧ (g' j).toInt ≤ hi) :
    dI σ (h.1.set r (.inl (a, n, .inl g')), h.2) ∧ dG W σ h σ (h.1.set r (.inl (a, n, .inl g')), h.2) := by
  unfold tkA at k
  split at k
  · rename_i t e
    simp only [Bool.and_eq_true, Nat.blt_eq, ceI_i] at k
    obtain ⟨⟨⟨⟨⟨k1, k2⟩, k3⟩, k4⟩, k5⟩, k6⟩ := k
    have e1 : t.1 = 1 := Nat.eq_of_beq_eq_true k1
    have e3 : t.2.1 = a := Nat.eq_of_beq_eq_true k3
    have e4 : t.2.2.1 = n := Nat.eq_of_beq_eq_true k4
    refine dI_arr I (I.1.2.2.2 r k2) e (Or.inl e1) c ?_ hJ hW
    unfold dC
    rw [e1]
    exact ⟨g', by rw [e3, e4], by rw [e4, k5, k6]; exact hg⟩
  · cases k
theorem hI_arj {σ : List Nat} {h : aH} (I : dI σ h) {W : List (Nat × Nat)} {r n : Nat} {lo hi : Int} (k : tkJ r n lo hi = true) (hJ : cJs r 0 = false) (hW : cWn W r 0 = true) {g g' : Nat → Int64} (c : h.1[r]? = some (.inl (1, n, .inr (.inl g)))) (hg : ∀ j, j < n → lo ≤ (g' j).toInt ∧ (g' j).toInt ≤ hi) :
    dI σ (h.1.set r (.inl (1, n, .inr (.inl g'))), h.2) ∧ dG W σ h σ (h.1.set r (.inl (1, n, .inr (.inl g'))), h.2) := by
  unfold tkJ at k
  split at k
  · rename_i t e
    simp only [Bool.and_eq_true, Nat.blt_eq, ceI_i] at k
    obtain ⟨⟨⟨⟨k1, k2⟩, k4⟩, k5⟩, k6⟩ := k
    have e1 : t.1 = 2 := Nat.eq_of_beq_eq_true k1
    have e4 : t.2.2.1 = n := Nat.eq_of_beq_eq_true k4
    refine dI_arr I (I.1.2.2.2 r k2) e (Or.inr e1) c ?_ hJ hW
    unfold dC
    rw [e1]
    exact ⟨g', by rw [e4], by rw [e4, k5, k6]; exact hg⟩
  · cases k
theorem updJ_rng {g : Nat → Int64} {n k : Nat} {x : Int64} {lo hi : Int} (hg : ∀ j, j < n → lo ≤ (g j).toInt ∧ (g j).toInt ≤ hi) (h1 : lo ≤ x.toInt) (h2 : x.toInt ≤ hi) : ∀ j, j < n → lo ≤ (vp_updL g k x j).toInt ∧ (vp_updL g k x j).toInt ≤ hi := by
  intro j hj
  unfold vp_updL
  split
  · exact ⟨h1, h2⟩
  · exact hg j hj
theorem and1_0 {x : Int32} (h : x.toInt = 0) : (x &&& 1).toInt = 0 := by
  have : x = 0 := b_i.mpr h
  subst this
  decide
theorem and1_1 {x : Int32} (h : x.toInt = 1) : (x &&& 1).toInt = 1 := by
  have : x = 1 := b_i.mpr h
  subst this
  decide
section WS
variable {X : aX} {D : Nat} {M : aM} {Q : Option Value → aH → Prop} {pc len a b : Nat} {l : aL} {r : List Value} {h : aH}
theorem w_iastI {o k : Nat} {j x : Int32} {f : Nat → Int32} {σ : List Nat} {W : List (Nat × Nat)} {lo hi : Int} (hf : aF pc M.2.2.2.2.2.2.2 = some (pc, .iastore, len, a, b)) (ho : h.1[o]? = some (.inl (0, k, .inl f))) (h1 : 0 ≤ j.toInt) (h2 : j.toInt < (k : Int)) (I : dI σ h) (tk : tkA o 0 k lo hi = true) (hW : cWn W o 0 = true) (h3 : lo ≤ x.toInt) (h4 : x.toInt ≤ hi)
    (kk : ∀ h2 : aH, dI σ h2 → dG W σ h σ h2 → h2.1[o]? = some (.inl (0, k, .inl (upd f j.toInt.toNat x))) → (∀ q, o ≠ q → h2.1[q]? = h.1[q]?) → Wp X D M Q (pc + 1) l r h2) (hJ : cJs o 0 = false := by decide) : Wp X D M Q pc l (.int x :: .int j :: .ref o :: r) h := by
  obtain ⟨g0, c0, r0⟩ := hI_a I tk
  cases ho.symm.trans c0
  obtain ⟨I2, G2⟩ := hI_arr I tk hJ hW ho (upd_rng (k := j.toInt.toNat) r0 h3 h4)
  exact w_iast hf ho h1 h2 (kk _ I2 G2 (set_eq' ho) (fun q hq => set_ne' hq))
theorem w_zastI {o k : Nat} {j x : Int32} {f : Nat → Int32} {σ : List Nat} {W : List (Nat × Nat)} (hf : aF pc M.2.2.2.2.2.2.2 = some (pc, .bastore, len, a, b)) (ho : h.1[o]? = some (.inl (2, k, .inl f))) (h1 : 0 ≤ j.toInt) (h2 : j.toInt < (k : Int)) (I : dI σ h) (tk : tkA o 2 k 0 1 = true) (hW : cWn W o 0 = true) (h3 : x.toInt = 0 ∨ x.toInt = 1)
    (kk : ∀ (h2 : aH) (w : Int32), w.toInt = x.toInt → dI σ h2 → dG W σ h σ h2 → h2.1[o]? = some (.inl (2, k, .inl (upd f j.toInt.toNat w))) → (∀ q, o ≠ q → h2.1[q]? = h.1[q]?) → Wp X D M Q (pc + 1) l r h2) (hJ : cJs o 0 = false := by decide) : Wp X D M Q pc l (.int x :: .int j :: .ref o :: r) h := by
  obtain ⟨g0, c0, r0⟩ := hI_a I tk
  cases ho.symm.trans c0
  have hx : (x &&& 1).toInt = x.toInt := by
    rcases h3 with q | q
    · rw [and1_0 q, q]
    · rw [and1_1 q, q]
  obtain ⟨I2, G2⟩ := hI_arr I tk hJ hW ho (upd_rng (k := j.toInt.toNat) (x := x &&& 1) r0 (by omega) (by omega))
  exact w_zast hf ho h1 h2 (kk _ _ hx I2 G2 (set_eq' ho) (fun q hq => set_ne' hq))
theorem w_lastI {o k : Nat} {j : Int32} {x : Int64} {f : Nat → Int64} {σ : List Nat} {W : List (Nat × Nat)} {lo hi : Int} (hf : aF pc M.2.2.2.2.2.2.2 = some (pc, .lastore, len, a, b)) (ho : h.1[o]? = some (.inl (1, k, .inr (.inl f)))) (h1 : 0 ≤ j.toInt) (h2 : j.toInt < (k : Int)) (I : dI σ h) (tk : tkJ o k lo hi = true) (hW : cWn W o 0 = true) (h3 : lo ≤ x.toInt) (h4 : x.toInt ≤ hi)
    (kk : ∀ h2 : aH, dI σ h2 → dG W σ h σ h2 → h2.1[o]? = some (.inl (1, k, .inr (.inl (vp_updL f j.toInt.toNat x)))) → (∀ q, o ≠ q → h2.1[q]? = h.1[q]?) → Wp X D M Q (pc + 1) l r h2) (hJ : cJs o 0 = false := by decide) : Wp X D M Q pc l (.long x :: .int j :: .ref o :: r) h := by
  obtain ⟨g0, c0, r0⟩ := hI_j I tk
  cases ho.symm.trans c0
  obtain ⟨I2, G2⟩ := hI_arj I tk hJ hW ho (updJ_rng (k := j.toInt.toNat) r0 h3 h4)
  exact w_last hf ho h1 h2 (kk _ I2 G2 (set_eq' ho) (fun q hq => set_ne' hq))
theorem w_putI {ix o : Nat} {fs : List Value} {x : Int32} {σ : List Nat} {W : List (Nat × Nat)} {lo hi : Int} (hf : aF pc M.2.2.2.2.2.2.2 = some (pc, (.putfield ix), len, a, b)) (ho : h.1[o]? = some (.inr (a, fs))) (I : dI σ h) (tk : tkI o b lo hi = true) (hJ : cJs o b = false) (hW : cWn W o b = true) (h3 : lo ≤ x.toInt) (h4 : x.toInt ≤ hi) (hz : (zT a b).2.2.2 = false) (hy : aok (zY a b) (.int x) = true)
    (kk : ∀ (h2 : aH) (fs2 : List Value), dI σ h2 → dG W σ h σ h2 → h2.1[o]? = some (.inr (a, fs2)) → fs2[b]? = some (.int x) → (∀ i, b ≠ i → fs2[i]? = fs[i]?) → (∀ q, o ≠ q → h2.1[q]? = h.1[q]?) → Wp X D M Q (pc + 3) l r h2) : Wp X D M Q pc l (.int x :: .ref o :: r) h := by
  obtain ⟨hl, I2, G2⟩ := hI_f I ho tk hJ hW h3 h4
  refine wp1 (fun n d => r_put hf ho ?_ rfl) (kk _ _ I2 G2 (set_eq' ho) ?_ (fun i hi => by rw [List.getElem?_set, if_neg hi]) (fun q hq => set_ne' hq))
  · rw [hz, hy, hl]; rfl
  · rw [List.getElem?_set_self (Nat.blt_eq.mp hl)]
end WS
theorem dG_sub {W W' : List (Nat × Nat)} (hw : W.all (fun w => cWn W' w.1 w.2) = true) {s0 s1 : List Nat} {h0 h1 : aH} (a : dG W s0 h0 s1 h1) : dG W' s0 h0 s1 h1 := dG_W (cWn_sub hw) a
end
section
-- ===== by hand: draw =====
theorem f198_0 : aF 0 zM198.2.2.2.2.2.2.2 = some (0, (.iload_n 0), 1, 0, 0) := by decide +kernel
theorem f198_1 : aF 1 zM198.2.2.2.2.2.2.2 = some (1, (.iconst 0), 1, 0, 0) := by decide +kernel
theorem f198_2 : aF 2 zM198.2.2.2.2.2.2.2 = some (2, (.bipush 9), 2, 0, 0) := by decide +kernel
theorem f198_4 : aF 4 zM198.2.2.2.2.2.2.2 = some (4, (.invokestatic 258), 3, 196, 0) := by decide +kernel
theorem f198_7 : aF 7 zM198.2.2.2.2.2.2.2 = some (7, .ireturn, 1, 0, 0) := by decide +kernel
theorem f206_0 : aF 0 zM206.2.2.2.2.2.2.2 = some (0, (.iload_n 0), 1, 0, 0) := by decide +kernel
theorem f206_1 : aF 1 zM206.2.2.2.2.2.2.2 = some (1, (.iconst 0), 1, 0, 0) := by decide +kernel
theorem f206_2 : aF 2 zM206.2.2.2.2.2.2.2 = some (2, (.iconst 3), 1, 0, 0) := by decide +kernel
theorem f206_3 : aF 3 zM206.2.2.2.2.2.2.2 = some (3, (.invokestatic 258), 3, 196, 0) := by decide +kernel
theorem f206_6 : aF 6 zM206.2.2.2.2.2.2.2 = some (6, .ireturn, 1, 0, 0) := by decide +kernel
theorem f211_0 : aF 0 zM211.2.2.2.2.2.2.2 = some (0, (.iload_n 0), 1, 0, 0) := by decide +kernel
theorem f211_1 : aF 1 zM211.2.2.2.2.2.2.2 = some (1, (.iload_n 1), 1, 0, 0) := by decide +kernel
theorem f211_2 : aF 2 zM211.2.2.2.2.2.2.2 = some (2, (.if_icmp .ge 7), 3, 9, 0) := by decide +kernel
theorem f211_5 : aF 5 zM211.2.2.2.2.2.2.2 = some (5, (.iload_n 0), 1, 0, 0) := by decide +kernel
theorem f211_6 : aF 6 zM211.2.2.2.2.2.2.2 = some (6, (.goto 4), 3, 10, 0) := by decide +kernel
theorem f211_9 : aF 9 zM211.2.2.2.2.2.2.2 = some (9, (.iload_n 1), 1, 0, 0) := by decide +kernel
theorem f211_10 : aF 10 zM211.2.2.2.2.2.2.2 = some (10, .ireturn, 1, 0, 0) := by decide +kernel
theorem f292_0 : aF 0 zM292.2.2.2.2.2.2.2 = some (0, (.iload_n 1), 1, 0, 0) := by decide +kernel
theorem f292_1 : aF 1 zM292.2.2.2.2.2.2.2 = some (1, (.invokestatic 280), 3, 206, 0) := by decide +kernel
theorem f292_4 : aF 4 zM292.2.2.2.2.2.2.2 = some (4, (.ifCond .eq 20), 3, 24, 0) := by decide +kernel
theorem f292_7 : aF 7 zM292.2.2.2.2.2.2.2 = some (7, (.iload_n 2), 1, 0, 0) := by decide +kernel
theorem f292_8 : aF 8 zM292.2.2.2.2.2.2.2 = some (8, (.invokestatic 372), 3, 198, 0) := by decide +kernel
theorem f292_11 : aF 11 zM292.2.2.2.2.2.2.2 = some (11, (.ifCond .eq 13), 3, 24, 0) := by decide +kernel
theorem f292_14 : aF 14 zM292.2.2.2.2.2.2.2 = some (14, (.iload_n 3), 1, 0, 0) := by decide +kernel
theorem f292_15 : aF 15 zM292.2.2.2.2.2.2.2 = some (15, (.iconst 1), 1, 0, 0) := by decide +kernel
theorem f292_16 : aF 16 zM292.2.2.2.2.2.2.2 = some (16, (.bipush 9), 2, 0, 0) := by decide +kernel
theorem f292_18 : aF 18 zM292.2.2.2.2.2.2.2 = some (18, (.invokestatic 258), 3, 196, 0) := by decide +kernel
theorem f292_21 : aF 21 zM292.2.2.2.2.2.2.2 = some (21, (.ifCond .ne 5), 3, 26, 0) := by decide +kernel
theorem f292_24 : aF 24 zM292.2.2.2.2.2.2.2 = some (24, (.iconst (-1)), 1, 0, 0) := by decide +kernel
theorem f292_25 : aF 25 zM292.2.2.2.2.2.2.2 = some (25, .ireturn, 1, 0, 0) := by decide +kernel
theorem f292_26 : aF 26 zM292.2.2.2.2.2.2.2 = some (26, (.aload_n 0), 1, 0, 0) := by decide +kernel
theorem f292_27 : aF 27 zM292.2.2.2.2.2.2.2 = some (27, (.aload_n 0), 1, 0, 0) := by decide +kernel
theorem f292_28 : aF 28 zM292.2.2.2.2.2.2.2 = some (28, (.getfield 262), 3, 12, 1) := by decide +kernel
theorem f292_31 : aF 31 zM292.2.2.2.2.2.2.2 = some (31, (.invokevirtual 368), 3, 239, 0) := by decide +kernel
theorem f292_34 : aF 34 zM292.2.2.2.2.2.2.2 = some (34, (.iconst 0), 1, 0, 0) := by decide +kernel
theorem f292_35 : aF 35 zM292.2.2.2.2.2.2.2 = some (35, (.istore 4), 2, 0, 0) := by decide +kernel
theorem f292_37 : aF 37 zM292.2.2.2.2.2.2.2 = some (37, (.iconst 0), 1, 0, 0) := by decide +kernel
theorem f292_38 : aF 38 zM292.2.2.2.2.2.2.2 = some (38, (.istore 5), 2, 0, 0) := by decide +kernel
theorem f292_40 : aF 40 zM292.2.2.2.2.2.2.2 = some (40, (.iload 5), 2, 0, 0) := by decide +kernel
theorem f292_42 : aF 42 zM292.2.2.2.2.2.2.2 = some (42, (.aload_n 0), 1, 0, 0) := by decide +kernel
theorem f292_43 : aF 43 zM292.2.2.2.2.2.2.2 = some (43, (.getfield 265), 3, 12, 2) := by decide +kernel
theorem f292_46 : aF 46 zM292.2.2.2.2.2.2.2 = some (46, (.if_icmp .ge 71), 3, 117, 0) := by decide +kernel
theorem f292_49 : aF 49 zM292.2.2.2.2.2.2.2 = some (49, (.aload_n 0), 1, 0, 0) := by decide +kernel
theorem f292_50 : aF 50 zM292.2.2.2.2.2.2.2 = some (50, (.getfield 219), 3, 12, 86) := by decide +kernel
theorem f292_53 : aF 53 zM292.2.2.2.2.2.2.2 = some (53, (.iload 5), 2, 0, 0) := by decide +kernel
theorem f292_55 : aF 55 zM292.2.2.2.2.2.2.2 = some (55, (.aload_n 0), 1, 0, 0) := by decide +kernel
theorem f292_56 : aF 56 zM292.2.2.2.2.2.2.2 = some (56, (.iload 5), 2, 0, 0) := by decide +kernel
theorem f292_58 : aF 58 zM292.2.2.2.2.2.2.2 = some (58, (.invokevirtual 316), 3, 202, 0) := by decide +kernel
theorem f292_61 : aF 61 zM292.2.2.2.2.2.2.2 = some (61, (.ifCond .eq 28), 3, 89, 0) := by decide +kernel
theorem f292_64 : aF 64 zM292.2.2.2.2.2.2.2 = some (64, (.aload_n 0), 1, 0, 0) := by decide +kernel
theorem f292_65 : aF 65 zM292.2.2.2.2.2.2.2 = some (65, (.getfield 13), 3, 12, 4) := by decide +kernel
theorem f292_68 : aF 68 zM292.2.2.2.2.2.2.2 = some (68, (.iload 5), 2, 0, 0) := by decide +kernel
theorem f292_70 : aF 70 zM292.2.2.2.2.2.2.2 = some (70, .iaload, 1, 0, 0) := by decide +kernel
theorem f292_71 : aF 71 zM292.2.2.2.2.2.2.2 = some (71, (.iload_n 1), 1, 0, 0) := by decide +kernel
theorem f292_72 : aF 72 zM292.2.2.2.2.2.2.2 = some (72, (.if_icmp .ne 17), 3, 89, 0) := by decide +kernel
theorem f292_75 : aF 75 zM292.2.2.2.2.2.2.2 = some (75, (.aload_n 0), 1, 0, 0) := by decide +kernel
theorem f292_76 : aF 76 zM292.2.2.2.2.2.2.2 = some (76, (.iload 5), 2, 0, 0) := by decide +kernel
theorem f292_78 : aF 78 zM292.2.2.2.2.2.2.2 = some (78, (.iload_n 2), 1, 0, 0) := by decide +kernel
theorem f292_79 : aF 79 zM292.2.2.2.2.2.2.2 = some (79, (.invokevirtual 529), 3, 291, 0) := by decide +kernel
theorem f292_82 : aF 82 zM292.2.2.2.2.2.2.2 = some (82, (.ifCond .eq 7), 3, 89, 0) := by decide +kernel
theorem f292_85 : aF 85 zM292.2.2.2.2.2.2.2 = some (85, (.iconst 1), 1, 0, 0) := by decide +kernel
theorem f292_86 : aF 86 zM292.2.2.2.2.2.2.2 = some (86, (.goto 4), 3, 90, 0) := by decide +kernel
theorem f292_89 : aF 89 zM292.2.2.2.2.2.2.2 = some (89, (.iconst 0), 1, 0, 0) := by decide +kernel
theorem f292_90 : aF 90 zM292.2.2.2.2.2.2.2 = some (90, .bastore, 1, 0, 0) := by decide +kernel
theorem f292_91 : aF 91 zM292.2.2.2.2.2.2.2 = some (91, (.iload 4), 2, 0, 0) := by decide +kernel
theorem f292_93 : aF 93 zM292.2.2.2.2.2.2.2 = some (93, (.aload_n 0), 1, 0, 0) := by decide +kernel
theorem f292_94 : aF 94 zM292.2.2.2.2.2.2.2 = some (94, (.getfield 219), 3, 12, 86) := by decide +kernel
theorem f292_97 : aF 97 zM292.2.2.2.2.2.2.2 = some (97, (.iload 5), 2, 0, 0) := by decide +kernel
theorem f292_99 : aF 99 zM292.2.2.2.2.2.2.2 = some (99, .baload, 1, 0, 0) := by decide +kernel
theorem f292_100 : aF 100 zM292.2.2.2.2.2.2.2 = some (100, (.ifCond .eq 7), 3, 107, 0) := by decide +kernel
theorem f292_103 : aF 103 zM292.2.2.2.2.2.2.2 = some (103, (.iconst 1), 1, 0, 0) := by decide +kernel
theorem f292_104 : aF 104 zM292.2.2.2.2.2.2.2 = some (104, (.goto 4), 3, 108, 0) := by decide +kernel
theorem f292_107 : aF 107 zM292.2.2.2.2.2.2.2 = some (107, (.iconst 0), 1, 0, 0) := by decide +kernel
theorem f292_108 : aF 108 zM292.2.2.2.2.2.2.2 = some (108, .iadd, 1, 0, 0) := by decide +kernel
theorem f292_109 : aF 109 zM292.2.2.2.2.2.2.2 = some (109, (.istore 4), 2, 0, 0) := by decide +kernel
theorem f292_111 : aF 111 zM292.2.2.2.2.2.2.2 = some (111, (.iinc 5 1), 3, 0, 0) := by decide +kernel
theorem f292_114 : aF 114 zM292.2.2.2.2.2.2.2 = some (114, (.goto (-74)), 3, 40, 0) := by decide +kernel
theorem f292_117 : aF 117 zM292.2.2.2.2.2.2.2 = some (117, (.iload_n 3), 1, 0, 0) := by decide +kernel
theorem f292_118 : aF 118 zM292.2.2.2.2.2.2.2 = some (118, (.iload 4), 2, 0, 0) := by decide +kernel
theorem f292_120 : aF 120 zM292.2.2.2.2.2.2.2 = some (120, (.invokestatic 289), 3, 211, 0) := by decide +kernel
theorem f292_123 : aF 123 zM292.2.2.2.2.2.2.2 = some (123, (.istore 5), 2, 0, 0) := by decide +kernel
theorem f292_125 : aF 125 zM292.2.2.2.2.2.2.2 = some (125, (.iconst 0), 1, 0, 0) := by decide +kernel
theorem f292_126 : aF 126 zM292.2.2.2.2.2.2.2 = some (126, (.istore 6), 2, 0, 0) := by decide +kernel
theorem f292_128 : aF 128 zM292.2.2.2.2.2.2.2 = some (128, (.iload 6), 2, 0, 0) := by decide +kernel
theorem f292_130 : aF 130 zM292.2.2.2.2.2.2.2 = some (130, (.iload 5), 2, 0, 0) := by decide +kernel
theorem f292_132 : aF 132 zM292.2.2.2.2.2.2.2 = some (132, (.if_icmp .ge 176), 3, 308, 0) := by decide +kernel
theorem f292_135 : aF 135 zM292.2.2.2.2.2.2.2 = some (135, (.iconst (-1)), 1, 0, 0) := by decide +kernel
theorem f292_136 : aF 136 zM292.2.2.2.2.2.2.2 = some (136, (.istore 7), 2, 0, 0) := by decide +kernel
theorem f292_138 : aF 138 zM292.2.2.2.2.2.2.2 = some (138, (.iload 6), 2, 0, 0) := by decide +kernel
theorem f292_140 : aF 140 zM292.2.2.2.2.2.2.2 = some (140, (.iload 5), 2, 0, 0) := by decide +kernel
theorem f292_142 : aF 142 zM292.2.2.2.2.2.2.2 = some (142, (.iconst 1), 1, 0, 0) := by decide +kernel
theorem f292_143 : aF 143 zM292.2.2.2.2.2.2.2 = some (143, .iadd, 1, 0, 0) := by decide +kernel
theorem f292_144 : aF 144 zM292.2.2.2.2.2.2.2 = some (144, (.iconst 2), 1, 0, 0) := by decide +kernel
theorem f292_145 : aF 145 zM292.2.2.2.2.2.2.2 = some (145, .idiv, 1, 0, 0) := by decide +kernel
theorem f292_146 : aF 146 zM292.2.2.2.2.2.2.2 = some (146, (.if_icmp .ge 60), 3, 206, 0) := by decide +kernel
theorem f292_149 : aF 149 zM292.2.2.2.2.2.2.2 = some (149, (.iconst 0), 1, 0, 0) := by decide +kernel
theorem f292_150 : aF 150 zM292.2.2.2.2.2.2.2 = some (150, (.istore 8), 2, 0, 0) := by decide +kernel
theorem f292_203 : aF 203 zM292.2.2.2.2.2.2.2 = some (203, (.goto 82), 3, 285, 0) := by decide +kernel
theorem f292_206 : aF 206 zM292.2.2.2.2.2.2.2 = some (206, (.aload_n 0), 1, 0, 0) := by decide +kernel
theorem f292_207 : aF 207 zM292.2.2.2.2.2.2.2 = some (207, (.aload_n 0), 1, 0, 0) := by decide +kernel
theorem f292_208 : aF 208 zM292.2.2.2.2.2.2.2 = some (208, (.getfield 210), 3, 12, 83) := by decide +kernel
theorem f292_211 : aF 211 zM292.2.2.2.2.2.2.2 = some (211, (.ldc_w 535), 3, 1103515245, 0) := by decide +kernel
theorem f292_214 : aF 214 zM292.2.2.2.2.2.2.2 = some (214, .imul, 1, 0, 0) := by decide +kernel
theorem f292_215 : aF 215 zM292.2.2.2.2.2.2.2 = some (215, (.sipush 12345), 3, 0, 0) := by decide +kernel
theorem f292_218 : aF 218 zM292.2.2.2.2.2.2.2 = some (218, .iadd, 1, 0, 0) := by decide +kernel
theorem f292_219 : aF 219 zM292.2.2.2.2.2.2.2 = some (219, (.putfield 210), 3, 12, 83) := by decide +kernel
theorem f292_222 : aF 222 zM292.2.2.2.2.2.2.2 = some (222, (.aload_n 0), 1, 0, 0) := by decide +kernel
theorem f292_223 : aF 223 zM292.2.2.2.2.2.2.2 = some (223, (.getfield 210), 3, 12, 83) := by decide +kernel
theorem f292_226 : aF 226 zM292.2.2.2.2.2.2.2 = some (226, (.bipush 8), 2, 0, 0) := by decide +kernel
theorem f292_228 : aF 228 zM292.2.2.2.2.2.2.2 = some (228, .iushr, 1, 0, 0) := by decide +kernel
theorem f292_229 : aF 229 zM292.2.2.2.2.2.2.2 = some (229, (.iload 4), 2, 0, 0) := by decide +kernel
theorem f292_231 : aF 231 zM292.2.2.2.2.2.2.2 = some (231, (.iload 6), 2, 0, 0) := by decide +kernel
theorem f292_233 : aF 233 zM292.2.2.2.2.2.2.2 = some (233, .isub, 1, 0, 0) := by decide +kernel
theorem f292_234 : aF 234 zM292.2.2.2.2.2.2.2 = some (234, .irem, 1, 0, 0) := by decide +kernel
theorem f292_235 : aF 235 zM292.2.2.2.2.2.2.2 = some (235, (.istore 8), 2, 0, 0) := by decide +kernel
theorem f292_237 : aF 237 zM292.2.2.2.2.2.2.2 = some (237, (.iconst 0), 1, 0, 0) := by decide +kernel
theorem f292_238 : aF 238 zM292.2.2.2.2.2.2.2 = some (238, (.istore 9), 2, 0, 0) := by decide +kernel
theorem f292_285 : aF 285 zM292.2.2.2.2.2.2.2 = some (285, (.aload_n 0), 1, 0, 0) := by decide +kernel
theorem f292_286 : aF 286 zM292.2.2.2.2.2.2.2 = some (286, (.getfield 219), 3, 12, 86) := by decide +kernel
theorem f292_289 : aF 289 zM292.2.2.2.2.2.2.2 = some (289, (.iload 7), 2, 0, 0) := by decide +kernel
theorem f292_291 : aF 291 zM292.2.2.2.2.2.2.2 = some (291, (.iconst 0), 1, 0, 0) := by decide +kernel
theorem f292_292 : aF 292 zM292.2.2.2.2.2.2.2 = some (292, .bastore, 1, 0, 0) := by decide +kernel
theorem f292_293 : aF 293 zM292.2.2.2.2.2.2.2 = some (293, (.aload_n 0), 1, 0, 0) := by decide +kernel
theorem f292_294 : aF 294 zM292.2.2.2.2.2.2.2 = some (294, (.getfield 216), 3, 12, 85) := by decide +kernel
theorem f292_297 : aF 297 zM292.2.2.2.2.2.2.2 = some (297, (.iload 6), 2, 0, 0) := by decide +kernel
theorem f292_299 : aF 299 zM292.2.2.2.2.2.2.2 = some (299, (.iload 7), 2, 0, 0) := by decide +kernel
theorem f292_301 : aF 301 zM292.2.2.2.2.2.2.2 = some (301, .iastore, 1, 0, 0) := by decide +kernel
theorem f292_302 : aF 302 zM292.2.2.2.2.2.2.2 = some (302, (.iinc 6 1), 3, 0, 0) := by decide +kernel
theorem f292_305 : aF 305 zM292.2.2.2.2.2.2.2 = some (305, (.goto (-177)), 3, 128, 0) := by decide +kernel
theorem f292_308 : aF 308 zM292.2.2.2.2.2.2.2 = some (308, (.aload_n 0), 1, 0, 0) := by decide +kernel
theorem f292_309 : aF 309 zM292.2.2.2.2.2.2.2 = some (309, (.iload 5), 2, 0, 0) := by decide +kernel
theorem f292_311 : aF 311 zM292.2.2.2.2.2.2.2 = some (311, (.putfield 213), 3, 12, 84) := by decide +kernel
theorem f292_314 : aF 314 zM292.2.2.2.2.2.2.2 = some (314, (.iload 5), 2, 0, 0) := by decide +kernel
theorem f292_316 : aF 316 zM292.2.2.2.2.2.2.2 = some (316, .ireturn, 1, 0, 0) := by decide +kernel
theorem isLand_wp {X : aX} {h : aH} {x : Int32} : Wp X 1 zM206 (fun v h' => h = h' ∧ ∃ r : Int32, v = some (.int r) ∧ (r.toInt = 0 ∨ r.toInt = 1) ∧ (r.toInt = 1 → 0 ≤ x.toInt ∧ x.toInt ≤ 3)) 0 [some (.int x)] [] h := by
  refine wp1 (fun n d => r_iloadn f206_0 rfl) ?_
  refine w_iconst f206_1 (fun a ha => ?_)
  refine w_iconst f206_2 (fun b hb => ?_)
  refine wp_in (lv := 0) (Y := zM196) (in_wp (x := x) (a := a) (b := b)) (fun n d v h' e => r_stat (as := [.int x, .int a, .int b]) (r := []) f206_3 rfl (show zmt[196]? = some zM196 from rfl) rfl rfl rfl rfl rfl rfl e) (by decide) ?_
  rintro v h' ⟨rfl, r, rfl, h01, hr⟩
  refine wp_end (fun n d => r_zreturn f206_6 rfl (h01.elim (fun q => Or.inl (b_i.mpr q)) (fun q => Or.inr (b_i.mpr q)))) ⟨rfl, r, rfl, h01, fun q => ?_⟩
  have := hr q
  omega
theorem isYear_wp {X : aX} {h : aH} {x : Int32} : Wp X 1 zM198 (fun v h' => h = h' ∧ ∃ r : Int32, v = some (.int r) ∧ (r.toInt = 0 ∨ r.toInt = 1) ∧ (r.toInt = 1 → 0 ≤ x.toInt ∧ x.toInt ≤ 9)) 0 [some (.int x)] [] h := by
  refine wp1 (fun n d => r_iloadn f198_0 rfl) ?_
  refine w_iconst f198_1 (fun a ha => ?_)
  refine w_bipush f198_2 (fun b hb => ?_)
  refine wp_in (lv := 0) (Y := zM196) (in_wp (x := x) (a := a) (b := b)) (fun n d v h' e => r_stat (as := [.int x, .int a, .int b]) (r := []) f198_4 rfl (show zmt[196]? = some zM196 from rfl) rfl rfl rfl rfl rfl rfl e) (by decide) ?_
  rintro v h' ⟨rfl, r, rfl, h01, hr⟩
  refine wp_end (fun n d => r_zreturn f198_7 rfl (h01.elim (fun q => Or.inl (b_i.mpr q)) (fun q => Or.inr (b_i.mpr q)))) ⟨rfl, r, rfl, h01, fun q => ?_⟩
  have := hr q
  omega
theorem lesser_wp {X : aX} {D : Nat} {h : aH} {x y : Int32} : Wp X D zM211 (fun v h' => h = h' ∧ ∃ r : Int32, v = some (.int r) ∧ (r = x ∧ x.toInt < y.toInt ∨ r = y ∧ y.toInt ≤ x.toInt)) 0 [some (.int x), some (.int y)] [] h := by
  refine wp1 (fun n d => r_iloadn f211_0 rfl) ?_
  refine wp1 (fun n d => r_iloadn f211_1 rfl) ?_
  refine w_icmp_ge f211_2 (fun e => ?_) (fun e => ?_)
  · refine wp1 (fun n d => r_iloadn f211_9 rfl) ?_
    exact wp_end (fun n d => r_ireturn f211_10 rfl) ⟨rfl, _, rfl, Or.inr ⟨rfl, e⟩⟩
  · refine wp1 (fun n d => r_iloadn f211_5 rfl) ?_
    refine wp1 (fun n d => r_goto f211_6) ?_
    exact wp_end (fun n d => r_ireturn f211_10 rfl) ⟨rfl, _, rfl, Or.inl ⟨rfl, e⟩⟩
theorem drawC {X : aX} {D : Nat} (G2 : dGood X cC302) (G4 : dGood X cC304) (hD : 4 ≤ D) {Q : Option Value → aH → Prop} {x1 x2 x3 nb : Int32} {u6 u7 u8 u9 : Option Value} (y0 : 0 ≤ x2.toInt) (y1 : x2.toInt ≤ 9) (n0 : 0 ≤ nb.toInt) (n1 : nb.toInt ≤ 150) : ∀ (k : Nat) (x4 x5 : Int32) (σ : List Nat) (h : aH) (fs : List Value) (g : Nat → Int32), (nb.toInt - x5.toInt).toNat = k → 0 ≤ x5.toInt → x5.toInt ≤ nb.toInt → dI σ h → h.1[135]? = some (.inl (2, 150, .inl g)) → h.1[72]? = some (.inr (12, fs)) → fs[2]? = some (.int nb) → x4.toInt = cntN g x5.toInt.toNat →
    (∀ (σ' : List Nat) (h' : aH) (g' : Nat → Int32) (x4' x5' : Int32), dI σ' h' → dG cC217.2.2.1 σ h σ' h' → h'.1[135]? = some (.inl (2, 150, .inl g')) → x4'.toInt = cntN g' nb.toInt.toNat → Wp X D zM292 Q 117 [some (.ref 72), some (.int x1), some (.int x2), some (.int x3), some (.int x4'), some (.int x5'), u6, u7, u8, u9] [] h') → Wp X D zM292 Q 40 [some (.ref 72), some (.int x1), some (.int x2), some (.int x3), some (.int x4), some (.int x5), u6, u7, u8, u9] [] h := by
  intro k
  induction k with
  | zero =>
    intro x4 x5 σ h fs g hk a0 a1 I c135 c72 F72_2 hc kq
    refine wp1 (fun n d => r_iload f292_40 rfl) ?_
    refine wp1 (fun n d => r_aloadn f292_42 rfl) ?_
    refine w_get f292_43 c72 F72_2 ?_
    refine w_icmp_ge f292_46 (fun e => kq σ h g x4 x5 I (dG_refl _ _ _) c135 ?_) (fun e => absurd e (by omega))
    rw [show nb.toInt.toNat = x5.toInt.toNat by omega]
    exact hc
  | succ k ih =>
    intro x4 x5 σ h fs g hk a0 a1 I c135 c72 F72_2 hc kq
    have hle := cntN_le g x5.toInt.toNat
    refine wp1 (fun n d => r_iload f292_40 rfl) ?_
    refine wp1 (fun n d => r_aloadn f292_42 rfl) ?_
    refine w_get f292_43 c72 F72_2 ?_
    refine w_icmp_ge f292_46 (fun e46 => absurd e46 (by omega)) (fun e46 => ?_)
    have k90 : ∀ (σ1 : List Nat) (h1 : aH) (v : Int32), dI σ1 h1 → dG cC217.2.2.1 σ h σ1 h1 → h1.1[135]? = some (.inl (2, 150, .inl g)) → (v.toInt = 0 ∨ v.toInt = 1) → Wp X D zM292 Q 90 [some (.ref 72), some (.int x1), some (.int x2), some (.int x3), some (.int x4), some (.int x5), u6, u7, u8, u9] [.int v, .int x5, .ref 135] h1 := by
      intro σ1 h1 v I1 G1 d135 hv
      obtain ⟨fs1, d72, dfs⟩ := dG_o I.1 G1 c72 (by decide)
      have E72_2 := (dfs 2 rfl).trans F72_2
      refine w_zastI f292_90 d135 (by omega) (by omega) I1 (W := cC217.2.2.1) (by decide +kernel) (by decide) (by omega) (fun h1001 w1001 hw1001 I1001 G1001 c1001 ne1001 => ?_)
      obtain ⟨g1001, hg1001⟩ : ∃ g', g' = upd g x5.toInt.toNat w1001 := ⟨_, rfl⟩
      rw [← hg1001] at c1001
      have c1002 := (ne1001 72 (by decide)).trans d72
      refine wp1 (fun n d => r_iload f292_91 rfl) ?_
      refine wp1 (fun n d => r_aloadn f292_93 rfl) ?_
      have F1003 := hI_r I1001 c1002 (f := 86) (q := 135) (by decide +kernel)
      refine w_get f292_94 c1002 F1003 ?_
      refine wp1 (fun n d => r_iload f292_97 rfl) ?_
      refine w_zald f292_99 c1001 (by omega) (by omega) (fun v99 hv99 => ?_)
      have hgx : g1001 x5.toInt.toNat = w1001 := by rw [hg1001]; exact pk_us
      have hgc : cntN g1001 x5.toInt.toNat = cntN g x5.toInt.toNat := cntN_congr _ (fun j hj => by rw [hg1001]; exact pk_un (by omega))
      have hc1 : cntN g1001 (x5.toInt.toNat + 1) = cntN g x5.toInt.toNat + (if w1001.toInt = 0 then 0 else 1) := by rw [← hgc, ← hgx]; rfl
      rw [hgx] at hv99
      have k108 : ∀ z : Int32, (z.toInt = if w1001.toInt = 0 then 0 else 1) → Wp X D zM292 Q 108 [some (.ref 72), some (.int x1), some (.int x2), some (.int x3), some (.int x4), some (.int x5), u6, u7, u8, u9] [.int z, .int x4] h1001 := by
        intro z hz
        have hz01 : 0 ≤ z.toInt ∧ z.toInt ≤ 1 := by rw [hz]; split <;> decide
        refine w_iadd f292_108 (by omega) (by omega) (fun v108 hv108 => ?_)
        refine wp1 (fun n d => r_istore (L' := [some (.ref 72), some (.int x1), some (.int x2), some (.int x3), some (.int v108), some (.int x5), u6, u7, u8, u9]) f292_109 rfl rfl) ?_
        refine w_iinc f292_111 rfl (by omega) (by omega) (fun v111 hv111 => ?_)
        show Wp _ _ _ _ 114 [some (.ref 72), some (.int x1), some (.int x2), some (.int x3), some (.int v108), some (.int v111), u6, u7, u8, u9] [] _
        refine wp1 (fun n d => r_goto f292_114) ?_
        have e1 : v111.toInt.toNat = x5.toInt.toNat + 1 := by omega
        refine ih v108 v111 σ1 h1001 fs1 g1001 (by omega) (by omega) (by omega) I1001 c1001 c1002 E72_2 ?_ (fun σ' h' g' y4 y5 I' G' d' hc' => kq σ' h' g' y4 y5 I' (dG_trans (dG_trans G1 G1001) G') d' hc')
        rw [e1, hc1, hv108, hz, hc]
        split <;> omega
      refine w_if_eq f292_100 (fun e => ?_) (fun e => ?_)
      · rw [hv99] at e
        refine w_iconst f292_107 (fun v107 hv107 => ?_)
        exact k108 v107 (by rw [hv107]; first | rw [if_pos e] | rw [if_neg e])
      · rw [hv99] at e
        refine w_iconst f292_103 (fun v103 hv103 => ?_)
        refine wp1 (fun n d => r_goto f292_104) ?_
        exact k108 v103 (by rw [hv103]; first | rw [if_pos e] | rw [if_neg e])
    refine wp1 (fun n d => r_aloadn f292_49 rfl) ?_
    have F1001 := hI_r I c72 (f := 86) (q := 135) (by decide +kernel)
    refine w_get f292_50 c72 F1001 ?_
    refine wp1 (fun n d => r_iload f292_53 rfl) ?_
    refine wp1 (fun n d => r_aloadn f292_55 rfl) ?_
    refine wp1 (fun n d => r_iload f292_56 rfl) ?_
    refine wp_good G2 (Y := zM202) (show zmt[202]? = some zM202 from rfl) I (ρ := [0, x5.toInt]) (dK_v (kV_of rfl ⟨⟨by decide, by decide⟩, ⟨by show (0 : Int) ≤ _; omega, by show _ ≤ (149 : Int); omega⟩, trivial⟩)) (dL_of (l := [some (.ref 72), some (.int x5)]) ⟨lw_r (by decide), lw_i rfl, trivial⟩) (fun n d v h' e => r_virt (as := [.int x5]) (r := [.int x5, .ref 135]) f292_58 c72 (show zmt[202]? = some zM202 from rfl) rfl rfl rfl rfl rfl rfl e) (by first | decide | (show 2 + 1 ≤ _; omega)) (fun v h1002 σ1002 I1002 G1002 P1002 => ?_)
    obtain ⟨v58, rfl, p58, q58⟩ := rpost_i P1002 rfl
    have p58 : 0 ≤ v58.toInt := p58
    have q58 : v58.toInt ≤ 1 := q58
    show Wp _ _ _ _ 61 [some (.ref 72), some (.int x1), some (.int x2), some (.int x3), some (.int x4), some (.int x5), u6, u7, u8, u9] [.int v58, .int x5, .ref 135] _
    obtain ⟨fs1003, c1003, df1003⟩ := dG_o I.1 G1002 c72 (by decide)
    have F1004 := (df1003 2 rfl).trans F72_2
    have F1005 := (df1003 86 rfl).trans F1001
    have c1006 := dG_a I.1 G1002 c135 (by decide) rfl
    have k89 : ∀ (σ1 : List Nat) (h1 : aH), dI σ1 h1 → dG cC217.2.2.1 σ h σ1 h1 → h1.1[135]? = some (.inl (2, 150, .inl g)) → Wp X D zM292 Q 89 [some (.ref 72), some (.int x1), some (.int x2), some (.int x3), some (.int x4), some (.int x5), u6, u7, u8, u9] [.int x5, .ref 135] h1 := by
      intro σ1 h1 I1 G1 d135
      refine w_iconst f292_89 (fun v hv => ?_)
      exact k90 σ1 h1 v I1 G1 d135 (Or.inl hv)
    refine w_if_eq f292_61 (fun e61 => k89 _ _ I1002 (dG_sub (by decide) G1002) c1006) (fun e61 => ?_)
    refine wp1 (fun n d => r_aloadn f292_64 rfl) ?_
    have F1007 := hI_r I1002 c1003 (f := 4) (q := 74) (by decide +kernel)
    refine w_get f292_65 c1003 F1007 ?_
    refine wp1 (fun n d => r_iload f292_68 rfl) ?_
    obtain ⟨g1008, c1008, R1008⟩ := hI_a I1002 (r := 74) (a := 0) (n := 150) (lo := 0) (hi := 3) (by decide +kernel)
    refine w_iald f292_70 c1008 (by omega) (by omega) (fun v70 hv70 => ?_)
    have bv70 := R1008 x5.toInt.toNat (by omega)
    rw [← hv70] at bv70
    refine wp1 (fun n d => r_iloadn f292_71 rfl) ?_
    refine w_icmp_ne f292_72 (fun e72 => k89 _ _ I1002 (dG_sub (by decide) G1002) c1006) (fun e72 => ?_)
    refine wp1 (fun n d => r_aloadn f292_75 rfl) ?_
    refine wp1 (fun n d => r_iload f292_76 rfl) ?_
    refine wp1 (fun n d => r_iloadn f292_78 rfl) ?_
    refine wp_good G4 (Y := zM291) (show zmt[291]? = some zM291 from rfl) I1002 (ρ := [0, x5.toInt, x2.toInt]) (dK_v (kV_of rfl ⟨⟨by decide, by decide⟩, ⟨by show (0 : Int) ≤ _; omega, by show _ ≤ (149 : Int); omega⟩, ⟨by show (0 : Int) ≤ _; omega, by show _ ≤ (9 : Int); omega⟩, trivial⟩)) (dL_of (l := [some (.ref 72), some (.int x5), some (.int x2), none]) ⟨lw_r (by decide), lw_i rfl, lw_i rfl, lw_0, trivial⟩) (fun n d v h' e => r_virt (as := [.int x5, .int x2]) (r := [.int x5, .ref 135]) f292_79 c1003 (show zmt[291]? = some zM291 from rfl) rfl rfl rfl rfl rfl rfl e) (by first | decide | (show 1 + 1 ≤ _; omega)) (fun v h1009 σ1009 I1009 G1009 P1009 => ?_)
    obtain ⟨v79, rfl, p79, q79⟩ := rpost_i P1009 rfl
    have p79 : 0 ≤ v79.toInt := p79
    have q79 : v79.toInt ≤ 1 := q79
    show Wp _ _ _ _ 82 [some (.ref 72), some (.int x1), some (.int x2), some (.int x3), some (.int x4), some (.int x5), u6, u7, u8, u9] [.int v79, .int x5, .ref 135] _
    obtain ⟨fs1010, c1010, df1010⟩ := dG_o I1002.1 G1009 c1003 (by decide)
    have F1011 := (df1010 2 rfl).trans F1004
    have F1012 := (df1010 86 rfl).trans F1005
    have F1013 := (df1010 4 rfl).trans F1007
    have c1014 := dG_a I1002.1 G1009 c1006 (by decide) rfl
    have c1015 := dG_a I1002.1 G1009 c1008 (by decide) rfl
    refine w_if_eq f292_82 (fun e82 => k89 _ _ I1009 (dG_trans (dG_sub (by decide) G1002) (dG_sub (by decide) G1009)) c1014) (fun e82 => ?_)
    refine w_iconst f292_85 (fun v85 hv85 => ?_)
    refine wp1 (fun n d => r_goto f292_86) ?_
    exact k90 _ _ v85 I1009 (dG_trans (dG_sub (by decide) G1002) (dG_sub (by decide) G1009)) c1014 (Or.inr hv85)
theorem drawO {X : aX} {D : Nat} (G5 : dGood X cC305) (hD : 4 ≤ D) {Q : Option Value → aH → Prop} {x1 x2 x3 x4 x5 nb : Int32} (y0 : 0 ≤ x2.toInt) (y1 : x2.toInt ≤ 9) (n0 : 0 ≤ nb.toInt) (n1 : nb.toInt ≤ 150) (b4 : x4.toInt ≤ 150) (b5 : x5.toInt ≤ x4.toInt) (b5' : x5.toInt ≤ 9) (b5z : 0 ≤ x5.toInt) : ∀ (k : Nat) (x6 : Int32) (u7 u8 u9 : Option Value) (σ : List Nat) (h : aH) (fs : List Value) (g : Nat → Int32), (x5.toInt - x6.toInt).toNat = k → 0 ≤ x6.toInt → dI σ h → h.1[135]? = some (.inl (2, 150, .inl g)) → h.1[72]? = some (.inr (12, fs)) → fs[2]? = some (.int nb) → x4.toInt - x6.toInt = cntN g nb.toInt.toNat →
    (∀ (σ' : List Nat) (h' : aH) (x6' : Int32) (v7 v8 v9 : Option Value), dI σ' h' → dG cC217.2.2.1 σ h σ' h' → Wp X D zM292 Q 308 [some (.ref 72), some (.int x1), some (.int x2), some (.int x3), some (.int x4), some (.int x5), some (.int x6'), v7, v8, v9] [] h') → Wp X D zM292 Q 128 [some (.ref 72), some (.int x1), some (.int x2), some (.int x3), some (.int x4), some (.int x5), some (.int x6), u7, u8, u9] [] h := by
  intro k
  induction k with
  | zero =>
    intro x6 u7 u8 u9 σ h fs g hk a0 I c135 c72 F72_2 hc kq
    refine wp1 (fun n d => r_iload f292_128 rfl) ?_
    refine wp1 (fun n d => r_iload f292_130 rfl) ?_
    exact w_icmp_ge f292_132 (fun e => kq σ h x6 _ _ _ I (dG_refl _ _ _)) (fun e => absurd e (by omega))
  | succ k ih =>
    intro x6 u7 u8 u9 σ h fs g hk a0 I c135 c72 F72_2 hc kq
    have F72_86 := hI_r I c72 (f := 86) (q := 135) (by decide +kernel)
    refine wp1 (fun n d => r_iload f292_128 rfl) ?_
    refine wp1 (fun n d => r_iload f292_130 rfl) ?_
    refine w_icmp_ge f292_132 (fun e132 => absurd e132 (by omega)) (fun e132 => ?_)
    have k285 : ∀ (σ1 : List Nat) (h1 : aH) (x7 : Int32) (v8 v9 : Option Value), dI σ1 h1 → dG cC217.2.2.1 σ h σ1 h1 → h1.1[135]? = some (.inl (2, 150, .inl g)) → 0 ≤ x7.toInt → x7.toInt.toNat < nb.toInt.toNat → (g x7.toInt.toNat).toInt ≠ 0 → Wp X D zM292 Q 285 [some (.ref 72), some (.int x1), some (.int x2), some (.int x3), some (.int x4), some (.int x5), some (.int x6), some (.int x7), v8, v9] [] h1 := by
      intro σ1 h1 x7 v8 v9 I1 G1 d135 i1 i2 i3
      obtain ⟨fs1, d72, dfs⟩ := dG_o I.1 G1 c72 (by decide)
      have E72_2 := (dfs 2 rfl).trans F72_2
      revert v8 v9; intro u8 u9
      refine wp1 (fun n d => r_aloadn f292_285 rfl) ?_
      have F1001 := hI_r I1 d72 (f := 86) (q := 135) (by decide +kernel)
      refine w_get f292_286 d72 F1001 ?_
      refine wp1 (fun n d => r_iload f292_289 rfl) ?_
      refine w_iconst f292_291 (fun v291 hv291 => ?_)
      refine w_zastI f292_292 d135 (by omega) (by omega) I1 (W := cC217.2.2.1) (by decide +kernel) (by decide) (by omega) (fun h1002 w1002 hw1002 I1002 G1002 c1002 ne1002 => ?_)
      obtain ⟨g1002, hg1002⟩ : ∃ g', g' = upd g x7.toInt.toNat w1002 := ⟨_, rfl⟩
      rw [← hg1002] at c1002
      have c1003 := (ne1002 72 (by decide)).trans d72
      refine wp1 (fun n d => r_aloadn f292_293 rfl) ?_
      have F1004 := hI_r I1002 c1003 (f := 85) (q := 134) (by decide +kernel)
      refine w_get f292_294 c1003 F1004 ?_
      refine wp1 (fun n d => r_iload f292_297 rfl) ?_
      refine wp1 (fun n d => r_iload f292_299 rfl) ?_
      obtain ⟨g1005, c1005, R1005⟩ := hI_a I1002 (r := 134) (a := 0) (n := 9) (lo := (-2147483648)) (hi := 2147483647) (by decide +kernel)
      refine w_iastI f292_301 c1005 (by omega) (by omega) I1002 (W := cC217.2.2.1) (lo := (-2147483648)) (hi := 2147483647) (by decide +kernel) (by decide) (iR x7).1 (iR x7).2 (fun h1006 I1006 G1006 c1006 ne1006 => ?_)
      obtain ⟨g1006, hg1006⟩ : ∃ g', g' = upd g1005 x6.toInt.toNat x7 := ⟨_, rfl⟩
      rw [← hg1006] at c1006
      have c1007 := (ne1006 72 (by decide)).trans c1003
      have c1008 := (ne1006 135 (by decide)).trans c1002
      refine w_iinc f292_302 rfl (by omega) (by omega) (fun v302 hv302 => ?_)
      show Wp _ _ _ _ 305 [some (.ref 72), some (.int x1), some (.int x2), some (.int x3), some (.int x4), some (.int x5), some (.int v302), some (.int x7), u8, u9] [] _
      refine wp1 (fun n d => r_goto f292_305) ?_
      have hu := cntN_upd g x7.toInt.toNat w1002 (by omega) i3 nb.toInt.toNat i2
      rw [← hg1002] at hu
      exact ih v302 (some (.int x7)) u8 u9 σ1 h1006 fs1 g1002 (by omega) (by omega) I1006 c1008 c1007 E72_2 (by omega) (fun σ' h' y6 w7 w8 w9 I' G' => kq σ' h' y6 w7 w8 w9 I' (dG_trans (dG_trans G1 (dG_trans G1002 G1006)) G'))
    refine w_iconst f292_135 (fun v135 hv135 => ?_)
    refine wp1 (fun n d => r_istore (L' := [some (.ref 72), some (.int x1), some (.int x2), some (.int x3), some (.int x4), some (.int x5), some (.int x6), some (.int v135), u8, u9]) f292_136 rfl rfl) ?_
    refine wp1 (fun n d => r_iload f292_138 rfl) ?_
    refine wp1 (fun n d => r_iload f292_140 rfl) ?_
    refine w_iconst f292_142 (fun v142 hv142 => ?_)
    refine w_iadd f292_143 (by omega) (by omega) (fun v143 hv143 => ?_)
    refine w_iconst f292_144 (fun v144 hv144 => ?_)
    refine w_idiv f292_145 (by omega) (by omega) (fun v145 hv145 gv145 ev145 => ?_)
    refine w_icmp_ge f292_146 (fun e146 => ?_) (fun e146 => ?_)
    · refine wp1 (fun n d => r_aloadn f292_206 rfl) ?_
      refine wp1 (fun n d => r_aloadn f292_207 rfl) ?_
      obtain ⟨x83_1001, F1001, lo1001, hi1001⟩ := hI_i I c72 (f := 83) (lo := (-2147483648)) (hi := 2147483647) (by decide +kernel)
      refine w_get f292_208 c72 F1001 ?_
      refine w_ldc_w f292_211 (fun v211 hv211 => ?_)
      have hv211 : v211.toInt = 1103515245 := hv211
      refine w_imul' f292_214 (fun v214 => ?_)
      refine w_sipush f292_215 (fun v215 hv215 => ?_)
      refine w_iadd' f292_218 (fun v218 => ?_)
      refine w_putI f292_219 c72 I (W := cC217.2.2.1) (lo := (-2147483648)) (hi := 2147483647) (by decide +kernel) (by decide) (by decide) (iR v218).1 (iR v218).2 (by decide) (by first | rfl | (simp [aok, zY])) (fun h1002 fs1002 I1002 G1002 c1002 Fx1002 nf1002 ne1002 => ?_)
      have c1003 := (ne1002 135 (by decide)).trans c135
      have F1004 := (nf1002 2 (by decide)).trans F72_2
      have F1005 := (nf1002 86 (by decide)).trans F72_86
      refine wp1 (fun n d => r_aloadn f292_222 rfl) ?_
      refine w_get f292_223 c1002 Fx1002 ?_
      refine w_bipush f292_226 (fun v226 hv226 => ?_)
      refine w_iushr f292_228 (by omega) (by omega) (fun v228 hv228 => ?_)
      refine wp1 (fun n d => r_iload f292_229 rfl) ?_
      refine wp1 (fun n d => r_iload f292_231 rfl) ?_
      refine w_isub f292_233 (by omega) (by omega) (fun v233 hv233 => ?_)
      refine w_irem f292_234 (by omega) (by omega) (fun v234 hv234 gv234 ev234 => ?_)
      refine wp1 (fun n d => r_istore (L' := [some (.ref 72), some (.int x1), some (.int x2), some (.int x3), some (.int x4), some (.int x5), some (.int x6), some (.int v135), some (.int v234), u9]) f292_235 rfl rfl) ?_
      refine w_iconst f292_237 (fun v237 hv237 => ?_)
      refine wp1 (fun n d => r_istore (L' := [some (.ref 72), some (.int x1), some (.int x2), some (.int x3), some (.int x4), some (.int x5), some (.int x6), some (.int v135), some (.int v234), some (.int v237)]) f292_238 rfl rfl) ?_
      exact drawB (σ := σ) (rr := v234.toInt) n0 n1 c1003 c1002 F1004 F1005 (by omega) (fun x7' x8' x9' j1 j2 j3 => k285 _ _ x7' _ _ I1002 G1002 c1003 j1 j2 j3) _ v135 v234 v237 rfl (by omega) (by omega) (Or.inl ⟨hv135, by omega, by
        rw [show v237.toInt.toNat = 0 by omega]
        show _ + ((0 : Nat) : Int) = _
        omega⟩)
    · refine w_iconst f292_149 (fun v149 hv149 => ?_)
      refine wp1 (fun n d => r_istore (L' := [some (.ref 72), some (.int x1), some (.int x2), some (.int x3), some (.int x4), some (.int x5), some (.int x6), some (.int v135), some (.int v149), u9]) f292_150 rfl rfl) ?_
      refine drawA G5 hD y0 y1 n0 n1 _ v135 v149 σ h fs rfl (by omega) (by omega) I c135 c72 F72_2 F72_86 (Or.inl ⟨hv135, by rw [show v149.toInt.toNat = 0 by omega]; rfl⟩) (fun σ' h' x7' x8' I' G' inv => ?_)
      refine wp1 (fun n d => r_goto f292_203) ?_
      obtain ⟨j1, j2, j3⟩ : 0 ≤ x7'.toInt ∧ x7'.toInt.toNat < nb.toInt.toNat ∧ (g x7'.toInt.toNat).toInt ≠ 0 := by
        rcases inv with ⟨i1, i2⟩ | i
        · omega
        · exact i
      exact k285 σ' h' x7' _ _ I' (dG_sub (by decide) G') (dG_a I.1 G' c135 (by decide) rfl) j1 j2 j3
theorem hand_217 {X : aX} (G2 : dGood X cC302) (G4 : dGood X cC304) (G5 : dGood X cC305) (G71 : dGood X cC71) : dGood X cC217 := by
  intro M hM l h σ ρ rh I K L
  have hM0 : zmt[292]? = some zM292 := rfl
  cases (show zmt[292]? = some M from hM).symm.trans hM0
  have a0 := dL_r L (i := 0) (c := 72) (o := 0) rfl (by decide)
  obtain ⟨x1, a1, b1, b1'⟩ := hL_i L K.1 (i := 1) (p := 1) (o := 0) (lo := -2147483648) (hi := 2147483647) rfl rfl
  obtain ⟨x2, a2, b2, b2'⟩ := hL_i L K.1 (i := 2) (p := 2) (o := 0) (lo := -2147483648) (hi := 2147483647) rfl rfl
  obtain ⟨x3, a3, b3, b3'⟩ := hL_i L K.1 (i := 3) (p := 3) (o := 0) (lo := -2147483648) (hi := 2147483647) rfl rfl
  obtain ⟨u0, l1, rfl, e1⟩ := hcons (show l.length = 10 from L.1)
  obtain ⟨u1, l2, rfl, e2⟩ := hcons e1
  obtain ⟨u2, l3, rfl, e3⟩ := hcons e2
  obtain ⟨u3, l4, rfl, e4⟩ := hcons e3
  obtain ⟨u4, l5, rfl, e5⟩ := hcons e4
  obtain ⟨u5, l6, rfl, e6⟩ := hcons e5
  obtain ⟨u6, l7, rfl, e7⟩ := hcons e6
  obtain ⟨u7, l8, rfl, e8⟩ := hcons e7
  obtain ⟨u8, l9, rfl, e9⟩ := hcons e8
  obtain ⟨u9, l10, rfl, e10⟩ := hcons e9
  cases hnil e10
  cases Option.some.inj a0
  cases Option.some.inj a1
  cases Option.some.inj a2
  cases Option.some.inj a3
  have fin : ∀ (x : Int32) (σ' : List Nat) (h' : aH), dI σ' h' → dG cC217.2.2.1 σ h σ' h' → hQ cC217 σ h (some (.int x)) h' := fun x σ' h' I' G' => ⟨σ', I', G', _, List.mem_cons_self, post_i I'.1 (iR x).1 (iR x).2⟩
  refine hEnd ?_
  show Wp X 30 zM292 _ 0 [some (.ref 72), some (.int x1), some (.int x2), some (.int x3), u4, u5, u6, u7, u8, u9] [] h
  have k24 : Wp X 30 zM292 (hQ cC217 σ h) 24 [some (.ref 72), some (.int x1), some (.int x2), some (.int x3), u4, u5, u6, u7, u8, u9] [] h := w_iconst f292_24 (fun v _ => wp_end (fun n d => r_ireturn f292_25 rfl) (fin v σ h I (dG_refl _ _ _)))
  refine wp1 (fun n d => r_iloadn f292_0 rfl) ?_
  refine wp_in (lv := 1) (Y := zM206) (isLand_wp (x := x1)) (fun n d v h' e => r_stat (as := [.int x1]) (r := []) f292_1 rfl (show zmt[206]? = some zM206 from rfl) rfl rfl rfl rfl rfl rfl e) (by first | decide | omega) ?_
  rintro v h' ⟨rfl, v1, rfl, z1, r1⟩
  show Wp _ _ _ _ 4 [some (.ref 72), some (.int x1), some (.int x2), some (.int x3), u4, u5, u6, u7, u8, u9] [.int v1] _
  refine w_if_eq f292_4 (fun e4 => k24) (fun e4 => ?_)
  refine wp1 (fun n d => r_iloadn f292_7 rfl) ?_
  refine wp_in (lv := 1) (Y := zM198) (isYear_wp (x := x2)) (fun n d v h' e => r_stat (as := [.int x2]) (r := []) f292_8 rfl (show zmt[198]? = some zM198 from rfl) rfl rfl rfl rfl rfl rfl e) (by first | decide | omega) ?_
  rintro v h' ⟨rfl, v8, rfl, z2, r2⟩
  show Wp _ _ _ _ 11 [some (.ref 72), some (.int x1), some (.int x2), some (.int x3), u4, u5, u6, u7, u8, u9] [.int v8] _
  refine w_if_eq f292_11 (fun e11 => k24) (fun e11 => ?_)
  refine wp1 (fun n d => r_iloadn f292_14 rfl) ?_
  refine w_iconst f292_15 (fun v15 hv15 => ?_)
  refine w_bipush f292_16 (fun v16 hv16 => ?_)
  refine wp_in (lv := 0) (Y := zM196) (in_wp) (fun n d v h' e => r_stat (as := [.int x3, .int v15, .int v16]) (r := []) f292_18 rfl (show zmt[196]? = some zM196 from rfl) rfl rfl rfl rfl rfl rfl e) (by first | decide | omega) ?_
  rintro v h' ⟨rfl, v18, rfl, z3, r3⟩
  show Wp _ _ _ _ 21 [some (.ref 72), some (.int x1), some (.int x2), some (.int x3), u4, u5, u6, u7, u8, u9] [.int v18] _
  refine w_if_ne f292_21 (fun e21 => ?_) (fun _ => k24)
  have R2 := r2 (by omega)
  have R3 := r3 (by omega)
  refine wp1 (fun n d => r_aloadn f292_26 rfl) ?_
  refine wp1 (fun n d => r_aloadn f292_27 rfl) ?_
  obtain ⟨fs1001, c1001⟩ := hI_o I (r := 72) (ci := 12) (by decide +kernel)
  obtain ⟨x1_1002, F1002, lo1002, hi1002⟩ := hI_i I c1001 (f := 1) (lo := 0) (hi := 3649) (by decide +kernel)
  refine w_get f292_28 c1001 F1002 ?_
  refine wp_good G71 (Y := zM239) (show zmt[239]? = some zM239 from rfl) I (ρ := [0, x1_1002.toInt]) (dK_v (kV_of rfl ⟨⟨by decide, by decide⟩, ⟨by show (0 : Int) ≤ _; omega, by show _ ≤ (3649 : Int); omega⟩, trivial⟩)) (dL_of (l := [some (.ref 72), some (.int x1_1002), none, none, none]) ⟨lw_r (by decide), lw_i rfl, lw_0, lw_0, lw_0, trivial⟩) (fun n d v h' e => r_virt (as := [.int x1_1002]) (r := []) f292_31 c1001 (show zmt[239]? = some zM239 from rfl) rfl rfl rfl rfl rfl rfl e) (by first | decide | (show 3 + 1 ≤ _; omega)) (fun v h1003 σ1003 I1003 G1003 P1003 => ?_)
  cases rpost_0 P1003 rfl
  show Wp _ _ _ _ 34 [some (.ref 72), some (.int x1), some (.int x2), some (.int x3), u4, u5, u6, u7, u8, u9] [] _
  obtain ⟨fs1004, c1004, df1004⟩ := dG_o I.1 G1003 c1001 (by decide)
  have F1005 := (df1004 1 rfl).trans F1002
  obtain ⟨x2_1006, F1006, lo1006, hi1006⟩ := hI_i I1003 c1004 (f := 2) (lo := 0) (hi := 150) (by decide +kernel)
  refine w_iconst f292_34 (fun v34 hv34 => ?_)
  refine wp1 (fun n d => r_istore (L' := [some (.ref 72), some (.int x1), some (.int x2), some (.int x3), some (.int v34), u5, u6, u7, u8, u9]) f292_35 rfl rfl) ?_
  refine w_iconst f292_37 (fun v37 hv37 => ?_)
  refine wp1 (fun n d => r_istore (L' := [some (.ref 72), some (.int x1), some (.int x2), some (.int x3), some (.int v34), some (.int v37), u6, u7, u8, u9]) f292_38 rfl rfl) ?_
  obtain ⟨g1007, c1007, R1007⟩ := hI_a I1003 (r := 135) (a := 2) (n := 150) (lo := 0) (hi := 1) (by decide +kernel)
  refine drawC G2 G4 (by decide) (nb := x2_1006) (by omega) (by omega) (by omega) (by omega) _ v34 v37 _ _ _ _ rfl (by omega) (by omega) I1003 c1007 c1004 F1006 ?_ (fun σ1 h1 g1 x4 x5 I1 G1 c1 hc1 => ?_)
  · rw [show v37.toInt.toNat = 0 by omega]
    show _ = ((0 : Nat) : Int)
    omega
  have hle := cntN_le g1 x2_1006.toInt.toNat
  obtain ⟨fsb, cb, dfb⟩ := dG_o I1003.1 G1 c1004 (by decide)
  have Fb := (dfb 2 rfl).trans F1006
  refine wp1 (fun n d => r_iloadn f292_117 rfl) ?_
  refine wp1 (fun n d => r_iload f292_118 rfl) ?_
  refine wp_in (lv := 0) (Y := zM211) (lesser_wp) (fun n d v h' e => r_stat (as := [.int x3, .int x4]) (r := []) f292_120 rfl (show zmt[211]? = some zM211 from rfl) rfl rfl rfl rfl rfl rfl e) (by first | decide | omega) ?_
  rintro v h' ⟨rfl, v120, rfl, r5⟩
  show Wp _ _ _ _ 123 [some (.ref 72), some (.int x1), some (.int x2), some (.int x3), some (.int x4), some (.int x5), u6, u7, u8, u9] [.int v120] _
  refine wp1 (fun n d => r_istore (L' := [some (.ref 72), some (.int x1), some (.int x2), some (.int x3), some (.int x4), some (.int v120), u6, u7, u8, u9]) f292_123 rfl rfl) ?_
  refine w_iconst f292_125 (fun v125 hv125 => ?_)
  refine wp1 (fun n d => r_istore (L' := [some (.ref 72), some (.int x1), some (.int x2), some (.int x3), some (.int x4), some (.int v120), some (.int v125), u7, u8, u9]) f292_126 rfl rfl) ?_
  have B5 : v120.toInt ≤ x3.toInt ∧ v120.toInt ≤ x4.toInt ∧ 0 ≤ v120.toInt := by
    rcases r5 with ⟨rfl, q⟩ | ⟨rfl, q⟩ <;> omega
  refine drawO G5 (by decide) (by omega) (by omega) (nb := x2_1006) (by omega) (by omega) (by omega) (by omega) (by omega) (by omega) _ v125 _ _ _ σ1 h1 fsb g1 rfl (by omega) I1 c1 cb Fb (by omega) (fun σ2 h2 y6 w7 w8 w9 I2 G2' => ?_)
  revert w7 w8 w9; intro u7 u8 u9
  refine wp1 (fun n d => r_aloadn f292_308 rfl) ?_
  refine wp1 (fun n d => r_iload f292_309 rfl) ?_
  obtain ⟨fs3001, c3001⟩ := hI_o I2 (r := 72) (ci := 12) (by decide +kernel)
  refine w_putI f292_311 c3001 I2 (W := cC217.2.2.1) (lo := (-1)) (hi := 9) (by decide +kernel) (by decide) (by decide) (by omega) (by omega) (by decide) (by first | rfl | (simp [aok, zY])) (fun h3002 fs3002 I3002 G3002 c3002 Fx3002 nf3002 ne3002 => ?_)
  refine wp1 (fun n d => r_iload f292_314 rfl) ?_
  exact wp_end (fun n d => r_ireturn f292_316 rfl) (fin v120 _ _ I3002 (dG_trans (dG_sub (by decide) G1003) (dG_trans G1 (dG_trans G2' G3002))))
end
section
-- ===== runs that only read: two heaps that agree on what is read give the same answer =====
def lkV (A : List Nat) (v : Value) : Prop := match v with
  | .ref q => q = 72 ∨ q ∈ A
  | .int _ => True
  | .long _ => True
  | _ => False
def lkS (A : List Nat) (st : List Value) : Prop := ∀ v, v ∈ st → lkV A v
def lkL (A : List Nat) (l : aL) : Prop := ∀ i v, aG l i = some v → lkV A v
def lkH (F A : List Nat) (h h' : aH) : Prop := ∃ fs fs' : List Value, h.1[72]? = some (.inr (12, fs)) ∧ h'.1[72]? = some (.inr (12, fs')) ∧ (∀ f, f ∈ F → fs'[f]? = fs[f]? ∧ ∀ v, fs[f]? = some v → lkV A v) ∧ (∀ r, r ∈ A → h'.1[r]? = h.1[r]? ∧ ∃ x, h.1[r]? = some (.inl x))
def lkI (F SM : List Nat) (i : aI) : Bool := match i.2.1 with
  | .iconst _ => true
  | .bipush _ => true
  | .sipush _ => true
  | .iload_n _ => true
  | .iload _ => true
  | .aload_n _ => true
  | .istore_n _ => true
  | .istore _ => true
  | .iinc _ _ => true
  | .iadd => true
  | .isub => true
  | .imul => true
  | .iand => true
  | .ishr => true
  | .idiv => true
  | .goto _ => true
  | .ifCond _ _ => true
  | .if_icmp _ _ => true
  | .iaload => true
  | .baload => true
  | .ireturn => true
  | .getfield _ => Nat.beq i.2.2.2.1 12 && F.contains i.2.2.2.2
  | .invokestatic _ => Nat.blt i.2.2.2.1 1000 && SM.contains i.2.2.2.1
  | .invokevirtual _ => Nat.blt i.2.2.2.1 1000 && SM.contains i.2.2.2.1
  | _ => false
def lkM (F SM : List Nat) (M : aM) : Bool := M.2.2.2.2.2.2.2.all (lkI F SM)
def lkAll (F SM : List Nat) : Bool := SM.all (fun a => match zmt[a]? with
  | some Y => lkM F SM Y
  | none => true)
theorem lkL_set {A : List Nat} {l : aL} {j : Nat} {x : Option Value} (hl : lkL A l) (hx : ∀ v, x = some v → lkV A v) : lkL A (l.set j x) := by
  intro i v e
  have e := aG_get.mp e
  rw [List.getElem?_set] at e
  split at e
  · split at e
    · exact hx v (Option.some.inj e)
    · cases e
  · exact hl i v (aG_get.mpr e)
theorem lkL_clr {A : List Nat} {l : aL} {j : Nat} (hl : lkL A l) : lkL A (aclr l j) := by
  unfold aclr
  split
  · exact hl
  · split
    · exact lkL_set hl (fun v e => by cases e)
    · exact lkL_set hl (fun v e => by cases e)
    · exact hl
theorem lkL_S1 {A : List Nat} {l : aL} {j : Nat} {x : Value} (hl : lkL A l) (hx : lkV A x) : lkL A (aS1 l j x) := lkL_set (lkL_clr hl) (fun v e => by cases e; exact hx)
theorem lkL_cons {A : List Nat} {x : Option Value} {l : aL} (hx : ∀ v, x = some v → lkV A v) (hl : lkL A l) : lkL A (x :: l) := by
  intro i v e
  have e := aG_get.mp e
  cases i with
  | zero => exact hx v (Option.some.inj e)
  | succ i => exact hl i v (aG_get.mpr e)
theorem lkL_E {A : List Nat} : ∀ (as : List Value) (n : Nat), lkS A as → lkL A (aE n as)
  | [], n, _ => by
    intro i v e
    have e := aG_get.mp e
    simp only [aE, List.getElem?_replicate] at e
    split at e <;> cases e
  | x :: r, n, h => by
    have ih := fun m => lkL_E r m (fun v hv => h v (List.mem_cons_of_mem _ hv))
    have hx : ∀ v, some x = some v → lkV A v := fun v e => by cases e; exact h x List.mem_cons_self
    unfold aE
    cases Nat.beq x.category 2 with
    | true => exact lkL_cons hx (lkL_cons (fun v e => by cases e) (ih _))
    | false => exact lkL_cons hx (ih _)
theorem lkS_cons {A : List Nat} {x : Value} {st : List Value} (hx : lkV A x) (hs : lkS A st) : lkS A (x :: st) := fun v hv => (List.mem_cons.mp hv).elim (fun e => e ▸ hx) (hs v)
theorem lkS_tl {A : List Nat} {x : Value} {st : List Value} (hs : lkS A (x :: st)) : lkS A st := fun v hv => hs v (List.mem_cons_of_mem _ hv)
theorem lkS_nil {A : List Nat} : lkS A [] := fun v hv => by cases hv
theorem lkM_of {F SM : List Nat} (hA : lkAll F SM = true) {a : Nat} {Y : aM} (ha : SM.contains a = true) (hY : zmt[a]? = some Y) : lkM F SM Y = true := by
  have := List.all_eq_true.mp hA a (List.contains_iff_mem.mp ha)
  simp only [hY] at this
  exact this
theorem lk_obj {F A : List Nat} {h h' : aH} (HH : lkH F A h h') {o a : Nat} {fs : List Value} (ho : lkV A (.ref o)) (c : h.1[o]? = some (.inr (a, fs))) : o = 72 := by
  rcases ho with e | e
  · exact e
  · obtain ⟨f1, f2, -, -, -, k⟩ := HH
    obtain ⟨-, x, e2⟩ := k o e
    rw [c] at e2
    cases e2
theorem lk_arr {F A : List Nat} {h h' : aH} (HH : lkH F A h h') {o : Nat} {x : Nat × vp_A} (ho : lkV A (.ref o)) (c : h.1[o]? = some (.inl x)) : h'.1[o]? = some (.inl x) := by
  obtain ⟨f1, f2, c1, c2, -, k⟩ := HH
  rcases ho with e | e
  · subst e
    rw [c] at c1
    cases c1
  · rw [(k o e).1, c]
set_option maxHeartbeats 4000000 in
theorem lk_run {X : aX} {F A SM : List Nat} (hA : lkAll F SM = true) {h h' : aH} (HH : lkH F A h h') : ∀ (n d : Nat) (M : aM) (pc : Nat) (l : aL) (st : List Value) (v : Option Value) (h1 : aH), lkM F SM M = true → lkL A l → lkS A st → arun X n d M pc l st h = some (v, h1) → h1 = h ∧ (∀ w, v = some w → lkV A w) ∧ arun X n d M pc l st h' = some (v, h') := by
  intro n
  induction n with
  | zero =>
    intro d M pc l st v h1 _ _ _ hr
    unfold arun at hr
    cases hr
  | succ n ih =>
    intro d M pc l st v h1 hM hl hs hr
    cases hf : aF pc M.2.2.2.2.2.2.2 with
    | none =>
      unfold arun at hr
      rw [hf] at hr
      cases hr
    | some i =>
      obtain ⟨hm, hpc⟩ := aF_some hf
      have hc := List.all_eq_true.mp hM i hm
      obtain ⟨ipc, ins, len, a, b⟩ := i
      dsimp only at hpc
      subst hpc
      unfold lkI at hc
      dsimp only at hc
      have V1 : ∀ x : Int32, lkV A (.int x) := fun _ => trivial
      split at hc
      · rw [r_iconst hf rfl] at hr ⊢; exact ih _ _ _ _ _ _ _ hM hl (lkS_cons (V1 _) hs) hr
      · rw [r_bipush hf rfl] at hr ⊢; exact ih _ _ _ _ _ _ _ hM hl (lkS_cons (V1 _) hs) hr
      · rw [r_sipush hf rfl] at hr ⊢; exact ih _ _ _ _ _ _ _ hM hl (lkS_cons (V1 _) hs) hr
      · have hr' := hr
        rw [arun_p hf rfl] at hr'
        unfold aX1 at hr'
        dsimp only at hr'
        split at hr'
        · rename_i x e
          rw [r_iloadn hf e] at hr ⊢
          exact ih _ _ _ _ _ _ _ hM hl (lkS_cons (V1 _) hs) hr
        · cases hr'
      · have hr' := hr
        rw [arun_p hf rfl] at hr'
        unfold aX1 at hr'
        dsimp only at hr'
        split at hr'
        · rename_i x e
          rw [r_iload hf e] at hr ⊢
          exact ih _ _ _ _ _ _ _ hM hl (lkS_cons (V1 _) hs) hr
        · cases hr'
      · have hr' := hr
        rw [arun_p hf rfl] at hr'
        unfold aX1 at hr'
        dsimp only at hr'
        split at hr'
        · rename_i x e
          rw [r_aloadn hf e] at hr ⊢
          exact ih _ _ _ _ _ _ _ hM hl (lkS_cons (hl _ _ e) hs) hr
        · rename_i x e
          exact (hl _ _ e).elim
        · rename_i e
          exact (hl _ _ e).elim
        · cases hr'
      · have hr' := hr
        rw [arun_p hf rfl] at hr'
        unfold aX1 at hr'
        dsimp only at hr'
        obtain ⟨x, r, rfl, hr'⟩ := tI_some hr'
        obtain ⟨hz, -⟩ := abif hr'
        rw [r_istoren hf hz rfl] at hr ⊢
        exact ih _ _ _ _ _ _ _ hM (lkL_S1 hl (V1 _)) (lkS_tl hs) hr
      · have hr' := hr
        rw [arun_p hf rfl] at hr'
        unfold aX1 at hr'
        dsimp only at hr'
        obtain ⟨x, r, rfl, hr'⟩ := tI_some hr'
        obtain ⟨hz, -⟩ := abif hr'
        rw [r_istore hf hz rfl] at hr ⊢
        exact ih _ _ _ _ _ _ _ hM (lkL_S1 hl (V1 _)) (lkS_tl hs) hr
      · have hr' := hr
        rw [arun_p hf rfl] at hr'
        unfold aX1 at hr'
        dsimp only at hr'
        split at hr'
        · rename_i x e
          rw [r_iinc hf e rfl rfl] at hr ⊢
          exact ih _ _ _ _ _ _ _ hM (lkL_S1 hl (V1 _)) hs hr
        · cases hr'
      · have hr' := hr
        rw [arun_p hf rfl] at hr'
        unfold aX1 at hr'
        dsimp only at hr'
        obtain ⟨x, y, r, rfl, -⟩ := tII_some hr'
        rw [r_iadd hf rfl] at hr ⊢
        exact ih _ _ _ _ _ _ _ hM hl (lkS_cons (V1 _) (lkS_tl (lkS_tl hs))) hr
      · have hr' := hr
        rw [arun_p hf rfl] at hr'
        unfold aX1 at hr'
        dsimp only at hr'
        obtain ⟨x, y, r, rfl, -⟩ := tII_some hr'
        rw [r_isub hf rfl] at hr ⊢
        exact ih _ _ _ _ _ _ _ hM hl (lkS_cons (V1 _) (lkS_tl (lkS_tl hs))) hr
      · have hr' := hr
        rw [arun_p hf rfl] at hr'
        unfold aX1 at hr'
        dsimp only at hr'
        obtain ⟨x, y, r, rfl, -⟩ := tII_some hr'
        rw [r_imul hf rfl] at hr ⊢
        exact ih _ _ _ _ _ _ _ hM hl (lkS_cons (V1 _) (lkS_tl (lkS_tl hs))) hr
      · have hr' := hr
        rw [arun_p hf rfl] at hr'
        unfold aX1 at hr'
        dsimp only at hr'
        obtain ⟨x, y, r, rfl, -⟩ := tII_some hr'
        rw [r_iand hf rfl] at hr ⊢
        exact ih _ _ _ _ _ _ _ hM hl (lkS_cons (V1 _) (lkS_tl (lkS_tl hs))) hr
      · have hr' := hr
        rw [arun_p hf rfl] at hr'
        unfold aX1 at hr'
        dsimp only at hr'
        obtain ⟨x, y, r, rfl, -⟩ := tII_some hr'
        rw [r_ishr hf rfl] at hr ⊢
        exact ih _ _ _ _ _ _ _ hM hl (lkS_cons (V1 _) (lkS_tl (lkS_tl hs))) hr
      · have hr' := hr
        rw [arun_p hf rfl] at hr'
        unfold aX1 at hr'
        dsimp only at hr'
        obtain ⟨x, y, r, rfl, hr'⟩ := tII_some hr'
        obtain ⟨hy, -⟩ := anite hr'
        rw [r_idiv hf hy rfl] at hr ⊢
        exact ih _ _ _ _ _ _ _ hM hl (lkS_cons (V1 _) (lkS_tl (lkS_tl hs))) hr
      · rw [r_goto hf] at hr ⊢; exact ih _ _ _ _ _ _ _ hM hl hs hr
      · have hr' := hr
        rw [arun_p hf rfl] at hr'
        unfold aX1 at hr'
        dsimp only at hr'
        obtain ⟨x, r, rfl, -⟩ := tI_some hr'
        rw [r_cond hf] at hr ⊢
        revert hr
        generalize dBr _ x.toInt 0 = bb
        intro hr
        cases bb with
        | true => exact ih _ _ _ _ _ _ _ hM hl (lkS_tl hs) hr
        | false => exact ih _ _ _ _ _ _ _ hM hl (lkS_tl hs) hr
      · have hr' := hr
        rw [arun_p hf rfl] at hr'
        unfold aX1 at hr'
        dsimp only at hr'
        obtain ⟨x, y, r, rfl, -⟩ := tII_some hr'
        rw [r_cmp hf] at hr ⊢
        revert hr
        generalize dBr _ x.toInt y.toInt = bb
        intro hr
        cases bb with
        | true => exact ih _ _ _ _ _ _ _ hM hl (lkS_tl (lkS_tl hs)) hr
        | false => exact ih _ _ _ _ _ _ _ hM hl (lkS_tl (lkS_tl hs)) hr
      · have hr' := hr
        rw [arun_p hf rfl] at hr'
        unfold aX1 at hr'
        dsimp only at hr'
        split at hr'
        · rename_i j o r
          obtain ⟨t, k, g, c, hr'⟩ := aarI_some hr'
          obtain ⟨ht, hr'⟩ := abif hr'
          obtain ⟨hj, -⟩ := anite hr'
          cases Nat.eq_of_beq_eq_true ht
          have c' := lk_arr HH (hs _ (List.mem_cons_of_mem _ List.mem_cons_self)) c
          rw [r_iald hf c hj rfl] at hr
          rw [r_iald hf c' hj rfl]
          exact ih _ _ _ _ _ _ _ hM hl (lkS_cons (V1 _) (lkS_tl (lkS_tl hs))) hr
        · rename_i j e r
          exact (hs (.retAddr e) (List.mem_cons_of_mem _ List.mem_cons_self)).elim
        · cases hr'
      · have hr' := hr
        rw [arun_p hf rfl] at hr'
        unfold aX1 at hr'
        dsimp only at hr'
        split at hr'
        · rename_i j o r
          obtain ⟨t, k, g, c, hr'⟩ := aarI_some hr'
          obtain ⟨ht, hr'⟩ := abif hr'
          obtain ⟨hj, -⟩ := anite hr'
          have c' := lk_arr HH (hs _ (List.mem_cons_of_mem _ List.mem_cons_self)) c
          rw [Bool.or_eq_true] at ht
          rcases ht with ht | ht
          · cases Nat.eq_of_beq_eq_true ht
            rw [r_zald hf c hj rfl] at hr
            rw [r_zald hf c' hj rfl]
            exact ih _ _ _ _ _ _ _ hM hl (lkS_cons (V1 _) (lkS_tl (lkS_tl hs))) hr
          · cases Nat.eq_of_beq_eq_true ht
            rw [r_bald hf c hj rfl] at hr
            rw [r_bald hf c' hj rfl]
            exact ih _ _ _ _ _ _ _ hM hl (lkS_cons (V1 _) (lkS_tl (lkS_tl hs))) hr
        · cases hr'
      · -- ireturn
        have hr' := hr
        unfold arun at hr'
        rw [hf] at hr'
        dsimp only at hr'
        split at hr'
        · rename_i x
          unfold aretI at hr'
          split at hr'
          · rename_i e
            cases hr'
            exact ⟨rfl, fun w e => by cases e; trivial, r_ireturn hf e⟩
          · rename_i e
            rcases aite hr' with ⟨q, hr'⟩ | ⟨q, hr'⟩
            · cases hr'
              exact ⟨rfl, fun w e => by cases e; trivial, r_zreturn hf e q⟩
            · cases hr'
          · cases hr'
        · cases hr'
      · -- getfield
        rw [Bool.and_eq_true] at hc
        obtain ⟨hc1, hc2⟩ := hc
        cases Nat.eq_of_beq_eq_true hc1
        have hr' := hr
        rw [arun_p hf rfl] at hr'
        unfold aX1 at hr'
        dsimp only at hr'
        split at hr'
        · rename_i o r
          obtain ⟨f0, c, hq⟩ := aobj_some hr'
          have ho := lk_obj HH (hs _ List.mem_cons_self) c
          subst ho
          split at hq
          · rename_i w hw
            rw [r_get hf c hw] at hr
            obtain ⟨f1, f2, c1, c2, k1, k2⟩ := HH
            rw [c] at c1
            cases c1
            obtain ⟨k3, k4⟩ := k1 b (List.contains_iff_mem.mp hc2)
            rw [r_get hf c2 (k3.trans hw)]
            exact ih _ _ _ _ _ _ _ hM hl (lkS_cons (k4 _ hw) (lkS_tl hs)) hr
          · cases hq
        · cases hr'
      · -- invokestatic
        rw [Bool.and_eq_true, Nat.blt_eq] at hc
        obtain ⟨hc1, hc2⟩ := hc
        have b1 : Nat.beq a 1002 = false := by
          cases e : Nat.beq a 1002 with
          | false => rfl
          | true => have := Nat.eq_of_beq_eq_true e; omega
        have b2 : Nat.ble 1010 a = false := by
          cases e : Nat.ble 1010 a with
          | false => rfl
          | true => have := Nat.le_of_ble_eq_true e; omega
        have hr' := hr
        unfold arun at hr'
        rw [hf] at hr'
        dsimp only at hr'
        rw [b1, b2] at hr'
        simp only [cond_false] at hr'
        split at hr'
        · rename_i Y hY
          obtain ⟨q1, hr'⟩ := abif hr'
          obtain ⟨as, r, rfl, q2, hr'⟩ := acut_some hr'
          obtain ⟨q3, hr'⟩ := aent_some hr'
          obtain ⟨d', v2, h2, rfl, q4, q5, q6⟩ := aback_some hr'
          have has : lkS A as := fun v hv => hs v (List.mem_append_left _ (List.mem_reverse.mpr hv))
          have hsr : lkS A r := fun v hv => hs v (List.mem_append_right _ hv)
          obtain ⟨rfl, t2, t3⟩ := ih _ _ _ _ _ _ _ (lkM_of hA hc2 hY) (lkL_E as _ has) lkS_nil q5
          rw [r_stat hf (by rw [b1, b2]; rfl) hY (Nat.eq_of_beq_eq_true q1) rfl q2 (by rw [Nat.ble_eq]; exact q3) (by rw [Nat.ble_eq]; exact q4) rfl t3]
          refine ih _ _ _ _ _ _ _ hM hl ?_ q6
          intro w hw
          rcases List.mem_append.mp hw with e | e
          · cases v2 with
            | none => cases e
            | some u => cases List.mem_singleton.mp e; exact t2 _ rfl
          · exact hsr w e
        · cases hr'
      · -- invokevirtual
        rw [Bool.and_eq_true, Nat.blt_eq] at hc
        obtain ⟨hc1, hc2⟩ := hc
        have b1 : Nat.beq a 1001 = false := by
          cases e : Nat.beq a 1001 with
          | false => rfl
          | true => have := Nat.eq_of_beq_eq_true e; omega
        have hr' := hr
        unfold arun at hr'
        rw [hf] at hr'
        dsimp only at hr'
        rw [b1] at hr'
        simp only [cond_false] at hr'
        split at hr'
        · rename_i Y hY
          obtain ⟨q1, hr2⟩ := abif hr'
          clear hr'
          obtain ⟨as, r, rfl, q2, hr3⟩ := acut_some hr2
          clear hr2
          rcases r with _ | ⟨v0, r'⟩
          · cases hr3
          cases v0 <;> (try (cases hr3; done))
          · rename_i o
            obtain ⟨f0, c, hr4⟩ := aobj_some hr3
            obtain ⟨q3, hr5⟩ := aent_some hr4
            obtain ⟨d', v2, h2, rfl, q4, q5, q6⟩ := aback_some hr5
            have has : lkS A as := fun v hv => hs v (List.mem_append_left _ (List.mem_reverse.mpr hv))
            have hsr : lkS A (.ref o :: r') := fun v hv => hs v (List.mem_append_right _ hv)
            obtain ⟨rfl, t2, t3⟩ := ih _ _ _ _ _ _ _ (lkM_of hA hc2 hY) (lkL_E _ _ (lkS_cons (hsr _ List.mem_cons_self) has)) lkS_nil q5
            have c' : ∃ fs', h'.1[o]? = some (.inr (Y.1, fs')) := by
              cases lk_obj HH (hsr _ List.mem_cons_self) c
              obtain ⟨f1, f2, c1, c2, -, -⟩ := HH
              have e1 := (Prod.mk.inj (Sum.inr.inj (Option.some.inj (c.symm.trans c1)))).1
              exact ⟨f2, by rw [e1]; exact c2⟩
            obtain ⟨fs', c'⟩ := c'
            rw [r_virt hf c' hY (Nat.eq_of_beq_eq_true q1) rfl q2 (by rw [Nat.ble_eq]; exact q3) (by rw [Nat.ble_eq]; exact q4) rfl t3]
            refine ih _ _ _ _ _ _ _ hM hl ?_ q6
            intro w hw
            rcases List.mem_append.mp hw with e | e
            · cases v2 with
              | none => cases e
              | some u => cases List.mem_singleton.mp e; exact t2 _ rfl
            · exact hsr w (List.mem_cons_of_mem _ e)
        · cases hr'
      · cases hc
end

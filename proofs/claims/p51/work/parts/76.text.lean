-- ===== by hand: text =====
theorem f263_0 : aF 0 zM263.2.2.2.2.2.2.2 = some (0, (.iload_n 0), 1, 0, 0) := by decide +kernel
theorem f263_1 : aF 1 zM263.2.2.2.2.2.2.2 = some (1, (.iconst 0), 1, 0, 0) := by decide +kernel
theorem f263_2 : aF 2 zM263.2.2.2.2.2.2.2 = some (2, (.bipush 33), 2, 0, 0) := by decide +kernel
theorem f263_4 : aF 4 zM263.2.2.2.2.2.2.2 = some (4, (.invokestatic 258), 3, 196, 0) := by decide +kernel
theorem f263_7 : aF 7 zM263.2.2.2.2.2.2.2 = some (7, (.ifCond .eq 15), 3, 22, 0) := by decide +kernel
theorem f263_10 : aF 10 zM263.2.2.2.2.2.2.2 = some (10, (.iload_n 0), 1, 0, 0) := by decide +kernel
theorem f263_11 : aF 11 zM263.2.2.2.2.2.2.2 = some (11, (.bipush 10), 2, 0, 0) := by decide +kernel
theorem f263_13 : aF 13 zM263.2.2.2.2.2.2.2 = some (13, .irem, 1, 0, 0) := by decide +kernel
theorem f263_14 : aF 14 zM263.2.2.2.2.2.2.2 = some (14, (.iconst 3), 1, 0, 0) := by decide +kernel
theorem f263_15 : aF 15 zM263.2.2.2.2.2.2.2 = some (15, (.if_icmp .gt 7), 3, 22, 0) := by decide +kernel
theorem f263_18 : aF 18 zM263.2.2.2.2.2.2.2 = some (18, (.iconst 1), 1, 0, 0) := by decide +kernel
theorem f263_19 : aF 19 zM263.2.2.2.2.2.2.2 = some (19, (.goto 4), 3, 23, 0) := by decide +kernel
theorem f263_22 : aF 22 zM263.2.2.2.2.2.2.2 = some (22, (.iconst 0), 1, 0, 0) := by decide +kernel
theorem f263_23 : aF 23 zM263.2.2.2.2.2.2.2 = some (23, .ireturn, 1, 0, 0) := by decide +kernel
theorem f264_0 : aF 0 zM264.2.2.2.2.2.2.2 = some (0, (.iload_n 1), 1, 0, 0) := by decide +kernel
theorem f264_1 : aF 1 zM264.2.2.2.2.2.2.2 = some (1, (.invokestatic 442), 3, 263, 0) := by decide +kernel
theorem f264_4 : aF 4 zM264.2.2.2.2.2.2.2 = some (4, (.ifCond .eq 10), 3, 14, 0) := by decide +kernel
theorem f264_7 : aF 7 zM264.2.2.2.2.2.2.2 = some (7, (.iload_n 2), 1, 0, 0) := by decide +kernel
theorem f264_8 : aF 8 zM264.2.2.2.2.2.2.2 = some (8, (.invokestatic 372), 3, 198, 0) := by decide +kernel
theorem f264_11 : aF 11 zM264.2.2.2.2.2.2.2 = some (11, (.ifCond .ne 5), 3, 16, 0) := by decide +kernel
theorem f264_14 : aF 14 zM264.2.2.2.2.2.2.2 = some (14, (.iconst (-1)), 1, 0, 0) := by decide +kernel
theorem f264_15 : aF 15 zM264.2.2.2.2.2.2.2 = some (15, .ireturn, 1, 0, 0) := by decide +kernel
theorem f264_16 : aF 16 zM264.2.2.2.2.2.2.2 = some (16, (.aload_n 0), 1, 0, 0) := by decide +kernel
theorem f264_17 : aF 17 zM264.2.2.2.2.2.2.2 = some (17, (.getfield 445), 3, 12, 55) := by decide +kernel
theorem f264_20 : aF 20 zM264.2.2.2.2.2.2.2 = some (20, (.bipush 16), 2, 0, 0) := by decide +kernel
theorem f264_22 : aF 22 zM264.2.2.2.2.2.2.2 = some (22, (.if_icmp .ne 6), 3, 28, 0) := by decide +kernel
theorem f264_25 : aF 25 zM264.2.2.2.2.2.2.2 = some (25, (.bipush (-3)), 2, 0, 0) := by decide +kernel
theorem f264_27 : aF 27 zM264.2.2.2.2.2.2.2 = some (27, .ireturn, 1, 0, 0) := by decide +kernel
theorem f264_28 : aF 28 zM264.2.2.2.2.2.2.2 = some (28, (.aload_n 0), 1, 0, 0) := by decide +kernel
theorem f264_29 : aF 29 zM264.2.2.2.2.2.2.2 = some (29, (.aload_n 0), 1, 0, 0) := by decide +kernel
theorem f264_30 : aF 30 zM264.2.2.2.2.2.2.2 = some (30, (.getfield 445), 3, 12, 55) := by decide +kernel
theorem f264_33 : aF 33 zM264.2.2.2.2.2.2.2 = some (33, (.putfield 400), 3, 12, 67) := by decide +kernel
theorem f264_36 : aF 36 zM264.2.2.2.2.2.2.2 = some (36, (.aload_n 0), 1, 0, 0) := by decide +kernel
theorem f264_37 : aF 37 zM264.2.2.2.2.2.2.2 = some (37, (.getfield 161), 3, 12, 59) := by decide +kernel
theorem f264_40 : aF 40 zM264.2.2.2.2.2.2.2 = some (40, (.aload_n 0), 1, 0, 0) := by decide +kernel
theorem f264_41 : aF 41 zM264.2.2.2.2.2.2.2 = some (41, (.getfield 400), 3, 12, 67) := by decide +kernel
theorem f264_44 : aF 44 zM264.2.2.2.2.2.2.2 = some (44, (.iconst 0), 1, 0, 0) := by decide +kernel
theorem f264_45 : aF 45 zM264.2.2.2.2.2.2.2 = some (45, .iastore, 1, 0, 0) := by decide +kernel
theorem f264_46 : aF 46 zM264.2.2.2.2.2.2.2 = some (46, (.aload_n 0), 1, 0, 0) := by decide +kernel
theorem f264_47 : aF 47 zM264.2.2.2.2.2.2.2 = some (47, (.iconst 0), 1, 0, 0) := by decide +kernel
theorem f264_48 : aF 48 zM264.2.2.2.2.2.2.2 = some (48, (.putfield 403), 3, 12, 68) := by decide +kernel
theorem f264_51 : aF 51 zM264.2.2.2.2.2.2.2 = some (51, (.aload_n 0), 1, 0, 0) := by decide +kernel
theorem f264_52 : aF 52 zM264.2.2.2.2.2.2.2 = some (52, (.iconst 0), 1, 0, 0) := by decide +kernel
theorem f264_53 : aF 53 zM264.2.2.2.2.2.2.2 = some (53, (.putfield 394), 3, 12, 64) := by decide +kernel
theorem f264_56 : aF 56 zM264.2.2.2.2.2.2.2 = some (56, (.aload_n 0), 1, 0, 0) := by decide +kernel
theorem f264_57 : aF 57 zM264.2.2.2.2.2.2.2 = some (57, (.iconst (-1)), 1, 0, 0) := by decide +kernel
theorem f264_58 : aF 58 zM264.2.2.2.2.2.2.2 = some (58, (.putfield 397), 3, 12, 65) := by decide +kernel
theorem f264_61 : aF 61 zM264.2.2.2.2.2.2.2 = some (61, (.aload_n 0), 1, 0, 0) := by decide +kernel
theorem f264_62 : aF 62 zM264.2.2.2.2.2.2.2 = some (62, (.iconst 0), 1, 0, 0) := by decide +kernel
theorem f264_63 : aF 63 zM264.2.2.2.2.2.2.2 = some (63, (.putfield 406), 3, 12, 66) := by decide +kernel
theorem f264_66 : aF 66 zM264.2.2.2.2.2.2.2 = some (66, (.aload_n 0), 1, 0, 0) := by decide +kernel
theorem f264_67 : aF 67 zM264.2.2.2.2.2.2.2 = some (67, (.invokevirtual 448), 3, 262, 0) := by decide +kernel
theorem f264_70 : aF 70 zM264.2.2.2.2.2.2.2 = some (70, (.aload_n 0), 1, 0, 0) := by decide +kernel
theorem f264_71 : aF 71 zM264.2.2.2.2.2.2.2 = some (71, (.getfield 397), 3, 12, 65) := by decide +kernel
theorem f264_74 : aF 74 zM264.2.2.2.2.2.2.2 = some (74, (.ifCond .ge 29), 3, 103, 0) := by decide +kernel
theorem f264_77 : aF 77 zM264.2.2.2.2.2.2.2 = some (77, (.aload_n 0), 1, 0, 0) := by decide +kernel
theorem f264_78 : aF 78 zM264.2.2.2.2.2.2.2 = some (78, (.invokevirtual 412), 3, 251, 0) := by decide +kernel
theorem f264_81 : aF 81 zM264.2.2.2.2.2.2.2 = some (81, (.bipush 59), 2, 0, 0) := by decide +kernel
theorem f264_83 : aF 83 zM264.2.2.2.2.2.2.2 = some (83, (.if_icmp .ne 20), 3, 103, 0) := by decide +kernel
theorem f264_86 : aF 86 zM264.2.2.2.2.2.2.2 = some (86, (.aload_n 0), 1, 0, 0) := by decide +kernel
theorem f264_87 : aF 87 zM264.2.2.2.2.2.2.2 = some (87, .dup, 1, 0, 0) := by decide +kernel
theorem f264_88 : aF 88 zM264.2.2.2.2.2.2.2 = some (88, (.getfield 394), 3, 12, 64) := by decide +kernel
theorem f264_91 : aF 91 zM264.2.2.2.2.2.2.2 = some (91, (.iconst 1), 1, 0, 0) := by decide +kernel
theorem f264_92 : aF 92 zM264.2.2.2.2.2.2.2 = some (92, .iadd, 1, 0, 0) := by decide +kernel
theorem f264_93 : aF 93 zM264.2.2.2.2.2.2.2 = some (93, (.putfield 394), 3, 12, 64) := by decide +kernel
theorem f264_96 : aF 96 zM264.2.2.2.2.2.2.2 = some (96, (.aload_n 0), 1, 0, 0) := by decide +kernel
theorem f264_97 : aF 97 zM264.2.2.2.2.2.2.2 = some (97, (.invokevirtual 448), 3, 262, 0) := by decide +kernel
theorem f264_100 : aF 100 zM264.2.2.2.2.2.2.2 = some (100, (.goto (-30)), 3, 70, 0) := by decide +kernel
theorem f264_103 : aF 103 zM264.2.2.2.2.2.2.2 = some (103, (.aload_n 0), 1, 0, 0) := by decide +kernel
theorem f264_104 : aF 104 zM264.2.2.2.2.2.2.2 = some (104, (.getfield 397), 3, 12, 65) := by decide +kernel
theorem f264_107 : aF 107 zM264.2.2.2.2.2.2.2 = some (107, (.ifCond .ge 18), 3, 125, 0) := by decide +kernel
theorem f264_110 : aF 110 zM264.2.2.2.2.2.2.2 = some (110, (.aload_n 0), 1, 0, 0) := by decide +kernel
theorem f264_111 : aF 111 zM264.2.2.2.2.2.2.2 = some (111, (.getfield 394), 3, 12, 64) := by decide +kernel
theorem f264_114 : aF 114 zM264.2.2.2.2.2.2.2 = some (114, (.aload_n 0), 1, 0, 0) := by decide +kernel
theorem f264_115 : aF 115 zM264.2.2.2.2.2.2.2 = some (115, (.getfield 391), 3, 12, 54) := by decide +kernel
theorem f264_118 : aF 118 zM264.2.2.2.2.2.2.2 = some (118, (.if_icmp .ge 7), 3, 125, 0) := by decide +kernel
theorem f264_121 : aF 121 zM264.2.2.2.2.2.2.2 = some (121, (.aload_n 0), 1, 0, 0) := by decide +kernel
theorem f264_122 : aF 122 zM264.2.2.2.2.2.2.2 = some (122, (.invokevirtual 409), 3, 252, 0) := by decide +kernel
theorem f264_125 : aF 125 zM264.2.2.2.2.2.2.2 = some (125, (.aload_n 0), 1, 0, 0) := by decide +kernel
theorem f264_126 : aF 126 zM264.2.2.2.2.2.2.2 = some (126, (.iconst 0), 1, 0, 0) := by decide +kernel
theorem f264_127 : aF 127 zM264.2.2.2.2.2.2.2 = some (127, (.putfield 391), 3, 12, 54) := by decide +kernel
theorem f264_130 : aF 130 zM264.2.2.2.2.2.2.2 = some (130, (.aload_n 0), 1, 0, 0) := by decide +kernel
theorem f264_131 : aF 131 zM264.2.2.2.2.2.2.2 = some (131, (.getfield 397), 3, 12, 65) := by decide +kernel
theorem f264_134 : aF 134 zM264.2.2.2.2.2.2.2 = some (134, (.ifCond .lt 11), 3, 145, 0) := by decide +kernel
theorem f264_137 : aF 137 zM264.2.2.2.2.2.2.2 = some (137, (.bipush (-100)), 2, 0, 0) := by decide +kernel
theorem f264_139 : aF 139 zM264.2.2.2.2.2.2.2 = some (139, (.aload_n 0), 1, 0, 0) := by decide +kernel
theorem f264_140 : aF 140 zM264.2.2.2.2.2.2.2 = some (140, (.getfield 397), 3, 12, 65) := by decide +kernel
theorem f264_143 : aF 143 zM264.2.2.2.2.2.2.2 = some (143, .isub, 1, 0, 0) := by decide +kernel
theorem f264_144 : aF 144 zM264.2.2.2.2.2.2.2 = some (144, .ireturn, 1, 0, 0) := by decide +kernel
theorem f264_145 : aF 145 zM264.2.2.2.2.2.2.2 = some (145, (.aload_n 0), 1, 0, 0) := by decide +kernel
theorem f264_146 : aF 146 zM264.2.2.2.2.2.2.2 = some (146, (.getfield 152), 3, 12, 56) := by decide +kernel
theorem f264_149 : aF 149 zM264.2.2.2.2.2.2.2 = some (149, (.aload_n 0), 1, 0, 0) := by decide +kernel
theorem f264_150 : aF 150 zM264.2.2.2.2.2.2.2 = some (150, (.getfield 445), 3, 12, 55) := by decide +kernel
theorem f264_153 : aF 153 zM264.2.2.2.2.2.2.2 = some (153, (.iload_n 1), 1, 0, 0) := by decide +kernel
theorem f264_154 : aF 154 zM264.2.2.2.2.2.2.2 = some (154, .iastore, 1, 0, 0) := by decide +kernel
theorem f264_155 : aF 155 zM264.2.2.2.2.2.2.2 = some (155, (.aload_n 0), 1, 0, 0) := by decide +kernel
theorem f264_156 : aF 156 zM264.2.2.2.2.2.2.2 = some (156, (.getfield 155), 3, 12, 57) := by decide +kernel
theorem f264_159 : aF 159 zM264.2.2.2.2.2.2.2 = some (159, (.aload_n 0), 1, 0, 0) := by decide +kernel
theorem f264_160 : aF 160 zM264.2.2.2.2.2.2.2 = some (160, (.getfield 445), 3, 12, 55) := by decide +kernel
theorem f264_163 : aF 163 zM264.2.2.2.2.2.2.2 = some (163, (.aload_n 0), 1, 0, 0) := by decide +kernel
theorem f264_164 : aF 164 zM264.2.2.2.2.2.2.2 = some (164, (.getfield 262), 3, 12, 1) := by decide +kernel
theorem f264_167 : aF 167 zM264.2.2.2.2.2.2.2 = some (167, .iastore, 1, 0, 0) := by decide +kernel
theorem f264_168 : aF 168 zM264.2.2.2.2.2.2.2 = some (168, (.aload_n 0), 1, 0, 0) := by decide +kernel
theorem f264_169 : aF 169 zM264.2.2.2.2.2.2.2 = some (169, (.getfield 158), 3, 12, 58) := by decide +kernel
theorem f264_172 : aF 172 zM264.2.2.2.2.2.2.2 = some (172, (.aload_n 0), 1, 0, 0) := by decide +kernel
theorem f264_173 : aF 173 zM264.2.2.2.2.2.2.2 = some (173, (.getfield 445), 3, 12, 55) := by decide +kernel
theorem f264_176 : aF 176 zM264.2.2.2.2.2.2.2 = some (176, (.iload_n 2), 1, 0, 0) := by decide +kernel
theorem f264_177 : aF 177 zM264.2.2.2.2.2.2.2 = some (177, .iastore, 1, 0, 0) := by decide +kernel
theorem f264_178 : aF 178 zM264.2.2.2.2.2.2.2 = some (178, (.aload_n 0), 1, 0, 0) := by decide +kernel
theorem f264_179 : aF 179 zM264.2.2.2.2.2.2.2 = some (179, .dup, 1, 0, 0) := by decide +kernel
theorem f264_180 : aF 180 zM264.2.2.2.2.2.2.2 = some (180, (.getfield 445), 3, 12, 55) := by decide +kernel
theorem f264_183 : aF 183 zM264.2.2.2.2.2.2.2 = some (183, (.iconst 1), 1, 0, 0) := by decide +kernel
theorem f264_184 : aF 184 zM264.2.2.2.2.2.2.2 = some (184, .iadd, 1, 0, 0) := by decide +kernel
theorem f264_185 : aF 185 zM264.2.2.2.2.2.2.2 = some (185, (.putfield 445), 3, 12, 55) := by decide +kernel
theorem f264_188 : aF 188 zM264.2.2.2.2.2.2.2 = some (188, (.aload_n 0), 1, 0, 0) := by decide +kernel
theorem f264_189 : aF 189 zM264.2.2.2.2.2.2.2 = some (189, (.getfield 445), 3, 12, 55) := by decide +kernel
theorem f264_192 : aF 192 zM264.2.2.2.2.2.2.2 = some (192, (.iconst 1), 1, 0, 0) := by decide +kernel
theorem f264_193 : aF 193 zM264.2.2.2.2.2.2.2 = some (193, .isub, 1, 0, 0) := by decide +kernel
theorem f264_194 : aF 194 zM264.2.2.2.2.2.2.2 = some (194, .ireturn, 1, 0, 0) := by decide +kernel
theorem isWhat_wp {X : aX} {h : aH} {x : Int32} : Wp X 1 zM263 (fun v h' => h = h' ∧ ∃ r : Int32, v = some (.int r)) 0 [some (.int x)] [] h := by
  have k22 : Wp X 1 zM263 (fun v h' => h = h' ∧ ∃ r : Int32, v = some (.int r)) 22 [some (.int x)] [] h :=
    w_iconst f263_22 (fun v hv => wp_end (fun n d => r_zreturn f263_23 rfl (Or.inl (b_i.mpr hv))) ⟨rfl, v, rfl⟩)
  refine wp1 (fun n d => r_iloadn f263_0 rfl) ?_
  refine w_iconst f263_1 (fun a ha => ?_)
  refine w_bipush f263_2 (fun b hb => ?_)
  refine wp_in (lv := 0) (Y := zM196) (in_wp (x := x) (a := a) (b := b)) (fun n d v h' e => r_stat (as := [.int x, .int a, .int b]) (r := []) f263_4 rfl (show zmt[196]? = some zM196 from rfl) rfl rfl rfl rfl rfl rfl e) (by decide) ?_
  rintro v h' ⟨rfl, r, rfl, h01, hr⟩
  refine w_if_eq f263_7 (fun _ => k22) (fun e => ?_)
  have := hr (by omega)
  refine wp1 (fun n d => r_iloadn f263_10 rfl) ?_
  refine w_bipush f263_11 (fun ten h10 => ?_)
  refine w_irem f263_13 (by omega) (by omega) (fun z hz hz0 hz1 => ?_)
  refine w_iconst f263_14 (fun t ht => ?_)
  refine w_icmp_gt f263_15 (fun _ => k22) (fun _ => ?_)
  refine w_iconst f263_18 (fun v hv => ?_)
  refine wp1 (fun n d => r_goto f263_19) ?_
  exact wp_end (fun n d => r_zreturn f263_23 rfl (Or.inr (b_i.mpr hv))) ⟨rfl, v, rfl⟩
theorem hI_tx {σ : List Nat} {h : aH} (I : dI σ h) {fs : List Value} {y : Int32} (c72 : h.1[72]? = some (.inr (12, fs))) (y0 : 0 ≤ y.toInt) (y1 : y.toInt ≤ 16) (J : dJ3 (h.1.set 72 (.inr (12, fs.set 55 (.int y))), h.2)) : dI σ (h.1.set 72 (.inr (12, fs.set 55 (.int y))), h.2) ∧ dG cC144.2.2.1 σ h σ (h.1.set 72 (.inr (12, fs.set 55 (.int y))), h.2) := by
  have k : tkI 72 55 0 16 = true := by decide +kernel
  unfold tkI at k
  split at k
  · rename_i t e
    rw [Bool.and_eq_true, Bool.and_eq_true, Nat.blt_eq] at k
    obtain ⟨⟨k1, k2⟩, k3⟩ := k
    have h0 : t.1 = 0 := Nat.eq_of_beq_eq_true k1
    have hs := I.1.2.2.2 72 k2
    obtain ⟨c, d1, d2⟩ := dH_cell I.1 hs e
    obtain ⟨fs', f1, f2, f3⟩ := dC_0 d2 h0
    rw [c72, f1] at d1
    have d3 := Option.some.inj d1
    injection d3 with d3
    have e12 : t.2.1 = 12 := (Prod.mk.inj d3).1.symm
    have efs : fs = fs' := (Prod.mk.inj d3).2
    subst efs
    split at k3
    · rename_i ty ety
      simp only [Bool.and_eq_true, ceI_i] at k3
      have hv : dT σ ty (.int y) := by
        unfold dT
        rw [Nat.eq_of_beq_eq_true k3.1.1]
        exact ⟨y, rfl, by omega, by omega⟩
      have hb : 55 < fs.length := by rw [f2]; exact (List.getElem?_eq_some_iff.mp ety).1
      have hC : dC σ t (.inr (12, fs.set 55 (.int y))) := by
        unfold dC
        rw [h0]
        refine ⟨_, by rw [e12], by rw [List.length_set]; exact f2, fun i ty' e' => ?_⟩
        by_cases hi : 55 = i
        · subst hi
          rw [ety] at e'; cases e'
          exact ⟨_, by rw [List.getElem?_set, if_pos rfl, if_pos hb], hv⟩
        · obtain ⟨v', g1, g2⟩ := f3 i ty' e'
          exact ⟨v', by rw [List.getElem?_set, if_neg hi]; exact g1, g2⟩
      refine ⟨⟨dH_set I.1 hs e hC, hJ2 I.2.1 fun q hq => set_ne' (by omega), J⟩, dG_set I.1 hs e (by omega) c72 ⟨(fun x q => by cases q), fun ci f0 q => ?_⟩⟩
      cases q
      refine ⟨_, rfl, fun i hi => ?_⟩
      by_cases h55 : 55 = i
      · subst h55
        exact absurd hi (by decide)
      · rw [List.getElem?_set, if_neg h55]
    · cases k3
  · cases k
theorem hl55 {σ : List Nat} {h : aH} (I : dI σ h) {fs : List Value} {x : Int32} (F : fs[55]? = some (.int x)) : Nat.blt 55 fs.length = true := by
  rw [Nat.blt_eq]
  exact (List.getElem?_eq_some_iff.mp F).1
theorem text_tail {X : aX} {σ : List Nat} {h : aH} {x1 x2 rw tp : Int32} {gT : Nat → Int32} (fin : ∀ (x : Int32) (h' : aH), dI σ h' → dG cC144.2.2.1 σ h σ h' → hQ cC144 σ h (some (.int x)) h') : ∀ (h1 : aH) (hr ft op ld : Int32) (ga gw gm gt gl : Nat → Int32) (c : Nat), dG cC144.2.2.1 σ h σ h1 → PS σ h1 hr ft op rw ld tp ga gw gT → TS h1 gm gt gl → (gm rw.toInt.toNat).toInt = c → (ft.toInt < 0 → c ≤ 90 ∧ LN rw.toInt.toNat c ld.toInt.toNat ga gw gt gl) → Wp X 60 zM264 (hQ cC144 σ h) 125 [some (.ref 72), some (.int x1), some (.int x2)] [] h1 := by
  intro h1 hr ft op ld ga gw gm gt gl c G1 P T hc hN
  have B0 := PS_b P
  obtain ⟨I, ⟨fs, c72, F64, F65, F66, F67, F68, F54, F55⟩, c122, c123, cT, -⟩ := P
  obtain ⟨c119, c120, c121⟩ := T
  refine wp1 (fun n d => r_aloadn f264_125 rfl) ?_
  refine w_iconst f264_126 (fun v126 hv126 => ?_)
  refine w_putI f264_127 c72 I (W := cC144.2.2.1) (lo := 0) (hi := 160) (by decide +kernel) (by decide) (by decide) (by omega) (by omega) (by decide) (by first | rfl | (simp [aok, zY])) (fun h1001 fs1001 I1001 G1001 c1001 Fx1001 nf1001 ne1001 => ?_)
  have c1002 := (ne1001 119 (by decide)).trans c119
  have c1003 := (ne1001 120 (by decide)).trans c120
  have c1004 := (ne1001 121 (by decide)).trans c121
  have c1005 := (ne1001 122 (by decide)).trans c122
  have c1006 := (ne1001 123 (by decide)).trans c123
  have F1007 := (nf1001 65 (by decide)).trans F65
  have F1008 := (nf1001 55 (by decide)).trans F55
  refine wp1 (fun n d => r_aloadn f264_130 rfl) ?_
  refine w_get f264_131 c1001 F1007 ?_
  refine w_if_lt f264_134 (fun f1 => ?_) (fun f1 => ?_)
  rotate_left
  · refine w_bipush f264_137 (fun v137 hv137 => ?_)
    refine wp1 (fun n d => r_aloadn f264_139 rfl) ?_
    refine w_get f264_140 c1001 F1007 ?_
    refine w_isub f264_143 (by omega) (by omega) (fun v143 hv143 => ?_)
    exact wp_end (fun n d => r_ireturn f264_144 rfl) (fin _ _ I1001 (dG_trans G1 G1001))
  obtain ⟨c90, N⟩ := hN f1
  refine wp1 (fun n d => r_aloadn f264_145 rfl) ?_
  have F1009 := hI_r I1001 c1001 (f := 56) (q := 116) (by decide +kernel)
  refine w_get f264_146 c1001 F1009 ?_
  refine wp1 (fun n d => r_aloadn f264_149 rfl) ?_
  refine w_get f264_150 c1001 F1008 ?_
  refine wp1 (fun n d => r_iloadn f264_153 rfl) ?_
  obtain ⟨g1010, c1010, R1010⟩ := hI_a I1001 (r := 116) (a := 0) (n := 16) (lo := (-2147483648)) (hi := 2147483647) (by decide +kernel)
  refine w_iastI f264_154 c1010 (by omega) (by omega) I1001 (W := cC144.2.2.1) (lo := (-2147483648)) (hi := 2147483647) (by decide +kernel) (by decide) (iR x1).1 (iR x1).2 (fun h1011 I1011 G1011 c1011 ne1011 => ?_)
  obtain ⟨g1011, hg1011⟩ : ∃ g', g' = upd g1010 rw.toInt.toNat x1 := ⟨_, rfl⟩
  rw [← hg1011] at c1011
  have c1012 := (ne1011 72 (by decide)).trans c1001
  have c1013 := (ne1011 119 (by decide)).trans c1002
  have c1014 := (ne1011 120 (by decide)).trans c1003
  have c1015 := (ne1011 121 (by decide)).trans c1004
  have c1016 := (ne1011 122 (by decide)).trans c1005
  have c1017 := (ne1011 123 (by decide)).trans c1006
  refine wp1 (fun n d => r_aloadn f264_155 rfl) ?_
  have F1018 := hI_r I1011 c1012 (f := 57) (q := 117) (by decide +kernel)
  refine w_get f264_156 c1012 F1018 ?_
  refine wp1 (fun n d => r_aloadn f264_159 rfl) ?_
  refine w_get f264_160 c1012 F1008 ?_
  refine wp1 (fun n d => r_aloadn f264_163 rfl) ?_
  obtain ⟨x1_1019, F1019, lo1019, hi1019⟩ := hI_i I1011 c1012 (f := 1) (lo := 0) (hi := 3649) (by decide +kernel)
  refine w_get f264_164 c1012 F1019 ?_
  obtain ⟨g1020, c1020, R1020⟩ := hI_a I1011 (r := 117) (a := 0) (n := 16) (lo := (-2147483648)) (hi := 2147483647) (by decide +kernel)
  refine w_iastI f264_167 c1020 (by omega) (by omega) I1011 (W := cC144.2.2.1) (lo := (-2147483648)) (hi := 2147483647) (by decide +kernel) (by decide) (iR x1_1019).1 (iR x1_1019).2 (fun h1021 I1021 G1021 c1021 ne1021 => ?_)
  obtain ⟨g1021, hg1021⟩ : ∃ g', g' = upd g1020 rw.toInt.toNat x1_1019 := ⟨_, rfl⟩
  rw [← hg1021] at c1021
  have c1022 := (ne1021 72 (by decide)).trans c1012
  have c1023 := (ne1021 119 (by decide)).trans c1013
  have c1024 := (ne1021 120 (by decide)).trans c1014
  have c1025 := (ne1021 121 (by decide)).trans c1015
  have c1026 := (ne1021 122 (by decide)).trans c1016
  have c1027 := (ne1021 123 (by decide)).trans c1017
  have c1028 := (ne1021 116 (by decide)).trans c1011
  refine wp1 (fun n d => r_aloadn f264_168 rfl) ?_
  have F1029 := hI_r I1021 c1022 (f := 58) (q := 118) (by decide +kernel)
  refine w_get f264_169 c1022 F1029 ?_
  refine wp1 (fun n d => r_aloadn f264_172 rfl) ?_
  refine w_get f264_173 c1022 F1008 ?_
  refine wp1 (fun n d => r_iloadn f264_176 rfl) ?_
  obtain ⟨g1030, c1030, R1030⟩ := hI_a I1021 (r := 118) (a := 0) (n := 16) (lo := (-2147483648)) (hi := 2147483647) (by decide +kernel)
  refine w_iastI f264_177 c1030 (by omega) (by omega) I1021 (W := cC144.2.2.1) (lo := (-2147483648)) (hi := 2147483647) (by decide +kernel) (by decide) (iR x2).1 (iR x2).2 (fun h1031 I1031 G1031 c1031 ne1031 => ?_)
  obtain ⟨g1031, hg1031⟩ : ∃ g', g' = upd g1030 rw.toInt.toNat x2 := ⟨_, rfl⟩
  rw [← hg1031] at c1031
  have c1032 := (ne1031 72 (by decide)).trans c1022
  have c1033 := (ne1031 119 (by decide)).trans c1023
  have c1034 := (ne1031 120 (by decide)).trans c1024
  have c1035 := (ne1031 121 (by decide)).trans c1025
  have c1036 := (ne1031 122 (by decide)).trans c1026
  have c1037 := (ne1031 123 (by decide)).trans c1027
  have c1038 := (ne1031 116 (by decide)).trans c1028
  have c1039 := (ne1031 117 (by decide)).trans c1021
  refine wp1 (fun n d => r_aloadn f264_178 rfl) ?_
  refine wp1 (fun n d => r_dup f264_179 rfl) ?_
  refine w_get f264_180 c1032 F1008 ?_
  refine w_iconst f264_183 (fun v183 hv183 => ?_)
  refine w_iadd f264_184 (by omega) (by omega) (fun v184 hv184 => ?_)
  have J : dJ3 (h1031.1.set 72 (.inr (12, fs1001.set 55 (.int v184))), h1031.2) := by
    obtain ⟨ga', gw', gt', gl', gm', fs', x', a1, a2, a3, a4, a5, a6, a7, a8⟩ := I1031.2.2
    cases c1036.symm.trans a1
    cases c1037.symm.trans a2
    cases c1034.symm.trans a3
    cases c1035.symm.trans a4
    cases c1033.symm.trans a5
    cases c1032.symm.trans a6
    cases F1008.symm.trans a7
    refine ⟨ga, gw, gt, gl, gm, _, v184, (set_ne' (by decide)).trans a1, (set_ne' (by decide)).trans a2, (set_ne' (by decide)).trans a3, (set_ne' (by decide)).trans a4, (set_ne' (by decide)).trans a5, set_eq' c1032, List.getElem?_set_self (Nat.blt_eq.mp (hl55 I1031 F1008)), fun t ht => ?_⟩
    by_cases ht2 : (t : Int) < rw.toInt
    · exact a8 t ht2
    · have e : t = rw.toInt.toNat := by omega
      subst e
      refine ⟨by omega, by omega, fun i hi => ?_⟩
      obtain ⟨a, e, l, b1, b2, b3, b4, b5, b6, -⟩ := N.2.2 i (by omega)
      exact ⟨a, e, l, b1, b2, b3, b4, b5, b6⟩
  obtain ⟨I9, G9⟩ := hI_tx I1031 (y := v184) c1032 (by omega) (by omega) J
  refine wp1 (fun n d => r_put f264_185 c1032 (by rw [show (zT 12 55).2.2.2 = false by decide, hl55 I1031 F1008]; rfl) rfl) ?_
  have c9 : ((h1031.1.set 72 (.inr (12, fs1001.set 55 (.int v184))), h1031.2) : aH).1[72]? = some (.inr (12, fs1001.set 55 (.int v184))) := set_eq' c1032
  have F9 : (fs1001.set 55 (.int v184))[55]? = some (.int v184) := List.getElem?_set_self (Nat.blt_eq.mp (hl55 I1031 F1008))
  generalize ((h1031.1.set 72 (.inr (12, fs1001.set 55 (.int v184))), h1031.2) : aH) = h9 at I9 G9 c9 ⊢
  generalize fs1001.set 55 (.int v184) = fs9 at c9 F9
  refine wp1 (fun n d => r_aloadn f264_188 rfl) ?_
  refine w_get f264_189 c9 F9 ?_
  refine w_iconst f264_192 (fun v192 hv192 => ?_)
  refine w_isub f264_193 (by omega) (by omega) (fun v193 hv193 => ?_)
  exact wp_end (fun n d => r_ireturn f264_194 rfl) (fin _ _ I9 (dG_trans (dG_trans G1 (dG_trans (dG_trans (dG_trans G1001 G1011) G1021) G1031)) G9))
theorem text_loop {X : aX} {σ : List Nat} {h : aH} {x1 x2 rw tp : Int32} {gT : Nat → Int32} (fin : ∀ (x : Int32) (h' : aH), dI σ h' → dG cC144.2.2.1 σ h σ h' → hQ cC144 σ h (some (.int x)) h') : ∀ (k : Nat) (h1 : aH) (hr ft op ld : Int32) (ga gw gm gt gl : Nat → Int32) (c : Nat), (tp.toInt - hr.toInt).toNat < k → dG cC144.2.2.1 σ h σ h1 → PS σ h1 hr ft op rw ld tp ga gw gT → TS h1 gm gt gl → (gm rw.toInt.toNat).toInt = c → (ft.toInt < 0 → ld.toInt ≤ hr.toInt ∧ 2 * (c : Int) ≤ hr.toInt + 1 ∧ LN rw.toInt.toNat c ld.toInt.toNat ga gw gt gl) → Wp X 60 zM264 (hQ cC144 σ h) 70 [some (.ref 72), some (.int x1), some (.int x2)] [] h1 := by
  intro k
  induction k with
  | zero => intro h1 hr ft op ld ga gw gm gt gl c hk; omega
  | succ k ih =>
    intro h1 hr ft op ld ga gw gm gt gl c hk G1 P T hc hN
    have B0 := PS_b P
    obtain ⟨fs, c72, F65, -⟩ := PS_c P
    have kT : Wp X 60 zM264 (hQ cC144 σ h) 125 [some (.ref 72), some (.int x1), some (.int x2)] [] h1 := text_tail fin h1 hr ft op ld ga gw gm gt gl c G1 P T hc (fun f => ⟨by have := hN f; omega, (hN f).2.2⟩)
    have k103 : Wp X 60 zM264 (hQ cC144 σ h) 103 [some (.ref 72), some (.int x1), some (.int x2)] [] h1 := by
      obtain ⟨fs', d72, E64, E65, -, -, -, E54, -⟩ := P.2.1
      cases c72.symm.trans d72
      refine wp1 (fun n d => r_aloadn f264_103 rfl) ?_
      refine w_get f264_104 c72 F65 ?_
      refine w_if_ge f264_107 (fun e107 => kT) (fun e107 => ?_)
      refine wp1 (fun n d => r_aloadn f264_110 rfl) ?_
      refine w_get f264_111 c72 E64 ?_
      refine wp1 (fun n d => r_aloadn f264_114 rfl) ?_
      refine w_get f264_115 c72 E54 ?_
      refine w_icmp_ge f264_118 (fun e118 => kT) (fun e118 => ?_)
      refine wp1 (fun nn dd => r_aloadn f264_121 rfl) ?_
      refine wp_in (lv := 0) (Y := zM252) (wrong_wp P) (fun nn dd vv hh ee => r_virt (as := []) (r := []) f264_122 c72 (show zmt[252]? = some zM252 from rfl) rfl rfl rfl rfl rfl rfl ee) (by decide) ?_
      rintro v' h2 ⟨rfl, G2, ft2, f2, P2⟩
      exact text_tail fin h2 hr ft2 op ld ga gw gm gt gl c (dG_trans G1 (dG_sub (by decide) G2)) P2 (TS_dG T P.1 G2) hc (fun q => absurd q (by omega))
    refine wp1 (fun n d => r_aloadn f264_70 rfl) ?_
    refine w_get f264_71 c72 F65 ?_
    refine w_if_ge f264_74 (fun e74 => k103) (fun e74 => ?_)
    obtain ⟨n1, n2, n3⟩ := hN e74
    refine wp1 (fun nn dd => r_aloadn f264_77 rfl) ?_
    refine wp_in (lv := 0) (Y := zM251) (look_wp P) (fun nn dd vv hh ee => r_virt (as := []) (r := []) f264_78 c72 (show zmt[251]? = some zM251 from rfl) rfl rfl rfl rfl rfl rfl ee) (by decide) ?_
    rintro v' h' ⟨rfl, rfl⟩
    show Wp _ _ _ _ 81 [some (.ref 72), some (.int x1), some (.int x2)] [.int (lkv hr tp gT)] _
    refine w_bipush f264_81 (fun v81 hv81 => ?_)
    refine w_icmp_ne f264_83 (fun _ => k103) (fun e83 => ?_)
    have hlt := lkv_lt (hr := hr) (tp := tp) (gT := gT) (by omega)
    refine w_here P (by omega) rfl f264_86 f264_87 f264_88 f264_91 f264_92 f264_93 (fun h2 hr2 e2 G2 P2 => ?_)
    obtain ⟨fs2, c2, -⟩ := PS_c P2
    refine wp1 (fun nn dd => r_aloadn f264_96 rfl) ?_
    refine wp_in (lv := 56) (Y := zM262) (line_wp P2 (TS_dG T P.1 G2) e74 (by omega) hc (by omega) n3) (fun nn dd vv hh ee => r_virt (as := []) (r := []) f264_97 c2 (show zmt[262]? = some zM262 from rfl) rfl rfl rfl rfl rfl rfl ee) (by decide) ?_
    rintro v' h3 ⟨rfl, G3, hr3, ft3, op3, ld3, ga3, gw3, gm3, gt3, gl3, P3, T3, hc3, hN3⟩
    have B3 := PS_b P3
    show Wp _ _ _ _ 100 [some (.ref 72), some (.int x1), some (.int x2)] [] _
    refine wp1 (fun nn dd => r_goto f264_100) ?_
    by_cases f3 : ft3.toInt < 0
    · obtain ⟨y1, y2, y3⟩ := hN3 f3
      exact ih h3 hr3 ft3 op3 ld3 ga3 gw3 gm3 gt3 gl3 (c + 1) (by omega) (dG_trans G1 (dG_trans (dG_sub (by decide) G2) G3)) P3 T3 (by omega) (fun _ => ⟨y2, by omega, y3⟩)
    · obtain ⟨fs3, d72, E65, -⟩ := PS_c P3
      have kT3 : Wp X 60 zM264 (hQ cC144 σ h) 125 [some (.ref 72), some (.int x1), some (.int x2)] [] h3 := text_tail fin h3 hr3 ft3 op3 ld3 ga3 gw3 gm3 gt3 gl3 (c + 1) (dG_trans G1 (dG_trans (dG_sub (by decide) G2) G3)) P3 T3 (by omega) (fun q => absurd q f3)
      refine wp1 (fun n d => r_aloadn f264_70 rfl) ?_
      refine w_get f264_71 d72 E65 ?_
      refine w_if_ge f264_74 (fun _ => ?_) (fun q => absurd q f3)
      refine wp1 (fun n d => r_aloadn f264_103 rfl) ?_
      refine w_get f264_104 d72 E65 ?_
      exact w_if_ge f264_107 (fun _ => kT3) (fun q => absurd q f3)
theorem hand_144 {X : aX} : dGood X cC144 := by
  intro M hM l h σ ρ rh I K L
  have hM0 : zmt[264]? = some zM264 := rfl
  cases (show zmt[264]? = some M from hM).symm.trans hM0
  have a0 := dL_r L (i := 0) (c := 72) (o := 0) rfl (by decide)
  obtain ⟨x1, a1, b1, b1'⟩ := hL_i L K.1 (i := 1) (p := 1) (o := 0) (lo := -2147483648) (hi := 2147483647) rfl rfl
  obtain ⟨x2, a2, b2, b2'⟩ := hL_i L K.1 (i := 2) (p := 2) (o := 0) (lo := -2147483648) (hi := 2147483647) rfl rfl
  obtain ⟨u0, l1, rfl, e1⟩ := hcons (show l.length = 3 from L.1)
  obtain ⟨u1, l2, rfl, e2⟩ := hcons e1
  obtain ⟨u2, l3, rfl, e3⟩ := hcons e2
  cases hnil e3
  cases Option.some.inj a0
  cases Option.some.inj a1
  cases Option.some.inj a2
  have fin : ∀ (x : Int32) (h' : aH), dI σ h' → dG cC144.2.2.1 σ h σ h' → hQ cC144 σ h (some (.int x)) h' := fun x h' I' G' => ⟨σ, I', G', _, List.mem_cons_self, post_i I'.1 (iR x).1 (iR x).2⟩
  refine hEnd ?_
  show Wp X 60 zM264 _ 0 [some (.ref 72), some (.int x1), some (.int x2)] [] h
  have k14 : Wp X 60 zM264 (hQ cC144 σ h) 14 [some (.ref 72), some (.int x1), some (.int x2)] [] h := w_iconst f264_14 (fun v _ => wp_end (fun n d => r_ireturn f264_15 rfl) (fin v h I (dG_refl _ _ _)))
  refine wp1 (fun n d => r_iloadn f264_0 rfl) ?_
  refine wp_in (lv := 1) (Y := zM263) (isWhat_wp (x := x1)) (fun n d v h' e => r_stat (as := [.int x1]) (r := []) f264_1 rfl (show zmt[263]? = some zM263 from rfl) rfl rfl rfl rfl rfl rfl e) (by first | decide | omega) ?_
  rintro v h' ⟨rfl, v1, rfl⟩
  show Wp _ _ _ _ 4 [some (.ref 72), some (.int x1), some (.int x2)] [.int v1] _
  refine w_if_eq f264_4 (fun e4 => k14) (fun e4 => ?_)
  refine wp1 (fun n d => r_iloadn f264_7 rfl) ?_
  refine wp_in (lv := 1) (Y := zM198) (isYear_wp (x := x2)) (fun n d v h' e => r_stat (as := [.int x2]) (r := []) f264_8 rfl (show zmt[198]? = some zM198 from rfl) rfl rfl rfl rfl rfl rfl e) (by first | decide | omega) ?_
  rintro v h' ⟨rfl, v8, rfl, z2, r2⟩
  show Wp _ _ _ _ 11 [some (.ref 72), some (.int x1), some (.int x2)] [.int v8] _
  refine w_if_ne f264_11 (fun _ => ?_) (fun _ => k14)
  refine wp1 (fun n d => r_aloadn f264_16 rfl) ?_
  obtain ⟨fs1001, c1001⟩ := hI_o I (r := 72) (ci := 12) (by decide +kernel)
  obtain ⟨x55_1002, F1002, lo1002, hi1002⟩ := hI_i I c1001 (f := 55) (lo := 0) (hi := 16) (by decide +kernel)
  refine w_get f264_17 c1001 F1002 ?_
  refine w_bipush f264_20 (fun v20 hv20 => ?_)
  refine w_icmp_ne f264_22 (fun e22 => ?_) (fun _ => w_bipush f264_25 (fun v _ => wp_end (fun n d => r_ireturn f264_27 rfl) (fin v h I (dG_refl _ _ _))))
  obtain ⟨g1003, c1003, R1003⟩ := hI_a I (r := 115) (a := 3) (n := 160) (lo := (-128)) (hi := 127) (by decide +kernel)
  obtain ⟨g1004, c1004, R1004⟩ := hI_a I (r := 119) (a := 0) (n := 17) (lo := (-2147483648)) (hi := 2147483647) (by decide +kernel)
  obtain ⟨g1005, c1005, R1005⟩ := hI_a I (r := 120) (a := 0) (n := 1530) (lo := (-2147483648)) (hi := 2147483647) (by decide +kernel)
  obtain ⟨g1006, c1006, R1006⟩ := hI_a I (r := 121) (a := 0) (n := 1530) (lo := (-2147483648)) (hi := 2147483647) (by decide +kernel)
  obtain ⟨g1007, c1007, R1007⟩ := hI_a I (r := 122) (a := 0) (n := 2890) (lo := (-2147483648)) (hi := 2147483647) (by decide +kernel)
  obtain ⟨g1008, c1008, R1008⟩ := hI_a I (r := 123) (a := 0) (n := 2890) (lo := (-2147483648)) (hi := 2147483647) (by decide +kernel)
  obtain ⟨x54_1009, F1009, lo1009, hi1009⟩ := hI_i I c1001 (f := 54) (lo := 0) (hi := 160) (by decide +kernel)
  refine wp1 (fun n d => r_aloadn f264_28 rfl) ?_
  refine wp1 (fun n d => r_aloadn f264_29 rfl) ?_
  refine w_get f264_30 c1001 F1002 ?_
  refine w_putI f264_33 c1001 I (W := cC144.2.2.1) (lo := 0) (hi := 15) (by decide +kernel) (by decide) (by decide) (by omega) (by omega) (by decide) (by first | rfl | (simp [aok, zY])) (fun h1010 fs1010 I1010 G1010 c1010 Fx1010 nf1010 ne1010 => ?_)
  have c1011 := (ne1010 115 (by decide)).trans c1003
  have c1012 := (ne1010 119 (by decide)).trans c1004
  have c1013 := (ne1010 120 (by decide)).trans c1005
  have c1014 := (ne1010 121 (by decide)).trans c1006
  have c1015 := (ne1010 122 (by decide)).trans c1007
  have c1016 := (ne1010 123 (by decide)).trans c1008
  have F1017 := (nf1010 55 (by decide)).trans F1002
  have F1018 := (nf1010 54 (by decide)).trans F1009
  refine wp1 (fun n d => r_aloadn f264_36 rfl) ?_
  have F1019 := hI_r I1010 c1010 (f := 59) (q := 119) (by decide +kernel)
  refine w_get f264_37 c1010 F1019 ?_
  refine wp1 (fun n d => r_aloadn f264_40 rfl) ?_
  refine w_get f264_41 c1010 Fx1010 ?_
  refine w_iconst f264_44 (fun v44 hv44 => ?_)
  obtain ⟨I8, G8⟩ := hI_txt I1010 (W := cC144.2.2.1) (by decide) (r := 119) (n := 17) (j := x55_1002.toInt.toNat) (y := v44) (by omega) c1010 F1017 c1012 ⟨fun e => by omega, fun e => by omega, fun _ t ht => by omega⟩
  refine w_iast f264_45 c1012 (by omega) (by omega) ?_
  have z72 := (set_ne' (l := h1010.1) (o := 119) (k := 72) (c := .inl (0, 17, .inl (upd g1004 x55_1002.toInt.toNat v44))) (by decide)).trans c1010
  have z115 := (set_ne' (l := h1010.1) (o := 119) (k := 115) (c := .inl (0, 17, .inl (upd g1004 x55_1002.toInt.toNat v44))) (by decide)).trans c1011
  have z120 := (set_ne' (l := h1010.1) (o := 119) (k := 120) (c := .inl (0, 17, .inl (upd g1004 x55_1002.toInt.toNat v44))) (by decide)).trans c1013
  have z121 := (set_ne' (l := h1010.1) (o := 119) (k := 121) (c := .inl (0, 17, .inl (upd g1004 x55_1002.toInt.toNat v44))) (by decide)).trans c1014
  have z122 := (set_ne' (l := h1010.1) (o := 119) (k := 122) (c := .inl (0, 17, .inl (upd g1004 x55_1002.toInt.toNat v44))) (by decide)).trans c1015
  have z123 := (set_ne' (l := h1010.1) (o := 119) (k := 123) (c := .inl (0, 17, .inl (upd g1004 x55_1002.toInt.toNat v44))) (by decide)).trans c1016
  have z119 := set_eq' (c := .inl (0, 17, .inl (upd g1004 x55_1002.toInt.toNat v44))) c1012
  rw [show h1010.1.set 119 (.inl (0, 17, .inl (upd g1004 x55_1002.toInt.toNat v44))) = ((h1010.1.set 119 (.inl (0, 17, .inl (upd g1004 x55_1002.toInt.toNat v44))), h1010.2) : aH).1 from rfl] at z72
  rw [show h1010.1.set 119 (.inl (0, 17, .inl (upd g1004 x55_1002.toInt.toNat v44))) = ((h1010.1.set 119 (.inl (0, 17, .inl (upd g1004 x55_1002.toInt.toNat v44))), h1010.2) : aH).1 from rfl] at z115
  rw [show h1010.1.set 119 (.inl (0, 17, .inl (upd g1004 x55_1002.toInt.toNat v44))) = ((h1010.1.set 119 (.inl (0, 17, .inl (upd g1004 x55_1002.toInt.toNat v44))), h1010.2) : aH).1 from rfl] at z119
  rw [show h1010.1.set 119 (.inl (0, 17, .inl (upd g1004 x55_1002.toInt.toNat v44))) = ((h1010.1.set 119 (.inl (0, 17, .inl (upd g1004 x55_1002.toInt.toNat v44))), h1010.2) : aH).1 from rfl] at z120
  rw [show h1010.1.set 119 (.inl (0, 17, .inl (upd g1004 x55_1002.toInt.toNat v44))) = ((h1010.1.set 119 (.inl (0, 17, .inl (upd g1004 x55_1002.toInt.toNat v44))), h1010.2) : aH).1 from rfl] at z121
  rw [show h1010.1.set 119 (.inl (0, 17, .inl (upd g1004 x55_1002.toInt.toNat v44))) = ((h1010.1.set 119 (.inl (0, 17, .inl (upd g1004 x55_1002.toInt.toNat v44))), h1010.2) : aH).1 from rfl] at z122
  rw [show h1010.1.set 119 (.inl (0, 17, .inl (upd g1004 x55_1002.toInt.toNat v44))) = ((h1010.1.set 119 (.inl (0, 17, .inl (upd g1004 x55_1002.toInt.toNat v44))), h1010.2) : aH).1 from rfl] at z123
  generalize ((h1010.1.set 119 (.inl (0, 17, .inl (upd g1004 x55_1002.toInt.toNat v44))), h1010.2) : aH) = h8 at I8 G8 z72 z115 z119 z120 z121 z122 z123 ⊢
  refine wp1 (fun n d => r_aloadn f264_46 rfl) ?_
  refine w_iconst f264_47 (fun v47 hv47 => ?_)
  refine w_putI f264_48 z72 I8 (W := cC144.2.2.1) (lo := 0) (hi := 170) (by decide +kernel) (by decide) (by decide) (by omega) (by omega) (by decide) (by first | rfl | (simp [aok, zY])) (fun h1020 fs1020 I1020 G1020 c1020 Fx1020 nf1020 ne1020 => ?_)
  have c1021 := (ne1020 115 (by decide)).trans z115
  have c1022 := (ne1020 119 (by decide)).trans z119
  have c1023 := (ne1020 120 (by decide)).trans z120
  have c1024 := (ne1020 121 (by decide)).trans z121
  have c1025 := (ne1020 122 (by decide)).trans z122
  have c1026 := (ne1020 123 (by decide)).trans z123
  have F1027 := (nf1020 55 (by decide)).trans F1017
  have F1028 := (nf1020 54 (by decide)).trans F1018
  have F1029 := (nf1020 67 (by decide)).trans Fx1010
  have F1030 := (nf1020 59 (by decide)).trans F1019
  refine wp1 (fun n d => r_aloadn f264_51 rfl) ?_
  refine w_iconst f264_52 (fun v52 hv52 => ?_)
  refine w_putI f264_53 c1020 I1020 (W := cC144.2.2.1) (lo := 0) (hi := 160) (by decide +kernel) (by decide) (by decide) (by omega) (by omega) (by decide) (by first | rfl | (simp [aok, zY])) (fun h1031 fs1031 I1031 G1031 c1031 Fx1031 nf1031 ne1031 => ?_)
  have c1032 := (ne1031 115 (by decide)).trans c1021
  have c1033 := (ne1031 119 (by decide)).trans c1022
  have c1034 := (ne1031 120 (by decide)).trans c1023
  have c1035 := (ne1031 121 (by decide)).trans c1024
  have c1036 := (ne1031 122 (by decide)).trans c1025
  have c1037 := (ne1031 123 (by decide)).trans c1026
  have F1038 := (nf1031 55 (by decide)).trans F1027
  have F1039 := (nf1031 54 (by decide)).trans F1028
  have F1040 := (nf1031 67 (by decide)).trans F1029
  have F1041 := (nf1031 59 (by decide)).trans F1030
  have F1042 := (nf1031 68 (by decide)).trans Fx1020
  refine wp1 (fun n d => r_aloadn f264_56 rfl) ?_
  refine w_iconst f264_57 (fun v57 hv57 => ?_)
  refine w_putI f264_58 c1031 I1031 (W := cC144.2.2.1) (lo := (-1)) (hi := 160) (by decide +kernel) (by decide) (by decide) (by omega) (by omega) (by decide) (by first | rfl | (simp [aok, zY])) (fun h1043 fs1043 I1043 G1043 c1043 Fx1043 nf1043 ne1043 => ?_)
  have c1044 := (ne1043 115 (by decide)).trans c1032
  have c1045 := (ne1043 119 (by decide)).trans c1033
  have c1046 := (ne1043 120 (by decide)).trans c1034
  have c1047 := (ne1043 121 (by decide)).trans c1035
  have c1048 := (ne1043 122 (by decide)).trans c1036
  have c1049 := (ne1043 123 (by decide)).trans c1037
  have F1050 := (nf1043 55 (by decide)).trans F1038
  have F1051 := (nf1043 54 (by decide)).trans F1039
  have F1052 := (nf1043 67 (by decide)).trans F1040
  have F1053 := (nf1043 59 (by decide)).trans F1041
  have F1054 := (nf1043 68 (by decide)).trans F1042
  have F1055 := (nf1043 64 (by decide)).trans Fx1031
  refine wp1 (fun n d => r_aloadn f264_61 rfl) ?_
  refine w_iconst f264_62 (fun v62 hv62 => ?_)
  refine w_putI f264_63 c1043 I1043 (W := cC144.2.2.1) (lo := 0) (hi := 8) (by decide +kernel) (by decide) (by decide) (by omega) (by omega) (by decide) (by first | rfl | (simp [aok, zY])) (fun h1056 fs1056 I1056 G1056 c1056 Fx1056 nf1056 ne1056 => ?_)
  have c1057 := (ne1056 115 (by decide)).trans c1044
  have c1058 := (ne1056 119 (by decide)).trans c1045
  have c1059 := (ne1056 120 (by decide)).trans c1046
  have c1060 := (ne1056 121 (by decide)).trans c1047
  have c1061 := (ne1056 122 (by decide)).trans c1048
  have c1062 := (ne1056 123 (by decide)).trans c1049
  have F1063 := (nf1056 55 (by decide)).trans F1050
  have F1064 := (nf1056 54 (by decide)).trans F1051
  have F1065 := (nf1056 67 (by decide)).trans F1052
  have F1066 := (nf1056 59 (by decide)).trans F1053
  have F1067 := (nf1056 68 (by decide)).trans F1054
  have F1068 := (nf1056 64 (by decide)).trans F1055
  have F1069 := (nf1056 65 (by decide)).trans Fx1043
  have P : PS σ h1056 v52 v57 v62 x55_1002 v47 x54_1009 g1007 g1008 g1003 := ⟨I1056, ⟨fs1056, c1056, F1068, F1069, Fx1056, F1065, F1067, F1064, F1063⟩, c1061, c1062, c1057, by omega, by omega, by omega, by omega, by omega, by omega, by omega, by omega, by omega, by omega⟩
  have T : TS h1056 (upd g1004 x55_1002.toInt.toNat v44) g1005 g1006 := ⟨c1058, c1059, c1060⟩
  refine wp1 (fun nn dd => r_aloadn f264_66 rfl) ?_
  refine wp_in (lv := 56) (Y := zM262) (line_wp P T (c := 0) (by omega) (by omega) (by rw [pk_us]; omega) (by decide) ⟨fun _ => by omega, fun j hj => absurd hj (by omega), fun i hi => absurd hi (by omega)⟩) (fun nn dd vv hh ee => r_virt (as := []) (r := []) f264_67 c1056 (show zmt[262]? = some zM262 from rfl) rfl rfl rfl rfl rfl rfl ee) (by decide) ?_
  rintro v' h3 ⟨rfl, G3, hr3, ft3, op3, ld3, ga3, gw3, gm3, gt3, gl3, P3, T3, hc3, hN3⟩
  have B3 := PS_b P3
  exact text_loop fin _ h3 hr3 ft3 op3 ld3 ga3 gw3 gm3 gt3 gl3 1 (Nat.lt_succ_self _) (dG_trans (dG_trans (dG_trans (dG_trans (dG_trans (dG_trans G1010 G8) G1020) G1031) G1043) G1056) G3) P3 T3 (by omega) (fun q => by
    obtain ⟨y1, y2, y3⟩ := hN3 q
    exact ⟨y2, by omega, y3⟩)

-- ===== by hand: copy =====
theorem f110_0 : aF 0 zM110.2.2.2.2.2.2.2 = some (0, (.aload_n 0), 1, 0, 0) := by decide +kernel
theorem f110_1 : aF 1 zM110.2.2.2.2.2.2.2 = some (1, (.getfield 9), 3, 9, 0) := by decide +kernel
theorem f110_4 : aF 4 zM110.2.2.2.2.2.2.2 = some (4, (.iload_n 1), 1, 0, 0) := by decide +kernel
theorem f110_5 : aF 5 zM110.2.2.2.2.2.2.2 = some (5, .iaload, 1, 0, 0) := by decide +kernel
theorem f110_6 : aF 6 zM110.2.2.2.2.2.2.2 = some (6, (.iconst (-1)), 1, 0, 0) := by decide +kernel
theorem f110_7 : aF 7 zM110.2.2.2.2.2.2.2 = some (7, (.if_icmp .ne 6), 3, 13, 0) := by decide +kernel
theorem f110_10 : aF 10 zM110.2.2.2.2.2.2.2 = some (10, (.bipush (-11)), 2, 0, 0) := by decide +kernel
theorem f110_12 : aF 12 zM110.2.2.2.2.2.2.2 = some (12, .ireturn, 1, 0, 0) := by decide +kernel
theorem f110_13 : aF 13 zM110.2.2.2.2.2.2.2 = some (13, (.aload_n 0), 1, 0, 0) := by decide +kernel
theorem f110_14 : aF 14 zM110.2.2.2.2.2.2.2 = some (14, (.getfield 9), 3, 9, 0) := by decide +kernel
theorem f110_17 : aF 17 zM110.2.2.2.2.2.2.2 = some (17, (.iload_n 1), 1, 0, 0) := by decide +kernel
theorem f110_18 : aF 18 zM110.2.2.2.2.2.2.2 = some (18, .iaload, 1, 0, 0) := by decide +kernel
theorem f110_19 : aF 19 zM110.2.2.2.2.2.2.2 = some (19, (.iconst 5), 1, 0, 0) := by decide +kernel
theorem f110_20 : aF 20 zM110.2.2.2.2.2.2.2 = some (20, (.if_icmp .ne 8), 3, 28, 0) := by decide +kernel
theorem f110_23 : aF 23 zM110.2.2.2.2.2.2.2 = some (23, (.bipush (-12)), 2, 0, 0) := by decide +kernel
theorem f110_25 : aF 25 zM110.2.2.2.2.2.2.2 = some (25, (.goto 4), 3, 29, 0) := by decide +kernel
theorem f110_28 : aF 28 zM110.2.2.2.2.2.2.2 = some (28, (.iconst 1), 1, 0, 0) := by decide +kernel
theorem f110_29 : aF 29 zM110.2.2.2.2.2.2.2 = some (29, .ireturn, 1, 0, 0) := by decide +kernel
theorem f115_0 : aF 0 zM115.2.2.2.2.2.2.2 = some (0, (.aload_n 0), 1, 0, 0) := by decide +kernel
theorem f115_1 : aF 1 zM115.2.2.2.2.2.2.2 = some (1, (.iload_n 1), 1, 0, 0) := by decide +kernel
theorem f115_2 : aF 2 zM115.2.2.2.2.2.2.2 = some (2, (.invokevirtual 28), 3, 110, 0) := by decide +kernel
theorem f115_5 : aF 5 zM115.2.2.2.2.2.2.2 = some (5, (.istore 6), 2, 0, 0) := by decide +kernel
theorem f115_7 : aF 7 zM115.2.2.2.2.2.2.2 = some (7, (.aload_n 0), 1, 0, 0) := by decide +kernel
theorem f115_8 : aF 8 zM115.2.2.2.2.2.2.2 = some (8, (.iload_n 3), 1, 0, 0) := by decide +kernel
theorem f115_9 : aF 9 zM115.2.2.2.2.2.2.2 = some (9, (.invokevirtual 28), 3, 110, 0) := by decide +kernel
theorem f115_12 : aF 12 zM115.2.2.2.2.2.2.2 = some (12, (.istore 7), 2, 0, 0) := by decide +kernel
theorem f115_14 : aF 14 zM115.2.2.2.2.2.2.2 = some (14, (.iload 6), 2, 0, 0) := by decide +kernel
theorem f115_16 : aF 16 zM115.2.2.2.2.2.2.2 = some (16, (.bipush (-11)), 2, 0, 0) := by decide +kernel
theorem f115_18 : aF 18 zM115.2.2.2.2.2.2.2 = some (18, (.if_icmp .eq 10), 3, 28, 0) := by decide +kernel
theorem f115_21 : aF 21 zM115.2.2.2.2.2.2.2 = some (21, (.iload 7), 2, 0, 0) := by decide +kernel
theorem f115_23 : aF 23 zM115.2.2.2.2.2.2.2 = some (23, (.bipush (-11)), 2, 0, 0) := by decide +kernel
theorem f115_25 : aF 25 zM115.2.2.2.2.2.2.2 = some (25, (.if_icmp .ne 6), 3, 31, 0) := by decide +kernel
theorem f115_28 : aF 28 zM115.2.2.2.2.2.2.2 = some (28, (.bipush (-11)), 2, 0, 0) := by decide +kernel
theorem f115_30 : aF 30 zM115.2.2.2.2.2.2.2 = some (30, .ireturn, 1, 0, 0) := by decide +kernel
theorem f115_31 : aF 31 zM115.2.2.2.2.2.2.2 = some (31, (.iload 6), 2, 0, 0) := by decide +kernel
theorem f115_33 : aF 33 zM115.2.2.2.2.2.2.2 = some (33, (.bipush (-12)), 2, 0, 0) := by decide +kernel
theorem f115_35 : aF 35 zM115.2.2.2.2.2.2.2 = some (35, (.if_icmp .eq 25), 3, 60, 0) := by decide +kernel
theorem f115_38 : aF 38 zM115.2.2.2.2.2.2.2 = some (38, (.iload 7), 2, 0, 0) := by decide +kernel
theorem f115_40 : aF 40 zM115.2.2.2.2.2.2.2 = some (40, (.bipush (-12)), 2, 0, 0) := by decide +kernel
theorem f115_42 : aF 42 zM115.2.2.2.2.2.2.2 = some (42, (.if_icmp .eq 18), 3, 60, 0) := by decide +kernel
theorem f115_45 : aF 45 zM115.2.2.2.2.2.2.2 = some (45, (.aload_n 0), 1, 0, 0) := by decide +kernel
theorem f115_46 : aF 46 zM115.2.2.2.2.2.2.2 = some (46, (.getfield 9), 3, 9, 0) := by decide +kernel
theorem f115_49 : aF 49 zM115.2.2.2.2.2.2.2 = some (49, (.iload_n 1), 1, 0, 0) := by decide +kernel
theorem f115_50 : aF 50 zM115.2.2.2.2.2.2.2 = some (50, .iaload, 1, 0, 0) := by decide +kernel
theorem f115_51 : aF 51 zM115.2.2.2.2.2.2.2 = some (51, (.aload_n 0), 1, 0, 0) := by decide +kernel
theorem f115_52 : aF 52 zM115.2.2.2.2.2.2.2 = some (52, (.getfield 9), 3, 9, 0) := by decide +kernel
theorem f115_55 : aF 55 zM115.2.2.2.2.2.2.2 = some (55, (.iload_n 3), 1, 0, 0) := by decide +kernel
theorem f115_56 : aF 56 zM115.2.2.2.2.2.2.2 = some (56, .iaload, 1, 0, 0) := by decide +kernel
theorem f115_57 : aF 57 zM115.2.2.2.2.2.2.2 = some (57, (.if_icmp .eq 6), 3, 63, 0) := by decide +kernel
theorem f115_60 : aF 60 zM115.2.2.2.2.2.2.2 = some (60, (.bipush (-12)), 2, 0, 0) := by decide +kernel
theorem f115_62 : aF 62 zM115.2.2.2.2.2.2.2 = some (62, .ireturn, 1, 0, 0) := by decide +kernel
theorem f115_63 : aF 63 zM115.2.2.2.2.2.2.2 = some (63, (.iload 5), 2, 0, 0) := by decide +kernel
theorem f115_65 : aF 65 zM115.2.2.2.2.2.2.2 = some (65, (.ifCond .lt 39), 3, 104, 0) := by decide +kernel
theorem f115_68 : aF 68 zM115.2.2.2.2.2.2.2 = some (68, (.iload_n 2), 1, 0, 0) := by decide +kernel
theorem f115_69 : aF 69 zM115.2.2.2.2.2.2.2 = some (69, (.ifCond .lt 35), 3, 104, 0) := by decide +kernel
theorem f115_72 : aF 72 zM115.2.2.2.2.2.2.2 = some (72, (.iload 4), 2, 0, 0) := by decide +kernel
theorem f115_74 : aF 74 zM115.2.2.2.2.2.2.2 = some (74, (.ifCond .lt 30), 3, 104, 0) := by decide +kernel
theorem f115_77 : aF 77 zM115.2.2.2.2.2.2.2 = some (77, (.iload_n 2), 1, 0, 0) := by decide +kernel
theorem f115_78 : aF 78 zM115.2.2.2.2.2.2.2 = some (78, (.aload_n 0), 1, 0, 0) := by decide +kernel
theorem f115_79 : aF 79 zM115.2.2.2.2.2.2.2 = some (79, (.getfield 15), 3, 9, 1) := by decide +kernel
theorem f115_82 : aF 82 zM115.2.2.2.2.2.2.2 = some (82, (.iload_n 1), 1, 0, 0) := by decide +kernel
theorem f115_83 : aF 83 zM115.2.2.2.2.2.2.2 = some (83, .iaload, 1, 0, 0) := by decide +kernel
theorem f115_84 : aF 84 zM115.2.2.2.2.2.2.2 = some (84, (.iload 5), 2, 0, 0) := by decide +kernel
theorem f115_86 : aF 86 zM115.2.2.2.2.2.2.2 = some (86, .isub, 1, 0, 0) := by decide +kernel
theorem f115_87 : aF 87 zM115.2.2.2.2.2.2.2 = some (87, (.if_icmp .gt 17), 3, 104, 0) := by decide +kernel
theorem f115_90 : aF 90 zM115.2.2.2.2.2.2.2 = some (90, (.iload 4), 2, 0, 0) := by decide +kernel
theorem f115_92 : aF 92 zM115.2.2.2.2.2.2.2 = some (92, (.aload_n 0), 1, 0, 0) := by decide +kernel
theorem f115_93 : aF 93 zM115.2.2.2.2.2.2.2 = some (93, (.getfield 15), 3, 9, 1) := by decide +kernel
theorem f115_96 : aF 96 zM115.2.2.2.2.2.2.2 = some (96, (.iload_n 3), 1, 0, 0) := by decide +kernel
theorem f115_97 : aF 97 zM115.2.2.2.2.2.2.2 = some (97, .iaload, 1, 0, 0) := by decide +kernel
theorem f115_98 : aF 98 zM115.2.2.2.2.2.2.2 = some (98, (.iload 5), 2, 0, 0) := by decide +kernel
theorem f115_100 : aF 100 zM115.2.2.2.2.2.2.2 = some (100, .isub, 1, 0, 0) := by decide +kernel
theorem f115_101 : aF 101 zM115.2.2.2.2.2.2.2 = some (101, (.if_icmp .le 6), 3, 107, 0) := by decide +kernel
theorem f115_104 : aF 104 zM115.2.2.2.2.2.2.2 = some (104, (.bipush (-13)), 2, 0, 0) := by decide +kernel
theorem f115_106 : aF 106 zM115.2.2.2.2.2.2.2 = some (106, .ireturn, 1, 0, 0) := by decide +kernel
theorem f115_107 : aF 107 zM115.2.2.2.2.2.2.2 = some (107, (.aload_n 0), 1, 0, 0) := by decide +kernel
theorem f115_108 : aF 108 zM115.2.2.2.2.2.2.2 = some (108, (.getfield 18), 3, 9, 2) := by decide +kernel
theorem f115_111 : aF 111 zM115.2.2.2.2.2.2.2 = some (111, (.iload_n 1), 1, 0, 0) := by decide +kernel
theorem f115_112 : aF 112 zM115.2.2.2.2.2.2.2 = some (112, (.bipush 60), 2, 0, 0) := by decide +kernel
theorem f115_114 : aF 114 zM115.2.2.2.2.2.2.2 = some (114, .imul, 1, 0, 0) := by decide +kernel
theorem f115_115 : aF 115 zM115.2.2.2.2.2.2.2 = some (115, (.iload_n 2), 1, 0, 0) := by decide +kernel
theorem f115_116 : aF 116 zM115.2.2.2.2.2.2.2 = some (116, .iadd, 1, 0, 0) := by decide +kernel
theorem f115_117 : aF 117 zM115.2.2.2.2.2.2.2 = some (117, (.aload_n 0), 1, 0, 0) := by decide +kernel
theorem f115_118 : aF 118 zM115.2.2.2.2.2.2.2 = some (118, (.getfield 18), 3, 9, 2) := by decide +kernel
theorem f115_121 : aF 121 zM115.2.2.2.2.2.2.2 = some (121, (.iload_n 3), 1, 0, 0) := by decide +kernel
theorem f115_122 : aF 122 zM115.2.2.2.2.2.2.2 = some (122, (.bipush 60), 2, 0, 0) := by decide +kernel
theorem f115_124 : aF 124 zM115.2.2.2.2.2.2.2 = some (124, .imul, 1, 0, 0) := by decide +kernel
theorem f115_125 : aF 125 zM115.2.2.2.2.2.2.2 = some (125, (.iload 4), 2, 0, 0) := by decide +kernel
theorem f115_127 : aF 127 zM115.2.2.2.2.2.2.2 = some (127, .iadd, 1, 0, 0) := by decide +kernel
theorem f115_128 : aF 128 zM115.2.2.2.2.2.2.2 = some (128, (.iload 5), 2, 0, 0) := by decide +kernel
theorem f115_130 : aF 130 zM115.2.2.2.2.2.2.2 = some (130, (.invokestatic 44), 3, 1002, 0) := by decide +kernel
theorem f115_133 : aF 133 zM115.2.2.2.2.2.2.2 = some (133, (.iload 5), 2, 0, 0) := by decide +kernel
theorem f115_135 : aF 135 zM115.2.2.2.2.2.2.2 = some (135, .ireturn, 1, 0, 0) := by decide +kernel
theorem cp_ok {sp dp k : Int32} {n0 n1 : Nat} (h1 : 0 ≤ sp.toInt) (h2 : 0 ≤ dp.toInt) (h3 : 0 ≤ k.toInt) (h4 : sp.toInt + k.toInt ≤ n0) (h5 : dp.toInt + k.toInt ≤ n1) : ¬ (sp < 0 ∨ dp < 0 ∨ k < 0 ∨ n0 < sp.toNatClampNeg + k.toNatClampNeg ∨ n1 < dp.toNatClampNeg + k.toNatClampNeg) := by
  have e1 : sp.toNatClampNeg = sp.toInt.toNat := rfl
  have e2 : dp.toNatClampNeg = dp.toInt.toNat := rfl
  have e3 : k.toNatClampNeg = k.toInt.toNat := rfl
  have e0 : (0 : Int32).toInt = 0 := by decide
  rw [e1, e2, e3]
  rintro (q | q | q | q | q)
  · have := Int32.lt_iff_toInt_lt.mp q; omega
  · have := Int32.lt_iff_toInt_lt.mp q; omega
  · have := Int32.lt_iff_toInt_lt.mp q; omega
  · omega
  · omega
theorem rowOn_wp {X : aX} {h : aH} {fs : List Value} {gs : Nat → Int32} (c68 : h.1[68]? = some (.inr (9, fs))) (F68_0 : fs[0]? = some (.ref 69)) (c69 : h.1[69]? = some (.inl (0, 6, .inl gs))) {x : Int32} (h1 : 0 ≤ x.toInt) (h2 : x.toInt ≤ 5) (hg : -1 ≤ (gs x.toInt.toNat).toInt ∧ (gs x.toInt.toNat).toInt ≤ 5) :
    Wp X 0 zM110 (fun v h' => h = h' ∧ ∃ r : Int32, v = some (.int r) ∧ (r.toInt = -11 ∨ r.toInt = -12 ∨ 0 ≤ (gs x.toInt.toNat).toInt ∧ (gs x.toInt.toNat).toInt ≤ 4)) 0 [some (.ref 68), some (.int x)] [] h := by
  refine wp1 (fun n d => r_aloadn f110_0 rfl) ?_
  refine w_get f110_1 c68 F68_0 ?_
  refine wp1 (fun n d => r_iloadn f110_4 rfl) ?_
  refine w_iald f110_5 c69 (by omega) (by omega) (fun v5 hv5 => ?_)
  refine w_iconst f110_6 (fun v6 hv6 => ?_)
  refine w_icmp_ne f110_7 (fun e => ?_) (fun e => ?_)
  · refine wp1 (fun n d => r_aloadn f110_13 rfl) ?_
    refine w_get f110_14 c68 F68_0 ?_
    refine wp1 (fun n d => r_iloadn f110_17 rfl) ?_
    refine w_iald f110_18 c69 (by omega) (by omega) (fun v18 hv18 => ?_)
    refine w_iconst f110_19 (fun v19 hv19 => ?_)
    refine w_icmp_ne f110_20 (fun e2 => ?_) (fun e2 => ?_)
    · refine w_iconst f110_28 (fun v28 hv28 => ?_)
      exact wp_end (fun n d => r_ireturn f110_29 rfl) ⟨rfl, _, rfl, Or.inr (Or.inr (by rw [hv5] at e; rw [hv18] at e2; omega))⟩
    · refine w_bipush f110_23 (fun v23 hv23 => ?_)
      refine wp1 (fun n d => r_goto f110_25) ?_
      exact wp_end (fun n d => r_ireturn f110_29 rfl) ⟨rfl, _, rfl, Or.inr (Or.inl hv23)⟩
  · refine w_bipush f110_10 (fun v10 hv10 => ?_)
    exact wp_end (fun n d => r_ireturn f110_12 rfl) ⟨rfl, _, rfl, Or.inl hv10⟩
theorem hand_291 {X : aX} : dGood X cC291 := by
  intro M hM l h σ ρ rh I K L
  have hM0 : zmt[115]? = some zM115 := rfl
  cases (show zmt[115]? = some M from hM).symm.trans hM0
  have a0 := dL_r L (i := 0) (c := 68) (o := 0) rfl (by decide)
  obtain ⟨x1, a1, b1, b1'⟩ := hL_i L K.1 (i := 1) (p := 1) (o := 0) (lo := 0) (hi := 5) rfl rfl
  obtain ⟨x2, a2, b2, b2'⟩ := hL_i L K.1 (i := 2) (p := 2) (o := 0) (lo := -2147483648) (hi := 2147483647) rfl rfl
  obtain ⟨x3, a3, b3, b3'⟩ := hL_i L K.1 (i := 3) (p := 3) (o := 0) (lo := 0) (hi := 5) rfl rfl
  obtain ⟨x4, a4, b4, b4'⟩ := hL_i L K.1 (i := 4) (p := 4) (o := 0) (lo := -2147483648) (hi := 2147483647) rfl rfl
  obtain ⟨x5, a5, b5, b5'⟩ := hL_i L K.1 (i := 5) (p := 5) (o := 0) (lo := -2147483648) (hi := 2147483647) rfl rfl
  obtain ⟨u0, l1, rfl, e1⟩ := hcons (show l.length = 8 from L.1)
  obtain ⟨u1, l2, rfl, e2⟩ := hcons e1
  obtain ⟨u2, l3, rfl, e3⟩ := hcons e2
  obtain ⟨u3, l4, rfl, e4⟩ := hcons e3
  obtain ⟨u4, l5, rfl, e5⟩ := hcons e4
  obtain ⟨u5, l6, rfl, e6⟩ := hcons e5
  obtain ⟨u6, l7, rfl, e7⟩ := hcons e6
  obtain ⟨u7, l8, rfl, e8⟩ := hcons e7
  cases hnil e8
  cases Option.some.inj a0
  cases Option.some.inj a1
  cases Option.some.inj a2
  cases Option.some.inj a3
  cases Option.some.inj a4
  cases Option.some.inj a5
  obtain ⟨fs, c68⟩ := hI_o I (r := 68) (ci := 9) (by decide +kernel)
  have F68_0 := hI_r I c68 (f := 0) (q := 69) (by decide +kernel)
  have F68_1 := hI_r I c68 (f := 1) (q := 70) (by decide +kernel)
  have F68_2 := hI_r I c68 (f := 2) (q := 71) (by decide +kernel)
  obtain ⟨gs, c69, r69⟩ := hI_a I (r := 69) (a := 0) (n := 6) (lo := -1) (hi := 5) (by decide +kernel)
  obtain ⟨gh, c70, r70⟩ := hI_a I (r := 70) (a := 0) (n := 6) (lo := 0) (hi := 149) (by decide +kernel)
  obtain ⟨gl, c71, -⟩ := hI_j I (r := 71) (n := 360) (lo := -9223372036854775808) (hi := 9223372036854775807) (by decide +kernel)
  obtain ⟨gs', gh', d1, d2, d3⟩ := I.2.1
  cases c69.symm.trans d1
  cases c70.symm.trans d2
  have J1 := d3 x1.toInt.toNat (by omega)
  have J3 := d3 x3.toInt.toNat (by omega)
  have R1 := r70 x1.toInt.toNat (by omega)
  have R3 := r70 x3.toInt.toNat (by omega)
  have fin : ∀ x : Int32, hQ cC291 σ h (some (.int x)) h := fun x => ⟨σ, I, dG_refl _ _ _, _, List.mem_cons_self, post_i I.1 (iR x).1 (iR x).2⟩
  refine hEnd ?_
  refine wp1 (fun n d => r_aloadn f115_0 rfl) ?_
  refine wp1 (fun n d => r_iloadn f115_1 rfl) ?_
  refine wp_in (lv := 0) (Y := zM110) (rowOn_wp c68 F68_0 c69 (x := x1) (by omega) (by omega) (r69 _ (by omega))) (fun n d v h' e => r_virt (as := [.int x1]) (r := []) f115_2 c68 (show zmt[110]? = some zM110 from rfl) rfl rfl rfl rfl rfl rfl e) (by decide) ?_
  rintro v h' ⟨rfl, r1, rfl, hr1⟩
  refine wp1 (fun n d => r_istore (L' := [some (.ref 68), some (.int x1), some (.int x2), some (.int x3), some (.int x4), some (.int x5), some (.int r1), u7]) f115_5 rfl rfl) ?_
  refine wp1 (fun n d => r_aloadn f115_7 rfl) ?_
  refine wp1 (fun n d => r_iloadn f115_8 rfl) ?_
  refine wp_in (lv := 0) (Y := zM110) (rowOn_wp c68 F68_0 c69 (x := x3) (by omega) (by omega) (r69 _ (by omega))) (fun n d v h' e => r_virt (as := [.int x3]) (r := []) f115_9 c68 (show zmt[110]? = some zM110 from rfl) rfl rfl rfl rfl rfl rfl e) (by decide) ?_
  rintro v h' ⟨rfl, r3, rfl, hr3⟩
  refine wp1 (fun n d => r_istore (L' := [some (.ref 68), some (.int x1), some (.int x2), some (.int x3), some (.int x4), some (.int x5), some (.int r1), some (.int r3)]) f115_12 rfl rfl) ?_
  refine wp1 (fun n d => r_iload f115_14 rfl) ?_
  refine w_bipush f115_16 (fun v16 hv16 => ?_)
  have k28 : Wp X 5 zM115 (hQ cC291 σ h) 28 [some (.ref 68), some (.int x1), some (.int x2), some (.int x3), some (.int x4), some (.int x5), some (.int r1), some (.int r3)] [] h := w_bipush f115_28 (fun v _ => wp_end (fun n d => r_ireturn f115_30 rfl) (fin v))
  have k60 : Wp X 5 zM115 (hQ cC291 σ h) 60 [some (.ref 68), some (.int x1), some (.int x2), some (.int x3), some (.int x4), some (.int x5), some (.int r1), some (.int r3)] [] h := w_bipush f115_60 (fun v _ => wp_end (fun n d => r_ireturn f115_62 rfl) (fin v))
  have k104 : Wp X 5 zM115 (hQ cC291 σ h) 104 [some (.ref 68), some (.int x1), some (.int x2), some (.int x3), some (.int x4), some (.int x5), some (.int r1), some (.int r3)] [] h := w_bipush f115_104 (fun v _ => wp_end (fun n d => r_ireturn f115_106 rfl) (fin v))
  refine w_icmp_eq f115_18 (fun _ => k28) (fun e18 => ?_)
  refine wp1 (fun n d => r_iload f115_21 rfl) ?_
  refine w_bipush f115_23 (fun v23 hv23 => ?_)
  refine w_icmp_ne f115_25 (fun e25 => ?_) (fun _ => k28)
  refine wp1 (fun n d => r_iload f115_31 rfl) ?_
  refine w_bipush f115_33 (fun v33 hv33 => ?_)
  refine w_icmp_eq f115_35 (fun _ => k60) (fun e35 => ?_)
  refine wp1 (fun n d => r_iload f115_38 rfl) ?_
  refine w_bipush f115_40 (fun v40 hv40 => ?_)
  refine w_icmp_eq f115_42 (fun _ => k60) (fun e42 => ?_)
  refine wp1 (fun n d => r_aloadn f115_45 rfl) ?_
  refine w_get f115_46 c68 F68_0 ?_
  refine wp1 (fun n d => r_iloadn f115_49 rfl) ?_
  refine w_iald f115_50 c69 (by omega) (by omega) (fun v50 hv50 => ?_)
  have g50 := congrArg Int32.toInt hv50
  refine wp1 (fun n d => r_aloadn f115_51 rfl) ?_
  refine w_get f115_52 c68 F68_0 ?_
  refine wp1 (fun n d => r_iloadn f115_55 rfl) ?_
  refine w_iald f115_56 c69 (by omega) (by omega) (fun v56 hv56 => ?_)
  have g56 := congrArg Int32.toInt hv56
  refine w_icmp_eq f115_57 (fun e57 => ?_) (fun _ => k60)
  refine wp1 (fun n d => r_iload f115_63 rfl) ?_
  refine w_if_lt f115_65 (fun _ => k104) (fun e65 => ?_)
  refine wp1 (fun n d => r_iloadn f115_68 rfl) ?_
  refine w_if_lt f115_69 (fun _ => k104) (fun e69 => ?_)
  refine wp1 (fun n d => r_iload f115_72 rfl) ?_
  refine w_if_lt f115_74 (fun _ => k104) (fun e74 => ?_)
  refine wp1 (fun n d => r_iloadn f115_77 rfl) ?_
  refine wp1 (fun n d => r_aloadn f115_78 rfl) ?_
  refine w_get f115_79 c68 F68_1 ?_
  refine wp1 (fun n d => r_iloadn f115_82 rfl) ?_
  refine w_iald f115_83 c70 (by omega) (by omega) (fun v83 hv83 => ?_)
  have g83 := congrArg Int32.toInt hv83
  refine wp1 (fun n d => r_iload f115_84 rfl) ?_
  refine w_isub f115_86 (by omega) (by omega) (fun v86 hv86 => ?_)
  refine w_icmp_gt f115_87 (fun _ => k104) (fun e87 => ?_)
  refine wp1 (fun n d => r_iload f115_90 rfl) ?_
  refine wp1 (fun n d => r_aloadn f115_92 rfl) ?_
  refine w_get f115_93 c68 F68_1 ?_
  refine wp1 (fun n d => r_iloadn f115_96 rfl) ?_
  refine w_iald f115_97 c70 (by omega) (by omega) (fun v97 hv97 => ?_)
  have g97 := congrArg Int32.toInt hv97
  refine wp1 (fun n d => r_iload f115_98 rfl) ?_
  refine w_isub f115_100 (by omega) (by omega) (fun v100 hv100 => ?_)
  refine w_icmp_le f115_101 (fun e101 => ?_) (fun _ => k104)
  refine wp1 (fun n d => r_aloadn f115_107 rfl) ?_
  refine w_get f115_108 c68 F68_2 ?_
  refine wp1 (fun n d => r_iloadn f115_111 rfl) ?_
  refine w_bipush f115_112 (fun v112 hv112 => ?_)
  refine w_imul f115_114 (by rw [hv112]; omega) (by rw [hv112]; omega) (fun v114 hv114 => ?_)
  rw [hv112] at hv114
  refine wp1 (fun n d => r_iloadn f115_115 rfl) ?_
  refine w_iadd f115_116 (by omega) (by omega) (fun v116 hv116 => ?_)
  refine wp1 (fun n d => r_aloadn f115_117 rfl) ?_
  refine w_get f115_118 c68 F68_2 ?_
  refine wp1 (fun n d => r_iloadn f115_121 rfl) ?_
  refine w_bipush f115_122 (fun v122 hv122 => ?_)
  refine w_imul f115_124 (by rw [hv122]; omega) (by rw [hv122]; omega) (fun v124 hv124 => ?_)
  rw [hv122] at hv124
  refine wp1 (fun n d => r_iload f115_125 rfl) ?_
  refine w_iadd f115_127 (by omega) (by omega) (fun v127 hv127 => ?_)
  refine wp1 (fun n d => r_iload f115_128 rfl) ?_
  have hs := hI_l I (W := [(71, 0)]) (r := 71) (n := 360) (by decide +kernel) rfl (Or.inl rfl) (g' := va_cpy gl gl v116.toNatClampNeg v127.toNatClampNeg x5.toNatClampNeg) c71
  refine wp1 (D := 5) (fun n d => r_cp1 (d := d + 4) f115_130 rfl c71 c71 (cp_ok (by omega) (by omega) (by omega) (by omega) (by omega)) rfl rfl) ?_
  refine wp1 (fun n d => r_iload f115_133 rfl) ?_
  refine wp_end (fun n d => r_ireturn f115_135 rfl) ?_
  exact ⟨σ, hs.1, hs.2, _, List.mem_cons_self, post_i hs.1.1 (iR x5).1 (iR x5).2⟩

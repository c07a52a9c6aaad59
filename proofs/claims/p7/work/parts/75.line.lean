-- ===== by hand: a line of a text =====
theorem f262_0 : aF 0 zM262.2.2.2.2.2.2.2 = some (0, (.bipush 90), 2, 0, 0) := by decide +kernel
theorem f262_2 : aF 2 zM262.2.2.2.2.2.2.2 = some (2, (.aload_n 0), 1, 0, 0) := by decide +kernel
theorem f262_3 : aF 3 zM262.2.2.2.2.2.2.2 = some (3, (.getfield 400), 3, 12, 67) := by decide +kernel
theorem f262_6 : aF 6 zM262.2.2.2.2.2.2.2 = some (6, .imul, 1, 0, 0) := by decide +kernel
theorem f262_7 : aF 7 zM262.2.2.2.2.2.2.2 = some (7, (.aload_n 0), 1, 0, 0) := by decide +kernel
theorem f262_8 : aF 8 zM262.2.2.2.2.2.2.2 = some (8, (.getfield 161), 3, 12, 59) := by decide +kernel
theorem f262_11 : aF 11 zM262.2.2.2.2.2.2.2 = some (11, (.aload_n 0), 1, 0, 0) := by decide +kernel
theorem f262_12 : aF 12 zM262.2.2.2.2.2.2.2 = some (12, (.getfield 400), 3, 12, 67) := by decide +kernel
theorem f262_15 : aF 15 zM262.2.2.2.2.2.2.2 = some (15, .iaload, 1, 0, 0) := by decide +kernel
theorem f262_16 : aF 16 zM262.2.2.2.2.2.2.2 = some (16, .iadd, 1, 0, 0) := by decide +kernel
theorem f262_17 : aF 17 zM262.2.2.2.2.2.2.2 = some (17, (.istore_n 1), 1, 0, 0) := by decide +kernel
theorem f262_18 : aF 18 zM262.2.2.2.2.2.2.2 = some (18, (.aload_n 0), 1, 0, 0) := by decide +kernel
theorem f262_19 : aF 19 zM262.2.2.2.2.2.2.2 = some (19, (.getfield 403), 3, 12, 68) := by decide +kernel
theorem f262_22 : aF 22 zM262.2.2.2.2.2.2.2 = some (22, (.istore_n 2), 1, 0, 0) := by decide +kernel
theorem f262_23 : aF 23 zM262.2.2.2.2.2.2.2 = some (23, (.aload_n 0), 1, 0, 0) := by decide +kernel
theorem f262_24 : aF 24 zM262.2.2.2.2.2.2.2 = some (24, (.invokevirtual 427), 3, 261, 0) := by decide +kernel
theorem f262_27 : aF 27 zM262.2.2.2.2.2.2.2 = some (27, (.aload_n 0), 1, 0, 0) := by decide +kernel
theorem f262_28 : aF 28 zM262.2.2.2.2.2.2.2 = some (28, (.getfield 164), 3, 12, 60) := by decide +kernel
theorem f262_31 : aF 31 zM262.2.2.2.2.2.2.2 = some (31, (.iload_n 1), 1, 0, 0) := by decide +kernel
theorem f262_32 : aF 32 zM262.2.2.2.2.2.2.2 = some (32, (.iload_n 2), 1, 0, 0) := by decide +kernel
theorem f262_33 : aF 33 zM262.2.2.2.2.2.2.2 = some (33, .iastore, 1, 0, 0) := by decide +kernel
theorem f262_34 : aF 34 zM262.2.2.2.2.2.2.2 = some (34, (.aload_n 0), 1, 0, 0) := by decide +kernel
theorem f262_35 : aF 35 zM262.2.2.2.2.2.2.2 = some (35, (.getfield 397), 3, 12, 65) := by decide +kernel
theorem f262_38 : aF 38 zM262.2.2.2.2.2.2.2 = some (38, (.ifCond .ge 36), 3, 74, 0) := by decide +kernel
theorem f262_41 : aF 41 zM262.2.2.2.2.2.2.2 = some (41, (.aload_n 0), 1, 0, 0) := by decide +kernel
theorem f262_42 : aF 42 zM262.2.2.2.2.2.2.2 = some (42, (.invokevirtual 412), 3, 251, 0) := by decide +kernel
theorem f262_45 : aF 45 zM262.2.2.2.2.2.2.2 = some (45, (.bipush 63), 2, 0, 0) := by decide +kernel
theorem f262_47 : aF 47 zM262.2.2.2.2.2.2.2 = some (47, (.if_icmp .ne 27), 3, 74, 0) := by decide +kernel
theorem f262_50 : aF 50 zM262.2.2.2.2.2.2.2 = some (50, (.aload_n 0), 1, 0, 0) := by decide +kernel
theorem f262_51 : aF 51 zM262.2.2.2.2.2.2.2 = some (51, .dup, 1, 0, 0) := by decide +kernel
theorem f262_52 : aF 52 zM262.2.2.2.2.2.2.2 = some (52, (.getfield 394), 3, 12, 64) := by decide +kernel
theorem f262_55 : aF 55 zM262.2.2.2.2.2.2.2 = some (55, (.iconst 1), 1, 0, 0) := by decide +kernel
theorem f262_56 : aF 56 zM262.2.2.2.2.2.2.2 = some (56, .iadd, 1, 0, 0) := by decide +kernel
theorem f262_57 : aF 57 zM262.2.2.2.2.2.2.2 = some (57, (.putfield 394), 3, 12, 64) := by decide +kernel
theorem f262_60 : aF 60 zM262.2.2.2.2.2.2.2 = some (60, (.aload_n 0), 1, 0, 0) := by decide +kernel
theorem f262_61 : aF 61 zM262.2.2.2.2.2.2.2 = some (61, (.getfield 164), 3, 12, 60) := by decide +kernel
theorem f262_64 : aF 64 zM262.2.2.2.2.2.2.2 = some (64, (.iload_n 1), 1, 0, 0) := by decide +kernel
theorem f262_65 : aF 65 zM262.2.2.2.2.2.2.2 = some (65, (.aload_n 0), 1, 0, 0) := by decide +kernel
theorem f262_66 : aF 66 zM262.2.2.2.2.2.2.2 = some (66, (.getfield 403), 3, 12, 68) := by decide +kernel
theorem f262_69 : aF 69 zM262.2.2.2.2.2.2.2 = some (69, .iastore, 1, 0, 0) := by decide +kernel
theorem f262_70 : aF 70 zM262.2.2.2.2.2.2.2 = some (70, (.aload_n 0), 1, 0, 0) := by decide +kernel
theorem f262_71 : aF 71 zM262.2.2.2.2.2.2.2 = some (71, (.invokevirtual 427), 3, 261, 0) := by decide +kernel
theorem f262_74 : aF 74 zM262.2.2.2.2.2.2.2 = some (74, (.aload_n 0), 1, 0, 0) := by decide +kernel
theorem f262_75 : aF 75 zM262.2.2.2.2.2.2.2 = some (75, (.getfield 167), 3, 12, 61) := by decide +kernel
theorem f262_78 : aF 78 zM262.2.2.2.2.2.2.2 = some (78, (.iload_n 1), 1, 0, 0) := by decide +kernel
theorem f262_79 : aF 79 zM262.2.2.2.2.2.2.2 = some (79, (.aload_n 0), 1, 0, 0) := by decide +kernel
theorem f262_80 : aF 80 zM262.2.2.2.2.2.2.2 = some (80, (.getfield 403), 3, 12, 68) := by decide +kernel
theorem f262_83 : aF 83 zM262.2.2.2.2.2.2.2 = some (83, .iastore, 1, 0, 0) := by decide +kernel
theorem f262_84 : aF 84 zM262.2.2.2.2.2.2.2 = some (84, (.aload_n 0), 1, 0, 0) := by decide +kernel
theorem f262_85 : aF 85 zM262.2.2.2.2.2.2.2 = some (85, (.getfield 161), 3, 12, 59) := by decide +kernel
theorem f262_88 : aF 88 zM262.2.2.2.2.2.2.2 = some (88, (.aload_n 0), 1, 0, 0) := by decide +kernel
theorem f262_89 : aF 89 zM262.2.2.2.2.2.2.2 = some (89, (.getfield 400), 3, 12, 67) := by decide +kernel
theorem f262_92 : aF 92 zM262.2.2.2.2.2.2.2 = some (92, .dup2, 1, 0, 0) := by decide +kernel
theorem f262_93 : aF 93 zM262.2.2.2.2.2.2.2 = some (93, .iaload, 1, 0, 0) := by decide +kernel
theorem f262_94 : aF 94 zM262.2.2.2.2.2.2.2 = some (94, (.iconst 1), 1, 0, 0) := by decide +kernel
theorem f262_95 : aF 95 zM262.2.2.2.2.2.2.2 = some (95, .iadd, 1, 0, 0) := by decide +kernel
theorem f262_96 : aF 96 zM262.2.2.2.2.2.2.2 = some (96, .iastore, 1, 0, 0) := by decide +kernel
theorem f262_97 : aF 97 zM262.2.2.2.2.2.2.2 = some (97, .return_, 1, 0, 0) := by decide +kernel
theorem wfS_lt {ga gw ga' gw' : Nat → Int32} {t a e : Nat} (h : ∀ k, k < e → ga' (170 * t + k) = ga (170 * t + k) ∧ gw' (170 * t + k) = gw (170 * t + k)) (s : wfS ga gw t a e) : wfS ga' gw' t a e := by
  obtain ⟨a1, a2, H, a3, a4⟩ := s
  refine ⟨a1, a2, H, a3, fun k k1 k2 => ?_⟩
  obtain ⟨e1, e2⟩ := h k k2
  rw [e1, e2]
  exact a4 k k1 k2
theorem wfS_nil {ga gw : Nat → Int32} {t a : Nat} (h : a ≤ 170) : wfS ga gw t a a := ⟨Nat.le_refl _, h, fun _ => 0, rfl, fun k k1 k2 => absurd k1 (by omega)⟩
/-- the lines of the row that is being made -/
def LN (rw c ld : Nat) (ga gw gt gl : Nat → Int32) : Prop := (c = 0 → ld = 0) ∧ (∀ j, c = j + 1 → (gl (90 * rw + j)).toInt = ld) ∧ ∀ i, i < c → ∃ a e l : Nat, (i = 0 → a = 0) ∧ (∀ j, i = j + 1 → (gl (90 * rw + j)).toInt = a) ∧ (gt (90 * rw + i)).toInt = e ∧ (gl (90 * rw + i)).toInt = l ∧ wfS ga gw rw a e ∧ wfS ga gw rw e l ∧ l ≤ ld
theorem LN_step {rw c ld ld2 e : Nat} {ga gw gt gl ga2 gw2 gt2 gl2 : Nat → Int32} (L : LN rw c ld ga gw gt gl) (h1 : ∀ k, k < ld → ga2 (170 * rw + k) = ga (170 * rw + k) ∧ gw2 (170 * rw + k) = gw (170 * rw + k)) (h2 : ld ≤ ld2) (h3 : ∀ i, i < c → gt2 (90 * rw + i) = gt (90 * rw + i) ∧ gl2 (90 * rw + i) = gl (90 * rw + i)) (h4 : (gt2 (90 * rw + c)).toInt = e) (h5 : (gl2 (90 * rw + c)).toInt = ld2) (h6 : wfS ga2 gw2 rw ld e) (h7 : wfS ga2 gw2 rw e ld2) : LN rw (c + 1) ld2 ga2 gw2 gt2 gl2 := by
  obtain ⟨l1, l2, l3⟩ := L
  refine ⟨fun q => absurd q (by omega), fun j hj => ?_, fun i hi => ?_⟩
  · have : j = c := by omega
    subst this
    exact h5
  · rcases Nat.lt_succ_iff_lt_or_eq.mp hi with q | q
    · obtain ⟨a, e', l, b1, b2, b3, b4, b5, b6, b7⟩ := l3 i q
      have := b6.1
      refine ⟨a, e', l, b1, fun j hj => ?_, by rw [(h3 i q).1]; exact b3, by rw [(h3 i q).2]; exact b4, wfS_lt (fun k hk => h1 k (by omega)) b5, wfS_lt (fun k hk => h1 k (by omega)) b6, by omega⟩
      rw [(h3 j (by omega)).2]
      exact b2 j hj
    · subst q
      refine ⟨ld, e, ld2, l1, fun j hj => ?_, h4, h5, h6, h7, Nat.le_refl _⟩
      rw [(h3 j (by omega)).2]
      exact l2 j hj
theorem PS_cells {σ : List Nat} {h h2 : aH} {hr ft op rw ld tp : Int32} {ga gw gT : Nat → Int32} (P : PS σ h hr ft op rw ld tp ga gw gT) (I2 : dI σ h2) (h72 : h2.1[72]? = h.1[72]?) (h122 : h2.1[122]? = h.1[122]?) (h123 : h2.1[123]? = h.1[123]?) (hT : h2.1[115]? = h.1[115]?) : PS σ h2 hr ft op rw ld tp ga gw gT := by
  obtain ⟨-, ⟨fs, c, r⟩, q1, q2, q3, q4⟩ := P
  exact ⟨I2, ⟨fs, h72.trans c, r⟩, h122.trans q1, h123.trans q2, hT.trans q3, q4⟩
/-- the lines' cells -/
def TS (h : aH) (gm gt gl : Nat → Int32) : Prop := h.1[119]? = some (.inl (0, 17, .inl gm)) ∧ h.1[120]? = some (.inl (0, 1530, .inl gt)) ∧ h.1[121]? = some (.inl (0, 1530, .inl gl))
theorem TS_dG {σ : List Nat} {h h2 : aH} {gm gt gl : Nat → Int32} (T : TS h gm gt gl) (I : dI σ h) (G : dG lWP σ h σ h2) : TS h2 gm gt gl := ⟨dG_a I.1 G T.1 (by decide) rfl, dG_a I.1 G T.2.1 (by decide) rfl, dG_a I.1 G T.2.2 (by decide) rfl⟩
theorem w_txt {X : aX} {D : Nat} {M : aM} {Q : Option Value → aH → Prop} {pc len a b : Nat} {l : aL} {r : List Value} {σ : List Nat} {h : aH} {hr ft op rw ld tp y idx : Int32} {ga gw gT g : Nat → Int32} {o n j : Nat} (hf : aF pc M.2.2.2.2.2.2.2 = some (pc, .iastore, len, a, b)) (P : PS σ h hr ft op rw ld tp ga gw gT) (ho : o = 120 ∧ n = 1530 ∨ o = 121 ∧ n = 1530 ∨ o = 119 ∧ n = 17) (c : h.1[o]? = some (.inl (0, n, .inl g))) (hj : idx.toInt = j) (hj1 : o = 120 ∨ o = 121 → 90 * rw.toInt.toNat ≤ j ∧ j < 90 * rw.toInt.toNat + 90) (hj2 : o = 119 → j = rw.toInt.toNat)
    (kk : ∀ h2 : aH, dG cC144.2.2.1 σ h σ h2 → PS σ h2 hr ft op rw ld tp ga gw gT → h2.1[o]? = some (.inl (0, n, .inl (upd g j y))) → (∀ q, o ≠ q → h2.1[q]? = h.1[q]?) → Wp X D M Q (pc + 1) l r h2) : Wp X D M Q pc l (.int y :: .int idx :: .ref o :: r) h := by
  obtain ⟨I, ⟨fs, c72, F64, F65, F66, F67, F68, F54, F55⟩, c122, c123, cT, q4, q5, -⟩ := id P
  have hW : cWn cC144.2.2.1 o 0 = true := by rcases ho with ⟨rfl, rfl⟩ | ⟨rfl, rfl⟩ | ⟨rfl, rfl⟩ <;> decide
  obtain ⟨I2, G2⟩ := hI_txt I (W := cC144.2.2.1) hW (r := o) (n := n) (j := j) (y := y) (by omega) c72 F55 c ⟨fun e => by omega, fun e t k ht hk => by have := hj1 e; omega, fun e t ht => by have := hj2 e; omega⟩
  have e : idx.toInt.toNat = j := by omega
  refine w_iast hf c (by omega) ?_ ?_
  · rcases ho with ⟨rfl, rfl⟩ | ⟨rfl, rfl⟩ | ⟨rfl, rfl⟩
    · have := hj1 (Or.inl rfl); omega
    · have := hj1 (Or.inr rfl); omega
    · have := hj2 rfl; omega
  · rw [e]
    exact kk _ G2 (PS_cells P I2 (set_ne' (by omega)) (set_ne' (by omega)) (set_ne' (by omega)) (set_ne' (by omega))) (set_eq' c) (fun q hq => set_ne' hq)
theorem line_wp {X : aX} {σ : List Nat} {h : aH} {hr ft op rw ld tp : Int32} {ga gw gT gm gt gl : Nat → Int32} {c : Nat} (P : PS σ h hr ft op rw ld tp ga gw gT) (T : TS h gm gt gl) (hf : ft.toInt < 0) (hl : ld.toInt ≤ hr.toInt) (hc : (gm rw.toInt.toNat).toInt = c) (c1 : c ≤ 89) (N : LN rw.toInt.toNat c ld.toInt.toNat ga gw gt gl) : Wp X 56 zM262 (fun v h' => v = none ∧ dG cC144.2.2.1 σ h σ h' ∧ ∃ (hr' ft' op' ld' : Int32) (ga' gw' gm' gt' gl' : Nat → Int32), PS σ h' hr' ft' op' rw ld' tp ga' gw' gT ∧ TS h' gm' gt' gl' ∧ (gm' rw.toInt.toNat).toInt = c + 1 ∧ (ft'.toInt < 0 → hr.toInt < hr'.toInt ∧ ld'.toInt ≤ hr'.toInt ∧ LN rw.toInt.toNat (c + 1) ld'.toInt.toNat ga' gw' gt' gl')) 0 [some (.ref 72), none, none] [] h := by
  have B0 := PS_b P
  obtain ⟨fs, c72, F65, F66, F67, F68⟩ := PS_c P
  have T0 := T
  obtain ⟨c119, c120, c121⟩ := T
  refine w_bipush f262_0 (fun v0 hv0 => ?_)
  refine wp1 (fun n d => r_aloadn f262_2 rfl) ?_
  refine w_get f262_3 c72 F67 ?_
  refine w_imul f262_6 (by rw [hv0]; omega) (by rw [hv0]; omega) (fun v6 hv6 => ?_)
  rw [hv0] at hv6
  refine wp1 (fun n d => r_aloadn f262_7 rfl) ?_
  have F1001 := hI_r P.1 c72 (f := 59) (q := 119) (by decide +kernel)
  refine w_get f262_8 c72 F1001 ?_
  refine wp1 (fun n d => r_aloadn f262_11 rfl) ?_
  refine w_get f262_12 c72 F67 ?_
  refine w_iald f262_15 c119 (by omega) (by omega) (fun v15 hv15 => ?_)
  have hcc : v15.toInt = c := by rw [hv15]; exact hc
  refine w_iadd f262_16 (by omega) (by omega) (fun v16 hv16 => ?_)
  refine wp1 (fun n d => r_istoren (L' := [some (.ref 72), some (.int v16), none]) f262_17 rfl rfl) ?_
  refine wp1 (fun n d => r_aloadn f262_18 rfl) ?_
  refine w_get f262_19 c72 F68 ?_
  refine wp1 (fun n d => r_istoren (L' := [some (.ref 72), some (.int v16), some (.int ld)]) f262_22 rfl rfl) ?_
  have hl0 : v16.toInt = ((90 * rw.toInt.toNat + c : Nat) : Int) := by omega
  have k74 : ∀ (h1 : aH) (hr1 ft1 op1 ld1 : Int32) (ga1 gw1 gt1 : Nat → Int32), dG cC144.2.2.1 σ h σ h1 → PS σ h1 hr1 ft1 op1 rw ld1 tp ga1 gw1 gT → TS h1 gm gt1 gl → ld.toInt ≤ ld1.toInt → (∀ k, k < ld.toInt.toNat → ga1 (170 * rw.toInt.toNat + k) = ga (170 * rw.toInt.toNat + k) ∧ gw1 (170 * rw.toInt.toNat + k) = gw (170 * rw.toInt.toNat + k)) → (∀ i, i < c → gt1 (90 * rw.toInt.toNat + i) = gt (90 * rw.toInt.toNat + i)) → (ft1.toInt < 0 → hr.toInt < hr1.toInt ∧ ld1.toInt ≤ hr1.toInt ∧ ∃ e : Nat, (gt1 (90 * rw.toInt.toNat + c)).toInt = e ∧ wfS ga1 gw1 rw.toInt.toNat ld.toInt.toNat e ∧ wfS ga1 gw1 rw.toInt.toNat e ld1.toInt.toNat) → Wp X 56 zM262 (fun v h' => v = none ∧ dG cC144.2.2.1 σ h σ h' ∧ ∃ (hr' ft' op' ld' : Int32) (ga' gw' gm' gt' gl' : Nat → Int32), PS σ h' hr' ft' op' rw ld' tp ga' gw' gT ∧ TS h' gm' gt' gl' ∧ (gm' rw.toInt.toNat).toInt = c + 1 ∧ (ft'.toInt < 0 → hr.toInt < hr'.toInt ∧ ld'.toInt ≤ hr'.toInt ∧ LN rw.toInt.toNat (c + 1) ld'.toInt.toNat ga' gw' gt' gl')) 74 [some (.ref 72), some (.int v16), some (.int ld)] [] h1 := by
    intro h1 hr1 ft1 op1 ld1 ga1 gw1 gt1 G1 P1 T1 q1 q2 q3 q4
    have B1 := PS_b P1
    obtain ⟨fs1, d72, F65a, F66a, F67a, F68a⟩ := PS_c P1
    obtain ⟨d119, d120, d121⟩ := T1
    refine wp1 (fun n d => r_aloadn f262_74 rfl) ?_
    have F2001 := hI_r P1.1 d72 (f := 61) (q := 121) (by decide +kernel)
    refine w_get f262_75 d72 F2001 ?_
    refine wp1 (fun n d => r_iloadn f262_78 rfl) ?_
    refine wp1 (fun n d => r_aloadn f262_79 rfl) ?_
    refine w_get f262_80 d72 F68a ?_
    refine w_txt f262_83 P1 (Or.inr (Or.inl ⟨rfl, rfl⟩)) d121 hl0 (fun _ => by omega) (fun e => by omega) (fun h2 G2 P2 e121 ne2 => ?_)
    have e119 := (ne2 119 (by decide)).trans d119
    have e120 := (ne2 120 (by decide)).trans d120
    obtain ⟨fs2, e72, F65b, F66b, F67b, F68b⟩ := PS_c P2
    refine wp1 (fun n d => r_aloadn f262_84 rfl) ?_
    have F3001 := hI_r P2.1 e72 (f := 59) (q := 119) (by decide +kernel)
    refine w_get f262_85 e72 F3001 ?_
    refine wp1 (fun n d => r_aloadn f262_88 rfl) ?_
    refine w_get f262_89 e72 F67b ?_
    refine wp1 (fun n d => r_dup2 f262_92 rfl) ?_
    refine w_iald f262_93 e119 (by omega) (by omega) (fun v93 hv93 => ?_)
    have hcb : v93.toInt = c := by rw [hv93]; exact hc
    refine w_iconst f262_94 (fun v94 hv94 => ?_)
    refine w_iadd f262_95 (by omega) (by omega) (fun v95 hv95 => ?_)
    refine w_txt f262_96 P2 (Or.inr (Or.inr ⟨rfl, rfl⟩)) e119 (j := rw.toInt.toNat) (by omega) (fun e => by omega) (fun _ => rfl) (fun h3 G3 P3 f119 ne3 => ?_)
    refine wp_end (fun n d => r_vreturn f262_97 rfl) ⟨rfl, dG_trans G1 (dG_trans G2 G3), hr1, ft1, op1, ld1, ga1, gw1, _, gt1, upd gl (90 * rw.toInt.toNat + c) ld1, P3, ⟨f119, (ne3 120 (by decide)).trans e120, (ne3 121 (by decide)).trans e121⟩, by rw [pk_us]; omega, fun hf1 => ?_⟩
    obtain ⟨r1, r2, e, r3, r4, r5⟩ := q4 hf1
    exact ⟨r1, r2, LN_step N q2 (by omega) (fun i hi => ⟨q3 i hi, pk_un (by omega)⟩) r3 (by rw [pk_us]; omega) r4 r5⟩
  refine wp1 (fun nn dd => r_aloadn f262_23 rfl) ?_
  refine wp_in (lv := 55) (Y := zM261) (ei_sp σ h hr ft op rw ld tp ga gw gT P hf hl (by omega)) (fun nn dd vv hh ee => r_virt (as := []) (r := []) f262_24 c72 (show zmt[261]? = some zM261 from rfl) rfl rfl rfl rfl rfl rfl ee) (by decide) ?_
  rintro v' h1 ⟨rfl, hr1, ft1, op1, ld1, ga1, gw1, B⟩
  have P1 := B.2.1
  have B1 := PS_b P1
  have C4 := B.2.2.2.1
  have C5 := B.2.2.2.2.1
  have C7 := B.2.2.2.2.2.2.1
  obtain ⟨d119, d120, d121⟩ := TS_dG T0 P.1 B.1
  obtain ⟨fs1, d72, F65a, F66a, F67a, F68a⟩ := PS_c P1
  show Wp _ _ _ _ 27 [some (.ref 72), some (.int v16), some (.int ld)] [] _
  refine wp1 (fun n d => r_aloadn f262_27 rfl) ?_
  have F2001 := hI_r P1.1 d72 (f := 60) (q := 120) (by decide +kernel)
  refine w_get f262_28 d72 F2001 ?_
  refine wp1 (fun n d => r_iloadn f262_31 rfl) ?_
  refine wp1 (fun n d => r_iloadn f262_32 rfl) ?_
  refine w_txt f262_33 P1 (Or.inl ⟨rfl, rfl⟩) d120 hl0 (fun _ => by omega) (fun e => by omega) (fun h2 G2 P2 e120 ne2 => ?_)
  have e119 := (ne2 119 (by decide)).trans d119
  have e121 := (ne2 121 (by decide)).trans d121
  obtain ⟨fs2, e72, F65b, F66b, F67b, F68b⟩ := PS_c P2
  have G12 : dG cC144.2.2.1 σ h σ h2 := dG_trans (dG_sub (by decide) B.1) G2
  have kk : Wp X 56 zM262 (fun v h' => v = none ∧ dG cC144.2.2.1 σ h σ h' ∧ ∃ (hr' ft' op' ld' : Int32) (ga' gw' gm' gt' gl' : Nat → Int32), PS σ h' hr' ft' op' rw ld' tp ga' gw' gT ∧ TS h' gm' gt' gl' ∧ (gm' rw.toInt.toNat).toInt = c + 1 ∧ (ft'.toInt < 0 → hr.toInt < hr'.toInt ∧ ld'.toInt ≤ hr'.toInt ∧ LN rw.toInt.toNat (c + 1) ld'.toInt.toNat ga' gw' gt' gl')) 74 [some (.ref 72), some (.int v16), some (.int ld)] [] h2 := k74 h2 hr1 ft1 op1 ld1 ga1 gw1 _ G12 P2 ⟨e119, e120, e121⟩ C4 C7 (fun i hi => pk_un (by omega)) (fun f1 => by
    obtain ⟨x1, x2, x3⟩ := B.2.2.2.2.2.2.2 f1
    exact ⟨x2, by omega, ld.toInt.toNat, by rw [pk_us]; omega, wfS_nil (by omega), wfS_seg (by omega) (by omega) (x3 0)⟩)
  refine wp1 (fun n d => r_aloadn f262_34 rfl) ?_
  refine w_get f262_35 e72 F65b ?_
  refine w_if_ge f262_38 (fun _ => kk) (fun f1 => ?_)
  obtain ⟨x1, x2, x3⟩ := B.2.2.2.2.2.2.2 f1
  refine wp1 (fun nn dd => r_aloadn f262_41 rfl) ?_
  refine wp_in (lv := 0) (Y := zM251) (look_wp P2) (fun nn dd vv hh ee => r_virt (as := []) (r := []) f262_42 e72 (show zmt[251]? = some zM251 from rfl) rfl rfl rfl rfl rfl rfl ee) (by decide) ?_
  rintro v' h' ⟨rfl, rfl⟩
  show Wp _ _ _ _ 45 [some (.ref 72), some (.int v16), some (.int ld)] [.int (lkv hr1 tp gT)] _
  refine w_bipush f262_45 (fun v45 hv45 => ?_)
  refine w_icmp_ne f262_47 (fun _ => kk) (fun e47 => ?_)
  have hlt := lkv_lt (hr := hr1) (tp := tp) (gT := gT) (by omega)
  refine w_here P2 (by omega) rfl f262_50 f262_51 f262_52 f262_55 f262_56 f262_57 (fun h3 hr3 e3 G3 P3 => ?_)
  obtain ⟨f119, f120, f121⟩ := TS_dG (h := h2) ⟨e119, e120, e121⟩ P2.1 G3
  obtain ⟨fs3, f72, F65c, F66c, F67c, F68c⟩ := PS_c P3
  have B3 := PS_b P3
  refine wp1 (fun n d => r_aloadn f262_60 rfl) ?_
  have F4001 := hI_r P3.1 f72 (f := 60) (q := 120) (by decide +kernel)
  refine w_get f262_61 f72 F4001 ?_
  refine wp1 (fun n d => r_iloadn f262_64 rfl) ?_
  refine wp1 (fun n d => r_aloadn f262_65 rfl) ?_
  refine w_get f262_66 f72 F68c ?_
  refine w_txt f262_69 P3 (Or.inl ⟨rfl, rfl⟩) f120 hl0 (fun _ => by omega) (fun e => by omega) (fun h4 G4 P4 g120 ne4 => ?_)
  have g119 := (ne4 119 (by decide)).trans f119
  have g121 := (ne4 121 (by decide)).trans f121
  obtain ⟨fs4, g72, -⟩ := PS_c P4
  refine wp1 (fun nn dd => r_aloadn f262_70 rfl) ?_
  refine wp_in (lv := 55) (Y := zM261) (ei_sp σ h4 hr3 ft1 op1 rw ld1 tp ga1 gw1 gT P4 f1 (by omega) (by omega)) (fun nn dd vv hh ee => r_virt (as := []) (r := []) f262_71 g72 (show zmt[261]? = some zM261 from rfl) rfl rfl rfl rfl rfl rfl ee) (by decide) ?_
  rintro v' h5 ⟨rfl, hr5, ft5, op5, ld5, ga5, gw5, E⟩
  have P5 := E.2.1
  have B5 := PS_b P5
  have E4 := E.2.2.2.1
  have E5 := E.2.2.2.2.1
  have E7 := E.2.2.2.2.2.2.1
  refine k74 h5 hr5 ft5 op5 ld5 ga5 gw5 _ (dG_trans G12 (dG_trans (dG_trans (dG_sub (by decide) G3) G4) (dG_sub (by decide) E.1))) P5 (TS_dG ⟨g119, g120, g121⟩ P4.1 E.1) (by omega) (fun k hk => ?_) (fun i hi => by rw [pk_un (by omega), pk_un (by omega)]) (fun f5 => ?_)
  · rw [(E7 k (by omega)).1, (E7 k (by omega)).2]
    exact C7 k hk
  · obtain ⟨y1, y2, y3⟩ := E.2.2.2.2.2.2.2 f5
    have E3 := E.2.2.1
    exact ⟨by omega, by omega, ld1.toInt.toNat, by rw [pk_us]; omega, wfS_seg (by omega) (by omega) (seg_congr (fun k k1 k2 => E7 k (by omega)) (x3 0)), wfS_seg (by omega) (by omega) (y3 0)⟩

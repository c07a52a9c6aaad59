-- ===== by hand: lay and copy =====
theorem hS_j {σ : List Nat} {h : aH} (H : dH σ h) {W : List (Nat × Nat)} {r n : Nat} {lo hi : Int} (k : tkJ r n lo hi = true) (hW : cWn W r 0 = true) {g g' : Nat → Int64} (c : h.1[r]? = some (.inl (1, n, .inr (.inl g)))) (hg : ∀ j, j < n → lo ≤ (g' j).toInt ∧ (g' j).toInt ≤ hi) :
    dH σ (h.1.set r (.inl (1, n, .inr (.inl g'))), h.2) ∧ dG W σ h σ (h.1.set r (.inl (1, n, .inr (.inl g'))), h.2) := by
  unfold tkJ at k
  split at k
  · rename_i t e
    simp only [Bool.and_eq_true, Nat.blt_eq, ceI_i] at k
    obtain ⟨⟨⟨⟨k1, k2⟩, k4⟩, k5⟩, k6⟩ := k
    have e1 : t.1 = 2 := Nat.eq_of_beq_eq_true k1
    have e4 : t.2.2.1 = n := Nat.eq_of_beq_eq_true k4
    have hs := H.2.2.2 r k2
    refine ⟨dH_set H hs e ?_, dG_set H hs e (by omega) c ⟨fun x _ hw => ?_, fun ci fs0 hx => by cases hx⟩⟩
    · unfold dC
      rw [e1]
      exact ⟨g', by rw [e4], by rw [e4, k5, k6]; exact hg⟩
    · rw [hW] at hw; cases hw
  · cases k
/-- longs of any size written, apart from the shelves' and texts' cells -/
theorem hI_l {σ : List Nat} {h : aH} (I : dI σ h) {W : List (Nat × Nat)} {r n : Nat} (k : tkJ r n (-9223372036854775808) 9223372036854775807 = true) (hW : cWn W r 0 = true) (hr : r = 71 ∨ r = 144 ∨ r = 145) {g g' : Nat → Int64} (c : h.1[r]? = some (.inl (1, n, .inr (.inl g)))) :
    dI σ (h.1.set r (.inl (1, n, .inr (.inl g'))), h.2) ∧ dG W σ h σ (h.1.set r (.inl (1, n, .inr (.inl g'))), h.2) := by
  obtain ⟨H1, G1⟩ := hS_j I.1 k hW c (fun j _ => jR (g' j))
  exact ⟨⟨H1, hJ2 I.2.1 fun q hq => set_ne' (by omega), hJ3 I.2.2 fun q hq => set_ne' (by omega)⟩, G1⟩
theorem f109_0 : aF 0 zM109.2.2.2.2.2.2.2 = some (0, (.aload_n 0), 1, 0, 0) := by decide +kernel
theorem f109_1 : aF 1 zM109.2.2.2.2.2.2.2 = some (1, (.getfield 9), 3, 9, 0) := by decide +kernel
theorem f109_4 : aF 4 zM109.2.2.2.2.2.2.2 = some (4, (.iload_n 1), 1, 0, 0) := by decide +kernel
theorem f109_5 : aF 5 zM109.2.2.2.2.2.2.2 = some (5, (.iload_n 2), 1, 0, 0) := by decide +kernel
theorem f109_6 : aF 6 zM109.2.2.2.2.2.2.2 = some (6, .iastore, 1, 0, 0) := by decide +kernel
theorem f109_7 : aF 7 zM109.2.2.2.2.2.2.2 = some (7, (.aload_n 0), 1, 0, 0) := by decide +kernel
theorem f109_8 : aF 8 zM109.2.2.2.2.2.2.2 = some (8, (.getfield 15), 3, 9, 1) := by decide +kernel
theorem f109_11 : aF 11 zM109.2.2.2.2.2.2.2 = some (11, (.iload_n 1), 1, 0, 0) := by decide +kernel
theorem f109_12 : aF 12 zM109.2.2.2.2.2.2.2 = some (12, (.iload_n 3), 1, 0, 0) := by decide +kernel
theorem f109_13 : aF 13 zM109.2.2.2.2.2.2.2 = some (13, .iastore, 1, 0, 0) := by decide +kernel
theorem f109_14 : aF 14 zM109.2.2.2.2.2.2.2 = some (14, (.aload_n 0), 1, 0, 0) := by decide +kernel
theorem f109_15 : aF 15 zM109.2.2.2.2.2.2.2 = some (15, (.getfield 18), 3, 9, 2) := by decide +kernel
theorem f109_18 : aF 18 zM109.2.2.2.2.2.2.2 = some (18, (.iload_n 1), 1, 0, 0) := by decide +kernel
theorem f109_19 : aF 19 zM109.2.2.2.2.2.2.2 = some (19, (.bipush 60), 2, 0, 0) := by decide +kernel
theorem f109_21 : aF 21 zM109.2.2.2.2.2.2.2 = some (21, .imul, 1, 0, 0) := by decide +kernel
theorem f109_22 : aF 22 zM109.2.2.2.2.2.2.2 = some (22, (.iload_n 1), 1, 0, 0) := by decide +kernel
theorem f109_23 : aF 23 zM109.2.2.2.2.2.2.2 = some (23, (.bipush 60), 2, 0, 0) := by decide +kernel
theorem f109_25 : aF 25 zM109.2.2.2.2.2.2.2 = some (25, .imul, 1, 0, 0) := by decide +kernel
theorem f109_26 : aF 26 zM109.2.2.2.2.2.2.2 = some (26, (.iload_n 3), 1, 0, 0) := by decide +kernel
theorem f109_27 : aF 27 zM109.2.2.2.2.2.2.2 = some (27, .iadd, 1, 0, 0) := by decide +kernel
theorem f109_28 : aF 28 zM109.2.2.2.2.2.2.2 = some (28, (.lconst 0), 1, 0, 0) := by decide +kernel
theorem f109_29 : aF 29 zM109.2.2.2.2.2.2.2 = some (29, (.invokestatic 22), 3, 331, 0) := by decide +kernel
theorem f109_32 : aF 32 zM109.2.2.2.2.2.2.2 = some (32, (.iconst 1), 1, 0, 0) := by decide +kernel
theorem f109_33 : aF 33 zM109.2.2.2.2.2.2.2 = some (33, .ireturn, 1, 0, 0) := by decide +kernel
theorem f330_0 : aF 0 zM330.2.2.2.2.2.2.2 = some (0, (.iload_n 1), 1, 0, 0) := by decide +kernel
theorem f330_1 : aF 1 zM330.2.2.2.2.2.2.2 = some (1, (.iload_n 2), 1, 0, 0) := by decide +kernel
theorem f330_2 : aF 2 zM330.2.2.2.2.2.2.2 = some (2, (.if_icmp .le 44), 3, 46, 0) := by decide +kernel
theorem f330_46 : aF 46 zM330.2.2.2.2.2.2.2 = some (46, (.iload_n 1), 1, 0, 0) := by decide +kernel
theorem f330_47 : aF 47 zM330.2.2.2.2.2.2.2 = some (47, (.ifCond .ge 12), 3, 59, 0) := by decide +kernel
theorem f330_59 : aF 59 zM330.2.2.2.2.2.2.2 = some (59, (.iload_n 2), 1, 0, 0) := by decide +kernel
theorem f330_60 : aF 60 zM330.2.2.2.2.2.2.2 = some (60, (.iload_n 0), 1, 0, 0) := by decide +kernel
theorem f330_61 : aF 61 zM330.2.2.2.2.2.2.2 = some (61, (.if_icmp .le 12), 3, 73, 0) := by decide +kernel
theorem f330_73 : aF 73 zM330.2.2.2.2.2.2.2 = some (73, .return_, 1, 0, 0) := by decide +kernel
theorem f331_0 : aF 0 zM331.2.2.2.2.2.2.2 = some (0, (.aload_n 0), 1, 0, 0) := by decide +kernel
theorem f331_1 : aF 1 zM331.2.2.2.2.2.2.2 = some (1, .arraylength, 1, 0, 0) := by decide +kernel
theorem f331_2 : aF 2 zM331.2.2.2.2.2.2.2 = some (2, (.iload_n 1), 1, 0, 0) := by decide +kernel
theorem f331_3 : aF 3 zM331.2.2.2.2.2.2.2 = some (3, (.iload_n 2), 1, 0, 0) := by decide +kernel
theorem f331_4 : aF 4 zM331.2.2.2.2.2.2.2 = some (4, (.invokestatic 13), 3, 330, 0) := by decide +kernel
theorem f331_7 : aF 7 zM331.2.2.2.2.2.2.2 = some (7, (.iload_n 1), 1, 0, 0) := by decide +kernel
theorem f331_8 : aF 8 zM331.2.2.2.2.2.2.2 = some (8, (.istore 5), 2, 0, 0) := by decide +kernel
theorem f331_10 : aF 10 zM331.2.2.2.2.2.2.2 = some (10, (.iload 5), 2, 0, 0) := by decide +kernel
theorem f331_12 : aF 12 zM331.2.2.2.2.2.2.2 = some (12, (.iload_n 2), 1, 0, 0) := by decide +kernel
theorem f331_13 : aF 13 zM331.2.2.2.2.2.2.2 = some (13, (.if_icmp .ge 14), 3, 27, 0) := by decide +kernel
theorem f331_16 : aF 16 zM331.2.2.2.2.2.2.2 = some (16, (.aload_n 0), 1, 0, 0) := by decide +kernel
theorem f331_17 : aF 17 zM331.2.2.2.2.2.2.2 = some (17, (.iload 5), 2, 0, 0) := by decide +kernel
theorem f331_19 : aF 19 zM331.2.2.2.2.2.2.2 = some (19, (.lload_n 3), 1, 0, 0) := by decide +kernel
theorem f331_20 : aF 20 zM331.2.2.2.2.2.2.2 = some (20, .lastore, 1, 0, 0) := by decide +kernel
theorem f331_21 : aF 21 zM331.2.2.2.2.2.2.2 = some (21, (.iinc 5 1), 3, 0, 0) := by decide +kernel
theorem f331_24 : aF 24 zM331.2.2.2.2.2.2.2 = some (24, (.goto (-14)), 3, 10, 0) := by decide +kernel
theorem f331_27 : aF 27 zM331.2.2.2.2.2.2.2 = some (27, .return_, 1, 0, 0) := by decide +kernel
theorem fill_loop {X : aX} {D : Nat} {σ : List Nat} {W : List (Nat × Nat)} (hW : cWn W 71 0 = true) {Q : Option Value → aH → Prop} {i0 t : Int32} {z : Int64} (ht : t.toInt ≤ 360) : ∀ (k : Nat) (i : Int32) (h : aH), (t.toInt - i.toInt).toNat = k → 0 ≤ i.toInt → dI σ h → (∀ h', dI σ h' → dG W σ h σ h' → Q none h') →
    Wp X D zM331 Q 10 [some (.ref 71), some (.int i0), some (.int t), some (.long z), none, some (.int i)] [] h := by
  intro k
  induction k with
  | zero =>
    intro i h hk hi I kq
    refine wp1 (fun n d => r_iload f331_10 rfl) ?_
    refine wp1 (fun n d => r_iloadn f331_12 rfl) ?_
    refine w_icmp_ge f331_13 (fun e => ?_) (fun e => absurd e (by omega))
    exact wp_end (fun n d => r_vreturn f331_27 rfl) (kq h I (dG_refl _ _ _))
  | succ k ih =>
    intro i h hk hi I kq
    refine wp1 (fun n d => r_iload f331_10 rfl) ?_
    refine wp1 (fun n d => r_iloadn f331_12 rfl) ?_
    refine w_icmp_ge f331_13 (fun e => ?_) (fun e => ?_)
    · exact wp_end (fun n d => r_vreturn f331_27 rfl) (kq h I (dG_refl _ _ _))
    · obtain ⟨g, c71, -⟩ := hI_j I (r := 71) (n := 360) (lo := -9223372036854775808) (hi := 9223372036854775807) (by decide +kernel)
      refine wp1 (fun n d => r_aloadn f331_16 rfl) ?_
      refine wp1 (fun n d => r_iload f331_17 rfl) ?_
      refine wp1 (fun n d => r_lloadn f331_19 rfl) ?_
      refine w_last f331_20 c71 (by omega) (by omega) ?_
      have hs := hI_l I (W := W) (r := 71) (n := 360) (by decide +kernel) hW (Or.inl rfl) (g' := vp_updL g i.toInt.toNat z) c71
      refine w_iinc f331_21 rfl (by omega) (by omega) (fun v21 hv21 => ?_)
      show Wp _ _ _ _ 24 [some (.ref 71), some (.int i0), some (.int t), some (.long z), none, some (.int v21)] _ _
      refine wp1 (fun n d => r_goto f331_24) ?_
      exact ih _ _ (by omega) (by omega) hs.1 (fun h' I' G' => kq h' I' (dG_trans hs.2 G'))
theorem rng_wp {X : aX} {h : aH} {n i0 t : Int32} (h1 : 0 ≤ i0.toInt) (h2 : i0.toInt ≤ t.toInt) (h3 : t.toInt ≤ n.toInt) : Wp X 0 zM330 (fun v h' => v = none ∧ h' = h) 0 [some (.int n), some (.int i0), some (.int t)] [] h := by
  refine wp1 (fun n d => r_iloadn f330_0 rfl) ?_
  refine wp1 (fun n d => r_iloadn f330_1 rfl) ?_
  refine w_icmp_le f330_2 (fun e2 => ?_) (fun e2 => absurd e2 (by omega))
  refine wp1 (fun n d => r_iloadn f330_46 rfl) ?_
  refine w_if_ge f330_47 (fun e47 => ?_) (fun e47 => absurd e47 (by omega))
  refine wp1 (fun n d => r_iloadn f330_59 rfl) ?_
  refine wp1 (fun n d => r_iloadn f330_60 rfl) ?_
  refine w_icmp_le f330_61 (fun e61 => ?_) (fun e61 => absurd e61 (by omega))
  exact wp_end (fun n d => r_vreturn f330_73 rfl) ⟨rfl, rfl⟩
theorem fill_wp {X : aX} {σ : List Nat} {W : List (Nat × Nat)} (hW : cWn W 71 0 = true) {h : aH} (I : dI σ h) {i0 t : Int32} {z : Int64} (h1 : 0 ≤ i0.toInt) (h2 : i0.toInt ≤ t.toInt) (ht : t.toInt ≤ 360) :
    Wp X 1 zM331 (fun v h' => v = none ∧ dI σ h' ∧ dG W σ h σ h') 0 [some (.ref 71), some (.int i0), some (.int t), some (.long z), none, none] [] h := by
  obtain ⟨g, c71, -⟩ := hI_j I (r := 71) (n := 360) (lo := -9223372036854775808) (hi := 9223372036854775807) (by decide +kernel)
  refine wp1 (fun n d => r_aloadn f331_0 rfl) ?_
  refine wp1 (fun n d => r_alen1 (v := 360) f331_1 c71 rfl) ?_
  refine wp1 (fun n d => r_iloadn f331_2 rfl) ?_
  refine wp1 (fun n d => r_iloadn f331_3 rfl) ?_
  refine wp_in (lv := 0) (Y := zM330) (rng_wp (n := 360) (i0 := i0) (t := t) h1 h2 (by show _ ≤ (360 : Int); omega)) (fun n d v h' e => r_stat (as := [.int 360, .int i0, .int t]) (r := []) f331_4 rfl (show zmt[330]? = some zM330 from rfl) rfl rfl rfl rfl rfl rfl e) (by omega) ?_
  rintro v h' ⟨rfl, rfl⟩
  refine wp1 (fun n d => r_iloadn f331_7 rfl) ?_
  refine wp1 (fun n d => r_istore (L' := [some (.ref 71), some (.int i0), some (.int t), some (.long z), none, some (.int i0)]) f331_8 rfl rfl) ?_
  exact fill_loop hW ht _ i0 _ rfl h1 I (fun h' I' G' => ⟨rfl, I', G'⟩)
theorem hand_284 {X : aX} : dGood X cC284 := by
  intro M hM l h σ ρ rh I K L
  have hM0 : zmt[109]? = some zM109 := rfl
  cases (show zmt[109]? = some M from hM).symm.trans hM0
  have a0 := dL_r L (i := 0) (c := 68) (o := 0) rfl (by decide)
  obtain ⟨x1, a1, b1, b1'⟩ := hL_i L K.1 (i := 1) (p := 1) (o := 0) (lo := 0) (hi := 5) rfl rfl
  obtain ⟨x2, a2, b2, b2'⟩ := hL_i L K.1 (i := 2) (p := 2) (o := 0) (lo := 0) (hi := 4) rfl rfl
  obtain ⟨x3, a3, b3, b3'⟩ := hL_i L K.1 (i := 3) (p := 3) (o := 0) (lo := 0) (hi := 60) rfl rfl
  obtain ⟨u0, l1, rfl, e1⟩ := hcons (show l.length = 4 from L.1)
  obtain ⟨u1, l2, rfl, e2⟩ := hcons e1
  obtain ⟨u2, l3, rfl, e3⟩ := hcons e2
  obtain ⟨u3, l4, rfl, e4⟩ := hcons e3
  cases hnil e4
  cases Option.some.inj a0
  cases Option.some.inj a1
  cases Option.some.inj a2
  cases Option.some.inj a3
  obtain ⟨fs, c68⟩ := hI_o I (r := 68) (ci := 9) (by decide +kernel)
  have F68_0 := hI_r I c68 (f := 0) (q := 69) (by decide +kernel)
  have F68_1 := hI_r I c68 (f := 1) (q := 70) (by decide +kernel)
  obtain ⟨gs, c69, -⟩ := hI_a I (r := 69) (a := 0) (n := 6) (lo := -1) (hi := 5) (by decide +kernel)
  obtain ⟨gh, c70, -⟩ := hI_a I (r := 70) (a := 0) (n := 6) (lo := 0) (hi := 149) (by decide +kernel)
  have key : ∀ h2 : aH, dI σ h2 → dG [(69, 0), (70, 0), (71, 0)] σ h σ h2 → Wp X 5 zM109 (hQ cC284 σ h) 14 [some (.ref 68), some (.int x1), some (.int x2), some (.int x3)] [] h2 := by
    intro h2 I2 G2
    obtain ⟨fs2, d68⟩ := hI_o I2 (r := 68) (ci := 9) (by decide +kernel)
    have F2 := hI_r I2 d68 (f := 2) (q := 71) (by decide +kernel)
    refine wp1 (fun n d => r_aloadn f109_14 rfl) ?_
    refine w_get f109_15 d68 F2 ?_
    refine wp1 (fun n d => r_iloadn f109_18 rfl) ?_
    refine w_bipush f109_19 (fun v19 hv19 => ?_)
    refine w_imul f109_21 (by rw [hv19]; omega) (by rw [hv19]; omega) (fun v21 hv21 => ?_)
    rw [hv19] at hv21
    refine wp1 (fun n d => r_iloadn f109_22 rfl) ?_
    refine w_bipush f109_23 (fun v23 hv23 => ?_)
    refine w_imul f109_25 (by rw [hv23]; omega) (by rw [hv23]; omega) (fun v25 hv25 => ?_)
    rw [hv23] at hv25
    refine wp1 (fun n d => r_iloadn f109_26 rfl) ?_
    refine w_iadd f109_27 (by omega) (by omega) (fun v27 hv27 => ?_)
    refine w_lconst f109_28 (fun v28 hv28 => ?_)
    refine wp_in (lv := 1) (Y := zM331) (fill_wp (W := [(69, 0), (70, 0), (71, 0)]) rfl I2 (i0 := v21) (t := v27) (z := v28) (by omega) (by omega) (by omega)) (fun n d v h' e => r_stat (as := [.ref 71, .int v21, .int v27, .long v28]) (r := []) f109_29 rfl (show zmt[331]? = some zM331 from rfl) rfl rfl rfl rfl rfl rfl e) (by omega) ?_
    rintro v h3 ⟨rfl, I3, G3⟩
    refine w_iconst f109_32 (fun v32 hv32 => ?_)
    refine wp_end (fun n d => r_ireturn f109_33 rfl) ?_
    exact ⟨σ, I3, dG_trans G2 G3, _, List.mem_cons_self, post_i I3.1 (by show (1 : Int) ≤ _; omega) (by show _ ≤ (1 : Int); omega)⟩
  refine hEnd ?_
  refine wp1 (fun n d => r_aloadn f109_0 rfl) ?_
  refine w_get f109_1 c68 F68_0 ?_
  refine wp1 (fun n d => r_iloadn f109_4 rfl) ?_
  refine wp1 (fun n d => r_iloadn f109_5 rfl) ?_
  refine w_iast f109_6 c69 (by omega) (by omega) ?_
  have c68b : (h.1.set 69 (.inl (0, 6, .inl (upd gs x1.toInt.toNat x2))))[68]? = some (.inr (9, fs)) := (set_ne' (by decide)).trans c68
  have c70b : (h.1.set 69 (.inl (0, 6, .inl (upd gs x1.toInt.toNat x2))))[70]? = some (.inl (0, 6, .inl gh)) := (set_ne' (by decide)).trans c70
  refine wp1 (fun n d => r_aloadn f109_7 rfl) ?_
  refine w_get f109_8 c68b F68_1 ?_
  refine wp1 (fun n d => r_iloadn f109_11 rfl) ?_
  refine wp1 (fun n d => r_iloadn f109_12 rfl) ?_
  refine w_iast f109_13 c70b (by omega) (by omega) ?_
  obtain ⟨I', G'⟩ := hI_sh I (W := [(69, 0), (70, 0), (71, 0)]) (by decide) (by decide) c69 c70 (j := x1.toInt.toNat) (s := x2) (x := x3) (by omega) (by omega) (by omega) (by omega) (fun _ _ => by omega)
  exact key _ I' G'

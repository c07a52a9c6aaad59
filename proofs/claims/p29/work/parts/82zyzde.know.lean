-- ===== what is known of a farm =====
theorem m_216 {X : aX} {V : vS} {f y t : Int} (hy : 0 ≤ y ∧ y ≤ 9) (hN : 0 ≤ V 72 19 ∧ V 72 19 ≤ 300) (hn : 0 ≤ V 72 2 ∧ V 72 2 ≤ 150) (hh : V 72 14 ≤ 200) : ∀ (n : Nat) (h : aH) (x1 x2 x3 x4 x5 x6 x7 x8 x9 x10 : Int32) (k : Nat), wS h → x1.toInt = f → x2.toInt = y → x3.toInt = t → x4.toInt = sM V f y → x5.toInt = w32 (mmS V f y (V 72 19).toNat) → x6.toInt = lasN (lkW V f y) (V 72 19).toNat → x7.toInt = crpM V f y → x8.toInt = topM V f y → x9.toInt = nQ (earM V f) k → x10.toInt = (k : Int) → (k : Int) ≤ y → (∀ (c : Nat) j, c ≠ 126 → vw h c j = V c j) → Pt n X zM272 216 [some (.ref 72), some (.int x1), some (.int x2), some (.int x3), some (.int x4), some (.int x5), some (.int x6), some (.int x7), some (.int x8), some (.int x9), some (.int x10), none] [] h (qN (fun h' => wS h' ∧ FF V f y t (vw h'))) := by
  intro n
  induction n with
  | zero => intros; exact pt_z
  | succ n ih =>
    intro h x1 x2 x3 x4 x5 x6 x7 x8 x9 x10 k S h1 h2 h3 h4 h5 h6 h7 h8 h9 h10 hk F
    have b := nQ_b (earM V f) k
    have hX : 0 ≤ vw h 72 19 ∧ vw h 72 19 ≤ 300 := by rw [F 72 19 (by decide)]; exact hN
    have F' : ∀ (c : Nat) j, c ≠ 124 → c ≠ 126 → vw h c j = V c j := fun c j _ v => F c j v
    refine d272_216 S h1 h2 h3 h4 h5 h6 h7 h8 h9 h10 ⟨fun e w10 w11 g10 g11 => ?_, fun e => ⟨hX, hX, fun z w9 w10 g9 g10 => ?_, fun z w9 w10 g9 g10 => ?_⟩⟩
    · have ky : y.toNat = k := by omega
      exact m_263 hN hn hh n h x1 x2 x3 x4 x5 x6 x7 x8 x9 w10 w11 0 S h1 h2 h3 h4 h5 h6 h7 h8 (by rw [ky]; exact h9) (by rw [g10]; rfl) g11 hn.1 F
    · replace g9 := w_1 g9 (by omega) (by omega)
      replace g10 := w_1 g10 (by omega) (by omega)
      rw [if_pos (show (0 : Int) = 0 from rfl), if_neg (show ¬ (1 : Int) = 0 by decide), F 72 19 (by decide), mSm_w F' f _ (r := 104) (by decide), mSm_w F' f _ (r := 105) (by decide)] at z
      refine ih h x1 x2 x3 x4 x5 x6 x7 x8 w9 w10 (k + 1) S h1 h2 h3 h4 h5 h6 h7 h8 ?_ (by omega) (by omega) F
      rw [nQ_f (show ¬ earM V f (k : Nat) from fun w => by unfold earM at w; omega)]
      exact g9
    · replace g9 := w_1 g9 (by omega) (by omega)
      replace g10 := w_1 g10 (by omega) (by omega)
      rw [if_pos (show (0 : Int) = 0 from rfl), if_neg (show ¬ (1 : Int) = 0 by decide), F 72 19 (by decide), mSm_w F' f _ (r := 104) (by decide), mSm_w F' f _ (r := 105) (by decide)] at z
      refine ih h x1 x2 x3 x4 x5 x6 x7 x8 w9 w10 (k + 1) S h1 h2 h3 h4 h5 h6 h7 h8 ?_ (by omega) (by omega) F
      rw [nQ_t (show earM V f (k : Nat) from z)]
      exact g9
theorem m_163 {X : aX} {V : vS} {f y t : Int} (hy : 0 ≤ y ∧ y ≤ 9) (hN : 0 ≤ V 72 19 ∧ V 72 19 ≤ 300) (hn : 0 ≤ V 72 2 ∧ V 72 2 ≤ 150) (hh : V 72 14 ≤ 200) : ∀ (n : Nat) (h : aH) (x1 x2 x3 x4 x5 x6 x7 x8 x9 : Int32) (k : Nat), wS h → x1.toInt = f → x2.toInt = y → x3.toInt = t → x4.toInt = sM V f y → x5.toInt = w32 (mmS V f y (V 72 19).toNat) → x6.toInt = lasN (lkW V f y) (V 72 19).toNat → x7.toInt = nQ (fun j => 0 < w32 (mcS V f y j (V 72 19).toNat)) k → x8.toInt = mxN (fun j => w32 (mcS V f y j (V 72 19).toNat)) k → x9.toInt = (k : Int) → k ≤ 8 → (∀ (c : Nat) j, c ≠ 126 → vw h c j = V c j) → (∀ j, 0 ≤ j → j < 8 → vw h 126 j = w32 (mcS V f y j (V 72 19).toNat)) → Pt n X zM272 163 [some (.ref 72), some (.int x1), some (.int x2), some (.int x3), some (.int x4), some (.int x5), some (.int x6), some (.int x7), some (.int x8), some (.int x9), none, none] [] h (qN (fun h' => wS h' ∧ FF V f y t (vw h'))) := by
  intro n
  induction n with
  | zero => intros; exact pt_z
  | succ n ih =>
    intro h x1 x2 x3 x4 x5 x6 x7 x8 x9 k S h1 h2 h3 h4 h5 h6 h7 h8 h9 hk F A
    have b := nQ_b (fun j => 0 < w32 (mcS V f y j (V 72 19).toNat)) k
    refine d272_163 S h1 h2 h3 h4 h5 h6 h7 h8 h9 ⟨fun e w9 w10 g9 g10 => ?_, fun e c0 c1 => ⟨fun z w7 w8 w9 g7 g8 g9 => ?_, fun z w7 w8 w9 g7 g8 g9 => ?_⟩⟩
    · have k8 : k = 8 := by omega
      rw [k8] at h7 h8
      exact m_216 hy hN hn hh n h x1 x2 x3 x4 x5 x6 x7 x8 w9 w10 0 S h1 h2 h3 h4 h5 h6 h7 h8 (by rw [g9]; rfl) g10 hy.1 F
    · rw [A _ c0 c1] at z g8
      replace g7 := w_1 g7 (by omega) (by omega)
      replace g9 := w_1 g9 (by omega) (by omega)
      refine ih h x1 x2 x3 x4 x5 x6 w7 w8 w9 (k + 1) S h1 h2 h3 h4 h5 h6 ?_ g8 (by omega) (by omega) F A
      rw [nQ_f (P := fun j => 0 < w32 (mcS V f y j (V 72 19).toNat)) (show ¬ 0 < w32 (mcS V f y (k : Nat) (V 72 19).toNat) by omega)]
      exact g7
    · rw [A _ c0 c1] at z g8
      replace g7 := w_1 g7 (by omega) (by omega)
      replace g9 := w_1 g9 (by omega) (by omega)
      refine ih h x1 x2 x3 x4 x5 x6 w7 w8 w9 (k + 1) S h1 h2 h3 h4 h5 h6 ?_ g8 (by omega) (by omega) F A
      rw [nQ_t (P := fun j => 0 < w32 (mcS V f y j (V 72 19).toNat)) z]
      exact g7
theorem m_47 {X : aX} {V : vS} {f y t : Int} (hy : 0 ≤ y ∧ y ≤ 9) (hN : 0 ≤ V 72 19 ∧ V 72 19 ≤ 300) (hn : 0 ≤ V 72 2 ∧ V 72 2 ≤ 150) (hh : V 72 14 ≤ 200) : ∀ (n : Nat) (h : aH) (x1 x2 x3 x4 x5 x6 x7 : Int32) (k : Nat), wS h → x1.toInt = f → x2.toInt = y → x3.toInt = t → x4.toInt = sM V f y → x5.toInt = w32 (mmS V f y k) → x6.toInt = lasN (lkW V f y) k → x7.toInt = (k : Int) → (k : Int) ≤ V 72 19 → (∀ (c : Nat) j, c ≠ 126 → vw h c j = V c j) → (∀ j, 0 ≤ j → j < 8 → vw h 126 j = w32 (mcS V f y j k)) → Pt n X zM272 47 [some (.ref 72), some (.int x1), some (.int x2), some (.int x3), some (.int x4), some (.int x5), some (.int x6), some (.int x7), none, none, none, none] [] h (qN (fun h' => wS h' ∧ FF V f y t (vw h'))) := by
  intro n
  induction n with
  | zero => intros; exact pt_z
  | succ n ih =>
    intro h x1 x2 x3 x4 x5 x6 x7 k S h1 h2 h3 h4 h5 h6 h7 hk F A
    have e19 := F 72 19 (by decide)
    have skip : (k : Int) < V 72 19 → ¬ lkW V f y (k : Nat) → ∀ w7 : Int32, w7.toInt = w32 ((k : Int) + 1) → Pt n X zM272 47 [some (.ref 72), some (.int x1), some (.int x2), some (.int x3), some (.int x4), some (.int x5), some (.int x6), some (.int w7), none, none, none, none] [] h (qN (fun h' => wS h' ∧ FF V f y t (vw h'))) := by
      intro e z w7 g7
      replace g7 := w_1 g7 (by omega) (by omega)
      refine ih h x1 x2 x3 x4 x5 x6 w7 (k + 1) S h1 h2 h3 h4 ?_ ?_ (by omega) (by omega) F (fun j a b => ?_)
      · rw [mmS_s, pI_f (fun w => z w.1), Int.add_zero]
        exact h5
      · rw [lasN_f z]
        exact h6
      · rw [mcS_s, pI_f (fun w => z w.1), Int.add_zero]
        exact A j a b
    have go : (k : Int) < V 72 19 → lkW V f y (k : Nat) → (0 ≤ vw h 89 (k : Nat) ∧ vw h 89 (k : Nat) < 8) → ∀ (g : aH) (w5 w7 : Int32), wS g → vw g = up (vw h) 126 (vw h 89 (k : Nat)) (w32 (vw h 126 (vw h 89 (k : Nat)) + vw h 104 (k : Nat))) → w5.toInt = w32 (mmS V f y (k + 1)) → w7.toInt = w32 ((k : Int) + 1) → Pt n X zM272 47 [some (.ref 72), some (.int x1), some (.int x2), some (.int x3), some (.int x4), some (.int w5), some (.int x7), some (.int w7), none, none, none, none] [] g (qN (fun h' => wS h' ∧ FF V f y t (vw h'))) := by
      intro e z cr g w5 w7 S2 eg g5 g7
      replace g7 := w_1 g7 (by omega) (by omega)
      have e89 := F 89 (k : Nat) (by decide)
      refine ih g x1 x2 x3 x4 w5 x7 w7 (k + 1) S2 h1 h2 h3 h4 g5 ?_ (by omega) (by omega) (fun c j u => by rw [eg, up_c u]; exact F c j u) (fun j a b => ?_)
      · rw [lasN_t z]
        exact h7
      · rw [eg, up_p, mcS_s]
        by_cases q : j = vw h 89 (k : Nat)
        · rw [if_pos q, pI_t (show lkW V f y (k : Nat) ∧ V 89 (k : Nat) = j from ⟨z, by rw [q]; exact e89.symm⟩), A _ cr.1 cr.2, F 104 _ (by decide), w32_add, ← q]
        · rw [if_neg q, pI_f (show ¬ (lkW V f y (k : Nat) ∧ V 89 (k : Nat) = j) from fun w => q (by rw [e89]; exact w.2.symm)), Int.add_zero]
          exact A j a b
    refine d272_47 S h1 h2 h3 h4 h5 h6 h7 ⟨fun e w7 w8 w9 g7 g8 g9 => ?_, fun e _ _ => ⟨fun z w7 g7 => skip (by omega) (fun w => w.1 (by rw [← F 103 _ (by decide)]; exact z)) w7 g7, fun z => ⟨fun z2 w7 g7 => skip (by omega) (fun w => z2 (by rw [F 87 _ (by decide)]; exact w.2.1)) w7 g7, fun z2 => ⟨fun z3 c0 c1 _ _ => ⟨fun z4 g S2 eg w5 w7 g5 g7 => ?_, fun z4 g S2 eg w5 w7 g5 g7 => ?_⟩, fun z3 w7 g7 => skip (by omega) (fun w => z3 (by rw [F 90 _ (by decide)]; exact w.2.2)) w7 g7⟩⟩⟩⟩
    · have kN : (V 72 19).toNat = k := by omega
      rw [← kN] at h5 h6 A
      exact m_163 hy hN hn hh n h x1 x2 x3 x4 x5 x6 w7 w8 w9 0 S h1 h2 h3 h4 h5 h6 (by rw [g7]; rfl) (by rw [g8]; rfl) g9 (by omega) F A
    · have lk : lkW V f y (k : Nat) := ⟨by rw [← F 103 _ (by decide)]; exact z, by rw [← F 87 _ (by decide)]; exact z2, by rw [← F 90 _ (by decide)]; exact z3⟩
      refine go (by omega) lk ⟨c0, c1⟩ g w5 w7 S2 eg ?_ g7
      rw [F 73 _ (by decide), F 88 _ (by decide)] at z4
      rw [g5, mmS_s, pI_f (show ¬ (lkW V f y (k : Nat) ∧ V 73 (V 88 (k : Nat)) = 5) from fun w => z4 w.2), w32_add]
    · have lk : lkW V f y (k : Nat) := ⟨by rw [← F 103 _ (by decide)]; exact z, by rw [← F 87 _ (by decide)]; exact z2, by rw [← F 90 _ (by decide)]; exact z3⟩
      refine go (by omega) lk ⟨c0, c1⟩ g w5 w7 S2 eg ?_ g7
      rw [F 73 _ (by decide), F 88 _ (by decide)] at z4
      rw [g5, mmS_s, pI_t (show lkW V f y (k : Nat) ∧ V 73 (V 88 (k : Nat)) = 5 from ⟨lk, z4⟩), w32_add, F 104 _ (by decide)]
theorem m_23 {X : aX} {V : vS} {f y t : Int} (hy : 0 ≤ y ∧ y ≤ 9) (hN : 0 ≤ V 72 19 ∧ V 72 19 ≤ 300) (hn : 0 ≤ V 72 2 ∧ V 72 2 ≤ 150) (hh : V 72 14 ≤ 200) : ∀ (n : Nat) (h : aH) (x1 x2 x3 x4 x5 x6 x7 : Int32) (k : Nat), wS h → x1.toInt = f → x2.toInt = y → x3.toInt = t → x4.toInt = sM V f y → x5.toInt = 0 → x6.toInt = -1 → x7.toInt = (k : Int) → k ≤ 8 → (∀ (c : Nat) j, c ≠ 126 → vw h c j = V c j) → (∀ j, 0 ≤ j → j < (k : Int) → vw h 126 j = 0) → Pt n X zM272 23 [some (.ref 72), some (.int x1), some (.int x2), some (.int x3), some (.int x4), some (.int x5), some (.int x6), some (.int x7), none, none, none, none] [] h (qN (fun h' => wS h' ∧ FF V f y t (vw h'))) := by
  intro n
  induction n with
  | zero => intros; exact pt_z
  | succ n ih =>
    intro h x1 x2 x3 x4 x5 x6 x7 k S h1 h2 h3 h4 h5 h6 h7 hk F A
    have z0 : w32 0 = 0 := w32_id (by decide) (by decide)
    refine d272_23 S h1 h2 h3 h4 h5 h6 h7 ⟨fun e w7 g7 => ?_, fun e _ _ g S2 eg w7 g7 => ?_⟩
    · exact m_47 hy hN hn hh n h x1 x2 x3 x4 x5 x6 w7 0 S h1 h2 h3 h4 (h5.trans z0.symm) h6 g7 hN.1 F (fun j a b => (A j a (by omega)).trans z0.symm)
    · replace g7 := w_1 g7 (by omega) (by omega)
      refine ih g x1 x2 x3 x4 x5 x6 w7 (k + 1) S2 h1 h2 h3 h4 h5 h6 (by omega) (by omega) (fun c j u => by rw [eg, up_c u]; exact F c j u) (fun j a b => ?_)
      rw [eg, up_p]
      by_cases q : j = (k : Int)
      · rw [if_pos q]
      · rw [if_neg q]
        exact A j a (by omega)
def R272 (V : vS) (f y t : Int) (W : vS) : Prop := ∃ G, R239 V t G ∧ FF G f y t W
theorem c_272 {n : Nat} {X : aX} {h : aH} {x1 x2 x3 : Int32} {a1 a2 a3 : Int} (S : wS h) (z1 : x1.toInt = a1) (z2 : x2.toInt = a2) (z3 : x3.toInt = a3) (hp : q239 (vw h) ∧ (0 ≤ vw h 72 2 ∧ vw h 72 2 ≤ 150) ∧ vw h 72 14 ≤ 200 ∧ 0 ≤ a2 ∧ a2 ≤ 9) : Pt n X zM272 0 [some (.ref 72), some (.int x1), some (.int x2), some (.int x3), none, none, none, none, none, none, none, none] [] h (qN (fun h' => wS h' ∧ R272 (vw h) a1 a2 a3 (vw h'))) := by
  obtain ⟨hq, hn, hh, hy⟩ := hp
  refine pt_d (d272_0 S z1 z2 z3 ⟨hq, fun g R => ?_⟩)
  obtain ⟨S2, R⟩ := R
  have A := R.1.1
  have e19 := agR_y A (j := 19) (by decide) (by decide)
  have hN : 0 ≤ vw g 72 19 ∧ vw g 72 19 ≤ 300 := by rw [e19]; exact hq.1
  refine ⟨hN, fun w4 w5 w6 w7 g4 g5 g6 g7 => ?_⟩
  rw [if_pos (show (0 : Int) = 0 from rfl)] at g4
  refine pt_q (m_23 (V := vw g) (t := a3) hy hN (by rw [agR_y A (by decide) (by decide)]; exact hn) (by rw [agR_y A (by decide) (by decide)]; exact hh) n g x1 x2 x3 w4 w5 w6 w7 0 S2 z1 z2 z3 g4 g5 g6 g7 (by omega) (fun _ _ _ => rfl) (fun j a b => by omega)) ?_
  rintro v h' ⟨ev, S', R2⟩
  exact ⟨ev, S', vw g, R, R2⟩


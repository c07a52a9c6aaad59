-- ===== 82zyzdd.know: 3 texts =====
section
-- ===== what is known of a farm =====
theorem m_263 {X : aX} {V : vS} {f y t : Int} (hN : 0 ≤ V 72 19 ∧ V 72 19 ≤ 300) (hn : 0 ≤ V 72 2 ∧ V 72 2 ≤ 150) (hh : V 72 14 ≤ 200) : ∀ (n : Nat) (h : aH) (x1 x2 x3 x4 x5 x6 x7 x8 x9 x10 x11 : Int32) (k : Nat), wS h → x1.toInt = f → x2.toInt = y → x3.toInt = t → x4.toInt = sM V f y → x5.toInt = w32 (mmS V f y (V 72 19).toNat) → x6.toInt = lasN (lkW V f y) (V 72 19).toNat → x7.toInt = crpM V f y → x8.toInt = topM V f y → x9.toInt = nQ (earM V f) y.toNat → x10.toInt = nQ (fun b => V 73 b = 6 ∧ mHold V b (ldM y) t = f) k → x11.toInt = (k : Int) → (k : Int) ≤ V 72 2 → (∀ (c : Nat) j, c ≠ 126 → vw h c j = V c j) → Pt n X zM272 263 [some (.ref 72), some (.int x1), some (.int x2), some (.int x3), some (.int x4), some (.int x5), some (.int x6), some (.int x7), some (.int x8), some (.int x9), some (.int x10), some (.int x11)] [] h (qN (fun h' => wS h' ∧ FF V f y t (vw h'))) := by
  intro n
  induction n with
  | zero => intros; exact pt_z
  | succ n ih =>
    intro h x1 x2 x3 x4 x5 x6 x7 x8 x9 x10 x11 k S h1 h2 h3 h4 h5 h6 h7 h8 h9 h10 h11 hk F
    have b := nQ_b (fun b => V 73 b = 6 ∧ mHold V b (ldM y) t = f) k
    have e2 := F 72 2 (by decide)
    have hd : ∀ b d k', mHold (vw h) b d k' = mHold V b d k' := fun b d k' => mHold_f (fun c j u v => F c j (by omega)) (F 72 14 (by decide)) b d k'
    have skip : (k : Int) < vw h 72 2 → ¬ (V 73 (k : Nat) = 6 ∧ mHold V (k : Nat) (ldM y) t = f) → ∀ w10 w11 : Int32, w10.toInt = w32 (nQ (fun b => V 73 b = 6 ∧ mHold V b (ldM y) t = f) k + 0) → w11.toInt = w32 ((k : Int) + 1) → Pt n X zM272 263 [some (.ref 72), some (.int x1), some (.int x2), some (.int x3), some (.int x4), some (.int x5), some (.int x6), some (.int x7), some (.int x8), some (.int x9), some (.int w10), some (.int w11)] [] h (qN (fun h' => wS h' ∧ FF V f y t (vw h'))) := by
      intro e z w10 w11 g10 g11
      replace g10 := w_1 g10 (by omega) (by omega)
      replace g11 := w_1 g11 (by omega) (by omega)
      refine ih h x1 x2 x3 x4 x5 x6 x7 x8 x9 w10 w11 (k + 1) S h1 h2 h3 h4 h5 h6 h7 h8 h9 ?_ (by omega) (by omega) F
      rw [nQ_f (P := fun b => V 73 b = 6 ∧ mHold V b (ldM y) t = f) z]
      exact g10
    refine d272_263 S h1 h2 h3 h4 h5 h6 h7 h8 h9 h10 h11 ⟨fun e _ _ gA SA eA => ?_, fun e _ _ => ⟨fun z w10 w11 g10 g11 => skip e (fun w => z (by rw [F 73 _ (by decide)]; exact w.1)) w10 w11 g10 g11, fun z => ⟨by rw [F 72 14 (by decide)]; exact hh, fun z2 w10 w11 g10 g11 => skip e (fun w => z2 (by rw [hd]; exact w.2)) w10 w11 g10 g11, fun z2 w10 w11 g10 g11 => ?_⟩⟩⟩
    · have kn : (V 72 2).toNat = k := by omega
      have fA : ∀ (c : Nat) j, c ≠ 124 → c ≠ 126 → vw gA c j = V c j := fun c j u v => by
        rw [eA, up_c u, up_c u, up_c u]
        exact F c j v
      have hNA : 0 ≤ vw gA 72 19 ∧ vw gA 72 19 ≤ 300 := by rw [fA 72 19 (by decide) (by decide)]; exact hN
      have e1 : vw h 73 f = V 73 f := F 73 f (by decide)
      -- an end: the chain of heaps, what was laid
      have leaf : ∀ (B C D W : vS) (y4 y6 y7 y11 : Int), y4 = (if sM V f y = 0 then 0 else iDiv (w32 (100 * w32 (mmS V f y (V 72 19).toNat))) (sM V f y)) → y6 = (if sM V f y = 0 then 0 else iDiv (w32 (100 * topM V f y)) (sM V f y)) → B = up (up (up (up (vw gA) 124 3 (w32 (mSm (vw gA) f y (if (1 : Int) = 0 then 104 else 105) (vw gA 72 19).toNat))) 124 4 y4) 124 5 (crpM V f y)) 124 6 y6 → C = up B 124 7 y7 → (y7 = lateM V f y) → D = up (up (up C 124 8 (mErr C f y)) 124 9 (nQ (fun b => V 73 b = 6 ∧ mHold V b (ldM y) t = f) k)) 124 10 0 → y11 = bI (mPrv D f y t) → W = up (up D 124 11 y11) 124 12 (nQ (earM V f) y.toNat) → FF V f y t W := fun B C D W y4 y6 y7 y11 q4 q6 eB eC q7 eD q11 eW => by
        obtain ⟨fr, ⟨a0, a1, a2, a3⟩, ⟨a4, a5, a6⟩, ⟨a7, a8, a9⟩, a10, a11, a12⟩ := fin_m eA eB eC eD eW
        have fB : ∀ (c : Nat) j, c ≠ 124 → c ≠ 126 → B c j = V c j := fun c j u v => by
          rw [eB, up_c u, up_c u, up_c u, up_c u]
          exact fA c j u v
        have fC : ∀ (c : Nat) j, c ≠ 124 → c ≠ 126 → C c j = V c j := fun c j u v => by
          rw [eC, up_c u]
          exact fB c j u v
        have fD : ∀ (c : Nat) j, c ≠ 124 → c ≠ 126 → D c j = V c j := fun c j u v => by
          rw [eD, up_c u, up_c u, up_c u]
          exact fC c j u v
        refine ⟨fun c j u v => (fr c j u).trans (F c j v), ⟨⟨a0, by rw [a1]; exact e1, a2, ?_⟩, by rw [a4]; exact q4, a5, by rw [a6]; exact q6⟩, ⟨by rw [a7]; exact q7, by rw [a8]; exact mErr_w fC f y, by rw [a9]; unfold perM; rw [kn]⟩, a10, ?_, a12⟩
        · rw [a3, if_neg (show ¬ (1 : Int) = 0 by decide), fA 72 19 (by decide) (by decide), mSm_w fA f y (r := 105) (by decide)]
        · rw [a11, q11]
          unfold mPrv
          rw [fD 111 _ (by decide) (by decide)]
      have lA : ∀ B : vS, (∀ (c : Nat) j, c ≠ 124 → B c j = vw gA c j) → 0 ≤ lasN (lkW V f y) (V 72 19).toNat → lt0 B (lasN (lkW V f y) (V 72 19).toNat) = lateM V f y := fun B fB z => by
        unfold lateM
        rw [if_neg (by omega)]
        exact lt0_w (fun c j u v => (fB c j u).trans (fA c j u v)) _
      have lB : lasN (lkW V f y) (V 72 19).toNat < 0 → (0 : Int) = lateM V f y := fun z => by
        unfold lateM
        rw [if_pos z]
      have hX : ∀ C : vS, (∀ (c : Nat) j, c ≠ 124 → C c j = vw gA c j) → 0 ≤ C 72 19 ∧ C 72 19 ≤ 300 := fun C fC => by rw [fC 72 19 (by decide)]; exact hNA
      refine ⟨hNA, ?_⟩
      exact ⟨fun s1 => ⟨fun s2 => ⟨fun l g1 S1 e1 g2 S2 e2 => ⟨hX _ (fun c j u => by rw [e2, up_c u, e1, up_c u, up_c u, up_c u, up_c u]), fun g3 S3 e3 => ⟨fun z g4 S4 e4 => ⟨S4, leaf _ _ _ _ _ _ _ _ (if_neg s1).symm (if_neg s1).symm e1 e2 (lA _ (fun c j u => by rw [e1, up_c u, up_c u, up_c u, up_c u]) l) e3 (bI_f z).symm e4⟩, fun z g4 S4 e4 => ⟨S4, leaf _ _ _ _ _ _ _ _ (if_neg s1).symm (if_neg s1).symm e1 e2 (lA _ (fun c j u => by rw [e1, up_c u, up_c u, up_c u, up_c u]) l) e3 (bI_t z).symm e4⟩⟩⟩, fun l g2 S2 e2 => ⟨hX _ (fun c j u => by rw [e2, up_c u, up_c u, up_c u, up_c u, up_c u]), fun g3 S3 e3 => ⟨fun z g4 S4 e4 => ⟨S4, leaf _ _ _ _ _ _ _ _ (if_neg s1).symm (if_neg s1).symm rfl e2 (lB l) e3 (bI_f z).symm e4⟩, fun z g4 S4 e4 => ⟨S4, leaf _ _ _ _ _ _ _ _ (if_neg s1).symm (if_neg s1).symm rfl e2 (lB l) e3 (bI_t z).symm e4⟩⟩⟩⟩, fun s2 => absurd s2 s1⟩, fun s1 => ⟨fun s2 => absurd s1 s2, fun s2 => ⟨fun l g1 S1 e1 g2 S2 e2 => ⟨hX _ (fun c j u => by rw [e2, up_c u, e1, up_c u, up_c u, up_c u, up_c u]), fun g3 S3 e3 => ⟨fun z g4 S4 e4 => ⟨S4, leaf _ _ _ _ _ _ _ _ (if_pos s1).symm (if_pos s1).symm e1 e2 (lA _ (fun c j u => by rw [e1, up_c u, up_c u, up_c u, up_c u]) l) e3 (bI_f z).symm e4⟩, fun z g4 S4 e4 => ⟨S4, leaf _ _ _ _ _ _ _ _ (if_pos s1).symm (if_pos s1).symm e1 e2 (lA _ (fun c j u => by rw [e1, up_c u, up_c u, up_c u, up_c u]) l) e3 (bI_t z).symm e4⟩⟩⟩, fun l g2 S2 e2 => ⟨hX _ (fun c j u => by rw [e2, up_c u, up_c u, up_c u, up_c u, up_c u]), fun g3 S3 e3 => ⟨fun z g4 S4 e4 => ⟨S4, leaf _ _ _ _ _ _ _ _ (if_pos s1).symm (if_pos s1).symm rfl e2 (lB l) e3 (bI_f z).symm e4⟩, fun z g4 S4 e4 => ⟨S4, leaf _ _ _ _ _ _ _ _ (if_pos s1).symm (if_pos s1).symm rfl e2 (lB l) e3 (bI_t z).symm e4⟩⟩⟩⟩⟩⟩
    · replace g10 := w_1 g10 (by omega) (by omega)
      replace g11 := w_1 g11 (by omega) (by omega)
      refine ih h x1 x2 x3 x4 x5 x6 x7 x8 x9 w10 w11 (k + 1) S h1 h2 h3 h4 h5 h6 h7 h8 h9 ?_ (by omega) (by omega) F
      rw [nQ_t (P := fun b => V 73 b = 6 ∧ mHold V b (ldM y) t = f) ⟨by rw [← F 73 _ (by decide)]; exact z, by rw [← hd]; exact z2⟩]
      exact g10
end
section
-- ===== what is known of a farm =====
theorem m_216 {X : aX} {V : vS} {f y t : Int} (hy : 0 ≤ y ∧ y ≤ 9) (hN : 0 ≤ V 72 19 ∧ V 72 19 ≤ 300) (hn : 0 ≤ V 72 2 ∧ V 72 2 ≤ 150) (hh : V 72 14 ≤ 200) : ∀ (n : Nat) (h : aH) (x1 x2 x3 x4 x5 x6 x7 x8 x9 x10 : Int32) (k : Nat), wS h → x1.toInt = f → x2.toInt = y → x3.toInt = t → x4.toInt = sM V f y → x5.toInt = w32 (mmS V f y (V 72 19).toNat) → x6.toInt = lasN (lkW V f y) (V 72 19).toNat → x7.toInt = crpM V f y → x8.toInt = topM V f y → x9.toInt = nQ (earM V f) k → x10.toInt = (k : Int) → (k : Int) ≤ y → (∀ (c : Nat) j, c ≠ 126 → vw h c j = V c j) → Pt n X zM272 216 [some (.ref 72), some (.int x1), some (.int x2), some (.int x3), some (.int x4), some (.int x5), some (.int x6), some (.int x7), some (.int x8), some (.int x9), some (.int x10), none] [] h (qN (fun h' => wS h' ∧ FF V f y t (vw h'))) := by
  intro n
  induction n with
  | zero => intros; exact pt_z
  | succ n ih =>
    intro h x1 x2 x3 x4 x5 x6 x7 x8 x9 x10 k S h1 h2 h3 h4 h5 h6 h7 h8 h9 h10 hk F
    have b := nQ_b (earM V f) k
    have hX : 0 ≤ vw h 72 19 ∧ vw h 72 19 ≤ 300 := by rw [F 72 19 (by decide)]; exact hN
    have F' : ∀ (c : Nat) j, c ≠ 124 → c ≠ 126 → vw h c j = V c j := fun c j _ v => F c j v
    refine d272_216 S h1 h2 h3 h4 h5 h6 h7 h8 h9 h10 ⟨fun e w10 w11 g10 g11 => ?_, fun e => ⟨hX, hX, fun z w9 w10 g9 g10 => ?_, fun z w9 w10 g9 g10 => ?_⟩⟩
    · have ky : y.toNat = k := by omega
      exact m_263 hN hn hh n h x1 x2 x3 x4 x5 x6 x7 x8 x9 w10 w11 0 S h1 h2 h3 h4 h5 h6 h7 h8 (by rw [ky]; exact h9) (by rw [g10]; rfl) g11 hn.1 F
    · replace g9 := w_1 g9 (by omega) (by omega)
      replace g10 := w_1 g10 (by omega) (by omega)
      rw [if_pos (show (0 : Int) = 0 from rfl), if_neg (show ¬ (1 : Int) = 0 by decide), F 72 19 (by decide), mSm_w F' f _ (r := 104) (by decide), mSm_w F' f _ (r := 105) (by decide)] at z
      refine ih h x1 x2 x3 x4 x5 x6 x7 x8 w9 w10 (k + 1) S h1 h2 h3 h4 h5 h6 h7 h8 ?_ (by omega) (by omega) F
      rw [nQ_f (show ¬ earM V f (k : Nat) from fun w => by unfold earM at w; omega)]
      exact g9
    · replace g9 := w_1 g9 (by omega) (by omega)
      replace g10 := w_1 g10 (by omega) (by omega)
      rw [if_pos (show (0 : Int) = 0 from rfl), if_neg (show ¬ (1 : Int) = 0 by decide), F 72 19 (by decide), mSm_w F' f _ (r := 104) (by decide), mSm_w F' f _ (r := 105) (by decide)] at z
      refine ih h x1 x2 x3 x4 x5 x6 x7 x8 w9 w10 (k + 1) S h1 h2 h3 h4 h5 h6 h7 h8 ?_ (by omega) (by omega) F
      rw [nQ_t (show earM V f (k : Nat) from z)]
      exact g9
theorem m_163 {X : aX} {V : vS} {f y t : Int} (hy : 0 ≤ y ∧ y ≤ 9) (hN : 0 ≤ V 72 19 ∧ V 72 19 ≤ 300) (hn : 0 ≤ V 72 2 ∧ V 72 2 ≤ 150) (hh : V 72 14 ≤ 200) : ∀ (n : Nat) (h : aH) (x1 x2 x3 x4 x5 x6 x7 x8 x9 : Int32) (k : Nat), wS h → x1.toInt = f → x2.toInt = y → x3.toInt = t → x4.toInt = sM V f y → x5.toInt = w32 (mmS V f y (V 72 19).toNat) → x6.toInt = lasN (lkW V f y) (V 72 19).toNat → x7.toInt = nQ (fun j => 0 < w32 (mcS V f y j (V 72 19).toNat)) k → x8.toInt = mxN (fun j => w32 (mcS V f y j (V 72 19).toNat)) k → x9.toInt = (k : Int) → k ≤ 8 → (∀ (c : Nat) j, c ≠ 126 → vw h c j = V c j) → (∀ j, 0 ≤ j → j < 8 → vw h 126 j = w32 (mcS V f y j (V 72 19).toNat)) → Pt n X zM272 163 [some (.ref 72), some (.int x1), some (.int x2), some (.int x3), some (.int x4), some (.int x5), some (.int x6), some (.int x7), some (.int x8), some (.int x9), none, none] [] h (qN (fun h' => wS h' ∧ FF V f y t (vw h'))) := by
  intro n
  induction n with
  | zero => intros; exact pt_z
  | succ n ih =>
    intro h x1 x2 x3 x4 x5 x6 x7 x8 x9 k S h1 h2 h3 h4 h5 h6 h7 h8 h9 hk F A
    have b := nQ_b (fun j => 0 < w32 (mcS V f y j (V 72 19).toNat)) k
    refine d272_163 S h1 h2 h3 h4 h5 h6 h7 h8 h9 ⟨fun e w9 w10 g9 g10 => ?_, fun e c0 c1 => ⟨fun z w7 w8 w9 g7 g8 g9 => ?_, fun z w7 w8 w9 g7 g8 g9 => ?_⟩⟩
    · have k8 : k = 8 := by omega
      rw [k8] at h7 h8
      exact m_216 hy hN hn hh n h x1 x2 x3 x4 x5 x6 x7 x8 w9 w10 0 S h1 h2 h3 h4 h5 h6 h7 h8 (by rw [g9]; rfl) g10 hy.1 F
    · rw [A _ c0 c1] at z g8
      replace g7 := w_1 g7 (by omega) (by omega)
      replace g9 := w_1 g9 (by omega) (by omega)
      refine ih h x1 x2 x3 x4 x5 x6 w7 w8 w9 (k + 1) S h1 h2 h3 h4 h5 h6 ?_ g8 (by omega) (by omega) F A
      rw [nQ_f (P := fun j => 0 < w32 (mcS V f y j (V 72 19).toNat)) (show ¬ 0 < w32 (mcS V f y (k : Nat) (V 72 19).toNat) by omega)]
      exact g7
    · rw [A _ c0 c1] at z g8
      replace g7 := w_1 g7 (by omega) (by omega)
      replace g9 := w_1 g9 (by omega) (by omega)
      refine ih h x1 x2 x3 x4 x5 x6 w7 w8 w9 (k + 1) S h1 h2 h3 h4 h5 h6 ?_ g8 (by omega) (by omega) F A
      rw [nQ_t (P := fun j => 0 < w32 (mcS V f y j (V 72 19).toNat)) z]
      exact g7
theorem m_47 {X : aX} {V : vS} {f y t : Int} (hy : 0 ≤ y ∧ y ≤ 9) (hN : 0 ≤ V 72 19 ∧ V 72 19 ≤ 300) (hn : 0 ≤ V 72 2 ∧ V 72 2 ≤ 150) (hh : V 72 14 ≤ 200) : ∀ (n : Nat) (h : aH) (x1 x2 x3 x4 x5 x6 x7 : Int32) (k : Nat), wS h → x1.toInt = f → x2.toInt = y → x3.toInt = t → x4.toInt = sM V f y → x5.toInt = w32 (mmS V f y k) → x6.toInt = lasN (lkW V f y) k → x7.toInt = (k : Int) → (k : Int) ≤ V 72 19 → (∀ (c : Nat) j, c ≠ 126 → vw h c j = V c j) → (∀ j, 0 ≤ j → j < 8 → vw h 126 j = w32 (mcS V f y j k)) → Pt n X zM272 47 [some (.ref 72), some (.int x1), some (.int x2), some (.int x3), some (.int x4), some (.int x5), some (.int x6), some (.int x7), none, none, none, none] [] h (qN (fun h' => wS h' ∧ FF V f y t (vw h'))) := by
  intro n
  induction n with
  | zero => intros; exact pt_z
  | succ n ih =>
    intro h x1 x2 x3 x4 x5 x6 x7 k S h1 h2 h3 h4 h5 h6 h7 hk F A
    have e19 := F 72 19 (by decide)
    have skip : (k : Int) < V 72 19 → ¬ lkW V f y (k : Nat) → ∀ w7 : Int32, w7.toInt = w32 ((k : Int) + 1) → Pt n X zM272 47 [some (.ref 72), some (.int x1), some (.int x2), some (.int x3), some (.int x4), some (.int x5), some (.int x6), some (.int w7), none, none, none, none] [] h (qN (fun h' => wS h' ∧ FF V f y t (vw h'))) := by
      intro e z w7 g7
      replace g7 := w_1 g7 (by omega) (by omega)
      refine ih h x1 x2 x3 x4 x5 x6 w7 (k + 1) S h1 h2 h3 h4 ?_ ?_ (by omega) (by omega) F (fun j a b => ?_)
      · rw [mmS_s, pI_f (fun w => z w.1), Int.add_zero]
        exact h5
      · rw [lasN_f z]
        exact h6
      · rw [mcS_s, pI_f (fun w => z w.1), Int.add_zero]
        exact A j a b
    have go : (k : Int) < V 72 19 → lkW V f y (k : Nat) → (0 ≤ vw h 89 (k : Nat) ∧ vw h 89 (k : Nat) < 8) → ∀ (g : aH) (w5 w7 : Int32), wS g → vw g = up (vw h) 126 (vw h 89 (k : Nat)) (w32 (vw h 126 (vw h 89 (k : Nat)) + vw h 104 (k : Nat))) → w5.toInt = w32 (mmS V f y (k + 1)) → w7.toInt = w32 ((k : Int) + 1) → Pt n X zM272 47 [some (.ref 72), some (.int x1), some (.int x2), some (.int x3), some (.int x4), some (.int w5), some (.int x7), some (.int w7), none, none, none, none] [] g (qN (fun h' => wS h' ∧ FF V f y t (vw h'))) := by
      intro e z cr g w5 w7 S2 eg g5 g7
      replace g7 := w_1 g7 (by omega) (by omega)
      have e89 := F 89 (k : Nat) (by decide)
      refine ih g x1 x2 x3 x4 w5 x7 w7 (k + 1) S2 h1 h2 h3 h4 g5 ?_ (by omega) (by omega) (fun c j u => by rw [eg, up_c u]; exact F c j u) (fun j a b => ?_)
      · rw [lasN_t z]
        exact h7
      · rw [eg, up_p, mcS_s]
        by_cases q : j = vw h 89 (k : Nat)
        · rw [if_pos q, pI_t (show lkW V f y (k : Nat) ∧ V 89 (k : Nat) = j from ⟨z, by rw [q]; exact e89.symm⟩), A _ cr.1 cr.2, F 104 _ (by decide), w32_add, ← q]
        · rw [if_neg q, pI_f (show ¬ (lkW V f y (k : Nat) ∧ V 89 (k : Nat) = j) from fun w => q (by rw [e89]; exact w.2.symm)), Int.add_zero]
          exact A j a b
    refine d272_47 S h1 h2 h3 h4 h5 h6 h7 ⟨fun e w7 w8 w9 g7 g8 g9 => ?_, fun e _ _ => ⟨fun z w7 g7 => skip (by omega) (fun w => w.1 (by rw [← F 103 _ (by decide)]; exact z)) w7 g7, fun z => ⟨fun z2 w7 g7 => skip (by omega) (fun w => z2 (by rw [F 87 _ (by decide)]; exact w.2.1)) w7 g7, fun z2 => ⟨fun z3 c0 c1 _ _ => ⟨fun z4 g S2 eg w5 w7 g5 g7 => ?_, fun z4 g S2 eg w5 w7 g5 g7 => ?_⟩, fun z3 w7 g7 => skip (by omega) (fun w => z3 (by rw [F 90 _ (by decide)]; exact w.2.2)) w7 g7⟩⟩⟩⟩
    · have kN : (V 72 19).toNat = k := by omega
      rw [← kN] at h5 h6 A
      exact m_163 hy hN hn hh n h x1 x2 x3 x4 x5 x6 w7 w8 w9 0 S h1 h2 h3 h4 h5 h6 (by rw [g7]; rfl) (by rw [g8]; rfl) g9 (by omega) F A
    · have lk : lkW V f y (k : Nat) := ⟨by rw [← F 103 _ (by decide)]; exact z, by rw [← F 87 _ (by decide)]; exact z2, by rw [← F 90 _ (by decide)]; exact z3⟩
      refine go (by omega) lk ⟨c0, c1⟩ g w5 w7 S2 eg ?_ g7
      rw [F 73 _ (by decide), F 88 _ (by decide)] at z4
      rw [g5, mmS_s, pI_f (show ¬ (lkW V f y (k : Nat) ∧ V 73 (V 88 (k : Nat)) = 5) from fun w => z4 w.2), w32_add]
    · have lk : lkW V f y (k : Nat) := ⟨by rw [← F 103 _ (by decide)]; exact z, by rw [← F 87 _ (by decide)]; exact z2, by rw [← F 90 _ (by decide)]; exact z3⟩
      refine go (by omega) lk ⟨c0, c1⟩ g w5 w7 S2 eg ?_ g7
      rw [F 73 _ (by decide), F 88 _ (by decide)] at z4
      rw [g5, mmS_s, pI_t (show lkW V f y (k : Nat) ∧ V 73 (V 88 (k : Nat)) = 5 from ⟨lk, z4⟩), w32_add, F 104 _ (by decide)]
theorem m_23 {X : aX} {V : vS} {f y t : Int} (hy : 0 ≤ y ∧ y ≤ 9) (hN : 0 ≤ V 72 19 ∧ V 72 19 ≤ 300) (hn : 0 ≤ V 72 2 ∧ V 72 2 ≤ 150) (hh : V 72 14 ≤ 200) : ∀ (n : Nat) (h : aH) (x1 x2 x3 x4 x5 x6 x7 : Int32) (k : Nat), wS h → x1.toInt = f → x2.toInt = y → x3.toInt = t → x4.toInt = sM V f y → x5.toInt = 0 → x6.toInt = -1 → x7.toInt = (k : Int) → k ≤ 8 → (∀ (c : Nat) j, c ≠ 126 → vw h c j = V c j) → (∀ j, 0 ≤ j → j < (k : Int) → vw h 126 j = 0) → Pt n X zM272 23 [some (.ref 72), some (.int x1), some (.int x2), some (.int x3), some (.int x4), some (.int x5), some (.int x6), some (.int x7), none, none, none, none] [] h (qN (fun h' => wS h' ∧ FF V f y t (vw h'))) := by
  intro n
  induction n with
  | zero => intros; exact pt_z
  | succ n ih =>
    intro h x1 x2 x3 x4 x5 x6 x7 k S h1 h2 h3 h4 h5 h6 h7 hk F A
    have z0 : w32 0 = 0 := w32_id (by decide) (by decide)
    refine d272_23 S h1 h2 h3 h4 h5 h6 h7 ⟨fun e w7 g7 => ?_, fun e _ _ g S2 eg w7 g7 => ?_⟩
    · exact m_47 hy hN hn hh n h x1 x2 x3 x4 x5 x6 w7 0 S h1 h2 h3 h4 (h5.trans z0.symm) h6 g7 hN.1 F (fun j a b => (A j a (by omega)).trans z0.symm)
    · replace g7 := w_1 g7 (by omega) (by omega)
      refine ih g x1 x2 x3 x4 x5 x6 w7 (k + 1) S2 h1 h2 h3 h4 h5 h6 (by omega) (by omega) (fun c j u => by rw [eg, up_c u]; exact F c j u) (fun j a b => ?_)
      rw [eg, up_p]
      by_cases q : j = (k : Int)
      · rw [if_pos q]
      · rw [if_neg q]
        exact A j a (by omega)
def R272 (V : vS) (f y t : Int) (W : vS) : Prop := ∃ G, R239 V t G ∧ FF G f y t W
theorem c_272 {n : Nat} {X : aX} {h : aH} {x1 x2 x3 : Int32} {a1 a2 a3 : Int} (S : wS h) (z1 : x1.toInt = a1) (z2 : x2.toInt = a2) (z3 : x3.toInt = a3) (hp : q239 (vw h) ∧ (0 ≤ vw h 72 2 ∧ vw h 72 2 ≤ 150) ∧ vw h 72 14 ≤ 200 ∧ 0 ≤ a2 ∧ a2 ≤ 9) : Pt n X zM272 0 [some (.ref 72), some (.int x1), some (.int x2), some (.int x3), none, none, none, none, none, none, none, none] [] h (qN (fun h' => wS h' ∧ R272 (vw h) a1 a2 a3 (vw h'))) := by
  obtain ⟨hq, hn, hh, hy⟩ := hp
  refine pt_d (d272_0 S z1 z2 z3 ⟨hq, fun g R => ?_⟩)
  obtain ⟨S2, R⟩ := R
  have A := R.1.1
  have e19 := agR_y A (j := 19) (by decide) (by decide)
  have hN : 0 ≤ vw g 72 19 ∧ vw g 72 19 ≤ 300 := by rw [e19]; exact hq.1
  refine ⟨hN, fun w4 w5 w6 w7 g4 g5 g6 g7 => ?_⟩
  rw [if_pos (show (0 : Int) = 0 from rfl)] at g4
  refine pt_q (m_23 (V := vw g) (t := a3) hy hN (by rw [agR_y A (by decide) (by decide)]; exact hn) (by rw [agR_y A (by decide) (by decide)]; exact hh) n g x1 x2 x3 w4 w5 w6 w7 0 S2 z1 z2 z3 g4 g5 g6 g7 (by omega) (fun _ _ _ => rfl) (fun j a b => by omega)) ?_
  rintro v h' ⟨ev, S', R2⟩
  exact ⟨ev, S', vw g, R, R2⟩
end
section
-- ===== what is known of a farm =====
theorem d38_0 {n : Nat} {X : aX} {h : aH} {P : Int → aH → Prop} {x1 x2 x3 : Int32} {a1 a2 a3 : Int} (S : wS h) (z1 : x1.toInt = a1) (z2 : x2.toInt = a2) (z3 : x3.toInt = a3) (H : (0 ≤ w32 ((w32 (a1 * 10)) + a2) → w32 ((w32 (a1 * 10)) + a2) < 1500 → P (bI (1 ≤ (vw h 32 (w32 ((w32 (a1 * 10)) + a2))) ∧ (vw h 32 (w32 ((w32 (a1 * 10)) + a2))) ≤ (w32 (a3 + 1)))) h)) : Pt (n + 1) X zM38 0 [some (.ref 16), some (.int x1), some (.int x2), some (.int x3)] [] h (qI P) := by
  refine pt_1 (fun n d => r_aloadn gx38_0 rfl) ?_
  refine pt_d (pt_getR gx38_1 S tr_16_19 ?_)
  refine pt_d (pt_1 (fun n d => r_iloadn gx38_4 rfl) ?_)
  refine pt_d (pt_bipush gx38_5 (fun v2 h2 => ?_))
  refine pt_d (pt_imul gx38_7 z1 h2 (fun v3 h3 => ?_))
  refine pt_d (pt_1 (fun n d => r_iloadn gx38_8 rfl) ?_)
  refine pt_d (pt_iadd gx38_9 h3 z2 (fun v4 h4 => ?_))
  refine pt_d (pt_iald (N' := 1500) gx38_10 S tl_32 h4 (fun v5 p5 q5 h5 => ?_))
  have H := H p5 q5
  refine pt_d (pt_iconst gx38_11 (fun v6 h6 => ?_))
  refine pt_d (pt_1 (fun n d => r_iloadn gx38_12 rfl) ?_)
  refine pt_d (pt_iconst gx38_13 (fun v7 h7 => ?_))
  refine pt_d (pt_iadd gx38_14 z3 h7 (fun v8 h8 => ?_))
  refine pt_d (pt_stat (as := [.int v5, .int v6, .int v8]) (r := []) gx38_15 rfl (show zmt[137]? = some zM137 from rfl) rfl rfl rfl rfl (c_137 S h5 h6 h8) (kqP (fun v9 h9 => ?_)))
  show Pt _ _ _ 18 _ [.int v9] _ _
  exact pt_d (pt_iret gx38_18 ⟨_, rfl, by rw [h9]; exact H⟩)
def cPrv (V : vS) (f y t : Int) : Prop := 1 ≤ V 32 (w32 (w32 (f * 10) + y)) ∧ V 32 (w32 (w32 (f * 10) + y)) ≤ w32 (t + 1)
theorem c_38 {n : Nat} {X : aX} {h : aH} {x1 x2 x3 : Int32} {a1 a2 a3 : Int} (S : wS h) (z1 : x1.toInt = a1) (z2 : x2.toInt = a2) (z3 : x3.toInt = a3) : Pt n X zM38 0 [some (.ref 16), some (.int x1), some (.int x2), some (.int x3)] [] h (qI (fun r h' => h' = h ∧ r = bI (cPrv (vw h) a1 a2 a3))) :=
  pt_d (d38_0 S z1 z2 z3 (fun _ _ => ⟨rfl, rfl⟩))
-- frames: what seasons and names are made of
theorem ag_k {V W : vS} (e : ∀ (c : Nat) j, c < 33 ∨ 72 ≤ c ∧ c ≤ 111 → W c j = V c j) : ∀ L : List (Nat × Option Nat), L.all (fun t => Nat.blt t.1 33 || (Nat.ble 72 t.1 && Nat.ble t.1 111)) = true → ag L V W
  | [], _ => trivial
  | (c, none) :: r, k => by
    rw [List.all_cons, Bool.and_eq_true] at k
    have k1 := k.1
    simp only [Bool.or_eq_true, Bool.and_eq_true, Nat.blt_eq, Nat.ble_eq] at k1
    exact ⟨fun j => e c j k1, ag_k e r k.2⟩
  | (c, some i) :: r, k => by
    rw [List.all_cons, Bool.and_eq_true] at k
    have k1 := k.1
    simp only [Bool.or_eq_true, Bool.and_eq_true, Nat.blt_eq, Nat.ble_eq] at k1
    exact ⟨e c _ k1, ag_k e r k.2⟩
theorem lt1_k {V W : vS} (e : ∀ (c : Nat) j, c < 33 → W c j = V c j) (c : Int) : lt1 W c = lt1 V c := by
  unfold lt1
  rw [e 17 c (by decide), e 3 _ (by decide), e 20 c (by decide), e 22 _ (by decide)]
theorem AP_k {V W : vS} (A : AP V) (e : ∀ (c : Nat) j, c < 33 ∨ 72 ≤ c ∧ c ≤ 111 → W c j = V c j) : AP W := by
  obtain ⟨⟨C, B, Od, d, Rw, r8, r18⟩, O, K, ⟨N, O2, R⟩, l⟩ := A
  refine ⟨⟨JClm_ag C (ag_k e _ (by decide)), JBody_ag B (ag_k e _ (by decide)), JOrd_ag Od (ag_k e _ (by decide)), fun c => by rw [e 20 c (by decide)]; exact d c, JRows_ag Rw (ag_k e _ (by decide)), fun j => by rw [e 8 j (by decide)]; exact r8 j, fun j => by rw [e 18 j (by decide)]; exact r18 j⟩, JOut_ag O (ag_k e _ (by decide)), JCtl_ag K (ag_k e _ (by decide)), ⟨J30_ag N (ag_k e _ (by decide)), JOut2_ag O2 (ag_k e _ (by decide)), JR24_ag R (ag_k e _ (by decide))⟩, fun c c0 cN => ?_⟩
  rw [e 16 1 (by decide)] at cN
  have h := l c c0 cN
  rw [lt1_k (fun c j u => e c j (Or.inl u)), h]
  unfold lt0
  rw [e 90 c (by decide), e 87 c (by decide), e 74 _ (by decide), e 91 _ (by decide)]
noncomputable def kS (V : vS) (t y f : Int) : Int := fSm V t y f (vG V t)
noncomputable def kM (V : vS) (t y f : Int) : Int := fSm V t y f (vL V t)
noncomputable def kC (V : vS) (t y f j : Int) : Int := sgm (fun c => pI ((LkM V t y c ∧ V 87 c = f) ∧ V 89 c = j) (vG V t c)) (V 72 19).toNat
noncomputable def kG (V : vS) (t y f : Int) : Int := sgm (fun c => pI ((LkM V t y c ∧ V 87 c = f) ∧ V 73 (V 88 c) = 5) (vG V t c)) (V 72 19).toNat
noncomputable def kL (V : vS) (t y f : Int) : Int := lasN (fun c => LkM V t y c ∧ V 87 c = f) (V 72 19).toNat
theorem fSm_k {V W : vS} (M : agM V W) {g g' : Int → Int} (e : ∀ c, g' c = g c) (t y f : Int) : fSm W t y f g' = fSm V t y f g := by
  unfold fSm
  rw [M.2.1]
  refine sgm_c _ (fun c _ _ => ?_)
  rw [M.1 87 c (by decide) (by decide), e c]
  exact pI_c (and_congr_left (fun _ => LkM_m M t y c)) (fun _ => rfl)
theorem kS_k {V W : vS} (M : agM V W) (t y f : Int) : kS W t y f = kS V t y f := fSm_k M (fun c => vG_m M t c) t y f
theorem kM_k {V W : vS} (M : agM V W) (t y f : Int) : kM W t y f = kM V t y f := fSm_k M (fun c => by
  unfold vL
  rw [vG_m M, M.2.2.2, mmg_m M]) t y f
theorem kC_k {V W : vS} (M : agM V W) (t y f j : Int) : kC W t y f j = kC V t y f j := by
  unfold kC
  rw [M.2.1]
  refine sgm_c _ (fun c _ _ => ?_)
  rw [M.1 87 c (by decide) (by decide), M.1 89 c (by decide) (by decide), vG_m M]
  exact pI_c (and_congr_left (fun _ => and_congr_left (fun _ => LkM_m M t y c))) (fun _ => rfl)
theorem kG_k {V W : vS} (M : agM V W) (t y f : Int) : kG W t y f = kG V t y f := by
  unfold kG
  rw [M.2.1]
  refine sgm_c _ (fun c _ _ => ?_)
  rw [M.1 87 c (by decide) (by decide), M.1 88 c (by decide) (by decide), M.1 73 _ (by decide) (by decide), vG_m M]
  exact pI_c (and_congr_left (fun _ => and_congr_left (fun _ => LkM_m M t y c))) (fun _ => rfl)
theorem lasN_c {P Q : Int → Prop} : ∀ n : Nat, (∀ j : Int, 0 ≤ j → j < (n : Int) → (P j ↔ Q j)) → lasN P n = lasN Q n
  | 0, _ => rfl
  | n + 1, h => by
    have ih := lasN_c n (fun j a b => h j a (by omega))
    have e := h (n : Nat) (by omega) (by omega)
    by_cases z : P (n : Nat)
    · rw [lasN_t z, lasN_t (e.mp z)]
    · rw [lasN_f z, lasN_f (fun w => z (e.mpr w)), ih]
theorem lasN_i {P : Int → Prop} : ∀ n : Nat, (lasN P n = -1 ∧ ∀ c : Int, 0 ≤ c → c < (n : Int) → ¬ P c) ∨ ((0 ≤ lasN P n ∧ lasN P n < (n : Int)) ∧ P (lasN P n) ∧ ∀ c : Int, lasN P n < c → c < (n : Int) → ¬ P c)
  | 0 => Or.inl ⟨rfl, fun c a b => by omega⟩
  | n + 1 => by
    have ih := lasN_i (P := P) n
    by_cases z : P (n : Nat)
    · rw [lasN_t z]
      exact Or.inr ⟨⟨by omega, by omega⟩, z, fun c a b => by omega⟩
    · rw [lasN_f z]
      have last : ∀ c : Int, c < ((n + 1 : Nat) : Int) → ¬ c < (n : Int) → ¬ P c := fun c a b => by
        rw [show c = (n : Int) by omega]
        exact z
      rcases ih with ⟨i1, i2⟩ | ⟨i1, i2, i3⟩
      · refine Or.inl ⟨i1, fun c a b => ?_⟩
        by_cases q : c < (n : Int)
        · exact i2 c a q
        · exact last c b q
      · refine Or.inr ⟨⟨i1.1, by omega⟩, i2, fun c a b => ?_⟩
        by_cases q : c < (n : Int)
        · exact i3 c a q
        · exact last c b q
theorem lasN_x {P : Int → Prop} {N : Int} {m : Int} (n0 : 0 ≤ N) (M : isMx (fun c => (0 ≤ c ∧ c < N) ∧ P c) m) : m = lasN P N.toNat := by
  obtain ⟨m1, m2, m3⟩ := M
  rcases lasN_i (P := P) N.toNat with ⟨i1, i2⟩ | ⟨i1, i2, i3⟩
  · rcases m2 with e | ⟨b, p⟩
    · rw [e, i1]
    · exact absurd p (i2 m b.1 (by omega))
  · have a := m3 _ ⟨⟨i1.1, by omega⟩, i2⟩
    rcases m2 with e | ⟨b, p⟩
    · omega
    · by_cases q : lasN P N.toNat < m
      · exact absurd p (i3 m q (by omega))
      · omega
theorem kL_k {V W : vS} (M : agM V W) (t y f : Int) : kL W t y f = kL V t y f := by
  unfold kL
  rw [M.2.1]
  refine lasN_c _ (fun c _ _ => ?_)
  rw [M.1 87 c (by decide) (by decide)]
  exact and_congr_left (fun _ => LkM_m M t y c)
end

-- ===== what is known of a farm =====
theorem m_263 {X : aX} {V : vS} {f y t : Int} (hN : 0 ≤ V 72 19 ∧ V 72 19 ≤ 300) (hn : 0 ≤ V 72 2 ∧ V 72 2 ≤ 150) (hh : V 72 14 ≤ 200) : ∀ (n : Nat) (h : aH) (x1 x2 x3 x4 x5 x6 x7 x8 x9 x10 x11 : Int32) (k : Nat), wS h → x1.toInt = f → x2.toInt = y → x3.toInt = t → x4.toInt = sM V f y → x5.toInt = w32 (mmS V f y (V 72 19).toNat) → x6.toInt = lasN (lkW V f y) (V 72 19).toNat → x7.toInt = crpM V f y → x8.toInt = topM V f y → x9.toInt = nQ (earM V f) y.toNat → x10.toInt = nQ (fun b => V 73 b = 6 ∧ mHold V b (ldM y) t = f) k → x11.toInt = (k : Int) → (k : Int) ≤ V 72 2 → (∀ (c : Nat) j, c ≠ 126 → vw h c j = V c j) → Pt n X zM272 263 [some (.ref 72), some (.int x1), some (.int x2), some (.int x3), some (.int x4), some (.int x5), some (.int x6), some (.int x7), some (.int x8), some (.int x9), some (.int x10), some (.int x11)] [] h (qN (fun h' => wS h' ∧ FF V f y t (vw h'))) := by
  intro n
  induction n with
  | zero => intros; exact pt_z
  | succ n ih =>
    intro h x1 x2 x3 x4 x5 x6 x7 x8 x9 x10 x11 k S h1 h2 h3 h4 h5 h6 h7 h8 h9 h10 h11 hk F
    have b := nQ_b (fun b => V 73 b = 6 ∧ mHold V b (ldM y) t = f) k
    have e2 := F 72 2 (by decide)
    have hd : ∀ b d k', mHold (vw h) b d k' = mHold V b d k' := fun b d k' => mHold_f (fun c j u v => F c j (by omega)) (F 72 14 (by decide)) b d k'
    have skip : (k : Int) < vw h 72 2 → ¬ (V 73 (k : Nat) = 6 ∧ mHold V (k : Nat) (ldM y) t = f) → ∀ w10 w11 : Int32, w10.toInt = w32 (nQ (fun b => V 73 b = 6 ∧ mHold V b (ldM y) t = f) k + 0) → w11.toInt = w32 ((k : Int) + 1) → Pt n X zM272 263 [some (.ref 72), some (.int x1), some (.int x2), some (.int x3), some (.int x4), some (.int x5), some (.int x6), some (.int x7), some (.int x8), some (.int x9), some (.int w10), some (.int w11)] [] h (qN (fun h' => wS h' ∧ FF V f y t (vw h'))) := by
      intro e z w10 w11 g10 g11
      replace g10 := w_1 g10 (by omega) (by omega)
      replace g11 := w_1 g11 (by omega) (by omega)
      refine ih h x1 x2 x3 x4 x5 x6 x7 x8 x9 w10 w11 (k + 1) S h1 h2 h3 h4 h5 h6 h7 h8 h9 ?_ (by omega) (by omega) F
      rw [nQ_f (P := fun b => V 73 b = 6 ∧ mHold V b (ldM y) t = f) z]
      exact g10
    refine d272_263 S h1 h2 h3 h4 h5 h6 h7 h8 h9 h10 h11 ⟨fun e _ _ gA SA eA => ?_, fun e _ _ => ⟨fun z w10 w11 g10 g11 => skip e (fun w => z (by rw [F 73 _ (by decide)]; exact w.1)) w10 w11 g10 g11, fun z => ⟨by rw [F 72 14 (by decide)]; exact hh, fun z2 w10 w11 g10 g11 => skip e (fun w => z2 (by rw [hd]; exact w.2)) w10 w11 g10 g11, fun z2 w10 w11 g10 g11 => ?_⟩⟩⟩
    · have kn : (V 72 2).toNat = k := by omega
      have fA : ∀ (c : Nat) j, c ≠ 124 → c ≠ 126 → vw gA c j = V c j := fun c j u v => by
        rw [eA, up_c u, up_c u, up_c u]
        exact F c j v
      have hNA : 0 ≤ vw gA 72 19 ∧ vw gA 72 19 ≤ 300 := by rw [fA 72 19 (by decide) (by decide)]; exact hN
      have e1 : vw h 73 f = V 73 f := F 73 f (by decide)
      -- an end: the chain of heaps, what was laid
      have leaf : ∀ (B C D W : vS) (y4 y6 y7 y11 : Int), y4 = (if sM V f y = 0 then 0 else iDiv (w32 (100 * w32 (mmS V f y (V 72 19).toNat))) (sM V f y)) → y6 = (if sM V f y = 0 then 0 else iDiv (w32 (100 * topM V f y)) (sM V f y)) → B = up (up (up (up (vw gA) 124 3 (w32 (mSm (vw gA) f y (if (1 : Int) = 0 then 104 else 105) (vw gA 72 19).toNat))) 124 4 y4) 124 5 (crpM V f y)) 124 6 y6 → C = up B 124 7 y7 → (y7 = lateM V f y) → D = up (up (up C 124 8 (mErr C f y)) 124 9 (nQ (fun b => V 73 b = 6 ∧ mHold V b (ldM y) t = f) k)) 124 10 0 → y11 = bI (mPrv D f y t) → W = up (up D 124 11 y11) 124 12 (nQ (earM V f) y.toNat) → FF V f y t W := fun B C D W y4 y6 y7 y11 q4 q6 eB eC q7 eD q11 eW => by
        obtain ⟨fr, ⟨a0, a1, a2, a3⟩, ⟨a4, a5, a6⟩, ⟨a7, a8, a9⟩, a10, a11, a12⟩ := fin_m eA eB eC eD eW
        have fB : ∀ (c : Nat) j, c ≠ 124 → c ≠ 126 → B c j = V c j := fun c j u v => by
          rw [eB, up_c u, up_c u, up_c u, up_c u]
          exact fA c j u v
        have fC : ∀ (c : Nat) j, c ≠ 124 → c ≠ 126 → C c j = V c j := fun c j u v => by
          rw [eC, up_c u]
          exact fB c j u v
        have fD : ∀ (c : Nat) j, c ≠ 124 → c ≠ 126 → D c j = V c j := fun c j u v => by
          rw [eD, up_c u, up_c u, up_c u]
          exact fC c j u v
        refine ⟨fun c j u v => (fr c j u).trans (F c j v), ⟨⟨a0, by rw [a1]; exact e1, a2, ?_⟩, by rw [a4]; exact q4, a5, by rw [a6]; exact q6⟩, ⟨by rw [a7]; exact q7, by rw [a8]; exact mErr_w fC f y, by rw [a9]; unfold perM; rw [kn]⟩, a10, ?_, a12⟩
        · rw [a3, if_neg (show ¬ (1 : Int) = 0 by decide), fA 72 19 (by decide) (by decide), mSm_w fA f y (r := 105) (by decide)]
        · rw [a11, q11]
          unfold mPrv
          rw [fD 111 _ (by decide) (by decide)]
      have lA : ∀ B : vS, (∀ (c : Nat) j, c ≠ 124 → B c j = vw gA c j) → 0 ≤ lasN (lkW V f y) (V 72 19).toNat → lt0 B (lasN (lkW V f y) (V 72 19).toNat) = lateM V f y := fun B fB z => by
        unfold lateM
        rw [if_neg (by omega)]
        exact lt0_w (fun c j u v => (fB c j u).trans (fA c j u v)) _
      have lB : lasN (lkW V f y) (V 72 19).toNat < 0 → (0 : Int) = lateM V f y := fun z => by
        unfold lateM
        rw [if_pos z]
      have hX : ∀ C : vS, (∀ (c : Nat) j, c ≠ 124 → C c j = vw gA c j) → 0 ≤ C 72 19 ∧ C 72 19 ≤ 300 := fun C fC => by rw [fC 72 19 (by decide)]; exact hNA
      refine ⟨hNA, ?_⟩
      exact ⟨fun s1 => ⟨fun s2 => ⟨fun l g1 S1 e1 g2 S2 e2 => ⟨hX _ (fun c j u => by rw [e2, up_c u, e1, up_c u, up_c u, up_c u, up_c u]), fun g3 S3 e3 => ⟨fun z g4 S4 e4 => ⟨S4, leaf _ _ _ _ _ _ _ _ (if_neg s1).symm (if_neg s1).symm e1 e2 (lA _ (fun c j u => by rw [e1, up_c u, up_c u, up_c u, up_c u]) l) e3 (bI_f z).symm e4⟩, fun z g4 S4 e4 => ⟨S4, leaf _ _ _ _ _ _ _ _ (if_neg s1).symm (if_neg s1).symm e1 e2 (lA _ (fun c j u => by rw [e1, up_c u, up_c u, up_c u, up_c u]) l) e3 (bI_t z).symm e4⟩⟩⟩, fun l g2 S2 e2 => ⟨hX _ (fun c j u => by rw [e2, up_c u, up_c u, up_c u, up_c u, up_c u]), fun g3 S3 e3 => ⟨fun z g4 S4 e4 => ⟨S4, leaf _ _ _ _ _ _ _ _ (if_neg s1).symm (if_neg s1).symm rfl e2 (lB l) e3 (bI_f z).symm e4⟩, fun z g4 S4 e4 => ⟨S4, leaf _ _ _ _ _ _ _ _ (if_neg s1).symm (if_neg s1).symm rfl e2 (lB l) e3 (bI_t z).symm e4⟩⟩⟩⟩, fun s2 => absurd s2 s1⟩, fun s1 => ⟨fun s2 => absurd s1 s2, fun s2 => ⟨fun l g1 S1 e1 g2 S2 e2 => ⟨hX _ (fun c j u => by rw [e2, up_c u, e1, up_c u, up_c u, up_c u, up_c u]), fun g3 S3 e3 => ⟨fun z g4 S4 e4 => ⟨S4, leaf _ _ _ _ _ _ _ _ (if_pos s1).symm (if_pos s1).symm e1 e2 (lA _ (fun c j u => by rw [e1, up_c u, up_c u, up_c u, up_c u]) l) e3 (bI_f z).symm e4⟩, fun z g4 S4 e4 => ⟨S4, leaf _ _ _ _ _ _ _ _ (if_pos s1).symm (if_pos s1).symm e1 e2 (lA _ (fun c j u => by rw [e1, up_c u, up_c u, up_c u, up_c u]) l) e3 (bI_t z).symm e4⟩⟩⟩, fun l g2 S2 e2 => ⟨hX _ (fun c j u => by rw [e2, up_c u, up_c u, up_c u, up_c u, up_c u]), fun g3 S3 e3 => ⟨fun z g4 S4 e4 => ⟨S4, leaf _ _ _ _ _ _ _ _ (if_pos s1).symm (if_pos s1).symm rfl e2 (lB l) e3 (bI_f z).symm e4⟩, fun z g4 S4 e4 => ⟨S4, leaf _ _ _ _ _ _ _ _ (if_pos s1).symm (if_pos s1).symm rfl e2 (lB l) e3 (bI_t z).symm e4⟩⟩⟩⟩⟩⟩
    · replace g10 := w_1 g10 (by omega) (by omega)
      replace g11 := w_1 g11 (by omega) (by omega)
      refine ih h x1 x2 x3 x4 x5 x6 x7 x8 x9 w10 w11 (k + 1) S h1 h2 h3 h4 h5 h6 h7 h8 h9 ?_ (by omega) (by omega) F
      rw [nQ_t (P := fun b => V 73 b = 6 ∧ mHold V b (ldM y) t = f) ⟨by rw [← F 73 _ (by decide)]; exact z, by rw [← hd]; exact z2⟩]
      exact g10


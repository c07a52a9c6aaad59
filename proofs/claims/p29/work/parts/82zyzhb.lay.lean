-- ===== the reference lays a text out =====
theorem mRes_q {t : Nat} {V V' : vS} (c : mRes t V V') (h : V 72 54 ≤ 160) : V' 72 64 ≤ 160 := by
  obtain ⟨F1, q, f, p1, e1, e2, e3, b⟩ := c
  omega
theorem k_seq {t t1 t2 : Nat} (S : seqC t t1 t2) {V V1 V' : vS} (c1 : mRes t1 V V1) (k1 : kRes t1 V V1) (c2 : mLo t2 V1 V') (k2 : kLo t2 V1 V') : kRes t V V' := by
  obtain ⟨F1, q, f, p1, e1, e2, e3, b⟩ := c1
  refine ⟨kFs_s (by omega) (kFs_t k1.1 k2.1), fun n => ?_⟩
  have w : V1 72 65 < 0 := by
    by_cases w : V1 72 65 < 0
    · exact w
    · have := (c2.2 (by omega)).2.2
      omega
  obtain ⟨q1, L1, d1, a1, a2, a3⟩ := k1.2 w
  obtain ⟨q2, L2, d2, b1, b2, b3⟩ := k2.2 w n
  have r67 : V1 72 67 = V 72 67 := kFs_67 k1.1
  rw [mfr_T F1, e3 (by omega), a1] at d2
  rw [r67, a2] at b3
  refine ⟨q2, L1 ++ L2, kq_n S d1 d2, b1, ?_, ?_⟩
  · rw [b2, a2, List.length_append]
    omega
  · rw [cAt_a]
    refine ⟨cAt_k L1 _ (fun j u v => k2.1.2.1 j (by omega)) a3, ?_⟩
    rw [show 170 * V 72 67 + V 72 68 + (L1.length : Int) = 170 * V 72 67 + (V 72 68 + (L1.length : Int)) by omega]
    exact b3
theorem k_out {t t1 : Nat} (S : lopC t t1) {V : vS} (h : V 72 65 < 0 → opB t (mT V (V 72 64)) = false) : kLo t V V :=
  ⟨kFs_r, fun e _ => ⟨_, [], kl_e S (h e), rfl, by show V 72 68 = V 72 68 + ((0 : Nat) : Int); omega, trivial⟩⟩
-- a part behind a sign, and the sign's step
theorem k_lay {t1 : Nat} {V V4 V1 V2 : vS} {c x o : Int} (K : kpre V) (F4 : kFs (-1) V V4) (e64 : V4 72 64 = V 72 64 + 1) (eT : mT V4 = mT V) (e68 : V4 72 68 = V 72 68) (cb : V1 72 64 ≤ 160) (k1F : kFs 0 V4 V1) (k1 : V1 72 65 < 0 → kOk t1 o (V4 72 64) V4 V1) (l : RLay V1 c x V2) : kFs 0 V V2 ∧ (V2 72 65 < 0 → ∃ q L, Cd (mT V) t1 o (V 72 64 + 1) q L ∧ V2 72 64 = q ∧ V2 72 68 = V 72 68 + (L.length : Int) + 1 ∧ cAt V2 (170 * V 72 67 + V 72 68) (L ++ [(c, x)])) := by
  have K1 : kpre V1 := kF_p (Int.le_refl _) (kF_p (by decide) K F4) k1F
  obtain ⟨lF, l68, lc, l64, l65⟩ := lay_F K1 cb l
  refine ⟨kFs_s (by omega) (kFs_t (kFs_t F4 k1F) lF), fun n => ?_⟩
  obtain ⟨q, L, d, a1, a2, a3⟩ := k1 (by omega)
  have r4 := kFs_67 F4
  have r1 := kFs_67 k1F
  rw [eT, e64] at d
  rw [e68] at a2
  rw [e68, r4] at a3
  refine ⟨q, L, d, l64.trans a1, by rw [l68, a2], ?_⟩
  rw [cAt_a]
  refine ⟨cAt_k L _ (fun j u v => lF.2.1 j (by omega)) a3, ?_, trivial⟩
  rw [show 170 * V 72 67 + V 72 68 + (L.length : Int) = 170 * V1 72 67 + V1 72 68 by omega]
  exact lc
theorem k_gl {t1 : Nat} {V V4 V1 V2 : vS} {c : Int} (H : mlp V) (K : kpre V) (hf : V 72 65 < 0) (c0 : 0 ≤ c) (hc : mL V = c) (e4 : V4 = up V 72 64 (w32 (V 72 64 + 1))) (c1 : mRes t1 V4 V1) (k1 : kRes t1 V4 V1) (l : RLay V1 c 0 V2) : kFs 0 V V2 ∧ (V2 72 65 < 0 → ∃ q L, Cd (mT V) t1 (V 72 66) (V 72 64 + 1) q L ∧ V2 72 64 = q ∧ V2 72 68 = V 72 68 + (L.length : Int) + 1 ∧ cAt V2 (170 * V 72 67 + V 72 68) (L ++ [(c, 0)])) := by
  obtain ⟨h1, h2, h3, h4, h5, h6, h7, h8⟩ := m_here H hf c0 hc e4
  have F4 : kFs (-1) V V4 := by rw [h3]; exact kFs_i (up_fr (by omega)) (by rw [up_s]; omega)
  exact k_lay K F4 h4 h6 (by rw [h3]; exact up_j (by decide)) (mRes_q c1 (by rw [h7]; exact H.2.2.2)) k1.1 (fun w => by rw [← h5]; exact k1.2 w) l
theorem k_step {t t1 : Nat} (S : lopC t t1) {V V4 V1 V2 V' : vS} {c : Int} (H : mlp V) (K : kpre V) (hf : V 72 65 < 0) (c0 : 0 ≤ c) (hc : mL V = c) (ho : opB t c = true) (e4 : V4 = up V 72 64 (w32 (V 72 64 + 1))) (c1 : mRes t1 V4 V1) (k1 : kRes t1 V4 V1) (l : RLay V1 c 0 V2) (c2 : mLo t V2 V') (k2 : kLo t V2 V') : kLo t V V' := by
  obtain ⟨h1, h2, h3, h4, h5, h6, h7, h8⟩ := m_here H hf c0 hc e4
  obtain ⟨F, G⟩ := k_gl H K hf c0 hc e4 c1 k1 l
  refine ⟨kFs_s (by omega) (kFs_t F k2.1), fun _ n => ?_⟩
  have w : V2 72 65 < 0 := by
    by_cases w : V2 72 65 < 0
    · exact w
    · have := (c2.2 (by omega)).2.2
      omega
  have w1 : V1 72 65 < 0 := by rw [← lfr_e (lay_l l) (j := 65) (by decide)]; exact w
  obtain ⟨F1, q', f, p1, e1, e2, e3, b⟩ := c1
  obtain ⟨q1, L1, d1, a1, a2, a3⟩ := G w
  obtain ⟨q2, L2, d2, b1, b2, b3⟩ := k2.2 w n
  have t2 : mT V2 = mT V := (mfr_T (lfr_m (lay_l l))).trans ((mfr_T F1).trans h6)
  have o2 : V2 72 66 = V 72 66 := (lfr_e (lay_l l) (by decide)).trans ((e3 (by omega)).trans h5)
  have r67 := kFs_67 F
  rw [t2, o2, a1] at d2
  rw [r67, a2] at b3
  have ht : opB t (mT V (V 72 64)) = true := by rw [h1]; exact ho
  have d := kl_n S ht d1 d2
  rw [h1] at d
  have el : L1 ++ (c, 0) :: L2 = (L1 ++ [(c, 0)]) ++ L2 := by rw [List.append_assoc]; rfl
  rw [el] at d
  have e : ((L1 ++ [(c, (0 : Int))]).length : Int) = (L1.length : Int) + 1 := by
    rw [List.length_append]
    show ((L1.length + 1 : Nat) : Int) = _
    omega
  refine ⟨q2, (L1 ++ [(c, 0)]) ++ L2, d, b1, ?_, ?_⟩
  · rw [b2, a2, List.length_append ..]
    omega
  · rw [cAt_a]
    refine ⟨cAt_k _ _ (fun j u v => k2.1.2.1 j (by rw [e] at v; omega)) a3, ?_⟩
    rw [e, show 170 * V 72 67 + V 72 68 + ((L1.length : Int) + 1) = 170 * V 72 67 + (V 72 68 + (L1.length : Int) + 1) by omega]
    exact b3


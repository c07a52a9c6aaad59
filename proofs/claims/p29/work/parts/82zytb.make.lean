-- ===== seasons: the class makes =====
theorem d96_0 {n : Nat} {X : aX} {h : aH} {P : aH → Prop} {x3 : Int32} {a3 : Int} {q0 : Nat} (S : wS h) (z3 : x3.toInt = a3) (hq0 : 146 ≤ q0) (H : ∀ h_4 : aH, wS h_4 → vw h_4 = up (up (vw h) q0 3 (-1)) q0 4 (-1) → hs h h_4 → ∀ (q6 : Nat) (h_6 : aH), wS h_6 → (0 : Int) ≤ 300 → nwI h_4 q6 0 (300 : Int).toNat h_6 → ∀ h_7 : aH, wS h_7 → vw h_7 = up (vw h_6) q0 6 ((q6 : Nat) : Int) → hs h_6 h_7 → ∀ (q9 : Nat) (h_9 : aH), wS h_9 → (0 : Int) ≤ 300 → nwI h_7 q9 0 (300 : Int).toNat h_9 → ∀ h_10 : aH, wS h_10 → vw h_10 = up (vw h_9) q0 7 ((q9 : Nat) : Int) → hs h_9 h_10 → ∀ (q12 : Nat) (h_12 : aH), wS h_12 → (0 : Int) ≤ 300 → nwI h_10 q12 0 (300 : Int).toNat h_12 → ∀ h_13 : aH, wS h_13 → vw h_13 = up (vw h_12) q0 8 ((q12 : Nat) : Int) → hs h_12 h_13 → ∀ (q15 : Nat) (h_15 : aH), wS h_15 → (0 : Int) ≤ 24 → nwI h_13 q15 0 (24 : Int).toNat h_15 → ∀ h_16 : aH, wS h_16 → vw h_16 = up (vw h_15) q0 9 ((q15 : Nat) : Int) → hs h_15 h_16 → ∀ (q18 : Nat) (h_18 : aH), wS h_18 → (0 : Int) ≤ 150 → nwI h_16 q18 0 (150 : Int).toNat h_18 → ∀ h_19 : aH, wS h_19 → vw h_19 = up (vw h_18) q0 10 ((q18 : Nat) : Int) → hs h_18 h_19 → ∀ (q21 : Nat) (h_21 : aH), wS h_21 → (0 : Int) ≤ 150 → nwI h_19 q21 0 (150 : Int).toNat h_21 → ∀ h_22 : aH, wS h_22 → vw h_22 = up (vw h_21) q0 11 ((q21 : Nat) : Int) → hs h_21 h_22 → ∀ (q24 : Nat) (h_24 : aH), wS h_24 → (0 : Int) ≤ 150 → nwI h_22 q24 0 (150 : Int).toNat h_24 → ∀ h_28 : aH, wS h_28 → vw h_28 = up (up (up (up (vw h_24) q0 12 ((q24 : Nat) : Int)) q0 0 ((1 : Nat) : Int)) q0 1 ((16 : Nat) : Int)) q0 2 a3 → hs h_24 h_28 → P h_28) : Pt (n + 1) X zM96 0 [some (.ref q0), some (.ref 1), some (.ref 16), some (.int x3)] [] h (qN P) := by
  refine pt_1 (fun n d => r_aloadn gx96_0 rfl) ?_
  refine pt_d (pt_obj gx96_1 rfl ?_)
  refine pt_d (pt_1 (fun n d => r_aloadn gx96_4 rfl) ?_)
  refine pt_d (pt_iconst gx96_5 (fun v1 h1 => ?_))
  refine pt_d (pt_putIs (B := 3) gx96_6 S hq0 h1 (fun h_2 S2 e2 K2 => ?_))
  refine pt_d (pt_1 (fun n d => r_aloadn gx96_9 rfl) ?_)
  refine pt_d (pt_iconst gx96_10 (fun v3 h3 => ?_))
  refine pt_d (pt_putIs (B := 4) gx96_11 S2 hq0 h3 (fun h_4 S4 e4 K4 => ?_))
  refine pt_d (pt_1 (fun n d => r_aloadn gx96_14 rfl) ?_)
  refine pt_d (pt_sipush gx96_15 (fun v5 h5 => ?_))
  have H := H h_4 S4 (by rw [e4, e2]) (hs_t K2 K4)
  refine pt_d (pt_newa gx96_18 S4 h5 (fun q6 h_6 S6 p6 w6 => ?_))
  have H := H q6 h_6 S6 p6 w6
  refine pt_d (pt_putRs (B := 6) gx96_20 S6 hq0 (fun h_7 S7 e7 K7 => ?_))
  refine pt_d (pt_1 (fun n d => r_aloadn gx96_23 rfl) ?_)
  refine pt_d (pt_sipush gx96_24 (fun v8 h8 => ?_))
  have H := H h_7 S7 (by rw [e7]) K7
  refine pt_d (pt_newa gx96_27 S7 h8 (fun q9 h_9 S9 p9 w9 => ?_))
  have H := H q9 h_9 S9 p9 w9
  refine pt_d (pt_putRs (B := 7) gx96_29 S9 hq0 (fun h_10 S10 e10 K10 => ?_))
  refine pt_d (pt_1 (fun n d => r_aloadn gx96_32 rfl) ?_)
  refine pt_d (pt_sipush gx96_33 (fun v11 h11 => ?_))
  have H := H h_10 S10 (by rw [e10]) K10
  refine pt_d (pt_newa gx96_36 S10 h11 (fun q12 h_12 S12 p12 w12 => ?_))
  have H := H q12 h_12 S12 p12 w12
  refine pt_d (pt_putRs (B := 8) gx96_38 S12 hq0 (fun h_13 S13 e13 K13 => ?_))
  refine pt_d (pt_1 (fun n d => r_aloadn gx96_41 rfl) ?_)
  refine pt_d (pt_bipush gx96_42 (fun v14 h14 => ?_))
  have H := H h_13 S13 (by rw [e13]) K13
  refine pt_d (pt_newa gx96_44 S13 h14 (fun q15 h_15 S15 p15 w15 => ?_))
  have H := H q15 h_15 S15 p15 w15
  refine pt_d (pt_putRs (B := 9) gx96_46 S15 hq0 (fun h_16 S16 e16 K16 => ?_))
  refine pt_d (pt_1 (fun n d => r_aloadn gx96_49 rfl) ?_)
  refine pt_d (pt_sipush gx96_50 (fun v17 h17 => ?_))
  have H := H h_16 S16 (by rw [e16]) K16
  refine pt_d (pt_newa gx96_53 S16 h17 (fun q18 h_18 S18 p18 w18 => ?_))
  have H := H q18 h_18 S18 p18 w18
  refine pt_d (pt_putRs (B := 10) gx96_55 S18 hq0 (fun h_19 S19 e19 K19 => ?_))
  refine pt_d (pt_1 (fun n d => r_aloadn gx96_58 rfl) ?_)
  refine pt_d (pt_sipush gx96_59 (fun v20 h20 => ?_))
  have H := H h_19 S19 (by rw [e19]) K19
  refine pt_d (pt_newa gx96_62 S19 h20 (fun q21 h_21 S21 p21 w21 => ?_))
  have H := H q21 h_21 S21 p21 w21
  refine pt_d (pt_putRs (B := 11) gx96_64 S21 hq0 (fun h_22 S22 e22 K22 => ?_))
  refine pt_d (pt_1 (fun n d => r_aloadn gx96_67 rfl) ?_)
  refine pt_d (pt_sipush gx96_68 (fun v23 h23 => ?_))
  have H := H h_22 S22 (by rw [e22]) K22
  refine pt_d (pt_newa gx96_71 S22 h23 (fun q24 h_24 S24 p24 w24 => ?_))
  have H := H q24 h_24 S24 p24 w24
  refine pt_d (pt_putRs (B := 12) gx96_73 S24 hq0 (fun h_25 S25 e25 K25 => ?_))
  refine pt_d (pt_1 (fun n d => r_aloadn gx96_76 rfl) ?_)
  refine pt_d (pt_1 (fun n d => r_aloadn gx96_77 rfl) ?_)
  refine pt_d (pt_putRs (B := 0) gx96_78 S25 hq0 (fun h_26 S26 e26 K26 => ?_))
  refine pt_d (pt_1 (fun n d => r_aloadn gx96_81 rfl) ?_)
  refine pt_d (pt_1 (fun n d => r_aloadn gx96_82 rfl) ?_)
  refine pt_d (pt_putRs (B := 1) gx96_83 S26 hq0 (fun h_27 S27 e27 K27 => ?_))
  refine pt_d (pt_1 (fun n d => r_aloadn gx96_86 rfl) ?_)
  refine pt_d (pt_1 (fun n d => r_iloadn gx96_87 rfl) ?_)
  refine pt_d (pt_putIs (B := 2) gx96_88 S27 hq0 z3 (fun h_28 S28 e28 K28 => ?_))
  have H := H h_28 S28 (by rw [e28, e27, e26, e25]) (hs_t (hs_t (hs_t K25 K26) K27) K28)
  exact pt_d (pt_vret gx96_91 ⟨rfl, H⟩)
def ini (h : aH) (q : Nat) (y : Int) (h' : aH) : Prop := hk h h' ∧ h'.1.length = h.1.length + 7 ∧ (∀ (c : Nat) j, c ≠ q → vw h' c j = vw h c j) ∧ (vw h' q 0 = ((1 : Nat) : Int) ∧ vw h' q 1 = ((16 : Nat) : Int) ∧ vw h' q 2 = y ∧ vw h' q 3 = -1 ∧ vw h' q 4 = -1) ∧ (vw h' q 6 = ((h.1.length : Nat) : Int) ∧ vw h' q 7 = ((h.1.length + 1 : Nat) : Int) ∧ vw h' q 8 = ((h.1.length + 2 : Nat) : Int) ∧ vw h' q 9 = ((h.1.length + 3 : Nat) : Int) ∧ vw h' q 10 = ((h.1.length + 4 : Nat) : Int) ∧ vw h' q 11 = ((h.1.length + 5 : Nat) : Int) ∧ vw h' q 12 = ((h.1.length + 6 : Nat) : Int)) ∧ (∃ t y, h'.1[h.1.length + 1]? = some (.inl (t, 300, y))) ∧ (∃ t y, h'.1[h.1.length + 4]? = some (.inl (t, 150, y))) ∧ (∃ t y, h'.1[h.1.length + 5]? = some (.inl (t, 150, y))) ∧ (∃ t y, h'.1[h.1.length + 6]? = some (.inl (t, 150, y)))
theorem kd_k {h h' : aH} {c N : Nat} (K : hk h h') (e : ∃ t y, h.1[c]? = some (.inl (t, N, y))) : ∃ t y, h'.1[c]? = some (.inl (t, N, y)) := by
  obtain ⟨t, y, e⟩ := e
  obtain ⟨y', e'⟩ := K c t N y e
  exact ⟨t, y', e'⟩
theorem c_96 {n : Nat} {X : aX} {h : aH} {x3 : Int32} {a3 : Int} {q0 : Nat} (S : wS h) (z3 : x3.toInt = a3) (hq0 : 146 ≤ q0) : Pt n X zM96 0 [some (.ref q0), some (.ref 1), some (.ref 16), some (.int x3)] [] h (qN (fun h' => wS h' ∧ ini h q0 a3 h')) := by
  refine pt_d (d96_0 S z3 hq0 ?_)
  intro h1 S1 e1 K1 p1 g1 T1 _ w1 h2 S2 e2 K2 p2 g2 T2 _ w2 h3 S3 e3 K3 p3 g3 T3 _ w3 h4 S4 e4 K4 p4 g4 T4 _ w4 h5 S5 e5 K5 p5 g5 T5 _ w5 h6 S6 e6 K6 p6 g6 T6 _ w6 h7 S7 e7 K7 p7 g7 T7 _ w7 h8 S8 e8 K8
  have l1 := K1.1
  have l2 := nwI_len w1
  have l3 := K2.1
  have l4 := nwI_len w2
  have l5 := K3.1
  have l6 := nwI_len w3
  have l7 := K4.1
  have l8 := nwI_len w4
  have l9 := K5.1
  have l10 := nwI_len w5
  have l11 := K6.1
  have l12 := nwI_len w6
  have l13 := K7.1
  have l14 := nwI_len w7
  have l15 := K8.1
  have q1 : p1 = h.1.length := by have := w1.1; omega
  have q2 : p2 = h.1.length + 1 := by have := w2.1; omega
  have q3 : p3 = h.1.length + 2 := by have := w3.1; omega
  have q4 : p4 = h.1.length + 3 := by have := w4.1; omega
  have q5 : p5 = h.1.length + 4 := by have := w5.1; omega
  have q6 : p6 = h.1.length + 5 := by have := w6.1; omega
  have q7 : p7 = h.1.length + 6 := by have := w7.1; omega
  have k7 : hk g7 h8 := K8.2
  have k6 : hk g6 h8 := hk_t (hk_t K7.2 (nwI_hk w7)) k7
  have k5 : hk g5 h8 := hk_t (hk_t K6.2 (nwI_hk w6)) k6
  have k4 : hk g4 h8 := hk_t (hk_t K5.2 (nwI_hk w5)) k5
  have k3 : hk g3 h8 := hk_t (hk_t K4.2 (nwI_hk w4)) k4
  have k2 : hk g2 h8 := hk_t (hk_t K3.2 (nwI_hk w3)) k3
  have k1 : hk g1 h8 := hk_t (hk_t K2.2 (nwI_hk w2)) k2
  have k0 : hk h h8 := hk_t (hk_t K1.2 (nwI_hk w1)) k1
  have v : vw h8 = up (up (up (up (up (up (up (up (up (up (up (up (vw h) q0 3 (-1)) q0 4 (-1)) q0 6 ((p1 : Nat) : Int)) q0 7 ((p2 : Nat) : Int)) q0 8 ((p3 : Nat) : Int)) q0 9 ((p4 : Nat) : Int)) q0 10 ((p5 : Nat) : Int)) q0 11 ((p6 : Nat) : Int)) q0 12 ((p7 : Nat) : Int)) q0 0 ((1 : Nat) : Int)) q0 1 ((16 : Nat) : Int)) q0 2 a3 := by
    rw [e8, nwI_vw w7, e7, nwI_vw w6, e6, nwI_vw w5, e5, nwI_vw w4, e4, nwI_vw w3, e3, nwI_vw w2, e2, nwI_vw w1, e1]
  subst q1 q2 q3 q4 q5 q6 q7
  refine ⟨S8, k0, by omega, fun c j n => ?_, ⟨?_, ?_, ?_, ?_, ?_⟩, ⟨?_, ?_, ?_, ?_, ?_, ?_, ?_⟩, ?_, ?_, ?_, ?_⟩
  · rw [v]
    iterate 12 rw [up_c n]
  · rw [v, up_j (by decide), up_j (by decide), up_s]
  · rw [v, up_j (by decide), up_s]
  · rw [v, up_s]
  · rw [v]
    iterate 10 rw [up_j (by decide)]
    rw [up_j (by decide), up_s]
  · rw [v]
    iterate 10 rw [up_j (by decide)]
    rw [up_s]
  · rw [v]
    iterate 9 rw [up_j (by decide)]
    rw [up_s]
  · rw [v]
    iterate 8 rw [up_j (by decide)]
    rw [up_s]
  · rw [v]
    iterate 7 rw [up_j (by decide)]
    rw [up_s]
  · rw [v]
    iterate 6 rw [up_j (by decide)]
    rw [up_s]
  · rw [v]
    iterate 5 rw [up_j (by decide)]
    rw [up_s]
  · rw [v]
    iterate 4 rw [up_j (by decide)]
    rw [up_s]
  · rw [v]
    iterate 3 rw [up_j (by decide)]
    rw [up_s]
  · exact kd_k k2 ⟨0, nwI_k w2⟩
  · exact kd_k k5 ⟨0, nwI_k w5⟩
  · exact kd_k k6 ⟨0, nwI_k w6⟩
  · exact kd_k k7 ⟨0, nwI_k w7⟩
theorem c_97p {n : Nat} {X : aX} {h : aH} {x1 x2 : Int32} {a1 a2 : Int} {q0 : Nat} (S : wS h) (z1 : x1.toInt = a1) (z2 : x2.toInt = a2) (hp : 146 ≤ q0 ∧ pre97 h q0) : Pt n X zM97 0 [some (.ref q0), some (.int x1), some (.int x2), none] [] h (qN (fun h' => wS h' ∧ hk h h' ∧ R97 (vw h) q0 a1 a2 (vw h'))) := c_97 S z1 z2 hp.1 hp.2


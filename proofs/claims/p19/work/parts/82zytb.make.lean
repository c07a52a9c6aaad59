-- ===== 82zytb.make: 13 texts =====
section
-- ===== seasons: the class makes =====
theorem d96_0 {n : Nat} {X : aX} {h : aH} {P : aH → Prop} {x3 : Int32} {a3 : Int} {q0 : Nat} (S : wS h) (z3 : x3.toInt = a3) (hq0 : 146 ≤ q0) (H : ∀ h_4 : aH, wS h_4 → vw h_4 = up (up (vw h) q0 3 (-1)) q0 4 (-1) → hs h h_4 → ∀ (q6 : Nat) (h_6 : aH), wS h_6 → (0 : Int) ≤ 300 → nwI h_4 q6 0 (300 : Int).toNat h_6 → ∀ h_7 : aH, wS h_7 → vw h_7 = up (vw h_6) q0 6 ((q6 : Nat) : Int) → hs h_6 h_7 → ∀ (q9 : Nat) (h_9 : aH), wS h_9 → (0 : Int) ≤ 300 → nwI h_7 q9 0 (300 : Int).toNat h_9 → ∀ h_10 : aH, wS h_10 → vw h_10 = up (vw h_9) q0 7 ((q9 : Nat) : Int) → hs h_9 h_10 → ∀ (q12 : Nat) (h_12 : aH), wS h_12 → (0 : Int) ≤ 300 → nwI h_10 q12 0 (300 : Int).toNat h_12 → ∀ h_13 : aH, wS h_13 → vw h_13 = up (vw h_12) q0 8 ((q12 : Nat) : Int) → hs h_12 h_13 → ∀ (q15 : Nat) (h_15 : aH), wS h_15 → (0 : Int) ≤ 24 → nwI h_13 q15 0 (24 : Int).toNat h_15 → ∀ h_16 : aH, wS h_16 → vw h_16 = up (vw h_15) q0 9 ((q15 : Nat) : Int) → hs h_15 h_16 → ∀ (q18 : Nat) (h_18 : aH), wS h_18 → (0 : Int) ≤ 150 → nwI h_16 q18 0 (150 : Int).toNat h_18 → ∀ h_19 : aH, wS h_19 → vw h_19 = up (vw h_18) q0 10 ((q18 : Nat) : Int) → hs h_18 h_19 → ∀ (q21 : Nat) (h_21 : aH), wS h_21 → (0 : Int) ≤ 150 → nwI h_19 q21 0 (150 : Int).toNat h_21 → ∀ h_22 : aH, wS h_22 → vw h_22 = up (vw h_21) q0 11 ((q21 : Nat) : Int) → hs h_21 h_22 → ∀ (q24 : Nat) (h_24 : aH), wS h_24 → (0 : Int) ≤ 150 → nwI h_22 q24 0 (150 : Int).toNat h_24 → ∀ h_28 : aH, wS h_28 → vw h_28 = up (up (up (up (vw h_24) q0 12 ((q24 : Nat) : Int)) q0 0 ((1 : Nat) : Int)) q0 1 ((16 : Nat) : Int)) q0 2 a3 → hs h_24 h_28 → P h_28) : Pt (n + 1) X zM96 0 [some (.ref q0), some (.ref 1), some (.ref 16), some (.int x3)] [] h (qN P) := by
  refine pt_1 (fun n d => r_aloadn gx96_0 rfl) ?_
  refine pt_d (pt_obj gx96_1 rfl ?_)
  refine pt_d (pt_1 (fun n d => r_aloadn gx96_4 rfl) ?_)
  refine pt_d (pt_iconst gx96_5 (fun v1 h1 => ?_))
  refine pt_d (pt_putIs (B := 3) gx96_6 S hq0 h1 (fun h_2 S2 e2 K2 => ?_))
  refine pt_d (pt_1 (fun n d => r_aloadn gx96_9 rfl) ?_)
  refine pt_d (pt_iconst gx96_10 (fun v3 h3 => ?_))
  refine pt_d (pt_putIs (B := 4) gx96_11 S2 hq0 h3 (fun h_4 S4 e4 K4 => ?_))
  refine pt_d (pt_1 (fun n d => r_aloadn gx96_14 rfl) ?_)
  refine pt_d (pt_sipush gx96_15 (fun v5 h5 => ?_))
  have H := H h_4 S4 (by rw [e4, e2]) (hs_t K2 K4)
  refine pt_d (pt_newa gx96_18 S4 h5 (fun q6 h_6 S6 p6 w6 => ?_))
  have H := H q6 h_6 S6 p6 w6
  refine pt_d (pt_putRs (B := 6) gx96_20 S6 hq0 (fun h_7 S7 e7 K7 => ?_))
  refine pt_d (pt_1 (fun n d => r_aloadn gx96_23 rfl) ?_)
  refine pt_d (pt_sipush gx96_24 (fun v8 h8 => ?_))
  have H := H h_7 S7 (by rw [e7]) K7
  refine pt_d (pt_newa gx96_27 S7 h8 (fun q9 h_9 S9 p9 w9 => ?_))
  have H := H q9 h_9 S9 p9 w9
  refine pt_d (pt_putRs (B := 7) gx96_29 S9 hq0 (fun h_10 S10 e10 K10 => ?_))
  refine pt_d (pt_1 (fun n d => r_aloadn gx96_32 rfl) ?_)
  refine pt_d (pt_sipush gx96_33 (fun v11 h11 => ?_))
  have H := H h_10 S10 (by rw [e10]) K10
  refine pt_d (pt_newa gx96_36 S10 h11 (fun q12 h_12 S12 p12 w12 => ?_))
  have H := H q12 h_12 S12 p12 w12
  refine pt_d (pt_putRs (B := 8) gx96_38 S12 hq0 (fun h_13 S13 e13 K13 => ?_))
  refine pt_d (pt_1 (fun n d => r_aloadn gx96_41 rfl) ?_)
  refine pt_d (pt_bipush gx96_42 (fun v14 h14 => ?_))
  have H := H h_13 S13 (by rw [e13]) K13
  refine pt_d (pt_newa gx96_44 S13 h14 (fun q15 h_15 S15 p15 w15 => ?_))
  have H := H q15 h_15 S15 p15 w15
  refine pt_d (pt_putRs (B := 9) gx96_46 S15 hq0 (fun h_16 S16 e16 K16 => ?_))
  refine pt_d (pt_1 (fun n d => r_aloadn gx96_49 rfl) ?_)
  refine pt_d (pt_sipush gx96_50 (fun v17 h17 => ?_))
  have H := H h_16 S16 (by rw [e16]) K16
  refine pt_d (pt_newa gx96_53 S16 h17 (fun q18 h_18 S18 p18 w18 => ?_))
  have H := H q18 h_18 S18 p18 w18
  refine pt_d (pt_putRs (B := 10) gx96_55 S18 hq0 (fun h_19 S19 e19 K19 => ?_))
  refine pt_d (pt_1 (fun n d => r_aloadn gx96_58 rfl) ?_)
  refine pt_d (pt_sipush gx96_59 (fun v20 h20 => ?_))
  have H := H h_19 S19 (by rw [e19]) K19
  refine pt_d (pt_newa gx96_62 S19 h20 (fun q21 h_21 S21 p21 w21 => ?_))
  have H := H q21 h_21 S21 p21 w21
  refine pt_d (pt_putRs (B := 11) gx96_64 S21 hq0 (fun h_22 S22 e22 K22 => ?_))
  refine pt_d (pt_1 (fun n d => r_aloadn gx96_67 rfl) ?_)
  refine pt_d (pt_sipush gx96_68 (fun v23 h23 => ?_))
  have H := H h_22 S22 (by rw [e22]) K22
  refine pt_d (pt_newa gx96_71 S22 h23 (fun q24 h_24 S24 p24 w24 => ?_))
  have H := H q24 h_24 S24 p24 w24
  refine pt_d (pt_putRs (B := 12) gx96_73 S24 hq0 (fun h_25 S25 e25 K25 => ?_))
  refine pt_d (pt_1 (fun n d => r_aloadn gx96_76 rfl) ?_)
  refine pt_d (pt_1 (fun n d => r_aloadn gx96_77 rfl) ?_)
  refine pt_d (pt_putRs (B := 0) gx96_78 S25 hq0 (fun h_26 S26 e26 K26 => ?_))
  refine pt_d (pt_1 (fun n d => r_aloadn gx96_81 rfl) ?_)
  refine pt_d (pt_1 (fun n d => r_aloadn gx96_82 rfl) ?_)
  refine pt_d (pt_putRs (B := 1) gx96_83 S26 hq0 (fun h_27 S27 e27 K27 => ?_))
  refine pt_d (pt_1 (fun n d => r_aloadn gx96_86 rfl) ?_)
  refine pt_d (pt_1 (fun n d => r_iloadn gx96_87 rfl) ?_)
  refine pt_d (pt_putIs (B := 2) gx96_88 S27 hq0 z3 (fun h_28 S28 e28 K28 => ?_))
  have H := H h_28 S28 (by rw [e28, e27, e26, e25]) (hs_t (hs_t (hs_t K25 K26) K27) K28)
  exact pt_d (pt_vret gx96_91 ⟨rfl, H⟩)
def ini (h : aH) (q : Nat) (y : Int) (h' : aH) : Prop := hk h h' ∧ h'.1.length = h.1.length + 7 ∧ (∀ (c : Nat) j, c ≠ q → vw h' c j = vw h c j) ∧ (vw h' q 0 = ((1 : Nat) : Int) ∧ vw h' q 1 = ((16 : Nat) : Int) ∧ vw h' q 2 = y ∧ vw h' q 3 = -1 ∧ vw h' q 4 = -1) ∧ (vw h' q 6 = ((h.1.length : Nat) : Int) ∧ vw h' q 7 = ((h.1.length + 1 : Nat) : Int) ∧ vw h' q 8 = ((h.1.length + 2 : Nat) : Int) ∧ vw h' q 9 = ((h.1.length + 3 : Nat) : Int) ∧ vw h' q 10 = ((h.1.length + 4 : Nat) : Int) ∧ vw h' q 11 = ((h.1.length + 5 : Nat) : Int) ∧ vw h' q 12 = ((h.1.length + 6 : Nat) : Int)) ∧ (∃ t y, h'.1[h.1.length + 1]? = some (.inl (t, 300, y))) ∧ (∃ t y, h'.1[h.1.length + 4]? = some (.inl (t, 150, y))) ∧ (∃ t y, h'.1[h.1.length + 5]? = some (.inl (t, 150, y))) ∧ (∃ t y, h'.1[h.1.length + 6]? = some (.inl (t, 150, y)))
theorem kd_k {h h' : aH} {c N : Nat} (K : hk h h') (e : ∃ t y, h.1[c]? = some (.inl (t, N, y))) : ∃ t y, h'.1[c]? = some (.inl (t, N, y)) := by
  obtain ⟨t, y, e⟩ := e
  obtain ⟨y', e'⟩ := K c t N y e
  exact ⟨t, y', e'⟩
theorem c_96 {n : Nat} {X : aX} {h : aH} {x3 : Int32} {a3 : Int} {q0 : Nat} (S : wS h) (z3 : x3.toInt = a3) (hq0 : 146 ≤ q0) : Pt n X zM96 0 [some (.ref q0), some (.ref 1), some (.ref 16), some (.int x3)] [] h (qN (fun h' => wS h' ∧ ini h q0 a3 h')) := by
  refine pt_d (d96_0 S z3 hq0 ?_)
  intro h1 S1 e1 K1 p1 g1 T1 _ w1 h2 S2 e2 K2 p2 g2 T2 _ w2 h3 S3 e3 K3 p3 g3 T3 _ w3 h4 S4 e4 K4 p4 g4 T4 _ w4 h5 S5 e5 K5 p5 g5 T5 _ w5 h6 S6 e6 K6 p6 g6 T6 _ w6 h7 S7 e7 K7 p7 g7 T7 _ w7 h8 S8 e8 K8
  have l1 := K1.1
  have l2 := nwI_len w1
  have l3 := K2.1
  have l4 := nwI_len w2
  have l5 := K3.1
  have l6 := nwI_len w3
  have l7 := K4.1
  have l8 := nwI_len w4
  have l9 := K5.1
  have l10 := nwI_len w5
  have l11 := K6.1
  have l12 := nwI_len w6
  have l13 := K7.1
  have l14 := nwI_len w7
  have l15 := K8.1
  have q1 : p1 = h.1.length := by have := w1.1; omega
  have q2 : p2 = h.1.length + 1 := by have := w2.1; omega
  have q3 : p3 = h.1.length + 2 := by have := w3.1; omega
  have q4 : p4 = h.1.length + 3 := by have := w4.1; omega
  have q5 : p5 = h.1.length + 4 := by have := w5.1; omega
  have q6 : p6 = h.1.length + 5 := by have := w6.1; omega
  have q7 : p7 = h.1.length + 6 := by have := w7.1; omega
  have k7 : hk g7 h8 := K8.2
  have k6 : hk g6 h8 := hk_t (hk_t K7.2 (nwI_hk w7)) k7
  have k5 : hk g5 h8 := hk_t (hk_t K6.2 (nwI_hk w6)) k6
  have k4 : hk g4 h8 := hk_t (hk_t K5.2 (nwI_hk w5)) k5
  have k3 : hk g3 h8 := hk_t (hk_t K4.2 (nwI_hk w4)) k4
  have k2 : hk g2 h8 := hk_t (hk_t K3.2 (nwI_hk w3)) k3
  have k1 : hk g1 h8 := hk_t (hk_t K2.2 (nwI_hk w2)) k2
  have k0 : hk h h8 := hk_t (hk_t K1.2 (nwI_hk w1)) k1
  have v : vw h8 = up (up (up (up (up (up (up (up (up (up (up (up (vw h) q0 3 (-1)) q0 4 (-1)) q0 6 ((p1 : Nat) : Int)) q0 7 ((p2 : Nat) : Int)) q0 8 ((p3 : Nat) : Int)) q0 9 ((p4 : Nat) : Int)) q0 10 ((p5 : Nat) : Int)) q0 11 ((p6 : Nat) : Int)) q0 12 ((p7 : Nat) : Int)) q0 0 ((1 : Nat) : Int)) q0 1 ((16 : Nat) : Int)) q0 2 a3 := by
    rw [e8, nwI_vw w7, e7, nwI_vw w6, e6, nwI_vw w5, e5, nwI_vw w4, e4, nwI_vw w3, e3, nwI_vw w2, e2, nwI_vw w1, e1]
  subst q1 q2 q3 q4 q5 q6 q7
  refine ⟨S8, k0, by omega, fun c j n => ?_, ⟨?_, ?_, ?_, ?_, ?_⟩, ⟨?_, ?_, ?_, ?_, ?_, ?_, ?_⟩, ?_, ?_, ?_, ?_⟩
  · rw [v]
    iterate 12 rw [up_c n]
  · rw [v, up_j (by decide), up_j (by decide), up_s]
  · rw [v, up_j (by decide), up_s]
  · rw [v, up_s]
  · rw [v]
    iterate 10 rw [up_j (by decide)]
    rw [up_j (by decide), up_s]
  · rw [v]
    iterate 10 rw [up_j (by decide)]
    rw [up_s]
  · rw [v]
    iterate 9 rw [up_j (by decide)]
    rw [up_s]
  · rw [v]
    iterate 8 rw [up_j (by decide)]
    rw [up_s]
  · rw [v]
    iterate 7 rw [up_j (by decide)]
    rw [up_s]
  · rw [v]
    iterate 6 rw [up_j (by decide)]
    rw [up_s]
  · rw [v]
    iterate 5 rw [up_j (by decide)]
    rw [up_s]
  · rw [v]
    iterate 4 rw [up_j (by decide)]
    rw [up_s]
  · rw [v]
    iterate 3 rw [up_j (by decide)]
    rw [up_s]
  · exact kd_k k2 ⟨0, nwI_k w2⟩
  · exact kd_k k5 ⟨0, nwI_k w5⟩
  · exact kd_k k6 ⟨0, nwI_k w6⟩
  · exact kd_k k7 ⟨0, nwI_k w7⟩
theorem c_97p {n : Nat} {X : aX} {h : aH} {x1 x2 : Int32} {a1 a2 : Int} {q0 : Nat} (S : wS h) (z1 : x1.toInt = a1) (z2 : x2.toInt = a2) (hp : 146 ≤ q0 ∧ pre97 h q0) : Pt n X zM97 0 [some (.ref q0), some (.int x1), some (.int x2), none] [] h (qN (fun h' => wS h' ∧ hk h h' ∧ R97 (vw h) q0 a1 a2 (vw h'))) := c_97 S z1 z2 hp.1 hp.2
end
section
-- ===== seasons: the class makes =====
theorem d1_0 {n : Nat} {X : aX} {h : aH} {P : Nat → aH → Prop} {x1 x2 : Int32} {a1 a2 : Int} (S : wS h) (z1 : x1.toInt = a1) (z2 : x2.toInt = a2) (H : ((0 ≤ a1 → a1 < 10 → vw h 42 a1 = -1 → ∀ (q17 : Nat) (h_17 : aH), wS h_17 → nwO h q17 h_17 → ((146 ≤ q17) ∧ ∀ (h_20 : aH), (wS h_20 ∧ ini h_17 q17 a1 h_20) → ∀ h_22 : aH, wS h_22 → 0 ≤ a1 → a1 < 10 → vw h_22 = up (vw h_20) 42 a1 (q17 : Int) → (∀ c, c ≠ 42 → h_22.1[c]? = h_20.1[c]?) → ((vw h_22 q17 3 ≠ a2 → ((146 ≤ q17 ∧ pre97 h_22 q17) ∧ ∀ (h_25 : aH), (wS h_25 ∧ hk h_22 h_25 ∧ R97 (vw h_22) q17 a2 (w32 ((w32 ((w32 ((w32 ((vw h 1 1) + (vw h 1 5))) + (vw h 16 1))) + (vw h 16 2))) + (vw h 16 3))) (vw h_25)) → P q17 h_25)) ∧ (vw h_22 q17 3 = a2 → ((vw h_22 q17 4 = w32 ((w32 ((w32 ((w32 ((vw h 1 1) + (vw h 1 5))) + (vw h 16 1))) + (vw h 16 2))) + (vw h 16 3)) → P q17 h_22) ∧ (vw h_22 q17 4 ≠ w32 ((w32 ((w32 ((w32 ((vw h 1 1) + (vw h 1 5))) + (vw h 16 1))) + (vw h 16 2))) + (vw h 16 3)) → ((146 ≤ q17 ∧ pre97 h_22 q17) ∧ ∀ (h_28 : aH), (wS h_28 ∧ hk h_22 h_28 ∧ R97 (vw h_22) q17 a2 (w32 ((w32 ((w32 ((w32 ((vw h 1 1) + (vw h 1 5))) + (vw h 16 1))) + (vw h 16 2))) + (vw h 16 3))) (vw h_28)) → P q17 h_28))))))) ∧ (∀ q16 : Nat, 0 ≤ a1 → a1 < 10 → (q16 : Int) = vw h 42 a1 → ((vw h q16 3 ≠ a2 → ((146 ≤ q16 ∧ pre97 h q16) ∧ ∀ (h_31 : aH), (wS h_31 ∧ hk h h_31 ∧ R97 (vw h) q16 a2 (w32 ((w32 ((w32 ((w32 ((vw h 1 1) + (vw h 1 5))) + (vw h 16 1))) + (vw h 16 2))) + (vw h 16 3))) (vw h_31)) → P q16 h_31)) ∧ (vw h q16 3 = a2 → ((vw h q16 4 = w32 ((w32 ((w32 ((w32 ((vw h 1 1) + (vw h 1 5))) + (vw h 16 1))) + (vw h 16 2))) + (vw h 16 3)) → P q16 h) ∧ (vw h q16 4 ≠ w32 ((w32 ((w32 ((w32 ((vw h 1 1) + (vw h 1 5))) + (vw h 16 1))) + (vw h 16 2))) + (vw h 16 3)) → ((146 ≤ q16 ∧ pre97 h q16) ∧ ∀ (h_34 : aH), (wS h_34 ∧ hk h h_34 ∧ R97 (vw h) q16 a2 (w32 ((w32 ((w32 ((w32 ((vw h 1 1) + (vw h 1 5))) + (vw h 16 1))) + (vw h 16 2))) + (vw h 16 3))) (vw h_34)) → P q16 h_34)))))))) : Pt (n + 1) X zM1 0 [some (.ref 41), some (.int x1), some (.int x2), none, none] [] h (qR P) := by
  refine pt_1 (fun n d => r_aloadn gx1_0 rfl) ?_
  refine pt_d (pt_getR gx1_1 S tr_41_0 ?_)
  refine pt_d (pt_getI (B := 1) gx1_4 S (fun v2 h2 => ?_))
  refine pt_d (pt_1 (fun n d => r_aloadn gx1_7 rfl) ?_)
  refine pt_d (pt_getR gx1_8 S tr_41_0 ?_)
  refine pt_d (pt_getI (B := 5) gx1_11 S (fun v4 h4 => ?_))
  refine pt_d (pt_iadd gx1_14 h2 h4 (fun v5 h5 => ?_))
  refine pt_d (pt_1 (fun n d => r_aloadn gx1_15 rfl) ?_)
  refine pt_d (pt_getR gx1_16 S tr_41_1 ?_)
  refine pt_d (pt_getI (B := 1) gx1_19 S (fun v7 h7 => ?_))
  refine pt_d (pt_iadd gx1_22 h5 h7 (fun v8 h8 => ?_))
  refine pt_d (pt_1 (fun n d => r_aloadn gx1_23 rfl) ?_)
  refine pt_d (pt_getR gx1_24 S tr_41_1 ?_)
  refine pt_d (pt_getI (B := 2) gx1_27 S (fun v10 h10 => ?_))
  refine pt_d (pt_iadd gx1_30 h8 h10 (fun v11 h11 => ?_))
  refine pt_d (pt_1 (fun n d => r_aloadn gx1_31 rfl) ?_)
  refine pt_d (pt_getR gx1_32 S tr_41_1 ?_)
  refine pt_d (pt_getI (B := 3) gx1_35 S (fun v13 h13 => ?_))
  refine pt_d (pt_iadd gx1_38 h11 h13 (fun v14 h14 => ?_))
  refine pt_d (pt_1 (fun n d => r_istoren (L' := [some (.ref 41), some (.int x1), some (.int x2), some (.int v14), none]) gx1_39 rfl rfl) ?_)
  refine pt_d (pt_1 (fun n d => r_aloadn gx1_40 rfl) ?_)
  refine pt_d (pt_getR gx1_41 S tr_41_3 ?_)
  refine pt_d (pt_1 (fun n d => r_iloadn gx1_44 rfl) ?_)
  refine pt_d (pt_aaldB (N' := 10) gx1_45 S tl_42 z1 (fun p16 r16 k16 => ?_) (fun q16 p16 r16 k16 => ?_))
  · have H := H.1 p16 r16 k16
    refine pt_d (pt_1 (fun n d => r_astoreN (L' := [some (.ref 41), some (.int x1), some (.int x2), some (.int v14), some (.null)]) gx1_46 rfl rfl) ?_)
    refine pt_d (pt_1 (fun n d => r_aloadN gx1_48 rfl) ?_)
    refine pt_d (pt_1 (fun n d => r_ifnonnull_n gx1_50) ?_)
    refine pt_d (pt_newO gx1_53 S (fun q17 h_17 S17 w17 => ?_))
    have H := H q17 h_17 S17 w17
    refine pt_d (pt_1 (fun n d => r_dup gx1_56 rfl) ?_)
    refine pt_d (pt_1 (fun n d => r_aloadn gx1_57 rfl) ?_)
    refine pt_d (pt_getR gx1_58 S17 tr_41_0 ?_)
    refine pt_d (pt_1 (fun n d => r_aloadn gx1_61 rfl) ?_)
    refine pt_d (pt_getR gx1_62 S17 tr_41_1 ?_)
    refine pt_d (pt_1 (fun n d => r_iloadn gx1_65 rfl) ?_)
    obtain ⟨pr20, H⟩ := H
    refine pt_d (pt_init (as := [.ref 1, .ref 16, .int x1]) (r := [.ref q17]) gx1_66 rfl (show zmt[96]? = some zM96 from rfl) rfl rfl rfl rfl (c_96 S17 z1 pr20) (kqN (fun h_20 P20 => ?_)))
    have S20 := P20.1
    have H := H h_20 P20
    show Pt _ _ _ 69 _ [.ref q17] _ _
    refine pt_d (pt_1 (fun n d => r_astore (L' := [some (.ref 41), some (.int x1), some (.int x2), some (.int v14), some (.ref q17)]) gx1_69 rfl rfl) ?_)
    refine pt_d (pt_1 (fun n d => r_aloadn gx1_71 rfl) ?_)
    refine pt_d (pt_getR gx1_72 S20 tr_41_3 ?_)
    refine pt_d (pt_1 (fun n d => r_iloadn gx1_75 rfl) ?_)
    refine pt_d (pt_1 (fun n d => r_aload gx1_76 rfl) ?_)
    refine pt_d (pt_aastO (N' := 10) gx1_78 S20 tl_42 z1 (fun h_22 S22 p22 r22 e22 w22 => ?_))
    have H := H h_22 S22 p22 r22 e22 w22
    refine pt_d (pt_1 (fun n d => r_aload gx1_79 rfl) ?_)
    refine pt_d (pt_getI (B := 3) gx1_81 S22 (fun v23 h23 => ?_))
    refine pt_d (pt_1 (fun n d => r_iloadn gx1_84 rfl) ?_)
    refine pt_d (pt_icmp_ne gx1_85 h23 z2 (fun e24 => ?_) (fun e24 => ?_))
    · have H := H.1 e24
      refine pt_d (pt_1 (fun n d => r_aload gx1_97 rfl) ?_)
      refine pt_d (pt_1 (fun n d => r_iloadn gx1_99 rfl) ?_)
      refine pt_d (pt_1 (fun n d => r_iloadn gx1_100 rfl) ?_)
      obtain ⟨pr25, H⟩ := H
      refine pt_d (pt_virt (as := [.int x2, .int v14]) (r := []) gx1_101 rfl (show zmt[97]? = some zM97 from rfl) rfl rfl rfl rfl (c_97p S22 z2 h14 pr25) (kqN (fun h_25 P25 => ?_)))
      have S25 := P25.1
      have H := H h_25 P25
      show Pt _ _ _ 104 _ [] _ _
      refine pt_d (pt_1 (fun n d => r_aload gx1_104 rfl) ?_)
      exact pt_d (pt_aret gx1_106 ⟨_, rfl, H⟩)
    · have H := H.2 e24
      refine pt_d (pt_1 (fun n d => r_aload gx1_88 rfl) ?_)
      refine pt_d (pt_getI (B := 4) gx1_90 S22 (fun v26 h26 => ?_))
      refine pt_d (pt_1 (fun n d => r_iloadn gx1_93 rfl) ?_)
      refine pt_d (pt_icmp_eq gx1_94 h26 h14 (fun e27 => ?_) (fun e27 => ?_))
      · have H := H.1 e27
        refine pt_d (pt_1 (fun n d => r_aload gx1_104 rfl) ?_)
        exact pt_d (pt_aret gx1_106 ⟨_, rfl, H⟩)
      · have H := H.2 e27
        refine pt_d (pt_1 (fun n d => r_aload gx1_97 rfl) ?_)
        refine pt_d (pt_1 (fun n d => r_iloadn gx1_99 rfl) ?_)
        refine pt_d (pt_1 (fun n d => r_iloadn gx1_100 rfl) ?_)
        obtain ⟨pr28, H⟩ := H
        refine pt_d (pt_virt (as := [.int x2, .int v14]) (r := []) gx1_101 rfl (show zmt[97]? = some zM97 from rfl) rfl rfl rfl rfl (c_97p S22 z2 h14 pr28) (kqN (fun h_28 P28 => ?_)))
        have S28 := P28.1
        have H := H h_28 P28
        show Pt _ _ _ 104 _ [] _ _
        refine pt_d (pt_1 (fun n d => r_aload gx1_104 rfl) ?_)
        exact pt_d (pt_aret gx1_106 ⟨_, rfl, H⟩)
  · have H := H.2 q16 p16 r16 k16
    refine pt_d (pt_1 (fun n d => r_astore (L' := [some (.ref 41), some (.int x1), some (.int x2), some (.int v14), some (.ref q16)]) gx1_46 rfl rfl) ?_)
    refine pt_d (pt_1 (fun n d => r_aload gx1_48 rfl) ?_)
    refine pt_d (pt_1 (fun n d => r_ifnonnull_r gx1_50) ?_)
    refine pt_d (pt_1 (fun n d => r_aload gx1_79 rfl) ?_)
    refine pt_d (pt_getI (B := 3) gx1_81 S (fun v29 h29 => ?_))
    refine pt_d (pt_1 (fun n d => r_iloadn gx1_84 rfl) ?_)
    refine pt_d (pt_icmp_ne gx1_85 h29 z2 (fun e30 => ?_) (fun e30 => ?_))
    · have H := H.1 e30
      refine pt_d (pt_1 (fun n d => r_aload gx1_97 rfl) ?_)
      refine pt_d (pt_1 (fun n d => r_iloadn gx1_99 rfl) ?_)
      refine pt_d (pt_1 (fun n d => r_iloadn gx1_100 rfl) ?_)
      obtain ⟨pr31, H⟩ := H
      refine pt_d (pt_virt (as := [.int x2, .int v14]) (r := []) gx1_101 rfl (show zmt[97]? = some zM97 from rfl) rfl rfl rfl rfl (c_97p S z2 h14 pr31) (kqN (fun h_31 P31 => ?_)))
      have S31 := P31.1
      have H := H h_31 P31
      show Pt _ _ _ 104 _ [] _ _
      refine pt_d (pt_1 (fun n d => r_aload gx1_104 rfl) ?_)
      exact pt_d (pt_aret gx1_106 ⟨_, rfl, H⟩)
    · have H := H.2 e30
      refine pt_d (pt_1 (fun n d => r_aload gx1_88 rfl) ?_)
      refine pt_d (pt_getI (B := 4) gx1_90 S (fun v32 h32 => ?_))
      refine pt_d (pt_1 (fun n d => r_iloadn gx1_93 rfl) ?_)
      refine pt_d (pt_icmp_eq gx1_94 h32 h14 (fun e33 => ?_) (fun e33 => ?_))
      · have H := H.1 e33
        refine pt_d (pt_1 (fun n d => r_aload gx1_104 rfl) ?_)
        exact pt_d (pt_aret gx1_106 ⟨_, rfl, H⟩)
      · have H := H.2 e33
        refine pt_d (pt_1 (fun n d => r_aload gx1_97 rfl) ?_)
        refine pt_d (pt_1 (fun n d => r_iloadn gx1_99 rfl) ?_)
        refine pt_d (pt_1 (fun n d => r_iloadn gx1_100 rfl) ?_)
        obtain ⟨pr34, H⟩ := H
        refine pt_d (pt_virt (as := [.int x2, .int v14]) (r := []) gx1_101 rfl (show zmt[97]? = some zM97 from rfl) rfl rfl rfl rfl (c_97p S z2 h14 pr34) (kqN (fun h_34 P34 => ?_)))
        have S34 := P34.1
        have H := H h_34 P34
        show Pt _ _ _ 104 _ [] _ _
        refine pt_d (pt_1 (fun n d => r_aload gx1_104 rfl) ?_)
        exact pt_d (pt_aret gx1_106 ⟨_, rfl, H⟩)
theorem tl_145' : tkL 145 1 60 = true := by decide +kernel
theorem wS_len {h : aH} (S : wS h) : 146 ≤ h.1.length := by
  have e := S.2.2 145 1 60 tl_145'
  unfold tyA at e
  split at e
  · rename_i w
    obtain ⟨l, -⟩ := List.getElem?_eq_some_iff.mp w
    omega
  · cases e
def stm (V : vS) : Int := w32 (w32 (w32 (w32 (V 1 1 + V 1 5) + V 16 1) + V 16 2) + V 16 3)
def pb (V : vS) : Prop := ((0 ≤ V 1 1 ∧ V 1 1 ≤ 150) ∧ 0 ≤ V 1 5 ∧ V 1 5 ≤ 150) ∧ (0 ≤ V 16 1 ∧ V 16 1 ≤ 300) ∧ (∀ p, 0 ≤ p → p < V 16 1 → 0 ≤ V 18 (V 21 p) ∧ V 18 (V 21 p) < 150) ∧ (∀ p p', 0 ≤ p → p ≤ p' → p' < V 16 1 → V 17 (V 21 p) ≤ V 17 (V 21 p')) ∧ (∀ j, 0 ≤ V 8 j ∧ V 8 j < 2147483648) ∧ (0 ≤ V 16 2 ∧ V 16 2 ≤ 40) ∧ 0 ≤ V 16 3 ∧ V 16 3 ≤ 200
def slk (V : vS) (q : Nat) : Prop := V q 0 = ((1 : Nat) : Int) ∧ V q 1 = ((16 : Nat) : Int) ∧ V q 6 = ((q + 1 : Nat) : Int) ∧ sfl V q
def skd (h : aH) (q : Nat) : Prop := (∃ t y, h.1[q + 2]? = some (.inl (t, 300, y))) ∧ (∃ t y, h.1[q + 5]? = some (.inl (t, 150, y))) ∧ (∃ t y, h.1[q + 6]? = some (.inl (t, 150, y))) ∧ (∃ t y, h.1[q + 7]? = some (.inl (t, 150, y)))
theorem skd_k {h h' : aH} {q : Nat} (K : hk h h') (D : skd h q) : skd h' q := ⟨kd_k K D.1, kd_k K D.2.1, kd_k K D.2.2.1, kd_k K D.2.2.2⟩
theorem pre97_of {h : aH} {q : Nat} (a : slk (vw h) q) (b : skd h q) (c : pb (vw h)) : pre97 h q := ⟨a, b, c.2⟩
theorem pbK_c {V W : vS} (P : pb V) (h : ∀ (c : Nat) j, c < 33 → W c j = V c j) : pb W := by
  unfold pb at P ⊢
  simp only [h 1 _ (by decide), h 16 _ (by decide), h 18 _ (by decide), h 21 _ (by decide), h 17 _ (by decide), h 8 _ (by decide)]
  exact P
theorem stm_v {V : vS} (P : pb V) : stm V = V 1 1 + V 1 5 + V 16 1 + V 16 2 + V 16 3 := by
  obtain ⟨a, b, -, -, -, d, e⟩ := P
  unfold stm
  rw [w32_id (z := V 1 1 + V 1 5) (by omega) (by omega), w32_id (z := V 1 1 + V 1 5 + V 16 1) (by omega) (by omega), w32_id (z := V 1 1 + V 1 5 + V 16 1 + V 16 2) (by omega) (by omega), w32_id (by omega) (by omega)]
theorem stm_0 {V : vS} (P : pb V) : stm V ≠ -1 := by
  rw [stm_v P]
  obtain ⟨a, b, -, -, -, d, e⟩ := P
  omega
theorem slk_c {V W : vS} {q : Nat} (P : slk V q) (h : ∀ j, j ≠ 3 → j ≠ 4 → j ≠ 5 → W q j = V q j) : slk W q := by
  unfold slk sfl at P ⊢
  rw [h 0 (by decide) (by decide) (by decide), h 1 (by decide) (by decide) (by decide), h 6 (by decide) (by decide) (by decide), h 7 (by decide) (by decide) (by decide), h 8 (by decide) (by decide) (by decide), h 9 (by decide) (by decide) (by decide), h 10 (by decide) (by decide) (by decide), h 11 (by decide) (by decide) (by decide), h 12 (by decide) (by decide) (by decide)]
  exact P
def p1 (h : aH) (y : Int) : Prop := pb (vw h) ∧ (0 ≤ y → y < 10 → ∀ q : Nat, (q : Int) = vw h 42 y → 146 ≤ q ∧ slk (vw h) q ∧ vw h q 2 = y ∧ skd h q)
def R1 (h : aH) (y k : Int) (q : Nat) (h' : aH) : Prop := (146 ≤ q ∧ hk h h' ∧ (0 ≤ y ∧ y < 10) ∧ skd h' q) ∧ ((vw h 42 y = (q : Int) ∧ vw h q 3 = k ∧ vw h q 4 = stm (vw h) ∧ h' = h) ∨ ∃ U : vS, R97 U q k (stm (vw h)) (vw h') ∧ (slk U q ∧ U q 2 = y ∧ U 42 y = (q : Int)) ∧ ((vw h 42 y = (q : Int) ∧ U = vw h) ∨ (vw h 42 y = -1 ∧ q = h.1.length ∧ ∀ (c : Nat) j, c ≠ q → (c ≠ 42 ∨ j ≠ y) → U c j = vw h c j)))
theorem c_1 {n : Nat} {X : aX} {h : aH} {x1 x2 : Int32} {a1 a2 : Int} (S : wS h) (z1 : x1.toInt = a1) (z2 : x2.toInt = a2) (hp : p1 h a1) : Pt n X zM1 0 [some (.ref 41), some (.int x1), some (.int x2), none, none] [] h (qR (fun q h' => wS h' ∧ R1 h a1 a2 q h')) := by
  refine pt_d (d1_0 S z1 z2 ⟨fun p0 p9 e0 q g1 S1 w1 => ?_, fun q p0 p9 e0 => ?_⟩)
  · have hq : 146 ≤ q := by
      have := wS_len S
      have := w1.1
      omega
    refine ⟨hq, fun g2 I g3 S3 _ _ e3 c3 => ?_⟩
    obtain ⟨S2, K2, -, f2, ⟨i0, i1, i2, i3, i4⟩, ⟨i6, i7, i8, i9, i10, i11, i12⟩, d2, d5, d6, d7⟩ := I
    have el : g1.1.length = q + 1 := by
      have := w1.1
      have := w1.2.2
      omega
    rw [el] at i6 i7 i8 i9 i10 i11 i12 d2 d5 d6 d7
    have eU : ∀ (c : Nat) j, c ≠ q → (c ≠ 42 ∨ j ≠ a1) → vw g3 c j = vw h c j := fun c j n z => by
      rw [e3]
      rcases z with z | z
      · rw [up_c z, f2 c j n, nwO_vw w1 n]
      · rw [up_j z, f2 c j n, nwO_vw w1 n]
    have eq : ∀ j, vw g3 q j = vw g2 q j := fun j => by rw [e3, up_c (by omega)]
    have B : pb (vw g3) := pbK_c hp.1 (fun c j z => eU c j (by omega) (Or.inl (by omega)))
    have L : slk (vw g3) q := ⟨(eq 0).trans i0, (eq 1).trans i1, (eq 6).trans i6, (eq 7).trans i7, (eq 8).trans i8, (eq 9).trans i9, (eq 10).trans i10, (eq 11).trans i11, (eq 12).trans i12⟩
    have D : skd g3 q := ⟨by rw [c3 _ (by omega)]; exact d2, by rw [c3 _ (by omega)]; exact d5, by rw [c3 _ (by omega)]; exact d6, by rw [c3 _ (by omega)]; exact d7⟩
    have K3 : hk h g3 := fun c t N y e => by
      obtain ⟨y', e'⟩ := hk_t (nwO_hk w1) K2 c t N y e
      by_cases z : c = 42
      · subst z
        have k1 := S2.2.2 42 4 10 (by decide +kernel)
        have k2 := S3.2.2 42 4 10 (by decide +kernel)
        unfold tyA at k1 k2
        rw [e'] at k1
        cases k1
        split at k2
        · rename_i w
          cases k2
          exact ⟨_, w⟩
        · cases k2
      · exact ⟨y', (c3 c z).trans e'⟩
    have e42 : vw g3 42 a1 = (q : Int) := by rw [e3, up_s]
    have es : ∀ g4 : aH, wS g4 ∧ hk g3 g4 ∧ R97 (vw g3) q a2 (stm (vw h)) (vw g4) → wS g4 ∧ R1 h a1 a2 q g4 := fun g4 R => ⟨R.1, ⟨hq, hk_t K3 R.2.1, ⟨p0, p9⟩, skd_k R.2.1 D⟩, Or.inr ⟨vw g3, R.2.2, ⟨L, (eq 2).trans i2, e42⟩, Or.inr ⟨e0, w1.1, eU⟩⟩⟩
    refine ⟨fun _ => ⟨⟨hq, pre97_of L D B⟩, fun g4 R => es g4 R⟩, fun e => ⟨fun e4 => ?_, fun _ => ⟨⟨hq, pre97_of L D B⟩, fun g4 R => es g4 R⟩⟩⟩
    exfalso
    rw [eq 4, i4] at e4
    have := stm_0 hp.1
    exact this e4.symm
  · obtain ⟨hq, L, y2, D⟩ := hp.2 p0 p9 q e0
    have es : ∀ g4 : aH, wS g4 ∧ hk h g4 ∧ R97 (vw h) q a2 (stm (vw h)) (vw g4) → wS g4 ∧ R1 h a1 a2 q g4 := fun g4 R => ⟨R.1, ⟨hq, R.2.1, ⟨p0, p9⟩, skd_k R.2.1 D⟩, Or.inr ⟨vw h, R.2.2, ⟨L, y2, e0.symm⟩, Or.inl ⟨e0.symm, rfl⟩⟩⟩
    exact ⟨fun _ => ⟨⟨hq, pre97_of L D hp.1⟩, fun g4 R => es g4 R⟩, fun e => ⟨fun e4 => ⟨S, ⟨hq, hk_r h, ⟨p0, p9⟩, D⟩, Or.inl ⟨e0.symm, e, e4, rfl⟩⟩, fun _ => ⟨⟨hq, pre97_of L D hp.1⟩, fun g4 R => es g4 R⟩⟩⟩
end
section
-- ===== seasons: the class makes =====
theorem d98_0 {n : Nat} {X : aX} {h : aH} {P : Int → aH → Prop} {x1 x2 : Int32} {a1 a2 : Int} {q0 : Nat} (S : wS h) (z1 : x1.toInt = a1) (z2 : x2.toInt = a2) (H : (∀ (w3 : Int32), w3.toInt = 0 → Pt n X zM98 2 [some (.ref q0), some (.int x1), some (.int x2), some (.int w3)] [] h (qI P))) : Pt (n + 1) X zM98 0 [some (.ref q0), some (.int x1), some (.int x2), none] [] h (qI P) := by
  refine pt_iconst gx98_0 (fun v1 h1 => ?_)
  refine pt_d (pt_1 (fun n d => r_istoren (L' := [some (.ref q0), some (.int x1), some (.int x2), some (.int v1)]) gx98_1 rfl rfl) ?_)
  exact H v1 h1
theorem d98_2 {n : Nat} {X : aX} {h : aH} {P : Int → aH → Prop} {x1 x2 x3 : Int32} {a1 a2 a3 : Int} {q0 : Nat} (S : wS h) (z1 : x1.toInt = a1) (z2 : x2.toInt = a2) (z3 : x3.toInt = a3) (H : ((vw h q0 5 ≤ a3 → P (-1) h) ∧ (a3 < vw h q0 5 → ((vw h q0 1 = ((16 : Nat) : Int) ∧ vw h q0 6 = ((q0 + 1 : Nat) : Int)) ∧ (((vw h) 17 ((vw h) (q0 + 1) a3) ≠ a1 → (∀ (w3 : Int32), w3.toInt = w32 (a3 + 1) → Pt n X zM98 2 [some (.ref q0), some (.int x1), some (.int x2), some (.int w3)] [] h (qI P))) ∧ ((vw h) 17 ((vw h) (q0 + 1) a3) = a1 → ((vw h q0 1 = ((16 : Nat) : Int) ∧ vw h q0 6 = ((q0 + 1 : Nat) : Int)) ∧ (((vw h) 18 ((vw h) (q0 + 1) a3) ≠ a2 → (∀ (w3 : Int32), w3.toInt = w32 (a3 + 1) → Pt n X zM98 2 [some (.ref q0), some (.int x1), some (.int x2), some (.int w3)] [] h (qI P))) ∧ ((vw h) 18 ((vw h) (q0 + 1) a3) = a2 → P a3 h))))))))) : Pt (n + 1) X zM98 2 [some (.ref q0), some (.int x1), some (.int x2), some (.int x3)] [] h (qI P) := by
  refine pt_1 (fun n d => r_iloadn gx98_2 rfl) ?_
  refine pt_d (pt_1 (fun n d => r_aloadn gx98_3 rfl) ?_)
  refine pt_d (pt_getI (B := 5) gx98_4 S (fun v1 h1 => ?_))
  refine pt_d (pt_icmp_ge gx98_7 z3 h1 (fun e2 => ?_) (fun e2 => ?_))
  · have H := H.1 e2
    refine pt_d (pt_iconst gx98_36 (fun v3 h3 => ?_))
    exact pt_d (pt_iret gx98_37 ⟨_, rfl, by rw [h3]; exact H⟩)
  · have H := H.2 e2
    refine pt_d (pt_1 (fun n d => r_aloadn gx98_10 rfl) ?_)
    refine pt_d (pt_1 (fun n d => r_iloadn gx98_11 rfl) ?_)
    obtain ⟨pr4, H⟩ := H
    refine pt_d (pt_virt (as := [.int x3]) (r := []) gx98_12 rfl (show zmt[100]? = some zM100 from rfl) rfl rfl rfl rfl (c_100 S z3 pr4) (kqP (fun v4 h4 => ?_)))
    show Pt _ _ _ 15 _ [.int v4] _ _
    refine pt_d (pt_1 (fun n d => r_iloadn gx98_15 rfl) ?_)
    refine pt_d (pt_icmp_ne gx98_16 h4 z1 (fun e5 => ?_) (fun e5 => ?_))
    · have H := H.1 e5
      refine pt_d (pt_iinc (c := 1) gx98_30 rfl z3 (fun v6 h6 => ?_))
      show Pt _ _ _ _ [some (.ref q0), some (.int x1), some (.int x2), some (.int v6)] [] _ _
      refine pt_d (pt_1 (fun n d => r_goto gx98_33) ?_)
      exact H v6 h6
    · have H := H.2 e5
      refine pt_d (pt_1 (fun n d => r_aloadn gx98_19 rfl) ?_)
      refine pt_d (pt_1 (fun n d => r_iloadn gx98_20 rfl) ?_)
      obtain ⟨pr7, H⟩ := H
      refine pt_d (pt_virt (as := [.int x3]) (r := []) gx98_21 rfl (show zmt[101]? = some zM101 from rfl) rfl rfl rfl rfl (c_101 S z3 pr7) (kqP (fun v7 h7 => ?_)))
      show Pt _ _ _ 24 _ [.int v7] _ _
      refine pt_d (pt_1 (fun n d => r_iloadn gx98_24 rfl) ?_)
      refine pt_d (pt_icmp_ne gx98_25 h7 z2 (fun e8 => ?_) (fun e8 => ?_))
      · have H := H.1 e8
        refine pt_d (pt_iinc (c := 1) gx98_30 rfl z3 (fun v9 h9 => ?_))
        show Pt _ _ _ _ [some (.ref q0), some (.int x1), some (.int x2), some (.int v9)] [] _ _
        refine pt_d (pt_1 (fun n d => r_goto gx98_33) ?_)
        exact H v9 h9
      · have H := H.2 e8
        refine pt_d (pt_1 (fun n d => r_iloadn gx98_28 rfl) ?_)
        exact pt_d (pt_iret gx98_29 ⟨_, rfl, by rw [z3]; exact H⟩)
def plc (V : vS) (q : Nat) (f b r : Int) : Prop := (r = -1 ∧ ∀ i, 0 ≤ i → i < V q 5 → ¬ (fmA V (q + 1) i = f ∧ fdA V (q + 1) i = b)) ∨ ((0 ≤ r ∧ r < V q 5) ∧ fmA V (q + 1) r = f ∧ fdA V (q + 1) r = b)
theorem l_98 {X : aX} {h : aH} {f b : Int} {q0 : Nat} (S : wS h) (k1 : vw h q0 1 = ((16 : Nat) : Int)) (k6 : vw h q0 6 = ((q0 + 1 : Nat) : Int)) (hN : vw h q0 5 ≤ 300) : ∀ (n : Nat) (x1 x2 x3 : Int32) (i : Int), x1.toInt = f → x2.toInt = b → x3.toInt = i → 0 ≤ i → (∀ i', 0 ≤ i' → i' < i → ¬ (fmA (vw h) (q0 + 1) i' = f ∧ fdA (vw h) (q0 + 1) i' = b)) → Pt n X zM98 2 [some (.ref q0), some (.int x1), some (.int x2), some (.int x3)] [] h (qI (fun r h' => wS h' ∧ h' = h ∧ plc (vw h) q0 f b r)) := by
  intro n
  induction n with
  | zero => exact fun _ _ _ _ _ _ _ _ _ => pt_z
  | succ n ih =>
    intro x1 x2 x3 i h1 h2 h3 i0 no
    have next : ∀ w3 : Int32, i < vw h q0 5 → ¬ (fmA (vw h) (q0 + 1) i = f ∧ fdA (vw h) (q0 + 1) i = b) → w3.toInt = w32 (i + 1) → Pt n X zM98 2 [some (.ref q0), some (.int x1), some (.int x2), some (.int w3)] [] h (qI (fun r h' => wS h' ∧ h' = h ∧ plc (vw h) q0 f b r)) := by
      intro w3 lt nl g3
      replace g3 := w_1 g3 (by omega) (by omega)
      refine ih x1 x2 w3 (i + 1) h1 h2 g3 (by omega) (fun i' a z => ?_)
      by_cases w : i' = i
      · rw [w]; exact nl
      · exact no i' a (by omega)
    exact d98_2 S h1 h2 h3 ⟨fun e => ⟨S, rfl, Or.inl ⟨rfl, fun i' a z => no i' a (by omega)⟩⟩, fun e => ⟨⟨k1, k6⟩, fun e2 w3 g3 => next w3 e (fun z => e2 z.1) g3, fun e2 => ⟨⟨k1, k6⟩, fun e3 w3 g3 => next w3 e (fun z => e3 z.2) g3, fun e3 => ⟨S, rfl, Or.inr ⟨⟨i0, e⟩, e2, e3⟩⟩⟩⟩⟩
theorem c_98 {n : Nat} {X : aX} {h : aH} {x1 x2 : Int32} {a1 a2 : Int} {q0 : Nat} (S : wS h) (z1 : x1.toInt = a1) (z2 : x2.toInt = a2) (hp : vw h q0 1 = ((16 : Nat) : Int) ∧ vw h q0 6 = ((q0 + 1 : Nat) : Int) ∧ vw h q0 5 ≤ 300) : Pt n X zM98 0 [some (.ref q0), some (.int x1), some (.int x2), none] [] h (qI (fun r h' => wS h' ∧ h' = h ∧ plc (vw h) q0 a1 a2 r)) :=
  pt_d (d98_0 S z1 z2 (fun w3 g3 => l_98 S hp.1 hp.2.1 hp.2.2 n x1 x2 w3 0 z1 z2 g3 (Int.le_refl _) (fun i' a z => by omega)))
end
section
-- ===== seasons: the class makes =====
theorem d31_0 {n : Nat} {X : aX} {h : aH} {P : Int → aH → Prop} {x1 : Int32} {a1 : Int} (S : wS h) (z1 : x1.toInt = a1) (H : (0 ≤ a1 → a1 < 300 → (0 ≤ vw h 17 a1 → vw h 17 a1 < 150 → ((¬ (0 ≤ (vw h 3 (vw h 17 a1)) ∧ (vw h 3 (vw h 17 a1)) ≤ 3) → P 0 h) ∧ ((0 ≤ (vw h 3 (vw h 17 a1)) ∧ (vw h 3 (vw h 17 a1)) ≤ 3) → (0 ≤ vw h 3 (vw h 17 a1) → vw h 3 (vw h 17 a1) < 4 → P (max 0 (w32 ((iRem (vw h 20 a1) 365) - (vw h 22 (vw h 3 (vw h 17 a1)))))) h)))))) : Pt (n + 1) X zM31 0 [some (.ref 16), some (.int x1), none] [] h (qI P) := by
  refine pt_1 (fun n d => r_aloadn gx31_0 rfl) ?_
  refine pt_d (pt_getR gx31_1 S tr_16_0 ?_)
  refine pt_d (pt_getR gx31_4 S tr_1_8 ?_)
  refine pt_d (pt_1 (fun n d => r_aloadn gx31_7 rfl) ?_)
  refine pt_d (pt_getR gx31_8 S tr_16_4 ?_)
  refine pt_d (pt_1 (fun n d => r_iloadn gx31_11 rfl) ?_)
  refine pt_d (pt_iald (N' := 300) gx31_12 S tl_17 z1 (fun v4 p4 q4 h4 => ?_))
  have H := H p4 q4
  refine pt_d (pt_iald (N' := 150) gx31_13 S tl_3 h4 (fun v5 p5 q5 h5 => ?_))
  have H := H p5 q5
  refine pt_d (pt_1 (fun n d => r_istoren (L' := [some (.ref 16), some (.int x1), some (.int v5)]) gx31_14 rfl rfl) ?_)
  refine pt_d (pt_1 (fun n d => r_iloadn gx31_15 rfl) ?_)
  refine pt_d (pt_stat (as := [.int v5]) (r := []) gx31_16 rfl (show zmt[140]? = some zM140 from rfl) rfl rfl rfl rfl (c_140 S h5) (kqP (fun v6 h6 => ?_)))
  show Pt _ _ _ 19 _ [.int v6] _ _
  refine pt_d (pt_ifB_eq gx31_19 h6 (fun e7 => ?_) (fun e7 => ?_))
  · have H := H.1 e7
    refine pt_d (pt_iconst gx31_46 (fun v8 h8 => ?_))
    exact pt_d (pt_iret gx31_47 ⟨_, rfl, by rw [h8]; exact H⟩)
  · have H := H.2 e7
    refine pt_d (pt_iconst gx31_22 (fun v9 h9 => ?_))
    refine pt_d (pt_1 (fun n d => r_aloadn gx31_23 rfl) ?_)
    refine pt_d (pt_getR gx31_24 S tr_16_7 ?_)
    refine pt_d (pt_1 (fun n d => r_iloadn gx31_27 rfl) ?_)
    refine pt_d (pt_iald (N' := 300) gx31_28 S tl_20 z1 (fun v11 p11 q11 h11 => ?_))
    refine pt_d (pt_sipush gx31_29 (fun v12 h12 => ?_))
    refine pt_d (pt_irem gx31_32 h11 h12 (fun v13 h13 => ?_))
    refine pt_d (pt_1 (fun n d => r_aloadn gx31_33 rfl) ?_)
    refine pt_d (pt_getR gx31_34 S tr_16_9 ?_)
    refine pt_d (pt_1 (fun n d => r_iloadn gx31_37 rfl) ?_)
    refine pt_d (pt_iald (N' := 4) gx31_38 S tl_22 h5 (fun v15 p15 q15 h15 => ?_))
    have H := H p15 q15
    refine pt_d (pt_isub gx31_39 h13 h15 (fun v16 h16 => ?_))
    refine pt_d (pt_max gx31_40 rfl h9 h16 (fun v17 h17 => ?_))
    refine pt_d (pt_1 (fun n d => r_goto gx31_43) ?_)
    exact pt_d (pt_iret gx31_47 ⟨_, rfl, by rw [h17]; exact H⟩)
theorem d83_0 {n : Nat} {X : aX} {h : aH} {P : Int → aH → Prop} {x1 : Int32} {a1 : Int} {q2 : Nat} (S : wS h) (z1 : x1.toInt = a1) (H : (∀ (w3 : Int32) (w4 : Int32), w3.toInt = 0 → w4.toInt = 0 → Pt n X zM83 5 [some (.ref 1), some (.int x1), some (.ref q2), some (.int w3), some (.int w4)] [] h (qI P))) : Pt (n + 1) X zM83 0 [some (.ref 1), some (.int x1), some (.ref q2), none, none] [] h (qI P) := by
  refine pt_iconst gx83_0 (fun v1 h1 => ?_)
  refine pt_d (pt_1 (fun n d => r_istoren (L' := [some (.ref 1), some (.int x1), some (.ref q2), some (.int v1), none]) gx83_1 rfl rfl) ?_)
  refine pt_d (pt_iconst gx83_2 (fun v2 h2 => ?_))
  refine pt_d (pt_1 (fun n d => r_istore (L' := [some (.ref 1), some (.int x1), some (.ref q2), some (.int v1), some (.int v2)]) gx83_3 rfl rfl) ?_)
  exact H v1 v2 h1 h2
theorem d83_5 {n : Nat} {X : aX} {h : aH} {P : Int → aH → Prop} {x1 x3 x4 : Int32} {a1 a3 a4 : Int} {q2 : Nat} (S : wS h) (z1 : x1.toInt = a1) (z3 : x3.toInt = a3) (z4 : x4.toInt = a4) (H : ((24 ≤ a4 → P a3 h) ∧ (a4 < 24 → (((0 ≤ a1 ∧ a1 < 150) ∧ 0 ≤ a4 ∧ a4 < 24) ∧ (0 ≤ a4 → (((0 : Int) ≤ (bAnd ((vw h) 8 (24 * a1 + a4)) (vw h q2 a4))) ∧ (∀ (w3 : Int32) (w4 : Int32), w3.toInt = w32 (a3 + (bcn (tb (bAnd ((vw h) 8 (24 * a1 + a4)) (vw h q2 a4))) 32)) → w4.toInt = w32 (a4 + 1) → Pt n X zM83 5 [some (.ref 1), some (.int x1), some (.ref q2), some (.int w3), some (.int w4)] [] h (qI P)))))))) : Pt (n + 1) X zM83 5 [some (.ref 1), some (.int x1), some (.ref q2), some (.int x3), some (.int x4)] [] h (qI P) := by
  refine pt_1 (fun n d => r_iload gx83_5 rfl) ?_
  refine pt_d (pt_bipush gx83_7 (fun v1 h1 => ?_))
  refine pt_d (pt_icmp_ge gx83_9 z4 h1 (fun e2 => ?_) (fun e2 => ?_))
  · have H := H.1 e2
    refine pt_d (pt_1 (fun n d => r_iloadn gx83_36 rfl) ?_)
    exact pt_d (pt_iret gx83_37 ⟨_, rfl, by rw [z3]; exact H⟩)
  · have H := H.2 e2
    refine pt_d (pt_1 (fun n d => r_iloadn gx83_12 rfl) ?_)
    refine pt_d (pt_1 (fun n d => r_aloadn gx83_13 rfl) ?_)
    refine pt_d (pt_1 (fun n d => r_iloadn gx83_14 rfl) ?_)
    refine pt_d (pt_1 (fun n d => r_iload gx83_15 rfl) ?_)
    obtain ⟨pr3, H⟩ := H
    refine pt_d (pt_virt (as := [.int x1, .int x4]) (r := [.int x3]) gx83_17 rfl (show zmt[82]? = some zM82 from rfl) rfl rfl rfl rfl (k_82 S z1 z4 pr3) (kqP (fun v3 h3 => ?_)))
    show Pt _ _ _ 20 _ [.int v3, .int x3] _ _
    refine pt_d (pt_1 (fun n d => r_aloadn gx83_20 rfl) ?_)
    refine pt_d (pt_1 (fun n d => r_iload gx83_21 rfl) ?_)
    refine pt_d (pt_ialdD gx83_23 z4 (fun v4 p4 h4 => ?_))
    have H := H p4
    refine pt_d (pt_iand gx83_24 h3 h4 (fun v5 h5 => ?_))
    obtain ⟨pr6, H⟩ := H
    refine pt_d (pt_stat (as := [.int v5]) (r := [.int x3]) gx83_25 rfl (show zmt[329]? = some zM329 from rfl) rfl rfl rfl rfl (c_329 S h5 pr6) (kqP (fun v6 h6 => ?_)))
    show Pt _ _ _ 28 _ [.int v6, .int x3] _ _
    refine pt_d (pt_iadd gx83_28 z3 h6 (fun v7 h7 => ?_))
    refine pt_d (pt_1 (fun n d => r_istoren (L' := [some (.ref 1), some (.int x1), some (.ref q2), some (.int v7), some (.int x4)]) gx83_29 rfl rfl) ?_)
    refine pt_d (pt_iinc (c := 1) gx83_30 rfl z4 (fun v8 h8 => ?_))
    show Pt _ _ _ _ [some (.ref 1), some (.int x1), some (.ref q2), some (.int v7), some (.int v8)] [] _ _
    refine pt_d (pt_1 (fun n d => r_goto gx83_33) ?_)
    exact H v7 v8 h7 h8
noncomputable def lt1 (V : vS) (c : Int) : Int := @ite Int (0 ≤ V 3 (V 17 c) ∧ V 3 (V 17 c) ≤ 3) (Classical.propDecidable _) (max 0 (w32 (iRem (V 20 c) 365 - V 22 (V 3 (V 17 c))))) 0
theorem c_31 {n : Nat} {X : aX} {h : aH} {x1 : Int32} {a1 : Int} (S : wS h) (z1 : x1.toInt = a1) : Pt n X zM31 0 [some (.ref 16), some (.int x1), none] [] h (qI (fun y h' => h' = h ∧ y = lt1 (vw h) a1)) :=
  pt_d (d31_0 S z1 (fun _ _ _ _ => ⟨fun e => ⟨rfl, (@if_neg _ (Classical.propDecidable _) e _ _ _).symm⟩, fun e _ _ => ⟨rfl, (@if_pos _ (Classical.propDecidable _) e _ _ _).symm⟩⟩))
def R34 (V : vS) (f b y m r : Int) (W : vS) : Prop := (200 ≤ V 16 3 ∧ r = V 16 3 ∧ W = V) ∨ (V 16 3 < 200 ∧ r = w32 (V 16 3 + 1) ∧ W = up (up (up (up (up (up V 27 (V 16 3) f) 28 (V 16 3) b) 29 (V 16 3) y) 30 (V 16 3) m) 31 (V 16 3) (V 1 0)) 16 3 (w32 (V 16 3 + 1)))
theorem c_34 {n : Nat} {X : aX} {h : aH} {x1 x2 x3 x4 : Int32} {a1 a2 a3 a4 : Int} (S : wS h) (z1 : x1.toInt = a1) (z2 : x2.toInt = a2) (z3 : x3.toInt = a3) (z4 : x4.toInt = a4) : Pt n X zM34 0 [some (.ref 16), some (.int x1), some (.int x2), some (.int x3), some (.int x4)] [] h (qI (fun y h' => wS h' ∧ R34 (vw h) a1 a2 a3 a4 y (vw h'))) :=
  pt_d (d34_0 S z1 z2 z3 z4 ⟨fun e => ⟨S, Or.inl ⟨e, rfl, rfl⟩⟩, fun e _ _ g S2 eg => ⟨S2, Or.inr ⟨e, rfl, eg⟩⟩⟩)
def sqA (V : vS) (b : Int) (r : Nat) : Nat → Int
  | 0 => 0
  | y + 1 => sqA V b r y + bcn (tb (bAnd (V 8 (24 * b + (y : Nat))) (V r (y : Nat)))) 32
theorem sqA_s (V : vS) (b : Int) (r y : Nat) : sqA V b r (y + 1) = sqA V b r y + bcn (tb (bAnd (V 8 (24 * b + (y : Nat))) (V r (y : Nat)))) 32 := rfl
theorem sqA_b (V : vS) (b : Int) (r : Nat) : ∀ y : Nat, 0 ≤ sqA V b r y ∧ sqA V b r y ≤ 32 * (y : Int)
  | 0 => ⟨Int.le_refl _, Int.le_refl _⟩
  | y + 1 => by
    have a := sqA_b V b r y
    have d := bcn_b (tb (bAnd (V 8 (24 * b + (y : Nat))) (V r (y : Nat)))) 32
    rw [sqA_s]
    omega
theorem l_83 {X : aX} {h : aH} {b : Int} {q2 : Nat} (S : wS h) (hb : 0 ≤ b ∧ b < 150) (h8 : ∀ j, 0 ≤ vw h 8 j ∧ vw h 8 j < 2147483648) : ∀ (n : Nat) (x1 x3 x4 : Int32) (y : Nat), x1.toInt = b → x3.toInt = sqA (vw h) b q2 y → x4.toInt = (y : Int) → y ≤ 24 → Pt n X zM83 5 [some (.ref 1), some (.int x1), some (.ref q2), some (.int x3), some (.int x4)] [] h (qI (fun r h' => h' = h ∧ r = sqA (vw h) b q2 24)) := by
  intro n
  induction n with
  | zero => exact fun _ _ _ _ _ _ _ _ => pt_z
  | succ n ih =>
    intro x1 x3 x4 y h1 h3 h4 hy
    refine d83_5 S h1 h3 h4 ⟨fun e => ⟨rfl, ?_⟩, fun e => ⟨⟨hb, by omega, e⟩, fun _ => ⟨(bAnd_nn (h8 _).1 (h8 _).2).1, fun w3 w4 g3 g4 => ?_⟩⟩⟩
    · rw [show y = 24 by omega]
    · have a := sqA_b (vw h) b q2 y
      have d := bcn_b (tb (bAnd (vw h 8 (24 * b + (y : Nat))) (vw h q2 (y : Nat)))) 32
      replace g4 := w_1 g4 (by omega) (by omega)
      rw [w32_id (by omega) (by omega)] at g3
      exact ih x1 w3 w4 (y + 1) h1 (by rw [g3, sqA_s]) (by omega) (by omega)
theorem c_83 {n : Nat} {X : aX} {h : aH} {x1 : Int32} {a1 : Int} {q2 : Nat} (S : wS h) (z1 : x1.toInt = a1) (hp : (0 ≤ a1 ∧ a1 < 150) ∧ ∀ j, 0 ≤ vw h 8 j ∧ vw h 8 j < 2147483648) : Pt n X zM83 0 [some (.ref 1), some (.int x1), some (.ref q2), none, none] [] h (qI (fun y h' => h' = h ∧ y = sqA (vw h) a1 q2 24)) :=
  pt_d (d83_0 S z1 (fun w3 w4 g3 g4 => l_83 S hp.1 hp.2 n x1 w3 w4 0 z1 g3 g4 (by decide)))
end
section
-- ===== seasons: the class makes =====
theorem d160_0 {n : Nat} {X : aX} {h : aH} {P : Int → aH → Prop} {x1 x2 x3 x4 x5 : Int32} {a1 a2 a3 a4 a5 : Int} (S : wS h) (z1 : x1.toInt = a1) (z2 : x2.toInt = a2) (z3 : x3.toInt = a3) (z4 : x4.toInt = a4) (z5 : x5.toInt = a5) (H : ((¬ (cFarm (vw h) a1) → P (-1) h) ∧ ((cFarm (vw h) a1) → ((¬ (cField (vw h) a2) → P (-1) h) ∧ ((cField (vw h) a2) → ((¬ (0 ≤ a3 ∧ a3 ≤ 9) → P (-1) h) ∧ ((0 ≤ a3 ∧ a3 ≤ 9) → ((¬ (0 ≤ a4 ∧ a4 ≤ 3649) → P (-1) h) ∧ ((0 ≤ a4 ∧ a4 ≤ 3649) → (((0 ≤ a5 ∧ a5 ≤ 4) → ((p1 h a3) ∧ ∀ (q20 : Nat) (h_20 : aH), (wS h_20 ∧ R1 h a3 a4 q20 h_20) → ((vw h_20 q20 1 = ((16 : Nat) : Int) ∧ vw h_20 q20 6 = (((q20 + 1) : Nat) : Int) ∧ vw h_20 q20 5 ≤ 300) ∧ ∀ (y21 : Int) (h_21 : aH), (wS h_21 ∧ h_21 = h_20 ∧ plc (vw h_20) q20 a1 a2 y21) → ((y21 ≠ (-1) → ((a5 = 0 → ((vw h_21) q20 7 = (((q20 + 2) : Nat) : Int) ∧ (0 ≤ y21 → P (vw h_21 (q20 + 2) y21) h_21))) ∧ (a5 ≠ 0 → ((a5 = 1 → ((vw h_21) q20 7 = (((q20 + 2) : Nat) : Int) ∧ (0 ≤ y21 → ((vw h_21) q20 8 = (((q20 + 3) : Nat) : Int) ∧ (0 ≤ y21 → P (w32 ((vw h_21 (q20 + 2) y21) - (vw h_21 (q20 + 3) y21))) h_21))))) ∧ (a5 ≠ 1 → ((a5 = 2 → ((vw h_21) q20 6 = (((q20 + 1) : Nat) : Int) ∧ (0 ≤ y21 → (0 ≤ vw h_21 (q20 + 1) y21 → vw h_21 (q20 + 1) y21 < 300 → P (vw h_21 19 (vw h_21 (q20 + 1) y21)) h_21)))) ∧ (a5 ≠ 2 → ((a5 = 3 → ((vw h_21) q20 9 = (((q20 + 4) : Nat) : Int) ∧ (((0 ≤ a2 ∧ a2 < 150) ∧ ∀ j, 0 ≤ vw h_21 8 j ∧ vw h_21 8 j < 2147483648) ∧ P (sqA (vw h_21) a2 (q20 + 4) 24) h_21))) ∧ (a5 ≠ 3 → ((vw h_21) q20 6 = (((q20 + 1) : Nat) : Int) ∧ (0 ≤ y21 → P (lt1 (vw h_21) (vw h_21 (q20 + 1) y21)) h_21))))))))))) ∧ (y21 = (-1) → P (-2) h_21))))) ∧ (¬ (0 ≤ a5 ∧ a5 ≤ 4) → P (-1) h))))))))))) : Pt (n + 1) X zM160 0 [some (.ref 0), some (.int x1), some (.int x2), some (.int x3), some (.int x4), some (.int x5), none, none] [] h (qI P) := by
  refine pt_1 (fun n d => r_aloadn gx160_0 rfl) ?_
  refine pt_d (pt_getR gx160_1 S tr_0_0 ?_)
  refine pt_d (pt_1 (fun n d => r_iloadn gx160_4 rfl) ?_)
  refine pt_d (pt_virt (as := [.int x1]) (r := []) gx160_5 rfl (show zmt[75]? = some zM75 from rfl) rfl rfl rfl rfl (c_75 S z1) (kqP (fun v2 h2 => ?_)))
  show Pt _ _ _ 8 _ [.int v2] _ _
  refine pt_d (pt_ifB_eq gx160_8 h2 (fun e3 => ?_) (fun e3 => ?_))
  · have H := H.1 e3
    refine pt_d (pt_iconst gx160_47 (fun v4 h4 => ?_))
    exact pt_d (pt_iret gx160_48 ⟨_, rfl, by rw [h4]; exact H⟩)
  · have H := H.2 e3
    refine pt_d (pt_1 (fun n d => r_aloadn gx160_11 rfl) ?_)
    refine pt_d (pt_getR gx160_12 S tr_0_0 ?_)
    refine pt_d (pt_1 (fun n d => r_iloadn gx160_15 rfl) ?_)
    refine pt_d (pt_virt (as := [.int x2]) (r := []) gx160_16 rfl (show zmt[77]? = some zM77 from rfl) rfl rfl rfl rfl (c_77 S z2) (kqP (fun v6 h6 => ?_)))
    show Pt _ _ _ 19 _ [.int v6] _ _
    refine pt_d (pt_ifB_eq gx160_19 h6 (fun e7 => ?_) (fun e7 => ?_))
    · have H := H.1 e7
      refine pt_d (pt_iconst gx160_47 (fun v8 h8 => ?_))
      exact pt_d (pt_iret gx160_48 ⟨_, rfl, by rw [h8]; exact H⟩)
    · have H := H.2 e7
      refine pt_d (pt_1 (fun n d => r_iloadn gx160_22 rfl) ?_)
      refine pt_d (pt_stat (as := [.int x3]) (r := []) gx160_23 rfl (show zmt[139]? = some zM139 from rfl) rfl rfl rfl rfl (c_139 S z3) (kqP (fun v9 h9 => ?_)))
      show Pt _ _ _ 26 _ [.int v9] _ _
      refine pt_d (pt_ifB_eq gx160_26 h9 (fun e10 => ?_) (fun e10 => ?_))
      · have H := H.1 e10
        refine pt_d (pt_iconst gx160_47 (fun v11 h11 => ?_))
        exact pt_d (pt_iret gx160_48 ⟨_, rfl, by rw [h11]; exact H⟩)
      · have H := H.2 e10
        refine pt_d (pt_1 (fun n d => r_iload gx160_29 rfl) ?_)
        refine pt_d (pt_stat (as := [.int x4]) (r := []) gx160_31 rfl (show zmt[138]? = some zM138 from rfl) rfl rfl rfl rfl (c_138 S z4) (kqP (fun v12 h12 => ?_)))
        show Pt _ _ _ 34 _ [.int v12] _ _
        refine pt_d (pt_ifB_eq gx160_34 h12 (fun e13 => ?_) (fun e13 => ?_))
        · have H := H.1 e13
          refine pt_d (pt_iconst gx160_47 (fun v14 h14 => ?_))
          exact pt_d (pt_iret gx160_48 ⟨_, rfl, by rw [h14]; exact H⟩)
        · have H := H.2 e13
          refine pt_d (pt_1 (fun n d => r_iload gx160_37 rfl) ?_)
          refine pt_d (pt_iconst gx160_39 (fun v15 h15 => ?_))
          refine pt_d (pt_iconst gx160_40 (fun v16 h16 => ?_))
          refine pt_d (pt_stat (as := [.int x5, .int v15, .int v16]) (r := []) gx160_41 rfl (show zmt[137]? = some zM137 from rfl) rfl rfl rfl rfl (c_137 S z5 h15 h16) (kqP (fun v17 h17 => ?_)))
          show Pt _ _ _ 44 _ [.int v17] _ _
          refine pt_d (pt_ifB_ne gx160_44 h17 (fun e18 => ?_) (fun e18 => ?_))
          · have H := H.1 e18
            refine pt_d (pt_1 (fun n d => r_aloadn gx160_49 rfl) ?_)
            refine pt_d (pt_getR gx160_50 S tr_0_4 ?_)
            refine pt_d (pt_1 (fun n d => r_iloadn gx160_53 rfl) ?_)
            refine pt_d (pt_1 (fun n d => r_iload gx160_54 rfl) ?_)
            obtain ⟨pr20, H⟩ := H
            refine pt_d (pt_virt (as := [.int x3, .int x4]) (r := []) gx160_56 rfl (show zmt[1]? = some zM1 from rfl) rfl rfl rfl rfl (c_1 S z3 z4 pr20) (kqR (fun q20 h_20 P20 => ?_)))
            have S20 := P20.1
            have H := H q20 h_20 P20
            show Pt _ _ _ 59 _ [.ref q20] _ _
            refine pt_d (pt_1 (fun n d => r_astore (L' := [some (.ref 0), some (.int x1), some (.int x2), some (.int x3), some (.int x4), some (.int x5), some (.ref q20), none]) gx160_59 rfl rfl) ?_)
            refine pt_d (pt_1 (fun n d => r_aload gx160_61 rfl) ?_)
            refine pt_d (pt_1 (fun n d => r_iloadn gx160_63 rfl) ?_)
            refine pt_d (pt_1 (fun n d => r_iloadn gx160_64 rfl) ?_)
            obtain ⟨pr21, H⟩ := H
            refine pt_d (pt_virt (as := [.int x1, .int x2]) (r := []) gx160_65 rfl (show zmt[98]? = some zM98 from rfl) rfl rfl rfl rfl (c_98 S20 z1 z2 pr21) (kqI (fun v21 y21 h_21 h21 P21 => ?_)))
            have S21 := P21.1
            have H := H y21 h_21 P21
            show Pt _ _ _ 68 _ [.int v21] _ _
            refine pt_d (pt_1 (fun n d => r_istore (L' := [some (.ref 0), some (.int x1), some (.int x2), some (.int x3), some (.int x4), some (.int x5), some (.ref q20), some (.int v21)]) gx160_68 rfl rfl) ?_)
            refine pt_d (pt_1 (fun n d => r_iload gx160_70 rfl) ?_)
            refine pt_d (pt_iconst gx160_72 (fun v22 h22 => ?_))
            refine pt_d (pt_icmp_ne gx160_73 h21 h22 (fun e23 => ?_) (fun e23 => ?_))
            · have H := H.1 e23
              refine pt_d (pt_1 (fun n d => r_iload gx160_79 rfl) ?_)
              refine pt_d (pt_tsw gx160_81 ?_)
              refine pa_c (lo := 0) (lo' := 1) (p := 112) z5 (fun e24 => ?_) (fun e24 => ?_)
              · have H := H.1 e24
                refine pt_d (pt_1 (fun n d => r_aload gx160_112 rfl) ?_)
                obtain ⟨pr25, H⟩ := H
                refine pt_d (pt_getK (B := 7) gx160_114 S21 (pr25) ?_)
                refine pt_d (pt_1 (fun n d => r_iload gx160_117 rfl) ?_)
                refine pt_d (pt_ialdD gx160_119 h21 (fun v26 p26 h26 => ?_))
                have H := H p26
                exact pt_d (pt_iret gx160_120 ⟨_, rfl, by rw [h26]; exact H⟩)
              have H := H.2 e24
              refine pa_c (lo := 1) (lo' := 2) (p := 121) z5 (fun e27 => ?_) (fun e27 => ?_)
              · have H := H.1 e27
                refine pt_d (pt_1 (fun n d => r_aload gx160_121 rfl) ?_)
                obtain ⟨pr28, H⟩ := H
                refine pt_d (pt_getK (B := 7) gx160_123 S21 (pr28) ?_)
                refine pt_d (pt_1 (fun n d => r_iload gx160_126 rfl) ?_)
                refine pt_d (pt_ialdD gx160_128 h21 (fun v29 p29 h29 => ?_))
                have H := H p29
                refine pt_d (pt_1 (fun n d => r_aload gx160_129 rfl) ?_)
                obtain ⟨pr30, H⟩ := H
                refine pt_d (pt_getK (B := 8) gx160_131 S21 (pr30) ?_)
                refine pt_d (pt_1 (fun n d => r_iload gx160_134 rfl) ?_)
                refine pt_d (pt_ialdD gx160_136 h21 (fun v31 p31 h31 => ?_))
                have H := H p31
                refine pt_d (pt_isub gx160_137 h29 h31 (fun v32 h32 => ?_))
                exact pt_d (pt_iret gx160_138 ⟨_, rfl, by rw [h32]; exact H⟩)
              have H := H.2 e27
              refine pa_c (lo := 2) (lo' := 3) (p := 139) z5 (fun e33 => ?_) (fun e33 => ?_)
              · have H := H.1 e33
                refine pt_d (pt_1 (fun n d => r_aloadn gx160_139 rfl) ?_)
                refine pt_d (pt_getR gx160_140 S21 tr_0_2 ?_)
                refine pt_d (pt_getR gx160_143 S21 tr_16_6 ?_)
                refine pt_d (pt_1 (fun n d => r_aload gx160_146 rfl) ?_)
                obtain ⟨pr36, H⟩ := H
                refine pt_d (pt_getK (B := 6) gx160_148 S21 (pr36) ?_)
                refine pt_d (pt_1 (fun n d => r_iload gx160_151 rfl) ?_)
                refine pt_d (pt_ialdD gx160_153 h21 (fun v37 p37 h37 => ?_))
                have H := H p37
                refine pt_d (pt_iald (N' := 300) gx160_154 S21 tl_19 h37 (fun v38 p38 q38 h38 => ?_))
                have H := H p38 q38
                exact pt_d (pt_iret gx160_155 ⟨_, rfl, by rw [h38]; exact H⟩)
              have H := H.2 e33
              refine pa_c (lo := 3) (lo' := 4) (p := 156) z5 (fun e39 => ?_) (fun e39 => ?_)
              · have H := H.1 e39
                refine pt_d (pt_1 (fun n d => r_aloadn gx160_156 rfl) ?_)
                refine pt_d (pt_getR gx160_157 S21 tr_0_0 ?_)
                refine pt_d (pt_1 (fun n d => r_iloadn gx160_160 rfl) ?_)
                refine pt_d (pt_1 (fun n d => r_aload gx160_161 rfl) ?_)
                obtain ⟨pr41, H⟩ := H
                refine pt_d (pt_getK (B := 9) gx160_163 S21 (pr41) ?_)
                obtain ⟨pr42, H⟩ := H
                refine pt_d (pt_virt (as := [.int x2, .ref (q20 + 4)]) (r := []) gx160_166 rfl (show zmt[83]? = some zM83 from rfl) rfl rfl rfl rfl (c_83 S21 z2 pr42) (kqP (fun v42 h42 => ?_)))
                show Pt _ _ _ 169 _ [.int v42] _ _
                exact pt_d (pt_iret gx160_169 ⟨_, rfl, by rw [h42]; exact H⟩)
              have H := H.2 e39
              refine pa_0 (p := 170) ?_
              refine pt_d (pt_1 (fun n d => r_aloadn gx160_170 rfl) ?_)
              refine pt_d (pt_getR gx160_171 S21 tr_0_2 ?_)
              refine pt_d (pt_1 (fun n d => r_aload gx160_174 rfl) ?_)
              obtain ⟨pr44, H⟩ := H
              refine pt_d (pt_getK (B := 6) gx160_176 S21 (pr44) ?_)
              refine pt_d (pt_1 (fun n d => r_iload gx160_179 rfl) ?_)
              refine pt_d (pt_ialdD gx160_181 h21 (fun v45 p45 h45 => ?_))
              have H := H p45
              refine pt_d (pt_virt (as := [.int v45]) (r := []) gx160_182 rfl (show zmt[31]? = some zM31 from rfl) rfl rfl rfl rfl (c_31 S21 h45) (kqP (fun v46 h46 => ?_)))
              show Pt _ _ _ 185 _ [.int v46] _ _
              exact pt_d (pt_iret gx160_185 ⟨_, rfl, by rw [h46]; exact H⟩)
            · have H := H.2 e23
              refine pt_d (pt_bipush gx160_76 (fun v47 h47 => ?_))
              exact pt_d (pt_iret gx160_78 ⟨_, rfl, by rw [h47]; exact H⟩)
          · have H := H.2 e18
            refine pt_d (pt_iconst gx160_47 (fun v48 h48 => ?_))
            exact pt_d (pt_iret gx160_48 ⟨_, rfl, by rw [h48]; exact H⟩)
theorem d161_0 {n : Nat} {X : aX} {h : aH} {P : Int → aH → Prop} {x1 x2 x3 x4 : Int32} {a1 a2 a3 a4 : Int} (S : wS h) (z1 : x1.toInt = a1) (z2 : x2.toInt = a2) (z3 : x3.toInt = a3) (z4 : x4.toInt = a4) (H : ((¬ (cFarm (vw h) a1) → P (-1) h) ∧ ((cFarm (vw h) a1) → ((¬ (cField (vw h) a2) → P (-1) h) ∧ ((cField (vw h) a2) → ((¬ (0 ≤ a3 ∧ a3 ≤ 9) → P (-1) h) ∧ ((0 ≤ a3 ∧ a3 ≤ 9) → (((0 ≤ a4 ∧ a4 ≤ 576) → ((p1 h a3) ∧ ∀ (q19 : Nat) (h_19 : aH), (wS h_19 ∧ R1 h a3 (vw h 1 0) q19 h_19) → ((vw h_19 q19 1 = ((16 : Nat) : Int) ∧ vw h_19 q19 6 = (((q19 + 1) : Nat) : Int) ∧ vw h_19 q19 5 ≤ 300) ∧ ∀ (y20 : Int) (h_20 : aH), (wS h_20 ∧ h_20 = h_19 ∧ plc (vw h_19) q19 a1 a2 y20) → ((y20 ≠ (-1) → ((vw h_20 16 3 < 200 → ∀ (y28 : Int) (h_28 : aH), (wS h_28 ∧ R34 (vw h_20) a1 a2 a3 a4 y28 (vw h_28)) → P y28 h_28) ∧ (200 ≤ vw h_20 16 3 → P (-3) h_20))) ∧ (y20 = (-1) → P (-2) h_20))))) ∧ (¬ (0 ≤ a4 ∧ a4 ≤ 576) → P (-1) h))))))))) : Pt (n + 1) X zM161 0 [some (.ref 0), some (.int x1), some (.int x2), some (.int x3), some (.int x4)] [] h (qI P) := by
  refine pt_1 (fun n d => r_aloadn gx161_0 rfl) ?_
  refine pt_d (pt_getR gx161_1 S tr_0_0 ?_)
  refine pt_d (pt_1 (fun n d => r_iloadn gx161_4 rfl) ?_)
  refine pt_d (pt_virt (as := [.int x1]) (r := []) gx161_5 rfl (show zmt[75]? = some zM75 from rfl) rfl rfl rfl rfl (c_75 S z1) (kqP (fun v2 h2 => ?_)))
  show Pt _ _ _ 8 _ [.int v2] _ _
  refine pt_d (pt_ifB_eq gx161_8 h2 (fun e3 => ?_) (fun e3 => ?_))
  · have H := H.1 e3
    refine pt_d (pt_iconst gx161_41 (fun v4 h4 => ?_))
    exact pt_d (pt_iret gx161_42 ⟨_, rfl, by rw [h4]; exact H⟩)
  · have H := H.2 e3
    refine pt_d (pt_1 (fun n d => r_aloadn gx161_11 rfl) ?_)
    refine pt_d (pt_getR gx161_12 S tr_0_0 ?_)
    refine pt_d (pt_1 (fun n d => r_iloadn gx161_15 rfl) ?_)
    refine pt_d (pt_virt (as := [.int x2]) (r := []) gx161_16 rfl (show zmt[77]? = some zM77 from rfl) rfl rfl rfl rfl (c_77 S z2) (kqP (fun v6 h6 => ?_)))
    show Pt _ _ _ 19 _ [.int v6] _ _
    refine pt_d (pt_ifB_eq gx161_19 h6 (fun e7 => ?_) (fun e7 => ?_))
    · have H := H.1 e7
      refine pt_d (pt_iconst gx161_41 (fun v8 h8 => ?_))
      exact pt_d (pt_iret gx161_42 ⟨_, rfl, by rw [h8]; exact H⟩)
    · have H := H.2 e7
      refine pt_d (pt_1 (fun n d => r_iloadn gx161_22 rfl) ?_)
      refine pt_d (pt_stat (as := [.int x3]) (r := []) gx161_23 rfl (show zmt[139]? = some zM139 from rfl) rfl rfl rfl rfl (c_139 S z3) (kqP (fun v9 h9 => ?_)))
      show Pt _ _ _ 26 _ [.int v9] _ _
      refine pt_d (pt_ifB_eq gx161_26 h9 (fun e10 => ?_) (fun e10 => ?_))
      · have H := H.1 e10
        refine pt_d (pt_iconst gx161_41 (fun v11 h11 => ?_))
        exact pt_d (pt_iret gx161_42 ⟨_, rfl, by rw [h11]; exact H⟩)
      · have H := H.2 e10
        refine pt_d (pt_1 (fun n d => r_iload gx161_29 rfl) ?_)
        refine pt_d (pt_iconst gx161_31 (fun v12 h12 => ?_))
        refine pt_d (pt_sipush gx161_32 (fun v13 h13 => ?_))
        refine pt_d (pt_stat (as := [.int x4, .int v12, .int v13]) (r := []) gx161_35 rfl (show zmt[137]? = some zM137 from rfl) rfl rfl rfl rfl (c_137 S z4 h12 h13) (kqP (fun v14 h14 => ?_)))
        show Pt _ _ _ 38 _ [.int v14] _ _
        refine pt_d (pt_ifB_ne gx161_38 h14 (fun e15 => ?_) (fun e15 => ?_))
        · have H := H.1 e15
          refine pt_d (pt_1 (fun n d => r_aloadn gx161_43 rfl) ?_)
          refine pt_d (pt_getR gx161_44 S tr_0_4 ?_)
          refine pt_d (pt_1 (fun n d => r_iloadn gx161_47 rfl) ?_)
          refine pt_d (pt_1 (fun n d => r_aloadn gx161_48 rfl) ?_)
          refine pt_d (pt_getR gx161_49 S tr_0_0 ?_)
          refine pt_d (pt_getI (B := 0) gx161_52 S (fun v18 h18 => ?_))
          obtain ⟨pr19, H⟩ := H
          refine pt_d (pt_virt (as := [.int x3, .int v18]) (r := []) gx161_55 rfl (show zmt[1]? = some zM1 from rfl) rfl rfl rfl rfl (c_1 S z3 h18 pr19) (kqR (fun q19 h_19 P19 => ?_)))
          have S19 := P19.1
          have H := H q19 h_19 P19
          show Pt _ _ _ 58 _ [.ref q19] _ _
          refine pt_d (pt_1 (fun n d => r_iloadn gx161_58 rfl) ?_)
          refine pt_d (pt_1 (fun n d => r_iloadn gx161_59 rfl) ?_)
          obtain ⟨pr20, H⟩ := H
          refine pt_d (pt_virt (as := [.int x1, .int x2]) (r := []) gx161_60 rfl (show zmt[98]? = some zM98 from rfl) rfl rfl rfl rfl (c_98 S19 z1 z2 pr20) (kqI (fun v20 y20 h_20 h20 P20 => ?_)))
          have S20 := P20.1
          have H := H y20 h_20 P20
          show Pt _ _ _ 63 _ [.int v20] _ _
          refine pt_d (pt_iconst gx161_63 (fun v21 h21 => ?_))
          refine pt_d (pt_icmp_ne gx161_64 h20 h21 (fun e22 => ?_) (fun e22 => ?_))
          · have H := H.1 e22
            refine pt_d (pt_1 (fun n d => r_aloadn gx161_70 rfl) ?_)
            refine pt_d (pt_getR gx161_71 S20 tr_0_2 ?_)
            refine pt_d (pt_getI (B := 3) gx161_74 S20 (fun v24 h24 => ?_))
            refine pt_d (pt_sipush gx161_77 (fun v25 h25 => ?_))
            refine pt_d (pt_icmp_lt gx161_80 h24 h25 (fun e26 => ?_) (fun e26 => ?_))
            · have H := H.1 e26
              refine pt_d (pt_1 (fun n d => r_aloadn gx161_88 rfl) ?_)
              refine pt_d (pt_getR gx161_89 S20 tr_0_2 ?_)
              refine pt_d (pt_1 (fun n d => r_iloadn gx161_92 rfl) ?_)
              refine pt_d (pt_1 (fun n d => r_iloadn gx161_93 rfl) ?_)
              refine pt_d (pt_1 (fun n d => r_iloadn gx161_94 rfl) ?_)
              refine pt_d (pt_1 (fun n d => r_iload gx161_95 rfl) ?_)
              refine pt_d (pt_virt (as := [.int x1, .int x2, .int x3, .int x4]) (r := []) gx161_97 rfl (show zmt[34]? = some zM34 from rfl) rfl rfl rfl rfl (c_34 S20 z1 z2 z3 z4) (kqI (fun v28 y28 h_28 h28 P28 => ?_)))
              have S28 := P28.1
              have H := H y28 h_28 P28
              show Pt _ _ _ 100 _ [.int v28] _ _
              exact pt_d (pt_iret gx161_100 ⟨_, rfl, by rw [h28]; exact H⟩)
            · have H := H.2 e26
              refine pt_d (pt_bipush gx161_83 (fun v29 h29 => ?_))
              refine pt_d (pt_1 (fun n d => r_goto gx161_85) ?_)
              exact pt_d (pt_iret gx161_100 ⟨_, rfl, by rw [h29]; exact H⟩)
          · have H := H.2 e22
            refine pt_d (pt_bipush gx161_67 (fun v30 h30 => ?_))
            exact pt_d (pt_iret gx161_69 ⟨_, rfl, by rw [h30]; exact H⟩)
        · have H := H.2 e15
          refine pt_d (pt_iconst gx161_41 (fun v31 h31 => ?_))
          exact pt_d (pt_iret gx161_42 ⟨_, rfl, by rw [h31]; exact H⟩)
noncomputable def sval (V : vS) (q : Nat) (b i w : Int) : Int := if w = 0 then V (q + 2) i else if w = 1 then w32 (V (q + 2) i - V (q + 3) i) else if w = 2 then V 19 (V (q + 1) i) else if w = 3 then sqA V b (q + 4) 24 else lt1 V (V (q + 1) i)
def ok16 (V : vS) (f b y k w : Int) : Prop := cFarm V f ∧ cField V b ∧ (0 ≤ y ∧ y ≤ 9) ∧ (0 ≤ k ∧ k ≤ 3649) ∧ 0 ≤ w ∧ w ≤ 4
def R160 (h : aH) (f b y k w r : Int) (h' : aH) : Prop := (¬ ok16 (vw h) f b y k w ∧ r = -1 ∧ h' = h) ∨ (ok16 (vw h) f b y k w ∧ ∃ q, R1 h y k q h' ∧ ∃ i, plc (vw h') q f b i ∧ ((i = -1 ∧ r = -2) ∨ (i ≠ -1 ∧ r = sval (vw h') q b i w)))
-- what a season handed out has of its own
theorem R1_k {h h' : aH} {y k : Int} {q : Nat} (hy : 0 ≤ y ∧ y ≤ 9) (p : p1 h y) (hN : vw h q 5 ≤ 300 ∨ vw h 42 y ≠ (q : Int)) (R : R1 h y k q h') : slk (vw h') q ∧ vw h' q 5 ≤ 300 ∧ pb (vw h') := by
  rcases R.2 with ⟨e, -, -, rfl⟩ | ⟨U, ⟨W, e, A, ⟨-, -, s⟩, n, -, l, -⟩, ⟨L, -⟩, D⟩
  · have hq := p.2 hy.1 (by omega) q e.symm
    exact ⟨hq.2.1, by rcases hN with z | z; exact z; exact absurd e z, p.1⟩
  · have hq := R.1.1
    have c : ∀ (c : Nat) j, c ≠ q + 3 → c ≠ q + 5 → c ≠ q + 6 → c ≠ q + 7 → vw h' c j = W c j := fun c j a b d f => by rw [e]; exact suF_c a b d f j
    have cq : ∀ j, vw h' q j = W q j := fun j => c q j (by omega) (by omega) (by omega) (by omega)
    refine ⟨slk_c L (fun j a b d => (cq j).trans (s j a b d)), by rw [cq]; exact l.2.1.2, ?_⟩
    have U0 : pb U := by
      rcases D with ⟨-, rfl⟩ | ⟨-, -, f⟩
      · exact p.1
      · exact pbK_c p.1 (fun c j z => f c j (by omega) (Or.inl (by omega)))
    exact pbK_c U0 (fun c' j z => (c c' j (by omega) (by omega) (by omega) (by omega)).trans (A c' j (by omega) (by omega) (by omega) (by omega)))
theorem c_160 {n : Nat} {X : aX} {h : aH} {x1 x2 x3 x4 x5 : Int32} {a1 a2 a3 a4 a5 : Int} (S : wS h) (z1 : x1.toInt = a1) (z2 : x2.toInt = a2) (z3 : x3.toInt = a3) (z4 : x4.toInt = a4) (z5 : x5.toInt = a5) (hp : ∀ y, 0 ≤ y → y ≤ 9 → p1 h y) (hn : ∀ q : Nat, (∃ y, (0 ≤ y ∧ y ≤ 9) ∧ (q : Int) = vw h 42 y) → vw h q 5 ≤ 300) (hF : ∀ b, cField (vw h) b → 0 ≤ b ∧ b < 150) : Pt n X zM160 0 [some (.ref 0), some (.int x1), some (.int x2), some (.int x3), some (.int x4), some (.int x5), none, none] [] h (qI (fun r h' => wS h' ∧ R160 h a1 a2 a3 a4 a5 r h')) := by
  have bad : ¬ ok16 (vw h) a1 a2 a3 a4 a5 → R160 h a1 a2 a3 a4 a5 (-1) h := fun z => Or.inl ⟨z, rfl, rfl⟩
  refine pt_d (d160_0 S z1 z2 z3 z4 z5 ⟨fun e => ⟨S, bad (fun z => e z.1)⟩, fun e1 => ⟨fun e => ⟨S, bad (fun z => e z.2.1)⟩, fun e2 => ⟨fun e => ⟨S, bad (fun z => e z.2.2.1)⟩, fun e3 => ⟨fun e => ⟨S, bad (fun z => e z.2.2.2.1)⟩, fun e4 => ⟨fun e5 => ⟨hp a3 e3.1 e3.2, fun q g R => ?_⟩, fun e => ⟨S, bad (fun z => e z.2.2.2.2)⟩⟩⟩⟩⟩⟩)
  obtain ⟨S2, R⟩ := R
  have ok : ok16 (vw h) a1 a2 a3 a4 a5 := ⟨e1, e2, e3, e4, e5⟩
  obtain ⟨L, l5, B⟩ := R1_k e3 (hp a3 e3.1 e3.2) (by
    by_cases z : vw h 42 a3 = (q : Int)
    · exact Or.inl (hn q ⟨a3, e3, z.symm⟩)
    · exact Or.inr z) R
  obtain ⟨L0, L1, L6, L7, L8, L9, -⟩ := L
  refine ⟨⟨L1, L6, l5⟩, fun i g' Z => ?_⟩
  obtain ⟨-, rfl, pl⟩ := Z
  have give : ∀ r, i ≠ -1 → r = sval (vw g') q a2 i a5 → wS g' ∧ R160 h a1 a2 a3 a4 a5 r g' := fun r n e => ⟨S2, Or.inr ⟨ok, q, R, i, pl, Or.inr ⟨n, e⟩⟩⟩
  have i0 : i ≠ -1 → 0 ≤ i := fun n => by rcases pl with ⟨z, -⟩ | ⟨z, -⟩ <;> omega
  refine ⟨fun n => ⟨fun w0 => ⟨L7, fun _ => give _ n ?_⟩, fun w0 => ⟨fun w1 => ⟨L7, fun _ => ⟨L8, fun _ => give _ n ?_⟩⟩, fun w1 => ⟨fun w2 => ⟨L6, fun _ _ _ => give _ n ?_⟩, fun w2 => ⟨fun w3 => ⟨L9, ⟨hF a2 e2, B.2.2.2.2.1⟩, give _ n ?_⟩, fun w3 => ⟨L6, fun _ => give _ n ?_⟩⟩⟩⟩⟩, fun e => ⟨S2, Or.inr ⟨ok, q, R, i, pl, Or.inl ⟨e, rfl⟩⟩⟩⟩
  · unfold sval
    rw [if_pos w0]
  · unfold sval
    rw [if_neg w0, if_pos w1]
  · unfold sval
    rw [if_neg w0, if_neg w1, if_pos w2]
  · unfold sval
    rw [if_neg w0, if_neg w1, if_neg w2, if_pos w3]
  · unfold sval
    rw [if_neg w0, if_neg w1, if_neg w2, if_neg w3]

def okY (V : vS) (f b y m : Int) : Prop := cFarm V f ∧ cField V b ∧ (0 ≤ y ∧ y ≤ 9) ∧ 0 ≤ m ∧ m ≤ 576
def R161 (h : aH) (f b y m r : Int) (h' : aH) : Prop := (¬ okY (vw h) f b y m ∧ r = -1 ∧ h' = h) ∨ (okY (vw h) f b y m ∧ ∃ q g, R1 h y (vw h 1 0) q g ∧ ∃ i, plc (vw g) q f b i ∧ ((i = -1 ∧ r = -2 ∧ h' = g) ∨ (i ≠ -1 ∧ ((200 ≤ vw g 16 3 ∧ r = -3 ∧ h' = g) ∨ (vw g 16 3 < 200 ∧ R34 (vw g) f b y m r (vw h'))))))
theorem c_161 {n : Nat} {X : aX} {h : aH} {x1 x2 x3 x4 : Int32} {a1 a2 a3 a4 : Int} (S : wS h) (z1 : x1.toInt = a1) (z2 : x2.toInt = a2) (z3 : x3.toInt = a3) (z4 : x4.toInt = a4) (hp : ∀ y, 0 ≤ y → y ≤ 9 → p1 h y) (hn : ∀ q : Nat, (∃ y, (0 ≤ y ∧ y ≤ 9) ∧ (q : Int) = vw h 42 y) → vw h q 5 ≤ 300) : Pt n X zM161 0 [some (.ref 0), some (.int x1), some (.int x2), some (.int x3), some (.int x4)] [] h (qI (fun r h' => wS h' ∧ R161 h a1 a2 a3 a4 r h')) := by
  have bad : ¬ okY (vw h) a1 a2 a3 a4 → R161 h a1 a2 a3 a4 (-1) h := fun z => Or.inl ⟨z, rfl, rfl⟩
  refine pt_d (d161_0 S z1 z2 z3 z4 ⟨fun e => ⟨S, bad (fun z => e z.1)⟩, fun e1 => ⟨fun e => ⟨S, bad (fun z => e z.2.1)⟩, fun e2 => ⟨fun e => ⟨S, bad (fun z => e z.2.2.1)⟩, fun e3 => ⟨fun e4 => ⟨hp a3 e3.1 e3.2, fun q g R => ?_⟩, fun e => ⟨S, bad (fun z => e z.2.2.2)⟩⟩⟩⟩⟩)
  obtain ⟨S2, R⟩ := R
  have ok : okY (vw h) a1 a2 a3 a4 := ⟨e1, e2, e3, e4⟩
  obtain ⟨L, l5, B⟩ := R1_k e3 (hp a3 e3.1 e3.2) (by
    by_cases z : vw h 42 a3 = (q : Int)
    · exact Or.inl (hn q ⟨a3, e3, z.symm⟩)
    · exact Or.inr z) R
  obtain ⟨L0, L1, L6, -⟩ := L
  refine ⟨⟨L1, L6, l5⟩, fun i g' Z => ?_⟩
  obtain ⟨-, rfl, pl⟩ := Z
  exact ⟨fun n => ⟨fun lt r g2 Z2 => ⟨Z2.1, Or.inr ⟨ok, q, g', R, i, pl, Or.inr ⟨n, Or.inr ⟨lt, Z2.2⟩⟩⟩⟩, fun ge => ⟨S2, Or.inr ⟨ok, q, g', R, i, pl, Or.inr ⟨n, Or.inl ⟨ge, rfl, rfl⟩⟩⟩⟩⟩, fun e => ⟨S2, Or.inr ⟨ok, q, g', R, i, pl, Or.inl ⟨e, rfl, rfl⟩⟩⟩⟩
end
section
-- ===== seasons: both sides =====
def lxl (V : vS) (c d : Int) : Prop := V 17 c < V 17 d ∨ (V 17 c = V 17 d ∧ (V 18 c < V 18 d ∨ (V 18 c = V 18 d ∧ c < d)))
def JOrd (V : vS) : Prop := (∀ p, 0 ≤ p → p < V 16 1 → 0 ≤ V 21 p ∧ V 21 p < V 16 1) ∧ (∀ p p', 0 ≤ p → p < p' → p' < V 16 1 → lxl V (V 21 p) (V 21 p')) ∧ (∀ c, 0 ≤ c → c < V 16 1 → ∃ p, (0 ≤ p ∧ p < V 16 1) ∧ V 21 p = c) ∧ ∀ c c', 0 ≤ c → c ≤ c' → c' < V 16 1 → V 20 c ≤ V 20 c'
theorem yr_mono {a b : Int} (h0 : 0 ≤ a) (h : a ≤ b) (hb : b ≤ 2147483647) : iDiv a 365 ≤ iDiv b 365 := by
  rw [iDiv_pos h0 (by omega) (by decide) (by decide), iDiv_pos (by omega) hb (by decide) (by decide)]
  omega
theorem cnt_l {V : vS} (C : JClm V) (B : JBody V) (O : JOrd V) (hd : ∀ c, 0 ≤ V 20 c ∧ V 20 c ≤ 2147483647) {p y k : Int} (p0 : 0 ≤ p) (pN : p < V 16 1) : cnt V p y k ↔ LkM V k y (V 21 p) := by
  obtain ⟨cN, c17, c18, -, c20, -, -⟩ := C
  obtain ⟨o1, o2, o3, o4⟩ := O
  have g : ∀ b, V 77 b < 0 ↔ V 5 b = -1 := fun b => by
    have := (B.2.2.2.2.2.2.2.1 b).1
    rw [← B.2.2.2.1 b]
    omega
  have g5 : ∀ b, V 77 b = V 5 b := fun b => (B.2.2.2.1 b).symm
  have r1 := o1 p p0 pN
  unfold cnt wsM LkM mcn
  rw [g, g5, ← c18, ← c20, ← cN]
  constructor
  · rintro ⟨⟨wy, wk⟩, gv, nx⟩
    refine ⟨⟨wk, gv, fun o co oN l => ?_⟩, wy⟩
    obtain ⟨l1, l2, l3, l4⟩ := l
    rw [← c17, ← c17] at l2
    rw [← c18, ← c18] at l3
    rw [← c20, ← c20] at l4
    rw [← c20] at l1
    obtain ⟨p', ⟨q0, qN⟩, e⟩ := o3 o (by omega) oN
    have lt : p < p' := by
      rcases Int.lt_trichotomy p p' with z | z | z
      · exact z
      · rw [← z] at e
        omega
      · have := o2 p' p q0 z pN
        unfold lxl at this
        rw [e] at this
        omega
    have s1 := o2 p (p + 1) p0 (by omega) (by omega)
    have r2 := o1 (p + 1) (by omega) (by omega)
    have s2 : V 21 (p + 1) = o ∨ lxl V (V 21 (p + 1)) o := by
      by_cases z : p + 1 = p'
      · rw [z]; exact Or.inl e
      · have := o2 (p + 1) p' (by omega) (by omega) qN
        rw [e] at this
        exact Or.inr this
    unfold lxl at s1 s2
    have k1 : V 17 (V 21 (p + 1)) = V 17 (V 21 p) ∧ V 18 (V 21 (p + 1)) = V 18 (V 21 p) ∧ V 21 p < V 21 (p + 1) ∧ V 21 (p + 1) ≤ o := by
      rcases s2 with z | z
      · rw [z] at s1 ⊢
        exact ⟨l2, l3, co, Int.le_refl _⟩
      · omega
    rcases nx with z | z | z
    · omega
    · unfold bhd at z
      omega
    · have d1 := o4 _ _ r1.1 (Int.le_of_lt k1.2.2.1) r2.2
      have d2 := o4 _ _ r2.1 k1.2.2.2 oN
      have y1 := yr_mono (hd _).1 d1 (hd _).2
      have y2 := yr_mono (hd _).1 d2 (hd _).2
      exact z ⟨by omega, by omega⟩
  · rintro ⟨⟨wk, gv, no⟩, wy⟩
    refine ⟨⟨wy, wk⟩, gv, ?_⟩
    by_cases h1 : V 16 1 ≤ p + 1
    · exact Or.inl h1
    · by_cases h2 : bhd V (V 21 (p + 1)) (V 17 (V 21 p)) (V 18 (V 21 p))
      · exact Or.inr (Or.inl h2)
      · refine Or.inr (Or.inr (fun w => ?_))
        have s1 := o2 p (p + 1) p0 (by omega) (by omega)
        have r2 := o1 (p + 1) (by omega) (by omega)
        unfold lxl at s1
        unfold bhd at h2
        refine no (V 21 (p + 1)) (by omega) r2.2 ⟨?_, ?_, ?_, ?_⟩
        · rw [← c20]; exact w.2
        · rw [← c17, ← c17]; omega
        · rw [← c18, ← c18]; omega
        · rw [← c20, ← c20, w.1, wy]
theorem cnN_s (V : vS) (y k : Int) : ∀ N i : Nat, i < cnN V y k N → ∃ p : Nat, p < N ∧ cnt V (p : Nat) y k ∧ cnN V y k p = i
  | 0, i, h => absurd h (Nat.not_lt_zero _)
  | N + 1, i, h => by
    by_cases z : cnt V (N : Nat) y k
    · rw [cnN_t z] at h
      by_cases w : i < cnN V y k N
      · obtain ⟨p, a, b⟩ := cnN_s V y k N i w
        exact ⟨p, by omega, b⟩
      · exact ⟨N, by omega, z, by omega⟩
    · rw [cnN_f z] at h
      obtain ⟨p, a, b⟩ := cnN_s V y k N i h
      exact ⟨p, by omega, b⟩
theorem cnN_lt {V : vS} {y k : Int} {p p' : Nat} (h : p < p') (z : cnt V (p : Nat) y k) : cnN V y k p < cnN V y k p' := by
  have := cnN_mono V y k (show p + 1 ≤ p' from h)
  rw [cnN_t z] at this
  omega
-- the list of a season, as places of the order
def lis (V : vS) (q : Nat) (y k : Int) : Prop := V q 5 = ((cnN V y k (V 16 1).toNat : Nat) : Int) ∧ ∀ p : Nat, (p : Int) < V 16 1 → cnt V (p : Nat) y k → V (q + 1) ((cnN V y k p : Nat) : Int) = V 21 (p : Nat)
theorem li_s {V : vS} {q : Nat} {y k : Int} (L : lis V q y k) {i : Int} (i0 : 0 ≤ i) (iN : i < V q 5) : ∃ p : Nat, (p : Int) < V 16 1 ∧ cnt V (p : Nat) y k ∧ ((cnN V y k p : Nat) : Int) = i ∧ V (q + 1) i = V 21 (p : Nat) := by
  have e := L.1
  obtain ⟨p, a, b, c⟩ := cnN_s V y k (V 16 1).toNat i.toNat (by omega)
  have ci : ((cnN V y k p : Nat) : Int) = i := by omega
  refine ⟨p, by omega, b, ci, ?_⟩
  rw [← L.2 p (by omega) b, ci]
theorem li_m {V : vS} {q : Nat} {y k : Int} (C : JClm V) (B : JBody V) (O : JOrd V) (hd : ∀ c, 0 ≤ V 20 c ∧ V 20 c ≤ 2147483647) (L : lis V q y k) {c : Int} (c0 : 0 ≤ c) (cN : c < V 72 19) (h : LkM V k y c) : ∃ p : Nat, (p : Int) < V 16 1 ∧ cnt V (p : Nat) y k ∧ V 21 (p : Nat) = c ∧ ((cnN V y k p : Nat) : Int) < V q 5 ∧ V (q + 1) ((cnN V y k p : Nat) : Int) = c := by
  obtain ⟨p, ⟨p0, pN⟩, e⟩ := O.2.2.1 c c0 (by rw [C.1]; exact cN)
  obtain ⟨p, rfl⟩ : ∃ m : Nat, p = (m : Int) := ⟨p.toNat, by omega⟩
  have z : cnt V (p : Nat) y k := (cnt_l C B O hd p0 pN).mpr (by rw [e]; exact h)
  have l := cnN_lt (p' := (V 16 1).toNat) (by omega) z
  exact ⟨p, pN, z, e, by rw [L.1]; omega, (L.2 p pN z).trans e⟩
end
section
-- ===== seasons: both sides =====
-- what both sides know alike
def EQ (V : vS) : Prop := JClm V ∧ JBody V ∧ JOrd V ∧ (∀ c, 0 ≤ V 20 c ∧ V 20 c ≤ 2147483647) ∧ (∀ j, V 8 j = V 80 j) ∧ (∀ j, 0 ≤ V 8 j ∧ V 8 j < 2147483648) ∧ ∀ c, 0 ≤ V 18 c ∧ V 18 c < 150
theorem in_b {V : vS} (E : EQ V) {c y : Int} {x : Nat} (hy : 0 ≤ y ∧ y < 24) (hx : x < 24) : InM V c (24 * y + (x : Int)) ↔ tb (V 8 (24 * V 18 c + y)) x = true := by
  obtain ⟨C, -, -, -, r, r8, rf⟩ := E
  unfold InM
  rw [← C.2.2.1 c, isI_tb (rf c) hy hx (fun j => by rw [← r j]; exact r8 j), r]
theorem mcn_u {V : vS} {c c' k : Int} (h : mcn V c k) (h' : V 90 c' ≤ k) (lt : c < c') (cN : c' < V 72 19) (f : V 87 c' = V 87 c) (b : V 88 c' = V 88 c) (y : iDiv (V 90 c') 365 = iDiv (V 90 c) 365) : False := h.2.2 c' lt cN ⟨h', f, b, y⟩
theorem flt_e {V : vS} {q : Nat} {yr k : Int} (E : EQ V) (L : lis V q yr k) {y : Int} {x : Nat} (hy : 0 ≤ y ∧ y < 24) (hx : x < 24) : fltB V (q + 1) y (V q 5) x ↔ DB V k yr (24 * y + (x : Int)) := by
  have E0 := E
  obtain ⟨C, B, O, hd, r, r8, rf⟩ := E0
  constructor
  · rintro ⟨j, j', ⟨a, b, d⟩, ne, t, t'⟩
    obtain ⟨p, pN, z, -, e⟩ := li_s L a (Int.lt_trans b d)
    obtain ⟨p', pN', z', -, e'⟩ := li_s L (by omega) d
    unfold Bt fdA at t t'
    unfold fmA at ne
    rw [e] at t ne
    rw [e'] at t' ne
    have m := O.1 (p : Nat) (by omega) pN
    have m' := O.1 (p' : Nat) (by omega) pN'
    have l := (cnt_l C B O hd (by omega) pN).mp z
    have l' := (cnt_l C B O hd (by omega) pN').mp z'
    exact ⟨V 21 (p : Nat), V 21 (p' : Nat), ⟨⟨m.1, by rw [← C.1]; exact m.2⟩, l, (in_b E hy hx).mpr t⟩, ⟨⟨m'.1, by rw [← C.1]; exact m'.2⟩, l', (in_b E hy hx).mpr t'⟩, by rw [← C.2.1, ← C.2.1]; exact ne⟩
  · rintro ⟨c1, c2, ⟨n1, l1, i1⟩, ⟨n2, l2, i2⟩, ne⟩
    obtain ⟨p, pN, z, e, lt, s⟩ := li_m C B O hd L n1.1 n1.2 l1
    obtain ⟨p', pN', z', e', lt', s'⟩ := li_m C B O hd L n2.1 n2.2 l2
    rw [in_b E hy hx] at i1 i2
    rw [← C.2.1, ← C.2.1] at ne
    have b1 : Bt V (q + 1) y ((cnN V yr k p : Nat) : Int) x = true := by
      unfold Bt fdA
      rw [s]
      exact i1
    have b2 : Bt V (q + 1) y ((cnN V yr k p' : Nat) : Int) x = true := by
      unfold Bt fdA
      rw [s']
      exact i2
    have f : fmA V (q + 1) ((cnN V yr k p : Nat) : Int) ≠ fmA V (q + 1) ((cnN V yr k p' : Nat) : Int) := by
      unfold fmA
      rw [s, s']
      exact ne
    rcases Nat.lt_trichotomy (cnN V yr k p) (cnN V yr k p') with w | w | w
    · exact ⟨_, _, ⟨by omega, by omega, lt'⟩, f, b1, b2⟩
    · rw [w] at f
      exact absurd rfl f
    · exact ⟨_, _, ⟨by omega, by omega, lt⟩, fun h => f h.symm, b2, b1⟩
theorem lsr_e {V : vS} {q : Nat} {yr k : Int} (E : EQ V) (L : lis V q yr k) {y i : Int} {x : Nat} (hy : 0 ≤ y ∧ y < 24) (hx : x < 24) (i0 : 0 ≤ i) (iN : i < V q 5) : lsB V (q + 1) y i x ↔ tkQ V k yr (V (q + 1) i) (24 * y + (x : Int)) := by
  have E0 := E
  obtain ⟨C, B, O, hd, r, r8, rf⟩ := E0
  obtain ⟨pi, piN, zi, ci, ei⟩ := li_s L i0 iN
  have mi := O.1 (pi : Nat) (by omega) piN
  have li := (cnt_l C B O hd (by omega) piN).mp zi
  rw [← ei] at li mi
  constructor
  · rintro ⟨j, ⟨a, b⟩, fj, t⟩
    obtain ⟨p, pN, z, cj, e⟩ := li_s L a (Int.lt_trans b iN)
    have m := O.1 (p : Nat) (by omega) pN
    have l := (cnt_l C B O hd (by omega) pN).mp z
    have lp : p < pi := by
      rcases Nat.lt_or_ge p pi with w | w
      · exact w
      · have := cnN_mono V yr k w
        omega
    have lx := O.2.1 (p : Nat) (pi : Nat) (by omega) (by omega) piN
    rw [← e] at l lx m
    rw [← ei] at lx
    unfold Bt fdA at t
    unfold fmA at fj
    refine ⟨V (q + 1) j, ⟨⟨m.1, by rw [← C.1]; exact m.2⟩, l, (in_b E hy hx).mpr t⟩, by rw [← C.2.1, ← C.2.1]; exact fj, ?_⟩
    rw [← C.2.2.1, ← C.2.2.1]
    unfold lxl at lx
    rcases lx with w | ⟨-, w | ⟨w1, w2⟩⟩
    · omega
    · exact w
    · exact absurd (mcn_u l.1 li.1.1 w2 (by rw [← C.1]; exact mi.2) (by rw [← C.2.1, ← C.2.1]; exact fj.symm) (by rw [← C.2.2.1, ← C.2.2.1]; exact w1.symm) (by rw [li.2, l.2])) (fun h => h)
  · rintro ⟨o, ⟨no, l, io⟩, f, g⟩
    obtain ⟨p, pN, z, e, lt, s⟩ := li_m C B O hd L no.1 no.2 l
    rw [in_b E hy hx] at io
    rw [← C.2.1, ← C.2.1] at f
    rw [← C.2.2.1, ← C.2.2.1] at g
    have lp : p < pi := by
      rcases Nat.lt_trichotomy p pi with w | w | w
      · exact w
      · rw [w, ← ei] at e
        rw [e] at g
        omega
      · have lx := O.2.1 (pi : Nat) (p : Nat) (by omega) (by omega) pN
        rw [← ei, e] at lx
        unfold lxl at lx
        omega
    have := cnN_lt lp z
    refine ⟨((cnN V yr k p : Nat) : Int), ⟨by omega, by omega⟩, ?_, ?_⟩
    · unfold fmA
      rw [s]
      exact f
    · unfold Bt fdA
      rw [s]
      exact io
end
section
-- ===== seasons: both sides =====
theorem msk_all : ∀ a b x : Fin 24, a.val ≤ b.val → ((2 ^ (b.val + 1) - 2 ^ a.val) / 2 ^ x.val % 2 = 1 ↔ a.val ≤ x.val ∧ x.val ≤ b.val) := by decide +kernel
theorem shl_2 : ∀ b : Fin 24, bShl 2 (b.val : Int) = ((2 ^ (b.val + 1) : Nat) : Int) := by decide +kernel
theorem shl_1 : ∀ a : Fin 24, bShl 1 (a.val : Int) = ((2 ^ a.val : Nat) : Int) := by decide +kernel
theorem pow_b : ∀ a b : Fin 24, a.val ≤ b.val → 2 ^ a.val ≤ 2 ^ (b.val + 1) ∧ 2 ^ (b.val + 1) < 2147483648 := by decide +kernel
theorem tb_mk {a b : Int} {x : Nat} (ha : 0 ≤ a) (hab : a ≤ b) (hb : b < 24) (hx : x < 24) : tb (w32 (bShl 2 b - bShl 1 a)) x = true ↔ a ≤ (x : Int) ∧ (x : Int) ≤ b := by
  obtain ⟨m, rfl⟩ : ∃ m : Nat, a = (m : Int) := ⟨a.toNat, by omega⟩
  obtain ⟨n, rfl⟩ : ∃ n : Nat, b = (n : Int) := ⟨b.toNat, by omega⟩
  have e2 : bShl 2 (n : Int) = ((2 ^ (n + 1) : Nat) : Int) := shl_2 ⟨n, by omega⟩
  have e1 : bShl 1 (m : Int) = ((2 ^ m : Nat) : Int) := shl_1 ⟨m, by omega⟩
  have p : 2 ^ m ≤ 2 ^ (n + 1) ∧ 2 ^ (n + 1) < 2147483648 := pow_b ⟨m, by omega⟩ ⟨n, by omega⟩ (show m ≤ n by omega)
  have al : (2 ^ (n + 1) - 2 ^ m) / 2 ^ x % 2 = 1 ↔ m ≤ x ∧ x ≤ n := msk_all ⟨m, by omega⟩ ⟨n, by omega⟩ ⟨x, hx⟩ (show m ≤ n by omega)
  have e3 : ((2 ^ (n + 1) : Nat) : Int) - ((2 ^ m : Nat) : Int) = ((2 ^ (n + 1) - 2 ^ m : Nat) : Int) := by
    generalize 2 ^ (n + 1) = u at p ⊢
    generalize 2 ^ m = v at p ⊢
    omega
  have lt : 2 ^ (n + 1) - 2 ^ m < 2147483648 := Nat.lt_of_le_of_lt (Nat.sub_le _ _) p.2
  rw [e2, e1, e3, w32_n lt, tb_n lt, decide_eq_true_eq, al]
  omega
def JOut2 (V : vS) : Prop := ∀ j, 0 ≤ j → j < V 16 2 → 0 ≤ V 92 j ∧ V 92 j ≤ V 94 j ∧ V 94 j < 24
theorem hit_e {V : vS} {j y yr k : Int} (O : JOut1 V j) (x : Int) : oHm V x y yr k j ↔ oHit V y yr k j ∧ V 92 j ≤ x ∧ x ≤ V 94 j := by
  obtain ⟨o1, o2, o3, o4, o5, o6⟩ := O
  unfold oHm oHit
  rw [o2, o4, o5, o6, Int.mul_comm]
  constructor
  · rintro ⟨a, b, c, d⟩
    exact ⟨⟨a, b, d⟩, c⟩
  · rintro ⟨⟨a, b, d⟩, c⟩
    exact ⟨a, b, c, d⟩
theorem orw_e {V : vS} (O : JOut V) (O2 : JOut2 V) {y yr k : Int} {x : Nat} (hx : x < 24) : ∀ i : Nat, (i : Int) ≤ V 16 2 → (tb (oRw V y yr k i) x = true ↔ ∃ j : Int, (0 ≤ j ∧ j < (i : Int)) ∧ oHm V (x : Int) y yr k j) := by
  intro i
  induction i with
  | zero =>
    intro _
    refine ⟨fun z => ?_, fun ⟨j, a, _⟩ => by omega⟩
    have e : tb (oRw V y yr k 0) x = false := tb_0 (by omega)
    rw [e] at z
    cases z
  | succ i ih =>
    intro hi
    have ih := ih (by omega)
    have o1 := O.2.2.2 (i : Nat) (by omega) (by omega)
    have o2 := O2 (i : Nat) (by omega) (by omega)
    by_cases z : oHit V y yr k (i : Nat)
    · rw [oRw_t z, tb_or, Bool.or_eq_true, ih, ← o1.1, ← o1.2.2.1, tb_mk o2.1 o2.2.1 o2.2.2 hx]
      constructor
      · rintro (⟨j, a, b⟩ | a)
        · exact ⟨j, ⟨a.1, by omega⟩, b⟩
        · exact ⟨(i : Nat), ⟨by omega, by omega⟩, (hit_e o1 _).mpr ⟨z, a⟩⟩
      · rintro ⟨j, a, b⟩
        by_cases w : j = (i : Nat)
        · rw [w] at b
          exact Or.inr ((hit_e o1 _).mp b).2
        · exact Or.inl ⟨j, ⟨a.1, by omega⟩, b⟩
    · rw [oRw_f z, ih]
      constructor
      · rintro ⟨j, a, b⟩
        exact ⟨j, ⟨a.1, by omega⟩, b⟩
      · rintro ⟨j, a, b⟩
        by_cases w : j = (i : Nat)
        · rw [w] at b
          exact absurd ((hit_e o1 _).mp b).1 z
        · exact ⟨j, ⟨a.1, by omega⟩, b⟩
theorem out_e {V : vS} (O : JOut V) (O2 : JOut2 V) {y yr k : Int} {x : Nat} (hx : x < 24) : tb (oRw V y yr k (V 16 2).toNat) x = true ↔ isO V (x : Int) y yr k := by
  have h := O.2.1
  rw [orw_e O O2 hx _ (by omega)]
  unfold isO
  rw [← O.1, show (((V 16 2).toNat : Nat) : Int) = V 16 2 by omega]
-- sums by rows, by squares
theorem nQ_s (P : Int → Prop) (q : Nat) : nQ P (q + 1) = nQ P q + (if prB (P (q : Nat)) then 1 else 0) := rfl
theorem nQ_add (P : Int → Prop) (a : Nat) : ∀ b : Nat, nQ P (a + b) = nQ P a + nQ (fun j => P (j + (a : Nat))) b
  | 0 => (Int.add_zero _).symm
  | b + 1 => by
    have e : (((a + b : Nat)) : Int) = ((b : Nat) : Int) + ((a : Nat) : Int) := by omega
    rw [show a + (b + 1) = (a + b) + 1 from rfl, nQ_s, nQ_s, nQ_add P a b, e, Int.add_assoc]
theorem bcn_s (b : Nat → Bool) (k : Nat) : bcn b (k + 1) = bcn b k + (if b k then 1 else 0) := rfl
theorem bcn_nQ {b : Nat → Bool} {P : Int → Prop} : ∀ k : Nat, (∀ x, x < k → (b x = true ↔ P (x : Nat))) → bcn b k = nQ P k
  | 0, _ => rfl
  | k + 1, h => by
    have e := h k (by omega)
    rw [bcn_s, bcn_nQ k (fun x hx => h x (by omega))]
    by_cases z : P (k : Nat)
    · rw [nQ_t z, if_pos (e.mpr z)]
    · rw [nQ_f z, if_neg (fun w => z (e.mp w))]
theorem bcn_hi {b : Nat → Bool} (h : ∀ x, 24 ≤ x → b x = false) : bcn b 32 = bcn b 24 := by
  have g : ∀ m : Nat, bcn b (24 + m) = bcn b 24 := by
    intro m
    induction m with
    | zero => rfl
    | succ m ih =>
      rw [show 24 + (m + 1) = (24 + m) + 1 from rfl, bcn_s, h (24 + m) (by omega), ih]
      exact Int.add_zero _
  exact g 8
theorem tb_hi {n : Int} (h0 : 0 ≤ n) (h1 : n < 16777216) {x : Nat} (hx : 24 ≤ x) : tb n x = false := by
  obtain ⟨m, rfl⟩ : ∃ m : Nat, n = (m : Int) := ⟨n.toNat, by omega⟩
  have l : m < 2 ^ x := Nat.lt_of_lt_of_le (show m < 2 ^ 24 by omega) (Nat.pow_le_pow_right (by decide) hx)
  rw [tb_n (by omega), Nat.div_eq_of_lt l]
  rfl
end
section
-- ===== seasons: both sides =====
def JR24 (V : vS) : Prop := ∀ j, 0 ≤ V 8 j ∧ V 8 j < 16777216
theorem size_e {V : vS} {q : Nat} {yr k : Int} (E : EQ V) (L : lis V q yr k) (O : JOut V) (O2 : JOut2 V) (R : JR24 V) (q2 : V q 2 = yr) (q3 : V q 3 = k) {i : Int} (i0 : 0 ≤ i) (iN : i < V q 5) : ∀ y : Nat, y ≤ 24 → szS V q i y = nQ (gdR V k yr (V (q + 1) i)) (24 * y) := by
  intro y
  induction y with
  | zero => exact fun _ => rfl
  | succ y ih =>
    intro hy
    have s : szS V q i (y + 1) = szS V q i y + szF V q i (y : Nat) := rfl
    rw [s, ih (by omega), show 24 * (y + 1) = 24 * y + 24 from rfl, nQ_add]
    congr 1
    unfold szF
    rw [q2, q3, bcn_hi (fun x hx => ?_)]
    · refine bcn_nQ 24 (fun x hx => ?_)
      have e : (x : Int) + ((24 * y : Nat) : Int) = 24 * (y : Int) + (x : Int) := by omega
      have f := flt_e E L (y := (y : Int)) ⟨by omega, by omega⟩ hx
      have g := lsr_e E L (y := (y : Int)) ⟨by omega, by omega⟩ hx i0 iN
      have o := out_e O O2 (y := (y : Int)) (yr := yr) (k := k) hx
      have b := in_b E (c := V (q + 1) i) (y := (y : Int)) ⟨by omega, by omega⟩ hx
      unfold gdR
      rw [e, b, ← f, ← g, show (24 * (y : Int) + (x : Int)) % 24 = (x : Int) by omega, show (24 * (y : Int) + (x : Int)) / 24 = (y : Int) by omega, ← o]
      unfold Bt fdA
      cases tb (V 8 (24 * V 18 (V (q + 1) i) + (y : Int))) x with
      | false => simp only [Bool.false_and, Bool.false_eq_true, false_and]
      | true =>
        simp only [Bool.true_and, true_and, Bool.and_eq_true, Bool.not_eq_true', Bool.or_eq_false_iff]
        constructor
        · rintro ⟨⟨a, c⟩, d⟩
          exact ⟨fun w => (by rw [prB_t.mpr w] at a; cases a), fun w => (by rw [w] at c; cases c), fun w => (by rw [prB_t.mpr w] at d; cases d)⟩
        · rintro ⟨a, c, d⟩
          refine ⟨⟨?_, ?_⟩, ?_⟩
          · cases h : prB (fltB V (q + 1) (y : Int) (V q 5) x) with
            | false => rfl
            | true => exact absurd (prB_t.mp h) a
          · cases h : tb (oRw V (y : Int) yr k (V 16 2).toNat) x with
            | false => rfl
            | true => exact absurd h c
          · cases h : prB (lsB V (q + 1) (y : Int) i x) with
            | false => rfl
            | true => exact absurd (prB_t.mp h) d
    · have h := R (24 * fdA V (q + 1) i + (y : Int))
      show (Bt V (q + 1) (y : Int) i x && _ && _) = false
      unfold Bt
      rw [tb_hi h.1 h.2 hx]
      rfl
theorem bad_e {V : vS} {q : Nat} {yr k : Int} (E : EQ V) (L : lis V q yr k) (R : JR24 V) (hf : ∀ y, 0 ≤ y → y < 24 → ∀ x, x < 32 → (tb (V (q + 4) y) x = true ↔ fltB V (q + 1) y (V q 5) x)) {c : Int} : ∀ y : Nat, y ≤ 24 → sqA V (V 18 c) (q + 4) y = nQ (bdR V k yr c) (24 * y) := by
  intro y
  induction y with
  | zero => exact fun _ => rfl
  | succ y ih =>
    intro hy
    have s : sqA V (V 18 c) (q + 4) (y + 1) = sqA V (V 18 c) (q + 4) y + bcn (tb (bAnd (V 8 (24 * V 18 c + (y : Nat))) (V (q + 4) (y : Nat)))) 32 := rfl
    have h := R (24 * V 18 c + (y : Int))
    rw [s, ih (by omega), show 24 * (y + 1) = 24 * y + 24 from rfl, nQ_add, bcn_hi (fun x hx => by rw [tb_and, tb_hi h.1 h.2 hx]; rfl)]
    congr 1
    refine bcn_nQ 24 (fun x hx => ?_)
    have e : (x : Int) + ((24 * y : Nat) : Int) = 24 * (y : Int) + (x : Int) := by omega
    have f := flt_e E L (y := (y : Int)) ⟨by omega, by omega⟩ hx
    have b := in_b E (c := c) (y := (y : Int)) ⟨by omega, by omega⟩ hx
    unfold bdR
    rw [e, b, ← f, ← hf (y : Int) (by omega) (by omega) x (by omega), tb_and, Bool.and_eq_true]
def JCtl (V : vS) : Prop := V 16 3 = V 72 32 ∧ (∀ j, V 27 j = V 98 j) ∧ (∀ j, V 28 j = V 99 j) ∧ (∀ j, V 29 j = V 100 j) ∧ (∀ j, V 30 j = V 101 j) ∧ (∀ j, V 31 j = V 102 j) ∧ 0 ≤ V 16 3 ∧ V 16 3 ≤ 200
theorem msg_s (V : vS) (c yr k : Int) (i : Nat) : msg V c yr k (i + 1) = if V 27 (i : Nat) = V 17 c ∧ V 28 (i : Nat) = V 18 c ∧ V 29 (i : Nat) = yr ∧ V 31 (i : Nat) ≤ k then V 30 (i : Nat) else msg V c yr k i := rfl
theorem msg_e {V : vS} (C : JClm V) (K : JCtl V) {c k : Int} : ∀ i : Nat, msg V c (iDiv (V 90 c) 365) k i = mmg V c k i := by
  obtain ⟨-, k1, k2, k3, k4, k5, -, -⟩ := K
  intro i
  induction i with
  | zero => rfl
  | succ i ih => rw [msg_s, mmg_s, ih, k1, k2, k3, k4, k5, C.2.1, C.2.2.1]
theorem msg_b {V : vS} (h : ∀ j, 0 ≤ V 30 j ∧ V 30 j ≤ 576) (c yr k : Int) : ∀ i : Nat, 0 ≤ msg V c yr k i ∧ msg V c yr k i ≤ 576 := by
  intro i
  induction i with
  | zero => exact ⟨Int.le_refl _, by show (0 : Int) ≤ 576; decide⟩
  | succ i ih =>
    rw [msg_s]
    split
    · exact h _
    · exact ih
end
section
-- ===== seasons: both sides =====
-- sums over places
def sgm (f : Int → Int) : Nat → Int
  | 0 => 0
  | i + 1 => sgm f i + f (i : Nat)
theorem sgm_s (f : Int → Int) (i : Nat) : sgm f (i + 1) = sgm f i + f (i : Nat) := rfl
noncomputable def pI (p : Prop) (x : Int) : Int := @ite Int p (Classical.propDecidable p) x 0
theorem pI_t {p : Prop} {x : Int} (h : p) : pI p x = x := by unfold pI; rw [if_pos h]
theorem pI_f {p : Prop} {x : Int} (h : ¬ p) : pI p x = 0 := by unfold pI; rw [if_neg h]
theorem pI_c {p p' : Prop} {x x' : Int} (h : p ↔ p') (e : p → x = x') : pI p x = pI p' x' := by
  by_cases z : p
  · rw [pI_t z, pI_t (h.mp z), e z]
  · rw [pI_f z, pI_f (fun w => z (h.mpr w))]
theorem sgm_c {f g : Int → Int} : ∀ n : Nat, (∀ j : Int, 0 ≤ j → j < (n : Int) → f j = g j) → sgm f n = sgm g n
  | 0, _ => rfl
  | n + 1, h => by rw [sgm_s, sgm_s, sgm_c n (fun j a b => h j a (by omega)), h (n : Nat) (by omega) (by omega)]
theorem w32_add (a b : Int) : w32 (w32 a + b) = w32 (a + b) := by
  unfold w32
  omega
def isMx (S : Int → Prop) (m : Int) : Prop := -1 ≤ m ∧ (m = -1 ∨ S m) ∧ ∀ c, S c → c ≤ m
def tmS (V : vS) (q : Nat) (f j : Int) (c : Int) : Prop := ∃ i, (0 ≤ i ∧ i < j) ∧ fmA V (q + 1) i = f ∧ V (q + 1) i = c
noncomputable def tSm (V : vS) (q r : Nat) (f : Int) (n : Nat) : Int := sgm (fun i => pI (fmA V (q + 1) i = f) (V r i)) n
-- a farm's squares, those told as missing, its latest claim
def tot (V : vS) (q : Nat) : Prop := ∀ f, 0 ≤ f → f < 150 → V (q + 5) f = w32 (tSm V q (q + 2) f (V q 5).toNat) ∧ V (q + 6) f = w32 (tSm V q (q + 3) f (V q 5).toNat) ∧ isMx (tmS V q f (V q 5)) (V (q + 7) f)
theorem suS_5 (U : vS) (q : Nat) (i f : Int) : suS U q i (q + 5) f = if f = fmA U (q + 1) i then w32 (U (q + 5) f + U (q + 2) i) else U (q + 5) f := by
  unfold suS
  rw [up_c (by omega), up_c (by omega), up_p, up_c (by omega)]
  by_cases z : f = fmA U (q + 1) i
  · rw [if_pos z, if_pos z, z]
  · rw [if_neg z, if_neg z]
theorem suS_6 (U : vS) (q : Nat) (i f : Int) : suS U q i (q + 6) f = if f = fmA U (q + 1) i then w32 (U (q + 6) f + min (U (q + 2) i) (msg U (U (q + 1) i) (U q 2) (U q 3) (U 16 3).toNat)) else U (q + 6) f := by
  unfold suS
  rw [up_c (by omega), up_p, up_c (by omega), up_c (by omega)]
  by_cases z : f = fmA U (q + 1) i
  · rw [if_pos z, if_pos z, z]
  · rw [if_neg z, if_neg z]
theorem suS_7 (U : vS) (q : Nat) (i f : Int) : suS U q i (q + 7) f = if f = fmA U (q + 1) i then max (U (q + 7) f) (U (q + 1) i) else U (q + 7) f := by
  unfold suS
  rw [up_p, up_c (by omega), up_c (by omega), up_c (by omega)]
  by_cases z : f = fmA U (q + 1) i
  · rw [if_pos z, if_pos z, z]
  · rw [if_neg z, if_neg z]
end
section
-- ===== seasons: both sides =====
-- what a season holds
theorem szS_d {q : Nat} {V V' : vS} (s : ∀ (c : Nat) j, (c = 5 ∨ c = 8 ∨ 16 ≤ c ∧ c ≤ 31 ∧ c ≠ 19 ∧ c ≠ 22) → V' c j = V c j) (hq' : ∀ j, V' q j = V q j) (h6 : ∀ j, V' (q + 1) j = V (q + 1) j) (i : Int) (y : Nat) : szS V' q i y = szS V q i y := by
  induction y with
  | zero => rfl
  | succ y ih =>
    have e : ∀ V : vS, szS V q i (y + 1) = szS V q i y + szF V q i (y : Nat) := fun _ => rfl
    have f : szF V' q i (y : Nat) = szF V q i (y : Nat) := by
      unfold szF
      rw [hq', hq', hq', s 16 2 (by decide), oRw_c s]
      refine bcn_c 32 (fun x _ => ?_)
      rw [Bt_c (fun j => s 8 j (by decide)) (fun j => s 18 j (by decide)) h6, prB_c (fltB_c (fun j => s 8 j (by decide)) (fun j => s 17 j (by decide)) (fun j => s 18 j (by decide)) h6), prB_c (lsB_c (fun j => s 8 j (by decide)) (fun j => s 17 j (by decide)) (fun j => s 18 j (by decide)) h6)]
    rw [e, e, ih, f]
theorem msg_d {V V' : vS} (s : ∀ (c : Nat) j, (c = 5 ∨ c = 8 ∨ 16 ≤ c ∧ c ≤ 31 ∧ c ≠ 19 ∧ c ≠ 22) → V' c j = V c j) (c yr k : Int) : ∀ i : Nat, msg V' c yr k i = msg V c yr k i := by
  intro i
  induction i with
  | zero => rfl
  | succ i ih => rw [msg_s, msg_s, ih, s 27 _ (by decide), s 28 _ (by decide), s 29 _ (by decide), s 30 _ (by decide), s 31 _ (by decide), s 17 _ (by decide), s 18 _ (by decide)]
noncomputable def lsX (V : vS) (q : Nat) (i : Int) : Int := min (V (q + 2) i) (msg V (V (q + 1) i) (V q 2) (V q 3) (V 16 3).toNat)
theorem tmS_s {V : vS} {q : Nat} {f c : Int} {i : Nat} : tmS V q f ((i + 1 : Nat) : Int) c ↔ tmS V q f (i : Int) c ∨ (fmA V (q + 1) (i : Nat) = f ∧ V (q + 1) (i : Nat) = c) := by
  constructor
  · rintro ⟨j, ⟨a, b⟩, e, g⟩
    by_cases z : j = (i : Int)
    · rw [z] at e g
      exact Or.inr ⟨e, g⟩
    · exact Or.inl ⟨j, ⟨a, by omega⟩, e, g⟩
  · rintro (⟨j, ⟨a, b⟩, e, g⟩ | ⟨e, g⟩)
    · exact ⟨j, ⟨a, by omega⟩, e, g⟩
    · exact ⟨(i : Nat), ⟨by omega, by omega⟩, e, g⟩
theorem suN_t {V : vS} {q : Nat} (hq : 146 ≤ q) {f : Int} (h5 : V (q + 5) f = 0) (h6 : V (q + 6) f = 0) (h7 : V (q + 7) f = -1) : ∀ i : Nat, suN V q i (q + 5) f = w32 (tSm V q (q + 2) f i) ∧ suN V q i (q + 6) f = w32 (sgm (fun j => pI (fmA V (q + 1) j = f) (lsX V q j)) i) ∧ isMx (tmS V q f (i : Int)) (suN V q i (q + 7) f) := by
  intro i
  induction i with
  | zero =>
    refine ⟨h5, h6, ?_⟩
    show isMx (tmS V q f ((0 : Nat) : Int)) (V (q + 7) f)
    rw [h7]
    refine ⟨Int.le_refl _, Or.inl rfl, fun c ⟨j, ⟨a, b⟩, _⟩ => ?_⟩
    omega
  | succ i ih =>
    obtain ⟨e5, e6, m⟩ := ih
    have c : ∀ (c : Nat) j, c ≠ q + 3 → c ≠ q + 5 → c ≠ q + 6 → c ≠ q + 7 → suN V q i c j = V c j := fun c j a b d f => suN_c a b d f i j
    have e : suN V q (i + 1) = suS (suN V q i) q (i : Nat) := rfl
    have g : fmA (suN V q i) (q + 1) (i : Nat) = fmA V (q + 1) (i : Nat) := fmA_c (fun j => c 17 j (by omega) (by omega) (by omega) (by omega)) (fun j => c (q + 1) j (by omega) (by omega) (by omega) (by omega))
    have l : min (suN V q i (q + 2) (i : Nat)) (msg (suN V q i) (suN V q i (q + 1) (i : Nat)) (suN V q i q 2) (suN V q i q 3) (suN V q i 16 3).toNat) = lsX V q (i : Nat) := by
      unfold lsX
      rw [c (q + 2) _ (by omega) (by omega) (by omega) (by omega), c (q + 1) _ (by omega) (by omega) (by omega) (by omega), c q _ (by omega) (by omega) (by omega) (by omega), c q _ (by omega) (by omega) (by omega) (by omega), c 16 _ (by omega) (by omega) (by omega) (by omega), msg_d (fun c' j h => c c' j (by omega) (by omega) (by omega) (by omega))]
    rw [e, suS_5, suS_6, suS_7, g, l, e5, e6, c (q + 2) _ (by omega) (by omega) (by omega) (by omega), c (q + 1) _ (by omega) (by omega) (by omega) (by omega)]
    have s5 : tSm V q (q + 2) f (i + 1) = tSm V q (q + 2) f i + pI (fmA V (q + 1) (i : Nat) = f) (V (q + 2) (i : Nat)) := rfl
    rw [s5, sgm_s]
    by_cases z : f = fmA V (q + 1) (i : Nat)
    · rw [if_pos z, if_pos z, if_pos z, pI_t z.symm, pI_t z.symm, w32_add, w32_add]
      refine ⟨rfl, rfl, ?_⟩
      obtain ⟨m1, m2, m3⟩ := m
      refine ⟨by omega, ?_, fun d hd => ?_⟩
      · by_cases w : V (q + 1) (i : Nat) ≤ suN V q i (q + 7) f
        · rw [Int.max_eq_left w]
          rcases m2 with m2 | m2
          · exact Or.inl m2
          · exact Or.inr (tmS_s.mpr (Or.inl m2))
        · rw [Int.max_eq_right (by omega)]
          exact Or.inr (tmS_s.mpr (Or.inr ⟨z.symm, rfl⟩))
      · rcases tmS_s.mp hd with hd | ⟨-, hd⟩
        · have := m3 d hd
          omega
        · omega
    · rw [if_neg z, if_neg z, if_neg z, pI_f (fun w => z w.symm), pI_f (fun w => z w.symm), Int.add_zero, Int.add_zero]
      refine ⟨rfl, rfl, m.1, ?_, fun d hd => ?_⟩
      · rcases m.2.1 with m2 | m2
        · exact Or.inl m2
        · exact Or.inr (tmS_s.mpr (Or.inl m2))
      · rcases tmS_s.mp hd with hd | ⟨hd, -⟩
        · exact m.2.2 d hd
        · exact absurd hd.symm z
def scK (V : vS) (q : Nat) (y k : Int) : Prop := (V q 2 = y ∧ V q 3 = k) ∧ lis V q y k ∧ (∀ i, 0 ≤ i → i < V q 5 → V (q + 2) i = szS V q i 24) ∧ (∀ y', 0 ≤ y' → y' < 24 → ∀ x, x < 32 → (tb (V (q + 4) y') x = true ↔ fltB V (q + 1) y' (V q 5) x)) ∧ (∀ i, 0 ≤ i → i < V q 5 → V (q + 3) i = min (V (q + 2) i) (msg V (V (q + 1) i) y k (V 16 3).toNat)) ∧ tot V q
theorem scK_c {V W : vS} {q : Nat} {y k : Int} (K : scK V q y k) (s : ∀ (c : Nat) j, (c = 5 ∨ c = 8 ∨ 16 ≤ c ∧ c ≤ 31 ∧ c ≠ 19 ∧ c ≠ 22) → W c j = V c j) (h : ∀ (c : Nat) j, q ≤ c → c ≤ q + 7 → W c j = V c j) : scK W q y k := by
  obtain ⟨a, ⟨b1, b2⟩, c, d, e, t⟩ := K
  have hq : ∀ j, W q j = V q j := fun j => h q j (by omega) (by omega)
  have h6 : ∀ j, W (q + 1) j = V (q + 1) j := fun j => h _ j (by omega) (by omega)
  have h7 : ∀ j, W (q + 2) j = V (q + 2) j := fun j => h _ j (by omega) (by omega)
  have h8 : ∀ j, W (q + 3) j = V (q + 3) j := fun j => h _ j (by omega) (by omega)
  have h9 : ∀ j, W (q + 4) j = V (q + 4) j := fun j => h _ j (by omega) (by omega)
  refine ⟨by rw [hq, hq]; exact a, ⟨?_, fun p pN z => ?_⟩, fun i i0 iN => ?_, fun y' y0 y1 x hx => ?_, fun i i0 iN => ?_, fun f f0 f1 => ?_⟩
  · rw [hq, s 16 1 (by decide), cnN_c s]
    exact b1
  · rw [s 16 1 (by decide)] at pN
    rw [cnN_c s, h6, s 21 _ (by decide)]
    exact b2 p pN ((cnt_c s _ _ _).mp z)
  · rw [hq] at iN
    rw [h7, szS_d s hq h6]
    exact c i i0 iN
  · rw [h9, hq]
    exact (d y' y0 y1 x hx).trans (fltB_c (fun j => s 8 j (by decide)) (fun j => s 17 j (by decide)) (fun j => s 18 j (by decide)) h6).symm
  · rw [hq] at iN
    rw [h8, h7, h6, s 16 3 (by decide), msg_d s]
    exact e i i0 iN
  · have g : ∀ i, fmA W (q + 1) i = fmA V (q + 1) i := fun i => fmA_c (fun j => s 17 j (by decide)) h6
    obtain ⟨t5, t6, t7⟩ := t f f0 f1
    rw [h (q + 5) f (by omega) (by omega), h (q + 6) f (by omega) (by omega), h (q + 7) f (by omega) (by omega), hq]
    unfold tSm tmS at *
    simp only [g, h6, h7, h8]
    exact ⟨t5, t6, t7⟩
theorem suN_l {V : vS} {q : Nat} (hq : 146 ≤ q) : ∀ n : Nat, ∀ i : Int, 0 ≤ i → i < (n : Int) → suN V q n (q + 3) i = min (V (q + 2) i) (msg V (V (q + 1) i) (V q 2) (V q 3) (V 16 3).toNat) := by
  intro n
  induction n with
  | zero => exact fun i a b => by omega
  | succ n ih =>
    intro i a b
    have e : suN V q (n + 1) = suS (suN V q n) q (n : Nat) := rfl
    have c : ∀ (c : Nat) j, c ≠ q + 3 → c ≠ q + 5 → c ≠ q + 6 → c ≠ q + 7 → suN V q n c j = V c j := fun c j a b d f => suN_c a b d f n j
    rw [e]
    unfold suS
    rw [up_c (by omega), up_c (by omega), up_c (by omega)]
    by_cases z : i = (n : Int)
    · rw [z, up_s, c (q + 2) _ (by omega) (by omega) (by omega) (by omega), c (q + 1) _ (by omega) (by omega) (by omega) (by omega), c q _ (by omega) (by omega) (by omega) (by omega), c q _ (by omega) (by omega) (by omega) (by omega), c 16 _ (by omega) (by omega) (by omega) (by omega), msg_d (fun c' j h => c c' j (by omega) (by omega) (by omega) (by omega))]
    · rw [up_j z]
      exact ih i a (by omega)
theorem scK_b {U V : vS} {q : Nat} {y k st : Int} (hq : 146 ≤ q) (R : R97 U q k st V) (q2 : U q 2 = y) : scK V q y k ∧ (∀ (c : Nat) j, c < q ∨ q + 7 < c → V c j = U c j) ∧ V q 4 = st := by
  obtain ⟨W, e, A, ⟨w3, w4, wr⟩, n, li, l, sz, fl⟩ := R
  have c : ∀ (c : Nat) j, c ≠ q + 3 → c ≠ q + 5 → c ≠ q + 6 → c ≠ q + 7 → V c j = W c j := fun c j a b d f => by rw [e]; exact suF_c a b d f j
  have cq : ∀ j, V q j = W q j := fun j => c q j (by omega) (by omega) (by omega) (by omega)
  have c1 : ∀ j, V (q + 1) j = W (q + 1) j := fun j => c _ j (by omega) (by omega) (by omega) (by omega)
  have c2 : ∀ j, V (q + 2) j = W (q + 2) j := fun j => c _ j (by omega) (by omega) (by omega) (by omega)
  have c4 : ∀ j, V (q + 4) j = W (q + 4) j := fun j => c _ j (by omega) (by omega) (by omega) (by omega)
  have W2 : W q 2 = y := (wr 2 (by decide) (by decide) (by decide)).trans q2
  have sU : ∀ (c : Nat) j, (c = 5 ∨ c = 8 ∨ 16 ≤ c ∧ c ≤ 31 ∧ c ≠ 19 ∧ c ≠ 22) → V c j = U c j := fun c' j h => (c c' j (by omega) (by omega) (by omega) (by omega)).trans (A c' j (by omega) (by omega) (by omega) (by omega))
  have sW : ∀ (c : Nat) j, (c = 5 ∨ c = 8 ∨ 16 ≤ c ∧ c ≤ 31 ∧ c ≠ 19 ∧ c ≠ 22) → V c j = W c j := fun c' j h => c c' j (by omega) (by omega) (by omega) (by omega)
  have K0 : lis V q y k := by
    refine ⟨?_, fun p pN z => ?_⟩
    · rw [cq, n, q2, cnN_c sU, sU 16 1 (by decide)]
    · rw [sU 16 1 (by decide)] at pN
      rw [cnN_c sU, c1, sU 21 _ (by decide), ← q2]
      exact li p pN (by rw [q2]; exact (cnt_c sU _ _ _).mp z)
  have lsE : ∀ i, 0 ≤ i → i < W q 5 → V (q + 3) i = lsX W q i := fun i i0 iN => by
    have l5 := l.2.1.1
    have g := suN_l (V := fillV (fillV (fillV W (q + 5) 0 150 0) (q + 6) 0 150 0) (q + 7) 0 150 (-1)) hq (W q 5).toNat i i0 (by omega)
    have f : ∀ (c : Nat) j, c ≠ q + 5 → c ≠ q + 6 → c ≠ q + 7 → fillV (fillV (fillV W (q + 5) 0 150 0) (q + 6) 0 150 0) (q + 7) 0 150 (-1) c j = W c j := fun c' j a b d => by rw [fillV_c d, fillV_c b, fillV_c a]
    rw [f (q + 2) _ (by omega) (by omega) (by omega), f (q + 1) _ (by omega) (by omega) (by omega), f q _ (by omega) (by omega) (by omega), f q _ (by omega) (by omega) (by omega), f 16 _ (by omega) (by omega) (by omega), msg_d (fun c' j h => f c' j (by omega) (by omega) (by omega))] at g
    rw [e]
    exact g
  refine ⟨⟨⟨by rw [cq, W2], by rw [cq, w3]⟩, K0, fun i i0 iN => ?_, fun y' y0 y1 x hx => ?_, fun i i0 iN => ?_, fun f f0 f1 => ?_⟩, fun c' j h => ?_, by rw [cq, w4]⟩
  · rw [cq] at iN
    rw [c2, szS_d sW cq c1]
    exact sz i i0 iN
  · rw [c4, cq]
    exact (fl y' y0 y1 x hx).trans (fltB_c (fun j => sW 8 j (by decide)) (fun j => sW 17 j (by decide)) (fun j => sW 18 j (by decide)) c1).symm
  · rw [cq] at iN
    rw [lsE i i0 iN, c2, c1, sW 16 3 (by decide), msg_d sW]
    unfold lsX
    rw [W2, w3]
  · have l5 := l.2.1.1
    have fl : ∀ (c : Nat) j, c ≠ q + 5 → c ≠ q + 6 → c ≠ q + 7 → fillV (fillV (fillV W (q + 5) 0 150 0) (q + 6) 0 150 0) (q + 7) 0 150 (-1) c j = W c j := fun c' j a b d => by rw [fillV_c d, fillV_c b, fillV_c a]
    have g := suN_t (V := fillV (fillV (fillV W (q + 5) 0 150 0) (q + 6) 0 150 0) (q + 7) 0 150 (-1)) hq (f := f) (by rw [fillV_c (by omega), fillV_c (by omega)]; exact if_pos ⟨rfl, f0, f1⟩) (by rw [fillV_c (by omega)]; exact if_pos ⟨rfl, f0, f1⟩) (if_pos ⟨rfl, f0, f1⟩) (W q 5).toNat
    have gm : ∀ i, fmA V (q + 1) i = fmA W (q + 1) i := fun i => fmA_c (fun j => sW 17 j (by decide)) c1
    have gf : ∀ i, fmA (fillV (fillV (fillV W (q + 5) 0 150 0) (q + 6) 0 150 0) (q + 7) 0 150 (-1)) (q + 1) i = fmA W (q + 1) i := fun i => fmA_c (fun j => fl 17 j (by omega) (by omega) (by omega)) (fun j => fl _ j (by omega) (by omega) (by omega))
    have lf : ∀ i, lsX (fillV (fillV (fillV W (q + 5) 0 150 0) (q + 6) 0 150 0) (q + 7) 0 150 (-1)) q i = lsX W q i := fun i => by
      unfold lsX
      rw [fl (q + 2) _ (by omega) (by omega) (by omega), fl (q + 1) _ (by omega) (by omega) (by omega), fl q _ (by omega) (by omega) (by omega), fl q _ (by omega) (by omega) (by omega), fl 16 _ (by omega) (by omega) (by omega), msg_d (fun c' j h => fl c' j (by omega) (by omega) (by omega))]
    obtain ⟨g5, g6, g7⟩ := g
    have v : ∀ (c : Nat) j, V c j = suN (fillV (fillV (fillV W (q + 5) 0 150 0) (q + 6) 0 150 0) (q + 7) 0 150 (-1)) q (W q 5).toNat c j := fun c j => by rw [e]; rfl
    rw [v (q + 5), v (q + 6), v (q + 7), g5, g6, cq]
    refine ⟨congrArg w32 ?_, congrArg w32 ?_, ?_⟩
    · unfold tSm
      refine sgm_c _ (fun j _ _ => pI_c (by rw [gf, gm]) (fun _ => ?_))
      rw [fl _ j (by omega) (by omega) (by omega), c2]
    · unfold tSm
      refine sgm_c _ (fun j a b => pI_c (by rw [gf, gm]) (fun _ => ?_))
      rw [lf, lsE j a (by omega)]
    · have t : ∀ c, tmS (fillV (fillV (fillV W (q + 5) 0 150 0) (q + 6) 0 150 0) (q + 7) 0 150 (-1)) q f (((W q 5).toNat : Nat) : Int) c ↔ tmS V q f (W q 5) c := fun c => by
        unfold tmS
        rw [show (((W q 5).toNat : Nat) : Int) = W q 5 by omega]
        simp only [gf, gm, c1, fl (q + 1) _ (show q + 1 ≠ q + 5 by omega) (show q + 1 ≠ q + 6 by omega) (show q + 1 ≠ q + 7 by omega)]
      exact ⟨g7.1, g7.2.1.imp id (fun z => (t _).mp z), fun d hd => g7.2.2 d ((t d).mpr hd)⟩
  · rw [c c' j (by omega) (by omega) (by omega) (by omega)]
    exact A c' j (by omega) (by omega) (by omega) (by omega)
end
section
-- ===== seasons: both sides =====
theorem cl1_u {V : vS} {f b y k c d : Int} (h : cl1 V f b y k c) (g : cl1 V f b y k d) (c0 : c < V 72 19) (d0 : d < V 72 19) : c = d := by
  obtain ⟨m, h1, h2, h3⟩ := h
  obtain ⟨m', g1, g2, g3⟩ := g
  rcases Int.lt_trichotomy c d with z | z | z
  · exact (mcn_u m m'.1 z d0 (by rw [h1, g1]) (by rw [h2, g2]) (by rw [h3, g3])).elim
  · exact z
  · exact (mcn_u m' m.1 z c0 (by rw [h1, g1]) (by rw [h2, g2]) (by rw [h3, g3])).elim
def JNum (V : vS) : Prop := (∀ j, 0 ≤ V 30 j ∧ V 30 j ≤ 576) ∧ JOut2 V ∧ JR24 V
theorem eq18 {V : vS} {q : Nat} {f b y k w r1 r2 i : Int} (E : EQ V) (O : JOut V) (K : JCtl V) (N : JNum V) (hl : ∀ c, 0 ≤ c → c < V 16 1 → lt1 V c = lt0 V c) (S : scK V q y k) (hw : 0 ≤ w ∧ w ≤ 4) (pl : plc V q f b i) (c : (i = -1 ∧ r1 = -2) ∨ (i ≠ -1 ∧ r1 = sval V q b i w)) (m : (r2 = -2 ∧ ∀ c, 0 ≤ c → c < V 72 19 → ¬ cl1 V f b y k c) ∨ ∃ c, (0 ≤ c ∧ c < V 72 19) ∧ cl1 V f b y k c ∧ r2 = cval V k c w) : r1 = r2 := by
  have E0 := E
  obtain ⟨C, B, Od, hd, r, r8, rf⟩ := E0
  obtain ⟨⟨q2, q3⟩, L, sz, fl, ls, -⟩ := S
  rcases pl with ⟨rfl, no⟩ | ⟨⟨i0, iN⟩, pf, pb'⟩
  · rcases c with ⟨-, rfl⟩ | ⟨z, -⟩
    · rcases m with ⟨rfl, -⟩ | ⟨c, n, h, -⟩
      · rfl
      · obtain ⟨p, pN, z, e, lt, s⟩ := li_m C B Od hd L n.1 n.2 ⟨h.1, h.2.2.2⟩
        refine absurd ⟨?_, ?_⟩ (no _ (by omega) lt)
        · unfold fmA
          rw [s, C.2.1]
          exact h.2.1
        · unfold fdA
          rw [s, C.2.2.1]
          exact h.2.2.1
    · exact absurd rfl z
  · rcases c with ⟨z, -⟩ | ⟨-, rfl⟩
    · omega
    · obtain ⟨p, pN, zc, ci, e⟩ := li_s L i0 iN
      have m0 := Od.1 (p : Nat) (by omega) pN
      have l0 := (cnt_l C B Od hd (by omega) pN).mp zc
      rw [← e] at m0 l0
      have n0 : V (q + 1) i < V 72 19 := by rw [← C.1]; exact m0.2
      unfold fmA at pf
      unfold fdA at pb'
      have h0 : cl1 V f b y k (V (q + 1) i) := ⟨l0.1, by rw [← C.2.1]; exact pf, by rw [← C.2.2.1]; exact pb', l0.2⟩
      rcases m with ⟨-, no⟩ | ⟨c, n, h, rfl⟩
      · exact absurd h0 (no _ m0.1 n0)
      · have ec := cl1_u h h0 n.2 n0
        subst ec
        have sv : V (q + 2) i = vG V k (V (q + 1) i) := by
          unfold vG
          rw [sz i i0 iN, l0.2]
          exact size_e E L O N.2.1 N.2.2 q2 q3 i0 iN 24 (Nat.le_refl _)
        have gb : 0 ≤ vG V k (V (q + 1) i) ∧ vG V k (V (q + 1) i) ≤ 576 := nQ_b _ 576
        have mb := msg_b N.1 (V (q + 1) i) y k (V 16 3).toNat
        have me : msg V (V (q + 1) i) y k (V 16 3).toNat = mmg V (V (q + 1) i) k (V 72 32).toNat := by
          rw [← l0.2, msg_e C K, K.1]
        unfold sval cval
        by_cases w0 : w = 0
        · rw [if_pos w0, if_pos w0, sv]
        · by_cases w1 : w = 1
          · rw [if_neg w0, if_pos w1, if_neg w0, if_pos w1, ls i i0 iN, sv]
            unfold vF
            rw [← me]
            generalize msg V (V (q + 1) i) y k (V 16 3).toNat = u at mb
            generalize vG V k (V (q + 1) i) = g at gb
            rw [w32_id (z := g - u) (by omega) (by omega), w32_id (by omega) (by omega)]
            split <;> omega
          · by_cases w2 : w = 2
            · rw [if_neg w0, if_neg w1, if_pos w2, if_neg w0, if_neg w1, if_pos w2, C.2.2.2.1]
            · by_cases w3 : w = 3
              · rw [if_neg w0, if_neg w1, if_neg w2, if_pos w3, if_neg w0, if_neg w1, if_neg w2, if_pos w3, ← pb']
                unfold vB
                rw [l0.2]
                exact bad_e E L N.2.2 fl 24 (Nat.le_refl _)
              · rw [if_neg w0, if_neg w1, if_neg w2, if_neg w3, if_neg w0, if_neg w1, if_neg w2, if_neg w3]
                exact hl _ m0.1 m0.2
end
section
-- ===== seasons: the order of the claims =====
def insr (V W : vS) (N f b : Int) : Prop := ∃ i, (0 ≤ i ∧ i ≤ N) ∧ (i = 0 ∨ ¬ bhd V (V 21 (i - 1)) f b) ∧ (∀ p, i ≤ p → p < N → bhd V (V 21 p) f b) ∧ (∀ j, 0 ≤ j → j < i → W 21 j = V 21 j) ∧ W 21 i = N ∧ ∀ j, i < j → j ≤ N → W 21 j = V 21 (j - 1)
theorem l_27o {X : aX} {V0 : vS} {N f b : Int} (hN : N < 300) : ∀ (n : Nat) (h : aH) (x1 x2 x3 x4 : Int32) (i : Int), wS h → x1.toInt = f → x2.toInt = b → x4.toInt = i → 0 ≤ i → i ≤ N → vw h 16 1 = N → (∀ (c : Nat) j, c ≠ 21 → vw h c j = V0 c j) → (∀ j, 0 ≤ j → j < i → vw h 21 j = V0 21 j) → (∀ j, i < j → j ≤ N → vw h 21 j = V0 21 (j - 1)) → (∀ p, i ≤ p → p < N → bhd V0 (V0 21 p) f b) → Pt n X zM27 62 [some (.ref 16), some (.int x1), some (.int x2), some (.int x3), some (.int x4)] [] h (qI (fun y h' => wS h' ∧ (y = w32 (N + 1) ∧ ∀ (c : Nat) j, c ≠ 21 → vw h' c j = up V0 16 1 (w32 (N + 1)) c j) ∧ insr V0 (vw h') N f b)) := by
  intro n
  induction n with
  | zero => exact fun _ _ _ _ _ _ _ _ _ _ _ _ _ _ _ _ _ => pt_z
  | succ n ih =>
    intro h x1 x2 x3 x4 i S h1 h2 h4 i0 iN hb F A B C
    have fin : (i = 0 ∨ ¬ bhd V0 (V0 21 (i - 1)) f b) → ∀ g : aH, wS g → vw g = up (up (vw h) 21 i (vw h 16 1)) 16 1 (w32 (vw h 16 1 + 1)) → (fun (y : Int) (h' : aH) => wS h' ∧ (y = w32 (N + 1) ∧ ∀ (c : Nat) j, c ≠ 21 → vw h' c j = up V0 16 1 (w32 (N + 1)) c j) ∧ insr V0 (vw h') N f b) (w32 (vw h 16 1 + 1)) g := by
      intro st g S2 eg
      refine ⟨S2, ⟨by rw [hb], fun c j c1 => ?_⟩, i, ⟨i0, iN⟩, st, C, fun j a b => ?_, ?_, fun j a b => ?_⟩
      · rw [eg, hb]
        unfold up
        by_cases q : c = 16 ∧ j = 1
        · rw [if_pos q, if_pos q]
        · rw [if_neg q, if_neg q, if_neg (fun z => c1 z.1), F c j c1]
      · rw [eg, up_c (by decide), up_j (by omega)]
        exact A j a b
      · rw [eg, up_c (by decide), up_s, hb]
      · rw [eg, up_c (by decide), up_j (by omega)]
        exact B j a b
    have ew : 0 < i → w32 (i - 1) = i - 1 := fun z => w32_id (by omega) (by omega)
    have eb : 0 < i → (bhd V0 (V0 21 (i - 1)) f b ↔ (f < vw h 17 (vw h 21 (w32 (i - 1))) ∨ (vw h 17 (vw h 21 (w32 (i - 1))) = f ∧ b < vw h 18 (vw h 21 (w32 (i - 1)))))) := fun z => by
      rw [ew z, F 17 _ (by decide), F 18 _ (by decide), A (i - 1) (by omega) (by omega)]
      exact Iff.rfl
    refine d27_62 S h1 h2 rfl h4 ⟨fun e p q g S2 eg => fin (Or.inl (by omega)) g S2 eg, fun e p q => ⟨fun e2 p3 q3 g S2 eg => fin (Or.inr (fun z => e2 ((eb e).mp z))) g S2 eg, fun e2 p3 q3 g S2 eg w4 g4 => ?_⟩⟩
    replace g4 := w_1 g4 (by omega) (by omega)
    rw [ew e] at eg
    refine ih g x1 x2 x3 w4 (i - 1) S2 h1 h2 (by omega) (by omega) (by omega) (by rw [eg, up_c (by decide)]; exact hb) (fun c j c1 => by rw [eg, up_c c1]; exact F c j c1) (fun j a b => by rw [eg, up_j (by omega)]; exact A j a (by omega)) (fun j a b => ?_) (fun p a b => ?_)
    · by_cases z : j = i
      · rw [z, eg, up_s]
        exact A (i - 1) (by omega) (by omega)
      · rw [eg, up_j z]
        exact B j (by omega) b
    · by_cases z : p = i - 1
      · rw [z]
        exact (eb e).mpr e2
      · exact C p (by omega) b
def clmV (V : vS) (f b c : Int) : vS := up (up (up (up V 17 (V 16 1) f) 18 (V 16 1) b) 19 (V 16 1) c) 20 (V 16 1) (V 1 0)
def RClo (V : vS) (f b c r : Int) (V' : vS) : Prop := RClm V f b c r V' ∧ (V 16 1 < 300 → insr (clmV V f b c) V' (V 16 1) f b)
theorem c_27o {n : Nat} {X : aX} {h : aH} {x1 x2 x3 : Int32} {a1 a2 a3 : Int} (S : wS h) (z1 : x1.toInt = a1) (z2 : x2.toInt = a2) (z3 : x3.toInt = a3) : Pt n X zM27 0 [some (.ref 16), some (.int x1), some (.int x2), some (.int x3), none] [] h (qI (fun y h' => wS h' ∧ RClo (vw h) a1 a2 a3 y (vw h'))) := by
  refine pt_d (d27_0 S z1 z2 z3 ⟨fun e => ⟨S, Or.inl ⟨e, rfl, rfl⟩, fun z => by omega⟩, fun e p q g S2 eg w4 h4 => ?_⟩)
  refine pt_q (l_27o (V0 := vw g) (N := vw h 16 1) e n g x1 x2 x3 w4 (vw h 16 1) S2 z1 z2 h4 p (Int.le_refl _) (by rw [eg, up_c (by decide), up_c (by decide), up_c (by decide), up_c (by decide)]) (fun _ _ _ => rfl) (fun _ _ _ => rfl) (fun j a b => by omega) (fun p a b => by omega)) ?_
  rintro v h' ⟨x, rfl, r1, ⟨r2, r3⟩, r4⟩
  refine ⟨x, rfl, r1, Or.inr ⟨p, q, r2, fun c j c1 => by rw [r3 c j c1, eg]⟩, fun _ => ?_⟩
  rw [eg] at r4
  exact r4
theorem ord_i {V V' : vS} {f b c : Int} (O : JOrd V) (N0 : 0 ≤ V 16 1) (hd : ∀ d, 0 ≤ d → d < V 16 1 → V 20 d ≤ V 1 0) (e : ∀ (c' : Nat) j, c' ≠ 21 → V' c' j = up (clmV V f b c) 16 1 (V 16 1 + 1) c' j) (I : insr (clmV V f b c) V' (V 16 1) f b) : JOrd V' := by
  obtain ⟨o1, o2, o3, o4⟩ := O
  obtain ⟨i, ⟨i0, iN⟩, st, hi, j1, j2, j3⟩ := I
  have u21 : ∀ j, clmV V f b c 21 j = V 21 j := fun j => by
    unfold clmV
    rw [up_c (by decide), up_c (by decide), up_c (by decide), up_c (by decide)]
  have n' : V' 16 1 = V 16 1 + 1 := by rw [e 16 1 (by decide), up_s]
  have u17 : ∀ d, clmV V f b c 17 d = if d = V 16 1 then f else V 17 d := fun d => by
    unfold clmV
    rw [up_c (by decide), up_c (by decide), up_c (by decide)]
    exact up_p
  have u18 : ∀ d, clmV V f b c 18 d = if d = V 16 1 then b else V 18 d := fun d => by
    unfold clmV
    rw [up_c (by decide), up_c (by decide), up_p, up_c (by decide)]
  have u20 : ∀ d, clmV V f b c 20 d = if d = V 16 1 then V 1 0 else V 20 d := fun d => by
    unfold clmV
    rw [up_p, up_c (by decide), up_c (by decide), up_c (by decide)]
  have old : ∀ d, 0 ≤ d → d < V 16 1 → V' 17 d = V 17 d ∧ V' 18 d = V 18 d ∧ V' 20 d = V 20 d := fun d a z => by
    rw [e 17 d (by decide), e 18 d (by decide), e 20 d (by decide), up_c (by decide), up_c (by decide), up_c (by decide), u17, u18, u20, if_neg (by omega), if_neg (by omega), if_neg (by omega)]
    exact ⟨rfl, rfl, rfl⟩
  have new : V' 17 (V 16 1) = f ∧ V' 18 (V 16 1) = b ∧ V' 20 (V 16 1) = V 1 0 := by
    rw [e 17 _ (by decide), e 18 _ (by decide), e 20 _ (by decide), up_c (by decide), up_c (by decide), up_c (by decide), u17, u18, u20, if_pos rfl, if_pos rfl, if_pos rfl]
    exact ⟨rfl, rfl, rfl⟩
  have lo : ∀ d d', (0 ≤ d ∧ d < V 16 1) → (0 ≤ d' ∧ d' < V 16 1) → lxl V d d' → lxl V' d d' := fun d d' a a' l => by
    unfold lxl at l ⊢
    rw [(old d a.1 a.2).1, (old d a.1 a.2).2.1, (old d' a'.1 a'.2).1, (old d' a'.1 a'.2).2.1]
    exact l
  -- the place of an old claim
  have at' : ∀ p, 0 ≤ p → p < V 16 1 + 1 → p ≠ i → ∃ o, (0 ≤ o ∧ o < V 16 1) ∧ V' 21 p = V 21 o ∧ (p < i ∧ o = p ∨ i < p ∧ o = p - 1) := fun p a z n => by
    rcases Int.lt_or_le p i with w | w
    · exact ⟨p, ⟨a, by omega⟩, by rw [j1 p a w, u21], Or.inl ⟨w, rfl⟩⟩
    · exact ⟨p - 1, ⟨by omega, by omega⟩, by rw [j3 p (by omega) (by omega), u21], Or.inr ⟨by omega, rfl⟩⟩
  have bh : ∀ o, 0 ≤ o → o < V 16 1 → (bhd (clmV V f b c) (clmV V f b c 21 o) f b ↔ bhd V (V 21 o) f b) := fun o a z => by
    have r := o1 o a z
    unfold bhd
    rw [u21, u17, u18, if_neg (by omega), if_neg (by omega)]
  refine ⟨fun p a z => ?_, fun p p' a z z' => ?_, fun d a z => ?_, fun d d' a z z' => ?_⟩
  · rw [n'] at z ⊢
    by_cases w : p = i
    · rw [w, j2]
      omega
    · obtain ⟨o, ho, eo, -⟩ := at' p a z w
      have := o1 o ho.1 ho.2
      rw [eo]
      omega
  · rw [n'] at z'
    by_cases w : p = i
    · obtain ⟨o, ho, eo, k⟩ := at' p' (by omega) z' (by omega)
      have r := o1 o ho.1 ho.2
      have h := (bh o ho.1 ho.2).mp (hi o (by omega) ho.2)
      rw [w, j2, eo]
      unfold lxl
      rw [new.1, new.2.1, (old _ r.1 r.2).1, (old _ r.1 r.2).2.1]
      unfold bhd at h
      omega
    · obtain ⟨o, ho, eo, k⟩ := at' p a (by omega) w
      have r := o1 o ho.1 ho.2
      by_cases w' : p' = i
      · rw [w', j2, eo]
        have k' : o = p ∧ p < i := by omega
        have nb : ¬ bhd V (V 21 (i - 1)) f b := by
          rcases st with q | q
          · omega
          · exact fun h => q ((bh (i - 1) (by omega) (by omega)).mpr h)
        have le : o = i - 1 ∨ lxl V (V 21 o) (V 21 (i - 1)) := by
          by_cases q : o = i - 1
          · exact Or.inl q
          · exact Or.inr (o2 o (i - 1) ho.1 (by omega) (by omega))
        unfold lxl
        rw [new.1, new.2.1, (old _ r.1 r.2).1, (old _ r.1 r.2).2.1]
        unfold bhd at nb
        rcases le with q | q
        · rw [q] at r ⊢
          omega
        · unfold lxl at q
          omega
      · obtain ⟨o', ho', eo', k'⟩ := at' p' (by omega) z' w'
        rw [eo, eo']
        exact lo _ _ r (o1 o' ho'.1 ho'.2) (o2 o o' ho.1 (by omega) ho'.2)
  · rw [n'] at z ⊢
    by_cases w : d = V 16 1
    · exact ⟨i, ⟨i0, by omega⟩, by rw [j2, w]⟩
    · obtain ⟨p, hp, ep⟩ := o3 d a (by omega)
      rcases Int.lt_or_le p i with q | q
      · exact ⟨p, ⟨hp.1, by omega⟩, by rw [j1 p hp.1 q, u21, ep]⟩
      · refine ⟨p + 1, ⟨by omega, by omega⟩, ?_⟩
        rw [j3 (p + 1) (by omega) (by omega), u21, show p + 1 - 1 = p by omega, ep]
  · rw [n'] at z'
    by_cases w : d' = V 16 1
    · rw [w, new.2.2]
      by_cases w2 : d = V 16 1
      · rw [w2, new.2.2]
        exact Int.le_refl _
      · rw [(old d a (by omega)).2.2]
        exact hd d a (by omega)
    · rw [(old d a (by omega)).2.2, (old d' (by omega) (by omega)).2.2]
      exact o4 d d' a z (by omega)
end

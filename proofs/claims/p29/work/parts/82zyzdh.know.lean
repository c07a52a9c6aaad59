-- ===== what is known of a farm =====
def R2 (h : aH) (f y t : Int) (h' : aH) : Prop := IV h' ∧ ∃ (q : Nat) (h1 h4 : aH) (r : Int), R1 h y t q h1 ∧ R3 (vw h1) q f r (vw h4) ∧ FC (vw h) f y t (nT (vw h4) q f y t r (vw h1 (q + 5) f)) (vw h')
theorem c_2 {n : Nat} {X : aX} {h : aH} {x1 x2 x3 : Int32} {a1 a2 a3 : Int} (S : wS h) (z1 : x1.toInt = a1) (z2 : x2.toInt = a2) (z3 : x3.toInt = a3) (hp : (IV h ∧ AP (vw h)) ∧ (0 ≤ a1 ∧ a1 < 150) ∧ (0 ≤ a2 ∧ a2 ≤ 9) ∧ vw h 1 6 ≤ 200 ∧ vw h 1 4 ≤ 150) : Pt n X zM2 0 [some (.ref 41), some (.int x1), some (.int x2), some (.int x3), none, none, none, none] [] h (qN (fun h' => wS h' ∧ R2 h a1 a2 a3 h')) := by
  obtain ⟨⟨I, A⟩, hf, hy, hh, hn⟩ := hp
  refine pt_d (d2_0 S z1 z2 z3 ⟨p1_any I a2, fun q1 h_1 R => ?_⟩)
  obtain ⟨S1, R⟩ := R
  have fg := R1_f R
  have I1 := IV_1 I R
  have sl := R1_PR I R
  have hq : 146 ≤ q1 := R.1.1
  have n5 : vw h_1 q1 5 ≤ 300 := (R1_k ⟨hy.1, by omega⟩ (p1_any I a2) (by
    by_cases z : vw h 42 a2 = (q1 : Int)
    · exact Or.inl (hn_IV I q1 ⟨a2, hy, z.symm⟩)
    · exact Or.inr z) R).2.1
  refine ⟨sl.2.2.2.2.2.2.1, fun _ => ⟨⟨⟨hq, ⟨⟨sl.2.1, sl.2.2.1⟩, sl.2.2.2.1⟩, n5⟩, I1⟩, fun y4 h_4 R4 _ _ => ?_⟩⟩
  obtain ⟨S4, R3', K4, I4⟩ := R4
  have f4 := R3'.1
  have q10 : ∀ W : vS, (∀ (c : Nat) j, c ≠ 43 → W c j = vw h_4 c j) → W q1 10 = ((q1 + 5 : Nat) : Int) ∧ W q1 11 = ((q1 + 6 : Nat) : Int) ∧ W q1 12 = ((q1 + 7 : Nat) : Int) := fun W e => by
    rw [e q1 10 (by omega), e q1 11 (by omega), e q1 12 (by omega), f4 q1 10 (by omega), f4 q1 11 (by omega), f4 q1 12 (by omega)]
    exact ⟨sl.2.2.2.2.2.2.1, sl.2.2.2.2.2.2.2.1, sl.2.2.2.2.2.2.2.2⟩
  -- behind all twelve
  have fin : ∀ (g4 g5 : aH) (v : Int), wS g5 → hk h_4 g5 → Kn (vw h_4) (nT (vw h_4) q1 a1 a2 a3 y4 (vw h_1 (q1 + 5) a1)) 11 (vw g4) → v = bI (cPrv (vw h_4) a1 a2 a3) → vw g5 = up (up (vw g4) 43 11 v) 43 12 0 → (∀ (w5 : Int32) (w6 : Int32) (w7 : Int32), w5.toInt = vw h_1 (q1 + 5) a1 → w6.toInt = y4 → w7.toInt = 0 → Pt n X zM2 238 [some (.ref 41), some (.int x1), some (.int x2), some (.int x3), some (.ref q1), some (.int w5), some (.int w6), some (.int w7)] [] g5 (qN (fun h' => wS h' ∧ R2 h a1 a2 a3 h'))) := fun g4 g5 v S5 K5 k11 ev e5 w5 w6 w7 g5' g6' g7' => by
    have k12 : Kn (vw h_4) (nT (vw h_4) q1 a1 a2 a3 y4 (vw h_1 (q1 + 5) a1)) 12 (up (vw g4) 43 11 v) := Kn_s k11 (by rw [nT_11]; exact ev)
    have fr : ∀ (c : Nat) j, c ≠ 43 → vw g5 c j = vw h_4 c j := fun c j u => by
      rw [e5, up_c u]
      exact k12.1 c j u
    refine pt_q (l_2 (T := nT (vw h_4) q1 a1 a2 a3 y4 (vw h_1 (q1 + 5) a1)) A hf hy n g5 x1 x2 x3 w5 w6 w7 q1 0 S5 (IV_43 I4 K5 fr) z1 z2 z3 g7' hy.1 (fun c j u v w x => (fr c j w).trans ((f4 c j x).trans (fg c j u v))) (fun j u v => by rw [e5, up_j (by omega)]; exact k12.2 j u v) (by rw [e5, up_s]; rfl)) ?_
    rintro v' h' ⟨ev', S', I', F'⟩
    exact ⟨ev', S', I', q1, h_1, h_4, y4, R, R3', F'⟩
  -- behind the late days
  have tail : ∀ g : aH, hk h_4 g → Kn (vw h_4) (nT (vw h_4) q1 a1 a2 a3 y4 (vw h_1 (q1 + 5) a1)) 8 (vw g) → ((PR102 (vw g) q1) ∧ ∀ g3 : aH, wS g3 → vw g3 = up (vw g) 43 8 (cErr (vw g) q1 a1) → hk g g3 → ((vw g3 1 6 ≤ 200 ∧ vw g3 1 4 ≤ 150) ∧ ∀ g4 : aH, wS g4 → vw g4 = up (up (vw g3) 43 9 (nQ (fun i => cHold (vw g3) ((vw g3) 6 i) (ldY a2) a3 = a1) ((vw g3) 1 4).toNat)) 43 10 0 → hk g3 g4 → ((¬ (cPrv (vw g4) a1 a2 a3) → ∀ g5 : aH, wS g5 → vw g5 = up (up (vw g4) 43 11 0) 43 12 0 → hk g4 g5 → (∀ (w5 : Int32) (w6 : Int32) (w7 : Int32), w5.toInt = vw h_1 (q1 + 5) a1 → w6.toInt = y4 → w7.toInt = 0 → Pt n X zM2 238 [some (.ref 41), some (.int x1), some (.int x2), some (.int x3), some (.ref q1), some (.int w5), some (.int w6), some (.int w7)] [] g5 (qN (fun h' => wS h' ∧ R2 h a1 a2 a3 h')))) ∧ ((cPrv (vw g4) a1 a2 a3) → ∀ g5 : aH, wS g5 → vw g5 = up (up (vw g4) 43 11 1) 43 12 0 → hk g4 g5 → (∀ (w5 : Int32) (w6 : Int32) (w7 : Int32), w5.toInt = vw h_1 (q1 + 5) a1 → w6.toInt = y4 → w7.toInt = 0 → Pt n X zM2 238 [some (.ref 41), some (.int x1), some (.int x2), some (.int x3), some (.ref q1), some (.int w5), some (.int w6), some (.int w7)] [] g5 (qN (fun h' => wS h' ∧ R2 h a1 a2 a3 h'))))))) := fun g Kg k8 => by
    have Q := q10 (vw g) k8.1
    refine ⟨⟨Q.1, Q.2.1⟩, fun g3 S3 e3 K3 => ?_⟩
    have k9 : Kn (vw h_4) (nT (vw h_4) q1 a1 a2 a3 y4 (vw h_1 (q1 + 5) a1)) 9 (vw g3) := by
      rw [e3]
      refine Kn_s k8 ?_
      rw [nT_8]
      unfold cErr
      rw [k8.1 (q1 + 5) _ (by omega), k8.1 (q1 + 6) _ (by omega)]
    have b1 : ∀ j, vw g3 1 j = vw h 1 j := fun j => (k9.1 1 j (by decide)).trans ((f4 1 j (by decide)).trans (fg 1 j (by decide) (by decide)))
    refine ⟨⟨by rw [b1]; exact hh, by rw [b1]; exact hn⟩, fun g4 S4' e4 K4' => ?_⟩
    have k11 : Kn (vw h_4) (nT (vw h_4) q1 a1 a2 a3 y4 (vw h_1 (q1 + 5) a1)) 11 (vw g4) := by
      rw [e4]
      refine Kn_s (Kn_s k9 ?_) (by rw [nT_10])
      rw [nT_9, k9.1 1 4 (by decide)]
      refine nQ_c _ (fun i _ _ => ?_)
      rw [cHold_f (fun c j u => k9.1 c j (by omega)), k9.1 6 _ (by decide)]
    have pv : cPrv (vw g4) a1 a2 a3 ↔ cPrv (vw h_4) a1 a2 a3 := by
      unfold cPrv
      rw [k11.1 32 _ (by decide)]
    exact ⟨fun z g5 S5 e5 K5 => fin g4 g5 0 S5 (hk_t (hk_t (hk_t Kg K3) K4') K5) k11 (bI_f (fun w => z (pv.mpr w))).symm e5, fun z g5 S5 e5 K5 => fin g4 g5 1 S5 (hk_t (hk_t (hk_t Kg K3) K4') K5) k11 (bI_t (pv.mp z)).symm e5⟩
  -- behind the seventh name
  have mid : ∀ (b : aH) (U : vS), hk h_4 b → Kn (vw h_4) (nT (vw h_4) q1 a1 a2 a3 y4 (vw h_1 (q1 + 5) a1)) 7 U → (U q1 12 = (((q1 + 7) : Nat) : Int) ∧ (0 ≤ a1 → ((U (q1 + 7) a1 ≠ (-1) → (U q1 12 = (((q1 + 7) : Nat) : Int) ∧ (0 ≤ a1 → ∀ g1 : aH, wS g1 → vw g1 = U → hk b g1 → ∀ g2 : aH, wS g2 → vw g2 = up (vw g1) 43 7 (lt1 (vw g1) (U (q1 + 7) a1)) → hk g1 g2 → ((PR102 (vw g2) q1) ∧ ∀ g3 : aH, wS g3 → vw g3 = up (vw g2) 43 8 (cErr (vw g2) q1 a1) → hk g2 g3 → ((vw g3 1 6 ≤ 200 ∧ vw g3 1 4 ≤ 150) ∧ ∀ g4 : aH, wS g4 → vw g4 = up (up (vw g3) 43 9 (nQ (fun i => cHold (vw g3) ((vw g3) 6 i) (ldY a2) a3 = a1) ((vw g3) 1 4).toNat)) 43 10 0 → hk g3 g4 → ((¬ (cPrv (vw g4) a1 a2 a3) → ∀ g5 : aH, wS g5 → vw g5 = up (up (vw g4) 43 11 0) 43 12 0 → hk g4 g5 → (∀ (w5 : Int32) (w6 : Int32) (w7 : Int32), w5.toInt = vw h_1 (q1 + 5) a1 → w6.toInt = y4 → w7.toInt = 0 → Pt n X zM2 238 [some (.ref 41), some (.int x1), some (.int x2), some (.int x3), some (.ref q1), some (.int w5), some (.int w6), some (.int w7)] [] g5 (qN (fun h' => wS h' ∧ R2 h a1 a2 a3 h')))) ∧ ((cPrv (vw g4) a1 a2 a3) → ∀ g5 : aH, wS g5 → vw g5 = up (up (vw g4) 43 11 1) 43 12 0 → hk g4 g5 → (∀ (w5 : Int32) (w6 : Int32) (w7 : Int32), w5.toInt = vw h_1 (q1 + 5) a1 → w6.toInt = y4 → w7.toInt = 0 → Pt n X zM2 238 [some (.ref 41), some (.int x1), some (.int x2), some (.int x3), some (.ref q1), some (.int w5), some (.int w6), some (.int w7)] [] g5 (qN (fun h' => wS h' ∧ R2 h a1 a2 a3 h')))))))))) ∧ (U (q1 + 7) a1 = (-1) → ∀ g2 : aH, wS g2 → vw g2 = up U 43 7 0 → hk b g2 → ((PR102 (vw g2) q1) ∧ ∀ g3 : aH, wS g3 → vw g3 = up (vw g2) 43 8 (cErr (vw g2) q1 a1) → hk g2 g3 → ((vw g3 1 6 ≤ 200 ∧ vw g3 1 4 ≤ 150) ∧ ∀ g4 : aH, wS g4 → vw g4 = up (up (vw g3) 43 9 (nQ (fun i => cHold (vw g3) ((vw g3) 6 i) (ldY a2) a3 = a1) ((vw g3) 1 4).toNat)) 43 10 0 → hk g3 g4 → ((¬ (cPrv (vw g4) a1 a2 a3) → ∀ g5 : aH, wS g5 → vw g5 = up (up (vw g4) 43 11 0) 43 12 0 → hk g4 g5 → (∀ (w5 : Int32) (w6 : Int32) (w7 : Int32), w5.toInt = vw h_1 (q1 + 5) a1 → w6.toInt = y4 → w7.toInt = 0 → Pt n X zM2 238 [some (.ref 41), some (.int x1), some (.int x2), some (.int x3), some (.ref q1), some (.int w5), some (.int w6), some (.int w7)] [] g5 (qN (fun h' => wS h' ∧ R2 h a1 a2 a3 h')))) ∧ ((cPrv (vw g4) a1 a2 a3) → ∀ g5 : aH, wS g5 → vw g5 = up (up (vw g4) 43 11 1) 43 12 0 → hk g4 g5 → (∀ (w5 : Int32) (w6 : Int32) (w7 : Int32), w5.toInt = vw h_1 (q1 + 5) a1 → w6.toInt = y4 → w7.toInt = 0 → Pt n X zM2 238 [some (.ref 41), some (.int x1), some (.int x2), some (.int x3), some (.ref q1), some (.int w5), some (.int w6), some (.int w7)] [] g5 (qN (fun h' => wS h' ∧ R2 h a1 a2 a3 h'))))))))))) := fun b U Kb k7 => by
    have Q := q10 U k7.1
    have u7 : U (q1 + 7) a1 = vw h_4 (q1 + 7) a1 := k7.1 (q1 + 7) _ (by omega)
    refine ⟨Q.2.2, fun _ => ⟨fun z => ⟨Q.2.2, fun _ g1 _ e1 K1 g2 _ e2 K2 => tail g2 (hk_t (hk_t Kb K1) K2) ?_⟩, fun z g2 _ e2 K2 => tail g2 (hk_t Kb K2) ?_⟩⟩
    · rw [e2, e1]
      refine Kn_s k7 ?_
      rw [nT_7, ← u7, if_neg z, lt1_k (V := vw h_4) (fun c j u => k7.1 c j (by omega))]
    · rw [e2]
      refine Kn_s k7 ?_
      rw [nT_7, ← u7, if_pos z]
  have s3 : (up (up (up (vw h_4) 43 0 a2) 43 1 (vw h_4 2 a1)) 43 2 (vw h_1 (q1 + 5) a1)) (q1 + 6) a1 = vw h_4 (q1 + 6) a1 := by rw [up_c (by omega), up_c (by omega), up_c (by omega)]
  have five : ∀ (W : vS) (v : Int), v = nT (vw h_4) q1 a1 a2 a3 y4 (vw h_1 (q1 + 5) a1) 4 → W = up (up (up (up (up (vw h_4) 43 0 a2) 43 1 (vw h_4 2 a1)) 43 2 (vw h_1 (q1 + 5) a1)) 43 3 (w32 ((vw h_1 (q1 + 5) a1) - ((up (up (up (vw h_4) 43 0 a2) 43 1 (vw h_4 2 a1)) 43 2 (vw h_1 (q1 + 5) a1)) (q1 + 6) a1)))) 43 4 v → Kn (vw h_4) (nT (vw h_4) q1 a1 a2 a3 y4 (vw h_1 (q1 + 5) a1)) 5 W := fun W v ev eW => by
    rw [eW, s3]
    exact Kn_s (m := 4) (Kn_s (m := 3) (Kn_s (m := 2) (Kn_s (m := 1) (Kn_s (m := 0) (Kn_0 _ _) (nT_0 _ _ _ _ _ _ _).symm) (nT_1 _ _ _ _ _ _ _).symm) (nT_2 _ _ _ _ _ _ _).symm) (nT_3 _ _ _ _ _ _ _).symm) ev
  have six : ∀ W : vS, Kn (vw h_4) (nT (vw h_4) q1 a1 a2 a3 y4 (vw h_1 (q1 + 5) a1)) 5 W → Kn (vw h_4) (nT (vw h_4) q1 a1 a2 a3 y4 (vw h_1 (q1 + 5) a1)) 6 (up W 43 5 (nQ (fun j => 0 < W 44 j) 8)) := fun W k5 => Kn_s (m := 5) k5 (by
    rw [nT_5]
    exact nQ_c 8 (fun j _ _ => by rw [k5.1 44 j (by decide)]))
  refine ⟨by rw [up_c (by omega), up_c (by omega), up_c (by omega)]; exact (q10 (vw h_4) (fun _ _ _ => rfl)).2.1, fun _ => ⟨fun s1 g _ eg K => ⟨fun s2 b _ eb Kb => ?_, fun s2 => absurd s2 s1⟩, fun s1 g _ eg K => ⟨fun s2 => absurd s1 s2, fun s2 => ?_⟩⟩⟩
  · have k5 := five (vw g) _ (by rw [nT_4, if_neg s1]) eg
    have k6 := six (vw g) k5
    rw [← eb] at k6
    exact mid b _ (hk_t K Kb) (Kn_s (m := 6) k6 (by
      rw [nT_6, if_neg s1]
      rw [mxN_c (f := fun j => vw b 44 j) (g := fun j => vw h_4 44 j) 8 (fun j _ _ => k6.1 44 j (by decide))]))
  · have k5 := five (vw g) _ (by rw [nT_4, if_pos s1]) eg
    exact mid g _ K (Kn_s (m := 6) (six (vw g) k5) (by rw [nT_6, if_pos s1]))


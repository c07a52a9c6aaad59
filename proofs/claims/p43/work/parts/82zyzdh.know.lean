-- ===== 82zyzdh.know: 6 texts =====
section
-- ===== what is known of a farm =====
def R2 (h : aH) (f y t : Int) (h' : aH) : Prop := IV h' ∧ ∃ (q : Nat) (h1 h4 : aH) (r : Int), R1 h y t q h1 ∧ R3 (vw h1) q f r (vw h4) ∧ FC (vw h) f y t (nT (vw h4) q f y t r (vw h1 (q + 5) f)) (vw h')
theorem c_2 {n : Nat} {X : aX} {h : aH} {x1 x2 x3 : Int32} {a1 a2 a3 : Int} (S : wS h) (z1 : x1.toInt = a1) (z2 : x2.toInt = a2) (z3 : x3.toInt = a3) (hp : (IV h ∧ AP (vw h)) ∧ (0 ≤ a1 ∧ a1 < 150) ∧ (0 ≤ a2 ∧ a2 ≤ 9) ∧ vw h 1 6 ≤ 200 ∧ vw h 1 4 ≤ 150) : Pt n X zM2 0 [some (.ref 41), some (.int x1), some (.int x2), some (.int x3), none, none, none, none] [] h (qN (fun h' => wS h' ∧ R2 h a1 a2 a3 h')) := by
  obtain ⟨⟨I, A⟩, hf, hy, hh, hn⟩ := hp
  refine pt_d (d2_0 S z1 z2 z3 ⟨p1_any I a2, fun q1 h_1 R => ?_⟩)
  obtain ⟨S1, R⟩ := R
  have fg := R1_f R
  have I1 := IV_1 I R
  have sl := R1_PR I R
  have hq : 146 ≤ q1 := R.1.1
  have n5 : vw h_1 q1 5 ≤ 300 := (R1_k ⟨hy.1, by omega⟩ (p1_any I a2) (by
    by_cases z : vw h 42 a2 = (q1 : Int)
    · exact Or.inl (hn_IV I q1 ⟨a2, hy, z.symm⟩)
    · exact Or.inr z) R).2.1
  refine ⟨sl.2.2.2.2.2.2.1, fun _ => ⟨⟨⟨hq, ⟨⟨sl.2.1, sl.2.2.1⟩, sl.2.2.2.1⟩, n5⟩, I1⟩, fun y4 h_4 R4 _ _ => ?_⟩⟩
  obtain ⟨S4, R3', K4, I4⟩ := R4
  have f4 := R3'.1
  have q10 : ∀ W : vS, (∀ (c : Nat) j, c ≠ 43 → W c j = vw h_4 c j) → W q1 10 = ((q1 + 5 : Nat) : Int) ∧ W q1 11 = ((q1 + 6 : Nat) : Int) ∧ W q1 12 = ((q1 + 7 : Nat) : Int) := fun W e => by
    rw [e q1 10 (by omega), e q1 11 (by omega), e q1 12 (by omega), f4 q1 10 (by omega), f4 q1 11 (by omega), f4 q1 12 (by omega)]
    exact ⟨sl.2.2.2.2.2.2.1, sl.2.2.2.2.2.2.2.1, sl.2.2.2.2.2.2.2.2⟩
  -- behind all twelve
  have fin : ∀ (g4 g5 : aH) (v : Int), wS g5 → hk h_4 g5 → Kn (vw h_4) (nT (vw h_4) q1 a1 a2 a3 y4 (vw h_1 (q1 + 5) a1)) 11 (vw g4) → v = bI (cPrv (vw h_4) a1 a2 a3) → vw g5 = up (up (vw g4) 43 11 v) 43 12 0 → (∀ (w5 : Int32) (w6 : Int32) (w7 : Int32), w5.toInt = vw h_1 (q1 + 5) a1 → w6.toInt = y4 → w7.toInt = 0 → Pt n X zM2 238 [some (.ref 41), some (.int x1), some (.int x2), some (.int x3), some (.ref q1), some (.int w5), some (.int w6), some (.int w7)] [] g5 (qN (fun h' => wS h' ∧ R2 h a1 a2 a3 h'))) := fun g4 g5 v S5 K5 k11 ev e5 w5 w6 w7 g5' g6' g7' => by
    have k12 : Kn (vw h_4) (nT (vw h_4) q1 a1 a2 a3 y4 (vw h_1 (q1 + 5) a1)) 12 (up (vw g4) 43 11 v) := Kn_s k11 (by rw [nT_11]; exact ev)
    have fr : ∀ (c : Nat) j, c ≠ 43 → vw g5 c j = vw h_4 c j := fun c j u => by
      rw [e5, up_c u]
      exact k12.1 c j u
    refine pt_q (l_2 (T := nT (vw h_4) q1 a1 a2 a3 y4 (vw h_1 (q1 + 5) a1)) A hf hy n g5 x1 x2 x3 w5 w6 w7 q1 0 S5 (IV_43 I4 K5 fr) z1 z2 z3 g7' hy.1 (fun c j u v w x => (fr c j w).trans ((f4 c j x).trans (fg c j u v))) (fun j u v => by rw [e5, up_j (by omega)]; exact k12.2 j u v) (by rw [e5, up_s]; rfl)) ?_
    rintro v' h' ⟨ev', S', I', F'⟩
    exact ⟨ev', S', I', q1, h_1, h_4, y4, R, R3', F'⟩
  -- behind the late days
  have tail : ∀ g : aH, hk h_4 g → Kn (vw h_4) (nT (vw h_4) q1 a1 a2 a3 y4 (vw h_1 (q1 + 5) a1)) 8 (vw g) → ((PR102 (vw g) q1) ∧ ∀ g3 : aH, wS g3 → vw g3 = up (vw g) 43 8 (cErr (vw g) q1 a1) → hk g g3 → ((vw g3 1 6 ≤ 200 ∧ vw g3 1 4 ≤ 150) ∧ ∀ g4 : aH, wS g4 → vw g4 = up (up (vw g3) 43 9 (nQ (fun i => cHold (vw g3) ((vw g3) 6 i) (ldY a2) a3 = a1) ((vw g3) 1 4).toNat)) 43 10 0 → hk g3 g4 → ((¬ (cPrv (vw g4) a1 a2 a3) → ∀ g5 : aH, wS g5 → vw g5 = up (up (vw g4) 43 11 0) 43 12 0 → hk g4 g5 → (∀ (w5 : Int32) (w6 : Int32) (w7 : Int32), w5.toInt = vw h_1 (q1 + 5) a1 → w6.toInt = y4 → w7.toInt = 0 → Pt n X zM2 238 [some (.ref 41), some (.int x1), some (.int x2), some (.int x3), some (.ref q1), some (.int w5), some (.int w6), some (.int w7)] [] g5 (qN (fun h' => wS h' ∧ R2 h a1 a2 a3 h')))) ∧ ((cPrv (vw g4) a1 a2 a3) → ∀ g5 : aH, wS g5 → vw g5 = up (up (vw g4) 43 11 1) 43 12 0 → hk g4 g5 → (∀ (w5 : Int32) (w6 : Int32) (w7 : Int32), w5.toInt = vw h_1 (q1 + 5) a1 → w6.toInt = y4 → w7.toInt = 0 → Pt n X zM2 238 [some (.ref 41), some (.int x1), some (.int x2), some (.int x3), some (.ref q1), some (.int w5), some (.int w6), some (.int w7)] [] g5 (qN (fun h' => wS h' ∧ R2 h a1 a2 a3 h'))))))) := fun g Kg k8 => by
    have Q := q10 (vw g) k8.1
    refine ⟨⟨Q.1, Q.2.1⟩, fun g3 S3 e3 K3 => ?_⟩
    have k9 : Kn (vw h_4) (nT (vw h_4) q1 a1 a2 a3 y4 (vw h_1 (q1 + 5) a1)) 9 (vw g3) := by
      rw [e3]
      refine Kn_s k8 ?_
      rw [nT_8]
      unfold cErr
      rw [k8.1 (q1 + 5) _ (by omega), k8.1 (q1 + 6) _ (by omega)]
    have b1 : ∀ j, vw g3 1 j = vw h 1 j := fun j => (k9.1 1 j (by decide)).trans ((f4 1 j (by decide)).trans (fg 1 j (by decide) (by decide)))
    refine ⟨⟨by rw [b1]; exact hh, by rw [b1]; exact hn⟩, fun g4 S4' e4 K4' => ?_⟩
    have k11 : Kn (vw h_4) (nT (vw h_4) q1 a1 a2 a3 y4 (vw h_1 (q1 + 5) a1)) 11 (vw g4) := by
      rw [e4]
      refine Kn_s (Kn_s k9 ?_) (by rw [nT_10])
      rw [nT_9, k9.1 1 4 (by decide)]
      refine nQ_c _ (fun i _ _ => ?_)
      rw [cHold_f (fun c j u => k9.1 c j (by omega)), k9.1 6 _ (by decide)]
    have pv : cPrv (vw g4) a1 a2 a3 ↔ cPrv (vw h_4) a1 a2 a3 := by
      unfold cPrv
      rw [k11.1 32 _ (by decide)]
    exact ⟨fun z g5 S5 e5 K5 => fin g4 g5 0 S5 (hk_t (hk_t (hk_t Kg K3) K4') K5) k11 (bI_f (fun w => z (pv.mpr w))).symm e5, fun z g5 S5 e5 K5 => fin g4 g5 1 S5 (hk_t (hk_t (hk_t Kg K3) K4') K5) k11 (bI_t (pv.mp z)).symm e5⟩
  -- behind the seventh name
  have mid : ∀ (b : aH) (U : vS), hk h_4 b → Kn (vw h_4) (nT (vw h_4) q1 a1 a2 a3 y4 (vw h_1 (q1 + 5) a1)) 7 U → (U q1 12 = (((q1 + 7) : Nat) : Int) ∧ (0 ≤ a1 → ((U (q1 + 7) a1 ≠ (-1) → (U q1 12 = (((q1 + 7) : Nat) : Int) ∧ (0 ≤ a1 → ∀ g1 : aH, wS g1 → vw g1 = U → hk b g1 → ∀ g2 : aH, wS g2 → vw g2 = up (vw g1) 43 7 (lt1 (vw g1) (U (q1 + 7) a1)) → hk g1 g2 → ((PR102 (vw g2) q1) ∧ ∀ g3 : aH, wS g3 → vw g3 = up (vw g2) 43 8 (cErr (vw g2) q1 a1) → hk g2 g3 → ((vw g3 1 6 ≤ 200 ∧ vw g3 1 4 ≤ 150) ∧ ∀ g4 : aH, wS g4 → vw g4 = up (up (vw g3) 43 9 (nQ (fun i => cHold (vw g3) ((vw g3) 6 i) (ldY a2) a3 = a1) ((vw g3) 1 4).toNat)) 43 10 0 → hk g3 g4 → ((¬ (cPrv (vw g4) a1 a2 a3) → ∀ g5 : aH, wS g5 → vw g5 = up (up (vw g4) 43 11 0) 43 12 0 → hk g4 g5 → (∀ (w5 : Int32) (w6 : Int32) (w7 : Int32), w5.toInt = vw h_1 (q1 + 5) a1 → w6.toInt = y4 → w7.toInt = 0 → Pt n X zM2 238 [some (.ref 41), some (.int x1), some (.int x2), some (.int x3), some (.ref q1), some (.int w5), some (.int w6), some (.int w7)] [] g5 (qN (fun h' => wS h' ∧ R2 h a1 a2 a3 h')))) ∧ ((cPrv (vw g4) a1 a2 a3) → ∀ g5 : aH, wS g5 → vw g5 = up (up (vw g4) 43 11 1) 43 12 0 → hk g4 g5 → (∀ (w5 : Int32) (w6 : Int32) (w7 : Int32), w5.toInt = vw h_1 (q1 + 5) a1 → w6.toInt = y4 → w7.toInt = 0 → Pt n X zM2 238 [some (.ref 41), some (.int x1), some (.int x2), some (.int x3), some (.ref q1), some (.int w5), some (.int w6), some (.int w7)] [] g5 (qN (fun h' => wS h' ∧ R2 h a1 a2 a3 h')))))))))) ∧ (U (q1 + 7) a1 = (-1) → ∀ g2 : aH, wS g2 → vw g2 = up U 43 7 0 → hk b g2 → ((PR102 (vw g2) q1) ∧ ∀ g3 : aH, wS g3 → vw g3 = up (vw g2) 43 8 (cErr (vw g2) q1 a1) → hk g2 g3 → ((vw g3 1 6 ≤ 200 ∧ vw g3 1 4 ≤ 150) ∧ ∀ g4 : aH, wS g4 → vw g4 = up (up (vw g3) 43 9 (nQ (fun i => cHold (vw g3) ((vw g3) 6 i) (ldY a2) a3 = a1) ((vw g3) 1 4).toNat)) 43 10 0 → hk g3 g4 → ((¬ (cPrv (vw g4) a1 a2 a3) → ∀ g5 : aH, wS g5 → vw g5 = up (up (vw g4) 43 11 0) 43 12 0 → hk g4 g5 → (∀ (w5 : Int32) (w6 : Int32) (w7 : Int32), w5.toInt = vw h_1 (q1 + 5) a1 → w6.toInt = y4 → w7.toInt = 0 → Pt n X zM2 238 [some (.ref 41), some (.int x1), some (.int x2), some (.int x3), some (.ref q1), some (.int w5), some (.int w6), some (.int w7)] [] g5 (qN (fun h' => wS h' ∧ R2 h a1 a2 a3 h')))) ∧ ((cPrv (vw g4) a1 a2 a3) → ∀ g5 : aH, wS g5 → vw g5 = up (up (vw g4) 43 11 1) 43 12 0 → hk g4 g5 → (∀ (w5 : Int32) (w6 : Int32) (w7 : Int32), w5.toInt = vw h_1 (q1 + 5) a1 → w6.toInt = y4 → w7.toInt = 0 → Pt n X zM2 238 [some (.ref 41), some (.int x1), some (.int x2), some (.int x3), some (.ref q1), some (.int w5), some (.int w6), some (.int w7)] [] g5 (qN (fun h' => wS h' ∧ R2 h a1 a2 a3 h'))))))))))) := fun b U Kb k7 => by
    have Q := q10 U k7.1
    have u7 : U (q1 + 7) a1 = vw h_4 (q1 + 7) a1 := k7.1 (q1 + 7) _ (by omega)
    refine ⟨Q.2.2, fun _ => ⟨fun z => ⟨Q.2.2, fun _ g1 _ e1 K1 g2 _ e2 K2 => tail g2 (hk_t (hk_t Kb K1) K2) ?_⟩, fun z g2 _ e2 K2 => tail g2 (hk_t Kb K2) ?_⟩⟩
    · rw [e2, e1]
      refine Kn_s k7 ?_
      rw [nT_7, ← u7, if_neg z, lt1_k (V := vw h_4) (fun c j u => k7.1 c j (by omega))]
    · rw [e2]
      refine Kn_s k7 ?_
      rw [nT_7, ← u7, if_pos z]
  have s3 : (up (up (up (vw h_4) 43 0 a2) 43 1 (vw h_4 2 a1)) 43 2 (vw h_1 (q1 + 5) a1)) (q1 + 6) a1 = vw h_4 (q1 + 6) a1 := by rw [up_c (by omega), up_c (by omega), up_c (by omega)]
  have five : ∀ (W : vS) (v : Int), v = nT (vw h_4) q1 a1 a2 a3 y4 (vw h_1 (q1 + 5) a1) 4 → W = up (up (up (up (up (vw h_4) 43 0 a2) 43 1 (vw h_4 2 a1)) 43 2 (vw h_1 (q1 + 5) a1)) 43 3 (w32 ((vw h_1 (q1 + 5) a1) - ((up (up (up (vw h_4) 43 0 a2) 43 1 (vw h_4 2 a1)) 43 2 (vw h_1 (q1 + 5) a1)) (q1 + 6) a1)))) 43 4 v → Kn (vw h_4) (nT (vw h_4) q1 a1 a2 a3 y4 (vw h_1 (q1 + 5) a1)) 5 W := fun W v ev eW => by
    rw [eW, s3]
    exact Kn_s (m := 4) (Kn_s (m := 3) (Kn_s (m := 2) (Kn_s (m := 1) (Kn_s (m := 0) (Kn_0 _ _) (nT_0 _ _ _ _ _ _ _).symm) (nT_1 _ _ _ _ _ _ _).symm) (nT_2 _ _ _ _ _ _ _).symm) (nT_3 _ _ _ _ _ _ _).symm) ev
  have six : ∀ W : vS, Kn (vw h_4) (nT (vw h_4) q1 a1 a2 a3 y4 (vw h_1 (q1 + 5) a1)) 5 W → Kn (vw h_4) (nT (vw h_4) q1 a1 a2 a3 y4 (vw h_1 (q1 + 5) a1)) 6 (up W 43 5 (nQ (fun j => 0 < W 44 j) 8)) := fun W k5 => Kn_s (m := 5) k5 (by
    rw [nT_5]
    exact nQ_c 8 (fun j _ _ => by rw [k5.1 44 j (by decide)]))
  refine ⟨by rw [up_c (by omega), up_c (by omega), up_c (by omega)]; exact (q10 (vw h_4) (fun _ _ _ => rfl)).2.1, fun _ => ⟨fun s1 g _ eg K => ⟨fun s2 b _ eb Kb => ?_, fun s2 => absurd s2 s1⟩, fun s1 g _ eg K => ⟨fun s2 => absurd s1 s2, fun s2 => ?_⟩⟩⟩
  · have k5 := five (vw g) _ (by rw [nT_4, if_neg s1]) eg
    have k6 := six (vw g) k5
    rw [← eb] at k6
    exact mid b _ (hk_t K Kb) (Kn_s (m := 6) k6 (by
      rw [nT_6, if_neg s1]
      rw [mxN_c (f := fun j => vw b 44 j) (g := fun j => vw h_4 44 j) 8 (fun j _ _ => k6.1 44 j (by decide))]))
  · have k5 := five (vw g) _ (by rw [nT_4, if_pos s1]) eg
    exact mid g _ K (Kn_s (m := 6) (six (vw g) k5) (by rw [nT_6, if_pos s1]))
end
section
-- ===== what is known of a farm =====
-- the names, as both sides have them
noncomputable def kEr (V : vS) (t y f : Int) : Int := if kS V t y f - kM V t y f = 0 then (if kS V t y f = 0 then 0 else 999) else min 999 (iDiv (100 * kM V t y f) (kS V t y f - kM V t y f))
def NMS (V : vS) (f y t : Int) (A : Int → Int) : Prop := (A 0 = y ∧ A 1 = V 2 f ∧ A 2 = kS V t y f ∧ A 3 = kS V t y f - kM V t y f) ∧ (A 4 = (if kS V t y f = 0 then 0 else iDiv (100 * kG V t y f) (kS V t y f)) ∧ A 5 = nQ (fun j => 0 < kC V t y f j) 8 ∧ A 6 = (if kS V t y f = 0 then 0 else iDiv (100 * mxN (fun j => kC V t y f j) 8) (kS V t y f))) ∧ (A 7 = (if kL V t y f < 0 then 0 else lt0 V (kL V t y f)) ∧ A 8 = kEr V t y f ∧ A 9 = nQ (fun b => V 73 b = 6 ∧ mHold V b (ldM y) t = f) (V 72 2).toNat) ∧ A 10 = 0 ∧ A 11 = bI (mPrv V f y t) ∧ A 12 = nQ (fun y' => 0 < kM V t y' f) y.toNat
theorem NMS_e {V : vS} {f y t : Int} {A B : Int → Int} (a : NMS V f y t A) (b : NMS V f y t B) : ∀ j, 0 ≤ j → j ≤ 12 → A j = B j := fun j h0 h1 => by
  obtain ⟨⟨a0, a1, a2, a3⟩, ⟨a4, a5, a6⟩, ⟨a7, a8, a9⟩, a10, a11, a12⟩ := a
  obtain ⟨⟨b0, b1, b2, b3⟩, ⟨b4, b5, b6⟩, ⟨b7, b8, b9⟩, b10, b11, b12⟩ := b
  obtain z | z | z | z | z | z | z | z | z | z | z | z | z : j = 0 ∨ j = 1 ∨ j = 2 ∨ j = 3 ∨ j = 4 ∨ j = 5 ∨ j = 6 ∨ j = 7 ∨ j = 8 ∨ j = 9 ∨ j = 10 ∨ j = 11 ∨ j = 12 := by omega
  all_goals (rw [z])
  · exact a0.trans b0.symm
  · exact a1.trans b1.symm
  · exact a2.trans b2.symm
  · exact a3.trans b3.symm
  · exact a4.trans b4.symm
  · exact a5.trans b5.symm
  · exact a6.trans b6.symm
  · exact a7.trans b7.symm
  · exact a8.trans b8.symm
  · exact a9.trans b9.symm
  · exact a10.trans b10.symm
  · exact a11.trans b11.symm
  · exact a12.trans b12.symm
theorem lt0_k {V W : vS} (e : ∀ (c : Nat) j, 72 < c → c < 103 → W c j = V c j) (c : Int) : lt0 W c = lt0 V c := by
  unfold lt0
  rw [e 90 c (by decide) (by decide), e 87 c (by decide) (by decide), e 74 _ (by decide) (by decide), e 91 _ (by decide) (by decide)]
theorem NMS_k {V W : vS} (e : ∀ (c : Nat) j, c < 33 ∨ 72 ≤ c ∧ c ≤ 111 → W c j = V c j) {f y t : Int} {A : Int → Int} (n : NMS V f y t A) : NMS W f y t A := by
  have M : agM V W := agM_of (fun c j u v => e c j (Or.inr ⟨u, v⟩))
  have hd : ∀ b d k, mHold W b d k = mHold V b d k := mHold_f (fun c j u v => e c j (by omega)) (e 72 14 (by decide))
  unfold NMS kEr mPrv at n ⊢
  simp only [kS_k M, kM_k M, kC_k M, kG_k M, kL_k M, hd, lt0_k (V := V) (W := W) (fun c j u v => e c j (by omega)), e 2 _ (show 2 < 33 ∨ _ by decide), e 73 _ (show 73 < 33 ∨ 72 ≤ 73 ∧ 73 ≤ 111 by decide), e 72 _ (show 72 < 33 ∨ 72 ≤ 72 ∧ 72 ≤ 111 by decide), e 111 _ (show 111 < 33 ∨ 72 ≤ 111 ∧ 111 ≤ 111 by decide)]
  exact n
theorem k_b {V : vS} (A : AP V) (t y f : Int) : (0 ≤ kS V t y f ∧ kS V t y f ≤ 172800) ∧ (0 ≤ kM V t y f ∧ kM V t y f ≤ kS V t y f) ∧ (∀ j, 0 ≤ kC V t y f j ∧ kC V t y f j ≤ 172800) ∧ 0 ≤ kG V t y f ∧ kG V t y f ≤ 172800 := by
  have K := A.2.2.1
  have C := A.1.1
  have hN : 0 ≤ V 72 19 ∧ V 72 19 ≤ 300 := by rw [← C.1]; exact C.2.2.2.2.2
  have gb : ∀ c, 0 ≤ vG V t c ∧ vG V t c ≤ 576 := fun c => nQ_b _ 576
  have mb : ∀ c, 0 ≤ mmg V c t (V 72 32).toNat := fun c => by
    rw [← K.1, ← msg_e C K]
    exact (msg_b A.2.2.2.1.1 c _ t _).1
  have lb : ∀ c, 0 ≤ vL V t c ∧ vL V t c ≤ 576 := fun c => by
    have := gb c
    have := mb c
    unfold vL
    omega
  have b5 := sgm_b (B := 576) (V 72 19).toNat (fun c (_ : 0 ≤ c) _ => pI_b (p := LkM V t y c ∧ V 87 c = f) (gb c))
  have b6 := sgm_b (B := 576) (V 72 19).toNat (fun c (_ : 0 ≤ c) _ => pI_b (p := LkM V t y c ∧ V 87 c = f) (lb c))
  have b7 := fun j : Int => sgm_b (B := 576) (V 72 19).toNat (fun c (_ : 0 ≤ c) _ => pI_b (p := (LkM V t y c ∧ V 87 c = f) ∧ V 89 c = j) (gb c))
  have b8 := sgm_b (B := 576) (V 72 19).toNat (fun c (_ : 0 ≤ c) _ => pI_b (p := (LkM V t y c ∧ V 87 c = f) ∧ V 73 (V 88 c) = 5) (gb c))
  have bd := sgm_b (B := 576) (f := fun c => pI (LkM V t y c ∧ V 87 c = f) (vG V t c) - pI (LkM V t y c ∧ V 87 c = f) (vL V t c)) (V 72 19).toNat (fun c _ _ => by
    have := gb c
    have := mb c
    by_cases z : LkM V t y c ∧ V 87 c = f
    · rw [pI_t z, pI_t z]
      unfold vL
      omega
    · rw [pI_f z, pI_f z]
      omega)
  rw [sgm_sub] at bd
  unfold kS kM kC kG fSm
  refine ⟨⟨b5.1, by omega⟩, ⟨b6.1, by omega⟩, fun j => ⟨(b7 j).1, ?_⟩, b8.1, by omega⟩
  have := (b7 j).2
  omega
theorem crS_e {V : vS} {q : Nat} {y t : Int} (A : AP V) (S : scK V q y t) (f j : Int) : crS V q f j (V q 5).toNat = kC V t y f j := by
  have E := A.1
  have C := A.1.1
  have L := S.2.1
  unfold crS kC
  have e1 : sgm (fun i => pI (V 17 (V (q + 1) i) = f ∧ V 19 (V (q + 1) i) = j) (V (q + 2) i)) (V q 5).toNat = sgm (fun i => (fun c => pI (V 17 c = f ∧ V 19 c = j) (vG V t c)) (V (q + 1) i)) (V q 5).toNat := sgm_c _ (fun i a b => by
    show pI (V 17 (V (q + 1) i) = f ∧ V 19 (V (q + 1) i) = j) (V (q + 2) i) = pI (V 17 (V (q + 1) i) = f ∧ V 19 (V (q + 1) i) = j) (vG V t (V (q + 1) i))
    rw [(size_v A S a (by omega)).1])
  refine e1.trans ((all_sum E L (fun c => pI (V 17 c = f ∧ V 19 c = j) (vG V t c))).trans ?_)
  refine sgm_c _ (fun c _ _ => ?_)
  show pI (LkM V t y c) (pI (V 17 c = f ∧ V 19 c = j) (vG V t c)) = _
  rw [pI_p, C.2.1, C.2.2.2.1]
  exact pI_c and_assoc.symm (fun _ => rfl)
theorem mdS_e {V : vS} {q : Nat} {y t : Int} (A : AP V) (S : scK V q y t) (f : Int) : mdS V q f (V q 5).toNat = kG V t y f := by
  have E := A.1
  have C := A.1.1
  have B := A.1.2.1
  have L := S.2.1
  unfold mdS kG
  have e1 : sgm (fun i => pI (V 17 (V (q + 1) i) = f ∧ V 2 (V 18 (V (q + 1) i)) = 5) (V (q + 2) i)) (V q 5).toNat = sgm (fun i => (fun c => pI (V 17 c = f ∧ V 2 (V 18 c) = 5) (vG V t c)) (V (q + 1) i)) (V q 5).toNat := sgm_c _ (fun i a b => by
    show pI (V 17 (V (q + 1) i) = f ∧ V 2 (V 18 (V (q + 1) i)) = 5) (V (q + 2) i) = pI (V 17 (V (q + 1) i) = f ∧ V 2 (V 18 (V (q + 1) i)) = 5) (vG V t (V (q + 1) i))
    rw [(size_v A S a (by omega)).1])
  refine e1.trans ((all_sum E L (fun c => pI (V 17 c = f ∧ V 2 (V 18 c) = 5) (vG V t c))).trans ?_)
  refine sgm_c _ (fun c _ _ => ?_)
  show pI (LkM V t y c) (pI (V 17 c = f ∧ V 2 (V 18 c) = 5) (vG V t c)) = _
  rw [pI_p, C.2.1, C.2.2.1, B.2.1]
  exact pI_c and_assoc.symm (fun _ => rfl)
theorem mxN_b {g : Int → Int} {B : Int} (hB : 0 ≤ B) : ∀ n : Nat, (∀ j, 0 ≤ g j ∧ g j ≤ B) → 0 ≤ mxN g n ∧ mxN g n ≤ B
  | 0, _ => ⟨Int.le_refl _, hB⟩
  | n + 1, h => by
    have ih := mxN_b hB n h
    have e : mxN g (n + 1) = max (mxN g n) (g (n : Nat)) := rfl
    have := h (n : Nat)
    rw [e]
    omega
end
section
-- ===== what is known of a farm =====
theorem fF_e {V : vS} (A : AP V) (t y f : Int) : fSm V t y f (vF V t) = kS V t y f - kM V t y f := by
  have K := A.2.2.1
  have C := A.1.1
  have gb : ∀ c, 0 ≤ vG V t c ∧ vG V t c ≤ 576 := fun c => nQ_b _ 576
  have mb : ∀ c, 0 ≤ mmg V c t (V 72 32).toNat ∧ mmg V c t (V 72 32).toNat ≤ 576 := fun c => by
    rw [← K.1, ← msg_e C K]
    exact msg_b A.2.2.2.1.1 c _ t _
  unfold kS kM fSm
  rw [← sgm_sub]
  refine sgm_c _ (fun c _ _ => ?_)
  by_cases z : LkM V t y c ∧ V 87 c = f
  · rw [pI_t z, pI_t z, pI_t z]
    have := gb c
    have := mb c
    unfold vF vL
    rw [w32_id (by omega) (by omega)]
    split <;> omega
  · rw [pI_f z, pI_f z, pI_f z]
    rfl
theorem m104 {V W : vS} {t y f : Int} (A : AP V) (R : rkd V W t) (hy : 0 ≤ y ∧ y ≤ 9) : w32 (mSm W f y 104 (W 72 19).toNat) = kS V t y f ∧ w32 (mSm W f y 105 (W 72 19).toNat) = kS V t y f - kM V t y f := by
  have b := k_b A t y f
  rw [mSm_e (f := f) R hy (r := 104) (g := vG V t) (fun c a b m y0 y1 => (R.2.2 c a b m y0 y1).1), mSm_e (f := f) R hy (r := 105) (g := vF V t) (fun c a b m y0 y1 => (R.2.2 c a b m y0 y1).2), fF_e A]
  exact ⟨w32_id (by show (-2147483648 : Int) ≤ kS V t y f; omega) (by show kS V t y f ≤ (2147483647 : Int); omega), w32_id (by omega) (by omega)⟩
theorem lkW_e {V W : vS} {t y f : Int} (R : rkd V W t) {c : Int} (c0 : 0 ≤ c) (cN : c < V 72 19) : lkW W f y c ↔ LkM V t y c ∧ V 87 c = f := by
  unfold lkW LkM
  rw [R.1.2.1, R.1.2.2, R.2.1 c c0 cN]
  by_cases z : mcn V c t
  · rw [bI_t z]
    exact ⟨fun w => ⟨⟨z, w.2.2⟩, w.2.1⟩, fun w => ⟨by decide, w.2, w.1.2⟩⟩
  · rw [bI_f z]
    exact ⟨fun w => absurd rfl w.1, fun w => absurd w.1.1 z⟩
theorem g104 {V W : vS} {t y f : Int} (R : rkd V W t) (hy : 0 ≤ y ∧ y ≤ 9) {P Q : Int → Prop} (e : ∀ c, P c ↔ Q c) : sgm (fun c => pI (lkW W f y c ∧ P c) (W 104 c)) (W 72 19).toNat = sgm (fun c => pI ((LkM V t y c ∧ V 87 c = f) ∧ Q c) (vG V t c)) (V 72 19).toNat := by
  rw [R.1.1]
  refine sgm_c _ (fun c c0 cN => ?_)
  refine pI_c (by rw [lkW_e R c0 (by omega), e c]) (fun z => ?_)
  have l := (lkW_e R c0 (by omega)).mp z.1
  exact (R.2.2 c c0 (by omega) l.1.1 (by rw [l.1.2]; exact hy.1) (by rw [l.1.2]; omega)).1
-- the reference's names
theorem nms_m {V G W : vS} {f y t : Int} (A : AP V) (R : rkd V G t) (hy : 0 ≤ y ∧ y ≤ 9) (ex : ∀ (c : Nat) j, 72 < c → c < 103 → G c j = V c j) (e2 : G 72 2 = V 72 2) (e14 : G 72 14 = V 72 14) (e111 : ∀ j, G 111 j = V 111 j) (F : FF G f y t W) : NMS V f y t (fun j => W 124 j) := by
  have B := A.1.2.1
  obtain ⟨-, ⟨⟨a0, a1, a2, a3⟩, a4, a5, a6⟩, ⟨a7, a8, a9⟩, a10, a11, a12⟩ := F
  obtain ⟨s4, s5⟩ := m104 (f := f) A R hy
  have b := k_b A t y f
  have cc : ∀ j, w32 (mcS G f y j (G 72 19).toNat) = kC V t y f j := fun j => by
    have e : mcS G f y j (G 72 19).toNat = kC V t y f j := g104 R hy (P := fun c => G 89 c = j) (Q := fun c => V 89 c = j) (fun c => by rw [ex 89 c (by decide) (by decide)])
    have := b.2.2.1 j
    rw [e]
    exact w32_id (by omega) (by omega)
  have gg : w32 (mmS G f y (G 72 19).toNat) = kG V t y f := by
    have e : mmS G f y (G 72 19).toNat = kG V t y f := g104 R hy (P := fun c => G 73 (G 88 c) = 5) (Q := fun c => V 73 (V 88 c) = 5) (fun c => by rw [ex 88 c (by decide) (by decide), ex 73 _ (by decide) (by decide)])
    rw [e]
    exact w32_id (by omega) (by omega)
  have ll : lasN (lkW G f y) (G 72 19).toNat = kL V t y f := by
    rw [R.1.1]
    exact lasN_c _ (fun c c0 cN => lkW_e R c0 (by omega))
  have mx := mxN_b (g := fun j => kC V t y f j) (B := 172800) (by decide) 8 (fun j => b.2.2.1 j)
  have tp : topM G f y = mxN (fun j => kC V t y f j) 8 := mxN_c 8 (fun j _ _ => cc j)
  unfold sM at a2 a4 a6
  rw [s4] at a2 a4 a6
  rw [s5] at a3
  rw [gg, w32_id (z := 100 * kG V t y f) (by omega) (by omega)] at a4
  rw [tp, w32_id (z := 100 * mxN (fun j => kC V t y f j) 8) (by omega) (by omega)] at a6
  refine ⟨⟨a0, by show W 124 1 = V 2 f; rw [a1, ex 73 f (by decide) (by decide), B.2.1], a2, a3⟩, ⟨a4, ?_, a6⟩, ⟨?_, ?_, ?_⟩, a10, ?_, ?_⟩
  · show W 124 5 = _
    rw [a5]
    unfold crpM
    exact nQ_c 8 (fun j _ _ => by rw [cc j])
  · show W 124 7 = _
    rw [a7]
    unfold lateM
    rw [ll, lt0_k ex]
  · show W 124 8 = _
    rw [a8]
    unfold mErr kEr
    rw [s4, s5, w32_id (z := kS V t y f - (kS V t y f - kM V t y f)) (by omega) (by omega), show kS V t y f - (kS V t y f - kM V t y f) = kM V t y f by omega, w32_id (z := 100 * kM V t y f) (by omega) (by omega)]
  · show W 124 9 = _
    rw [a9]
    unfold perM
    rw [e2]
    exact nQ_c _ (fun b _ _ => by rw [ex 73 b (by decide) (by decide), mHold_f ex e14])
  · show W 124 11 = _
    rw [a11]
    unfold mPrv
    rw [e111]
  · show W 124 12 = _
    rw [a12]
    refine nQ_c _ (fun y' h0 h1 => ?_)
    obtain ⟨u4, u5⟩ := m104 (f := f) (y := y') A R ⟨h0, by omega⟩
    unfold earM
    rw [u4, u5]
    omega
end
section
-- ===== the permits by value =====
def ins6 (V W : vS) (m b v : Int) : Prop := ∃ k, (0 ≤ k ∧ k ≤ m) ∧ (∀ i, 0 ≤ i → i < k → W 6 i = V 6 i) ∧ W 6 k = b ∧ (∀ i, k ≤ i → i < m → W 6 (i + 1) = V 6 i) ∧ (k = 0 ∨ v ≤ V 3 (V 6 (k - 1))) ∧ ∀ i, k ≤ i → i < m → V 3 (V 6 i) < v
theorem l_80s {X : aX} {V : vS} {b v m : Int} (hm : 0 ≤ m ∧ m ≤ 150) : ∀ (n : Nat) (h : aH) (x1 x2 x3 : Int32) (k : Int), wS h → x1.toInt = v → x2.toInt = b → x3.toInt = k → (0 ≤ k ∧ k ≤ m) → (∀ (c : Nat) j, c ≠ 6 → vw h c j = V c j) → (∀ i, 0 ≤ i → i < k → vw h 6 i = V 6 i) → (∀ i, k ≤ i → i < m → vw h 6 (i + 1) = V 6 i) → (∀ i, k ≤ i → i < m → V 3 (V 6 i) < v) → Pt n X zM80 20 [some (.ref 1), some (.int x1), some (.int x2), some (.int x3)] [] h (qI (fun _ h' => ins6 V (vw h') m b v)) := by
  intro n
  induction n with
  | zero => intros; exact pt_z
  | succ n ih =>
    intro h x1 x2 x3 k S h1 h2 h3 hk F lo up' le
    have fin : ∀ g : aH, (k = 0 ∨ v ≤ V 3 (V 6 (k - 1))) → vw g = up (up (vw h) 6 k b) 1 4 (w32 (vw h 1 4 + 1)) → ins6 V (vw g) m b v := fun g o eg => by
      refine ⟨k, hk, fun i a c => ?_, ?_, fun i a c => ?_, o, le⟩
      · rw [eg, up_c (by decide), up_j (by omega)]
        exact lo i a c
      · rw [eg, up_c (by decide), up_s]
      · rw [eg, up_c (by decide), up_j (by omega)]
        exact up' i a c
    refine d80_20 S h1 h2 h3 ⟨fun e _ _ g _ eg => fin g (Or.inl (by omega)) eg, fun e _ _ _ _ => ?_⟩
    have w : w32 (k - 1) = k - 1 := w32_id (by omega) (by omega)
    rw [w]
    have e6 : vw h 6 (k - 1) = V 6 (k - 1) := lo (k - 1) (by omega) (by omega)
    have e3 : vw h 3 (vw h 6 (k - 1)) = V 3 (V 6 (k - 1)) := by rw [e6]; exact F 3 _ (by decide)
    refine ⟨fun e2 _ _ g _ eg => fin g (Or.inr (by rw [← e3]; exact e2)) eg, fun e2 _ _ g S2 eg y3 h3' => ?_⟩
    have w2 : w32 (k + (-1)) = k - 1 := by rw [← w]; rfl
    rw [w2] at h3'
    rw [e3] at e2
    refine ih g x1 x2 y3 (k - 1) S2 h1 h2 h3' (by omega) (fun c j a => by rw [eg, up_c a]; exact F c j a) (fun i a c => ?_) (fun i a c => ?_) (fun i a c => ?_)
    · rw [eg, up_j (by omega)]
      exact lo i a (by omega)
    · by_cases z : i = k - 1
      · rw [z, eg, show k - 1 + 1 = k by omega, up_s]
        exact e6
      · rw [eg, up_j (by omega)]
        exact up' i (by omega) c
    · by_cases z : i = k - 1
      · rw [z]
        exact e2
      · exact le i (by omega) c
theorem c_80s {n : Nat} {X : aX} {h : aH} {x1 : Int32} {a1 : Int} (S : wS h) (z1 : x1.toInt = a1) (hm : 0 ≤ vw h 1 4 ∧ vw h 1 4 ≤ 150) : Pt n X zM80 0 [some (.ref 1), some (.int x1), none, none] [] h (qI (fun _ h' => vw h' = vw h ∨ ins6 (cAddV (vw h) 6 a1 (-1)) (vw h') (vw h 1 4) (vw h 1 1) a1)) := by
  refine pt_d (d80_0 S z1 (fun y g p => ⟨fun e y2 y3 h2 h3 => ?_, fun e => ?_⟩))
  · rcases p.2 with ⟨q1, q2, q3⟩ | ⟨q1, q2, q3, q4⟩
    · omega
    · have e4 : vw g 1 4 = vw h 1 4 := by rw [q4]; exact cA_14
      refine pt_q (l_80s (V := vw g) (b := vw h 1 1) hm n g x1 y2 y3 (vw h 1 4) p.1 z1 (h2.trans q3) (h3.trans e4) ⟨hm.1, Int.le_refl _⟩ (fun _ _ _ => rfl) (fun _ _ _ => rfl) (fun i a c => by omega) (fun i a c => by omega)) ?_
      rintro v h' ⟨x, ev, r⟩
      rw [q4] at r
      exact ⟨x, ev, Or.inr r⟩
  · rcases p.2 with ⟨q1, q2, q3⟩ | ⟨q1, q2, q3, q4⟩
    · exact Or.inl q3
    · omega
theorem c_80t {n : Nat} {X : aX} {h : aH} {x1 : Int32} {a1 : Int} (S : wS h) (z1 : x1.toInt = a1) (hm : 0 ≤ vw h 1 4 ∧ vw h 1 4 ≤ 150) : Pt n X zM80 0 [some (.ref 1), some (.int x1), none, none] [] h (qI (fun y h' => wS h' ∧ RPer4 (vw h) a1 y (vw h') ∧ (vw h' = vw h ∨ ins6 (cAddV (vw h) 6 a1 (-1)) (vw h') (vw h 1 4) (vw h 1 1) a1))) := by
  refine pt_q (pt_and (c_80p S z1) (c_80s S z1 hm)) ?_
  rintro v h' ⟨⟨x, rfl, r1, r2⟩, ⟨x', -, r3⟩⟩
  exact ⟨x, rfl, r1, r2, r3⟩

theorem f151_0 {n : Nat} {X : aX} {h : aH} {P : Int → aH → Prop} {x1 : Int32} {a1 : Int} (S : wS h) (z1 : x1.toInt = a1) (H : (((1 ≤ a1 ∧ a1 ≤ 999) → ((¬ (150 ≤ (vw h) 1 1) → ((0 ≤ vw h 1 4 ∧ vw h 1 4 ≤ 150) ∧ ∀ (y9 : Int) (h_9 : aH), (wS h_9 ∧ RPer4 (vw h) a1 y9 (vw h_9) ∧ (vw h_9 = vw h ∨ ins6 (cAddV (vw h) 6 a1 (-1)) (vw h_9) (vw h 1 4) (vw h 1 1) a1)) → P y9 h_9)) ∧ ((150 ≤ (vw h) 1 1) → P (-3) h))) ∧ (¬ (1 ≤ a1 ∧ a1 ≤ 999) → P (-1) h))) : Pt (n + 1) X zM151 0 [some (.ref 0), some (.int x1)] [] h (qI P) := by
  refine pt_1 (fun n d => r_iloadn gx151_0 rfl) ?_
  refine pt_d (pt_iconst gx151_1 (fun v1 h1 => ?_))
  refine pt_d (pt_sipush gx151_2 (fun v2 h2 => ?_))
  refine pt_d (pt_stat (as := [.int x1, .int v1, .int v2]) (r := []) gx151_5 rfl (show zmt[137]? = some zM137 from rfl) rfl rfl rfl rfl (c_137 S z1 h1 h2) (kqP (fun v3 h3 => ?_)))
  show Pt _ _ _ 8 _ [.int v3] _ _
  refine pt_d (pt_ifB_ne gx151_8 h3 (fun e4 => ?_) (fun e4 => ?_))
  · have H := H.1 e4
    refine pt_d (pt_1 (fun n d => r_aloadn gx151_13 rfl) ?_)
    refine pt_d (pt_getR gx151_14 S tr_0_0 ?_)
    refine pt_d (pt_virt (as := []) (r := []) gx151_17 rfl (show zmt[73]? = some zM73 from rfl) rfl rfl rfl rfl (c_73 S) (kqP (fun v6 h6 => ?_)))
    show Pt _ _ _ 20 _ [.int v6] _ _
    refine pt_d (pt_ifB_eq gx151_20 h6 (fun e7 => ?_) (fun e7 => ?_))
    · have H := H.1 e7
      refine pt_d (pt_1 (fun n d => r_aloadn gx151_28 rfl) ?_)
      refine pt_d (pt_getR gx151_29 S tr_0_0 ?_)
      refine pt_d (pt_1 (fun n d => r_iloadn gx151_32 rfl) ?_)
      obtain ⟨pr9, H⟩ := H
      refine pt_d (pt_virt (as := [.int x1]) (r := []) gx151_33 rfl (show zmt[80]? = some zM80 from rfl) rfl rfl rfl rfl (c_80t S z1 pr9) (kqI (fun v9 y9 h_9 h9 P9 => ?_)))
      have S9 := P9.1
      have H := H y9 h_9 P9
      show Pt _ _ _ 36 _ [.int v9] _ _
      exact pt_d (pt_iret gx151_36 ⟨_, rfl, by rw [h9]; exact H⟩)
    · have H := H.2 e7
      refine pt_d (pt_bipush gx151_23 (fun v10 h10 => ?_))
      refine pt_d (pt_1 (fun n d => r_goto gx151_25) ?_)
      exact pt_d (pt_iret gx151_36 ⟨_, rfl, by rw [h10]; exact H⟩)
  · have H := H.2 e4
    refine pt_d (pt_iconst gx151_11 (fun v11 h11 => ?_))
    exact pt_d (pt_iret gx151_12 ⟨_, rfl, by rw [h11]; exact H⟩)
def R151s (V : vS) (v r : Int) (W : vS) : Prop := R151p V v r W ∧ (W = V ∨ ins6 (cAddV V 6 v (-1)) W (V 1 4) (V 1 1) v)
theorem c_151s {n : Nat} {X : aX} {h : aH} {x1 : Int32} {a1 : Int} (S : wS h) (z1 : x1.toInt = a1) (hm : 0 ≤ vw h 1 4 ∧ vw h 1 4 ≤ 150) : Pt n X zM151 0 [some (.ref 0), some (.int x1)] [] h (qI (fun y h' => R151s (vw h) a1 y (vw h'))) :=
  pt_d (f151_0 S z1 ⟨fun e => ⟨fun e3 => ⟨hm, fun y g p => ⟨⟨Or.inr ⟨e, p.2.1.1⟩, p.2.1.2⟩, p.2.2⟩⟩, fun e3 => ⟨⟨Or.inr ⟨e, Or.inl ⟨e3, rfl, rfl⟩⟩, Or.inl rfl⟩, Or.inl rfl⟩⟩, fun e => ⟨⟨Or.inl ⟨e, rfl, rfl⟩, Or.inl rfl⟩, Or.inl rfl⟩⟩)
def JPer (V : vS) : Prop := (0 ≤ V 1 4) ∧ (∀ i, 0 ≤ i → i < V 1 4 → (0 ≤ V 6 i ∧ V 6 i < V 1 1) ∧ V 2 (V 6 i) = 6) ∧ (∀ i i', 0 ≤ i → i < i' → i' < V 1 4 → V 3 (V 6 i') < V 3 (V 6 i) ∨ (V 3 (V 6 i') = V 3 (V 6 i) ∧ V 6 i < V 6 i')) ∧ ∀ b, 0 ≤ b → b < V 1 1 → V 2 b = 6 → ∃ i, (0 ≤ i ∧ i < V 1 4) ∧ V 6 i = b
def LPer : List (Nat × Option Nat) := [(1, some 1), (1, some 4), (2, none), (3, none), (6, none)]
theorem JPer_ag {V W : vS} (J : JPer V) (A : ag LPer V W) : JPer W := by
  obtain ⟨a1, a2, a3, a4, a5, -⟩ := A
  have a1 : W 1 1 = V 1 1 := a1
  have a2 : W 1 4 = V 1 4 := a2
  unfold JPer at J ⊢
  simp only [a1, a2, a3, a4, a5]
  exact J
theorem JPer_dG {W : List (Nat × Nat)} {σ σ1 : List Nat} {h h1 : aH} (J : JPer (vw h)) (I : dI σ h) (G : dG W σ h σ1 h1) (k : frL W LPer = true) : JPer (vw h1) := JPer_ag J (ag_dG I.1 G _ k)
theorem zJPer0 : JPer (vw zH0) := by
  have e1 : vw zH0 1 1 = 0 := vzf (i := 1) (x := 0) zh1 rfl
  have e4 : vw zH0 1 4 = 0 := vzf (i := 4) (x := 0) zh1 rfl
  unfold JPer
  rw [e1, e4]
  exact ⟨Int.le_refl _, fun i a b => by omega, fun i i' a b c => by omega, fun b a c => by omega⟩
section PER
variable {V V1 V2 W : vS}
-- a body that is no permit comes
theorem jper_n (J : JPer V) (n : 0 ≤ V 1 1 ∧ V 1 1 < 150) {k : Int} (hk : k ≠ 6) (e1 : W 1 1 = V 1 1 + 1) (e4 : W 1 4 = V 1 4) (e2 : ∀ j, W 2 j = if j = V 1 1 then k else V 2 j) (e3 : ∀ j, 0 ≤ j → j < V 1 1 → W 3 j = V 3 j) (e6 : ∀ j, W 6 j = V 6 j) : JPer W := by
  obtain ⟨j0, j1, j2, j3⟩ := J
  unfold JPer
  rw [e1, e4]
  refine ⟨j0, fun i a b => ?_, fun i i' a b c => ?_, fun b a c z => ?_⟩
  · obtain ⟨r, z⟩ := j1 i a b
    rw [e6, e2, if_neg (by omega)]
    exact ⟨⟨r.1, by omega⟩, z⟩
  · have r := (j1 i a (by omega)).1
    have r' := (j1 i' (by omega) c).1
    rw [e6, e6, e3 _ r.1 r.2, e3 _ r'.1 r'.2]
    exact j2 i i' a b c
  · rw [e2] at z
    by_cases y : b = V 1 1
    · rw [if_pos y] at z
      exact absurd z hk
    · rw [if_neg y] at z
      obtain ⟨i, hi, e⟩ := j3 b a (by omega) z
      exact ⟨i, hi, by rw [e6]; exact e⟩
-- a permit comes
theorem jper_i (J : JPer V) (n : 0 ≤ V 1 1 ∧ V 1 1 < 150) {v : Int} {U : vS} (u6 : ∀ j, U 6 j = V 6 j) (u3 : ∀ j, U 3 j = if j = V 1 1 then v else V 3 j) (e1 : W 1 1 = V 1 1 + 1) (e4 : W 1 4 = V 1 4 + 1) (e2 : ∀ j, W 2 j = if j = V 1 1 then 6 else V 2 j) (e3 : ∀ j, W 3 j = if j = V 1 1 then v else V 3 j) (N : ins6 U W (V 1 4) (V 1 1) v) : JPer W := by
  obtain ⟨j0, j1, j2, j3⟩ := J
  obtain ⟨k, hk, lo, at', hi, le, gt⟩ := N
  -- the new list
  have wl : ∀ i, 0 ≤ i → i < k → W 6 i = V 6 i := fun i a b => (lo i a b).trans (u6 i)
  have wh : ∀ i, k < i → i < V 1 4 + 1 → W 6 i = V 6 (i - 1) := fun i a b => by
    have h := hi (i - 1) (by omega) (by omega)
    rw [show i - 1 + 1 = i by omega, u6] at h
    exact h
  have v3 : ∀ i, 0 ≤ i → i < V 1 4 → W 3 (V 6 i) = V 3 (V 6 i) ∧ U 3 (U 6 i) = V 3 (V 6 i) := fun i a b => by
    have r := (j1 i a b).1
    rw [u6, e3, u3, if_neg (by omega)]
    exact ⟨rfl, rfl⟩
  have n3 : W 3 (V 1 1) = v := by rw [e3, if_pos rfl]
  have le' : ∀ i, 0 ≤ i → i < k → v ≤ V 3 (V 6 i) := fun i a b => by
    rcases le with z | z
    · omega
    · rw [(v3 (k - 1) (by omega) (by omega)).2] at z
      by_cases y : i = k - 1
      · rw [y]
        exact z
      · have := j2 i (k - 1) a (by omega) (by omega)
        omega
  have gt' : ∀ i, k ≤ i → i < V 1 4 → V 3 (V 6 i) < v := fun i a b => by
    have h := gt i a b
    rw [(v3 i (by omega) b).2] at h
    exact h
  unfold JPer
  rw [e1, e4]
  refine ⟨by omega, fun i a b => ?_, fun i i' a b c => ?_, fun b a c z => ?_⟩
  · by_cases x : i < k
    · obtain ⟨r, z⟩ := j1 i a (by omega)
      rw [wl i a x, e2, if_neg (by omega)]
      exact ⟨⟨r.1, by omega⟩, z⟩
    · by_cases y : i = k
      · rw [y, at', e2, if_pos rfl]
        exact ⟨⟨n.1, by omega⟩, rfl⟩
      · obtain ⟨r, z⟩ := j1 (i - 1) (by omega) (by omega)
        rw [wh i (by omega) b, e2, if_neg (by omega)]
        exact ⟨⟨r.1, by omega⟩, z⟩
  · by_cases x : i' < k
    · rw [wl i a (by omega), wl i' (by omega) x, (v3 i a (by omega)).1, (v3 i' (by omega) (by omega)).1]
      exact j2 i i' a b (by omega)
    · by_cases y : i' = k
      · have r := (j1 i a (by omega)).1
        have l := le' i a (by omega)
        rw [wl i a (by omega), y, at', n3, (v3 i a (by omega)).1]
        omega
      · rw [wh i' (by omega) c, (v3 (i' - 1) (by omega) (by omega)).1]
        by_cases x2 : i < k
        · rw [wl i a x2, (v3 i a (by omega)).1]
          exact j2 i (i' - 1) a (by omega) (by omega)
        · by_cases y2 : i = k
          · rw [y2, at', n3]
            exact Or.inl (gt' (i' - 1) (by omega) (by omega))
          · rw [wh i (by omega) (by omega), (v3 (i - 1) (by omega) (by omega)).1]
            exact j2 (i - 1) (i' - 1) (by omega) (by omega) (by omega)
  · rw [e2] at z
    by_cases y : b = V 1 1
    · exact ⟨k, ⟨hk.1, by omega⟩, by rw [y]; exact at'⟩
    · rw [if_neg y] at z
      obtain ⟨i, hi', e⟩ := j3 b a (by omega) z
      by_cases x : i < k
      · exact ⟨i, ⟨hi'.1, by omega⟩, by rw [wl i hi'.1 x]; exact e⟩
      · refine ⟨i + 1, ⟨by omega, by omega⟩, ?_⟩
        rw [wh (i + 1) (by omega) (by omega), show i + 1 - 1 = i by omega]
        exact e
theorem jper_c {k m t : Int} (J : JPer V) (n : 0 ≤ V 1 1 ∧ V 1 1 < 150) (hk : k ≠ 6) (x : ∀ (c : Nat) j, c < 7 → W c j = cAddV V k m t c j) : JPer W :=
  jper_n (k := k) J n hk (by rw [x 1 1 (by decide), cA_n, w32_id (by omega) (by omega)]) (by rw [x 1 4 (by decide), cA_14]) (fun j => by rw [x 2 j (by decide), cA_2]) (fun j a b => by
    rw [x 3 j (by decide)]
    unfold cAddV
    rw [up_c (by decide), up_c (by decide), up_c (by decide), up_c (by decide), up_c (by decide), up_c (by decide), up_j (by omega), up_c (by decide)]) (fun j => by
    rw [x 6 j (by decide)]
    unfold cAddV
    rw [up_c (by decide), up_c (by decide), up_c (by decide), up_c (by decide), up_c (by decide), up_c (by decide), up_c (by decide), up_c (by decide)])
theorem jper_m (J : JPer V) (m : W = V ∨ mAd V W) : JPer W :=
  JPer_ag J ⟨mx_l m 1 1 (Or.inl (by decide)), mx_l m 1 4 (Or.inl (by decide)), fun j => mx_l m 2 j (Or.inl (by decide)), fun j => mx_l m 3 j (Or.inl (by decide)), fun j => mx_l m 6 j (Or.inl (by decide)), trivial⟩
theorem jper_1 {k m t r : Int} (J : JPer V) (hk : k ≠ 6) (c : RAdd V k m t r V1) : JPer V1 := by
  rcases c with ⟨-, -, e⟩ | ⟨a, b, -, e⟩
  · rw [e]
    exact J
  · rw [e]
    exact jper_c (k := k) (m := m) (t := t) J ⟨a, b⟩ hk (fun _ _ _ => rfl)
theorem jper_2 {k l r : Int} (J : JPer V) (c : R146 V k l r V1) : JPer V1 := by
  rcases c with ⟨-, -, e⟩ | ⟨h, c⟩
  · rw [e]
    exact J
  · refine jper_1 J (fun z => ?_) c
    have := h.1
    unfold kFarm at this
    omega
theorem jper_6 {f m r : Int} (J : JPer V) (c : R150 V f m r V1) : JPer V1 := by
  rcases c with ⟨-, -, e⟩ | ⟨-, ⟨-, -, e⟩ | ⟨-, -, -, e⟩ | ⟨-, a, b, -, e⟩⟩
  · rw [e]; exact J
  · rw [e]; exact J
  · rw [e]; exact J
  · have hk : (if m = 1 then (5 : Int) else 4) ≠ 6 := by split <;> decide
    generalize (if m = 1 then (5 : Int) else 4) = k at e hk
    exact jper_c (k := k) (m := cArea V) (t := f) J ⟨a, b⟩ hk (fun c j u => by rw [e, up_c (by omega), outl_c (by omega)])
theorem jper_7 {v r : Int} (J : JPer V) (h4 : V 1 4 ≤ 150) (c : R151s V v r V1) : JPer V1 := by
  obtain ⟨⟨c, d⟩, N⟩ := c
  rcases N with e | N
  · rw [e]; exact J
  rcases c with ⟨-, -, e⟩ | ⟨-, ⟨-, -, e⟩ | ⟨a, b, -, e⟩⟩
  · rw [e]; exact J
  · rw [e]; exact J
  · rcases d with d | d
    · rw [d]; exact J
    · have j0 := J.1
      have c3 : ∀ j, cAddV V 6 v (-1) 3 j = if j = V 1 1 then v else V 3 j := fun j => by
        unfold cAddV
        rw [up_c (by decide), up_c (by decide), up_c (by decide), up_c (by decide), up_c (by decide), up_c (by decide), up_p, up_c (by decide)]
      have c6 : ∀ j, cAddV V 6 v (-1) 6 j = V 6 j := fun j => by
        unfold cAddV
        rw [up_c (by decide), up_c (by decide), up_c (by decide), up_c (by decide), up_c (by decide), up_c (by decide), up_c (by decide), up_c (by decide)]
      exact jper_i J ⟨a, b⟩ c6 c3 (by rw [e 1 1 (by decide) (by decide), cA_n, w32_id (by omega) (by omega)]) (by rw [d, w32_id (by omega) (by omega)]) (fun j => by rw [e 2 j (by decide) (fun z => absurd z.1 (by decide)), cA_2]) (fun j => by rw [e 3 j (by decide) (fun z => absurd z.1 (by decide)), c3]) N
theorem jx_7s {v r1 r2 : Int} (J : JBody V) (hd : V 1 0 = V 72 1) (c : R151s V v r1 V1) (m : R208 V1 v r2 V2) : JBody V2 ∧ r1 = r2 := jx_7 J hd c.1.1 m
end PER
end
section
-- ===== the permits by value =====
theorem nQ_sgm (P : Int → Prop) : ∀ n : Nat, nQ P n = sgm (fun j => pI (P j) 1) n
  | 0 => rfl
  | n + 1 => by
    rw [sgm_s, ← nQ_sgm P n]
    by_cases z : P (n : Nat)
    · rw [nQ_t z, pI_t z]
    · rw [nQ_f z, pI_f z]
theorem per_sum {V : vS} (J : JPer V) (b1 : 0 ≤ V 1 1) (G : Int → Prop) : nQ (fun i => G (V 6 i)) (V 1 4).toNat = nQ (fun b => V 2 b = 6 ∧ G b) (V 1 1).toNat := by
  obtain ⟨j0, j1, j2, j3⟩ := J
  have inj : ∀ i i', 0 ≤ i → i < V 1 4 → 0 ≤ i' → i' < V 1 4 → V 6 i = V 6 i' → i = i' := fun i i' a b a' b' e => by
    rcases Int.lt_trichotomy i i' with z | z | z
    · have := j2 i i' a z b'
      rw [e] at this
      omega
    · exact z
    · have := j2 i' i a' z b
      rw [e] at this
      omega
  rw [nQ_sgm, nQ_sgm]
  have e1 : sgm (fun i => pI (G (V 6 i)) 1) (V 1 4).toNat = sgm (fun i => sgm (fun b => pI (b = V 6 i) (pI (G b) 1)) (V 1 1).toNat) (V 1 4).toNat := sgm_c _ (fun i a b => by
    have r := (j1 i a (by omega)).1
    rw [sgm_one (fun b => pI (G b) 1), pI_t (p := 0 ≤ V 6 i ∧ V 6 i < ((V 1 1).toNat : Int)) ⟨r.1, by omega⟩])
  rw [e1, sgm_swap]
  refine sgm_c _ (fun b c0 c1 => ?_)
  by_cases z : V 2 b = 6
  · obtain ⟨i0, hi, e⟩ := j3 b c0 (by omega) z
    rw [sgm_c (g := fun i => pI (i = i0) (pI (G b) 1)) (V 1 4).toNat (fun i a c => pI_c ⟨fun w => inj i i0 a (by omega) hi.1 hi.2 (w.symm.trans e.symm), fun w => by rw [w, e]⟩ (fun _ => rfl)), sgm_one (fun _ => pI (G b) 1), pI_t ⟨hi.1, by omega⟩]
    exact pI_c ⟨fun w => ⟨z, w⟩, fun w => w.2⟩ (fun _ => rfl)
  · rw [pI_f (p := V 2 b = 6 ∧ G b) (fun w => z w.1), sgm_c (g := fun _ => 0) (V 1 4).toNat (fun i a c => pI_f (fun w => z (by
      have := (j1 i a (by omega)).2
      rw [← w] at this
      exact this))), sgm_z]
theorem ldY_e (y : Int) : ldY y = ldM y := by
  unfold ldY ldM
  rw [Int.mul_comm y 365]
theorem per_e {V : vS} (J : JPer V) (B : JBody V) (H : JHand V) (f y t : Int) : nQ (fun i => cHold V (V 6 i) (ldY y) t = f) (V 1 4).toNat = nQ (fun b => V 73 b = 6 ∧ mHold V b (ldM y) t = f) (V 72 2).toNat := by
  rw [per_sum J B.2.2.2.2.2.1 (fun b => cHold V b (ldY y) t = f), ← B.1]
  exact nQ_c _ (fun b _ _ => by rw [B.2.1, hold_j H B.2.2.2.2.1, ldY_e])
theorem prv_e {V : vS} (J : JMaj V) {f y t : Int} (hf : 0 ≤ f ∧ f < 150) (hy : 0 ≤ y ∧ y ≤ 9) (ht : 0 ≤ t ∧ t ≤ 3649) (r : ∀ j, 0 ≤ j → j < 1500 → V 111 j ≤ 2147483647) : cPrv V f y t ↔ mPrv V f y t := by
  unfold cPrv mPrv
  rw [Int.mul_comm f 10, w32_id (z := 10 * f) (by omega) (by omega), w32_id (z := 10 * f + y) (by omega) (by omega), (J _).1]
  have a := (J (10 * f + y)).2
  rw [(J _).1] at a
  have b := r (10 * f + y) (by omega) (by omega)
  rw [w32_id (z := t + 1) (by omega) (by omega), w32_id (z := V 111 (10 * f + y) - 1) (by omega) (by omega)]
  omega
-- the class's names
theorem nms_c {h h' : aH} {f y t : Int} (I : IV h) (A : AP (vw h)) (JP : JPer (vw h)) (H : JHand (vw h)) (Mj : JMaj (vw h)) (hf : 0 ≤ f ∧ f < 150) (hy : 0 ≤ y ∧ y ≤ 9) (ht : 0 ≤ t ∧ t ≤ 3649) (r111 : ∀ j, 0 ≤ j → j < 1500 → vw h 111 j ≤ 2147483647) (R : R2 h f y t h') : NMS (vw h) f y t (fun j => vw h' 43 j) := by
  obtain ⟨-, q, h1, h4, r, R1', R3', -, N12, E12⟩ := R
  have fg := R1_f R1'
  have fk : ∀ (c : Nat) j, c < 33 ∨ 72 ≤ c ∧ c ≤ 111 → vw h1 c j = vw h c j := fun c j z => fg c j (by omega) (by omega)
  have M : agM (vw h) (vw h1) := agM_of (fun c j u v => fk c j (Or.inr ⟨u, v⟩))
  have A1 := AP_f A fg
  have Sc := R1_sc I R1'
  have hq : 146 ≤ q := R1'.1.1
  obtain ⟨t5, t6, b5, b6⟩ := tot_e A1 Sc hf
  have lt := lasN_x (P := fun c => LkM (vw h1) t y c ∧ vw h1 87 c = f) (N := vw h1 72 19) (by rw [← A1.1.1.1]; exact A1.1.1.2.2.2.2.2.1) (lat_e A1 Sc hf)
  refine NMS_k (V := vw h1) (fun c j z => (fk c j z).symm) ?_
  have b := k_b A1 t y f
  obtain ⟨f4, c44, hr⟩ := R3'
  have B1 := A1.1.2.1
  have s5 : vw h1 (q + 5) f = kS (vw h1) t y f := t5
  have s6 : vw h4 (q + 6) f = kM (vw h1) t y f := (f4 (q + 6) f (by omega)).trans t6
  have s7 : vw h4 (q + 7) f = kL (vw h1) t y f := (f4 (q + 7) f (by omega)).trans lt
  have hr : r = kG (vw h1) t y f := by rw [hr, mdS_e A1 Sc, w32_id (by omega) (by omega)]
  have cc : ∀ j, 0 ≤ j → j < 8 → vw h4 44 j = kC (vw h1) t y f j := fun j a c => by
    have := b.2.2.1 j
    rw [c44 j a c, crS_e A1 Sc, w32_id (by omega) (by omega)]
  have mx := mxN_b (g := fun j => kC (vw h1) t y f j) (B := 172800) (by decide) 8 (fun j => b.2.2.1 j)
  have mt : mxN (fun j => vw h4 44 j) 8 = mxN (fun j => kC (vw h1) t y f j) 8 := mxN_c 8 (fun j a c => cc j a c)
  refine ⟨⟨?_, ?_, ?_, ?_⟩, ⟨?_, ?_, ?_⟩, ⟨?_, ?_, ?_⟩, ?_, ?_, ?_⟩
  · show vw h' 43 0 = _
    rw [N12 0 (by decide) (by decide), nT_0]
  · show vw h' 43 1 = _
    rw [N12 1 (by decide) (by decide), nT_1, f4 2 _ (by decide)]
  · show vw h' 43 2 = _
    rw [N12 2 (by decide) (by decide), nT_2, s5]
  · show vw h' 43 3 = _
    rw [N12 3 (by decide) (by decide), nT_3, s5, s6, w32_id (by omega) (by omega)]
  · show vw h' 43 4 = _
    rw [N12 4 (by decide) (by decide), nT_4, s5, hr, w32_id (by omega) (by omega)]
  · show vw h' 43 5 = _
    rw [N12 5 (by decide) (by decide), nT_5]
    exact nQ_c 8 (fun j a c => by rw [cc j a c])
  · show vw h' 43 6 = _
    rw [N12 6 (by decide) (by decide), nT_6, s5, mt, w32_id (by omega) (by omega)]
  · show vw h' 43 7 = _
    rw [N12 7 (by decide) (by decide), nT_7, s7]
    rcases lasN_i (P := fun c => LkM (vw h1) t y c ∧ vw h1 87 c = f) (vw h1 72 19).toNat with ⟨i1, -⟩ | ⟨i1, i2, -⟩
    · have e : kL (vw h1) t y f = -1 := i1
      rw [if_pos e, if_pos (by omega)]
    · have e : 0 ≤ kL (vw h1) t y f ∧ kL (vw h1) t y f < ((vw h1 72 19).toNat : Int) := i1
      rw [if_neg (by omega), if_neg (by omega), lt1_k (V := vw h1) (fun c j u => f4 c j (by omega))]
      exact A1.2.2.2.2 _ e.1 (by rw [A1.1.1.1]; omega)
  · show vw h' 43 8 = _
    rw [N12 8 (by decide) (by decide), nT_8]
    unfold cErr kEr
    rw [s6, f4 (q + 5) f (by omega), s5, w32_id (z := kS (vw h1) t y f - kM (vw h1) t y f) (by omega) (by omega), w32_id (z := 100 * kM (vw h1) t y f) (by omega) (by omega)]
  · show vw h' 43 9 = _
    rw [N12 9 (by decide) (by decide), nT_9, f4 1 4 (by decide)]
    refine Eq.trans (nQ_c _ (fun i _ _ => ?_)) (per_e (V := vw h1) (JPer_ag JP (ag_k fk _ (by decide))) B1 (JHand_ag H (ag_k fk _ (by decide))) f y t)
    rw [f4 6 i (by decide), cHold_f (V := vw h1) (fun c j u => f4 c j (by omega))]
  · show vw h' 43 10 = _
    rw [N12 10 (by decide) (by decide), nT_10]
  · show vw h' 43 11 = _
    rw [N12 11 (by decide) (by decide), nT_11]
    refine bI_c (Iff.trans ?_ (prv_e (V := vw h1) (fun j => ?_) hf hy ht (fun j u v => ?_)))
    · unfold cPrv
      rw [f4 32 _ (by decide)]
    · rw [fk 32 j (Or.inl (by decide)), fk 111 j (Or.inr (by decide))]
      exact Mj j
    · rw [fk 111 j (Or.inr (by decide))]
      exact r111 j u v
  · show vw h' 43 12 = _
    rw [E12]
    exact nQ_c _ (fun y' _ _ => by rw [kM_k M])

theorem d170_0 {n : Nat} {X : aX} {h : aH} {P : Int → aH → Prop} {x1 x2 x3 x4 : Int32} {a1 a2 a3 a4 : Int} (S : wS h) (z1 : x1.toInt = a1) (z2 : x2.toInt = a2) (z3 : x3.toInt = a3) (z4 : x4.toInt = a4) (H : ((¬ (cFarm (vw h) a1) → P (-1) h) ∧ ((cFarm (vw h) a1) → ((¬ (0 ≤ a2 ∧ a2 ≤ 9) → P (-1) h) ∧ ((0 ≤ a2 ∧ a2 ≤ 9) → ((¬ (0 ≤ a3 ∧ a3 ≤ 3649) → P (-1) h) ∧ ((0 ≤ a3 ∧ a3 ≤ 3649) → (((0 ≤ a4 ∧ a4 ≤ 12) → (((IV h ∧ AP (vw h)) ∧ (0 ≤ a1 ∧ a1 < 150) ∧ (0 ≤ a2 ∧ a2 ≤ 9) ∧ vw h 1 6 ≤ 200 ∧ vw h 1 4 ≤ 150) ∧ ∀ (h_16 : aH), (wS h_16 ∧ R2 h a1 a2 a3 h_16) → (0 ≤ a4 → a4 < 13 → P (vw h_16 43 a4) h_16))) ∧ (¬ (0 ≤ a4 ∧ a4 ≤ 12) → P (-1) h))))))))) : Pt (n + 1) X zM170 0 [some (.ref 0), some (.int x1), some (.int x2), some (.int x3), some (.int x4)] [] h (qI P) := by
  refine pt_1 (fun n d => r_aloadn gx170_0 rfl) ?_
  refine pt_d (pt_getR gx170_1 S tr_0_0 ?_)
  refine pt_d (pt_1 (fun n d => r_iloadn gx170_4 rfl) ?_)
  refine pt_d (pt_virt (as := [.int x1]) (r := []) gx170_5 rfl (show zmt[75]? = some zM75 from rfl) rfl rfl rfl rfl (c_75 S z1) (kqP (fun v2 h2 => ?_)))
  show Pt _ _ _ 8 _ [.int v2] _ _
  refine pt_d (pt_ifB_eq gx170_8 h2 (fun e3 => ?_) (fun e3 => ?_))
  · have H := H.1 e3
    refine pt_d (pt_iconst gx170_36 (fun v4 h4 => ?_))
    exact pt_d (pt_iret gx170_37 ⟨_, rfl, by rw [h4]; exact H⟩)
  · have H := H.2 e3
    refine pt_d (pt_1 (fun n d => r_iloadn gx170_11 rfl) ?_)
    refine pt_d (pt_stat (as := [.int x2]) (r := []) gx170_12 rfl (show zmt[139]? = some zM139 from rfl) rfl rfl rfl rfl (c_139 S z2) (kqP (fun v5 h5 => ?_)))
    show Pt _ _ _ 15 _ [.int v5] _ _
    refine pt_d (pt_ifB_eq gx170_15 h5 (fun e6 => ?_) (fun e6 => ?_))
    · have H := H.1 e6
      refine pt_d (pt_iconst gx170_36 (fun v7 h7 => ?_))
      exact pt_d (pt_iret gx170_37 ⟨_, rfl, by rw [h7]; exact H⟩)
    · have H := H.2 e6
      refine pt_d (pt_1 (fun n d => r_iloadn gx170_18 rfl) ?_)
      refine pt_d (pt_stat (as := [.int x3]) (r := []) gx170_19 rfl (show zmt[138]? = some zM138 from rfl) rfl rfl rfl rfl (c_138 S z3) (kqP (fun v8 h8 => ?_)))
      show Pt _ _ _ 22 _ [.int v8] _ _
      refine pt_d (pt_ifB_eq gx170_22 h8 (fun e9 => ?_) (fun e9 => ?_))
      · have H := H.1 e9
        refine pt_d (pt_iconst gx170_36 (fun v10 h10 => ?_))
        exact pt_d (pt_iret gx170_37 ⟨_, rfl, by rw [h10]; exact H⟩)
      · have H := H.2 e9
        refine pt_d (pt_1 (fun n d => r_iload gx170_25 rfl) ?_)
        refine pt_d (pt_iconst gx170_27 (fun v11 h11 => ?_))
        refine pt_d (pt_bipush gx170_28 (fun v12 h12 => ?_))
        refine pt_d (pt_stat (as := [.int x4, .int v11, .int v12]) (r := []) gx170_30 rfl (show zmt[137]? = some zM137 from rfl) rfl rfl rfl rfl (c_137 S z4 h11 h12) (kqP (fun v13 h13 => ?_)))
        show Pt _ _ _ 33 _ [.int v13] _ _
        refine pt_d (pt_ifB_ne gx170_33 h13 (fun e14 => ?_) (fun e14 => ?_))
        · have H := H.1 e14
          refine pt_d (pt_1 (fun n d => r_aloadn gx170_38 rfl) ?_)
          refine pt_d (pt_getR gx170_39 S tr_0_4 ?_)
          refine pt_d (pt_1 (fun n d => r_iloadn gx170_42 rfl) ?_)
          refine pt_d (pt_1 (fun n d => r_iloadn gx170_43 rfl) ?_)
          refine pt_d (pt_1 (fun n d => r_iloadn gx170_44 rfl) ?_)
          obtain ⟨pr16, H⟩ := H
          refine pt_d (pt_virt (as := [.int x1, .int x2, .int x3]) (r := []) gx170_45 rfl (show zmt[2]? = some zM2 from rfl) rfl rfl rfl rfl (c_2 S z1 z2 z3 pr16) (kqN (fun h_16 P16 => ?_)))
          have S16 := P16.1
          have H := H h_16 P16
          show Pt _ _ _ 48 _ [] _ _
          refine pt_d (pt_1 (fun n d => r_aloadn gx170_48 rfl) ?_)
          refine pt_d (pt_getR gx170_49 S16 tr_0_4 ?_)
          refine pt_d (pt_getR gx170_52 S16 tr_41_4 ?_)
          refine pt_d (pt_1 (fun n d => r_iload gx170_55 rfl) ?_)
          refine pt_d (pt_iald (N' := 13) gx170_57 S16 tl_43 z4 (fun v19 p19 q19 h19 => ?_))
          have H := H p19 q19
          exact pt_d (pt_iret gx170_58 ⟨_, rfl, by rw [h19]; exact H⟩)
        · have H := H.2 e14
          refine pt_d (pt_iconst gx170_36 (fun v20 h20 => ?_))
          exact pt_d (pt_iret gx170_37 ⟨_, rfl, by rw [h20]; exact H⟩)
theorem d274_0 {n : Nat} {X : aX} {h : aH} {P : Int → aH → Prop} {x1 x2 x3 x4 : Int32} {a1 a2 a3 a4 : Int} (S : wS h) (z1 : x1.toInt = a1) (z2 : x2.toInt = a2) (z3 : x3.toInt = a3) (z4 : x4.toInt = a4) (H : ((¬ (mFarm (vw h) a1) → P (-1) h) ∧ ((mFarm (vw h) a1) → ((¬ (0 ≤ a2 ∧ a2 ≤ 9) → P (-1) h) ∧ ((0 ≤ a2 ∧ a2 ≤ 9) → ((¬ (0 ≤ a3 ∧ a3 ≤ 3649) → P (-1) h) ∧ ((0 ≤ a3 ∧ a3 ≤ 3649) → (((0 ≤ a4 ∧ a4 ≤ 12) → ((q239 (vw h) ∧ (0 ≤ vw h 72 2 ∧ vw h 72 2 ≤ 150) ∧ vw h 72 14 ≤ 200 ∧ 0 ≤ a2 ∧ a2 ≤ 9) ∧ ∀ (h_14 : aH), (wS h_14 ∧ R272 (vw h) a1 a2 a3 (vw h_14)) → (0 ≤ a4 → a4 < 13 → P (vw h_14 124 a4) h_14))) ∧ (¬ (0 ≤ a4 ∧ a4 ≤ 12) → P (-1) h))))))))) : Pt (n + 1) X zM274 0 [some (.ref 72), some (.int x1), some (.int x2), some (.int x3), some (.int x4)] [] h (qI P) := by
  refine pt_1 (fun n d => r_aloadn gx274_0 rfl) ?_
  refine pt_d (pt_1 (fun n d => r_iloadn gx274_1 rfl) ?_)
  refine pt_d (pt_virt (as := [.int x1]) (r := []) gx274_2 rfl (show zmt[202]? = some zM202 from rfl) rfl rfl rfl rfl (c_202 S z1) (kqP (fun v1 h1 => ?_)))
  show Pt _ _ _ 5 _ [.int v1] _ _
  refine pt_d (pt_ifB_eq gx274_5 h1 (fun e2 => ?_) (fun e2 => ?_))
  · have H := H.1 e2
    refine pt_d (pt_iconst gx274_33 (fun v3 h3 => ?_))
    exact pt_d (pt_iret gx274_34 ⟨_, rfl, by rw [h3]; exact H⟩)
  · have H := H.2 e2
    refine pt_d (pt_1 (fun n d => r_iloadn gx274_8 rfl) ?_)
    refine pt_d (pt_stat (as := [.int x2]) (r := []) gx274_9 rfl (show zmt[198]? = some zM198 from rfl) rfl rfl rfl rfl (c_198 S z2) (kqP (fun v4 h4 => ?_)))
    show Pt _ _ _ 12 _ [.int v4] _ _
    refine pt_d (pt_ifB_eq gx274_12 h4 (fun e5 => ?_) (fun e5 => ?_))
    · have H := H.1 e5
      refine pt_d (pt_iconst gx274_33 (fun v6 h6 => ?_))
      exact pt_d (pt_iret gx274_34 ⟨_, rfl, by rw [h6]; exact H⟩)
    · have H := H.2 e5
      refine pt_d (pt_1 (fun n d => r_iloadn gx274_15 rfl) ?_)
      refine pt_d (pt_stat (as := [.int x3]) (r := []) gx274_16 rfl (show zmt[197]? = some zM197 from rfl) rfl rfl rfl rfl (c_197 S z3) (kqP (fun v7 h7 => ?_)))
      show Pt _ _ _ 19 _ [.int v7] _ _
      refine pt_d (pt_ifB_eq gx274_19 h7 (fun e8 => ?_) (fun e8 => ?_))
      · have H := H.1 e8
        refine pt_d (pt_iconst gx274_33 (fun v9 h9 => ?_))
        exact pt_d (pt_iret gx274_34 ⟨_, rfl, by rw [h9]; exact H⟩)
      · have H := H.2 e8
        refine pt_d (pt_1 (fun n d => r_iload gx274_22 rfl) ?_)
        refine pt_d (pt_iconst gx274_24 (fun v10 h10 => ?_))
        refine pt_d (pt_bipush gx274_25 (fun v11 h11 => ?_))
        refine pt_d (pt_stat (as := [.int x4, .int v10, .int v11]) (r := []) gx274_27 rfl (show zmt[196]? = some zM196 from rfl) rfl rfl rfl rfl (c_196 S z4 h10 h11) (kqP (fun v12 h12 => ?_)))
        show Pt _ _ _ 30 _ [.int v12] _ _
        refine pt_d (pt_ifB_ne gx274_30 h12 (fun e13 => ?_) (fun e13 => ?_))
        · have H := H.1 e13
          refine pt_d (pt_1 (fun n d => r_aloadn gx274_35 rfl) ?_)
          refine pt_d (pt_1 (fun n d => r_iloadn gx274_36 rfl) ?_)
          refine pt_d (pt_1 (fun n d => r_iloadn gx274_37 rfl) ?_)
          refine pt_d (pt_1 (fun n d => r_iloadn gx274_38 rfl) ?_)
          obtain ⟨pr14, H⟩ := H
          refine pt_d (pt_virt (as := [.int x1, .int x2, .int x3]) (r := []) gx274_39 rfl (show zmt[272]? = some zM272 from rfl) rfl rfl rfl rfl (c_272 S z1 z2 z3 pr14) (kqN (fun h_14 P14 => ?_)))
          have S14 := P14.1
          have H := H h_14 P14
          show Pt _ _ _ 42 _ [] _ _
          refine pt_d (pt_1 (fun n d => r_aloadn gx274_42 rfl) ?_)
          refine pt_d (pt_getR gx274_43 S14 tr_72_69 ?_)
          refine pt_d (pt_1 (fun n d => r_iload gx274_46 rfl) ?_)
          refine pt_d (pt_iald (N' := 13) gx274_48 S14 tl_124 z4 (fun v16 p16 q16 h16 => ?_))
          have H := H p16 q16
          exact pt_d (pt_iret gx274_49 ⟨_, rfl, by rw [h16]; exact H⟩)
        · have H := H.2 e13
          refine pt_d (pt_iconst gx274_33 (fun v17 h17 => ?_))
          exact pt_d (pt_iret gx274_34 ⟨_, rfl, by rw [h17]; exact H⟩)
def okN (V : vS) (f y t m : Int) : Prop := cFarm V f ∧ (0 ≤ y ∧ y ≤ 9) ∧ (0 ≤ t ∧ t ≤ 3649) ∧ 0 ≤ m ∧ m ≤ 12
def oMN (V : vS) (f y t m : Int) : Prop := mFarm V f ∧ (0 ≤ y ∧ y ≤ 9) ∧ (0 ≤ t ∧ t ≤ 3649) ∧ 0 ≤ m ∧ m ≤ 12
def R170 (h : aH) (f y t m r : Int) (h' : aH) : Prop := (¬ okN (vw h) f y t m ∧ r = -1 ∧ h' = h) ∨ (okN (vw h) f y t m ∧ R2 h f y t h' ∧ r = vw h' 43 m)
def R274 (V : vS) (f y t m r : Int) (W : vS) : Prop := (¬ oMN V f y t m ∧ r = -1 ∧ W = V) ∨ (oMN V f y t m ∧ R272 V f y t W ∧ r = W 124 m)
theorem cF_b {V : vS} (b : V 1 1 ≤ 150) {f : Int} (h : cFarm V f) (b0 : 0 ≤ V 1 1) : 0 ≤ f ∧ f < 150 := by
  have h := h.1
  unfold cBody at h
  rw [w32_id (by omega) (by omega)] at h
  omega
theorem c_170w {n : Nat} {X : aX} {h : aH} {x1 x2 x3 x4 : Int32} {a1 a2 a3 a4 : Int} (S : wS h) (z1 : x1.toInt = a1) (z2 : x2.toInt = a2) (z3 : x3.toInt = a3) (z4 : x4.toInt = a4) (I : IV h) (A : AP (vw h)) (b6 : vw h 1 6 ≤ 200) (b4 : vw h 1 4 ≤ 150) : Pt n X zM170 0 [some (.ref 0), some (.int x1), some (.int x2), some (.int x3), some (.int x4)] [] h (qI (fun r h' => R170 h a1 a2 a3 a4 r h' ∧ IV h')) := by
  have bad : ¬ okN (vw h) a1 a2 a3 a4 → R170 h a1 a2 a3 a4 (-1) h := fun z => Or.inl ⟨z, rfl, rfl⟩
  have c : Pt n X zM170 0 [some (.ref 0), some (.int x1), some (.int x2), some (.int x3), some (.int x4)] [] h (qI (fun r h' => R170 h a1 a2 a3 a4 r h')) :=
    pt_d (d170_0 S z1 z2 z3 z4 ⟨fun e => bad (fun z => e z.1), fun e1 => ⟨fun e => bad (fun z => e z.2.1), fun e2 => ⟨fun e => bad (fun z => e z.2.2.1), fun e3 => ⟨fun e4 => ⟨⟨⟨I, A⟩, cF_b I.1.1.1.2 e1 I.1.1.1.1, e2, b6, b4⟩, fun g R _ _ => Or.inr ⟨⟨e1, e2, e3, e4⟩, R.2, rfl⟩⟩, fun e => bad (fun z => e z.2.2.2)⟩⟩⟩⟩)
  refine pt_q (pt_and c (wk_170 S z1 z2 z3 z4 I)) ?_
  rintro v h' ⟨⟨x, ev, r⟩, ⟨x', -, -, -, I'⟩⟩
  exact ⟨x, ev, r, I'⟩
theorem c_274w {n : Nat} {X : aX} {h : aH} {x1 x2 x3 x4 : Int32} {a1 a2 a3 a4 : Int} (S : wS h) (z1 : x1.toInt = a1) (z2 : x2.toInt = a2) (z3 : x3.toInt = a3) (z4 : x4.toInt = a4) (I : IV h) : Pt n X zM274 0 [some (.ref 72), some (.int x1), some (.int x2), some (.int x3), some (.int x4)] [] h (qI (fun r h' => ((0 ≤ vw h 72 2 ∧ vw h 72 2 ≤ 150) ∧ vw h 72 14 ≤ 200 → R274 (vw h) a1 a2 a3 a4 r (vw h')) ∧ IV h')) := by
  have bad : ¬ oMN (vw h) a1 a2 a3 a4 → R274 (vw h) a1 a2 a3 a4 (-1) (vw h) := fun z => Or.inl ⟨z, rfl, rfl⟩
  have c : (0 ≤ vw h 72 2 ∧ vw h 72 2 ≤ 150) ∧ vw h 72 14 ≤ 200 → Pt n X zM274 0 [some (.ref 72), some (.int x1), some (.int x2), some (.int x3), some (.int x4)] [] h (qI (fun r h' => R274 (vw h) a1 a2 a3 a4 r (vw h'))) := fun hh =>
    pt_d (d274_0 S z1 z2 z3 z4 ⟨fun e => bad (fun z => e z.1), fun e1 => ⟨fun e => bad (fun z => e z.2.1), fun e2 => ⟨fun e => bad (fun z => e z.2.2.1), fun e3 => ⟨fun e4 => ⟨⟨I.2.2.2, hh.1, hh.2, e2⟩, fun g R _ _ => Or.inr ⟨⟨e1, e2, e3, e4⟩, R.2, rfl⟩⟩, fun e => bad (fun z => e z.2.2.2)⟩⟩⟩⟩)
  by_cases hh : (0 ≤ vw h 72 2 ∧ vw h 72 2 ≤ 150) ∧ vw h 72 14 ≤ 200
  · refine pt_q (pt_and (c hh) (wk_274 S z1 z2 z3 z4 I)) ?_
    rintro v h' ⟨⟨x, ev, r⟩, ⟨x', -, -, -, I'⟩⟩
    exact ⟨x, ev, fun _ => r, I'⟩
  · refine pt_q (wk_274 S z1 z2 z3 z4 I) ?_
    rintro v h' ⟨x', ev, -, -, I'⟩
    exact ⟨x', ev, fun z => absurd z hh, I'⟩
theorem jx_26 {h h1 h2 : aH} {f y t nm r1 r2 : Int} (I0 : IV h) (A : AP (vw h)) (JP : JPer (vw h)) (H : JHand (vw h)) (Mj : JMaj (vw h)) (r111 : ∀ j, 0 ≤ j → j < 1500 → vw h 111 j ≤ 2147483647) (c : R170 h f y t nm r1 h1 ∧ IV h1) (m : ((0 ≤ vw h1 72 2 ∧ vw h1 72 2 ≤ 150) ∧ vw h1 72 14 ≤ 200 → R274 (vw h1) f y t nm r2 (vw h2)) ∧ IV h2) : (JSea (vw h2) ∧ JRk (vw h2)) ∧ r1 = r2 := by
  refine ⟨⟨JSea_IV m.2, rOK_IV m.2⟩, ?_⟩
  have fr : ∀ (c : Nat) j, c < 146 → c ≠ 42 → c ≠ 43 → c ≠ 44 → vw h1 c j = vw h c j := by
    rcases c.1 with ⟨-, -, rfl⟩ | ⟨-, ⟨-, q, g1, g4, r, -, -, F, -⟩, -⟩
    · exact fun _ _ _ _ _ _ => rfl
    · exact F
  have B := A.1.2.1
  have b1 := B.2.2.2.2.2.1
  have b2 := B.2.2.2.2.2.2.1
  have n2 : vw h1 72 2 = vw h 1 1 := by rw [fr 72 2 (by decide) (by decide) (by decide) (by decide)]; exact B.1.symm
  have n14 : vw h1 72 14 = vw h 1 6 := by rw [fr 72 14 (by decide) (by decide) (by decide) (by decide)]; exact H.1.symm
  have M := m.1 ⟨by rw [n2]; exact ⟨b1, b2⟩, by rw [n14]; have := H.2.2.2.2.2.2.1; omega⟩
  have ok : okN (vw h) f y t nm ↔ oMN (vw h1) f y t nm := by
    unfold okN oMN
    rw [farm_j B]
    unfold mFarm mBody
    rw [fr 72 2 (by decide) (by decide) (by decide) (by decide), fr 73 f (by decide) (by decide) (by decide) (by decide)]
  rcases c.1 with ⟨n, rfl, -⟩ | ⟨o, R, e1⟩
  · rcases M with ⟨-, rfl, -⟩ | ⟨o', -⟩
    · rfl
    · exact absurd (ok.mpr o') n
  · rcases M with ⟨n, -⟩ | ⟨-, ⟨G, RR, FF'⟩, e2⟩
    · exact absurd (ok.mp o) n
    · have a := nms_c I0 A JP H Mj (cF_b b2 o.1 b1) o.2.1 o.2.2.1 r111 R
      have x : ∀ (c : Nat) j, 72 ≤ c → c ≤ 110 → vw h1 c j = vw h c j := fun c j u v => fr c j (by omega) (by omega) (by omega) (by omega)
      have RD := rkd_m x RR
      have AR := RR.1.1
      have b := nms_m (W := vw h2) A RD o.2.1 (fun c j u v => (agR_x AR c j v (by omega)).trans (x c j (by omega) (by omega))) ((agR_y AR (by decide) (by decide)).trans (x 72 2 (by decide) (by decide))) ((agR_y AR (by decide) (by decide)).trans (x 72 14 (by decide) (by decide))) (fun j => (AR 111 j (Or.inr (by decide)) (Or.inl (by decide))).trans (fr 111 j (by decide) (by decide) (by decide) (by decide))) FF'
      rw [e1, e2]
      exact NMS_e a b nm o.2.2.2.1 o.2.2.2.2
end
section
-- ===== the worth of texts =====
def nmV (t : Int) : Int := if t = 121 then 0 else if t = 107 then 1 else if t = 115 then 2 else if t = 102 then 3 else if t = 103 then 4 else if t = 99 then 5 else if t = 116 then 6 else if t = 108 then 7 else if t = 101 then 8 else if t = 112 then 9 else if t = 109 then 10 else if t = 106 then 11 else if t = 98 then 12 else -1
def dgVal (T : Int → Int) : Nat → Int → Int → Int
  | 0, _, v => v
  | k + 1, p, v => bif isD (T p) then dgVal T k (p + 1) (w32 (w32 (w32 (v * 10) + T p) - 48)) else v
noncomputable def bo (w a b : Int) : Int := if w = 43 then w32 (a + b) else if w = 45 then w32 (a - b) else if w = 42 then w32 (a * b) else if w = 47 then (if b = 0 then 0 else iDiv a b) else if w = 37 then (if b = 0 then 0 else iRem a b) else if w = 60 then bI (a < b) else if w = 61 then bI (a = b) else if w = 62 then bI (b < a) else if w = 38 then bI (a ≠ 0 ∧ b ≠ 0) else bI (a ≠ 0 ∨ b ≠ 0)
noncomputable def stpP (N : Int → Int) (w x : Int) (st : List Int) : List Int := if w = 1 then x :: st else if w = 2 then N x :: st else match st with
  | [] => []
  | b :: r => if w = 3 then bI (b = 0) :: r else if w = 4 then w32 (-b) :: r else match r with
    | [] => []
    | a :: r2 => bo w a b :: r2
noncomputable def run (N : Int → Int) : List (Int × Int) → List Int → List Int
  | [], st => st
  | (w, x) :: L, st => run N L (stpP N w x st)
theorem run_a (N : Int → Int) : ∀ (L M : List (Int × Int)) (st : List Int), run N (L ++ M) st = run N M (run N L st)
  | [], _, _ => rfl
  | (w, x) :: L, M, st => run_a N L M (stpP N w x st)
abbrev cR : Type := Option (Int × List (Int × Int))
def cdT (r : cR) (M : List (Int × Int)) (g : Int → cR) : cR := match r with
  | none => none
  | some (q, L) => match g q with
    | none => none
    | some (q2, L2) => some (q2, L ++ (M ++ L2))
def cdF (T : Int → Int) : Nat → Nat → Int → Int → cR
  | 0, _, _, _ => none
  | k + 1, tag, o, p => match tag with
    | 0 => bif nmB (T p) then some (p + 1, [(2, nmV (T p))])
      else bif T p == 33 then (bif o == 8 then none else cdT (cdF T k 0 (o + 1) (p + 1)) [(3, 0)] (fun q => some (q, [])))
      else bif T p == 45 then (bif o == 8 then none else cdT (cdF T k 0 (o + 1) (p + 1)) [(4, 0)] (fun q => some (q, [])))
      else bif T p == 40 then (bif o == 8 then none else cdT (cdF T k 8 (o + 1) (p + 1)) [] (fun q => bif T q == 41 then some (q + 1, []) else none))
      else bif dgEnd T 6 p == p || isD (T (dgEnd T 6 p)) then none else some (dgEnd T 6 p, [(1, dgVal T 6 p 0)])
    | 1 => cdT (cdF T k 0 o p) [] (fun q => cdF T k 2 o q)
    | 2 => bif opB 2 (T p) then cdT (cdF T k 0 o (p + 1)) [(T p, 0)] (fun q => cdF T k 2 o q) else some (p, [])
    | 3 => cdT (cdF T k 1 o p) [] (fun q => cdF T k 4 o q)
    | 4 => bif opB 4 (T p) then cdT (cdF T k 1 o (p + 1)) [(T p, 0)] (fun q => cdF T k 4 o q) else some (p, [])
    | 5 => cdT (cdF T k 3 o p) [] (fun q => cdF T k 12 o q)
    | 6 => cdT (cdF T k 5 o p) [] (fun q => cdF T k 7 o q)
    | 7 => bif opB 7 (T p) then cdT (cdF T k 5 o (p + 1)) [(T p, 0)] (fun q => cdF T k 7 o q) else some (p, [])
    | 8 => cdT (cdF T k 6 o p) [] (fun q => cdF T k 9 o q)
    | 9 => bif opB 9 (T p) then cdT (cdF T k 6 o (p + 1)) [(T p, 0)] (fun q => cdF T k 9 o q) else some (p, [])
    | 12 => bif opB 12 (T p) then cdT (cdF T k 3 o (p + 1)) [(T p, 0)] (fun q => some (q, [])) else some (p, [])
    | _ => none
theorem cdT_x {r : cR} {M : List (Int × Int)} {g : Int → cR} {q : Int} {L : List (Int × Int)} (e : cdT r M g = some (q, L)) : ∃ q1 L1 L2, r = some (q1, L1) ∧ g q1 = some (q, L2) ∧ L = L1 ++ (M ++ L2) := by
  cases hr : r with
  | none => rw [hr] at e; cases e
  | some y =>
    obtain ⟨q1, L1⟩ := y
    rw [hr] at e
    unfold cdT at e
    dsimp only at e
    cases hg : g q1 with
    | none => rw [hg] at e; cases e
    | some z =>
      obtain ⟨q2, L2⟩ := z
      rw [hg] at e
      cases e
      exact ⟨q1, L1, L2, rfl, hg, rfl⟩
theorem cdT_e {r : cR} {M : List (Int × Int)} {g : Int → cR} {q1 q : Int} {L1 L2 : List (Int × Int)} (a : r = some (q1, L1)) (b : g q1 = some (q, L2)) : cdT r M g = some (q, L1 ++ (M ++ L2)) := by
  rw [a]
  unfold cdT
  dsimp only
  rw [b]
theorem cdT_m {r r' : cR} {M : List (Int × Int)} {g g' : Int → cR} (h1 : ∀ x, r = some x → r' = some x) (h2 : ∀ q x, g q = some x → g' q = some x) : ∀ x, cdT r M g = some x → cdT r' M g' = some x := by
  rintro ⟨q, L⟩ e
  obtain ⟨q1, L1, L2, a, b, rfl⟩ := cdT_x e
  exact cdT_e (h1 _ a) (h2 _ _ b)
theorem bic_m {b : Bool} {r r' s s' : cR} (h1 : ∀ x, r = some x → r' = some x) (h2 : ∀ x, s = some x → s' = some x) : ∀ x, (bif b then r else s) = some x → (bif b then r' else s') = some x := by
  intro x e
  cases b with
  | true => exact h1 x e
  | false => exact h2 x e
theorem cdF_s (T : Int → Int) : ∀ (k tag : Nat) (o p : Int) (x : Int × List (Int × Int)), cdF T k tag o p = some x → cdF T (k + 1) tag o p = some x
  | 0, _, _, _, _, e => by cases e
  | k + 1, tag, o, p, x, e => by
    have ih := cdF_s T k
    have same : ∀ (r : cR) x, r = some x → r = some x := fun _ _ e => e
    match tag with
    | 0 => exact bic_m (same _) (bic_m (bic_m (same _) (cdT_m (ih 0 _ _) (fun _ => same _))) (bic_m (bic_m (same _) (cdT_m (ih 0 _ _) (fun _ => same _))) (bic_m (bic_m (same _) (cdT_m (ih 8 _ _) (fun _ => same _))) (same _)))) x e
    | 1 => exact cdT_m (ih 0 _ _) (fun q => ih 2 o q) x e
    | 2 => exact bic_m (cdT_m (ih 0 _ _) (fun q => ih 2 o q)) (same _) x e
    | 3 => exact cdT_m (ih 1 _ _) (fun q => ih 4 o q) x e
    | 4 => exact bic_m (cdT_m (ih 1 _ _) (fun q => ih 4 o q)) (same _) x e
    | 5 => exact cdT_m (ih 3 _ _) (fun q => ih 12 o q) x e
    | 6 => exact cdT_m (ih 5 _ _) (fun q => ih 7 o q) x e
    | 7 => exact bic_m (cdT_m (ih 5 _ _) (fun q => ih 7 o q)) (same _) x e
    | 8 => exact cdT_m (ih 6 _ _) (fun q => ih 9 o q) x e
    | 9 => exact bic_m (cdT_m (ih 6 _ _) (fun q => ih 9 o q)) (same _) x e
    | 10 => cases e
    | 11 => cases e
    | 12 => exact bic_m (cdT_m (ih 3 _ _) (fun _ => same _)) (same _) x e
    | _ + 13 => cases e
theorem cdF_le {T : Int → Int} {k k' tag : Nat} {o p : Int} {x : Int × List (Int × Int)} (h : k ≤ k') (e : cdF T k tag o p = some x) : cdF T k' tag o p = some x := by
  obtain ⟨d, rfl⟩ := Nat.le.dest h
  induction d with
  | zero => exact e
  | succ d ih => exact cdF_s T (k + d) tag o p x (ih (by omega))
def Cd (T : Int → Int) (t : Nat) (o p q : Int) (L : List (Int × Int)) : Prop := ∃ k, cdF T k t o p = some (q, L)
theorem cd_u {T : Int → Int} {t : Nat} {o p q q' : Int} {L L' : List (Int × Int)} (a : Cd T t o p q L) (b : Cd T t o p q' L') : q = q' ∧ L = L' := by
  obtain ⟨k, a⟩ := a
  obtain ⟨k', b⟩ := b
  have a := cdF_le (Nat.le_max_left k k') a
  have b := cdF_le (Nat.le_max_right k k') b
  rw [a] at b
  cases b
  exact ⟨rfl, rfl⟩
def seqC (t t1 t2 : Nat) : Prop := ∀ (T : Int → Int) (k : Nat) (o p : Int), cdF T (k + 1) t o p = cdT (cdF T k t1 o p) [] (fun q => cdF T k t2 o q)
def lopC (t t1 : Nat) : Prop := ∀ (T : Int → Int) (k : Nat) (o p : Int), cdF T (k + 1) t o p = bif opB t (T p) then cdT (cdF T k t1 o (p + 1)) [(T p, 0)] (fun q => cdF T k t o q) else some (p, [])
theorem ksq1 : seqC 1 0 2 := fun _ _ _ _ => rfl
theorem ksq3 : seqC 3 1 4 := fun _ _ _ _ => rfl
theorem ksq5 : seqC 5 3 12 := fun _ _ _ _ => rfl
theorem ksq6 : seqC 6 5 7 := fun _ _ _ _ => rfl
theorem ksq8 : seqC 8 6 9 := fun _ _ _ _ => rfl
theorem klp2 : lopC 2 0 := fun _ _ _ _ => rfl
theorem klp4 : lopC 4 1 := fun _ _ _ _ => rfl
theorem klp7 : lopC 7 5 := fun _ _ _ _ => rfl
theorem klp9 : lopC 9 6 := fun _ _ _ _ => rfl
theorem kch12 (T : Int → Int) (k : Nat) (o p : Int) : cdF T (k + 1) 12 o p = bif opB 12 (T p) then cdT (cdF T k 3 o (p + 1)) [(T p, 0)] (fun q => some (q, [])) else some (p, []) := rfl
section KD
variable {T : Int → Int} {t t1 t2 : Nat} {o p q q1 q2 : Int} {L L1 L2 : List (Int × Int)}
theorem kq_n (S : seqC t t1 t2) (a : Cd T t1 o p q1 L1) (b : Cd T t2 o q1 q L2) : Cd T t o p q (L1 ++ L2) := by
  obtain ⟨k, a⟩ := a
  obtain ⟨k', b⟩ := b
  exact ⟨max k k' + 1, (S T _ o p).trans (cdT_e (cdF_le (Nat.le_max_left k k') a) (cdF_le (Nat.le_max_right k k') b))⟩
theorem kq_x (S : seqC t t1 t2) (a : Cd T t o p q L) : ∃ q1 L1 L2, Cd T t1 o p q1 L1 ∧ Cd T t2 o q1 q L2 ∧ L = L1 ++ L2 := by
  obtain ⟨k, a⟩ := a
  cases k with
  | zero => cases a
  | succ k =>
    rw [S] at a
    obtain ⟨q1, L1, L2, b, c, e⟩ := cdT_x a
    exact ⟨q1, L1, L2, ⟨k, b⟩, ⟨k, c⟩, e⟩
theorem kl_e (S : lopC t t1) (h : opB t (T p) = false) : Cd T t o p p [] := ⟨1, by rw [S, h]; rfl⟩
theorem kl_n (S : lopC t t1) (h : opB t (T p) = true) (a : Cd T t1 o (p + 1) q1 L1) (b : Cd T t o q1 q L2) : Cd T t o p q (L1 ++ (T p, 0) :: L2) := by
  obtain ⟨k, a⟩ := a
  obtain ⟨k', b⟩ := b
  exact ⟨max k k' + 1, by rw [S, h]; exact cdT_e (cdF_le (Nat.le_max_left k k') a) (cdF_le (Nat.le_max_right k k') b)⟩
theorem kl_x (S : lopC t t1) (a : Cd T t o p q L) : (opB t (T p) = false ∧ q = p ∧ L = []) ∨ (opB t (T p) = true ∧ ∃ q1 L1 L2, Cd T t1 o (p + 1) q1 L1 ∧ Cd T t o q1 q L2 ∧ L = L1 ++ (T p, 0) :: L2) := by
  obtain ⟨k, a⟩ := a
  cases k with
  | zero => cases a
  | succ k =>
    rw [S] at a
    cases z : opB t (T p) with
    | false =>
      rw [z] at a
      cases a
      exact Or.inl ⟨rfl, rfl, rfl⟩
    | true =>
      rw [z] at a
      obtain ⟨q1, L1, L2, b, c, e⟩ := cdT_x a
      exact Or.inr ⟨rfl, q1, L1, L2, ⟨k, b⟩, ⟨k, c⟩, e⟩
theorem kc_e (h : opB 12 (T p) = false) : Cd T 12 o p p [] := ⟨1, by rw [kch12, h]; rfl⟩
theorem kc_y (h : opB 12 (T p) = true) (a : Cd T 3 o (p + 1) q L1) : Cd T 12 o p q (L1 ++ [(T p, 0)]) := by
  obtain ⟨k, a⟩ := a
  refine ⟨k + 1, ?_⟩
  rw [kch12, h]
  show cdT (cdF T k 3 o (p + 1)) [(T p, 0)] (fun q => some (q, [])) = _
  exact cdT_e (g := fun q => some (q, [])) a rfl
theorem kc_x (a : Cd T 12 o p q L) : (opB 12 (T p) = false ∧ q = p ∧ L = []) ∨ (opB 12 (T p) = true ∧ ∃ L1, Cd T 3 o (p + 1) q L1 ∧ L = L1 ++ [(T p, 0)]) := by
  obtain ⟨k, a⟩ := a
  cases k with
  | zero => cases a
  | succ k =>
    rw [kch12] at a
    cases z : opB 12 (T p) with
    | false =>
      rw [z] at a
      cases a
      exact Or.inl ⟨rfl, rfl, rfl⟩
    | true =>
      rw [z] at a
      have a : cdT (cdF T k 3 o (p + 1)) [(T p, 0)] (fun q => some (q, [])) = some (q, L) := a
      obtain ⟨q1, L1, L2, b, c, e⟩ := cdT_x a
      cases c
      exact Or.inr ⟨rfl, L1, ⟨k, b⟩, e⟩
-- the operand
theorem ko_s (T : Int → Int) (k : Nat) (o p : Int) : cdF T (k + 1) 0 o p = bif nmB (T p) then some (p + 1, [(2, nmV (T p))]) else bif T p == 33 then (bif o == 8 then none else cdT (cdF T k 0 (o + 1) (p + 1)) [(3, 0)] (fun q => some (q, []))) else bif T p == 45 then (bif o == 8 then none else cdT (cdF T k 0 (o + 1) (p + 1)) [(4, 0)] (fun q => some (q, []))) else bif T p == 40 then (bif o == 8 then none else cdT (cdF T k 8 (o + 1) (p + 1)) [] (fun q => bif T q == 41 then some (q + 1, []) else none)) else bif dgEnd T 6 p == p || isD (T (dgEnd T 6 p)) then none else some (dgEnd T 6 p, [(1, dgVal T 6 p 0)]) := rfl
theorem ko_nm (h : nmB (T p) = true) : Cd T 0 o p (p + 1) [(2, nmV (T p))] := ⟨1, by rw [ko_s, h]; rfl⟩
theorem ko_un {w : Int} (h : (T p = 33 ∧ w = 3) ∨ (T p = 45 ∧ w = 4)) (ho : o ≠ 8) (a : Cd T 0 (o + 1) (p + 1) q L) : Cd T 0 o p q (L ++ [(w, 0)]) := by
  obtain ⟨k, a⟩ := a
  refine ⟨k + 1, ?_⟩
  rw [ko_s, beq_false_of_ne ho]
  rcases h with ⟨h, rfl⟩ | ⟨h, rfl⟩ <;> rw [h]
  · show cdT (cdF T k 0 (o + 1) (p + 1)) [(3, 0)] (fun q => some (q, [])) = _
    exact cdT_e (g := fun q => some (q, [])) a rfl
  · show cdT (cdF T k 0 (o + 1) (p + 1)) [(4, 0)] (fun q => some (q, [])) = _
    exact cdT_e (g := fun q => some (q, [])) a rfl
theorem ko_br (h : T p = 40) (ho : o ≠ 8) (a : Cd T 8 (o + 1) (p + 1) q L) (b : T q = 41) : Cd T 0 o p (q + 1) L := by
  obtain ⟨k, a⟩ := a
  refine ⟨k + 1, ?_⟩
  rw [ko_s, beq_false_of_ne ho, h]
  have e := cdT_e (M := []) (g := fun q => bif T q == 41 then some (q + 1, []) else none) a (show (bif T q == 41 then some (q + 1, ([] : List (Int × Int))) else none) = some (q + 1, []) by rw [b]; rfl)
  rw [List.nil_append, List.append_nil] at e
  exact e
theorem ko_no (h1 : nmB (T p) = false) (h2 : T p ≠ 33) (h3 : T p ≠ 45) (h4 : T p ≠ 40) (d : ¬ (dgEnd T 6 p = p ∨ isD (T (dgEnd T 6 p)) = true)) : Cd T 0 o p (dgEnd T 6 p) [(1, dgVal T 6 p 0)] := by
  refine ⟨1, ?_⟩
  have z : (dgEnd T 6 p == p || isD (T (dgEnd T 6 p))) = false := by
    rw [Bool.eq_false_iff]
    intro w
    rw [Bool.or_eq_true, beq_iff_eq] at w
    exact d w
  rw [ko_s, h1, beq_false_of_ne h2, beq_false_of_ne h3, beq_false_of_ne h4, z]
  rfl
theorem ko_x (a : Cd T 0 o p q L) : (nmB (T p) = true ∧ q = p + 1 ∧ L = [(2, nmV (T p))]) ∨ (nmB (T p) = false ∧ o ≠ 8 ∧ ∃ w L1, ((T p = 33 ∧ w = 3) ∨ (T p = 45 ∧ w = 4)) ∧ Cd T 0 (o + 1) (p + 1) q L1 ∧ L = L1 ++ [(w, 0)]) ∨ (nmB (T p) = false ∧ o ≠ 8 ∧ T p = 40 ∧ ∃ q1, Cd T 8 (o + 1) (p + 1) q1 L ∧ T q1 = 41 ∧ q = q1 + 1) ∨ (nmB (T p) = false ∧ (T p ≠ 33 ∧ T p ≠ 45 ∧ T p ≠ 40) ∧ ¬ (dgEnd T 6 p = p ∨ isD (T (dgEnd T 6 p)) = true) ∧ q = dgEnd T 6 p ∧ L = [(1, dgVal T 6 p 0)]) := by
  obtain ⟨k, a⟩ := a
  cases k with
  | zero => cases a
  | succ k =>
    rw [ko_s] at a
    cases z1 : nmB (T p) with
    | true =>
      rw [z1] at a
      cases a
      exact Or.inl ⟨rfl, rfl, rfl⟩
    | false =>
      rw [z1] at a
      have un : ∀ (c w : Int), (bif o == 8 then none else cdT (cdF T k 0 (o + 1) (p + 1)) [(w, 0)] (fun q => some (q, []))) = some (q, L) → o ≠ 8 ∧ ∃ L1, Cd T 0 (o + 1) (p + 1) q L1 ∧ L = L1 ++ [(w, 0)] := fun c w a => by
        cases z : (o == 8) with
        | true => rw [z] at a; cases a
        | false =>
          rw [z] at a
          have a : cdT (cdF T k 0 (o + 1) (p + 1)) [(w, 0)] (fun q => some (q, [])) = some (q, L) := a
          obtain ⟨q1, L1, L2, b, c, e⟩ := cdT_x a
          cases c
          exact ⟨ne_of_beq_false z, L1, ⟨k, b⟩, e⟩
      cases z2 : (T p == 33) with
      | true =>
        rw [z2] at a
        obtain ⟨n, L1, b, e⟩ := un 33 3 a
        exact Or.inr (Or.inl ⟨rfl, n, 3, L1, Or.inl ⟨eq_of_beq z2, rfl⟩, b, e⟩)
      | false =>
        rw [z2] at a
        cases z3 : (T p == 45) with
        | true =>
          rw [z3] at a
          obtain ⟨n, L1, b, e⟩ := un 45 4 a
          exact Or.inr (Or.inl ⟨rfl, n, 4, L1, Or.inr ⟨eq_of_beq z3, rfl⟩, b, e⟩)
        | false =>
          rw [z3] at a
          cases z4 : (T p == 40) with
          | true =>
            rw [z4] at a
            cases z : (o == 8) with
            | true => rw [z] at a; cases a
            | false =>
              rw [z] at a
              obtain ⟨q1, L1, L2, b, c, e⟩ := cdT_x a
              cases z5 : (T q1 == 41) with
              | false => simp only [z5, cond_false] at c; cases c
              | true =>
                simp only [z5, cond_true] at c
                cases c
                rw [List.nil_append, List.append_nil] at e
                exact Or.inr (Or.inr (Or.inl ⟨rfl, ne_of_beq_false z, eq_of_beq z4, q1, ⟨k, by rw [e]; exact b⟩, eq_of_beq z5, rfl⟩))
          | false =>
            rw [z4] at a
            cases z6 : (dgEnd T 6 p == p || isD (T (dgEnd T 6 p))) with
            | true => rw [z6] at a; cases a
            | false =>
              rw [z6] at a
              cases a
              refine Or.inr (Or.inr (Or.inr ⟨rfl, ⟨ne_of_beq_false z2, ne_of_beq_false z3, ne_of_beq_false z4⟩, fun w => ?_, rfl, rfl⟩))
              rw [Bool.or_eq_false_iff] at z6
              rcases w with w | w
              · exact ne_of_beq_false z6.1 w
              · rw [z6.2] at w
                cases w
end KD
end

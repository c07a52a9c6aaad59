-- ===== 82zy.rel4: 2 texts =====
section
-- acts
def JA2 (A B : vS) : Prop := A 66 1 = B 72 95 ∧ ∀ j, A 67 j = B 141 j
theorem JA2_bg {A B : vS} (J : JA2 A B) (v : Int) : JA2 (bg A v) (mbg B v) := by
  obtain ⟨j1, j2⟩ := J
  unfold bg mbg
  by_cases q : A 66 1 < 24
  · rw [if_pos q, if_pos (by omega)]
    refine ⟨by rw [up_s, up_s, j1], fun j => ?_⟩
    rw [up_c (show (67 : Nat) ≠ 66 by decide), up_p, up_c (show (141 : Nat) ≠ 72 by decide), up_p, j1, j2]
  · rw [if_neg q, if_neg (by omega)]
    refine ⟨by rw [up_s, up_s, j1], fun j => ?_⟩
    rw [up_c (by decide), up_c (by decide), j2]
theorem JA2_bgs : ∀ (l : List Int) {A B : vS}, JA2 A B → JA2 (bgs A l) (mbgs B l)
  | [], _, _, J => J
  | v :: l, _, _, J => JA2_bgs l (JA2_bg J v)
def JAct (V : vS) : Prop := JA2 V V
theorem yNr_m {f m m' b x : Int} (h : kFarm f → m = m') : yNr f m b x = yNr f m' b x := by
  by_cases q : f ≠ 1 ∧ f ≠ 2 ∧ f ≠ 3 ∧ f ≠ 7
  · rw [yNr_d q, yNr_d q]
  · rw [h (by unfold kFarm; omega)]
theorem hNr_m {f m m' b x : Int} (h : 4 ≤ f → f ≤ 5 → m = m') : hNr f m b x = hNr f m' b x := by
  by_cases q : f ≠ 4 ∧ f ≠ 5
  · rw [hNr_d q, hNr_d q]
  · rw [h (by omega) (by omega)]
theorem aNr_m {act k m m' b x : Int} (h1 : kFarm k → m = m') (h2 : 4 ≤ k → k ≤ 5 → m = m') : aNr act k m b x = aNr act k m' b x := by
  by_cases q : kFarm k
  · rw [h1 q]
  · by_cases q2 : k = 4 ∨ k = 5
    · rw [h2 (by omega) (by omega)]
    · have e1 : ∀ x, yNr k m b x = yNr k m' b x := fun x => yNr_m (fun z => absurd z q)
      have e2 : ∀ x, hNr k m b x = hNr k m' b x := fun x => hNr_m (fun z1 z2 => absurd (by omega) q2)
      have hk : k ≠ 7 := by unfold kFarm at q; omega
      have e3 : ∀ x, cNr k k m b x = cNr k k m' b x := fun x => by
        unfold cNr
        rw [if_neg hk, if_neg hk]
        simp only [e1, e2]
      unfold aNr tNr
      simp only [e1, e2, e3]
theorem jx_42 {V V1 V2 : vS} {b act x r1 r2 : Int} (J : JBody V) (L : JAct V) (c : R186 V b act x r1 V1) (m : R316 V1 b act x r2 V2) : JAct V2 ∧ r1 = r2 := by
  have eb : cBody V b ↔ mBody V b := by unfold cBody mBody; rw [J.1]
  rcases c with ⟨a, rfl, rfl⟩ | ⟨a, q, rfl⟩
  · have eW : mBody (up V 66 1 0) b ↔ mBody V b := by
      unfold mBody
      rw [up_c (by decide)]
    rcases m with ⟨b0, rfl, rfl⟩ | ⟨b0, -⟩
    · refine ⟨⟨?_, fun j => ?_⟩, rfl⟩
      · rw [up_c (by decide), up_s, up_s]
      · rw [up_c (by decide), up_c (by decide), up_c (by decide), up_c (by decide)]
        exact L.2 j
    · exact absurd ⟨eb.mpr (eW.mp b0.1), b0.2⟩ a
  · obtain ⟨b0, b1, b2⟩ := body_lt J a.1
    have me := J.2.2.2.2.2.2.2.2 b b0 b1
    unfold JMeas at me
    have w : ∀ (c : Nat) (j : Int), c ≠ 66 → c ≠ 67 → bgs (up (up (up (up V 66 1 0) 66 2 b) 66 3 (V 2 b)) 66 4 (V 3 b)) (aTr act (V 2 b)) c j = V c j := fun c j h1 h2 => by
      rw [bgs_o h2 (Or.inl h1), up_c h1, up_c h1, up_c h1, up_c h1]
    have K0 : JA2 (up (up (up (up V 66 1 0) 66 2 b) 66 3 (V 2 b)) 66 4 (V 3 b)) (up (bgs (up (up (up (up V 66 1 0) 66 2 b) 66 3 (V 2 b)) 66 4 (V 3 b)) (aTr act (V 2 b))) 72 95 0) := by
      refine ⟨?_, fun j => ?_⟩
      · rw [up_j (by decide), up_j (by decide), up_j (by decide), up_s, up_s]
      · rw [up_c (by decide), up_c (by decide), up_c (by decide), up_c (by decide), up_c (by decide), w 141 j (by decide) (by decide)]
        exact L.2 j
    have K := JA2_bgs (aTr act (V 2 b)) K0
    generalize bgs (up (up (up (up V 66 1 0) 66 2 b) 66 3 (V 2 b)) 66 4 (V 3 b)) (aTr act (V 2 b)) = W at m w K
    have eW : mBody W b ↔ mBody V b := by
      unfold mBody
      rw [w 72 2 (by decide) (by decide)]
    rcases m with ⟨c0, -⟩ | ⟨c0, hr, rfl⟩
    · exact absurd ⟨eW.mpr (eb.mp a.1), a.2⟩ c0
    · have e2 : W 73 b = V 2 b := by rw [w 73 b (by decide) (by decide), J.2.1]
      rw [e2] at hr ⊢
      refine ⟨⟨?_, fun j => ?_⟩, ?_⟩
      · rw [mbgs_x (by decide) (by decide), up_c (by decide)]
        exact K.1
      · rw [mbgs_x (by decide) (by decide), up_c (by decide)]
        exact K.2 j
      · rw [q, hr]
        have h3 : mM W b = mM V b := mM_c (w 73 b (by decide) (by decide)) (w 74 b (by decide) (by decide)) (w 78 b (by decide) (by decide))
        rw [h3]
        refine aNr_m (fun z => ?_) (fun z1 z2 => ?_)
        · rw [mM_1 (by rw [← J.2.1]; exact z)]; exact me.1 z
        · rw [mM_2 (by rw [← J.2.1]; unfold kFarm; omega)]; exact me.2.1 z1 z2
theorem jx_43 {V : vS} {i r1 r2 : Int} (L : JAct V) (h0 : 0 ≤ V 66 1) (c : R187 V i r1) (m : R317 V i r2) : r1 = r2 := by
  obtain ⟨l1, l2⟩ := L
  have e := l2 i
  have h : w32 (min (V 66 1) 24 - 1) = min (V 66 1) 24 - 1 := w32_id (by omega) (by omega)
  unfold R187 at c
  rw [h] at c
  unfold R317 at m
  omega
def LAct : List (Nat × Option Nat) := [(66, some 1), (72, some 95), (67, none), (141, none)]
theorem JAct_ag {V V' : vS} (J : JAct V) (A : ag LAct V V') : JAct V' := by
  obtain ⟨a1, a2, a3, a4, -⟩ := A
  have a1 : V' 66 1 = V 66 1 := a1
  have a2 : V' 72 95 = V 72 95 := a2
  unfold JAct JA2
  simp only [a1, a2, a3, a4]
  exact J
theorem JAct_dG {W : List (Nat × Nat)} {σ σ1 : List Nat} {h h1 : aH} (J : JAct (vw h)) (I : dI σ h) (G : dG W σ h σ1 h1) (k : frL W LAct = true) : JAct (vw h1) := JAct_ag J (ag_dG I.1 G _ k)
theorem zJAct0 : JAct (vw zH0) := by
  have e1 : vw zH0 66 1 = 0 := vzf (i := 1) (x := 0) zh66 rfl
  have e2 : vw zH0 72 95 = 0 := vzf (i := 95) (x := 0) zh72 rfl
  exact ⟨by rw [e1, e2], fun j => by rw [vz zh67, vz zh141]⟩
end
section
-- ===== the rows of squares of both sides are one =====
def tb (a : Int) (x : Nat) : Bool := (Int32.ofInt a).toBitVec.getLsbD x
end

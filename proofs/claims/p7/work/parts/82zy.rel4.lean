-- ===== the two sides' proofs of majeure, outs, acts, as numbers =====
def JMaj (V : vS) : Prop := ∀ j, V 32 j = V 111 j ∧ 0 ≤ V 32 j
theorem jx_18 {V V1 V2 : vS} {f y r1 r2 : Int} (J : JBody V) (L : JMaj V) (hd : V 1 0 = V 72 1) (h0 : 0 ≤ V 1 0 ∧ V 1 0 ≤ 3649) (c : R162 V f y r1 V1) (m : R244 V1 f y r2 V2) : JMaj V2 ∧ r1 = r2 := by
  have ok : ok162 V f y ↔ ok244 V f y := by
    unfold ok162 ok244
    rw [farm_j J]
  have l := L (10 * f + y)
  rcases c with ⟨a, rfl, rfl⟩ | ⟨a, a1, rfl, rfl⟩ | ⟨a, a1, rfl, rfl⟩
  · rcases m with ⟨b, rfl, rfl⟩ | ⟨b, -⟩ | ⟨b, -⟩
    · exact ⟨L, rfl⟩
    · exact absurd (ok.mpr b) a
    · exact absurd (ok.mpr b) a
  · rcases m with ⟨b, rfl, rfl⟩ | ⟨b, b1, rfl, rfl⟩ | ⟨b, b1, -⟩
    · exact absurd (ok.mp a) b
    · exact ⟨L, rfl⟩
    · omega
  · generalize hW : up V 32 (10 * f + y) (w32 (V 1 0 + 1)) = W at m
    have w : ∀ (c : Nat) (j : Int), c ≠ 32 → W c j = V c j := fun c j h => by rw [← hW, up_c h]
    have okW : ok244 W f y ↔ ok244 V f y := by
      unfold ok244 mFarm mBody
      rw [w 72 2 (by decide), w 73 f (by decide)]
    have e := w 111 (10 * f + y) (by decide)
    rcases m with ⟨b, -⟩ | ⟨b, b1, -⟩ | ⟨b, b1, rfl, rfl⟩
    · exact absurd (okW.mpr (ok.mp a)) b
    · omega
    · refine ⟨fun j => ?_, rfl⟩
      have w1 : w32 (V 1 0 + 1) = V 1 0 + 1 := w32_id (by omega) (by omega)
      rw [up_c (by decide), ← hW, up_p, up_p, up_c (by decide), up_c (by decide), ← hd, w1]
      have := L j
      by_cases q : j = 10 * f + y
      · rw [if_pos q, if_pos q]; omega
      · rw [if_neg q, if_neg q]; exact this
def LMaj : List (Nat × Option Nat) := [(32, none), (111, none)]
theorem JMaj_ag {V V' : vS} (J : JMaj V) (A : ag LMaj V V') : JMaj V' := fun j => by
  obtain ⟨a1, a2, -⟩ := A
  rw [a1, a2]
  exact J j
theorem JMaj_dG {W : List (Nat × Nat)} {σ σ1 : List Nat} {h h1 : aH} (J : JMaj (vw h)) (I : dI σ h) (G : dG W σ h σ1 h1) (k : frL W LMaj = true) : JMaj (vw h1) := JMaj_ag J (ag_dG I.1 G _ k)
theorem zJMaj0 : JMaj (vw zH0) := fun j => by rw [vz zh32, vz zh111]; exact ⟨rfl, Int.le_refl _⟩
def JOut1 (V : vS) (j : Int) : Prop := V 92 j = iDiv (V 23 j) 100 ∧ V 93 j = iRem (V 23 j) 100 ∧ V 94 j = iDiv (V 24 j) 100 ∧ V 95 j = iRem (V 24 j) 100 ∧ V 96 j = V 25 j ∧ V 97 j = V 26 j
def JOut (V : vS) : Prop := V 16 2 = V 72 25 ∧ 0 ≤ V 16 2 ∧ V 16 2 ≤ 40 ∧ ∀ j, 0 ≤ j → j < V 16 2 → JOut1 V j
theorem okOut_j {a b d : Int} (ha : a ≤ 2147483647) (hb : b ≤ 2147483647) : okOut a b d ↔ okOum a b d := by
  unfold okOut okOum
  constructor
  · rintro ⟨h1, h2, h3, h4, h5, h6, h7⟩
    have e1 := iDiv_pos (a := a) (b := 100) h1 ha (by decide) (by decide)
    have e2 := iRem_pos (a := a) (b := 100) h1 ha (by decide) (by decide)
    have e3 := iDiv_pos (a := b) (b := 100) h2 hb (by decide) (by decide)
    have e4 := iRem_pos (a := b) (b := 100) h2 hb (by decide) (by decide)
    omega
  · rintro ⟨h1, h2, h3, h4, h5, h6, h7⟩
    omega
theorem jx_15 {V V1 V2 : vS} {a b d r1 r2 : Int} (L : JOut V) (hd : V 1 0 = V 72 1) (c : R159 V a b d r1 V1) (m : R232 V1 a b d r2 V2) : JOut V2 ∧ r1 = r2 := by
  obtain ⟨⟨ha, hb⟩, c⟩ := c
  have ok := okOut_j (d := d) ha hb
  have L0 := L
  obtain ⟨l1, l2, l3, l4⟩ := L0
  rcases c with ⟨k, rfl, rfl⟩ | ⟨k, k1, rfl, rfl⟩ | ⟨k, k1, ⟨k2, -, -⟩ | ⟨k2, k3, hr, rfl⟩⟩
  · rcases m with ⟨b0, rfl, rfl⟩ | ⟨b0, -⟩ | ⟨b0, -⟩
    · exact ⟨L, rfl⟩
    · exact absurd (ok.mpr b0) k
    · exact absurd (ok.mpr b0) k
  · rcases m with ⟨b0, rfl, rfl⟩ | ⟨b0, b1, rfl, rfl⟩ | ⟨b0, b1, -⟩
    · exact absurd (ok.mp k) b0
    · exact ⟨L, rfl⟩
    · omega
  · omega
  · have w : ∀ (c : Nat) (j : Int), c ≠ 16 → c ≠ 23 → c ≠ 24 → c ≠ 25 → c ≠ 26 → cOutV V a b d c j = V c j := fun c j h1 h2 h3 h4 h5 => by unfold cOutV; rw [up_c h1, up_c h5, up_c h4, up_c h3, up_c h2]
    have w16 : cOutV V a b d 16 2 = w32 (V 16 2 + 1) := by unfold cOutV; rw [up_s]
    have w23 : ∀ j, cOutV V a b d 23 j = if j = V 16 2 then a else V 23 j := fun j => by unfold cOutV; rw [up_c (by decide), up_c (by decide), up_c (by decide), up_c (by decide), up_p]
    have w24 : ∀ j, cOutV V a b d 24 j = if j = V 16 2 then b else V 24 j := fun j => by unfold cOutV; rw [up_c (by decide), up_c (by decide), up_c (by decide), up_p, up_c (by decide)]
    have w25 : ∀ j, cOutV V a b d 25 j = if j = V 16 2 then d else V 25 j := fun j => by unfold cOutV; rw [up_c (by decide), up_c (by decide), up_p, up_c (by decide), up_c (by decide)]
    have w26 : ∀ j, cOutV V a b d 26 j = if j = V 16 2 then V 1 0 else V 26 j := fun j => by unfold cOutV; rw [up_c (by decide), up_p, up_c (by decide), up_c (by decide), up_c (by decide)]
    generalize cOutV V a b d = W at m w w16 w23 w24 w25 w26
    have y : ∀ (c : Nat) (j : Int), 72 ≤ c → W c j = V c j := fun c j h => w c j (by omega) (by omega) (by omega) (by omega) (by omega)
    have e25 := y 72 25 (by decide)
    have e1 := y 72 1 (by decide)
    have w1 : w32 (V 16 2 + 1) = V 16 2 + 1 := w32_id (by omega) (by omega)
    rcases m with ⟨b0, -⟩ | ⟨b0, b1, -⟩ | ⟨b0, b1, hr2, rfl⟩
    · exact absurd (ok.mp k) b0
    · omega
    · have q : ∀ (c : Nat) (j : Int), c ≠ 72 → c ≠ 92 → c ≠ 93 → c ≠ 94 → c ≠ 95 → c ≠ 96 → c ≠ 97 → mOutV W a b d c j = W c j := fun c j h1 h2 h3 h4 h5 h6 h7 => by unfold mOutV; rw [up_c h1, up_c h1, up_c h7, up_c h6, up_c h5, up_c h4, up_c h3, up_c h2]
      have q25 : mOutV W a b d 72 25 = w32 (W 72 25 + 1) := by unfold mOutV; rw [up_j (by decide), up_s]
      have q92 : ∀ j, mOutV W a b d 92 j = if j = W 72 25 then iDiv a 100 else W 92 j := fun j => by unfold mOutV; rw [up_c (by decide), up_c (by decide), up_c (by decide), up_c (by decide), up_c (by decide), up_c (by decide), up_c (by decide), up_p]
      have q93 : ∀ j, mOutV W a b d 93 j = if j = W 72 25 then iRem a 100 else W 93 j := fun j => by unfold mOutV; rw [up_c (by decide), up_c (by decide), up_c (by decide), up_c (by decide), up_c (by decide), up_c (by decide), up_p, up_c (by decide)]
      have q94 : ∀ j, mOutV W a b d 94 j = if j = W 72 25 then iDiv b 100 else W 94 j := fun j => by unfold mOutV; rw [up_c (by decide), up_c (by decide), up_c (by decide), up_c (by decide), up_c (by decide), up_p, up_c (by decide), up_c (by decide)]
      have q95 : ∀ j, mOutV W a b d 95 j = if j = W 72 25 then iRem b 100 else W 95 j := fun j => by unfold mOutV; rw [up_c (by decide), up_c (by decide), up_c (by decide), up_c (by decide), up_p, up_c (by decide), up_c (by decide), up_c (by decide)]
      have q96 : ∀ j, mOutV W a b d 96 j = if j = W 72 25 then d else W 96 j := fun j => by unfold mOutV; rw [up_c (by decide), up_c (by decide), up_c (by decide), up_p, up_c (by decide), up_c (by decide), up_c (by decide), up_c (by decide)]
      have q97 : ∀ j, mOutV W a b d 97 j = if j = W 72 25 then W 72 1 else W 97 j := fun j => by unfold mOutV; rw [up_c (by decide), up_c (by decide), up_p, up_c (by decide), up_c (by decide), up_c (by decide), up_c (by decide), up_c (by decide)]
      generalize mOutV W a b d = U at q q25 q92 q93 q94 q95 q96 q97
      have u16 : U 16 2 = V 16 2 + 1 := by rw [q 16 2 (by decide) (by decide) (by decide) (by decide) (by decide) (by decide) (by decide), w16, w1]
      refine ⟨⟨by rw [u16, q25, e25, ← l1, w1], by omega, by omega, fun j j0 j1 => ?_⟩, by rw [hr, hr2, e25, l1]⟩
      rw [u16] at j1
      unfold JOut1
      rw [q92, q93, q94, q95, q96, q97, q 23 j (by decide) (by decide) (by decide) (by decide) (by decide) (by decide) (by decide), q 24 j (by decide) (by decide) (by decide) (by decide) (by decide) (by decide) (by decide), q 25 j (by decide) (by decide) (by decide) (by decide) (by decide) (by decide) (by decide), q 26 j (by decide) (by decide) (by decide) (by decide) (by decide) (by decide) (by decide), w23, w24, w25, w26, e25, e1, ← l1, ← hd, y 92 j (by decide), y 93 j (by decide), y 94 j (by decide), y 95 j (by decide), y 96 j (by decide), y 97 j (by decide)]
      by_cases z : j = V 16 2
      · simp only [if_pos z, and_self]
      · simp only [if_neg z]
        exact l4 j j0 (by omega)
def LOut : List (Nat × Option Nat) := [(16, some 2), (72, some 25), (92, none), (93, none), (94, none), (95, none), (96, none), (97, none), (23, none), (24, none), (25, none), (26, none)]
theorem JOut_ag {V V' : vS} (J : JOut V) (A : ag LOut V V') : JOut V' := by
  obtain ⟨a1, a2, a3, a4, a5, a6, a7, a8, a9, a10, a11, a12, -⟩ := A
  have a1 : V' 16 2 = V 16 2 := a1
  have a2 : V' 72 25 = V 72 25 := a2
  unfold JOut JOut1
  simp only [a1, a2, a3, a4, a5, a6, a7, a8, a9, a10, a11, a12]
  exact J
theorem JOut_dG {W : List (Nat × Nat)} {σ σ1 : List Nat} {h h1 : aH} (J : JOut (vw h)) (I : dI σ h) (G : dG W σ h σ1 h1) (k : frL W LOut = true) : JOut (vw h1) := JOut_ag J (ag_dG I.1 G _ k)
theorem zJOut0 : JOut (vw zH0) := by
  have e1 : vw zH0 16 2 = 0 := vzf (i := 2) (x := 0) zh16 rfl
  have e2 : vw zH0 72 25 = 0 := vzf (i := 25) (x := 0) zh72 rfl
  exact ⟨by rw [e1, e2], by rw [e1]; decide, by rw [e1]; decide, fun j h0 h1 => by rw [e1] at h1; omega⟩
-- acts
def JA2 (A B : vS) : Prop := A 66 1 = B 72 95 ∧ ∀ j, A 67 j = B 141 j
theorem JA2_bg {A B : vS} (J : JA2 A B) (v : Int) : JA2 (bg A v) (mbg B v) := by
  obtain ⟨j1, j2⟩ := J
  unfold bg mbg
  by_cases q : A 66 1 < 24
  · rw [if_pos q, if_pos (by omega)]
    refine ⟨by rw [up_s, up_s, j1], fun j => ?_⟩
    rw [up_c (show (67 : Nat) ≠ 66 by decide), up_p, up_c (show (141 : Nat) ≠ 72 by decide), up_p, j1, j2]
  · rw [if_neg q, if_neg (by omega)]
    refine ⟨by rw [up_s, up_s, j1], fun j => ?_⟩
    rw [up_c (by decide), up_c (by decide), j2]
theorem JA2_bgs : ∀ (l : List Int) {A B : vS}, JA2 A B → JA2 (bgs A l) (mbgs B l)
  | [], _, _, J => J
  | v :: l, _, _, J => JA2_bgs l (JA2_bg J v)
def JAct (V : vS) : Prop := JA2 V V
theorem yNr_m {f m m' b x : Int} (h : kFarm f → m = m') : yNr f m b x = yNr f m' b x := by
  by_cases q : f ≠ 1 ∧ f ≠ 2 ∧ f ≠ 3 ∧ f ≠ 7
  · rw [yNr_d q, yNr_d q]
  · rw [h (by unfold kFarm; omega)]
theorem hNr_m {f m m' b x : Int} (h : 4 ≤ f → f ≤ 5 → m = m') : hNr f m b x = hNr f m' b x := by
  by_cases q : f ≠ 4 ∧ f ≠ 5
  · rw [hNr_d q, hNr_d q]
  · rw [h (by omega) (by omega)]
theorem aNr_m {act k m m' b x : Int} (h1 : kFarm k → m = m') (h2 : 4 ≤ k → k ≤ 5 → m = m') : aNr act k m b x = aNr act k m' b x := by
  by_cases q : kFarm k
  · rw [h1 q]
  · by_cases q2 : k = 4 ∨ k = 5
    · rw [h2 (by omega) (by omega)]
    · have e1 : ∀ x, yNr k m b x = yNr k m' b x := fun x => yNr_m (fun z => absurd z q)
      have e2 : ∀ x, hNr k m b x = hNr k m' b x := fun x => hNr_m (fun z1 z2 => absurd (by omega) q2)
      have hk : k ≠ 7 := by unfold kFarm at q; omega
      have e3 : ∀ x, cNr k k m b x = cNr k k m' b x := fun x => by
        unfold cNr
        rw [if_neg hk, if_neg hk]
        simp only [e1, e2]
      unfold aNr tNr
      simp only [e1, e2, e3]
theorem jx_42 {V V1 V2 : vS} {b act x r1 r2 : Int} (J : JBody V) (L : JAct V) (c : R186 V b act x r1 V1) (m : R316 V1 b act x r2 V2) : JAct V2 ∧ r1 = r2 := by
  have eb : cBody V b ↔ mBody V b := by unfold cBody mBody; rw [J.1]
  rcases c with ⟨a, rfl, rfl⟩ | ⟨a, q, rfl⟩
  · have eW : mBody (up V 66 1 0) b ↔ mBody V b := by
      unfold mBody
      rw [up_c (by decide)]
    rcases m with ⟨b0, rfl, rfl⟩ | ⟨b0, -⟩
    · refine ⟨⟨?_, fun j => ?_⟩, rfl⟩
      · rw [up_c (by decide), up_s, up_s]
      · rw [up_c (by decide), up_c (by decide), up_c (by decide), up_c (by decide)]
        exact L.2 j
    · exact absurd ⟨eb.mpr (eW.mp b0.1), b0.2⟩ a
  · obtain ⟨b0, b1, b2⟩ := body_lt J a.1
    have me := J.2.2.2.2.2.2.2.2 b b0 b1
    unfold JMeas at me
    have w : ∀ (c : Nat) (j : Int), c ≠ 66 → c ≠ 67 → bgs (up (up (up (up V 66 1 0) 66 2 b) 66 3 (V 2 b)) 66 4 (V 3 b)) (aTr act (V 2 b)) c j = V c j := fun c j h1 h2 => by
      rw [bgs_o h2 (Or.inl h1), up_c h1, up_c h1, up_c h1, up_c h1]
    have K0 : JA2 (up (up (up (up V 66 1 0) 66 2 b) 66 3 (V 2 b)) 66 4 (V 3 b)) (up (bgs (up (up (up (up V 66 1 0) 66 2 b) 66 3 (V 2 b)) 66 4 (V 3 b)) (aTr act (V 2 b))) 72 95 0) := by
      refine ⟨?_, fun j => ?_⟩
      · rw [up_j (by decide), up_j (by decide), up_j (by decide), up_s, up_s]
      · rw [up_c (by decide), up_c (by decide), up_c (by decide), up_c (by decide), up_c (by decide), w 141 j (by decide) (by decide)]
        exact L.2 j
    have K := JA2_bgs (aTr act (V 2 b)) K0
    generalize bgs (up (up (up (up V 66 1 0) 66 2 b) 66 3 (V 2 b)) 66 4 (V 3 b)) (aTr act (V 2 b)) = W at m w K
    have eW : mBody W b ↔ mBody V b := by
      unfold mBody
      rw [w 72 2 (by decide) (by decide)]
    rcases m with ⟨c0, -⟩ | ⟨c0, hr, rfl⟩
    · exact absurd ⟨eW.mpr (eb.mp a.1), a.2⟩ c0
    · have e2 : W 73 b = V 2 b := by rw [w 73 b (by decide) (by decide), J.2.1]
      rw [e2] at hr ⊢
      refine ⟨⟨?_, fun j => ?_⟩, ?_⟩
      · rw [mbgs_x (by decide) (by decide), up_c (by decide)]
        exact K.1
      · rw [mbgs_x (by decide) (by decide), up_c (by decide)]
        exact K.2 j
      · rw [q, hr]
        have h3 : mM W b = mM V b := mM_c (w 73 b (by decide) (by decide)) (w 74 b (by decide) (by decide)) (w 78 b (by decide) (by decide))
        rw [h3]
        refine aNr_m (fun z => ?_) (fun z1 z2 => ?_)
        · rw [mM_1 (by rw [← J.2.1]; exact z)]; exact me.1 z
        · rw [mM_2 (by rw [← J.2.1]; unfold kFarm; omega)]; exact me.2.1 z1 z2
theorem jx_43 {V : vS} {i r1 r2 : Int} (L : JAct V) (h0 : 0 ≤ V 66 1) (c : R187 V i r1) (m : R317 V i r2) : r1 = r2 := by
  obtain ⟨l1, l2⟩ := L
  have e := l2 i
  have h : w32 (min (V 66 1) 24 - 1) = min (V 66 1) 24 - 1 := w32_id (by omega) (by omega)
  unfold R187 at c
  rw [h] at c
  unfold R317 at m
  omega
def LAct : List (Nat × Option Nat) := [(66, some 1), (72, some 95), (67, none), (141, none)]
theorem JAct_ag {V V' : vS} (J : JAct V) (A : ag LAct V V') : JAct V' := by
  obtain ⟨a1, a2, a3, a4, -⟩ := A
  have a1 : V' 66 1 = V 66 1 := a1
  have a2 : V' 72 95 = V 72 95 := a2
  unfold JAct JA2
  simp only [a1, a2, a3, a4]
  exact J
theorem JAct_dG {W : List (Nat × Nat)} {σ σ1 : List Nat} {h h1 : aH} (J : JAct (vw h)) (I : dI σ h) (G : dG W σ h σ1 h1) (k : frL W LAct = true) : JAct (vw h1) := JAct_ag J (ag_dG I.1 G _ k)
theorem zJAct0 : JAct (vw zH0) := by
  have e1 : vw zH0 66 1 = 0 := vzf (i := 1) (x := 0) zh66 rfl
  have e2 : vw zH0 72 95 = 0 := vzf (i := 95) (x := 0) zh72 rfl
  exact ⟨by rw [e1, e2], fun j => by rw [vz zh67, vz zh141]⟩

-- ===== 82zy.rel4: 3 texts =====
section
-- ===== the two sides' proofs of majeure, outs, acts, as numbers =====
def JMaj (V : vS) : Prop := ∀ j, V 32 j = V 111 j ∧ 0 ≤ V 32 j
theorem jx_18 {V V1 V2 : vS} {f y r1 r2 : Int} (J : JBody V) (L : JMaj V) (hd : V 1 0 = V 72 1) (h0 : 0 ≤ V 1 0 ∧ V 1 0 ≤ 3649) (c : R162 V f y r1 V1) (m : R244 V1 f y r2 V2) : JMaj V2 ∧ r1 = r2 := by
  have ok : ok162 V f y ↔ ok244 V f y := by
    unfold ok162 ok244
    rw [farm_j J]
  have l := L (10 * f + y)
  rcases c with ⟨a, rfl, rfl⟩ | ⟨a, a1, rfl, rfl⟩ | ⟨a, a1, rfl, rfl⟩
  · rcases m with ⟨b, rfl, rfl⟩ | ⟨b, -⟩ | ⟨b, -⟩
    · exact ⟨L, rfl⟩
    · exact absurd (ok.mpr b) a
    · exact absurd (ok.mpr b) a
  · rcases m with ⟨b, rfl, rfl⟩ | ⟨b, b1, rfl, rfl⟩ | ⟨b, b1, -⟩
    · exact absurd (ok.mp a) b
    · exact ⟨L, rfl⟩
    · omega
  · generalize hW : up V 32 (10 * f + y) (w32 (V 1 0 + 1)) = W at m
    have w : ∀ (c : Nat) (j : Int), c ≠ 32 → W c j = V c j := fun c j h => by rw [← hW, up_c h]
    have okW : ok244 W f y ↔ ok244 V f y := by
      unfold ok244 mFarm mBody
      rw [w 72 2 (by decide), w 73 f (by decide)]
    have e := w 111 (10 * f + y) (by decide)
    rcases m with ⟨b, -⟩ | ⟨b, b1, -⟩ | ⟨b, b1, rfl, rfl⟩
    · exact absurd (okW.mpr (ok.mp a)) b
    · omega
    · refine ⟨fun j => ?_, rfl⟩
      have w1 : w32 (V 1 0 + 1) = V 1 0 + 1 := w32_id (by omega) (by omega)
      rw [up_c (by decide), ← hW, up_p, up_p, up_c (by decide), up_c (by decide), ← hd, w1]
      have := L j
      by_cases q : j = 10 * f + y
      · rw [if_pos q, if_pos q]; omega
      · rw [if_neg q, if_neg q]; exact this
def LMaj : List (Nat × Option Nat) := [(32, none), (111, none)]
theorem JMaj_ag {V V' : vS} (J : JMaj V) (A : ag LMaj V V') : JMaj V' := fun j => by
  obtain ⟨a1, a2, -⟩ := A
  rw [a1, a2]
  exact J j
theorem JMaj_dG {W : List (Nat × Nat)} {σ σ1 : List Nat} {h h1 : aH} (J : JMaj (vw h)) (I : dI σ h) (G : dG W σ h σ1 h1) (k : frL W LMaj = true) : JMaj (vw h1) := JMaj_ag J (ag_dG I.1 G _ k)
theorem zJMaj0 : JMaj (vw zH0) := fun j => by rw [vz zh32, vz zh111]; exact ⟨rfl, Int.le_refl _⟩
def JOut1 (V : vS) (j : Int) : Prop := V 92 j = iDiv (V 23 j) 100 ∧ V 93 j = iRem (V 23 j) 100 ∧ V 94 j = iDiv (V 24 j) 100 ∧ V 95 j = iRem (V 24 j) 100 ∧ V 96 j = V 25 j ∧ V 97 j = V 26 j
def JOut (V : vS) : Prop := V 16 2 = V 72 25 ∧ 0 ≤ V 16 2 ∧ V 16 2 ≤ 40 ∧ ∀ j, 0 ≤ j → j < V 16 2 → JOut1 V j
theorem okOut_j {a b d : Int} (ha : a ≤ 2147483647) (hb : b ≤ 2147483647) : okOut a b d ↔ okOum a b d := by
  unfold okOut okOum
  constructor
  · rintro ⟨h1, h2, h3, h4, h5, h6, h7⟩
    have e1 := iDiv_pos (a := a) (b := 100) h1 ha (by decide) (by decide)
    have e2 := iRem_pos (a := a) (b := 100) h1 ha (by decide) (by decide)
    have e3 := iDiv_pos (a := b) (b := 100) h2 hb (by decide) (by decide)
    have e4 := iRem_pos (a := b) (b := 100) h2 hb (by decide) (by decide)
    omega
  · rintro ⟨h1, h2, h3, h4, h5, h6, h7⟩
    omega
theorem jx_15 {V V1 V2 : vS} {a b d r1 r2 : Int} (L : JOut V) (hd : V 1 0 = V 72 1) (c : R159 V a b d r1 V1) (m : R232 V1 a b d r2 V2) : JOut V2 ∧ r1 = r2 := by
  obtain ⟨⟨ha, hb⟩, c⟩ := c
  have ok := okOut_j (d := d) ha hb
  have L0 := L
  obtain ⟨l1, l2, l3, l4⟩ := L0
  rcases c with ⟨k, rfl, rfl⟩ | ⟨k, k1, rfl, rfl⟩ | ⟨k, k1, ⟨k2, -, -⟩ | ⟨k2, k3, hr, rfl⟩⟩
  · rcases m with ⟨b0, rfl, rfl⟩ | ⟨b0, -⟩ | ⟨b0, -⟩
    · exact ⟨L, rfl⟩
    · exact absurd (ok.mpr b0) k
    · exact absurd (ok.mpr b0) k
  · rcases m with ⟨b0, rfl, rfl⟩ | ⟨b0, b1, rfl, rfl⟩ | ⟨b0, b1, -⟩
    · exact absurd (ok.mp k) b0
    · exact ⟨L, rfl⟩
    · omega
  · omega
  · have w : ∀ (c : Nat) (j : Int), c ≠ 16 → c ≠ 23 → c ≠ 24 → c ≠ 25 → c ≠ 26 → cOutV V a b d c j = V c j := fun c j h1 h2 h3 h4 h5 => by unfold cOutV; rw [up_c h1, up_c h5, up_c h4, up_c h3, up_c h2]
    have w16 : cOutV V a b d 16 2 = w32 (V 16 2 + 1) := by unfold cOutV; rw [up_s]
    have w23 : ∀ j, cOutV V a b d 23 j = if j = V 16 2 then a else V 23 j := fun j => by unfold cOutV; rw [up_c (by decide), up_c (by decide), up_c (by decide), up_c (by decide), up_p]
    have w24 : ∀ j, cOutV V a b d 24 j = if j = V 16 2 then b else V 24 j := fun j => by unfold cOutV; rw [up_c (by decide), up_c (by decide), up_c (by decide), up_p, up_c (by decide)]
    have w25 : ∀ j, cOutV V a b d 25 j = if j = V 16 2 then d else V 25 j := fun j => by unfold cOutV; rw [up_c (by decide), up_c (by decide), up_p, up_c (by decide), up_c (by decide)]
    have w26 : ∀ j, cOutV V a b d 26 j = if j = V 16 2 then V 1 0 else V 26 j := fun j => by unfold cOutV; rw [up_c (by decide), up_p, up_c (by decide), up_c (by decide), up_c (by decide)]
    generalize cOutV V a b d = W at m w w16 w23 w24 w25 w26
    have y : ∀ (c : Nat) (j : Int), 72 ≤ c → W c j = V c j := fun c j h => w c j (by omega) (by omega) (by omega) (by omega) (by omega)
    have e25 := y 72 25 (by decide)
    have e1 := y 72 1 (by decide)
    have w1 : w32 (V 16 2 + 1) = V 16 2 + 1 := w32_id (by omega) (by omega)
    rcases m with ⟨b0, -⟩ | ⟨b0, b1, -⟩ | ⟨b0, b1, hr2, rfl⟩
    · exact absurd (ok.mp k) b0
    · omega
    · have q : ∀ (c : Nat) (j : Int), c ≠ 72 → c ≠ 92 → c ≠ 93 → c ≠ 94 → c ≠ 95 → c ≠ 96 → c ≠ 97 → mOutV W a b d c j = W c j := fun c j h1 h2 h3 h4 h5 h6 h7 => by unfold mOutV; rw [up_c h1, up_c h1, up_c h7, up_c h6, up_c h5, up_c h4, up_c h3, up_c h2]
      have q25 : mOutV W a b d 72 25 = w32 (W 72 25 + 1) := by unfold mOutV; rw [up_j (by decide), up_s]
      have q92 : ∀ j, mOutV W a b d 92 j = if j = W 72 25 then iDiv a 100 else W 92 j := fun j => by unfold mOutV; rw [up_c (by decide), up_c (by decide), up_c (by decide), up_c (by decide), up_c (by decide), up_c (by decide), up_c (by decide), up_p]
      have q93 : ∀ j, mOutV W a b d 93 j = if j = W 72 25 then iRem a 100 else W 93 j := fun j => by unfold mOutV; rw [up_c (by decide), up_c (by decide), up_c (by decide), up_c (by decide), up_c (by decide), up_c (by decide), up_p, up_c (by decide)]
      have q94 : ∀ j, mOutV W a b d 94 j = if j = W 72 25 then iDiv b 100 else W 94 j := fun j => by unfold mOutV; rw [up_c (by decide), up_c (by decide), up_c (by decide), up_c (by decide), up_c (by decide), up_p, up_c (by decide), up_c (by decide)]
      have q95 : ∀ j, mOutV W a b d 95 j = if j = W 72 25 then iRem b 100 else W 95 j := fun j => by unfold mOutV; rw [up_c (by decide), up_c (by decide), up_c (by decide), up_c (by decide), up_p, up_c (by decide), up_c (by decide), up_c (by decide)]
      have q96 : ∀ j, mOutV W a b d 96 j = if j = W 72 25 then d else W 96 j := fun j => by unfold mOutV; rw [up_c (by decide), up_c (by decide), up_c (by decide), up_p, up_c (by decide), up_c (by decide), up_c (by decide), up_c (by decide)]
      have q97 : ∀ j, mOutV W a b d 97 j = if j = W 72 25 then W 72 1 else W 97 j := fun j => by unfold mOutV; rw [up_c (by decide), up_c (by decide), up_p, up_c (by decide), up_c (by decide), up_c (by decide), up_c (by decide), up_c (by decide)]
      generalize mOutV W a b d = U at q q25 q92 q93 q94 q95 q96 q97
      have u16 : U 16 2 = V 16 2 + 1 := by rw [q 16 2 (by decide) (by decide) (by decide) (by decide) (by decide) (by decide) (by decide), w16, w1]
      refine ⟨⟨by rw [u16, q25, e25, ← l1, w1], by omega, by omega, fun j j0 j1 => ?_⟩, by rw [hr, hr2, e25, l1]⟩
      rw [u16] at j1
      unfold JOut1
      rw [q92, q93, q94, q95, q96, q97, q 23 j (by decide) (by decide) (by decide) (by decide) (by decide) (by decide) (by decide), q 24 j (by decide) (by decide) (by decide) (by decide) (by decide) (by decide) (by decide), q 25 j (by decide) (by decide) (by decide) (by decide) (by decide) (by decide) (by decide), q 26 j (by decide) (by decide) (by decide) (by decide) (by decide) (by decide) (by decide), w23, w24, w25, w26, e25, e1, ← l1, ← hd, y 92 j (by decide), y 93 j (by decide), y 94 j (by decide), y 95 j (by decide), y 96 j (by decide), y 97 j (by decide)]
      by_cases z : j = V 16 2
      · simp only [if_pos z, and_self]
      · simp only [if_neg z]
        exact l4 j j0 (by omega)
def LOut : List (Nat × Option Nat) := [(16, some 2), (72, some 25), (92, none), (93, none), (94, none), (95, none), (96, none), (97, none), (23, none), (24, none), (25, none), (26, none)]
theorem JOut_ag {V V' : vS} (J : JOut V) (A : ag LOut V V') : JOut V' := by
  obtain ⟨a1, a2, a3, a4, a5, a6, a7, a8, a9, a10, a11, a12, -⟩ := A
  have a1 : V' 16 2 = V 16 2 := a1
  have a2 : V' 72 25 = V 72 25 := a2
  unfold JOut JOut1
  simp only [a1, a2, a3, a4, a5, a6, a7, a8, a9, a10, a11, a12]
  exact J
theorem JOut_dG {W : List (Nat × Nat)} {σ σ1 : List Nat} {h h1 : aH} (J : JOut (vw h)) (I : dI σ h) (G : dG W σ h σ1 h1) (k : frL W LOut = true) : JOut (vw h1) := JOut_ag J (ag_dG I.1 G _ k)
theorem zJOut0 : JOut (vw zH0) := by
  have e1 : vw zH0 16 2 = 0 := vzf (i := 2) (x := 0) zh16 rfl
  have e2 : vw zH0 72 25 = 0 := vzf (i := 25) (x := 0) zh72 rfl
  exact ⟨by rw [e1, e2], by rw [e1]; decide, by rw [e1]; decide, fun j h0 h1 => by rw [e1] at h1; omega⟩
-- acts
def JA2 (A B : vS) : Prop := A 66 1 = B 72 95 ∧ ∀ j, A 67 j = B 141 j
theorem JA2_bg {A B : vS} (J : JA2 A B) (v : Int) : JA2 (bg A v) (mbg B v) := by
  obtain ⟨j1, j2⟩ := J
  unfold bg mbg
  by_cases q : A 66 1 < 24
  · rw [if_pos q, if_pos (by omega)]
    refine ⟨by rw [up_s, up_s, j1], fun j => ?_⟩
    rw [up_c (show (67 : Nat) ≠ 66 by decide), up_p, up_c (show (141 : Nat) ≠ 72 by decide), up_p, j1, j2]
  · rw [if_neg q, if_neg (by omega)]
    refine ⟨by rw [up_s, up_s, j1], fun j => ?_⟩
    rw [up_c (by decide), up_c (by decide), j2]
theorem JA2_bgs : ∀ (l : List Int) {A B : vS}, JA2 A B → JA2 (bgs A l) (mbgs B l)
  | [], _, _, J => J
  | v :: l, _, _, J => JA2_bgs l (JA2_bg J v)
def JAct (V : vS) : Prop := JA2 V V
theorem yNr_m {f m m' b x : Int} (h : kFarm f → m = m') : yNr f m b x = yNr f m' b x := by
  by_cases q : f ≠ 1 ∧ f ≠ 2 ∧ f ≠ 3 ∧ f ≠ 7
  · rw [yNr_d q, yNr_d q]
  · rw [h (by unfold kFarm; omega)]
theorem hNr_m {f m m' b x : Int} (h : 4 ≤ f → f ≤ 5 → m = m') : hNr f m b x = hNr f m' b x := by
  by_cases q : f ≠ 4 ∧ f ≠ 5
  · rw [hNr_d q, hNr_d q]
  · rw [h (by omega) (by omega)]
theorem aNr_m {act k m m' b x : Int} (h1 : kFarm k → m = m') (h2 : 4 ≤ k → k ≤ 5 → m = m') : aNr act k m b x = aNr act k m' b x := by
  by_cases q : kFarm k
  · rw [h1 q]
  · by_cases q2 : k = 4 ∨ k = 5
    · rw [h2 (by omega) (by omega)]
    · have e1 : ∀ x, yNr k m b x = yNr k m' b x := fun x => yNr_m (fun z => absurd z q)
      have e2 : ∀ x, hNr k m b x = hNr k m' b x := fun x => hNr_m (fun z1 z2 => absurd (by omega) q2)
      have hk : k ≠ 7 := by unfold kFarm at q; omega
      have e3 : ∀ x, cNr k k m b x = cNr k k m' b x := fun x => by
        unfold cNr
        rw [if_neg hk, if_neg hk]
        simp only [e1, e2]
      unfold aNr tNr
      simp only [e1, e2, e3]
theorem jx_42 {V V1 V2 : vS} {b act x r1 r2 : Int} (J : JBody V) (L : JAct V) (c : R186 V b act x r1 V1) (m : R316 V1 b act x r2 V2) : JAct V2 ∧ r1 = r2 := by
  have eb : cBody V b ↔ mBody V b := by unfold cBody mBody; rw [J.1]
  rcases c with ⟨a, rfl, rfl⟩ | ⟨a, q, rfl⟩
  · have eW : mBody (up V 66 1 0) b ↔ mBody V b := by
      unfold mBody
      rw [up_c (by decide)]
    rcases m with ⟨b0, rfl, rfl⟩ | ⟨b0, -⟩
    · refine ⟨⟨?_, fun j => ?_⟩, rfl⟩
      · rw [up_c (by decide), up_s, up_s]
      · rw [up_c (by decide), up_c (by decide), up_c (by decide), up_c (by decide)]
        exact L.2 j
    · exact absurd ⟨eb.mpr (eW.mp b0.1), b0.2⟩ a
  · obtain ⟨b0, b1, b2⟩ := body_lt J a.1
    have me := J.2.2.2.2.2.2.2.2 b b0 b1
    unfold JMeas at me
    have w : ∀ (c : Nat) (j : Int), c ≠ 66 → c ≠ 67 → bgs (up (up (up (up V 66 1 0) 66 2 b) 66 3 (V 2 b)) 66 4 (V 3 b)) (aTr act (V 2 b)) c j = V c j := fun c j h1 h2 => by
      rw [bgs_o h2 (Or.inl h1), up_c h1, up_c h1, up_c h1, up_c h1]
    have K0 : JA2 (up (up (up (up V 66 1 0) 66 2 b) 66 3 (V 2 b)) 66 4 (V 3 b)) (up (bgs (up (up (up (up V 66 1 0) 66 2 b) 66 3 (V 2 b)) 66 4 (V 3 b)) (aTr act (V 2 b))) 72 95 0) := by
      refine ⟨?_, fun j => ?_⟩
      · rw [up_j (by decide), up_j (by decide), up_j (by decide), up_s, up_s]
      · rw [up_c (by decide), up_c (by decide), up_c (by decide), up_c (by decide), up_c (by decide), w 141 j (by decide) (by decide)]
        exact L.2 j
    have K := JA2_bgs (aTr act (V 2 b)) K0
    generalize bgs (up (up (up (up V 66 1 0) 66 2 b) 66 3 (V 2 b)) 66 4 (V 3 b)) (aTr act (V 2 b)) = W at m w K
    have eW : mBody W b ↔ mBody V b := by
      unfold mBody
      rw [w 72 2 (by decide) (by decide)]
    rcases m with ⟨c0, -⟩ | ⟨c0, hr, rfl⟩
    · exact absurd ⟨eW.mpr (eb.mp a.1), a.2⟩ c0
    · have e2 : W 73 b = V 2 b := by rw [w 73 b (by decide) (by decide), J.2.1]
      rw [e2] at hr ⊢
      refine ⟨⟨?_, fun j => ?_⟩, ?_⟩
      · rw [mbgs_x (by decide) (by decide), up_c (by decide)]
        exact K.1
      · rw [mbgs_x (by decide) (by decide), up_c (by decide)]
        exact K.2 j
      · rw [q, hr]
        have h3 : mM W b = mM V b := mM_c (w 73 b (by decide) (by decide)) (w 74 b (by decide) (by decide)) (w 78 b (by decide) (by decide))
        rw [h3]
        refine aNr_m (fun z => ?_) (fun z1 z2 => ?_)
        · rw [mM_1 (by rw [← J.2.1]; exact z)]; exact me.1 z
        · rw [mM_2 (by rw [← J.2.1]; unfold kFarm; omega)]; exact me.2.1 z1 z2
theorem jx_43 {V : vS} {i r1 r2 : Int} (L : JAct V) (h0 : 0 ≤ V 66 1) (c : R187 V i r1) (m : R317 V i r2) : r1 = r2 := by
  obtain ⟨l1, l2⟩ := L
  have e := l2 i
  have h : w32 (min (V 66 1) 24 - 1) = min (V 66 1) 24 - 1 := w32_id (by omega) (by omega)
  unfold R187 at c
  rw [h] at c
  unfold R317 at m
  omega
def LAct : List (Nat × Option Nat) := [(66, some 1), (72, some 95), (67, none), (141, none)]
theorem JAct_ag {V V' : vS} (J : JAct V) (A : ag LAct V V') : JAct V' := by
  obtain ⟨a1, a2, a3, a4, -⟩ := A
  have a1 : V' 66 1 = V 66 1 := a1
  have a2 : V' 72 95 = V 72 95 := a2
  unfold JAct JA2
  simp only [a1, a2, a3, a4]
  exact J
theorem JAct_dG {W : List (Nat × Nat)} {σ σ1 : List Nat} {h h1 : aH} (J : JAct (vw h)) (I : dI σ h) (G : dG W σ h σ1 h1) (k : frL W LAct = true) : JAct (vw h1) := JAct_ag J (ag_dG I.1 G _ k)
theorem zJAct0 : JAct (vw zH0) := by
  have e1 : vw zH0 66 1 = 0 := vzf (i := 1) (x := 0) zh66 rfl
  have e2 : vw zH0 72 95 = 0 := vzf (i := 95) (x := 0) zh72 rfl
  exact ⟨by rw [e1, e2], fun j => by rw [vz zh67, vz zh141]⟩
end
section
-- ===== has =====
theorem gx153_0 : aF 0 zM153.2.2.2.2.2.2.2 = some (0, (.aload_n 0), 1, 0, 0) := by decide +kernel
theorem gx153_1 : aF 1 zM153.2.2.2.2.2.2.2 = some (1, (.getfield 12), 3, 11, 0) := by decide +kernel
theorem gx153_4 : aF 4 zM153.2.2.2.2.2.2.2 = some (4, (.iload_n 1), 1, 0, 0) := by decide +kernel
theorem gx153_5 : aF 5 zM153.2.2.2.2.2.2.2 = some (5, (.invokevirtual 136), 3, 77, 0) := by decide +kernel
theorem gx153_8 : aF 8 zM153.2.2.2.2.2.2.2 = some (8, (.ifCond .eq 23), 3, 31, 0) := by decide +kernel
theorem gx153_31 : aF 31 zM153.2.2.2.2.2.2.2 = some (31, (.iconst (-1)), 1, 0, 0) := by decide +kernel
theorem gx153_32 : aF 32 zM153.2.2.2.2.2.2.2 = some (32, .ireturn, 1, 0, 0) := by decide +kernel
theorem gx153_11 : aF 11 zM153.2.2.2.2.2.2.2 = some (11, (.iload_n 2), 1, 0, 0) := by decide +kernel
theorem gx153_12 : aF 12 zM153.2.2.2.2.2.2.2 = some (12, (.iconst 0), 1, 0, 0) := by decide +kernel
theorem gx153_13 : aF 13 zM153.2.2.2.2.2.2.2 = some (13, (.bipush 23), 2, 0, 0) := by decide +kernel
theorem gx153_15 : aF 15 zM153.2.2.2.2.2.2.2 = some (15, (.invokestatic 85), 3, 137, 0) := by decide +kernel
theorem gx153_18 : aF 18 zM153.2.2.2.2.2.2.2 = some (18, (.ifCond .eq 13), 3, 31, 0) := by decide +kernel
theorem gx153_21 : aF 21 zM153.2.2.2.2.2.2.2 = some (21, (.iload_n 3), 1, 0, 0) := by decide +kernel
theorem gx153_22 : aF 22 zM153.2.2.2.2.2.2.2 = some (22, (.iconst 0), 1, 0, 0) := by decide +kernel
theorem gx153_23 : aF 23 zM153.2.2.2.2.2.2.2 = some (23, (.bipush 23), 2, 0, 0) := by decide +kernel
theorem gx153_25 : aF 25 zM153.2.2.2.2.2.2.2 = some (25, (.invokestatic 85), 3, 137, 0) := by decide +kernel
theorem gx153_28 : aF 28 zM153.2.2.2.2.2.2.2 = some (28, (.ifCond .ne 5), 3, 33, 0) := by decide +kernel
theorem gx153_33 : aF 33 zM153.2.2.2.2.2.2.2 = some (33, (.aload_n 0), 1, 0, 0) := by decide +kernel
theorem gx153_34 : aF 34 zM153.2.2.2.2.2.2.2 = some (34, (.getfield 12), 3, 11, 0) := by decide +kernel
theorem gx153_37 : aF 37 zM153.2.2.2.2.2.2.2 = some (37, (.iload_n 1), 1, 0, 0) := by decide +kernel
theorem gx153_38 : aF 38 zM153.2.2.2.2.2.2.2 = some (38, (.iload_n 3), 1, 0, 0) := by decide +kernel
theorem gx153_39 : aF 39 zM153.2.2.2.2.2.2.2 = some (39, (.invokevirtual 155), 3, 82, 0) := by decide +kernel
theorem gx153_42 : aF 42 zM153.2.2.2.2.2.2.2 = some (42, (.iload_n 2), 1, 0, 0) := by decide +kernel
theorem gx153_43 : aF 43 zM153.2.2.2.2.2.2.2 = some (43, .ishr, 1, 0, 0) := by decide +kernel
theorem gx153_44 : aF 44 zM153.2.2.2.2.2.2.2 = some (44, (.iconst 1), 1, 0, 0) := by decide +kernel
theorem gx153_45 : aF 45 zM153.2.2.2.2.2.2.2 = some (45, .iand, 1, 0, 0) := by decide +kernel
theorem gx153_46 : aF 46 zM153.2.2.2.2.2.2.2 = some (46, .ireturn, 1, 0, 0) := by decide +kernel
theorem gx223_0 : aF 0 zM223.2.2.2.2.2.2.2 = some (0, (.aload_n 0), 1, 0, 0) := by decide +kernel
theorem gx223_1 : aF 1 zM223.2.2.2.2.2.2.2 = some (1, (.iload_n 1), 1, 0, 0) := by decide +kernel
theorem gx223_2 : aF 2 zM223.2.2.2.2.2.2.2 = some (2, (.invokevirtual 322), 3, 203, 0) := by decide +kernel
theorem gx223_5 : aF 5 zM223.2.2.2.2.2.2.2 = some (5, (.ifCond .eq 23), 3, 28, 0) := by decide +kernel
theorem gx223_28 : aF 28 zM223.2.2.2.2.2.2.2 = some (28, (.iconst (-1)), 1, 0, 0) := by decide +kernel
theorem gx223_29 : aF 29 zM223.2.2.2.2.2.2.2 = some (29, (.goto 18), 3, 47, 0) := by decide +kernel
theorem gx223_47 : aF 47 zM223.2.2.2.2.2.2.2 = some (47, .ireturn, 1, 0, 0) := by decide +kernel
theorem gx223_8 : aF 8 zM223.2.2.2.2.2.2.2 = some (8, (.iload_n 2), 1, 0, 0) := by decide +kernel
theorem gx223_9 : aF 9 zM223.2.2.2.2.2.2.2 = some (9, (.iconst 0), 1, 0, 0) := by decide +kernel
theorem gx223_10 : aF 10 zM223.2.2.2.2.2.2.2 = some (10, (.bipush 23), 2, 0, 0) := by decide +kernel
theorem gx223_12 : aF 12 zM223.2.2.2.2.2.2.2 = some (12, (.invokestatic 258), 3, 196, 0) := by decide +kernel
theorem gx223_15 : aF 15 zM223.2.2.2.2.2.2.2 = some (15, (.ifCond .eq 13), 3, 28, 0) := by decide +kernel
theorem gx223_18 : aF 18 zM223.2.2.2.2.2.2.2 = some (18, (.iload_n 3), 1, 0, 0) := by decide +kernel
theorem gx223_19 : aF 19 zM223.2.2.2.2.2.2.2 = some (19, (.iconst 0), 1, 0, 0) := by decide +kernel
theorem gx223_20 : aF 20 zM223.2.2.2.2.2.2.2 = some (20, (.bipush 23), 2, 0, 0) := by decide +kernel
theorem gx223_22 : aF 22 zM223.2.2.2.2.2.2.2 = some (22, (.invokestatic 258), 3, 196, 0) := by decide +kernel
theorem gx223_25 : aF 25 zM223.2.2.2.2.2.2.2 = some (25, (.ifCond .ne 7), 3, 32, 0) := by decide +kernel
theorem gx223_32 : aF 32 zM223.2.2.2.2.2.2.2 = some (32, (.aload_n 0), 1, 0, 0) := by decide +kernel
theorem gx223_33 : aF 33 zM223.2.2.2.2.2.2.2 = some (33, (.getfield 31), 3, 12, 10) := by decide +kernel
theorem gx223_36 : aF 36 zM223.2.2.2.2.2.2.2 = some (36, (.bipush 24), 2, 0, 0) := by decide +kernel
theorem gx223_38 : aF 38 zM223.2.2.2.2.2.2.2 = some (38, (.iload_n 1), 1, 0, 0) := by decide +kernel
theorem gx223_39 : aF 39 zM223.2.2.2.2.2.2.2 = some (39, .imul, 1, 0, 0) := by decide +kernel
theorem gx223_40 : aF 40 zM223.2.2.2.2.2.2.2 = some (40, (.iload_n 3), 1, 0, 0) := by decide +kernel
theorem gx223_41 : aF 41 zM223.2.2.2.2.2.2.2 = some (41, .iadd, 1, 0, 0) := by decide +kernel
theorem gx223_42 : aF 42 zM223.2.2.2.2.2.2.2 = some (42, .iaload, 1, 0, 0) := by decide +kernel
theorem gx223_43 : aF 43 zM223.2.2.2.2.2.2.2 = some (43, (.iload_n 2), 1, 0, 0) := by decide +kernel
theorem gx223_44 : aF 44 zM223.2.2.2.2.2.2.2 = some (44, .ishr, 1, 0, 0) := by decide +kernel
theorem gx223_45 : aF 45 zM223.2.2.2.2.2.2.2 = some (45, (.iconst 1), 1, 0, 0) := by decide +kernel
theorem gx223_46 : aF 46 zM223.2.2.2.2.2.2.2 = some (46, .iand, 1, 0, 0) := by decide +kernel
theorem d153_0 {n : Nat} {X : aX} {h : aH} {P : Int → aH → Prop} {x1 x2 x3 : Int32} {a1 a2 a3 : Int} (S : wS h) (z1 : x1.toInt = a1) (z2 : x2.toInt = a2) (z3 : x3.toInt = a3) (H : ((¬ (cField (vw h) a1) → P (-1) h) ∧ ((cField (vw h) a1) → ((¬ (0 ≤ a2 ∧ a2 ≤ 23) → P (-1) h) ∧ ((0 ≤ a2 ∧ a2 ≤ 23) → (((0 ≤ a3 ∧ a3 ≤ 23) → P (bAnd (bShr ((vw h) 8 (w32 (w32 (a1 * 24) + a3))) a2) 1) h) ∧ (¬ (0 ≤ a3 ∧ a3 ≤ 23) → P (-1) h))))))) : Pt (n + 1) X zM153 0 [some (.ref 0), some (.int x1), some (.int x2), some (.int x3)] [] h (qI P) := by
  refine pt_1 (fun n d => r_aloadn gx153_0 rfl) ?_
  refine pt_d (pt_getR gx153_1 S tr_0_0 ?_)
  refine pt_d (pt_1 (fun n d => r_iloadn gx153_4 rfl) ?_)
  refine pt_d (pt_virt (as := [.int x1]) (r := []) gx153_5 rfl (show zmt[77]? = some zM77 from rfl) rfl rfl rfl rfl (c_77 S z1) (kqP (fun v2 h2 => ?_)))
  show Pt _ _ _ 8 _ [.int v2] _ _
  refine pt_d (pt_ifB_eq gx153_8 h2 (fun e3 => ?_) (fun e3 => ?_))
  · have H := H.1 e3
    refine pt_d (pt_iconst gx153_31 (fun v4 h4 => ?_))
    exact pt_d (pt_iret gx153_32 ⟨_, rfl, by rw [h4]; exact H⟩)
  · have H := H.2 e3
    refine pt_d (pt_1 (fun n d => r_iloadn gx153_11 rfl) ?_)
    refine pt_d (pt_iconst gx153_12 (fun v5 h5 => ?_))
    refine pt_d (pt_bipush gx153_13 (fun v6 h6 => ?_))
    refine pt_d (pt_stat (as := [.int x2, .int v5, .int v6]) (r := []) gx153_15 rfl (show zmt[137]? = some zM137 from rfl) rfl rfl rfl rfl (c_137 S z2 h5 h6) (kqP (fun v7 h7 => ?_)))
    show Pt _ _ _ 18 _ [.int v7] _ _
    refine pt_d (pt_ifB_eq gx153_18 h7 (fun e8 => ?_) (fun e8 => ?_))
    · have H := H.1 e8
      refine pt_d (pt_iconst gx153_31 (fun v9 h9 => ?_))
      exact pt_d (pt_iret gx153_32 ⟨_, rfl, by rw [h9]; exact H⟩)
    · have H := H.2 e8
      refine pt_d (pt_1 (fun n d => r_iloadn gx153_21 rfl) ?_)
      refine pt_d (pt_iconst gx153_22 (fun v10 h10 => ?_))
      refine pt_d (pt_bipush gx153_23 (fun v11 h11 => ?_))
      refine pt_d (pt_stat (as := [.int x3, .int v10, .int v11]) (r := []) gx153_25 rfl (show zmt[137]? = some zM137 from rfl) rfl rfl rfl rfl (c_137 S z3 h10 h11) (kqP (fun v12 h12 => ?_)))
      show Pt _ _ _ 28 _ [.int v12] _ _
      refine pt_d (pt_ifB_ne gx153_28 h12 (fun e13 => ?_) (fun e13 => ?_))
      · have H := H.1 e13
        refine pt_d (pt_1 (fun n d => r_aloadn gx153_33 rfl) ?_)
        refine pt_d (pt_getR gx153_34 S tr_0_0 ?_)
        refine pt_d (pt_1 (fun n d => r_iloadn gx153_37 rfl) ?_)
        refine pt_d (pt_1 (fun n d => r_iloadn gx153_38 rfl) ?_)
        refine pt_d (pt_virt (as := [.int x1, .int x3]) (r := []) gx153_39 rfl (show zmt[82]? = some zM82 from rfl) rfl rfl rfl rfl (c_82 S z1 z3) (kqP (fun v15 h15 => ?_)))
        show Pt _ _ _ 42 _ [.int v15] _ _
        refine pt_d (pt_1 (fun n d => r_iloadn gx153_42 rfl) ?_)
        refine pt_d (pt_ishr gx153_43 h15 z2 (fun v16 h16 => ?_))
        refine pt_d (pt_iconst gx153_44 (fun v17 h17 => ?_))
        refine pt_d (pt_iand gx153_45 h16 h17 (fun v18 h18 => ?_))
        exact pt_d (pt_iret gx153_46 ⟨_, rfl, by rw [h18]; exact H⟩)
      · have H := H.2 e13
        refine pt_d (pt_iconst gx153_31 (fun v19 h19 => ?_))
        exact pt_d (pt_iret gx153_32 ⟨_, rfl, by rw [h19]; exact H⟩)
theorem d223_0 {n : Nat} {X : aX} {h : aH} {P : Int → aH → Prop} {x1 x2 x3 : Int32} {a1 a2 a3 : Int} (S : wS h) (z1 : x1.toInt = a1) (z2 : x2.toInt = a2) (z3 : x3.toInt = a3) (H : ((¬ (mField (vw h) a1) → P (-1) h) ∧ ((mField (vw h) a1) → ((¬ (0 ≤ a2 ∧ a2 ≤ 23) → P (-1) h) ∧ ((0 ≤ a2 ∧ a2 ≤ 23) → (((0 ≤ a3 ∧ a3 ≤ 23) → (0 ≤ w32 ((w32 (24 * a1)) + a3) → w32 ((w32 (24 * a1)) + a3) < 3600 → P (bAnd (bShr (vw h 80 (w32 ((w32 (24 * a1)) + a3))) a2) 1) h)) ∧ (¬ (0 ≤ a3 ∧ a3 ≤ 23) → P (-1) h))))))) : Pt (n + 1) X zM223 0 [some (.ref 72), some (.int x1), some (.int x2), some (.int x3)] [] h (qI P) := by
  refine pt_1 (fun n d => r_aloadn gx223_0 rfl) ?_
  refine pt_d (pt_1 (fun n d => r_iloadn gx223_1 rfl) ?_)
  refine pt_d (pt_virt (as := [.int x1]) (r := []) gx223_2 rfl (show zmt[203]? = some zM203 from rfl) rfl rfl rfl rfl (c_203 S z1) (kqP (fun v1 h1 => ?_)))
  show Pt _ _ _ 5 _ [.int v1] _ _
  refine pt_d (pt_ifB_eq gx223_5 h1 (fun e2 => ?_) (fun e2 => ?_))
  · have H := H.1 e2
    refine pt_d (pt_iconst gx223_28 (fun v3 h3 => ?_))
    refine pt_d (pt_1 (fun n d => r_goto gx223_29) ?_)
    exact pt_d (pt_iret gx223_47 ⟨_, rfl, by rw [h3]; exact H⟩)
  · have H := H.2 e2
    refine pt_d (pt_1 (fun n d => r_iloadn gx223_8 rfl) ?_)
    refine pt_d (pt_iconst gx223_9 (fun v4 h4 => ?_))
    refine pt_d (pt_bipush gx223_10 (fun v5 h5 => ?_))
    refine pt_d (pt_stat (as := [.int x2, .int v4, .int v5]) (r := []) gx223_12 rfl (show zmt[196]? = some zM196 from rfl) rfl rfl rfl rfl (c_196 S z2 h4 h5) (kqP (fun v6 h6 => ?_)))
    show Pt _ _ _ 15 _ [.int v6] _ _
    refine pt_d (pt_ifB_eq gx223_15 h6 (fun e7 => ?_) (fun e7 => ?_))
    · have H := H.1 e7
      refine pt_d (pt_iconst gx223_28 (fun v8 h8 => ?_))
      refine pt_d (pt_1 (fun n d => r_goto gx223_29) ?_)
      exact pt_d (pt_iret gx223_47 ⟨_, rfl, by rw [h8]; exact H⟩)
    · have H := H.2 e7
      refine pt_d (pt_1 (fun n d => r_iloadn gx223_18 rfl) ?_)
      refine pt_d (pt_iconst gx223_19 (fun v9 h9 => ?_))
      refine pt_d (pt_bipush gx223_20 (fun v10 h10 => ?_))
      refine pt_d (pt_stat (as := [.int x3, .int v9, .int v10]) (r := []) gx223_22 rfl (show zmt[196]? = some zM196 from rfl) rfl rfl rfl rfl (c_196 S z3 h9 h10) (kqP (fun v11 h11 => ?_)))
      show Pt _ _ _ 25 _ [.int v11] _ _
      refine pt_d (pt_ifB_ne gx223_25 h11 (fun e12 => ?_) (fun e12 => ?_))
      · have H := H.1 e12
        refine pt_d (pt_1 (fun n d => r_aloadn gx223_32 rfl) ?_)
        refine pt_d (pt_getR gx223_33 S tr_72_10 ?_)
        refine pt_d (pt_bipush gx223_36 (fun v14 h14 => ?_))
        refine pt_d (pt_1 (fun n d => r_iloadn gx223_38 rfl) ?_)
        refine pt_d (pt_imul gx223_39 h14 z1 (fun v15 h15 => ?_))
        refine pt_d (pt_1 (fun n d => r_iloadn gx223_40 rfl) ?_)
        refine pt_d (pt_iadd gx223_41 h15 z3 (fun v16 h16 => ?_))
        refine pt_d (pt_iald (N' := 3600) gx223_42 S tl_80 h16 (fun v17 p17 q17 h17 => ?_))
        have H := H p17 q17
        refine pt_d (pt_1 (fun n d => r_iloadn gx223_43 rfl) ?_)
        refine pt_d (pt_ishr gx223_44 h17 z2 (fun v18 h18 => ?_))
        refine pt_d (pt_iconst gx223_45 (fun v19 h19 => ?_))
        refine pt_d (pt_iand gx223_46 h18 h19 (fun v20 h20 => ?_))
        exact pt_d (pt_iret gx223_47 ⟨_, rfl, by rw [h20]; exact H⟩)
      · have H := H.2 e12
        refine pt_d (pt_iconst gx223_28 (fun v21 h21 => ?_))
        refine pt_d (pt_1 (fun n d => r_goto gx223_29) ?_)
        exact pt_d (pt_iret gx223_47 ⟨_, rfl, by rw [h21]; exact H⟩)
def okHas (V : vS) (f x y : Int) : Prop := cField V f ∧ (0 ≤ x ∧ x ≤ 23) ∧ 0 ≤ y ∧ y ≤ 23
def R153 (V : vS) (f x y r : Int) : Prop := (¬ okHas V f x y ∧ r = -1) ∨ (okHas V f x y ∧ r = bAnd (bShr (V 8 (24 * f + y)) x) 1)
theorem sz {f y : Int} (h0 : 0 ≤ f) (h1 : f < 150) (h2 : 0 ≤ y) (h3 : y ≤ 23) : w32 (w32 (f * 24) + y) = 24 * f + y := by
  rw [w32_id (z := f * 24) (by omega) (by omega), w32_id (by omega) (by omega)]
  omega
theorem sz' {f y : Int} (h0 : 0 ≤ f) (h1 : f < 150) (h2 : 0 ≤ y) (h3 : y ≤ 23) : w32 (w32 (24 * f) + y) = 24 * f + y := by
  rw [w32_id (z := 24 * f) (by omega) (by omega), w32_id (by omega) (by omega)]
theorem cField_b {V : vS} {f : Int} (k : cField V f) (hb : 0 ≤ V 1 1 ∧ V 1 1 ≤ 150) : 0 ≤ f ∧ f < 150 := by
  have h := k.1
  unfold cBody at h
  rw [w32_id (by omega) (by omega)] at h
  omega
theorem mField_b {V : vS} {f : Int} (k : mField V f) (hb : 0 ≤ V 72 2 ∧ V 72 2 ≤ 150) : 0 ≤ f ∧ f < 150 := by
  have h := k.1
  unfold mBody at h
  rw [w32_id (by omega) (by omega)] at h
  omega
theorem c_153 {n : Nat} {X : aX} {h : aH} {x1 x2 x3 : Int32} {a1 a2 a3 : Int} (S : wS h) (z1 : x1.toInt = a1) (z2 : x2.toInt = a2) (z3 : x3.toInt = a3) (hb : 0 ≤ vw h 1 1 ∧ vw h 1 1 ≤ 150) : Pt n X zM153 0 [some (.ref 0), some (.int x1), some (.int x2), some (.int x3)] [] h (qI (fun y h' => h' = h ∧ R153 (vw h) a1 a2 a3 y)) := by
  refine pt_d (d153_0 S z1 z2 z3 ⟨fun e => ⟨rfl, Or.inl ⟨fun z => e z.1, rfl⟩⟩, fun e => ⟨fun e2 => ⟨rfl, Or.inl ⟨fun z => e2 z.2.1, rfl⟩⟩, fun e2 => ⟨fun e3 => ⟨rfl, Or.inr ⟨⟨e, e2, e3⟩, ?_⟩⟩, fun e3 => ⟨rfl, Or.inl ⟨fun z => e3 z.2.2, rfl⟩⟩⟩⟩⟩)
  obtain ⟨f0, f1⟩ := cField_b e hb
  rw [sz f0 f1 e3.1 e3.2]
def okHam (V : vS) (f x y : Int) : Prop := mField V f ∧ (0 ≤ x ∧ x ≤ 23) ∧ 0 ≤ y ∧ y ≤ 23
def R223 (V : vS) (f x y r : Int) : Prop := (¬ okHam V f x y ∧ r = -1) ∨ (okHam V f x y ∧ r = bAnd (bShr (V 80 (24 * f + y)) x) 1)
theorem c_223 {n : Nat} {X : aX} {h : aH} {x1 x2 x3 : Int32} {a1 a2 a3 : Int} (S : wS h) (z1 : x1.toInt = a1) (z2 : x2.toInt = a2) (z3 : x3.toInt = a3) (hb : 0 ≤ vw h 72 2 ∧ vw h 72 2 ≤ 150) : Pt n X zM223 0 [some (.ref 72), some (.int x1), some (.int x2), some (.int x3)] [] h (qI (fun y h' => h' = h ∧ R223 (vw h) a1 a2 a3 y)) := by
  refine pt_d (d223_0 S z1 z2 z3 ⟨fun e => ⟨rfl, Or.inl ⟨fun z => e z.1, rfl⟩⟩, fun e => ⟨fun e2 => ⟨rfl, Or.inl ⟨fun z => e2 z.2.1, rfl⟩⟩, fun e2 => ⟨fun e3 _ _ => ⟨rfl, Or.inr ⟨⟨e, e2, e3⟩, ?_⟩⟩, fun e3 => ⟨rfl, Or.inl ⟨fun z => e3 z.2.2, rfl⟩⟩⟩⟩⟩)
  obtain ⟨f0, f1⟩ := mField_b e hb
  rw [sz' f0 f1 e3.1 e3.2]
end
section
-- ===== the rows of squares of both sides are one =====
def tb (a : Int) (x : Nat) : Bool := (Int32.ofInt a).toBitVec.getLsbD x
theorem tb_xor (a b : Int) (x : Nat) : tb (bXor a b) x = Bool.xor (tb a x) (tb b x) := by
  unfold tb bXor
  rw [oI, Int32.toBitVec_xor, BitVec.getLsbD_xor]
theorem tb_or (a b : Int) (x : Nat) : tb (bOr a b) x = (tb a x || tb b x) := by
  unfold tb bOr
  rw [oI, Int32.toBitVec_or, BitVec.getLsbD_or]
theorem tb_0' : ∀ x : Fin 32, tb 0 x.val = false := by decide +kernel
theorem tb_0 {x : Nat} (h : x < 32) : tb 0 x = false := tb_0' ⟨x, h⟩
theorem tb_m1 : ∀ s : Fin 25, ∀ x : Fin 32, tb (bAnd 16777215 (bShl (-1) (s.val : Int))) x.val = decide (s.val ≤ x.val ∧ x.val < 24) := by decide +kernel
theorem tb_1 : ∀ s : Fin 24, ∀ x : Fin 32, tb (bShl 1 (s.val : Int)) x.val = decide (x.val = s.val) := by decide +kernel
theorem w32_i (x : Int32) : w32 x.toInt = x.toInt := w32_id (iR x).1 (iR x).2
theorem tb_ext {a b : Int32} (h : ∀ x, x < 32 → tb a.toInt x = tb b.toInt x) : a.toInt = b.toInt := by
  have e : a = b := by
    refine Int32.toBitVec_inj.mp (BitVec.eq_of_getLsbD_eq (fun i hi => ?_))
    have := h i hi
    unfold tb at this
    rw [oI, oI] at this
    exact this
  rw [e]
def crB (V : vS) (y : Int) (k : Nat) : Bool := decide (min (V 15 (2 * (k : Nat) + 1)) (V 15 (cNxt V (2 * (k : Nat) + 1))) ≤ y ∧ y < max (V 15 (2 * (k : Nat) + 1)) (V 15 (cNxt V (2 * (k : Nat) + 1))))
def rT (V : vS) (y : Int) : Nat → Bool
  | 0 => false
  | k + 1 => Bool.xor (rT V y k) (crB V y k)
def rP (V : vS) (x y : Int) : Nat → Bool
  | 0 => false
  | k + 1 => Bool.xor (rP V x y k) (crB V y k && decide (V 14 (2 * (k : Nat) + 1) ≤ x))
theorem cIns_i (V : vS) (y : Int) : ∀ k, ∃ z : Int32, cIns V y k = z.toInt
  | 0 => ⟨0, rfl⟩
  | k + 1 => by
    unfold cIns
    split
    · exact ⟨_, rfl⟩
    · exact cIns_i V y k
theorem mRw_i (V : vS) (y : Int) : ∀ k, ∃ z : Int32, mRw V y k = z.toInt
  | 0 => ⟨0, rfl⟩
  | k + 1 => by
    unfold mRw
    split
    · exact ⟨_, rfl⟩
    · exact ⟨_, rfl⟩
theorem tb_c {V : vS} (hx : ∀ j, 0 ≤ j → j < 12 → 0 ≤ V 14 j ∧ V 14 j ≤ 24) (y : Int) {x : Nat} (h : x < 32) : ∀ k : Nat, 2 * k ≤ 12 → tb (cIns V y k) x = (rP V (x : Nat) y k && decide (x < 24))
  | 0, _ => tb_0 h
  | k + 1, hk => by
    have ih := tb_c hx y h k (by omega)
    have es : rP V (x : Nat) y (k + 1) = Bool.xor (rP V (x : Nat) y k) (crB V y k && decide (V 14 (2 * (k : Nat) + 1) ≤ (x : Nat))) := rfl
    rw [es]
    unfold cIns
    by_cases q : min (V 15 (2 * (k : Nat) + 1)) (V 15 (cNxt V (2 * (k : Nat) + 1))) ≤ y ∧ y < max (V 15 (2 * (k : Nat) + 1)) (V 15 (cNxt V (2 * (k : Nat) + 1)))
    · have hb : crB V y k = true := decide_eq_true q
      obtain ⟨h0, h1⟩ := hx (2 * (k : Nat) + 1) (by omega) (by omega)
      obtain ⟨s, hs⟩ : ∃ s : Nat, V 14 (2 * (k : Nat) + 1) = (s : Int) := ⟨_, (Int.toNat_of_nonneg h0).symm⟩
      rw [if_pos q, tb_xor, ih, hb, hs, tb_m1 ⟨s, by omega⟩ ⟨x, h⟩]
      have e1 : decide ((s : Int) ≤ (x : Nat)) = decide (s ≤ x) := by
        rw [decide_eq_decide]; omega
      have e2 : decide (s ≤ x ∧ x < 24) = (decide (s ≤ x) && decide (x < 24)) := Bool.decide_and _ _
      rw [e1, e2]
      cases rP V (x : Nat) y k <;> cases decide (s ≤ x) <;> cases decide (x < 24) <;> rfl
    · have hb : crB V y k = false := decide_eq_false q
      rw [if_neg q, ih, hb]
      cases rP V (x : Nat) y k <;> rfl
theorem tb_m {V : vS} (y : Int) {x : Nat} (h : x < 32) : ∀ k : Nat, k ≤ 24 → tb (mRw V y k) x = (decide (x < k) && decide (mInR V (x : Nat) y ≠ 0))
  | 0, _ => tb_0 h
  | k + 1, hk => by
    have ih := tb_m (V := V) y h k (by omega)
    have e2 : decide (x < k + 1) = (decide (x < k) || decide (x = k)) := by
      rw [← Bool.decide_or, decide_eq_decide]; omega
    unfold mRw
    by_cases q : mInR V (k : Nat) y ≠ 0
    · rw [if_pos q, tb_or, ih, tb_1 ⟨k, by omega⟩ ⟨x, h⟩, e2]
      by_cases z : x = k
      · subst z
        rw [decide_eq_true q]
        cases decide (x < x) <;> simp
      · simp [z]
    · rw [if_neg q, tb_or, ih, tb_0 h, e2]
      by_cases z : x = k
      · subst z
        rw [decide_eq_false q]
        cases decide (x < x) <;> simp
      · simp [z]
theorem par_m {V : vS} (J : JRing V) (hy : ∀ j, 0 ≤ j → j < 12 → 0 ≤ V 15 j ∧ V 15 j ≤ 24) (x y : Int) : ∀ k : Nat, 2 * (k : Int) ≤ V 13 2 → decide (mIn V x y k ≠ 0) = Bool.xor (rP V x y k) (rT V y k)
  | 0, _ => rfl
  | k + 1, hk => by
    have ih := par_m J hy x y k (by omega)
    obtain ⟨j1, j2, j3, j4, j5⟩ := J
    have J' : JRing V := ⟨j1, j2, j3, j4, j5⟩
    have e1 : rP V x y (k + 1) = Bool.xor (rP V x y k) (crB V y k && decide (V 14 (2 * (k : Nat) + 1) ≤ x)) := rfl
    have e2 : rT V y (k + 1) = Bool.xor (rT V y k) (crB V y k) := rfl
    have en : mNxt V (2 * (k : Nat) + 1) = cNxt V (2 * (k : Nat) + 1) := (nxt_j J' (by omega) (by omega)).symm
    have b1 := hy (2 * (k : Nat) + 1) (by omega) (by omega)
    have b2 : 0 ≤ V 15 (cNxt V (2 * (k : Nat) + 1)) ∧ V 15 (cNxt V (2 * (k : Nat) + 1)) ≤ 24 := by
      refine hy _ ?_ ?_
      · unfold cNxt; split
        · rw [w32_id (by omega) (by omega)]; omega
        · omega
      · unfold cNxt; split <;> omega
    have ec : (x < V 81 (2 * (k : Nat) + 1) ∧ (min (V 82 (2 * (k : Nat) + 1)) (V 82 (mNxt V (2 * (k : Nat) + 1))) ≤ y ∧ y ≤ w32 (max (V 82 (2 * (k : Nat) + 1)) (V 82 (mNxt V (2 * (k : Nat) + 1))) - 1))) ↔ (¬ V 14 (2 * (k : Nat) + 1) ≤ x ∧ (min (V 15 (2 * (k : Nat) + 1)) (V 15 (cNxt V (2 * (k : Nat) + 1))) ≤ y ∧ y < max (V 15 (2 * (k : Nat) + 1)) (V 15 (cNxt V (2 * (k : Nat) + 1))))) := by
      rw [en, ← j2, ← j3, ← j3, w32_id (by omega) (by omega)]
      omega
    rw [e1, e2]
    have em : mIn V x y (k + 1) = if (x < V 81 (2 * (k : Nat) + 1) ∧ (min (V 82 (2 * (k : Nat) + 1)) (V 82 (mNxt V (2 * (k : Nat) + 1))) ≤ y ∧ y ≤ w32 (max (V 82 (2 * (k : Nat) + 1)) (V 82 (mNxt V (2 * (k : Nat) + 1))) - 1))) then (if mIn V x y k ≠ 0 then 0 else 1) else mIn V x y k := rfl
    by_cases q : min (V 15 (2 * (k : Nat) + 1)) (V 15 (cNxt V (2 * (k : Nat) + 1))) ≤ y ∧ y < max (V 15 (2 * (k : Nat) + 1)) (V 15 (cNxt V (2 * (k : Nat) + 1)))
    · have hb : crB V y k = true := decide_eq_true q
      by_cases z : V 14 (2 * (k : Nat) + 1) ≤ x
      · rw [em, if_neg (fun w => (ec.mp w).1 z), ih, hb, decide_eq_true z]
        cases rP V x y k <;> cases rT V y k <;> rfl
      · have e3 : decide (mIn V x y (k + 1) ≠ 0) = !(decide (mIn V x y k ≠ 0)) := by
          rw [em, if_pos (ec.mpr ⟨z, q⟩)]
          by_cases w : mIn V x y k ≠ 0
          · rw [if_pos w, decide_eq_true w]; rfl
          · rw [if_neg w, decide_eq_false w]; rfl
        rw [e3, ih, hb, decide_eq_false z]
        cases rP V x y k <;> cases rT V y k <;> rfl
    · have hb : crB V y k = false := decide_eq_false q
      rw [em, if_neg (fun w => q (ec.mp w).2), ih, hb]
      cases rP V x y k <;> cases rT V y k <;> rfl
theorem cr_s (a b y : Int) : decide (min a b ≤ y ∧ y < max a b) = Bool.xor (decide (a ≤ y)) (decide (b ≤ y)) := by
  by_cases p : a ≤ y
  · by_cases q : b ≤ y
    · rw [decide_eq_true p, decide_eq_true q, decide_eq_false (by omega)]; rfl
    · rw [decide_eq_true p, decide_eq_false q, decide_eq_true (by omega)]; rfl
  · by_cases q : b ≤ y
    · rw [decide_eq_false p, decide_eq_true q, decide_eq_true (by omega)]; rfl
    · rw [decide_eq_false p, decide_eq_false q, decide_eq_false (by omega)]; rfl
theorem lev {V : vS} (s : ∀ i, 0 ≤ i → i < V 13 2 → cWay V i) (h12 : V 13 2 ≤ 12) (k : Nat) (h : 2 * (k : Int) + 1 < V 13 2) : V 15 (2 * (k : Int)) = V 15 (2 * (k : Int) + 1) := by
  have w := (s (2 * (k : Int)) (by omega) (by omega)).1 (by rw [iRem_pos (by omega) (by omega) (by decide) (by decide)]; omega)
  rw [w.1]
  congr 1
  unfold cNxt
  rw [w32_id (by omega) (by omega), if_pos h]
theorem rT_s {V : vS} (s : ∀ i, 0 ≤ i → i < V 13 2 → cWay V i) (h12 : V 13 2 ≤ 12) (y : Int) : ∀ k : Nat, 2 * (k : Int) + 1 < V 13 2 → rT V y k = Bool.xor (decide (V 15 1 ≤ y)) (decide (V 15 (2 * (k : Nat) + 1) ≤ y))
  | 0, _ => by
    show false = _
    rw [show (2 * ((0 : Nat) : Int) + 1) = 1 from rfl]
    cases decide (V 15 1 ≤ y) <;> rfl
  | k + 1, h => by
    have ih := rT_s s h12 y k (by omega)
    have e2 : rT V y (k + 1) = Bool.xor (rT V y k) (crB V y k) := rfl
    have en : cNxt V (2 * (k : Nat) + 1) = 2 * ((k + 1 : Nat) : Int) := by
      unfold cNxt
      rw [w32_id (by omega) (by omega), if_pos (by omega)]
      omega
    have ec : crB V y k = Bool.xor (decide (V 15 (2 * (k : Nat) + 1) ≤ y)) (decide (V 15 (2 * ((k + 1 : Nat) : Int) + 1) ≤ y)) := by
      unfold crB
      rw [cr_s, en, lev s h12 (k + 1) h]
    rw [e2, ih, ec]
    cases decide (V 15 1 ≤ y) <;> cases decide (V 15 (2 * (k : Nat) + 1) ≤ y) <;> cases decide (V 15 (2 * ((k + 1 : Nat) : Int) + 1) ≤ y) <;> rfl
theorem rT_0 {V : vS} (s : cSound V) (h12 : V 13 2 ≤ 12) (y : Int) : rT V y ((V 13 2).toNat / 2) = false := by
  obtain ⟨s1, s2, s3, -⟩ := s
  rw [iRem_pos (by omega) (by omega) (by decide) (by decide)] at s2
  obtain ⟨k, hk⟩ : ∃ k : Nat, (V 13 2).toNat / 2 = k + 1 := ⟨(V 13 2).toNat / 2 - 1, by omega⟩
  have hn : V 13 2 = 2 * (k : Int) + 2 := by omega
  rw [hk]
  have ih := rT_s s3 h12 y k (by omega)
  have e2 : rT V y (k + 1) = Bool.xor (rT V y k) (crB V y k) := rfl
  have en : cNxt V (2 * (k : Nat) + 1) = 0 := by
    unfold cNxt
    rw [w32_id (by omega) (by omega), if_neg (by omega)]
  have e0 : V 15 0 = V 15 1 := lev s3 h12 0 (by omega)
  have ec : crB V y k = Bool.xor (decide (V 15 (2 * (k : Nat) + 1) ≤ y)) (decide (V 15 1 ≤ y)) := by
    unfold crB
    rw [cr_s, en, e0]
  rw [e2, ih, ec]
  cases decide (V 15 1 ≤ y) <;> cases decide (V 15 (2 * (k : Nat) + 1) ≤ y) <;> rfl
theorem row_eq {V : vS} (J : JRing V) (hx : ∀ j, 0 ≤ j → j < 12 → 0 ≤ V 14 j ∧ V 14 j ≤ 24) (hy : ∀ j, 0 ≤ j → j < 12 → 0 ≤ V 15 j ∧ V 15 j ≤ 24) (s : cSound V) (y : Int) : cRow V y = mRw V y 24 := by
  obtain ⟨a, ea⟩ := cIns_i V y ((V 13 2).toNat / 2)
  obtain ⟨b, eb⟩ := mRw_i V y 24
  unfold cRow
  rw [ea, eb]
  refine tb_ext (fun x h => ?_)
  have j4 := J.2.2.2.1
  have j5 := J.2.2.2.2
  rw [← ea, ← eb, tb_c hx y h _ (by omega), tb_m y h 24 (by decide)]
  have p := par_m J hy (x : Nat) y ((V 13 2).toNat / 2) (by omega)
  rw [rT_0 s j5 y] at p
  unfold mInR
  rw [← J.1, p]
  cases rP V (x : Nat) y ((V 13 2).toNat / 2) <;> cases decide (x < 24) <;> rfl
def JRows (V : vS) : Prop := ∀ j, V 8 j = V 80 j
theorem jx_6r {V V1 V2 : vS} {f w r1 r2 : Int} (J : JRing V) (K : JBody V) (L : JRows V) (hx : ∀ j, 0 ≤ j → j < 12 → 0 ≤ V 14 j ∧ V 14 j ≤ 24) (hy : ∀ j, 0 ≤ j → j < 12 → 0 ≤ V 15 j ∧ V 15 j ≤ 24) (c : R150 V f w r1 V1) (m : R222 V1 f w r2 V2) : JRows V2 := by
  have k1 := K.1
  rcases c with ⟨a, rfl, rfl⟩ | ⟨a, ⟨a0, rfl, rfl⟩ | ⟨a0, a1, rfl, rfl⟩ | ⟨a0, a1, a2, rfl, hV⟩⟩
  · rcases m with ⟨b, rfl, rfl⟩ | ⟨b, -⟩
    · exact L
    · exact absurd ⟨(farm_j K f).mpr b.1, b.2⟩ a
  · rcases m with ⟨b, rfl, rfl⟩ | ⟨b, ⟨b0, rfl, rfl⟩ | ⟨b0, -⟩ | ⟨b0, -⟩⟩
    · exact L
    · exact L
    · exact absurd ((sound_j J).mpr b0) a0
    · exact absurd ((sound_j J).mpr b0) a0
  · rcases m with ⟨b, rfl, rfl⟩ | ⟨b, ⟨b0, rfl, rfl⟩ | ⟨b0, b1, rfl, rfl⟩ | ⟨b0, b1, V3, ⟨c1, c2, -, -⟩, -⟩⟩
    · exact L
    · exact L
    · exact L
    · omega
  · have mk : R222k (if w = 1 then 5 else 4) V1 f w r2 V2 := m
    clear m
    generalize (if w = 1 then (5 : Int) else 4) = kd at mk hV
    have e8 : ∀ j, V1 8 j = if 24 * V 1 1 ≤ j ∧ j < 24 * V 1 1 + 24 then cRow (cAddV V kd (cArea V) f) (j - 24 * V 1 1) else V 8 j := fun j => by
      rw [hV, up_c (by decide)]
      unfold outl
      by_cases z : 24 * V 1 1 ≤ j ∧ j < 24 * V 1 1 + 24
      · rw [if_pos ⟨rfl, z⟩, if_pos z]
      · rw [if_neg (fun q => z q.2), if_neg z, cAddV_c (by decide) (by decide) (by decide) (by decide) (by decide) (by decide)]
    have o : ∀ (c : Nat) (j : Int), c ≠ 13 → c ≠ 8 → c ≠ 1 → c ≠ 2 → c ≠ 3 → c ≠ 4 → c ≠ 5 → c ≠ 7 → V1 c j = V c j := fun c j g1 g2 h1 h2 h3 h4 h5 h7 => by rw [hV, up_c g1, outl_c g2, cAddV_c h1 h2 h3 h4 h5 h7]
    have e72 : ∀ j, V1 72 j = V 72 j := fun j => o 72 j (by decide) (by decide) (by decide) (by decide) (by decide) (by decide) (by decide) (by decide)
    have e80 : ∀ j, V1 80 j = V 80 j := fun j => o 80 j (by decide) (by decide) (by decide) (by decide) (by decide) (by decide) (by decide) (by decide)
    have e81 : ∀ j, V1 81 j = V 81 j := fun j => o 81 j (by decide) (by decide) (by decide) (by decide) (by decide) (by decide) (by decide) (by decide)
    have e82 : ∀ j, V1 82 j = V 82 j := fun j => o 82 j (by decide) (by decide) (by decide) (by decide) (by decide) (by decide) (by decide) (by decide)
    have mf : mFarm V1 f ↔ mFarm V f := by
      unfold mFarm mBody
      rw [e72, o 73 f (by decide) (by decide) (by decide) (by decide) (by decide) (by decide) (by decide) (by decide)]
    have cr : ∀ y, cRow (cAddV V kd (cArea V) f) y = cRow V y := fun y => cRow_c (cAddV_c (by decide) (by decide) (by decide) (by decide) (by decide) (by decide)) (fun j => cAddV_c (by decide) (by decide) (by decide) (by decide) (by decide) (by decide)) (fun j => cAddV_c (by decide) (by decide) (by decide) (by decide) (by decide) (by decide)) y
    rcases mk with ⟨b, -⟩ | ⟨b, ⟨b0, -⟩ | ⟨b0, b1, -⟩ | ⟨b0, b1, V3, ⟨c1, c2, rfl, rfl⟩, rfl⟩⟩
    · exact absurd ⟨mf.mpr ((farm_j K f).mp a.1), a.2⟩ b
    · exact absurd ((mSound_c (e72 11) e81 e82).mpr ((sound_j J).mp a0)) b0
    · rw [e72] at b1
      omega
    · intro j
      have eb : V1 72 2 = V 1 1 := by rw [e72, k1]
      have p8 : up (outm (up (up (mAddV V1 kd) 75 (V1 72 2) f) 78 (V1 72 2) (mArea V1)) (V1 72 2) 24) 72 11 0 8 j = V1 8 j := by
        rw [up_c (by decide), outm_c (by decide), up_c (by decide), up_c (by decide), mAddV_c (by decide) (by decide) (by decide) (by decide) (by decide)]
      have q : ∀ (c : Nat) (j : Int), c ≠ 72 → c ≠ 73 → c ≠ 75 → c ≠ 76 → c ≠ 77 → c ≠ 78 → up (up (mAddV V1 kd) 75 (V1 72 2) f) 78 (V1 72 2) (mArea V1) c j = V1 c j := fun c j h1 h2 h3 h4 h5 h6 => by rw [up_c h6, up_c h3, mAddV_c h1 h2 h3 h4 h5]
      have q11 : up (up (mAddV V1 kd) 75 (V1 72 2) f) 78 (V1 72 2) (mArea V1) 72 11 = V 72 11 := by rw [up_c (by decide), up_c (by decide), mA_o (by decide), e72]
      have mr : ∀ y, mRw (up (up (mAddV V1 kd) 75 (V1 72 2) f) 78 (V1 72 2) (mArea V1)) y 24 = mRw V y 24 := fun y => mRw_c q11 (fun j => by rw [q 81 j (by decide) (by decide) (by decide) (by decide) (by decide) (by decide), e81]) (fun j => by rw [q 82 j (by decide) (by decide) (by decide) (by decide) (by decide) (by decide), e82]) y 24
      rw [p8, e8, up_c (by decide)]
      unfold outm
      rw [eb] at *
      by_cases z : 24 * V 1 1 ≤ j ∧ j < 24 * V 1 1 + 24
      · rw [if_pos z, if_pos ⟨rfl, z⟩, cr, mr]
        exact row_eq J hx hy a0 _
      · rw [if_neg z, if_neg (fun y => z y.2), q 80 j (by decide) (by decide) (by decide) (by decide) (by decide) (by decide), e80]
        exact L j
theorem jx_9 {V : vS} {f x y r1 r2 : Int} (K : JBody V) (L : JRows V) (c : R153 V f x y r1) (m : R223 V f x y r2) : r1 = r2 := by
  have ok : okHas V f x y ↔ okHam V f x y := by
    unfold okHas okHam
    rw [field_j K]
  unfold R153 at c
  unfold R223 at m
  rw [ok, L] at c
  rcases c with ⟨a, rfl⟩ | ⟨a, rfl⟩ <;> rcases m with ⟨b, rfl⟩ | ⟨b, rfl⟩
  · rfl
  · exact absurd b a
  · exact absurd a b
  · rfl
def LRows : List (Nat × Option Nat) := [(8, none), (80, none)]
theorem JRows_ag {V V' : vS} (J : JRows V) (A : ag LRows V V') : JRows V' := fun j => by
  obtain ⟨a1, a2, -⟩ := A
  rw [a1, a2]
  exact J j
theorem JRows_dG {W : List (Nat × Nat)} {σ σ1 : List Nat} {h h1 : aH} (J : JRows (vw h)) (I : dI σ h) (G : dG W σ h σ1 h1) (k : frL W LRows = true) : JRows (vw h1) := JRows_ag J (ag_dG I.1 G _ k)
theorem zJRows0 : JRows (vw zH0) := fun j => by rw [vz zh8, vz zh80]
theorem vb14 {σ : List Nat} {h : aH} (I : dI σ h) : ∀ j, 0 ≤ j → j < 12 → 0 ≤ vw h 14 j ∧ vw h 14 j ≤ 24 := fun j h0 h1 => vw_rng I (c := 14) (a := 0) (n := 12) (lo := 0) (hi := 24) (by decide +kernel) h0 h1
theorem vb15 {σ : List Nat} {h : aH} (I : dI σ h) : ∀ j, 0 ≤ j → j < 12 → 0 ≤ vw h 15 j ∧ vw h 15 j ≤ 24 := fun j h0 h1 => vw_rng I (c := 15) (a := 0) (n := 12) (lo := 0) (hi := 24) (by decide +kernel) h0 h1
end

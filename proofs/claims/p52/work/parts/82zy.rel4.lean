-- ===== 82zy.rel4: 11 texts =====
section
def JOut1 (V : vS) (j : Int) : Prop := V 92 j = iDiv (V 23 j) 100 ∧ V 93 j = iRem (V 23 j) 100 ∧ V 94 j = iDiv (V 24 j) 100 ∧ V 95 j = iRem (V 24 j) 100 ∧ V 96 j = V 25 j ∧ V 97 j = V 26 j
def JOut (V : vS) : Prop := V 16 2 = V 72 25 ∧ 0 ≤ V 16 2 ∧ V 16 2 ≤ 40 ∧ ∀ j, 0 ≤ j → j < V 16 2 → JOut1 V j
theorem okOut_j {a b d : Int} (ha : a ≤ 2147483647) (hb : b ≤ 2147483647) : okOut a b d ↔ okOum a b d := by
  unfold okOut okOum
  constructor
  · rintro ⟨h1, h2, h3, h4, h5, h6, h7⟩
    have e1 := iDiv_pos (a := a) (b := 100) h1 ha (by decide) (by decide)
    have e2 := iRem_pos (a := a) (b := 100) h1 ha (by decide) (by decide)
    have e3 := iDiv_pos (a := b) (b := 100) h2 hb (by decide) (by decide)
    have e4 := iRem_pos (a := b) (b := 100) h2 hb (by decide) (by decide)
    omega
  · rintro ⟨h1, h2, h3, h4, h5, h6, h7⟩
    omega
theorem jx_15 {V V1 V2 : vS} {a b d r1 r2 : Int} (L : JOut V) (hd : V 1 0 = V 72 1) (c : R159 V a b d r1 V1) (m : R232 V1 a b d r2 V2) : JOut V2 ∧ r1 = r2 := by
  obtain ⟨⟨ha, hb⟩, c⟩ := c
  have ok := okOut_j (d := d) ha hb
  have L0 := L
  obtain ⟨l1, l2, l3, l4⟩ := L0
  rcases c with ⟨k, rfl, rfl⟩ | ⟨k, k1, rfl, rfl⟩ | ⟨k, k1, ⟨k2, -, -⟩ | ⟨k2, k3, hr, rfl⟩⟩
  · rcases m with ⟨b0, rfl, rfl⟩ | ⟨b0, -⟩ | ⟨b0, -⟩
    · exact ⟨L, rfl⟩
    · exact absurd (ok.mpr b0) k
    · exact absurd (ok.mpr b0) k
  · rcases m with ⟨b0, rfl, rfl⟩ | ⟨b0, b1, rfl, rfl⟩ | ⟨b0, b1, -⟩
    · exact absurd (ok.mp k) b0
    · exact ⟨L, rfl⟩
    · omega
  · omega
  · have w : ∀ (c : Nat) (j : Int), c ≠ 16 → c ≠ 23 → c ≠ 24 → c ≠ 25 → c ≠ 26 → cOutV V a b d c j = V c j := fun c j h1 h2 h3 h4 h5 => by unfold cOutV; rw [up_c h1, up_c h5, up_c h4, up_c h3, up_c h2]
    have w16 : cOutV V a b d 16 2 = w32 (V 16 2 + 1) := by unfold cOutV; rw [up_s]
    have w23 : ∀ j, cOutV V a b d 23 j = if j = V 16 2 then a else V 23 j := fun j => by unfold cOutV; rw [up_c (by decide), up_c (by decide), up_c (by decide), up_c (by decide), up_p]
    have w24 : ∀ j, cOutV V a b d 24 j = if j = V 16 2 then b else V 24 j := fun j => by unfold cOutV; rw [up_c (by decide), up_c (by decide), up_c (by decide), up_p, up_c (by decide)]
    have w25 : ∀ j, cOutV V a b d 25 j = if j = V 16 2 then d else V 25 j := fun j => by unfold cOutV; rw [up_c (by decide), up_c (by decide), up_p, up_c (by decide), up_c (by decide)]
    have w26 : ∀ j, cOutV V a b d 26 j = if j = V 16 2 then V 1 0 else V 26 j := fun j => by unfold cOutV; rw [up_c (by decide), up_p, up_c (by decide), up_c (by decide), up_c (by decide)]
    generalize cOutV V a b d = W at m w w16 w23 w24 w25 w26
    have y : ∀ (c : Nat) (j : Int), 72 ≤ c → W c j = V c j := fun c j h => w c j (by omega) (by omega) (by omega) (by omega) (by omega)
    have e25 := y 72 25 (by decide)
    have e1 := y 72 1 (by decide)
    have w1 : w32 (V 16 2 + 1) = V 16 2 + 1 := w32_id (by omega) (by omega)
    rcases m with ⟨b0, -⟩ | ⟨b0, b1, -⟩ | ⟨b0, b1, hr2, rfl⟩
    · exact absurd (ok.mp k) b0
    · omega
    · have q : ∀ (c : Nat) (j : Int), c ≠ 72 → c ≠ 92 → c ≠ 93 → c ≠ 94 → c ≠ 95 → c ≠ 96 → c ≠ 97 → mOutV W a b d c j = W c j := fun c j h1 h2 h3 h4 h5 h6 h7 => by unfold mOutV; rw [up_c h1, up_c h1, up_c h7, up_c h6, up_c h5, up_c h4, up_c h3, up_c h2]
      have q25 : mOutV W a b d 72 25 = w32 (W 72 25 + 1) := by unfold mOutV; rw [up_j (by decide), up_s]
      have q92 : ∀ j, mOutV W a b d 92 j = if j = W 72 25 then iDiv a 100 else W 92 j := fun j => by unfold mOutV; rw [up_c (by decide), up_c (by decide), up_c (by decide), up_c (by decide), up_c (by decide), up_c (by decide), up_c (by decide), up_p]
      have q93 : ∀ j, mOutV W a b d 93 j = if j = W 72 25 then iRem a 100 else W 93 j := fun j => by unfold mOutV; rw [up_c (by decide), up_c (by decide), up_c (by decide), up_c (by decide), up_c (by decide), up_c (by decide), up_p, up_c (by decide)]
      have q94 : ∀ j, mOutV W a b d 94 j = if j = W 72 25 then iDiv b 100 else W 94 j := fun j => by unfold mOutV; rw [up_c (by decide), up_c (by decide), up_c (by decide), up_c (by decide), up_c (by decide), up_p, up_c (by decide), up_c (by decide)]
      have q95 : ∀ j, mOutV W a b d 95 j = if j = W 72 25 then iRem b 100 else W 95 j := fun j => by unfold mOutV; rw [up_c (by decide), up_c (by decide), up_c (by decide), up_c (by decide), up_p, up_c (by decide), up_c (by decide), up_c (by decide)]
      have q96 : ∀ j, mOutV W a b d 96 j = if j = W 72 25 then d else W 96 j := fun j => by unfold mOutV; rw [up_c (by decide), up_c (by decide), up_c (by decide), up_p, up_c (by decide), up_c (by decide), up_c (by decide), up_c (by decide)]
      have q97 : ∀ j, mOutV W a b d 97 j = if j = W 72 25 then W 72 1 else W 97 j := fun j => by unfold mOutV; rw [up_c (by decide), up_c (by decide), up_p, up_c (by decide), up_c (by decide), up_c (by decide), up_c (by decide), up_c (by decide)]
      generalize mOutV W a b d = U at q q25 q92 q93 q94 q95 q96 q97
      have u16 : U 16 2 = V 16 2 + 1 := by rw [q 16 2 (by decide) (by decide) (by decide) (by decide) (by decide) (by decide) (by decide), w16, w1]
      refine ⟨⟨by rw [u16, q25, e25, ← l1, w1], by omega, by omega, fun j j0 j1 => ?_⟩, by rw [hr, hr2, e25, l1]⟩
      rw [u16] at j1
      unfold JOut1
      rw [q92, q93, q94, q95, q96, q97, q 23 j (by decide) (by decide) (by decide) (by decide) (by decide) (by decide) (by decide), q 24 j (by decide) (by decide) (by decide) (by decide) (by decide) (by decide) (by decide), q 25 j (by decide) (by decide) (by decide) (by decide) (by decide) (by decide) (by decide), q 26 j (by decide) (by decide) (by decide) (by decide) (by decide) (by decide) (by decide), w23, w24, w25, w26, e25, e1, ← l1, ← hd, y 92 j (by decide), y 93 j (by decide), y 94 j (by decide), y 95 j (by decide), y 96 j (by decide), y 97 j (by decide)]
      by_cases z : j = V 16 2
      · simp only [if_pos z, and_self]
      · simp only [if_neg z]
        exact l4 j j0 (by omega)
def LOut : List (Nat × Option Nat) := [(16, some 2), (72, some 25), (92, none), (93, none), (94, none), (95, none), (96, none), (97, none), (23, none), (24, none), (25, none), (26, none)]
theorem JOut_ag {V V' : vS} (J : JOut V) (A : ag LOut V V') : JOut V' := by
  obtain ⟨a1, a2, a3, a4, a5, a6, a7, a8, a9, a10, a11, a12, -⟩ := A
  have a1 : V' 16 2 = V 16 2 := a1
  have a2 : V' 72 25 = V 72 25 := a2
  unfold JOut JOut1
  simp only [a1, a2, a3, a4, a5, a6, a7, a8, a9, a10, a11, a12]
  exact J
theorem JOut_dG {W : List (Nat × Nat)} {σ σ1 : List Nat} {h h1 : aH} (J : JOut (vw h)) (I : dI σ h) (G : dG W σ h σ1 h1) (k : frL W LOut = true) : JOut (vw h1) := JOut_ag J (ag_dG I.1 G _ k)
theorem zJOut0 : JOut (vw zH0) := by
  have e1 : vw zH0 16 2 = 0 := vzf (i := 2) (x := 0) zh16 rfl
  have e2 : vw zH0 72 25 = 0 := vzf (i := 25) (x := 0) zh72 rfl
  exact ⟨by rw [e1, e2], by rw [e1]; decide, by rw [e1]; decide, fun j h0 h1 => by rw [e1] at h1; omega⟩
-- acts
def JA2 (A B : vS) : Prop := A 66 1 = B 72 95 ∧ ∀ j, A 67 j = B 141 j
theorem JA2_bg {A B : vS} (J : JA2 A B) (v : Int) : JA2 (bg A v) (mbg B v) := by
  obtain ⟨j1, j2⟩ := J
  unfold bg mbg
  by_cases q : A 66 1 < 24
  · rw [if_pos q, if_pos (by omega)]
    refine ⟨by rw [up_s, up_s, j1], fun j => ?_⟩
    rw [up_c (show (67 : Nat) ≠ 66 by decide), up_p, up_c (show (141 : Nat) ≠ 72 by decide), up_p, j1, j2]
  · rw [if_neg q, if_neg (by omega)]
    refine ⟨by rw [up_s, up_s, j1], fun j => ?_⟩
    rw [up_c (by decide), up_c (by decide), j2]
theorem JA2_bgs : ∀ (l : List Int) {A B : vS}, JA2 A B → JA2 (bgs A l) (mbgs B l)
  | [], _, _, J => J
  | v :: l, _, _, J => JA2_bgs l (JA2_bg J v)
def JAct (V : vS) : Prop := JA2 V V
theorem yNr_m {f m m' b x : Int} (h : kFarm f → m = m') : yNr f m b x = yNr f m' b x := by
  by_cases q : f ≠ 1 ∧ f ≠ 2 ∧ f ≠ 3 ∧ f ≠ 7
  · rw [yNr_d q, yNr_d q]
  · rw [h (by unfold kFarm; omega)]
theorem hNr_m {f m m' b x : Int} (h : 4 ≤ f → f ≤ 5 → m = m') : hNr f m b x = hNr f m' b x := by
  by_cases q : f ≠ 4 ∧ f ≠ 5
  · rw [hNr_d q, hNr_d q]
  · rw [h (by omega) (by omega)]
theorem aNr_m {act k m m' b x : Int} (h1 : kFarm k → m = m') (h2 : 4 ≤ k → k ≤ 5 → m = m') : aNr act k m b x = aNr act k m' b x := by
  by_cases q : kFarm k
  · rw [h1 q]
  · by_cases q2 : k = 4 ∨ k = 5
    · rw [h2 (by omega) (by omega)]
    · have e1 : ∀ x, yNr k m b x = yNr k m' b x := fun x => yNr_m (fun z => absurd z q)
      have e2 : ∀ x, hNr k m b x = hNr k m' b x := fun x => hNr_m (fun z1 z2 => absurd (by omega) q2)
      have hk : k ≠ 7 := by unfold kFarm at q; omega
      have e3 : ∀ x, cNr k k m b x = cNr k k m' b x := fun x => by
        unfold cNr
        rw [if_neg hk, if_neg hk]
        simp only [e1, e2]
      unfold aNr tNr
      simp only [e1, e2, e3]
theorem jx_42 {V V1 V2 : vS} {b act x r1 r2 : Int} (J : JBody V) (L : JAct V) (c : R186 V b act x r1 V1) (m : R316 V1 b act x r2 V2) : JAct V2 ∧ r1 = r2 := by
  have eb : cBody V b ↔ mBody V b := by unfold cBody mBody; rw [J.1]
  rcases c with ⟨a, rfl, rfl⟩ | ⟨a, q, rfl⟩
  · have eW : mBody (up V 66 1 0) b ↔ mBody V b := by
      unfold mBody
      rw [up_c (by decide)]
    rcases m with ⟨b0, rfl, rfl⟩ | ⟨b0, -⟩
    · refine ⟨⟨?_, fun j => ?_⟩, rfl⟩
      · rw [up_c (by decide), up_s, up_s]
      · rw [up_c (by decide), up_c (by decide), up_c (by decide), up_c (by decide)]
        exact L.2 j
    · exact absurd ⟨eb.mpr (eW.mp b0.1), b0.2⟩ a
  · obtain ⟨b0, b1, b2⟩ := body_lt J a.1
    have me := J.2.2.2.2.2.2.2.2 b b0 b1
    unfold JMeas at me
    have w : ∀ (c : Nat) (j : Int), c ≠ 66 → c ≠ 67 → bgs (up (up (up (up V 66 1 0) 66 2 b) 66 3 (V 2 b)) 66 4 (V 3 b)) (aTr act (V 2 b)) c j = V c j := fun c j h1 h2 => by
      rw [bgs_o h2 (Or.inl h1), up_c h1, up_c h1, up_c h1, up_c h1]
    have K0 : JA2 (up (up (up (up V 66 1 0) 66 2 b) 66 3 (V 2 b)) 66 4 (V 3 b)) (up (bgs (up (up (up (up V 66 1 0) 66 2 b) 66 3 (V 2 b)) 66 4 (V 3 b)) (aTr act (V 2 b))) 72 95 0) := by
      refine ⟨?_, fun j => ?_⟩
      · rw [up_j (by decide), up_j (by decide), up_j (by decide), up_s, up_s]
      · rw [up_c (by decide), up_c (by decide), up_c (by decide), up_c (by decide), up_c (by decide), w 141 j (by decide) (by decide)]
        exact L.2 j
    have K := JA2_bgs (aTr act (V 2 b)) K0
    generalize bgs (up (up (up (up V 66 1 0) 66 2 b) 66 3 (V 2 b)) 66 4 (V 3 b)) (aTr act (V 2 b)) = W at m w K
    have eW : mBody W b ↔ mBody V b := by
      unfold mBody
      rw [w 72 2 (by decide) (by decide)]
    rcases m with ⟨c0, -⟩ | ⟨c0, hr, rfl⟩
    · exact absurd ⟨eW.mpr (eb.mp a.1), a.2⟩ c0
    · have e2 : W 73 b = V 2 b := by rw [w 73 b (by decide) (by decide), J.2.1]
      rw [e2] at hr ⊢
      refine ⟨⟨?_, fun j => ?_⟩, ?_⟩
      · rw [mbgs_x (by decide) (by decide), up_c (by decide)]
        exact K.1
      · rw [mbgs_x (by decide) (by decide), up_c (by decide)]
        exact K.2 j
      · rw [q, hr]
        have h3 : mM W b = mM V b := mM_c (w 73 b (by decide) (by decide)) (w 74 b (by decide) (by decide)) (w 78 b (by decide) (by decide))
        rw [h3]
        refine aNr_m (fun z => ?_) (fun z1 z2 => ?_)
        · rw [mM_1 (by rw [← J.2.1]; exact z)]; exact me.1 z
        · rw [mM_2 (by rw [← J.2.1]; unfold kFarm; omega)]; exact me.2.1 z1 z2
def LAct : List (Nat × Option Nat) := [(66, some 1), (72, some 95), (67, none), (141, none)]
theorem JAct_ag {V V' : vS} (J : JAct V) (A : ag LAct V V') : JAct V' := by
  obtain ⟨a1, a2, a3, a4, -⟩ := A
  have a1 : V' 66 1 = V 66 1 := a1
  have a2 : V' 72 95 = V 72 95 := a2
  unfold JAct JA2
  simp only [a1, a2, a3, a4]
  exact J
theorem JAct_dG {W : List (Nat × Nat)} {σ σ1 : List Nat} {h h1 : aH} (J : JAct (vw h)) (I : dI σ h) (G : dG W σ h σ1 h1) (k : frL W LAct = true) : JAct (vw h1) := JAct_ag J (ag_dG I.1 G _ k)
theorem zJAct0 : JAct (vw zH0) := by
  have e1 : vw zH0 66 1 = 0 := vzf (i := 1) (x := 0) zh66 rfl
  have e2 : vw zH0 72 95 = 0 := vzf (i := 95) (x := 0) zh72 rfl
  exact ⟨by rw [e1, e2], fun j => by rw [vz zh67, vz zh141]⟩
end
section
theorem sz {f y : Int} (h0 : 0 ≤ f) (h1 : f < 150) (h2 : 0 ≤ y) (h3 : y ≤ 23) : w32 (w32 (f * 24) + y) = 24 * f + y := by
  rw [w32_id (z := f * 24) (by omega) (by omega), w32_id (by omega) (by omega)]
  omega
end
section
-- ===== the rows of squares of both sides are one =====
def tb (a : Int) (x : Nat) : Bool := (Int32.ofInt a).toBitVec.getLsbD x
theorem tb_xor (a b : Int) (x : Nat) : tb (bXor a b) x = Bool.xor (tb a x) (tb b x) := by
  unfold tb bXor
  rw [oI, Int32.toBitVec_xor, BitVec.getLsbD_xor]
theorem tb_or (a b : Int) (x : Nat) : tb (bOr a b) x = (tb a x || tb b x) := by
  unfold tb bOr
  rw [oI, Int32.toBitVec_or, BitVec.getLsbD_or]
theorem tb_0' : ∀ x : Fin 32, tb 0 x.val = false := by decide +kernel
theorem tb_0 {x : Nat} (h : x < 32) : tb 0 x = false := tb_0' ⟨x, h⟩
theorem tb_m1 : ∀ s : Fin 25, ∀ x : Fin 32, tb (bAnd 16777215 (bShl (-1) (s.val : Int))) x.val = decide (s.val ≤ x.val ∧ x.val < 24) := by decide +kernel
theorem tb_1 : ∀ s : Fin 24, ∀ x : Fin 32, tb (bShl 1 (s.val : Int)) x.val = decide (x.val = s.val) := by decide +kernel
theorem tb_ext {a b : Int32} (h : ∀ x, x < 32 → tb a.toInt x = tb b.toInt x) : a.toInt = b.toInt := by
  have e : a = b := by
    refine Int32.toBitVec_inj.mp (BitVec.eq_of_getLsbD_eq (fun i hi => ?_))
    have := h i hi
    unfold tb at this
    rw [oI, oI] at this
    exact this
  rw [e]
def crB (V : vS) (y : Int) (k : Nat) : Bool := decide (min (V 15 (2 * (k : Nat) + 1)) (V 15 (cNxt V (2 * (k : Nat) + 1))) ≤ y ∧ y < max (V 15 (2 * (k : Nat) + 1)) (V 15 (cNxt V (2 * (k : Nat) + 1))))
def rT (V : vS) (y : Int) : Nat → Bool
  | 0 => false
  | k + 1 => Bool.xor (rT V y k) (crB V y k)
def rP (V : vS) (x y : Int) : Nat → Bool
  | 0 => false
  | k + 1 => Bool.xor (rP V x y k) (crB V y k && decide (V 14 (2 * (k : Nat) + 1) ≤ x))
theorem cIns_i (V : vS) (y : Int) : ∀ k, ∃ z : Int32, cIns V y k = z.toInt
  | 0 => ⟨0, rfl⟩
  | k + 1 => by
    unfold cIns
    split
    · exact ⟨_, rfl⟩
    · exact cIns_i V y k
theorem mRw_i (V : vS) (y : Int) : ∀ k, ∃ z : Int32, mRw V y k = z.toInt
  | 0 => ⟨0, rfl⟩
  | k + 1 => by
    unfold mRw
    split
    · exact ⟨_, rfl⟩
    · exact ⟨_, rfl⟩
theorem tb_c {V : vS} (hx : ∀ j, 0 ≤ j → j < 12 → 0 ≤ V 14 j ∧ V 14 j ≤ 24) (y : Int) {x : Nat} (h : x < 32) : ∀ k : Nat, 2 * k ≤ 12 → tb (cIns V y k) x = (rP V (x : Nat) y k && decide (x < 24))
  | 0, _ => tb_0 h
  | k + 1, hk => by
    have ih := tb_c hx y h k (by omega)
    have es : rP V (x : Nat) y (k + 1) = Bool.xor (rP V (x : Nat) y k) (crB V y k && decide (V 14 (2 * (k : Nat) + 1) ≤ (x : Nat))) := rfl
    rw [es]
    unfold cIns
    by_cases q : min (V 15 (2 * (k : Nat) + 1)) (V 15 (cNxt V (2 * (k : Nat) + 1))) ≤ y ∧ y < max (V 15 (2 * (k : Nat) + 1)) (V 15 (cNxt V (2 * (k : Nat) + 1)))
    · have hb : crB V y k = true := decide_eq_true q
      obtain ⟨h0, h1⟩ := hx (2 * (k : Nat) + 1) (by omega) (by omega)
      obtain ⟨s, hs⟩ : ∃ s : Nat, V 14 (2 * (k : Nat) + 1) = (s : Int) := ⟨_, (Int.toNat_of_nonneg h0).symm⟩
      rw [if_pos q, tb_xor, ih, hb, hs, tb_m1 ⟨s, by omega⟩ ⟨x, h⟩]
      have e1 : decide ((s : Int) ≤ (x : Nat)) = decide (s ≤ x) := by
        rw [decide_eq_decide]; omega
      have e2 : decide (s ≤ x ∧ x < 24) = (decide (s ≤ x) && decide (x < 24)) := Bool.decide_and _ _
      rw [e1, e2]
      cases rP V (x : Nat) y k <;> cases decide (s ≤ x) <;> cases decide (x < 24) <;> rfl
    · have hb : crB V y k = false := decide_eq_false q
      rw [if_neg q, ih, hb]
      cases rP V (x : Nat) y k <;> rfl
theorem tb_m {V : vS} (y : Int) {x : Nat} (h : x < 32) : ∀ k : Nat, k ≤ 24 → tb (mRw V y k) x = (decide (x < k) && decide (mInR V (x : Nat) y ≠ 0))
  | 0, _ => tb_0 h
  | k + 1, hk => by
    have ih := tb_m (V := V) y h k (by omega)
    have e2 : decide (x < k + 1) = (decide (x < k) || decide (x = k)) := by
      rw [← Bool.decide_or, decide_eq_decide]; omega
    unfold mRw
    by_cases q : mInR V (k : Nat) y ≠ 0
    · rw [if_pos q, tb_or, ih, tb_1 ⟨k, by omega⟩ ⟨x, h⟩, e2]
      by_cases z : x = k
      · subst z
        rw [decide_eq_true q]
        cases decide (x < x) <;> simp
      · simp [z]
    · rw [if_neg q, tb_or, ih, tb_0 h, e2]
      by_cases z : x = k
      · subst z
        rw [decide_eq_false q]
        cases decide (x < x) <;> simp
      · simp [z]
theorem par_m {V : vS} (J : JRing V) (hy : ∀ j, 0 ≤ j → j < 12 → 0 ≤ V 15 j ∧ V 15 j ≤ 24) (x y : Int) : ∀ k : Nat, 2 * (k : Int) ≤ V 13 2 → decide (mIn V x y k ≠ 0) = Bool.xor (rP V x y k) (rT V y k)
  | 0, _ => rfl
  | k + 1, hk => by
    have ih := par_m J hy x y k (by omega)
    obtain ⟨j1, j2, j3, j4, j5⟩ := J
    have J' : JRing V := ⟨j1, j2, j3, j4, j5⟩
    have e1 : rP V x y (k + 1) = Bool.xor (rP V x y k) (crB V y k && decide (V 14 (2 * (k : Nat) + 1) ≤ x)) := rfl
    have e2 : rT V y (k + 1) = Bool.xor (rT V y k) (crB V y k) := rfl
    have en : mNxt V (2 * (k : Nat) + 1) = cNxt V (2 * (k : Nat) + 1) := (nxt_j J' (by omega) (by omega)).symm
    have b1 := hy (2 * (k : Nat) + 1) (by omega) (by omega)
    have b2 : 0 ≤ V 15 (cNxt V (2 * (k : Nat) + 1)) ∧ V 15 (cNxt V (2 * (k : Nat) + 1)) ≤ 24 := by
      refine hy _ ?_ ?_
      · unfold cNxt; split
        · rw [w32_id (by omega) (by omega)]; omega
        · omega
      · unfold cNxt; split <;> omega
    have ec : (x < V 81 (2 * (k : Nat) + 1) ∧ (min (V 82 (2 * (k : Nat) + 1)) (V 82 (mNxt V (2 * (k : Nat) + 1))) ≤ y ∧ y ≤ w32 (max (V 82 (2 * (k : Nat) + 1)) (V 82 (mNxt V (2 * (k : Nat) + 1))) - 1))) ↔ (¬ V 14 (2 * (k : Nat) + 1) ≤ x ∧ (min (V 15 (2 * (k : Nat) + 1)) (V 15 (cNxt V (2 * (k : Nat) + 1))) ≤ y ∧ y < max (V 15 (2 * (k : Nat) + 1)) (V 15 (cNxt V (2 * (k : Nat) + 1))))) := by
      rw [en, ← j2, ← j3, ← j3, w32_id (by omega) (by omega)]
      omega
    rw [e1, e2]
    have em : mIn V x y (k + 1) = if (x < V 81 (2 * (k : Nat) + 1) ∧ (min (V 82 (2 * (k : Nat) + 1)) (V 82 (mNxt V (2 * (k : Nat) + 1))) ≤ y ∧ y ≤ w32 (max (V 82 (2 * (k : Nat) + 1)) (V 82 (mNxt V (2 * (k : Nat) + 1))) - 1))) then (if mIn V x y k ≠ 0 then 0 else 1) else mIn V x y k := rfl
    by_cases q : min (V 15 (2 * (k : Nat) + 1)) (V 15 (cNxt V (2 * (k : Nat) + 1))) ≤ y ∧ y < max (V 15 (2 * (k : Nat) + 1)) (V 15 (cNxt V (2 * (k : Nat) + 1)))
    · have hb : crB V y k = true := decide_eq_true q
      by_cases z : V 14 (2 * (k : Nat) + 1) ≤ x
      · rw [em, if_neg (fun w => (ec.mp w).1 z), ih, hb, decide_eq_true z]
        cases rP V x y k <;> cases rT V y k <;> rfl
      · have e3 : decide (mIn V x y (k + 1) ≠ 0) = !(decide (mIn V x y k ≠ 0)) := by
          rw [em, if_pos (ec.mpr ⟨z, q⟩)]
          by_cases w : mIn V x y k ≠ 0
          · rw [if_pos w, decide_eq_true w]; rfl
          · rw [if_neg w, decide_eq_false w]; rfl
        rw [e3, ih, hb, decide_eq_false z]
        cases rP V x y k <;> cases rT V y k <;> rfl
    · have hb : crB V y k = false := decide_eq_false q
      rw [em, if_neg (fun w => q (ec.mp w).2), ih, hb]
      cases rP V x y k <;> cases rT V y k <;> rfl
theorem cr_s (a b y : Int) : decide (min a b ≤ y ∧ y < max a b) = Bool.xor (decide (a ≤ y)) (decide (b ≤ y)) := by
  by_cases p : a ≤ y
  · by_cases q : b ≤ y
    · rw [decide_eq_true p, decide_eq_true q, decide_eq_false (by omega)]; rfl
    · rw [decide_eq_true p, decide_eq_false q, decide_eq_true (by omega)]; rfl
  · by_cases q : b ≤ y
    · rw [decide_eq_false p, decide_eq_true q, decide_eq_true (by omega)]; rfl
    · rw [decide_eq_false p, decide_eq_false q, decide_eq_false (by omega)]; rfl
theorem lev {V : vS} (s : ∀ i, 0 ≤ i → i < V 13 2 → cWay V i) (h12 : V 13 2 ≤ 12) (k : Nat) (h : 2 * (k : Int) + 1 < V 13 2) : V 15 (2 * (k : Int)) = V 15 (2 * (k : Int) + 1) := by
  have w := (s (2 * (k : Int)) (by omega) (by omega)).1 (by rw [iRem_pos (by omega) (by omega) (by decide) (by decide)]; omega)
  rw [w.1]
  congr 1
  unfold cNxt
  rw [w32_id (by omega) (by omega), if_pos h]
theorem rT_s {V : vS} (s : ∀ i, 0 ≤ i → i < V 13 2 → cWay V i) (h12 : V 13 2 ≤ 12) (y : Int) : ∀ k : Nat, 2 * (k : Int) + 1 < V 13 2 → rT V y k = Bool.xor (decide (V 15 1 ≤ y)) (decide (V 15 (2 * (k : Nat) + 1) ≤ y))
  | 0, _ => by
    show false = _
    rw [show (2 * ((0 : Nat) : Int) + 1) = 1 from rfl]
    cases decide (V 15 1 ≤ y) <;> rfl
  | k + 1, h => by
    have ih := rT_s s h12 y k (by omega)
    have e2 : rT V y (k + 1) = Bool.xor (rT V y k) (crB V y k) := rfl
    have en : cNxt V (2 * (k : Nat) + 1) = 2 * ((k + 1 : Nat) : Int) := by
      unfold cNxt
      rw [w32_id (by omega) (by omega), if_pos (by omega)]
      omega
    have ec : crB V y k = Bool.xor (decide (V 15 (2 * (k : Nat) + 1) ≤ y)) (decide (V 15 (2 * ((k + 1 : Nat) : Int) + 1) ≤ y)) := by
      unfold crB
      rw [cr_s, en, lev s h12 (k + 1) h]
    rw [e2, ih, ec]
    cases decide (V 15 1 ≤ y) <;> cases decide (V 15 (2 * (k : Nat) + 1) ≤ y) <;> cases decide (V 15 (2 * ((k + 1 : Nat) : Int) + 1) ≤ y) <;> rfl
theorem rT_0 {V : vS} (s : cSound V) (h12 : V 13 2 ≤ 12) (y : Int) : rT V y ((V 13 2).toNat / 2) = false := by
  obtain ⟨s1, s2, s3, -⟩ := s
  rw [iRem_pos (by omega) (by omega) (by decide) (by decide)] at s2
  obtain ⟨k, hk⟩ : ∃ k : Nat, (V 13 2).toNat / 2 = k + 1 := ⟨(V 13 2).toNat / 2 - 1, by omega⟩
  have hn : V 13 2 = 2 * (k : Int) + 2 := by omega
  rw [hk]
  have ih := rT_s s3 h12 y k (by omega)
  have e2 : rT V y (k + 1) = Bool.xor (rT V y k) (crB V y k) := rfl
  have en : cNxt V (2 * (k : Nat) + 1) = 0 := by
    unfold cNxt
    rw [w32_id (by omega) (by omega), if_neg (by omega)]
  have e0 : V 15 0 = V 15 1 := lev s3 h12 0 (by omega)
  have ec : crB V y k = Bool.xor (decide (V 15 (2 * (k : Nat) + 1) ≤ y)) (decide (V 15 1 ≤ y)) := by
    unfold crB
    rw [cr_s, en, e0]
  rw [e2, ih, ec]
  cases decide (V 15 1 ≤ y) <;> cases decide (V 15 (2 * (k : Nat) + 1) ≤ y) <;> rfl
theorem row_eq {V : vS} (J : JRing V) (hx : ∀ j, 0 ≤ j → j < 12 → 0 ≤ V 14 j ∧ V 14 j ≤ 24) (hy : ∀ j, 0 ≤ j → j < 12 → 0 ≤ V 15 j ∧ V 15 j ≤ 24) (s : cSound V) (y : Int) : cRow V y = mRw V y 24 := by
  obtain ⟨a, ea⟩ := cIns_i V y ((V 13 2).toNat / 2)
  obtain ⟨b, eb⟩ := mRw_i V y 24
  unfold cRow
  rw [ea, eb]
  refine tb_ext (fun x h => ?_)
  have j4 := J.2.2.2.1
  have j5 := J.2.2.2.2
  rw [← ea, ← eb, tb_c hx y h _ (by omega), tb_m y h 24 (by decide)]
  have p := par_m J hy (x : Nat) y ((V 13 2).toNat / 2) (by omega)
  rw [rT_0 s j5 y] at p
  unfold mInR
  rw [← J.1, p]
  cases rP V (x : Nat) y ((V 13 2).toNat / 2) <;> cases decide (x < 24) <;> rfl
def JRows (V : vS) : Prop := ∀ j, V 8 j = V 80 j
theorem jx_6r {V V1 V2 : vS} {f w r1 r2 : Int} (J : JRing V) (K : JBody V) (L : JRows V) (hx : ∀ j, 0 ≤ j → j < 12 → 0 ≤ V 14 j ∧ V 14 j ≤ 24) (hy : ∀ j, 0 ≤ j → j < 12 → 0 ≤ V 15 j ∧ V 15 j ≤ 24) (c : R150 V f w r1 V1) (m : R222 V1 f w r2 V2) : JRows V2 := by
  have k1 := K.1
  rcases c with ⟨a, rfl, rfl⟩ | ⟨a, ⟨a0, rfl, rfl⟩ | ⟨a0, a1, rfl, rfl⟩ | ⟨a0, a1, a2, rfl, hV⟩⟩
  · rcases m with ⟨b, rfl, rfl⟩ | ⟨b, -⟩
    · exact L
    · exact absurd ⟨(farm_j K f).mpr b.1, b.2⟩ a
  · rcases m with ⟨b, rfl, rfl⟩ | ⟨b, ⟨b0, rfl, rfl⟩ | ⟨b0, -⟩ | ⟨b0, -⟩⟩
    · exact L
    · exact L
    · exact absurd ((sound_j J).mpr b0) a0
    · exact absurd ((sound_j J).mpr b0) a0
  · rcases m with ⟨b, rfl, rfl⟩ | ⟨b, ⟨b0, rfl, rfl⟩ | ⟨b0, b1, rfl, rfl⟩ | ⟨b0, b1, V3, ⟨c1, c2, -, -⟩, -⟩⟩
    · exact L
    · exact L
    · exact L
    · omega
  · have mk : R222k (if w = 1 then 5 else 4) V1 f w r2 V2 := m
    clear m
    generalize (if w = 1 then (5 : Int) else 4) = kd at mk hV
    have e8 : ∀ j, V1 8 j = if 24 * V 1 1 ≤ j ∧ j < 24 * V 1 1 + 24 then cRow (cAddV V kd (cArea V) f) (j - 24 * V 1 1) else V 8 j := fun j => by
      rw [hV, up_c (by decide)]
      unfold outl
      by_cases z : 24 * V 1 1 ≤ j ∧ j < 24 * V 1 1 + 24
      · rw [if_pos ⟨rfl, z⟩, if_pos z]
      · rw [if_neg (fun q => z q.2), if_neg z, cAddV_c (by decide) (by decide) (by decide) (by decide) (by decide) (by decide)]
    have o : ∀ (c : Nat) (j : Int), c ≠ 13 → c ≠ 8 → c ≠ 1 → c ≠ 2 → c ≠ 3 → c ≠ 4 → c ≠ 5 → c ≠ 7 → V1 c j = V c j := fun c j g1 g2 h1 h2 h3 h4 h5 h7 => by rw [hV, up_c g1, outl_c g2, cAddV_c h1 h2 h3 h4 h5 h7]
    have e72 : ∀ j, V1 72 j = V 72 j := fun j => o 72 j (by decide) (by decide) (by decide) (by decide) (by decide) (by decide) (by decide) (by decide)
    have e80 : ∀ j, V1 80 j = V 80 j := fun j => o 80 j (by decide) (by decide) (by decide) (by decide) (by decide) (by decide) (by decide) (by decide)
    have e81 : ∀ j, V1 81 j = V 81 j := fun j => o 81 j (by decide) (by decide) (by decide) (by decide) (by decide) (by decide) (by decide) (by decide)
    have e82 : ∀ j, V1 82 j = V 82 j := fun j => o 82 j (by decide) (by decide) (by decide) (by decide) (by decide) (by decide) (by decide) (by decide)
    have mf : mFarm V1 f ↔ mFarm V f := by
      unfold mFarm mBody
      rw [e72, o 73 f (by decide) (by decide) (by decide) (by decide) (by decide) (by decide) (by decide) (by decide)]
    have cr : ∀ y, cRow (cAddV V kd (cArea V) f) y = cRow V y := fun y => cRow_c (cAddV_c (by decide) (by decide) (by decide) (by decide) (by decide) (by decide)) (fun j => cAddV_c (by decide) (by decide) (by decide) (by decide) (by decide) (by decide)) (fun j => cAddV_c (by decide) (by decide) (by decide) (by decide) (by decide) (by decide)) y
    rcases mk with ⟨b, -⟩ | ⟨b, ⟨b0, -⟩ | ⟨b0, b1, -⟩ | ⟨b0, b1, V3, ⟨c1, c2, rfl, rfl⟩, rfl⟩⟩
    · exact absurd ⟨mf.mpr ((farm_j K f).mp a.1), a.2⟩ b
    · exact absurd ((mSound_c (e72 11) e81 e82).mpr ((sound_j J).mp a0)) b0
    · rw [e72] at b1
      omega
    · intro j
      have eb : V1 72 2 = V 1 1 := by rw [e72, k1]
      have p8 : up (outm (up (up (mAddV V1 kd) 75 (V1 72 2) f) 78 (V1 72 2) (mArea V1)) (V1 72 2) 24) 72 11 0 8 j = V1 8 j := by
        rw [up_c (by decide), outm_c (by decide), up_c (by decide), up_c (by decide), mAddV_c (by decide) (by decide) (by decide) (by decide) (by decide)]
      have q : ∀ (c : Nat) (j : Int), c ≠ 72 → c ≠ 73 → c ≠ 75 → c ≠ 76 → c ≠ 77 → c ≠ 78 → up (up (mAddV V1 kd) 75 (V1 72 2) f) 78 (V1 72 2) (mArea V1) c j = V1 c j := fun c j h1 h2 h3 h4 h5 h6 => by rw [up_c h6, up_c h3, mAddV_c h1 h2 h3 h4 h5]
      have q11 : up (up (mAddV V1 kd) 75 (V1 72 2) f) 78 (V1 72 2) (mArea V1) 72 11 = V 72 11 := by rw [up_c (by decide), up_c (by decide), mA_o (by decide), e72]
      have mr : ∀ y, mRw (up (up (mAddV V1 kd) 75 (V1 72 2) f) 78 (V1 72 2) (mArea V1)) y 24 = mRw V y 24 := fun y => mRw_c q11 (fun j => by rw [q 81 j (by decide) (by decide) (by decide) (by decide) (by decide) (by decide), e81]) (fun j => by rw [q 82 j (by decide) (by decide) (by decide) (by decide) (by decide) (by decide), e82]) y 24
      rw [p8, e8, up_c (by decide)]
      unfold outm
      rw [eb] at *
      by_cases z : 24 * V 1 1 ≤ j ∧ j < 24 * V 1 1 + 24
      · rw [if_pos z, if_pos ⟨rfl, z⟩, cr, mr]
        exact row_eq J hx hy a0 _
      · rw [if_neg z, if_neg (fun y => z y.2), q 80 j (by decide) (by decide) (by decide) (by decide) (by decide) (by decide), e80]
        exact L j
def LRows : List (Nat × Option Nat) := [(8, none), (80, none)]
theorem JRows_ag {V V' : vS} (J : JRows V) (A : ag LRows V V') : JRows V' := fun j => by
  obtain ⟨a1, a2, -⟩ := A
  rw [a1, a2]
  exact J j
theorem JRows_dG {W : List (Nat × Nat)} {σ σ1 : List Nat} {h h1 : aH} (J : JRows (vw h)) (I : dI σ h) (G : dG W σ h σ1 h1) (k : frL W LRows = true) : JRows (vw h1) := JRows_ag J (ag_dG I.1 G _ k)
theorem zJRows0 : JRows (vw zH0) := fun j => by rw [vz zh8, vz zh80]
theorem vb14 {σ : List Nat} {h : aH} (I : dI σ h) : ∀ j, 0 ≤ j → j < 12 → 0 ≤ vw h 14 j ∧ vw h 14 j ≤ 24 := fun j h0 h1 => vw_rng I (c := 14) (a := 0) (n := 12) (lo := 0) (hi := 24) (by decide +kernel) h0 h1
theorem vb15 {σ : List Nat} {h : aH} (I : dI σ h) : ∀ j, 0 ≤ j → j < 12 → 0 ≤ vw h 15 j ∧ vw h 15 j ≤ 24 := fun j h0 h1 => vw_rng I (c := 15) (a := 0) (n := 12) (lo := 0) (hi := 24) (by decide +kernel) h0 h1
end
section
theorem gx332_0 : aF 0 zM332.2.2.2.2.2.2.2 = some (0, (.iconst 0), 1, 0, 0) := by decide +kernel
theorem gx332_1 : aF 1 zM332.2.2.2.2.2.2.2 = some (1, (.istore_n 2), 1, 0, 0) := by decide +kernel
theorem gx332_2 : aF 2 zM332.2.2.2.2.2.2.2 = some (2, (.aload_n 0), 1, 0, 0) := by decide +kernel
theorem gx332_3 : aF 3 zM332.2.2.2.2.2.2.2 = some (3, .arraylength, 1, 0, 0) := by decide +kernel
theorem gx332_4 : aF 4 zM332.2.2.2.2.2.2.2 = some (4, (.istore_n 3), 1, 0, 0) := by decide +kernel
theorem gx332_5 : aF 5 zM332.2.2.2.2.2.2.2 = some (5, (.iload_n 2), 1, 0, 0) := by decide +kernel
theorem gx332_6 : aF 6 zM332.2.2.2.2.2.2.2 = some (6, (.iload_n 3), 1, 0, 0) := by decide +kernel
theorem gx332_7 : aF 7 zM332.2.2.2.2.2.2.2 = some (7, (.if_icmp .ge 13), 3, 20, 0) := by decide +kernel
theorem gx332_20 : aF 20 zM332.2.2.2.2.2.2.2 = some (20, .return_, 1, 0, 0) := by decide +kernel
theorem gx332_10 : aF 10 zM332.2.2.2.2.2.2.2 = some (10, (.aload_n 0), 1, 0, 0) := by decide +kernel
theorem gx332_11 : aF 11 zM332.2.2.2.2.2.2.2 = some (11, (.iload_n 2), 1, 0, 0) := by decide +kernel
theorem gx332_12 : aF 12 zM332.2.2.2.2.2.2.2 = some (12, (.iload_n 1), 1, 0, 0) := by decide +kernel
theorem gx332_13 : aF 13 zM332.2.2.2.2.2.2.2 = some (13, .iastore, 1, 0, 0) := by decide +kernel
theorem gx332_14 : aF 14 zM332.2.2.2.2.2.2.2 = some (14, (.iinc 2 1), 3, 0, 0) := by decide +kernel
theorem gx332_17 : aF 17 zM332.2.2.2.2.2.2.2 = some (17, (.goto (-12)), 3, 5, 0) := by decide +kernel
end
section
-- ===== rows for cells made late =====
def nwI (h : aH) (q t N : Nat) (h' : aH) : Prop := q = h.1.length ∧ h.1[q]? = none ∧ (∀ c, c ≠ q → h'.1[c]? = h.1[c]?) ∧ ∃ a, h'.1[q]? = some (.inl (t, N, a)) ∧ ∀ j, vA a j = 0
theorem app_l {h : aH} {c : Nat} {x y : aC} (e : h.1[c]? = some x) : (h.1 ++ [y])[c]? = some x := by
  obtain ⟨hc, -⟩ := List.getElem?_eq_some_iff.mp e
  rw [List.getElem?_append_left hc]
  exact e
theorem app_r {h : aH} {c : Nat} {y : aC} (hc : c ≠ h.1.length) : (h.1 ++ [y])[c]? = h.1[c]? := by
  by_cases q : c < h.1.length
  · rw [List.getElem?_append_left q]
  · have e1 : (h.1 ++ [y]).length ≤ c := by
      rw [List.length_append]
      simp only [List.length_cons, List.length_nil]
      omega
    have e2 : h.1.length ≤ c := by omega
    rw [List.getElem?_eq_none e1, List.getElem?_eq_none e2]
theorem app_e {h : aH} {y : aC} : (h.1 ++ [y])[h.1.length]? = some y := by
  rw [List.getElem?_append_right (Nat.le_refl _), Nat.sub_self]
  rfl
theorem wS_app {h : aH} {t n s : Nat} {a : (Nat → Int32) ⊕ (Nat → Int64) ⊕ (Nat → UInt32) ⊕ (Nat → UInt64) ⊕ (Nat → Option Nat)} (S : wS h) : wS (h.1 ++ [.inl (t, n, a)], s) := by
  obtain ⟨s1, s2, s3⟩ := S
  refine ⟨fun q ci fs i v e1 e2 => ?_, fun c i q e => ?_, fun c t' n' e => ?_⟩
  · by_cases z : q = h.1.length
    · subst z
      rw [show (h.1 ++ [Sum.inl (t, n, a)], s).1[h.1.length]? = some (Sum.inl (t, n, a)) from app_e] at e1
      cases e1
    · rw [show (h.1 ++ [Sum.inl (t, n, a)], s).1[q]? = h.1[q]? from app_r z] at e1
      exact s1 q ci fs i v e1 e2
  · obtain ⟨ci, fs, e1, e2⟩ := s2 c i q e
    exact ⟨ci, fs, app_l e1, e2⟩
  · have := s3 c t' n' e
    unfold tyA at this ⊢
    split at this
    · rename_i e1
      rw [show (h.1 ++ [Sum.inl (t, n, a)], s).1[c]? = _ from app_l e1]
      exact this
    · cases this
section PT2
variable {n : Nat} {X : aX} {M : aM} {Q : Option Value → aH → Prop} {pc len a b : Nat} {l : aL} {st r : List Value} {h : aH} {A B : Int}
theorem pt_newa {t : ArrayType} {x : Int32} (hf : aF pc M.2.2.2.2.2.2.2 = some (pc, (.newarray t), len, 0, b)) (S : wS h) (ha : x.toInt = A) (k : ∀ (q : Nat) (h' : aH), wS h' → 0 ≤ A → nwI h q 0 A.toNat h' → Pt n X M (pc + 2) l (.ref q :: r) h' Q) : Pt (n + 1) X M pc l (.int x :: r) h Q := pt_s fun m hm d v h2 e => by
  rw [arun_p hf rfl] at e
  simp only [aX1, tI] at e
  split at e
  · cases e
  · rename_i hx
    have x0 : 0 ≤ x.toInt := by
      rcases Int.lt_or_le x.toInt 0 with z | z
      · exact absurd (Or.inl (Int32.lt_iff_toInt_lt.mpr (by rw [show (0 : Int32).toInt = 0 from rfl]; exact z))) hx
      · exact z
    rw [← Int32.toNat_toInt] at e
    subst ha
    exact k _ _ (wS_app S) x0 ⟨rfl, List.getElem?_eq_none (Nat.le_refl _), fun c hc => app_r hc, _, app_e, fun j => rfl⟩ m hm d v h2 e
end PT2
end
section
section PT3
variable {n : Nat} {X : aX} {M : aM} {Q : Option Value → aH → Prop} {pc pc' len a b : Nat} {l : aL} {st r : List Value} {h : aH} {A B : Int}
theorem pt_alenD {o t N : Nat} {y : (Nat → Int32) ⊕ (Nat → Int64) ⊕ (Nat → UInt32) ⊕ (Nat → UInt64) ⊕ (Nat → Option Nat)} (hf : aF pc M.2.2.2.2.2.2.2 = some (pc, .arraylength, len, a, b)) (hc : h.1[o]? = some (.inl (t, N, y))) (hb : N < 2147483648) (k : ∀ x : Int32, x.toInt = (N : Int) → Pt n X M (pc + 1) l (.int x :: r) h Q) : Pt (n + 1) X M pc l (.ref o :: r) h Q := pt_s fun m hm d v h2 e => by
  have en : (Int32.ofNat N).toInt = (N : Int) := Int32.toInt_ofNat_of_lt (by omega)
  rw [arun_p hf rfl] at e
  simp only [aX1] at e
  split at e
  · rename_i N0 y0 hc0
    have q := hc.symm.trans hc0
    cases q
    exact k _ en m hm d v h2 e
  · rename_i N0 y0 hc0
    have q := hc.symm.trans hc0
    cases q
    exact k _ en m hm d v h2 e
  · cases e
end PT3
end
section
theorem b01 : bAnd 0 1 = 0 := by decide +kernel
theorem b11 : bAnd 1 1 = 1 := by decide +kernel
end
section
-- ===== what a field looks like =====
-- the first of the least, and the least of the others
def bst (f : Nat → Int) : Nat → Nat
  | 0 => 0
  | k + 1 => if f k < f (bst f k) then k else bst f k
def nx (f : Nat → Int) : Nat → Int
  | 0 => 2147483647
  | k + 1 => if f k < f (bst f k) then f (bst f k) else if k = 0 then 2147483647 else min (nx f k) (f k)
end
section
theorem JA_vw {r r' n : Nat} {h : aH} (J : JA r r' n h) : ∀ j, 0 ≤ j → j < (n : Int) → vw h r j = vw h r' j := by
  obtain ⟨g, g', c, c', e⟩ := J
  intro j h0 h1
  rw [vw_a c h0, vw_a c' h0]
  show (g j.toNat).toInt = (g' j.toNat).toInt
  rw [e _ (by omega)]
end
section
-- ===== the reading of texts =====
-- what a text's reading comes to: the place reached and the fault (-1: none)
def nmB (t : Int) : Bool := t == 121 || t == 107 || t == 115 || t == 102 || t == 103 || t == 99 || t == 116 || t == 108 || t == 101 || t == 112 || t == 109 || t == 106 || t == 98
def isD (t : Int) : Bool := decide (48 ≤ t ∧ t ≤ 57)
def dgEnd (T : Int → Int) : Nat → Int → Int
  | 0, p => p
  | k + 1, p => bif isD (T p) then dgEnd T k (p + 1) else p
def opB (t : Nat) (c : Int) : Bool := match t with
  | 2 => c == 42 || c == 47 || c == 37
  | 4 => c == 43 || c == 45
  | 7 => c == 38
  | 9 => c == 124
  | 12 => c == 60 || c == 61 || c == 62
  | 13 => c == 63
  | 14 => c == 59
  | _ => false
def thn (r : Option (Int × Int)) (g : Int → Option (Int × Int)) : Option (Int × Int) := match r with
  | none => none
  | some (q, f) => bif decide (0 ≤ f) then some (q, f) else g q
def prs (T : Int → Int) : Nat → Nat → Int → Int → Option (Int × Int)
  | 0, _, _, _ => none
  | k + 1, tag, o, p => match tag with
    | 0 => bif nmB (T p) then some (p + 1, -1)
      else bif T p == 33 || T p == 45 then (bif o == 8 then some (p, p) else prs T k 0 (o + 1) (p + 1))
      else bif T p == 40 then (bif o == 8 then some (p, p) else thn (prs T k 8 (o + 1) (p + 1)) (fun q => bif T q == 41 then some (q + 1, -1) else some (q, q)))
      else bif dgEnd T 6 p == p || isD (T (dgEnd T 6 p)) then some (dgEnd T 6 p, dgEnd T 6 p) else some (dgEnd T 6 p, -1)
    | 1 => thn (prs T k 0 o p) (fun q => prs T k 2 o q)
    | 2 => bif opB 2 (T p) then thn (prs T k 0 o (p + 1)) (fun q => prs T k 2 o q) else some (p, -1)
    | 3 => thn (prs T k 1 o p) (fun q => prs T k 4 o q)
    | 4 => bif opB 4 (T p) then thn (prs T k 1 o (p + 1)) (fun q => prs T k 4 o q) else some (p, -1)
    | 5 => thn (prs T k 3 o p) (fun q => prs T k 12 o q)
    | 6 => thn (prs T k 5 o p) (fun q => prs T k 7 o q)
    | 7 => bif opB 7 (T p) then thn (prs T k 5 o (p + 1)) (fun q => prs T k 7 o q) else some (p, -1)
    | 8 => thn (prs T k 6 o p) (fun q => prs T k 9 o q)
    | 9 => bif opB 9 (T p) then thn (prs T k 6 o (p + 1)) (fun q => prs T k 9 o q) else some (p, -1)
    | 10 => thn (prs T k 8 o p) (fun q => prs T k 13 o q)
    | 11 => thn (prs T k 10 o p) (fun q => prs T k 14 o q)
    | 12 => bif opB 12 (T p) then prs T k 3 o (p + 1) else some (p, -1)
    | 13 => bif opB 13 (T p) then prs T k 8 o (p + 1) else some (p, -1)
    | 14 => bif opB 14 (T p) then prs T k 11 o (p + 1) else some (p, -1)
    | _ => none
theorem thn_m {r r' : Option (Int × Int)} {g g' : Int → Option (Int × Int)} (h1 : ∀ x, r = some x → r' = some x) (h2 : ∀ q x, g q = some x → g' q = some x) : ∀ x, thn r g = some x → thn r' g' = some x := by
  intro x e
  cases hr : r with
  | none => rw [hr] at e; cases e
  | some y =>
    obtain ⟨q, f⟩ := y
    rw [hr] at e
    rw [h1 _ hr]
    unfold thn at e ⊢
    dsimp only at e ⊢
    cases z : decide (0 ≤ f) with
    | true => rw [z] at e; exact e
    | false => rw [z] at e; exact h2 q x e
theorem bif_m {b : Bool} {r r' s s' : Option (Int × Int)} (h1 : ∀ x, r = some x → r' = some x) (h2 : ∀ x, s = some x → s' = some x) : ∀ x, (bif b then r else s) = some x → (bif b then r' else s') = some x := by
  intro x e
  cases b with
  | true => exact h1 x e
  | false => exact h2 x e
theorem prs_s (T : Int → Int) : ∀ (k tag : Nat) (o p : Int) (x : Int × Int), prs T k tag o p = some x → prs T (k + 1) tag o p = some x
  | 0, _, _, _, _, e => by cases e
  | k + 1, tag, o, p, x, e => by
    have ih := prs_s T k
    have same : ∀ (r : Option (Int × Int)) x, r = some x → r = some x := fun _ _ e => e
    match tag with
    | 0 => exact bif_m (same _) (bif_m (bif_m (same _) (ih 0 _ _)) (bif_m (bif_m (same _) (thn_m (ih 8 _ _) (fun _ => same _))) (same _))) x e
    | 1 => exact thn_m (ih 0 _ _) (fun q => ih 2 o q) x e
    | 2 => exact bif_m (thn_m (ih 0 _ _) (fun q => ih 2 o q)) (same _) x e
    | 3 => exact thn_m (ih 1 _ _) (fun q => ih 4 o q) x e
    | 4 => exact bif_m (thn_m (ih 1 _ _) (fun q => ih 4 o q)) (same _) x e
    | 5 => exact thn_m (ih 3 _ _) (fun q => ih 12 o q) x e
    | 6 => exact thn_m (ih 5 _ _) (fun q => ih 7 o q) x e
    | 7 => exact bif_m (thn_m (ih 5 _ _) (fun q => ih 7 o q)) (same _) x e
    | 8 => exact thn_m (ih 6 _ _) (fun q => ih 9 o q) x e
    | 9 => exact bif_m (thn_m (ih 6 _ _) (fun q => ih 9 o q)) (same _) x e
    | 10 => exact thn_m (ih 8 _ _) (fun q => ih 13 o q) x e
    | 11 => exact thn_m (ih 10 _ _) (fun q => ih 14 o q) x e
    | 12 => exact bif_m (ih 3 _ _) (same _) x e
    | 13 => exact bif_m (ih 8 _ _) (same _) x e
    | 14 => exact bif_m (ih 11 _ _) (same _) x e
    | _ + 15 => cases e
theorem prs_le {T : Int → Int} {k k' tag : Nat} {o p : Int} {x : Int × Int} (h : k ≤ k') (e : prs T k tag o p = some x) : prs T k' tag o p = some x := by
  obtain ⟨d, rfl⟩ := Nat.le.dest h
  induction d with
  | zero => exact e
  | succ d ih => exact prs_s T (k + d) tag o p x (ih (by omega))
def Pr (T : Int → Int) (t : Nat) (o p q f : Int) : Prop := ∃ k, prs T k t o p = some (q, f)
theorem pr_u {T : Int → Int} {t : Nat} {o p q f q' f' : Int} (a : Pr T t o p q f) (b : Pr T t o p q' f') : q = q' ∧ f = f' := by
  obtain ⟨k, a⟩ := a
  obtain ⟨k', b⟩ := b
  have a := prs_le (Nat.le_max_left k k') a
  have b := prs_le (Nat.le_max_right k k') b
  rw [a] at b
  cases b
  exact ⟨rfl, rfl⟩
theorem thn_f {r : Option (Int × Int)} {g : Int → Option (Int × Int)} {q f : Int} (e : r = some (q, f)) (h : 0 ≤ f) : thn r g = some (q, f) := by
  rw [e]
  unfold thn
  dsimp only
  rw [decide_eq_true h]
  rfl
theorem thn_n {r : Option (Int × Int)} {g : Int → Option (Int × Int)} {q f : Int} {x : Int × Int} (e : r = some (q, f)) (h : f < 0) (e2 : g q = some x) : thn r g = some x := by
  rw [e]
  unfold thn
  dsimp only
  rw [decide_eq_false (by omega)]
  exact e2
-- t: first t1, then t2
def seqT (t t1 t2 : Nat) : Prop := ∀ (T : Int → Int) (k : Nat) (o p : Int), prs T (k + 1) t o p = thn (prs T k t1 o p) (fun q => prs T k t2 o q)
-- t: a loop or a choice: where one of its signs stands, t1 behind it (and then t2)
def lopT (t t1 t2 : Nat) : Prop := ∀ (T : Int → Int) (k : Nat) (o p : Int), prs T (k + 1) t o p = bif opB t (T p) then thn (prs T k t1 o (p + 1)) (fun q => prs T k t2 o q) else some (p, -1)
def chT (t t1 : Nat) : Prop := ∀ (T : Int → Int) (k : Nat) (o p : Int), prs T (k + 1) t o p = bif opB t (T p) then prs T k t1 o (p + 1) else some (p, -1)
theorem gsq1 : seqT 1 0 2 := fun _ _ _ _ => rfl
theorem gsq3 : seqT 3 1 4 := fun _ _ _ _ => rfl
theorem gsq5 : seqT 5 3 12 := fun _ _ _ _ => rfl
theorem gsq6 : seqT 6 5 7 := fun _ _ _ _ => rfl
theorem gsq8 : seqT 8 6 9 := fun _ _ _ _ => rfl
theorem gsq10 : seqT 10 8 13 := fun _ _ _ _ => rfl
theorem gsq11 : seqT 11 10 14 := fun _ _ _ _ => rfl
theorem glp2 : lopT 2 0 2 := fun _ _ _ _ => rfl
theorem glp4 : lopT 4 1 4 := fun _ _ _ _ => rfl
theorem glp7 : lopT 7 5 7 := fun _ _ _ _ => rfl
theorem glp9 : lopT 9 6 9 := fun _ _ _ _ => rfl
theorem gch12 : chT 12 3 := fun _ _ _ _ => rfl
theorem gch13 : chT 13 8 := fun _ _ _ _ => rfl
theorem gch14 : chT 14 11 := fun _ _ _ _ => rfl
theorem sq_f {t t1 t2 : Nat} (S : seqT t t1 t2) {T : Int → Int} {o p q f : Int} (a : Pr T t1 o p q f) (h : 0 ≤ f) : Pr T t o p q f := by
  obtain ⟨k, a⟩ := a
  exact ⟨k + 1, (S T k o p).trans (thn_f a h)⟩
theorem sq_n {t t1 t2 : Nat} (S : seqT t t1 t2) {T : Int → Int} {o p q q2 f2 : Int} (a : Pr T t1 o p q (-1)) (b : Pr T t2 o q q2 f2) : Pr T t o p q2 f2 := by
  obtain ⟨k, a⟩ := a
  obtain ⟨k', b⟩ := b
  exact ⟨max k k' + 1, (S T _ o p).trans (thn_n (prs_le (Nat.le_max_left k k') a) (by decide) (prs_le (Nat.le_max_right k k') b))⟩
theorem lp_e {t t1 t2 : Nat} (S : lopT t t1 t2) {T : Int → Int} {o p : Int} (h : opB t (T p) = false) : Pr T t o p p (-1) := ⟨1, by rw [S T 0 o p, h]; rfl⟩
theorem lp_f {t t1 t2 : Nat} (S : lopT t t1 t2) {T : Int → Int} {o p q f : Int} (h : opB t (T p) = true) (a : Pr T t1 o (p + 1) q f) (hf : 0 ≤ f) : Pr T t o p q f := by
  obtain ⟨k, a⟩ := a
  exact ⟨k + 1, by rw [S T k o p, h]; exact thn_f a hf⟩
theorem lp_n {t t1 t2 : Nat} (S : lopT t t1 t2) {T : Int → Int} {o p q q2 f2 : Int} (h : opB t (T p) = true) (a : Pr T t1 o (p + 1) q (-1)) (b : Pr T t2 o q q2 f2) : Pr T t o p q2 f2 := by
  obtain ⟨k, a⟩ := a
  obtain ⟨k', b⟩ := b
  exact ⟨max k k' + 1, by rw [S T _ o p, h]; exact thn_n (prs_le (Nat.le_max_left k k') a) (by decide) (prs_le (Nat.le_max_right k k') b)⟩
theorem ch_e {t t1 : Nat} (S : chT t t1) {T : Int → Int} {o p : Int} (h : opB t (T p) = false) : Pr T t o p p (-1) := ⟨1, by rw [S T 0 o p, h]; rfl⟩
theorem ch_y {t t1 : Nat} (S : chT t t1) {T : Int → Int} {o p q f : Int} (h : opB t (T p) = true) (a : Pr T t1 o (p + 1) q f) : Pr T t o p q f := by
  obtain ⟨k, a⟩ := a
  exact ⟨k + 1, by rw [S T k o p, h]; exact a⟩
-- the operand
theorem op_nm {T : Int → Int} {o p : Int} (h : nmB (T p) = true) : Pr T 0 o p (p + 1) (-1) := ⟨1, by show (bif nmB (T p) then _ else _) = _; rw [h]; rfl⟩
theorem op_un {T : Int → Int} {o p q f : Int} (h : T p = 33 ∨ T p = 45) (ho : o ≠ 8) (a : Pr T 0 (o + 1) (p + 1) q f) : Pr T 0 o p q f := by
  obtain ⟨k, a⟩ := a
  refine ⟨k + 1, ?_⟩
  have h1 : nmB (T p) = false := by rcases h with h | h <;> rw [h] <;> rfl
  have h2 : (T p == 33 || T p == 45) = true := by rcases h with h | h <;> rw [h] <;> rfl
  have h3 : (o == 8) = false := beq_false_of_ne ho
  show (bif nmB (T p) then _ else bif T p == 33 || T p == 45 then (bif o == 8 then _ else prs T k 0 (o + 1) (p + 1)) else _) = _
  rw [h1, h2, h3]
  exact a
theorem op_8 {T : Int → Int} {o p : Int} (h : T p = 33 ∨ T p = 45 ∨ T p = 40) (ho : o = 8) : Pr T 0 o p p p := by
  refine ⟨1, ?_⟩
  subst ho
  show (bif nmB (T p) then _ else bif T p == 33 || T p == 45 then (bif (8 : Int) == 8 then some (p, p) else _) else bif T p == 40 then (bif (8 : Int) == 8 then some (p, p) else _) else _) = _
  rcases h with h | h | h <;> rw [h] <;> rfl
theorem op_br {T : Int → Int} {o p q f q2 f2 : Int} (h : T p = 40) (ho : o ≠ 8) (a : Pr T 8 (o + 1) (p + 1) q f) (b : (0 ≤ f ∧ q2 = q ∧ f2 = f) ∨ (f = -1 ∧ T q = 41 ∧ q2 = q + 1 ∧ f2 = -1) ∨ (f = -1 ∧ T q ≠ 41 ∧ q2 = q ∧ f2 = q)) : Pr T 0 o p q2 f2 := by
  obtain ⟨k, a⟩ := a
  refine ⟨k + 1, ?_⟩
  have h3 : (o == 8) = false := beq_false_of_ne ho
  show (bif nmB (T p) then _ else bif T p == 33 || T p == 45 then _ else bif T p == 40 then (bif o == 8 then _ else thn (prs T k 8 (o + 1) (p + 1)) (fun q => bif T q == 41 then some (q + 1, -1) else some (q, q))) else _) = _
  rw [h, h3]
  show thn (prs T k 8 (o + 1) (p + 1)) (fun q => bif T q == 41 then some (q + 1, -1) else some (q, q)) = _
  rcases b with ⟨b1, e1, e2⟩ | ⟨rfl, b2, e1, e2⟩ | ⟨rfl, b2, e1, e2⟩ <;> rw [e1, e2]
  · exact thn_f a b1
  · refine thn_n a (by decide) ?_
    show (bif T q == 41 then _ else _) = _
    rw [b2]; rfl
  · refine thn_n a (by decide) ?_
    show (bif T q == 41 then _ else _) = _
    rw [beq_false_of_ne b2]; rfl
theorem op_no {T : Int → Int} {o p : Int} (h1 : nmB (T p) = false) (h2 : T p ≠ 33) (h3 : T p ≠ 45) (h4 : T p ≠ 40) : Pr T 0 o p (dgEnd T 6 p) (if dgEnd T 6 p = p ∨ isD (T (dgEnd T 6 p)) = true then dgEnd T 6 p else -1) := by
  refine ⟨1, ?_⟩
  show (bif nmB (T p) then _ else bif T p == 33 || T p == 45 then _ else bif T p == 40 then _ else bif dgEnd T 6 p == p || isD (T (dgEnd T 6 p)) then some (dgEnd T 6 p, dgEnd T 6 p) else some (dgEnd T 6 p, -1)) = _
  rw [h1, beq_false_of_ne h2, beq_false_of_ne h3, beq_false_of_ne h4]
  show (bif dgEnd T 6 p == p || isD (T (dgEnd T 6 p)) then some (dgEnd T 6 p, dgEnd T 6 p) else some (dgEnd T 6 p, -1)) = _
  by_cases z : dgEnd T 6 p = p ∨ isD (T (dgEnd T 6 p)) = true
  · have : (dgEnd T 6 p == p || isD (T (dgEnd T 6 p))) = true := by rw [Bool.or_eq_true, beq_iff_eq]; exact z
    rw [this, if_pos z]; rfl
  · have : (dgEnd T 6 p == p || isD (T (dgEnd T 6 p))) = false := by
      rw [Bool.eq_false_iff]
      intro w
      rw [Bool.or_eq_true, beq_iff_eq] at w
      exact z w
    rw [this, if_neg z]; rfl
theorem dEnd_b (T : Int → Int) : ∀ (k : Nat) (p : Int), p ≤ dgEnd T k p ∧ (isD (T p) = true → 1 ≤ k → p < dgEnd T k p)
  | 0, p => ⟨Int.le_refl _, fun _ h => by omega⟩
  | k + 1, p => by
    have ih := dEnd_b T k (p + 1)
    have e : dgEnd T (k + 1) p = bif isD (T p) then dgEnd T k (p + 1) else p := rfl
    rw [e]
    cases z : isD (T p) with
    | true => exact ⟨by show p ≤ dgEnd T k (p + 1); omega, fun _ _ => by show p < dgEnd T k (p + 1); omega⟩
    | false => exact ⟨Int.le_refl _, fun w => by cases w⟩
theorem thn_x {r : Option (Int × Int)} {g : Int → Option (Int × Int)} {q f : Int} (e : thn r g = some (q, f)) : (r = some (q, f) ∧ 0 ≤ f) ∨ ∃ q1 f1, r = some (q1, f1) ∧ f1 < 0 ∧ g q1 = some (q, f) := by
  cases hr : r with
  | none => rw [hr] at e; cases e
  | some y =>
    obtain ⟨q1, f1⟩ := y
    rw [hr] at e
    unfold thn at e
    dsimp only at e
    cases z : decide (0 ≤ f1) with
    | true =>
      rw [z] at e
      cases e
      exact Or.inl ⟨rfl, of_decide_eq_true z⟩
    | false =>
      rw [z] at e
      exact Or.inr ⟨q1, f1, rfl, by have := of_decide_eq_false z; omega, e⟩
-- a reading without a fault goes on (but a loop may stay), and one with a fault has it where it stands; the fault is -1 or a place
theorem prs_b (T : Int → Int) : ∀ (k t : Nat) (o p q f : Int), 0 ≤ p → prs T k t o p = some (q, f) → (f = -1 ∨ 0 ≤ f) ∧ p ≤ q ∧ (f < 0 → (t = 2 ∨ t = 4 ∨ t = 7 ∨ t = 9 ∨ t = 12 ∨ t = 13 ∨ t = 14) ∨ p < q)
  | 0, _, _, _, _, _, _, e => by cases e
  | k + 1, t, o, p, q, f, hp, e => by
    have ih := prs_b T k
    have sq : ∀ t1 t2, (t1 = 0 ∨ t1 = 1 ∨ t1 = 3 ∨ t1 = 5 ∨ t1 = 6 ∨ t1 = 8 ∨ t1 = 10) → thn (prs T k t1 o p) (fun q => prs T k t2 o q) = some (q, f) → (f = -1 ∨ 0 ≤ f) ∧ p ≤ q ∧ (f < 0 → (t = 2 ∨ t = 4 ∨ t = 7 ∨ t = 9 ∨ t = 12 ∨ t = 13 ∨ t = 14) ∨ p < q) := by
      intro t1 t2 h1 e
      rcases thn_x e with ⟨a, b⟩ | ⟨q1, f1, a, b, c⟩
      · obtain ⟨i1, i2, i3⟩ := ih _ _ _ _ _ hp a
        exact ⟨i1, i2, fun w => by omega⟩
      · obtain ⟨i1, i2, i3⟩ := ih _ _ _ _ _ hp a
        obtain ⟨j1, j2, j3⟩ := ih _ _ _ _ _ (by omega) c
        exact ⟨j1, by omega, fun w => Or.inr (by have := i3 b; omega)⟩
    have lp : ∀ t1 t2, (t = 2 ∨ t = 4 ∨ t = 7 ∨ t = 9 ∨ t = 12 ∨ t = 13 ∨ t = 14) → (bif opB t (T p) then thn (prs T k t1 o (p + 1)) (fun q => prs T k t2 o q) else some (p, -1)) = some (q, f) → (f = -1 ∨ 0 ≤ f) ∧ p ≤ q ∧ (f < 0 → (t = 2 ∨ t = 4 ∨ t = 7 ∨ t = 9 ∨ t = 12 ∨ t = 13 ∨ t = 14) ∨ p < q) := by
      intro t1 t2 h1 e
      cases z : opB t (T p) with
      | false =>
        rw [z] at e
        cases e
        exact ⟨Or.inl rfl, Int.le_refl _, fun _ => Or.inl h1⟩
      | true =>
        rw [z] at e
        rcases thn_x e with ⟨a, b⟩ | ⟨q1, f1, a, b, c⟩
        · obtain ⟨i1, i2, i3⟩ := ih _ _ _ _ _ (by omega) a
          exact ⟨i1, by omega, fun w => Or.inl h1⟩
        · obtain ⟨i1, i2, i3⟩ := ih _ _ _ _ _ (by omega) a
          obtain ⟨j1, j2, j3⟩ := ih _ _ _ _ _ (by omega) c
          exact ⟨j1, by omega, fun w => Or.inl h1⟩
    have ch : ∀ t1, (t = 2 ∨ t = 4 ∨ t = 7 ∨ t = 9 ∨ t = 12 ∨ t = 13 ∨ t = 14) → (bif opB t (T p) then prs T k t1 o (p + 1) else some (p, -1)) = some (q, f) → (f = -1 ∨ 0 ≤ f) ∧ p ≤ q ∧ (f < 0 → (t = 2 ∨ t = 4 ∨ t = 7 ∨ t = 9 ∨ t = 12 ∨ t = 13 ∨ t = 14) ∨ p < q) := by
      intro t1 h1 e
      cases z : opB t (T p) with
      | false =>
        rw [z] at e
        cases e
        exact ⟨Or.inl rfl, Int.le_refl _, fun _ => Or.inl h1⟩
      | true =>
        rw [z] at e
        obtain ⟨i1, i2, i3⟩ := ih _ _ _ _ _ (by omega) e
        exact ⟨i1, by omega, fun w => Or.inl h1⟩
    match t with
    | 0 =>
      have e : (bif nmB (T p) then some (p + 1, -1) else bif T p == 33 || T p == 45 then (bif o == 8 then some (p, p) else prs T k 0 (o + 1) (p + 1)) else bif T p == 40 then (bif o == 8 then some (p, p) else thn (prs T k 8 (o + 1) (p + 1)) (fun q => bif T q == 41 then some (q + 1, -1) else some (q, q))) else bif dgEnd T 6 p == p || isD (T (dgEnd T 6 p)) then some (dgEnd T 6 p, dgEnd T 6 p) else some (dgEnd T 6 p, -1)) = some (q, f) := e
      cases z1 : nmB (T p) with
      | true => rw [z1] at e; cases e; exact ⟨Or.inl rfl, by omega, fun _ => Or.inr (by omega)⟩
      | false =>
        rw [z1] at e
        cases z2 : (T p == 33 || T p == 45) with
        | true =>
          rw [z2] at e
          cases z3 : (o == 8) with
          | true => rw [z3] at e; cases e; exact ⟨Or.inr hp, Int.le_refl _, fun w => by omega⟩
          | false =>
            rw [z3] at e
            obtain ⟨i1, i2, i3⟩ := ih _ _ _ _ _ (by omega) e
            exact ⟨i1, by omega, fun w => Or.inr (by omega)⟩
        | false =>
          rw [z2] at e
          cases z4 : (T p == 40) with
          | true =>
            rw [z4] at e
            cases z3 : (o == 8) with
            | true => rw [z3] at e; cases e; exact ⟨Or.inr hp, Int.le_refl _, fun w => by omega⟩
            | false =>
              rw [z3] at e
              rcases thn_x e with ⟨a, b⟩ | ⟨q1, f1, a, b, c⟩
              · obtain ⟨i1, i2, i3⟩ := ih _ _ _ _ _ (by omega) a
                exact ⟨i1, by omega, fun w => by omega⟩
              · obtain ⟨i1, i2, i3⟩ := ih _ _ _ _ _ (by omega) a
                cases z5 : (T q1 == 41) with
                | true => simp only [z5, cond_true] at c; cases c; exact ⟨Or.inl rfl, by omega, fun _ => Or.inr (by omega)⟩
                | false => simp only [z5, cond_false] at c; cases c; exact ⟨Or.inr (by omega), by omega, fun w => by omega⟩
          | false =>
            rw [z4] at e
            have d := dEnd_b T 6 p
            cases z6 : (dgEnd T 6 p == p || isD (T (dgEnd T 6 p))) with
            | true => rw [z6] at e; cases e; exact ⟨Or.inr (by omega), d.1, fun w => by omega⟩
            | false =>
              rw [z6] at e
              cases e
              rw [Bool.or_eq_false_iff] at z6
              have := ne_of_beq_false z6.1
              exact ⟨Or.inl rfl, d.1, fun w => Or.inr (by omega)⟩
    | 1 => exact sq 0 2 (by decide) e
    | 2 => exact lp 0 2 (by decide) e
    | 3 => exact sq 1 4 (by decide) e
    | 4 => exact lp 1 4 (by decide) e
    | 5 => exact sq 3 12 (by decide) e
    | 6 => exact sq 5 7 (by decide) e
    | 7 => exact lp 5 7 (by decide) e
    | 8 => exact sq 6 9 (by decide) e
    | 9 => exact lp 6 9 (by decide) e
    | 10 => exact sq 8 13 (by decide) e
    | 11 => exact sq 10 14 (by decide) e
    | 12 => exact ch 3 (by decide) e
    | 13 => exact ch 8 (by decide) e
    | 14 => exact ch 11 (by decide) e
    | _ + 15 => cases e
theorem pr_b {T : Int → Int} {t : Nat} {o p q f : Int} (h : 0 ≤ p) (a : Pr T t o p q f) : (f = -1 ∨ 0 ≤ f) ∧ p ≤ q ∧ (f < 0 → (t = 2 ∨ t = 4 ∨ t = 7 ∨ t = 9 ∨ t = 12 ∨ t = 13 ∨ t = 14) ∨ p < q) := by
  obtain ⟨k, a⟩ := a
  exact prs_b T k t o p q f h a
end
section
-- ===== the class reads a text =====
theorem tl_35 : tkL 35 3 2560 = true := by decide +kernel
theorem tr_33_2 : tkR 33 2 35 = true := by decide +kernel
theorem gx134_0 : aF 0 zM134.2.2.2.2.2.2.2 = some (0, (.bipush 48), 2, 0, 0) := by decide +kernel
theorem gx134_2 : aF 2 zM134.2.2.2.2.2.2.2 = some (2, (.iload_n 0), 1, 0, 0) := by decide +kernel
theorem gx134_3 : aF 3 zM134.2.2.2.2.2.2.2 = some (3, (.if_icmp .gt 13), 3, 16, 0) := by decide +kernel
theorem gx134_16 : aF 16 zM134.2.2.2.2.2.2.2 = some (16, (.iconst 0), 1, 0, 0) := by decide +kernel
theorem gx134_17 : aF 17 zM134.2.2.2.2.2.2.2 = some (17, .ireturn, 1, 0, 0) := by decide +kernel
theorem gx134_6 : aF 6 zM134.2.2.2.2.2.2.2 = some (6, (.iload_n 0), 1, 0, 0) := by decide +kernel
theorem gx134_7 : aF 7 zM134.2.2.2.2.2.2.2 = some (7, (.bipush 57), 2, 0, 0) := by decide +kernel
theorem gx134_9 : aF 9 zM134.2.2.2.2.2.2.2 = some (9, (.if_icmp .gt 7), 3, 16, 0) := by decide +kernel
theorem gx134_12 : aF 12 zM134.2.2.2.2.2.2.2 = some (12, (.iconst 1), 1, 0, 0) := by decide +kernel
theorem gx134_13 : aF 13 zM134.2.2.2.2.2.2.2 = some (13, (.goto 4), 3, 17, 0) := by decide +kernel
theorem gx124_0 : aF 0 zM124.2.2.2.2.2.2.2 = some (0, (.aload_n 0), 1, 0, 0) := by decide +kernel
theorem gx124_1 : aF 1 zM124.2.2.2.2.2.2.2 = some (1, (.getfield 72), 3, 10, 12) := by decide +kernel
theorem gx124_4 : aF 4 zM124.2.2.2.2.2.2.2 = some (4, (.iconst (-1)), 1, 0, 0) := by decide +kernel
theorem gx124_5 : aF 5 zM124.2.2.2.2.2.2.2 = some (5, (.if_icmp .ne 35), 3, 40, 0) := by decide +kernel
theorem gx124_40 : aF 40 zM124.2.2.2.2.2.2.2 = some (40, (.iconst (-1)), 1, 0, 0) := by decide +kernel
theorem gx124_41 : aF 41 zM124.2.2.2.2.2.2.2 = some (41, .ireturn, 1, 0, 0) := by decide +kernel
theorem gx124_8 : aF 8 zM124.2.2.2.2.2.2.2 = some (8, (.aload_n 0), 1, 0, 0) := by decide +kernel
theorem gx124_9 : aF 9 zM124.2.2.2.2.2.2.2 = some (9, (.getfield 75), 3, 10, 11) := by decide +kernel
theorem gx124_12 : aF 12 zM124.2.2.2.2.2.2.2 = some (12, (.aload_n 0), 1, 0, 0) := by decide +kernel
theorem gx124_13 : aF 13 zM124.2.2.2.2.2.2.2 = some (13, (.getfield 78), 3, 10, 10) := by decide +kernel
theorem gx124_16 : aF 16 zM124.2.2.2.2.2.2.2 = some (16, (.if_icmp .ge 24), 3, 40, 0) := by decide +kernel
theorem gx124_19 : aF 19 zM124.2.2.2.2.2.2.2 = some (19, (.aload_n 0), 1, 0, 0) := by decide +kernel
theorem gx124_20 : aF 20 zM124.2.2.2.2.2.2.2 = some (20, (.getfield 15), 3, 10, 2) := by decide +kernel
theorem gx124_23 : aF 23 zM124.2.2.2.2.2.2.2 = some (23, (.aload_n 0), 1, 0, 0) := by decide +kernel
theorem gx124_24 : aF 24 zM124.2.2.2.2.2.2.2 = some (24, (.getfield 81), 3, 10, 9) := by decide +kernel
theorem gx124_27 : aF 27 zM124.2.2.2.2.2.2.2 = some (27, (.aload_n 0), 1, 0, 0) := by decide +kernel
theorem gx124_28 : aF 28 zM124.2.2.2.2.2.2.2 = some (28, (.getfield 75), 3, 10, 11) := by decide +kernel
theorem gx124_31 : aF 31 zM124.2.2.2.2.2.2.2 = some (31, .iadd, 1, 0, 0) := by decide +kernel
theorem gx124_32 : aF 32 zM124.2.2.2.2.2.2.2 = some (32, .baload, 1, 0, 0) := by decide +kernel
theorem gx124_33 : aF 33 zM124.2.2.2.2.2.2.2 = some (33, (.sipush 255), 3, 0, 0) := by decide +kernel
theorem gx124_36 : aF 36 zM124.2.2.2.2.2.2.2 = some (36, .iand, 1, 0, 0) := by decide +kernel
theorem gx124_37 : aF 37 zM124.2.2.2.2.2.2.2 = some (37, (.goto 4), 3, 41, 0) := by decide +kernel
theorem gx126_0 : aF 0 zM126.2.2.2.2.2.2.2 = some (0, (.aload_n 0), 1, 0, 0) := by decide +kernel
theorem gx126_1 : aF 1 zM126.2.2.2.2.2.2.2 = some (1, (.getfield 72), 3, 10, 12) := by decide +kernel
theorem gx126_4 : aF 4 zM126.2.2.2.2.2.2.2 = some (4, (.iconst (-1)), 1, 0, 0) := by decide +kernel
theorem gx126_5 : aF 5 zM126.2.2.2.2.2.2.2 = some (5, (.if_icmp .ne 11), 3, 16, 0) := by decide +kernel
theorem gx126_16 : aF 16 zM126.2.2.2.2.2.2.2 = some (16, .return_, 1, 0, 0) := by decide +kernel
theorem gx126_8 : aF 8 zM126.2.2.2.2.2.2.2 = some (8, (.aload_n 0), 1, 0, 0) := by decide +kernel
theorem gx126_9 : aF 9 zM126.2.2.2.2.2.2.2 = some (9, (.aload_n 0), 1, 0, 0) := by decide +kernel
theorem gx126_10 : aF 10 zM126.2.2.2.2.2.2.2 = some (10, (.getfield 75), 3, 10, 11) := by decide +kernel
theorem gx126_13 : aF 13 zM126.2.2.2.2.2.2.2 = some (13, (.putfield 72), 3, 10, 12) := by decide +kernel
theorem gx125_0 : aF 0 zM125.2.2.2.2.2.2.2 = some (0, (.aload_n 0), 1, 0, 0) := by decide +kernel
theorem gx125_1 : aF 1 zM125.2.2.2.2.2.2.2 = some (1, (.invokevirtual 84), 3, 124, 0) := by decide +kernel
theorem gx125_4 : aF 4 zM125.2.2.2.2.2.2.2 = some (4, (.iload_n 1), 1, 0, 0) := by decide +kernel
theorem gx125_5 : aF 5 zM125.2.2.2.2.2.2.2 = some (5, (.if_icmp .ne 7), 3, 12, 0) := by decide +kernel
theorem gx125_12 : aF 12 zM125.2.2.2.2.2.2.2 = some (12, (.iconst 0), 1, 0, 0) := by decide +kernel
theorem gx125_13 : aF 13 zM125.2.2.2.2.2.2.2 = some (13, (.istore_n 2), 1, 0, 0) := by decide +kernel
theorem gx125_14 : aF 14 zM125.2.2.2.2.2.2.2 = some (14, (.aload_n 0), 1, 0, 0) := by decide +kernel
theorem gx125_15 : aF 15 zM125.2.2.2.2.2.2.2 = some (15, .dup, 1, 0, 0) := by decide +kernel
theorem gx125_16 : aF 16 zM125.2.2.2.2.2.2.2 = some (16, (.getfield 75), 3, 10, 11) := by decide +kernel
theorem gx125_19 : aF 19 zM125.2.2.2.2.2.2.2 = some (19, (.iload_n 2), 1, 0, 0) := by decide +kernel
theorem gx125_20 : aF 20 zM125.2.2.2.2.2.2.2 = some (20, (.ifCond .eq 7), 3, 27, 0) := by decide +kernel
theorem gx125_27 : aF 27 zM125.2.2.2.2.2.2.2 = some (27, (.iconst 0), 1, 0, 0) := by decide +kernel
theorem gx125_28 : aF 28 zM125.2.2.2.2.2.2.2 = some (28, .iadd, 1, 0, 0) := by decide +kernel
theorem gx125_29 : aF 29 zM125.2.2.2.2.2.2.2 = some (29, (.putfield 75), 3, 10, 11) := by decide +kernel
theorem gx125_32 : aF 32 zM125.2.2.2.2.2.2.2 = some (32, (.iload_n 2), 1, 0, 0) := by decide +kernel
theorem gx125_33 : aF 33 zM125.2.2.2.2.2.2.2 = some (33, .ireturn, 1, 0, 0) := by decide +kernel
theorem gx125_8 : aF 8 zM125.2.2.2.2.2.2.2 = some (8, (.iconst 1), 1, 0, 0) := by decide +kernel
theorem gx125_9 : aF 9 zM125.2.2.2.2.2.2.2 = some (9, (.goto 4), 3, 13, 0) := by decide +kernel
theorem gx125_23 : aF 23 zM125.2.2.2.2.2.2.2 = some (23, (.iconst 1), 1, 0, 0) := by decide +kernel
theorem gx125_24 : aF 24 zM125.2.2.2.2.2.2.2 = some (24, (.goto 4), 3, 28, 0) := by decide +kernel
theorem gx127_0 : aF 0 zM127.2.2.2.2.2.2.2 = some (0, (.iload_n 0), 1, 0, 0) := by decide +kernel
theorem gx127_1 : aF 1 zM127.2.2.2.2.2.2.2 = some (1, (.ifCond .eq 7), 3, 8, 0) := by decide +kernel
theorem gx127_8 : aF 8 zM127.2.2.2.2.2.2.2 = some (8, (.iconst 0), 1, 0, 0) := by decide +kernel
theorem gx127_9 : aF 9 zM127.2.2.2.2.2.2.2 = some (9, .ireturn, 1, 0, 0) := by decide +kernel
theorem gx127_4 : aF 4 zM127.2.2.2.2.2.2.2 = some (4, (.iconst 1), 1, 0, 0) := by decide +kernel
theorem gx127_5 : aF 5 zM127.2.2.2.2.2.2.2 = some (5, (.goto 4), 3, 9, 0) := by decide +kernel
theorem gx135_0 : aF 0 zM135.2.2.2.2.2.2.2 = some (0, (.iconst 0), 1, 0, 0) := by decide +kernel
theorem gx135_1 : aF 1 zM135.2.2.2.2.2.2.2 = some (1, (.istore_n 1), 1, 0, 0) := by decide +kernel
theorem gx135_2 : aF 2 zM135.2.2.2.2.2.2.2 = some (2, (.iconst 0), 1, 0, 0) := by decide +kernel
theorem gx135_3 : aF 3 zM135.2.2.2.2.2.2.2 = some (3, (.istore_n 2), 1, 0, 0) := by decide +kernel
theorem gx135_4 : aF 4 zM135.2.2.2.2.2.2.2 = some (4, (.iload_n 2), 1, 0, 0) := by decide +kernel
theorem gx135_5 : aF 5 zM135.2.2.2.2.2.2.2 = some (5, (.bipush 6), 2, 0, 0) := by decide +kernel
theorem gx135_7 : aF 7 zM135.2.2.2.2.2.2.2 = some (7, (.if_icmp .ge 42), 3, 49, 0) := by decide +kernel
theorem gx135_49 : aF 49 zM135.2.2.2.2.2.2.2 = some (49, (.iload_n 1), 1, 0, 0) := by decide +kernel
theorem gx135_50 : aF 50 zM135.2.2.2.2.2.2.2 = some (50, .ireturn, 1, 0, 0) := by decide +kernel
theorem gx135_10 : aF 10 zM135.2.2.2.2.2.2.2 = some (10, (.aload_n 0), 1, 0, 0) := by decide +kernel
theorem gx135_11 : aF 11 zM135.2.2.2.2.2.2.2 = some (11, (.invokevirtual 84), 3, 124, 0) := by decide +kernel
theorem gx135_14 : aF 14 zM135.2.2.2.2.2.2.2 = some (14, (.invokestatic 107), 3, 134, 0) := by decide +kernel
theorem gx135_17 : aF 17 zM135.2.2.2.2.2.2.2 = some (17, (.ifCond .eq 32), 3, 49, 0) := by decide +kernel
theorem gx135_20 : aF 20 zM135.2.2.2.2.2.2.2 = some (20, (.iload_n 1), 1, 0, 0) := by decide +kernel
theorem gx135_21 : aF 21 zM135.2.2.2.2.2.2.2 = some (21, (.bipush 10), 2, 0, 0) := by decide +kernel
theorem gx135_23 : aF 23 zM135.2.2.2.2.2.2.2 = some (23, .imul, 1, 0, 0) := by decide +kernel
theorem gx135_24 : aF 24 zM135.2.2.2.2.2.2.2 = some (24, (.aload_n 0), 1, 0, 0) := by decide +kernel
theorem gx135_25 : aF 25 zM135.2.2.2.2.2.2.2 = some (25, (.invokevirtual 84), 3, 124, 0) := by decide +kernel
theorem gx135_28 : aF 28 zM135.2.2.2.2.2.2.2 = some (28, .iadd, 1, 0, 0) := by decide +kernel
theorem gx135_29 : aF 29 zM135.2.2.2.2.2.2.2 = some (29, (.bipush 48), 2, 0, 0) := by decide +kernel
theorem gx135_31 : aF 31 zM135.2.2.2.2.2.2.2 = some (31, .isub, 1, 0, 0) := by decide +kernel
theorem gx135_32 : aF 32 zM135.2.2.2.2.2.2.2 = some (32, (.istore_n 1), 1, 0, 0) := by decide +kernel
theorem gx135_33 : aF 33 zM135.2.2.2.2.2.2.2 = some (33, (.aload_n 0), 1, 0, 0) := by decide +kernel
theorem gx135_34 : aF 34 zM135.2.2.2.2.2.2.2 = some (34, .dup, 1, 0, 0) := by decide +kernel
theorem gx135_35 : aF 35 zM135.2.2.2.2.2.2.2 = some (35, (.getfield 75), 3, 10, 11) := by decide +kernel
theorem gx135_38 : aF 38 zM135.2.2.2.2.2.2.2 = some (38, (.iconst 1), 1, 0, 0) := by decide +kernel
theorem gx135_39 : aF 39 zM135.2.2.2.2.2.2.2 = some (39, .iadd, 1, 0, 0) := by decide +kernel
theorem gx135_40 : aF 40 zM135.2.2.2.2.2.2.2 = some (40, (.putfield 75), 3, 10, 11) := by decide +kernel
theorem gx135_43 : aF 43 zM135.2.2.2.2.2.2.2 = some (43, (.iinc 2 1), 3, 0, 0) := by decide +kernel
theorem gx135_46 : aF 46 zM135.2.2.2.2.2.2.2 = some (46, (.goto (-42)), 3, 4, 0) := by decide +kernel
section PT4
variable {n : Nat} {X : aX} {M : aM} {Q : Option Value → aH → Prop} {pc len a b : Nat} {l : aL} {r : List Value} {h : aH}
theorem pt_ialdN {j : Int32} (hf : aF pc M.2.2.2.2.2.2.2 = some (pc, .iaload, len, a, b)) : Pt (n + 1) X M pc l (.int j :: .null :: r) h Q := pt_s fun m hm d v h2 e => by
  rw [arun_p hf rfl] at e
  exact absurd e (by simp [aX1])
end PT4
def cTx (V : vS) (p : Int) : Int := if 0 ≤ p ∧ p < V 33 10 then V 35 (V 33 9 + p) else -1
def tIn (V : vS) : Prop := (0 ≤ V 33 11 ∧ V 33 11 ≤ V 33 10) ∧ V 33 10 ≤ 160 ∧ (0 ≤ V 33 9 ∧ V 33 9 ≤ 2400) ∧ ∀ j, 0 ≤ j → j < 2560 → -128 ≤ V 35 j ∧ V 35 j ≤ 127
def cSg (V : vS) : Int := if V 33 12 = -1 ∧ V 33 11 < V 33 10 then bAnd (V 35 (w32 (V 33 9 + V 33 11))) 255 else -1
theorem ba255' : ∀ t : Fin 256, bAnd ((t.val : Int) - 128) 255 = if 0 ≤ ((t.val : Int) - 128) then ((t.val : Int) - 128) else ((t.val : Int) - 128) + 256 := by decide +kernel
theorem ba255 {t : Int} (h0 : -128 ≤ t) (h1 : t ≤ 127) : bAnd t 255 = if 0 ≤ t then t else t + 256 := by
  have := ba255' ⟨(t + 128).toNat, by omega⟩
  have e : (((t + 128).toNat : Nat) : Int) - 128 = t := by omega
  simp only [e] at this
  exact this
theorem cSg_n {V : vS} (h : V 33 12 ≠ -1) : cSg V = -1 := if_neg (fun z => h z.1)
theorem cSg_t {V : vS} (I : tIn V) (h : V 33 12 = -1) : (V 33 11 < V 33 10 ∧ (-128 ≤ cTx V (V 33 11) ∧ cTx V (V 33 11) ≤ 127) ∧ cSg V = if 0 ≤ cTx V (V 33 11) then cTx V (V 33 11) else cTx V (V 33 11) + 256) ∨ (V 33 11 = V 33 10 ∧ cTx V (V 33 11) = -1 ∧ cSg V = -1) := by
  obtain ⟨i1, i2, i3, i4⟩ := I
  by_cases z : V 33 11 < V 33 10
  · have b := i4 (V 33 9 + V 33 11) (by omega) (by omega)
    have e1 : cSg V = bAnd (V 35 (V 33 9 + V 33 11)) 255 := by
      unfold cSg
      rw [if_pos ⟨h, z⟩, w32_id (by omega) (by omega)]
    have e2 : cTx V (V 33 11) = V 35 (V 33 9 + V 33 11) := by
      unfold cTx
      exact if_pos ⟨i1.1, z⟩
    rw [e1, e2]
    exact Or.inl ⟨z, b, ba255 b.1 b.2⟩
  · have e1 : cSg V = -1 := by
      unfold cSg
      exact if_neg (fun w => z w.2)
    have e2 : cTx V (V 33 11) = -1 := by
      unfold cTx
      exact if_neg (fun w => z w.2)
    exact Or.inr ⟨by omega, e2, e1⟩
theorem cSg_e {V : vS} (I : tIn V) (h : V 33 12 = -1) {c : Int} (c0 : 0 ≤ c) (c1 : c ≤ 127) : cSg V = c ↔ cTx V (V 33 11) = c := by
  rcases cSg_t I h with ⟨_, b, e⟩ | ⟨_, b, e⟩
  · rw [e]; split <;> omega
  · rw [e, b]
theorem cSg_d {V : vS} (I : tIn V) (h : V 33 12 = -1) : (48 ≤ cSg V ∧ cSg V ≤ 57) ↔ isD (cTx V (V 33 11)) = true := by
  unfold isD
  rw [decide_eq_true_eq]
  rcases cSg_t I h with ⟨_, b, e⟩ | ⟨_, b, e⟩
  · rw [e]; split <;> omega
  · rw [e, b]
theorem nm255 : ∀ t : Fin 256, (iIx (bChr (t.val : Int)) = -1 ↔ nmB (t.val : Int) = false) ∧ (128 ≤ t.val → nmB ((t.val : Int) - 256) = false ∧ nmB (t.val : Int) = false) := by decide +kernel
theorem cSg_m {V : vS} (I : tIn V) (h : V 33 12 = -1) : (cSg V = -1 → nmB (cTx V (V 33 11)) = false) ∧ (cSg V ≠ -1 → (iIx (bChr (cSg V)) = -1 ↔ nmB (cTx V (V 33 11)) = false)) := by
  rcases cSg_t I h with ⟨_, b, e⟩ | ⟨_, b, e⟩
  · refine ⟨fun w => by rw [e] at w; split at w <;> omega, fun _ => ?_⟩
    rw [e]
    by_cases z : 0 ≤ cTx V (V 33 11)
    · rw [if_pos z]
      have := (nm255 ⟨(cTx V (V 33 11)).toNat, by omega⟩).1
      rw [show (((cTx V (V 33 11)).toNat : Nat) : Int) = cTx V (V 33 11) by omega] at this
      exact this
    · rw [if_neg z]
      have := nm255 ⟨(cTx V (V 33 11) + 256).toNat, by omega⟩
      simp only [show (((cTx V (V 33 11) + 256).toNat : Nat) : Int) = cTx V (V 33 11) + 256 by omega, show cTx V (V 33 11) + 256 - 256 = cTx V (V 33 11) by omega] at this
      have t2 := this.2 (by omega)
      exact ⟨fun _ => t2.1, fun _ => this.1.mpr t2.2⟩
  · refine ⟨fun _ => by rw [b]; rfl, fun w => absurd e w⟩
theorem up_id (V : vS) (c : Nat) (j : Int) : up V c j (V c j) = V := by
  funext c' j'
  unfold up
  split
  · rename_i z; rw [z.1, z.2]
  · rfl
theorem up_up (V : vS) (c : Nat) (j a b : Int) : up (up V c j a) c j b = up V c j b := by
  funext c' j'
  unfold up
  split <;> rfl
theorem up_sw (V : vS) (c : Nat) {j j' : Int} (h : j ≠ j') (a b : Int) : up (up V c j a) c j' b = up (up V c j' b) c j a := by
  funext c' x
  unfold up
  by_cases z : c' = c
  · subst z
    by_cases z1 : x = j
    · subst z1
      rw [if_neg (fun w => h w.2), if_pos ⟨rfl, rfl⟩, if_pos ⟨rfl, rfl⟩]
    · by_cases z2 : x = j'
      · subst z2
        rw [if_pos ⟨rfl, rfl⟩, if_neg (fun w => z1 w.2), if_pos ⟨rfl, rfl⟩]
      · rw [if_neg (fun w => z2 w.2), if_neg (fun w => z1 w.2), if_neg (fun w => z1 w.2), if_neg (fun w => z2 w.2)]
  · rw [if_neg (fun w => z w.1), if_neg (fun w => z w.1), if_neg (fun w => z w.1), if_neg (fun w => z w.1)]

theorem d134_0 {n : Nat} {X : aX} {h : aH} {P : Int → aH → Prop} {x0 : Int32} {a0 : Int} (S : wS h) (z0 : x0.toInt = a0) (H : ((a0 < 48 → P 0 h) ∧ (48 ≤ a0 → ((57 < a0 → P 0 h) ∧ (a0 ≤ 57 → P 1 h))))) : Pt (n + 1) X zM134 0 [some (.int x0)] [] h (qI P) := by
  refine pt_bipush gx134_0 (fun v1 h1 => ?_)
  refine pt_d (pt_1 (fun n d => r_iloadn gx134_2 rfl) ?_)
  refine pt_d (pt_icmp_gt gx134_3 h1 z0 (fun e2 => ?_) (fun e2 => ?_))
  · have H := H.1 e2
    refine pt_d (pt_iconst gx134_16 (fun v3 h3 => ?_))
    exact pt_d (pt_iret gx134_17 ⟨_, rfl, by rw [h3]; exact H⟩)
  · have H := H.2 e2
    refine pt_d (pt_1 (fun n d => r_iloadn gx134_6 rfl) ?_)
    refine pt_d (pt_bipush gx134_7 (fun v4 h4 => ?_))
    refine pt_d (pt_icmp_gt gx134_9 z0 h4 (fun e5 => ?_) (fun e5 => ?_))
    · have H := H.1 e5
      refine pt_d (pt_iconst gx134_16 (fun v6 h6 => ?_))
      exact pt_d (pt_iret gx134_17 ⟨_, rfl, by rw [h6]; exact H⟩)
    · have H := H.2 e5
      refine pt_d (pt_iconst gx134_12 (fun v7 h7 => ?_))
      refine pt_d (pt_1 (fun n d => r_goto gx134_13) ?_)
      exact pt_d (pt_iret gx134_17 ⟨_, rfl, by rw [h7]; exact H⟩)
theorem c_134 {n : Nat} {X : aX} {h : aH} {x0 : Int32} {a0 : Int} (S : wS h) (z0 : x0.toInt = a0) : Pt n X zM134 0 [some (.int x0)] [] h (qI (fun y h' => h' = h ∧ y = bI (48 ≤ a0 ∧ a0 ≤ 57))) := by
  refine pt_d (d134_0 S z0 ?_)
  repeat' (first | (refine And.intro ?_ ?_) | intro _)
  all_goals first
    | rfl
    | exact (bI_t (by omega)).symm
    | exact (bI_f (by omega)).symm
    | exact bI_c (by omega)
    | omega
theorem d124_0 {n : Nat} {X : aX} {h : aH} {P : Int → aH → Prop} (S : wS h) (H : ((vw h 33 12 ≠ (-1) → P (-1) h) ∧ (vw h 33 12 = (-1) → ((vw h 33 10 ≤ vw h 33 11 → P (-1) h) ∧ (vw h 33 11 < vw h 33 10 → (0 ≤ w32 ((vw h 33 9) + (vw h 33 11)) → w32 ((vw h 33 9) + (vw h 33 11)) < 2560 → P (bAnd (vw h 35 (w32 ((vw h 33 9) + (vw h 33 11)))) 255) h)))))) : Pt (n + 1) X zM124 0 [some (.ref 33)] [] h (qI P) := by
  refine pt_1 (fun n d => r_aloadn gx124_0 rfl) ?_
  refine pt_d (pt_getI (B := 12) gx124_1 S (fun v1 h1 => ?_))
  refine pt_d (pt_iconst gx124_4 (fun v2 h2 => ?_))
  refine pt_d (pt_icmp_ne gx124_5 h1 h2 (fun e3 => ?_) (fun e3 => ?_))
  · have H := H.1 e3
    refine pt_d (pt_iconst gx124_40 (fun v4 h4 => ?_))
    exact pt_d (pt_iret gx124_41 ⟨_, rfl, by rw [h4]; exact H⟩)
  · have H := H.2 e3
    refine pt_d (pt_1 (fun n d => r_aloadn gx124_8 rfl) ?_)
    refine pt_d (pt_getI (B := 11) gx124_9 S (fun v5 h5 => ?_))
    refine pt_d (pt_1 (fun n d => r_aloadn gx124_12 rfl) ?_)
    refine pt_d (pt_getI (B := 10) gx124_13 S (fun v6 h6 => ?_))
    refine pt_d (pt_icmp_ge gx124_16 h5 h6 (fun e7 => ?_) (fun e7 => ?_))
    · have H := H.1 e7
      refine pt_d (pt_iconst gx124_40 (fun v8 h8 => ?_))
      exact pt_d (pt_iret gx124_41 ⟨_, rfl, by rw [h8]; exact H⟩)
    · have H := H.2 e7
      refine pt_d (pt_1 (fun n d => r_aloadn gx124_19 rfl) ?_)
      refine pt_d (pt_getR gx124_20 S tr_33_2 ?_)
      refine pt_d (pt_1 (fun n d => r_aloadn gx124_23 rfl) ?_)
      refine pt_d (pt_getI (B := 9) gx124_24 S (fun v10 h10 => ?_))
      refine pt_d (pt_1 (fun n d => r_aloadn gx124_27 rfl) ?_)
      refine pt_d (pt_getI (B := 11) gx124_28 S (fun v11 h11 => ?_))
      refine pt_d (pt_iadd gx124_31 h10 h11 (fun v12 h12 => ?_))
      refine pt_d (pt_bald (N' := 2560) gx124_32 S tl_35 h12 (fun v13 p13 q13 h13 => ?_))
      have H := H p13 q13
      refine pt_d (pt_sipush gx124_33 (fun v14 h14 => ?_))
      refine pt_d (pt_iand gx124_36 h13 h14 (fun v15 h15 => ?_))
      refine pt_d (pt_1 (fun n d => r_goto gx124_37) ?_)
      exact pt_d (pt_iret gx124_41 ⟨_, rfl, by rw [h15]; exact H⟩)
theorem c_124 {n : Nat} {X : aX} {h : aH} (S : wS h) : Pt n X zM124 0 [some (.ref 33)] [] h (qI (fun y h' => h' = h ∧ y = cSg (vw h))) := by
  refine pt_d (d124_0 S ⟨fun e => ⟨rfl, (cSg_n e).symm⟩, fun e => ⟨fun e2 => ⟨rfl, ?_⟩, fun e2 p q => ⟨rfl, ?_⟩⟩⟩)
  · exact (if_neg (fun z => by omega)).symm
  · exact (if_pos ⟨e, e2⟩).symm

theorem d126_0 {n : Nat} {X : aX} {h : aH} {P : aH → Prop} (S : wS h) (H : ((vw h 33 12 ≠ (-1) → P h) ∧ (vw h 33 12 = (-1) → ∀ h_5 : aH, wS h_5 → vw h_5 = up (vw h) 33 12 (vw h 33 11) → P h_5))) : Pt (n + 1) X zM126 0 [some (.ref 33)] [] h (qN P) := by
  refine pt_1 (fun n d => r_aloadn gx126_0 rfl) ?_
  refine pt_d (pt_getI (B := 12) gx126_1 S (fun v1 h1 => ?_))
  refine pt_d (pt_iconst gx126_4 (fun v2 h2 => ?_))
  refine pt_d (pt_icmp_ne gx126_5 h1 h2 (fun e3 => ?_) (fun e3 => ?_))
  · have H := H.1 e3
    exact pt_d (pt_vret gx126_16 ⟨rfl, H⟩)
  · have H := H.2 e3
    refine pt_d (pt_1 (fun n d => r_aloadn gx126_8 rfl) ?_)
    refine pt_d (pt_1 (fun n d => r_aloadn gx126_9 rfl) ?_)
    refine pt_d (pt_getI (B := 11) gx126_10 S (fun v4 h4 => ?_))
    refine pt_d (pt_putI (B := 12) gx126_13 S h4 (fun h_5 S5 e5 => ?_))
    have H := H h_5 S5 (by rw [e5])
    exact pt_d (pt_vret gx126_16 ⟨rfl, H⟩)
def R126 (V V' : vS) : Prop := (V 33 12 ≠ -1 ∧ V' = V) ∨ (V 33 12 = -1 ∧ V' = up V 33 12 (V 33 11))
theorem c_126 {n : Nat} {X : aX} {h : aH} (S : wS h) : Pt n X zM126 0 [some (.ref 33)] [] h (qN (fun h' => wS h' ∧ R126 (vw h) (vw h'))) := pt_d (d126_0 S ⟨fun e => ⟨S, Or.inl ⟨e, rfl⟩⟩, fun e g S2 eg => ⟨S2, Or.inr ⟨e, eg⟩⟩⟩)

theorem d125_0 {n : Nat} {X : aX} {h : aH} {P : Int → aH → Prop} {x1 : Int32} {a1 : Int} (S : wS h) (z1 : x1.toInt = a1) (H : ((cSg (vw h) ≠ a1 → ∀ h_8 : aH, wS h_8 → vw h_8 = up (vw h) 33 11 (w32 ((vw h 33 11) + 0)) → P 0 h_8) ∧ (cSg (vw h) = a1 → ∀ h_14 : aH, wS h_14 → vw h_14 = up (vw h) 33 11 (w32 ((vw h 33 11) + 1)) → P 1 h_14))) : Pt (n + 1) X zM125 0 [some (.ref 33), some (.int x1), none] [] h (qI P) := by
  refine pt_1 (fun n d => r_aloadn gx125_0 rfl) ?_
  refine pt_d (pt_virt (as := []) (r := []) gx125_1 rfl (show zmt[124]? = some zM124 from rfl) rfl rfl rfl rfl (c_124 S) (kqP (fun v1 h1 => ?_)))
  show Pt _ _ _ 4 _ [.int v1] _ _
  refine pt_d (pt_1 (fun n d => r_iloadn gx125_4 rfl) ?_)
  refine pt_d (pt_icmp_ne gx125_5 h1 z1 (fun e2 => ?_) (fun e2 => ?_))
  · have H := H.1 e2
    refine pt_d (pt_iconst gx125_12 (fun v3 h3 => ?_))
    refine pt_d (pt_1 (fun n d => r_istoren (L' := [some (.ref 33), some (.int x1), some (.int v3)]) gx125_13 rfl rfl) ?_)
    refine pt_d (pt_1 (fun n d => r_aloadn gx125_14 rfl) ?_)
    refine pt_d (pt_1 (fun n d => r_dup gx125_15 rfl) ?_)
    refine pt_d (pt_getI (B := 11) gx125_16 S (fun v4 h4 => ?_))
    refine pt_d (pt_1 (fun n d => r_iloadn gx125_19 rfl) ?_)
    refine pt_d (pt_if_eq gx125_20 h3 (fun e5 => ?_) (fun e5 => absurd e5 (by decide)))
    refine pt_d (pt_iconst gx125_27 (fun v6 h6 => ?_))
    refine pt_d (pt_iadd gx125_28 h4 h6 (fun v7 h7 => ?_))
    refine pt_d (pt_putI (B := 11) gx125_29 S h7 (fun h_8 S8 e8 => ?_))
    refine pt_d (pt_1 (fun n d => r_iloadn gx125_32 rfl) ?_)
    have H := H h_8 S8 (by rw [e8])
    exact pt_d (pt_iret gx125_33 ⟨_, rfl, by rw [h3]; exact H⟩)
  · have H := H.2 e2
    refine pt_d (pt_iconst gx125_8 (fun v9 h9 => ?_))
    refine pt_d (pt_1 (fun n d => r_goto gx125_9) ?_)
    refine pt_d (pt_1 (fun n d => r_istoren (L' := [some (.ref 33), some (.int x1), some (.int v9)]) gx125_13 rfl rfl) ?_)
    refine pt_d (pt_1 (fun n d => r_aloadn gx125_14 rfl) ?_)
    refine pt_d (pt_1 (fun n d => r_dup gx125_15 rfl) ?_)
    refine pt_d (pt_getI (B := 11) gx125_16 S (fun v10 h10 => ?_))
    refine pt_d (pt_1 (fun n d => r_iloadn gx125_19 rfl) ?_)
    refine pt_d (pt_if_eq gx125_20 h9 (fun e11 => absurd e11 (by decide)) (fun e11 => ?_))
    refine pt_d (pt_iconst gx125_23 (fun v12 h12 => ?_))
    refine pt_d (pt_1 (fun n d => r_goto gx125_24) ?_)
    refine pt_d (pt_iadd gx125_28 h10 h12 (fun v13 h13 => ?_))
    refine pt_d (pt_putI (B := 11) gx125_29 S h13 (fun h_14 S14 e14 => ?_))
    refine pt_d (pt_1 (fun n d => r_iloadn gx125_32 rfl) ?_)
    have H := H h_14 S14 (by rw [e14])
    exact pt_d (pt_iret gx125_33 ⟨_, rfl, by rw [h9]; exact H⟩)
def R125 (V : vS) (c r : Int) (V' : vS) : Prop := (r = 0 ∧ V' = V ∧ (V 33 12 = -1 → cTx V (V 33 11) ≠ c)) ∨ (r = 1 ∧ (V 33 12 = -1 ∧ cTx V (V 33 11) = c ∧ V 33 11 < V 33 10) ∧ V' = up V 33 11 (V 33 11 + 1))
theorem c_125 {n : Nat} {X : aX} {h : aH} {x1 : Int32} {a1 : Int} (S : wS h) (z1 : x1.toInt = a1) (hp : tIn (vw h) ∧ 0 ≤ a1 ∧ a1 ≤ 127) : Pt n X zM125 0 [some (.ref 33), some (.int x1), none] [] h (qI (fun y h' => wS h' ∧ R125 (vw h) a1 y (vw h'))) := by
  obtain ⟨I, c0, c1⟩ := hp
  have b := I.1
  have b2 := I.2.1
  refine pt_d (d125_0 S z1 ⟨fun e g S2 eg => ⟨S2, Or.inl ⟨rfl, ?_, fun w z => e ((cSg_e I w c0 c1).mpr z)⟩⟩, fun e g S2 eg => ⟨S2, Or.inr ⟨rfl, ?_, ?_⟩⟩⟩)
  · rw [eg, w32_id (by omega) (by omega), Int.add_zero]
    exact up_id _ _ _
  · have e12 : vw h 33 12 = -1 := by
      rcases Int.lt_trichotomy (vw h 33 12) (-1) with w | w | w
      · rw [cSg_n (by omega)] at e; omega
      · exact w
      · rw [cSg_n (by omega)] at e; omega
    have z := (cSg_e I e12 c0 c1).mp e
    rcases cSg_t I e12 with ⟨k, _, _⟩ | ⟨_, _, k⟩
    · exact ⟨e12, z, k⟩
    · omega
  · rw [eg, w32_id (by omega) (by omega)]

theorem d127_0 {n : Nat} {X : aX} {h : aH} {P : Int → aH → Prop} {x0 : Int32} {a0 : Int} (S : wS h) (z0 : x0.toInt = a0) (H : ((a0 = 0 → P 0 h) ∧ (a0 ≠ 0 → P 1 h))) : Pt (n + 1) X zM127 0 [some (.int x0)] [] h (qI P) := by
  refine pt_1 (fun n d => r_iloadn gx127_0 rfl) ?_
  refine pt_d (pt_if_eq gx127_1 z0 (fun e1 => ?_) (fun e1 => ?_))
  · have H := H.1 e1
    refine pt_d (pt_iconst gx127_8 (fun v2 h2 => ?_))
    exact pt_d (pt_iret gx127_9 ⟨_, rfl, by rw [h2]; exact H⟩)
  · have H := H.2 e1
    refine pt_d (pt_iconst gx127_4 (fun v3 h3 => ?_))
    refine pt_d (pt_1 (fun n d => r_goto gx127_5) ?_)
    exact pt_d (pt_iret gx127_9 ⟨_, rfl, by rw [h3]; exact H⟩)
theorem c_127 {n : Nat} {X : aX} {h : aH} {x0 : Int32} {a0 : Int} (S : wS h) (z0 : x0.toInt = a0) : Pt n X zM127 0 [some (.int x0)] [] h (qI (fun y h' => h' = h ∧ y = (if (a0 : Int) = 0 then 0 else 1))) := by
  refine pt_d (d127_0 S z0 ?_)
  repeat' (first | (refine And.intro ?_ ?_) | intro _)
  all_goals first
    | rfl
    | (rw [if_pos (by omega)])
    | (rw [if_neg (by omega)])
    | omega
theorem d135_0 {n : Nat} {X : aX} {h : aH} {P : Int → aH → Prop} (S : wS h) (H : (∀ (w1 : Int32) (w2 : Int32), w1.toInt = 0 → w2.toInt = 0 → Pt n X zM135 4 [some (.ref 33), some (.int w1), some (.int w2)] [] h (qI P))) : Pt (n + 1) X zM135 0 [some (.ref 33), none, none] [] h (qI P) := by
  refine pt_iconst gx135_0 (fun v1 h1 => ?_)
  refine pt_d (pt_1 (fun n d => r_istoren (L' := [some (.ref 33), some (.int v1), none]) gx135_1 rfl rfl) ?_)
  refine pt_d (pt_iconst gx135_2 (fun v2 h2 => ?_))
  refine pt_d (pt_1 (fun n d => r_istoren (L' := [some (.ref 33), some (.int v1), some (.int v2)]) gx135_3 rfl rfl) ?_)
  exact H v1 v2 h1 h2
theorem d135_4 {n : Nat} {X : aX} {h : aH} {P : Int → aH → Prop} {x1 x2 : Int32} {a1 a2 : Int} (S : wS h) (z1 : x1.toInt = a1) (z2 : x2.toInt = a2) (H : ((6 ≤ a2 → P a1 h) ∧ (a2 < 6 → ((¬ (48 ≤ (cSg (vw h)) ∧ (cSg (vw h)) ≤ 57) → P a1 h) ∧ ((48 ≤ (cSg (vw h)) ∧ (cSg (vw h)) ≤ 57) → ∀ h_15 : aH, wS h_15 → vw h_15 = up (vw h) 33 11 (w32 ((vw h 33 11) + 1)) → (∀ (w1 : Int32) (w2 : Int32), w1.toInt = w32 ((w32 ((w32 (a1 * 10)) + (cSg (vw h)))) - 48) → w2.toInt = w32 (a2 + 1) → Pt n X zM135 4 [some (.ref 33), some (.int w1), some (.int w2)] [] h_15 (qI P))))))) : Pt (n + 1) X zM135 4 [some (.ref 33), some (.int x1), some (.int x2)] [] h (qI P) := by
  refine pt_1 (fun n d => r_iloadn gx135_4 rfl) ?_
  refine pt_d (pt_bipush gx135_5 (fun v1 h1 => ?_))
  refine pt_d (pt_icmp_ge gx135_7 z2 h1 (fun e2 => ?_) (fun e2 => ?_))
  · have H := H.1 e2
    refine pt_d (pt_1 (fun n d => r_iloadn gx135_49 rfl) ?_)
    exact pt_d (pt_iret gx135_50 ⟨_, rfl, by rw [z1]; exact H⟩)
  · have H := H.2 e2
    refine pt_d (pt_1 (fun n d => r_aloadn gx135_10 rfl) ?_)
    refine pt_d (pt_virt (as := []) (r := []) gx135_11 rfl (show zmt[124]? = some zM124 from rfl) rfl rfl rfl rfl (c_124 S) (kqP (fun v3 h3 => ?_)))
    show Pt _ _ _ 14 _ [.int v3] _ _
    refine pt_d (pt_stat (as := [.int v3]) (r := []) gx135_14 rfl (show zmt[134]? = some zM134 from rfl) rfl rfl rfl rfl (c_134 S h3) (kqP (fun v4 h4 => ?_)))
    show Pt _ _ _ 17 _ [.int v4] _ _
    refine pt_d (pt_ifB_eq gx135_17 h4 (fun e5 => ?_) (fun e5 => ?_))
    · have H := H.1 e5
      refine pt_d (pt_1 (fun n d => r_iloadn gx135_49 rfl) ?_)
      exact pt_d (pt_iret gx135_50 ⟨_, rfl, by rw [z1]; exact H⟩)
    · have H := H.2 e5
      refine pt_d (pt_1 (fun n d => r_iloadn gx135_20 rfl) ?_)
      refine pt_d (pt_bipush gx135_21 (fun v6 h6 => ?_))
      refine pt_d (pt_imul gx135_23 z1 h6 (fun v7 h7 => ?_))
      refine pt_d (pt_1 (fun n d => r_aloadn gx135_24 rfl) ?_)
      refine pt_d (pt_virt (as := []) (r := [.int v7]) gx135_25 rfl (show zmt[124]? = some zM124 from rfl) rfl rfl rfl rfl (c_124 S) (kqP (fun v8 h8 => ?_)))
      show Pt _ _ _ 28 _ [.int v8, .int v7] _ _
      refine pt_d (pt_iadd gx135_28 h7 h8 (fun v9 h9 => ?_))
      refine pt_d (pt_bipush gx135_29 (fun v10 h10 => ?_))
      refine pt_d (pt_isub gx135_31 h9 h10 (fun v11 h11 => ?_))
      refine pt_d (pt_1 (fun n d => r_istoren (L' := [some (.ref 33), some (.int v11), some (.int x2)]) gx135_32 rfl rfl) ?_)
      refine pt_d (pt_1 (fun n d => r_aloadn gx135_33 rfl) ?_)
      refine pt_d (pt_1 (fun n d => r_dup gx135_34 rfl) ?_)
      refine pt_d (pt_getI (B := 11) gx135_35 S (fun v12 h12 => ?_))
      refine pt_d (pt_iconst gx135_38 (fun v13 h13 => ?_))
      refine pt_d (pt_iadd gx135_39 h12 h13 (fun v14 h14 => ?_))
      refine pt_d (pt_putI (B := 11) gx135_40 S h14 (fun h_15 S15 e15 => ?_))
      refine pt_d (pt_iinc (c := 1) gx135_43 rfl z2 (fun v16 h16 => ?_))
      show Pt _ _ _ _ [some (.ref 33), some (.int v11), some (.int v16)] [] _ _
      refine pt_d (pt_1 (fun n d => r_goto gx135_46) ?_)
      have H := H h_15 S15 (by rw [e15])
      exact H v11 v16 h11 h16
theorem cT_u (V : vS) (a : Int) : cTx (up V 33 11 a) = cTx V := by
  funext p
  unfold cTx
  rw [up_j (c' := 33) (j' := 10) (by decide), up_j (c' := 33) (j' := 9) (by decide), up_c (c' := 35) (by decide)]
theorem cT_g (V : vS) (g : Int) : cTx (up V 33 12 g) = cTx V := by
  funext p
  unfold cTx
  rw [up_j (c' := 33) (j' := 10) (by decide), up_j (c' := 33) (j' := 9) (by decide), up_c (c' := 35) (by decide)]
theorem tI_u {V : vS} (I : tIn V) {a : Int} (h0 : 0 ≤ a) (h1 : a ≤ V 33 10) : tIn (up V 33 11 a) := by
  obtain ⟨i1, i2, i3, i4⟩ := I
  unfold tIn
  rw [up_s, up_j (by decide), up_j (by decide)]
  exact ⟨⟨h0, h1⟩, i2, i3, fun j j0 j1 => by rw [up_c (by decide)]; exact i4 j j0 j1⟩
theorem tI_g {V : vS} (I : tIn V) (g : Int) : tIn (up V 33 12 g) := by
  obtain ⟨i1, i2, i3, i4⟩ := I
  unfold tIn
  rw [up_j (by decide), up_j (by decide), up_j (by decide)]
  exact ⟨i1, i2, i3, fun j j0 j1 => by rw [up_c (by decide)]; exact i4 j j0 j1⟩
theorem cT_lt {V : vS} (I : tIn V) {p : Int} (h : cTx V p ≠ -1) : p < V 33 10 := by
  unfold cTx at h
  split at h
  · rename_i w; exact w.2
  · exact absurd rfl h
theorem l_135 {X : aX} : ∀ (n : Nat) (h : aH) (x1 x2 : Int32) (j : Nat), wS h → tIn (vw h) → vw h 33 12 = -1 → j ≤ 6 → x2.toInt = 6 - (j : Int) → Pt n X zM135 4 [some (.ref 33), some (.int x1), some (.int x2)] [] h (qI (fun _ h' => wS h' ∧ vw h' = up (vw h) 33 11 (dgEnd (cTx (vw h)) j (vw h 33 11)))) := by
  intro n
  induction n with
  | zero => exact fun _ _ _ _ _ _ _ _ _ => pt_z
  | succ n ih =>
    intro h x1 x2 j S I e12 hj h2
    have bI := I.1
    have bI2 := I.2.1
    refine d135_4 S rfl h2 ⟨fun e1 => ⟨S, ?_⟩, fun e1 => ⟨fun e2 => ⟨S, ?_⟩, fun e2 g S2 eg w1 w2 g1 g2 => ?_⟩⟩
    · obtain rfl : j = 0 := by omega
      exact (up_id _ _ _).symm
    · obtain ⟨i, rfl⟩ : ∃ i, j = i + 1 := ⟨j - 1, by omega⟩
      have z : isD (cTx (vw h) (vw h 33 11)) = false := by
        cases w : isD (cTx (vw h) (vw h 33 11)) with
        | false => rfl
        | true => exact absurd ((cSg_d I e12).mpr w) e2
      have e : dgEnd (cTx (vw h)) (i + 1) (vw h 33 11) = bif isD (cTx (vw h) (vw h 33 11)) then dgEnd (cTx (vw h)) i (vw h 33 11 + 1) else vw h 33 11 := rfl
      rw [e, z]
      exact (up_id _ _ _).symm
    · obtain ⟨i, rfl⟩ : ∃ i, j = i + 1 := ⟨j - 1, by omega⟩
      have z := (cSg_d I e12).mp e2
      have lt : vw h 33 11 < vw h 33 10 := cT_lt I (fun w => by rw [w] at z; cases z)
      have e : dgEnd (cTx (vw h)) (i + 1) (vw h 33 11) = bif isD (cTx (vw h) (vw h 33 11)) then dgEnd (cTx (vw h)) i (vw h 33 11 + 1) else vw h 33 11 := rfl
      rw [w32_id (by omega) (by omega)] at eg
      have I2 : tIn (vw g) := by rw [eg]; exact tI_u I (by omega) (by omega)
      have g12 : vw g 33 12 = -1 := by rw [eg, up_j (by decide)]; exact e12
      replace g2 := w_1 g2 (by omega) (by omega)
      refine pt_q (ih g w1 w2 i S2 I2 g12 (by omega) (by omega)) ?_
      rintro v h' ⟨x, ex, p1, p2⟩
      refine ⟨x, ex, p1, ?_⟩
      rw [p2, e, z, eg, cT_u, up_s, up_up]
      rfl
theorem dEnd_r {V : vS} (I : tIn V) : ∀ (k : Nat) (p : Int), 0 ≤ p → p ≤ V 33 10 → dgEnd (cTx V) k p ≤ V 33 10
  | 0, p, _, h => h
  | k + 1, p, h0, h => by
    have e : dgEnd (cTx V) (k + 1) p = bif isD (cTx V p) then dgEnd (cTx V) k (p + 1) else p := rfl
    rw [e]
    cases z : isD (cTx V p) with
    | true =>
      have lt : p < V 33 10 := cT_lt I (fun w => by rw [w] at z; cases z)
      exact dEnd_r I k (p + 1) (by omega) (by omega)
    | false => exact h
theorem c_135 {n : Nat} {X : aX} {h : aH} (S : wS h) (hp : tIn (vw h) ∧ vw h 33 12 = -1) : Pt n X zM135 0 [some (.ref 33), none, none] [] h (qI (fun _ h' => wS h' ∧ vw h' = up (vw h) 33 11 (dgEnd (cTx (vw h)) 6 (vw h 33 11)))) :=
  pt_d (d135_0 S (fun w1 w2 g1 g2 => l_135 n h w1 w2 6 S hp.1 hp.2 (Nat.le_refl _) g2))
-- what a part of the reading comes to, on the class's side
def cpre (V : vS) (o : Int) : Prop := tIn V ∧ V 33 12 = -1 ∧ 0 ≤ o ∧ o ≤ 8
def cRes (t : Nat) (o : Int) (V V' : vS) : Prop := ∃ q f a g : Int, Pr (cTx V) t o (V 33 11) q f ∧ V' = up (up V 33 11 a) 33 12 g ∧ V 33 11 ≤ a ∧ a ≤ V 33 10 ∧ ((f = -1 ∧ a = q ∧ g = -1) ∨ (0 ≤ f ∧ (g = f ∨ (g = -1 ∧ a = f ∧ isD (cTx V a) = true))))
def cLo (t : Nat) (o : Int) (V V' : vS) : Prop := (V 33 12 = -1 → cRes t o V V') ∧ (V 33 12 ≠ -1 → V' = V)
theorem cR_f {V V' : vS} {a g : Int} (e : V' = up (up V 33 11 a) 33 12 g) : cTx V' = cTx V ∧ V' 33 10 = V 33 10 ∧ V' 33 11 = a ∧ V' 33 12 = g := by
  subst e
  refine ⟨by rw [cT_g, cT_u], ?_, ?_, up_s _ _ _ _⟩
  · rw [up_j (by decide), up_j (by decide)]
  · rw [up_j (by decide), up_s]
theorem cR_c {V V1 V' : vS} {a g a2 g2 : Int} (e : V1 = up (up V 33 11 a) 33 12 g) (e2 : V' = up (up V1 33 11 a2) 33 12 g2) : V' = up (up V 33 11 a2) 33 12 g2 := by
  rw [e2, e, up_sw (up V 33 11 a) 33 (j := 12) (j' := 11) (by decide), up_up, up_up]
theorem cR_i {t : Nat} {o : Int} {V V' : vS} (I : tIn V) (c : cRes t o V V') : tIn V' ∧ V 33 11 ≤ V' 33 11 := by
  obtain ⟨q, f, a, g, -, e, b1, b2, -⟩ := c
  have := I.1
  refine ⟨by rw [e]; exact tI_g (tI_u I (by omega) b2) g, ?_⟩
  rw [(cR_f e).2.2.1]
  exact b1
theorem tk_0 {V V' : vS} {c y : Int} (k : R125 V c y V') (h : y = 0) : V' = V ∧ (V 33 12 = -1 → cTx V (V 33 11) ≠ c) := by
  rcases k with ⟨-, a, b⟩ | ⟨a, -⟩
  · exact ⟨a, b⟩
  · omega
theorem tk_1 {V V' : vS} {c y : Int} (k : R125 V c y V') (h : y ≠ 0) : (V 33 12 = -1 ∧ cTx V (V 33 11) = c ∧ V 33 11 < V 33 10) ∧ V' = up V 33 11 (V 33 11 + 1) := by
  rcases k with ⟨a, -⟩ | ⟨-, a, b⟩
  · omega
  · exact ⟨a, b⟩
theorem tk_i {V V' : vS} {c y : Int} (I : tIn V) (k : R125 V c y V') (h : y ≠ 0) : tIn V' ∧ V' 33 12 = -1 ∧ V' 33 11 = V 33 11 + 1 := by
  obtain ⟨⟨a1, a2, a3⟩, rfl⟩ := tk_1 k h
  have := I.1
  exact ⟨tI_u I (by omega) (by omega), by rw [up_j (by decide)]; exact a1, up_s _ _ _ _⟩
-- a digit is no sign
theorem opD {t : Nat} {x : Int} (h : isD x = true) : opB t x = false := by
  unfold isD at h
  have h := of_decide_eq_true h
  have b : ∀ c : Int, (c < 48 ∨ 57 < c) → (x == c) = false := fun c hc => beq_false_of_ne (by omega)
  unfold opB
  split <;> first | rfl | simp only [b 42 (by decide), b 47 (by decide), b 37 (by decide), b 43 (by decide), b 45 (by decide), b 38 (by decide), b 124 (by decide), b 60 (by decide), b 61 (by decide), b 62 (by decide), b 63 (by decide), b 59 (by decide), Bool.or_false]
theorem c_seq {t t1 t2 : Nat} (S : seqT t t1 t2) (lp : ∀ (T : Int → Int) (o p : Int), opB t2 (T p) = false → Pr T t2 o p p (-1)) {V V1 V' : vS} {o : Int} (c1 : cRes t1 o V V1) (c2 : cLo t2 o V1 V') : cRes t o V V' := by
  obtain ⟨q, f, a, g, p1, e1, b1, b2, d⟩ := c1
  obtain ⟨f1, f2, f3, f4⟩ := cR_f e1
  rcases d with ⟨rfl, rfl, rfl⟩ | ⟨d1, rfl | ⟨rfl, rfl, d2⟩⟩
  · obtain ⟨q2, g2, a2, k2, p2, e2, b3, b4, d2⟩ := c2.1 f4
    rw [f1, f3] at p2
    rw [f1] at d2
    exact ⟨q2, g2, a2, k2, sq_n S p1 p2, cR_c e1 e2, by omega, by omega, d2⟩
  · have := c2.2 (by omega)
    subst this
    exact ⟨q, g, a, g, sq_f S p1 d1, e1, b1, b2, Or.inr ⟨d1, Or.inl rfl⟩⟩
  · obtain ⟨q2, g2, a2, k2, p2, e2, b3, b4, d3⟩ := c2.1 f4
    rw [f1, f3] at p2
    obtain ⟨rfl, rfl⟩ := pr_u p2 (lp _ _ _ (opD d2))
    rcases d3 with ⟨-, rfl, rfl⟩ | ⟨d3, -⟩
    · exact ⟨q, a2, a2, -1, sq_f S p1 d1, cR_c e1 e2, b1, b2, Or.inr ⟨d1, Or.inr ⟨rfl, rfl, d2⟩⟩⟩
    · exact absurd d3 (by decide)
theorem c_out {t : Nat} (lp : ∀ (T : Int → Int) (o p : Int), opB t (T p) = false → Pr T t o p p (-1)) {V : vS} {o : Int} (I : tIn V) (h : V 33 12 = -1 → opB t (cTx V (V 33 11)) = false) : cLo t o V V := by
  refine ⟨fun e => ⟨_, _, V 33 11, -1, lp _ _ _ (h e), ?_, Int.le_refl _, I.1.2, Or.inl ⟨rfl, rfl, rfl⟩⟩, fun _ => rfl⟩
  rw [up_id, ← e, up_id]
theorem c_step {t t1 : Nat} (S : lopT t t1 t) {V V4 V1 V' : vS} {o c y : Int} (I : tIn V) (k : R125 V c y V4) (hy : y ≠ 0) (hc : opB t c = true) (c1 : cRes t1 o V4 V1) (c2 : cLo t o V1 V') : cLo t o V V' := by
  obtain ⟨⟨a1, a2, a3⟩, e4⟩ := tk_1 k hy
  refine ⟨fun _ => ?_, fun z => absurd a1 z⟩
  have hc : opB t (cTx V (V 33 11)) = true := by rw [a2]; exact hc
  obtain ⟨q, f, a, g, p1, e1, b1, b2, d⟩ := c1
  obtain ⟨f1, f2, f3, f4⟩ := cR_f e1
  have t4 : cTx V4 = cTx V := by rw [e4, cT_u]
  have v11 : V4 33 11 = V 33 11 + 1 := by rw [e4, up_s]
  have v10 : V4 33 10 = V 33 10 := by rw [e4, up_j (by decide)]
  have E : ∀ a g, up (up V4 33 11 a) 33 12 g = up (up V 33 11 a) 33 12 g := fun a g => by rw [e4, up_up]
  rw [t4, v11] at p1
  rw [t4] at d f1
  rw [E] at e1
  rcases d with ⟨rfl, rfl, rfl⟩ | ⟨d1, rfl | ⟨rfl, rfl, d2⟩⟩
  · obtain ⟨q2, g2, a2, k2, p2, e2, b3, b4, d2⟩ := c2.1 f4
    rw [f1, f3] at p2
    rw [f1] at d2
    exact ⟨q2, g2, a2, k2, lp_n S hc p1 p2, cR_c e1 e2, by omega, by omega, d2⟩
  · have := c2.2 (by omega)
    subst this
    exact ⟨q, g, a, g, lp_f S hc p1 d1, e1, by omega, by omega, Or.inr ⟨d1, Or.inl rfl⟩⟩
  · obtain ⟨q2, g2, a2, k2, p2, e2, b3, b4, d3⟩ := c2.1 f4
    rw [f1, f3] at p2
    obtain ⟨rfl, rfl⟩ := pr_u p2 (lp_e S (opD d2))
    rcases d3 with ⟨-, rfl, rfl⟩ | ⟨d3, -⟩
    · exact ⟨q, a2, a2, -1, lp_f S hc p1 d1, cR_c e1 e2, by omega, by omega, Or.inr ⟨d1, Or.inr ⟨rfl, rfl, d2⟩⟩⟩
    · exact absurd d3 (by decide)
theorem c_cho {t t1 : Nat} (S : chT t t1) {V V4 V' : vS} {o c y : Int} (k : R125 V c y V4) (hy : y ≠ 0) (hc : opB t c = true) (c1 : cRes t1 o V4 V') : cLo t o V V' := by
  obtain ⟨⟨a1, a2, a3⟩, e4⟩ := tk_1 k hy
  refine ⟨fun _ => ?_, fun z => absurd a1 z⟩
  have hc : opB t (cTx V (V 33 11)) = true := by rw [a2]; exact hc
  obtain ⟨q, f, a, g, p1, e1, b1, b2, d⟩ := c1
  have t4 : cTx V4 = cTx V := by rw [e4, cT_u]
  have v11 : V4 33 11 = V 33 11 + 1 := by rw [e4, up_s]
  have v10 : V4 33 10 = V 33 10 := by rw [e4, up_j (by decide)]
  rw [t4, v11] at p1
  rw [t4] at d
  rw [e4, up_up] at e1
  exact ⟨q, f, a, g, ch_y S hc p1, e1, by omega, by omega, d⟩
theorem at_end {V : vS} (I : tIn V) {i : Int} (h : 160 ≤ i) (h2 : i ≤ V 33 11) : cTx V (V 33 11) = -1 := by
  have := I.1
  have := I.2.1
  unfold cTx
  rw [if_neg (by omega)]
end

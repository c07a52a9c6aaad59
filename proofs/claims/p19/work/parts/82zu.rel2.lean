-- ===== 82zu.rel2: 14 texts =====
section
-- ===== the two sides' handovers and claims, as numbers =====
theorem vw_rng {σ : List Nat} {h : aH} (I : dI σ h) {c a n : Nat} {lo hi : Int} (k : tkA c a n lo hi = true) {j : Int} (h0 : 0 ≤ j) (h1 : j < (n : Nat)) : lo ≤ vw h c j ∧ vw h c j ≤ hi := by
  obtain ⟨g, e, r⟩ := hI_a I k
  rw [vw_a e h0]
  exact r _ (by omega)
theorem vw_rf {σ : List Nat} {h : aH} (I : dI σ h) {c ci f : Nat} {lo hi : Int} (k0 : tkO c ci = true) (k : tkI c f lo hi = true) : lo ≤ vw h c (f : Nat) ∧ vw h c (f : Nat) ≤ hi := by
  obtain ⟨fs, e⟩ := hI_o I k0
  obtain ⟨x, e2, r1, r2⟩ := hI_i I e k
  rw [vw_o e e2]
  exact ⟨r1, r2⟩
theorem held_j {V : vS} (J : JBody V) (b : Int) : cHeld V b ↔ mHeld V b := by
  unfold cHeld mHeld mField cBody mBody
  rw [J.1, J.2.1]
  unfold uF
  omega
theorem body_lt {V : vS} (J : JBody V) {b : Int} (h : cBody V b) : 0 ≤ b ∧ b < V 1 1 ∧ b < 150 := by
  have := J.2.2.2.2.2.2.1
  have := J.2.2.2.2.2.1
  unfold cBody at h
  rw [w32_id (by omega) (by omega)] at h
  omega
theorem jx_10 {V V1 V2 : vS} {b r1 r2 : Int} (J : JBody V) (hd : V 1 0 = V 72 1) (h0 : 0 ≤ V 1 0) (c : R154 V b r1 V1) (m : R224 V1 b r2 V2) : JBody V2 ∧ r1 = r2 := by
  have J0 := J
  obtain ⟨j1, j2, j3, j4, j5, j6, j7, j9, j8⟩ := J0
  rcases c with ⟨a, rfl, rfl⟩ | ⟨a, a1, rfl, rfl⟩ | ⟨a, a1, rfl, rfl⟩
  · rcases m with ⟨b0, rfl, rfl⟩ | ⟨b0, -⟩ | ⟨b0, -⟩
    · exact ⟨J, rfl⟩
    · exact absurd ((field_j J b).mpr b0) a
    · exact absurd ((field_j J b).mpr b0) a
  · rcases m with ⟨b0, rfl, rfl⟩ | ⟨b0, b1, rfl, rfl⟩ | ⟨b0, b1, rfl, rfl⟩
    · exact absurd ((field_j J b).mp a) b0
    · exact ⟨J, rfl⟩
    · have := (j9 b).1
      have := j4 b
      omega
  · have f : ∀ (c : Nat) (j : Int), c ≠ 1 → c ≠ 5 → up (up V 5 b (V 1 0)) 1 5 (w32 (V 1 5 + 1)) c j = V c j := fun c j h1 h2 => by rw [up_c h1, up_c h2]
    have mf : mField (up (up V 5 b (V 1 0)) 1 5 (w32 (V 1 5 + 1))) b ↔ mField V b := by
      unfold mField mBody
      rw [f 72 2 (by decide) (by decide), f 73 b (by decide) (by decide)]
    have e77 := f 77 b (by decide) (by decide)
    rcases m with ⟨b0, rfl, rfl⟩ | ⟨b0, b1, rfl, rfl⟩ | ⟨b0, b1, rfl, rfl⟩
    · exact absurd (mf.mpr ((field_j J b).mp a)) b0
    · have := j4 b
      omega
    · have g : ∀ (c : Nat) (j : Int), c ≠ 1 → c ≠ 5 → c ≠ 77 → c ≠ 72 → up (up (up (up V 5 b (V 1 0)) 1 5 (w32 (V 1 5 + 1))) 77 b (up (up V 5 b (V 1 0)) 1 5 (w32 (V 1 5 + 1)) 72 1)) 72 38 1 c j = V c j := fun c j h1 h2 h3 h4 => by rw [up_c h4, up_c h3, f c j h1 h2]
      have g1 : up (up (up (up V 5 b (V 1 0)) 1 5 (w32 (V 1 5 + 1))) 77 b (up (up V 5 b (V 1 0)) 1 5 (w32 (V 1 5 + 1)) 72 1)) 72 38 1 1 1 = V 1 1 := by rw [up_c (by decide), up_c (by decide), up_j (by decide), up_c (by decide)]
      have g72 : up (up (up (up V 5 b (V 1 0)) 1 5 (w32 (V 1 5 + 1))) 77 b (up (up V 5 b (V 1 0)) 1 5 (w32 (V 1 5 + 1)) 72 1)) 72 38 1 72 2 = V 72 2 := by rw [up_j (by decide), up_c (by decide), f 72 2 (by decide) (by decide)]
      have g5 : ∀ j, up (up (up (up V 5 b (V 1 0)) 1 5 (w32 (V 1 5 + 1))) 77 b (up (up V 5 b (V 1 0)) 1 5 (w32 (V 1 5 + 1)) 72 1)) 72 38 1 5 j = if j = b then V 1 0 else V 5 j := fun j => by rw [up_c (by decide), up_c (by decide), up_c (by decide), up_p]
      have g77 : ∀ j, up (up (up (up V 5 b (V 1 0)) 1 5 (w32 (V 1 5 + 1))) 77 b (up (up V 5 b (V 1 0)) 1 5 (w32 (V 1 5 + 1)) 72 1)) 72 38 1 77 j = if j = b then V 72 1 else V 77 j := fun j => by rw [up_c (by decide), up_p, f 77 j (by decide) (by decide), f 72 1 (by decide) (by decide)]
      refine ⟨⟨by rw [g1, g72, j1], fun j => ?_, fun j => ?_, fun j => by rw [g5, g77, hd, j4], fun j => ?_, by rw [g1]; exact j6, by rw [g1]; exact j7, fun j => ⟨?_, ?_⟩, fun j q0 q1 => ?_⟩, rfl⟩
      · rw [g 2 j (by decide) (by decide) (by decide) (by decide), g 73 j (by decide) (by decide) (by decide) (by decide), j2]
      · rw [g 4 j (by decide) (by decide) (by decide) (by decide), g 76 j (by decide) (by decide) (by decide) (by decide), j3]
      · rw [g 7 j (by decide) (by decide) (by decide) (by decide), g 75 j (by decide) (by decide) (by decide) (by decide), j5]
      · rw [g5]
        have := (j9 j).1
        split <;> omega
      · rw [g 7 j (by decide) (by decide) (by decide) (by decide)]
        exact (j9 j).2
      · unfold JMeas
        rw [g 2 j (by decide) (by decide) (by decide) (by decide), g 3 j (by decide) (by decide) (by decide) (by decide), g 74 j (by decide) (by decide) (by decide) (by decide), g 78 j (by decide) (by decide) (by decide) (by decide), g 79 j (by decide) (by decide) (by decide) (by decide)]
        rw [g1] at q1
        exact j8 j q0 q1
theorem jx_11 {V V1 V2 : vS} {b f d r1 r2 : Int} (J : JBody V) (K : JHand V) (hd : V 1 0 = V 72 1) (c : R155 V b f d r1 V1) (m : R225 V1 b f d r2 V2) : JHand V2 ∧ r1 = r2 := by
  have ok : ok155 V b f d ↔ ok225 V b f d := by
    unfold ok155 ok225
    rw [held_j J, farm_j J]
  have K0 := K
  obtain ⟨k1, k2, k3, k4, k5, k6, k7, k8, k9⟩ := K0
  rcases c with ⟨a, rfl, rfl⟩ | ⟨a, a1, rfl, rfl⟩ | ⟨a, a1, ⟨a2, -, -⟩ | ⟨a2, a3, rfl, rfl⟩⟩
  · rcases m with ⟨b0, rfl, rfl⟩ | ⟨b0, -⟩ | ⟨b0, -⟩
    · exact ⟨K, rfl⟩
    · exact absurd (ok.mpr b0) a
    · exact absurd (ok.mpr b0) a
  · rcases m with ⟨b0, rfl, rfl⟩ | ⟨b0, b1, rfl, rfl⟩ | ⟨b0, b1, b2, -, -⟩
    · exact absurd (ok.mp a) b0
    · exact ⟨K, rfl⟩
    · omega
  · omega
  · generalize hW : up (up (up (up (up V 9 (V 1 6) b) 10 (V 1 6) f) 11 (V 1 6) d) 12 (V 1 6) (V 1 0)) 1 6 (w32 (V 1 6 + 1)) = W at m
    have w : ∀ (c : Nat) (j : Int), c ≠ 1 → c ≠ 9 → c ≠ 10 → c ≠ 11 → c ≠ 12 → W c j = V c j := fun c j h1 h2 h3 h4 h5 => by rw [← hW, up_c h1, up_c h5, up_c h4, up_c h3, up_c h2]
    have w16 : W 1 6 = w32 (V 1 6 + 1) := by rw [← hW, up_s]
    have w9 : ∀ j, W 9 j = if j = V 1 6 then b else V 9 j := fun j => by rw [← hW, up_c (by decide), up_c (by decide), up_c (by decide), up_c (by decide), up_p]
    have w10 : ∀ j, W 10 j = if j = V 1 6 then f else V 10 j := fun j => by rw [← hW, up_c (by decide), up_c (by decide), up_c (by decide), up_p, up_c (by decide)]
    have w11 : ∀ j, W 11 j = if j = V 1 6 then d else V 11 j := fun j => by rw [← hW, up_c (by decide), up_c (by decide), up_p, up_c (by decide), up_c (by decide)]
    have w12 : ∀ j, W 12 j = if j = V 1 6 then V 1 0 else V 12 j := fun j => by rw [← hW, up_c (by decide), up_p, up_c (by decide), up_c (by decide), up_c (by decide)]
    have e14 : W 72 14 = V 72 14 := w 72 14 (by decide) (by decide) (by decide) (by decide) (by decide)
    have e1 : W 72 1 = V 72 1 := w 72 1 (by decide) (by decide) (by decide) (by decide) (by decide)
    have okW : ok225 W b f d ↔ ok225 V b f d := by
      unfold ok225 mHeld mField mFarm mBody
      rw [w 72 2 (by decide) (by decide) (by decide) (by decide) (by decide), w 73 b (by decide) (by decide) (by decide) (by decide) (by decide), w 73 f (by decide) (by decide) (by decide) (by decide) (by decide)]
    rcases m with ⟨b0, rfl, rfl⟩ | ⟨b0, b1, rfl, rfl⟩ | ⟨b0, b1, b2, rfl, rfl⟩
    · exact absurd (okW.mpr (ok.mp a)) b0
    · omega
    · have w1 : w32 (V 1 6 + 1) = V 1 6 + 1 := w32_id (by omega) (by omega)
      have g : ∀ (c : Nat) (j : Int), c ≠ 72 → c ≠ 83 → c ≠ 84 → c ≠ 85 → c ≠ 86 → up (up (up (up (up W 83 (W 72 14) b) 84 (W 72 14) f) 85 (W 72 14) d) 86 (W 72 14) (W 72 1)) 72 14 (w32 (W 72 14 + 1)) c j = W c j := fun c j h1 h2 h3 h4 h5 => by rw [up_c h1, up_c h5, up_c h4, up_c h3, up_c h2]
      have f0 := (body_lt J a.2.1.1).1
      refine ⟨⟨?_, fun j => ?_, fun j => ?_, fun j => ?_, fun j => ?_, ?_, ?_, fun j q0 q1 => ?_, fun j => ?_⟩, by rw [e14, k1]⟩
      · rw [g 1 6 (by decide) (by decide) (by decide) (by decide) (by decide), w16, up_s, e14, k1]
      · rw [g 9 j (by decide) (by decide) (by decide) (by decide) (by decide), w9, up_c (by decide), up_c (by decide), up_c (by decide), up_c (by decide), up_p, e14, k1, w 83 j (by decide) (by decide) (by decide) (by decide) (by decide), k2]
      · rw [g 10 j (by decide) (by decide) (by decide) (by decide) (by decide), w10, up_c (by decide), up_c (by decide), up_c (by decide), up_p, up_c (by decide), e14, k1, w 84 j (by decide) (by decide) (by decide) (by decide) (by decide), k3]
      · rw [g 11 j (by decide) (by decide) (by decide) (by decide) (by decide), w11, up_c (by decide), up_c (by decide), up_p, up_c (by decide), up_c (by decide), e14, k1, w 85 j (by decide) (by decide) (by decide) (by decide) (by decide), k4]
      · rw [g 12 j (by decide) (by decide) (by decide) (by decide) (by decide), w12, up_c (by decide), up_p, up_c (by decide), up_c (by decide), up_c (by decide), e14, k1, w 86 j (by decide) (by decide) (by decide) (by decide) (by decide), e1, hd, k5]
      · rw [g 1 6 (by decide) (by decide) (by decide) (by decide) (by decide), w16]; omega
      · rw [g 1 6 (by decide) (by decide) (by decide) (by decide) (by decide), w16]; omega
      · rw [g 1 6 (by decide) (by decide) (by decide) (by decide) (by decide), w16] at q1
        rw [g 11 j (by decide) (by decide) (by decide) (by decide) (by decide), w11]
        have := a.2.2.1
        split
        · omega
        · exact k8 j q0 (by omega)
      · rw [g 10 j (by decide) (by decide) (by decide) (by decide) (by decide), w10]
        have := k9 j
        split <;> omega
def JClm (V : vS) : Prop := V 16 1 = V 72 19 ∧ (∀ j, V 17 j = V 87 j) ∧ (∀ j, V 18 j = V 88 j) ∧ (∀ j, V 19 j = V 89 j) ∧ (∀ j, V 20 j = V 90 j) ∧ 0 ≤ V 16 1 ∧ V 16 1 ≤ 300
theorem jx_13 {V V1 V2 : vS} {f b c r1 r2 : Int} (J : JBody V) (K : JHand V) (L : JClm V) (hd : V 1 0 = V 72 1) (cc : R157 V f b c r1 V1) (m : R230 V1 f b c r2 V2) : JClm V2 ∧ r1 = r2 := by
  have L0 := L
  obtain ⟨l1, l2, l3, l4, l5, l6, l7⟩ := L0
  have ok : ok157 V f b c ↔ ok230 V f b c := by
    unfold ok157 ok230
    rw [farm_j J, field_j J, J.2.1]
  have j5 := J.2.2.2.1 b
  have j9 := (J.2.2.2.2.2.2.2.1 b).1
  have hh : hd157 V f b ↔ hd230 V f b := by
    unfold hd157 hd230
    rw [hold_j K J.2.2.2.2.1, hd, j5]
    rw [j5] at j9
    constructor
    · rintro ⟨q1, q2⟩; exact ⟨q1, by omega⟩
    · rintro ⟨q1, q2⟩; exact ⟨q1, by omega⟩
  rcases cc with ⟨a, rfl, rfl⟩ | ⟨a, a1, rfl, rfl⟩ | ⟨a, a1, a2, rfl, rfl⟩ | ⟨a, a1, a2, ⟨a3, -, -⟩ | ⟨a3, a4, rfl, a5⟩⟩
  · rcases m with ⟨b0, rfl, rfl⟩ | ⟨b0, -⟩ | ⟨b0, -⟩ | ⟨b0, -⟩
    · exact ⟨L, rfl⟩
    · exact absurd (ok.mpr b0) a
    · exact absurd (ok.mpr b0) a
    · exact absurd (ok.mpr b0) a
  · rcases m with ⟨b0, rfl, rfl⟩ | ⟨b0, b1, rfl, rfl⟩ | ⟨b0, b1, -⟩ | ⟨b0, b1, -⟩
    · exact absurd (ok.mp a) b0
    · exact ⟨L, rfl⟩
    · exact absurd (hh.mpr b1) a1
    · exact absurd (hh.mpr b1) a1
  · rcases m with ⟨b0, rfl, rfl⟩ | ⟨b0, b1, rfl, rfl⟩ | ⟨b0, b1, b2, rfl, rfl⟩ | ⟨b0, b1, b2, b3, -, -⟩
    · exact absurd (ok.mp a) b0
    · exact absurd (hh.mp a1) b1
    · exact ⟨L, rfl⟩
    · omega
  · omega
  · have w : ∀ (c : Nat) (j : Int), c ≠ 16 → c ≠ 17 → c ≠ 18 → c ≠ 19 → c ≠ 20 → c ≠ 21 → V1 c j = V c j := fun c j h1 h2 h3 h4 h5 h6 => by rw [a5 c j h6, up_c h1, up_c h5, up_c h4, up_c h3, up_c h2]
    have w16 : V1 16 1 = w32 (V 16 1 + 1) := by rw [a5 16 1 (by decide), up_s]
    have w17 : ∀ j, V1 17 j = if j = V 16 1 then f else V 17 j := fun j => by rw [a5 17 j (by decide), up_c (by decide), up_c (by decide), up_c (by decide), up_c (by decide), up_p]
    have w18 : ∀ j, V1 18 j = if j = V 16 1 then b else V 18 j := fun j => by rw [a5 18 j (by decide), up_c (by decide), up_c (by decide), up_c (by decide), up_p, up_c (by decide)]
    have w19 : ∀ j, V1 19 j = if j = V 16 1 then c else V 19 j := fun j => by rw [a5 19 j (by decide), up_c (by decide), up_c (by decide), up_p, up_c (by decide), up_c (by decide)]
    have w20 : ∀ j, V1 20 j = if j = V 16 1 then V 1 0 else V 20 j := fun j => by rw [a5 20 j (by decide), up_c (by decide), up_p, up_c (by decide), up_c (by decide), up_c (by decide)]
    have y : ∀ (c : Nat) (j : Int), 72 ≤ c → V1 c j = V c j := fun c j h => w c j (by omega) (by omega) (by omega) (by omega) (by omega) (by omega)
    have okW : ok230 V1 f b c ↔ ok230 V f b c := by
      unfold ok230 mField mFarm mBody
      rw [y 72 2 (by decide), y 73 b (by decide), y 73 f (by decide)]
    have mh : ∀ d k, mHold V1 b d k = mHold V b d k := by
      intro d k
      have s : ∀ i, mHo V1 b d k i = mHo V b d k i := by
        intro i
        induction i with
        | zero => rfl
        | succ i ih =>
          unfold mHo
          rw [ih, y 83 _ (by decide), y 86 _ (by decide), y 85 _ (by decide), y 85 _ (by decide)]
      unfold mHold
      rw [y 72 14 (by decide), s, y 75 _ (by decide), y 84 _ (by decide)]
    have hW : hd230 V1 f b ↔ hd230 V f b := by
      unfold hd230
      rw [mh, y 72 1 (by decide), y 77 b (by decide)]
    have e19 := y 72 19 (by decide)
    have e1 := y 72 1 (by decide)
    rcases m with ⟨b0, rfl, rfl⟩ | ⟨b0, b1, rfl, rfl⟩ | ⟨b0, b1, b2, rfl, rfl⟩ | ⟨b0, b1, b2, b3, rfl, rfl⟩
    · exact absurd (okW.mpr (ok.mp a)) b0
    · exact absurd (hW.mpr (hh.mp a1)) b1
    · omega
    · have w1 : w32 (V 16 1 + 1) = V 16 1 + 1 := w32_id (by omega) (by omega)
      unfold mClmV
      have g : ∀ (c' : Nat) (j : Int), c' ≠ 72 → c' ≠ 87 → c' ≠ 88 → c' ≠ 89 → c' ≠ 90 → up (up (up (up (up (up V1 87 (V1 72 19) f) 88 (V1 72 19) b) 89 (V1 72 19) c) 90 (V1 72 19) (V1 72 1)) 72 19 (w32 (V1 72 19 + 1))) 72 38 1 c' j = V1 c' j := fun c' j h1 h2 h3 h4 h5 => by rw [up_c h1, up_c h1, up_c h5, up_c h4, up_c h3, up_c h2]
      refine ⟨⟨?_, fun j => ?_, fun j => ?_, fun j => ?_, fun j => ?_, ?_, ?_⟩, by rw [e19, l1]⟩
      · rw [g 16 1 (by decide) (by decide) (by decide) (by decide) (by decide), w16, up_j (by decide), up_s, e19, l1]
      · rw [g 17 j (by decide) (by decide) (by decide) (by decide) (by decide), w17, up_c (by decide), up_c (by decide), up_c (by decide), up_c (by decide), up_c (by decide), up_p, e19, l1, y 87 j (by decide), l2]
      · rw [g 18 j (by decide) (by decide) (by decide) (by decide) (by decide), w18, up_c (by decide), up_c (by decide), up_c (by decide), up_c (by decide), up_p, up_c (by decide), e19, l1, y 88 j (by decide), l3]
      · rw [g 19 j (by decide) (by decide) (by decide) (by decide) (by decide), w19, up_c (by decide), up_c (by decide), up_c (by decide), up_p, up_c (by decide), up_c (by decide), e19, l1, y 89 j (by decide), l4]
      · rw [g 20 j (by decide) (by decide) (by decide) (by decide) (by decide), w20, up_c (by decide), up_c (by decide), up_p, up_c (by decide), up_c (by decide), up_c (by decide), e19, l1, y 90 j (by decide), e1, hd, l5]
      · rw [g 16 1 (by decide) (by decide) (by decide) (by decide) (by decide), w16]; omega
      · rw [g 16 1 (by decide) (by decide) (by decide) (by decide) (by decide), w16]; omega
def LHand : List (Nat × Option Nat) := [(1, some 6), (72, some 14), (9, none), (83, none), (10, none), (84, none), (11, none), (85, none), (12, none), (86, none)]
theorem JHand_ag {V V' : vS} (J : JHand V) (A : ag LHand V V') : JHand V' := by
  obtain ⟨a1, a2, a3, a4, a5, a6, a7, a8, a9, a10, -⟩ := A
  have a1 : V' 1 6 = V 1 6 := a1
  have a2 : V' 72 14 = V 72 14 := a2
  unfold JHand
  simp only [a1, a2, a3, a4, a5, a6, a7, a8, a9, a10]
  exact J
def LClm : List (Nat × Option Nat) := [(16, some 1), (72, some 19), (17, none), (87, none), (18, none), (88, none), (19, none), (89, none), (20, none), (90, none)]
theorem JClm_ag {V V' : vS} (J : JClm V) (A : ag LClm V V') : JClm V' := by
  obtain ⟨a1, a2, a3, a4, a5, a6, a7, a8, a9, a10, -⟩ := A
  have a1 : V' 16 1 = V 16 1 := a1
  have a2 : V' 72 19 = V 72 19 := a2
  unfold JClm
  simp only [a1, a2, a3, a4, a5, a6, a7, a8, a9, a10]
  exact J
theorem JHand_dG {W : List (Nat × Nat)} {σ σ1 : List Nat} {h h1 : aH} (J : JHand (vw h)) (I : dI σ h) (G : dG W σ h σ1 h1) (k : frL W LHand = true) : JHand (vw h1) := JHand_ag J (ag_dG I.1 G _ k)
theorem JClm_dG {W : List (Nat × Nat)} {σ σ1 : List Nat} {h h1 : aH} (J : JClm (vw h)) (I : dI σ h) (G : dG W σ h σ1 h1) (k : frL W LClm = true) : JClm (vw h1) := JClm_ag J (ag_dG I.1 G _ k)
theorem zJHand0 : JHand (vw zH0) := by
  have e1 : vw zH0 1 6 = 0 := vzf (i := 6) (x := 0) zh1 rfl
  have e2 : vw zH0 72 14 = 0 := vzf (i := 14) (x := 0) zh72 rfl
  refine ⟨by rw [e1, e2], fun j => by rw [vz zh9, vz zh83], fun j => by rw [vz zh10, vz zh84], fun j => by rw [vz zh11, vz zh85], fun j => by rw [vz zh12, vz zh86], by rw [e1]; decide, by rw [e1]; decide, fun j h0 h1 => by rw [e1] at h1; omega, fun j => by rw [vz zh10]; decide⟩
theorem zJClm0 : JClm (vw zH0) := by
  have e1 : vw zH0 16 1 = 0 := vzf (i := 1) (x := 0) zh16 rfl
  have e2 : vw zH0 72 19 = 0 := vzf (i := 19) (x := 0) zh72 rfl
  refine ⟨by rw [e1, e2], fun j => by rw [vz zh17, vz zh87], fun j => by rw [vz zh18, vz zh88], fun j => by rw [vz zh19, vz zh89], fun j => by rw [vz zh20, vz zh90], by rw [e1]; decide, by rw [e1]; decide⟩
end
section
def fillV (V : vS) (c : Nat) (A B v : Int) : vS := fun c' j => if c' = c ∧ A ≤ j ∧ j < B then v else V c' j
theorem fillV_c {V : vS} {c c' : Nat} {A B v j : Int} (h : c' ≠ c) : fillV V c A B v c' j = V c' j := if_neg (fun q => h q.1)
theorem fillV_s {V : vS} {c : Nat} {A B v : Int} (h : A ≤ B) : up (fillV V c A B v) c B v = fillV V c A (B + 1) v := by
  funext c' j
  unfold up fillV
  by_cases q : c' = c
  · subst q
    by_cases q2 : j = B
    · rw [if_pos ⟨rfl, q2⟩, if_pos ⟨rfl, by omega, by omega⟩]
    · rw [if_neg (fun z => q2 z.2)]
      by_cases q3 : A ≤ j ∧ j < B
      · rw [if_pos ⟨rfl, q3⟩, if_pos ⟨rfl, by omega, by omega⟩]
      · rw [if_neg (fun z => q3 z.2), if_neg (fun z => by omega)]
  · rw [if_neg (fun z => q z.1), if_neg (fun z => q z.1), if_neg (fun z => q z.1)]
theorem fillV_0 {V : vS} {c : Nat} {A v : Int} : fillV V c A A v = V := by
  funext c' j
  unfold fillV
  rw [if_neg (fun z => by omega)]
end
section
section WV
variable {X : aX} {D : Nat} {M : aM} {Q : Option Value → aH → Prop} {pc len a b : Nat} {l : aL} {r : List Value} {h : aH}
theorem w_lshlv {x : Int64} {y : Int32} (hf : aF pc M.2.2.2.2.2.2.2 = some (pc, .lshl, len, a, b)) (k : ∀ z : Int64, z = x <<< (y.toInt64 &&& 63) → Wp X D M Q (pc + 1) l (.long z :: r) h) : Wp X D M Q pc l (.int y :: .long x :: r) h := wp1 (fun n d => r_lshl hf rfl) (k _ rfl)
theorem w_landv {x y : Int64} (hf : aF pc M.2.2.2.2.2.2.2 = some (pc, .land, len, a, b)) (k : ∀ z : Int64, z = x &&& y → Wp X D M Q (pc + 1) l (.long z :: r) h) : Wp X D M Q pc l (.long y :: .long x :: r) h := wp1 (fun n d => r_land hf rfl) (k _ rfl)
theorem w_lorv {x y : Int64} (hf : aF pc M.2.2.2.2.2.2.2 = some (pc, .lor, len, a, b)) (k : ∀ z : Int64, z = x ||| y → Wp X D M Q (pc + 1) l (.long z :: r) h) : Wp X D M Q pc l (.long y :: .long x :: r) h := wp1 (fun n d => r_lor hf rfl) (k _ rfl)
end WV
theorem fillV_i {V : vS} {c : Nat} {A B v j : Int} (h : A ≤ j ∧ j < B) : fillV V c A B v c j = v := if_pos ⟨rfl, h⟩
end
section
-- ===== proofs, outs =====
theorem tl_32 : tkL 32 0 1500 = true := by decide +kernel
theorem tl_111 : tkL 111 0 1500 = true := by decide +kernel
theorem tl_23 : tkL 23 0 40 = true := by decide +kernel
theorem tl_24 : tkL 24 0 40 = true := by decide +kernel
theorem tl_25 : tkL 25 0 40 = true := by decide +kernel
theorem tl_26 : tkL 26 0 40 = true := by decide +kernel
theorem tl_92 : tkL 92 0 40 = true := by decide +kernel
theorem tl_93 : tkL 93 0 40 = true := by decide +kernel
theorem tl_94 : tkL 94 0 40 = true := by decide +kernel
theorem tl_95 : tkL 95 0 40 = true := by decide +kernel
theorem tl_96 : tkL 96 0 40 = true := by decide +kernel
theorem tl_97 : tkL 97 0 40 = true := by decide +kernel
theorem tr_16_19 : tkR 16 19 32 = true := by decide +kernel
theorem tr_72_48 : tkR 72 48 111 = true := by decide +kernel
theorem tr_16_10 : tkR 16 10 23 = true := by decide +kernel
theorem tr_16_11 : tkR 16 11 24 = true := by decide +kernel
theorem tr_16_12 : tkR 16 12 25 = true := by decide +kernel
theorem tr_16_13 : tkR 16 13 26 = true := by decide +kernel
theorem tr_72_26 : tkR 72 26 92 = true := by decide +kernel
theorem tr_72_27 : tkR 72 27 93 = true := by decide +kernel
theorem tr_72_28 : tkR 72 28 94 = true := by decide +kernel
theorem tr_72_29 : tkR 72 29 95 = true := by decide +kernel
theorem tr_72_30 : tkR 72 30 96 = true := by decide +kernel
theorem tr_72_31 : tkR 72 31 97 = true := by decide +kernel
theorem gx32_0 : aF 0 zM32.2.2.2.2.2.2.2 = some (0, (.aload_n 0), 1, 0, 0) := by decide +kernel
theorem gx32_1 : aF 1 zM32.2.2.2.2.2.2.2 = some (1, (.getfield 96), 3, 2, 2) := by decide +kernel
theorem gx32_4 : aF 4 zM32.2.2.2.2.2.2.2 = some (4, (.bipush 40), 2, 0, 0) := by decide +kernel
theorem gx32_6 : aF 6 zM32.2.2.2.2.2.2.2 = some (6, (.if_icmp .ge 59), 3, 65, 0) := by decide +kernel
theorem gx32_65 : aF 65 zM32.2.2.2.2.2.2.2 = some (65, (.aload_n 0), 1, 0, 0) := by decide +kernel
theorem gx32_66 : aF 66 zM32.2.2.2.2.2.2.2 = some (66, (.getfield 96), 3, 2, 2) := by decide +kernel
theorem gx32_69 : aF 69 zM32.2.2.2.2.2.2.2 = some (69, .ireturn, 1, 0, 0) := by decide +kernel
theorem gx32_9 : aF 9 zM32.2.2.2.2.2.2.2 = some (9, (.aload_n 0), 1, 0, 0) := by decide +kernel
theorem gx32_10 : aF 10 zM32.2.2.2.2.2.2.2 = some (10, (.getfield 30), 3, 2, 10) := by decide +kernel
theorem gx32_13 : aF 13 zM32.2.2.2.2.2.2.2 = some (13, (.aload_n 0), 1, 0, 0) := by decide +kernel
theorem gx32_14 : aF 14 zM32.2.2.2.2.2.2.2 = some (14, (.getfield 96), 3, 2, 2) := by decide +kernel
theorem gx32_17 : aF 17 zM32.2.2.2.2.2.2.2 = some (17, (.iload_n 1), 1, 0, 0) := by decide +kernel
theorem gx32_18 : aF 18 zM32.2.2.2.2.2.2.2 = some (18, .iastore, 1, 0, 0) := by decide +kernel
theorem gx32_19 : aF 19 zM32.2.2.2.2.2.2.2 = some (19, (.aload_n 0), 1, 0, 0) := by decide +kernel
theorem gx32_20 : aF 20 zM32.2.2.2.2.2.2.2 = some (20, (.getfield 33), 3, 2, 11) := by decide +kernel
theorem gx32_23 : aF 23 zM32.2.2.2.2.2.2.2 = some (23, (.aload_n 0), 1, 0, 0) := by decide +kernel
theorem gx32_24 : aF 24 zM32.2.2.2.2.2.2.2 = some (24, (.getfield 96), 3, 2, 2) := by decide +kernel
theorem gx32_27 : aF 27 zM32.2.2.2.2.2.2.2 = some (27, (.iload_n 2), 1, 0, 0) := by decide +kernel
theorem gx32_28 : aF 28 zM32.2.2.2.2.2.2.2 = some (28, .iastore, 1, 0, 0) := by decide +kernel
theorem gx32_29 : aF 29 zM32.2.2.2.2.2.2.2 = some (29, (.aload_n 0), 1, 0, 0) := by decide +kernel
theorem gx32_30 : aF 30 zM32.2.2.2.2.2.2.2 = some (30, (.getfield 36), 3, 2, 12) := by decide +kernel
theorem gx32_33 : aF 33 zM32.2.2.2.2.2.2.2 = some (33, (.aload_n 0), 1, 0, 0) := by decide +kernel
theorem gx32_34 : aF 34 zM32.2.2.2.2.2.2.2 = some (34, (.getfield 96), 3, 2, 2) := by decide +kernel
theorem gx32_37 : aF 37 zM32.2.2.2.2.2.2.2 = some (37, (.iload_n 3), 1, 0, 0) := by decide +kernel
theorem gx32_38 : aF 38 zM32.2.2.2.2.2.2.2 = some (38, .iastore, 1, 0, 0) := by decide +kernel
theorem gx32_39 : aF 39 zM32.2.2.2.2.2.2.2 = some (39, (.aload_n 0), 1, 0, 0) := by decide +kernel
theorem gx32_40 : aF 40 zM32.2.2.2.2.2.2.2 = some (40, (.getfield 39), 3, 2, 13) := by decide +kernel
theorem gx32_43 : aF 43 zM32.2.2.2.2.2.2.2 = some (43, (.aload_n 0), 1, 0, 0) := by decide +kernel
theorem gx32_44 : aF 44 zM32.2.2.2.2.2.2.2 = some (44, (.getfield 96), 3, 2, 2) := by decide +kernel
theorem gx32_47 : aF 47 zM32.2.2.2.2.2.2.2 = some (47, (.aload_n 0), 1, 0, 0) := by decide +kernel
theorem gx32_48 : aF 48 zM32.2.2.2.2.2.2.2 = some (48, (.getfield 60), 3, 2, 0) := by decide +kernel
theorem gx32_51 : aF 51 zM32.2.2.2.2.2.2.2 = some (51, (.getfield 68), 3, 6, 0) := by decide +kernel
theorem gx32_54 : aF 54 zM32.2.2.2.2.2.2.2 = some (54, .iastore, 1, 0, 0) := by decide +kernel
theorem gx32_55 : aF 55 zM32.2.2.2.2.2.2.2 = some (55, (.aload_n 0), 1, 0, 0) := by decide +kernel
theorem gx32_56 : aF 56 zM32.2.2.2.2.2.2.2 = some (56, .dup, 1, 0, 0) := by decide +kernel
theorem gx32_57 : aF 57 zM32.2.2.2.2.2.2.2 = some (57, (.getfield 96), 3, 2, 2) := by decide +kernel
theorem gx32_60 : aF 60 zM32.2.2.2.2.2.2.2 = some (60, (.iconst 1), 1, 0, 0) := by decide +kernel
theorem gx32_61 : aF 61 zM32.2.2.2.2.2.2.2 = some (61, .iadd, 1, 0, 0) := by decide +kernel
theorem gx32_62 : aF 62 zM32.2.2.2.2.2.2.2 = some (62, (.putfield 96), 3, 2, 2) := by decide +kernel
theorem gx159_0 : aF 0 zM159.2.2.2.2.2.2.2 = some (0, (.iload_n 1), 1, 0, 0) := by decide +kernel
theorem gx159_1 : aF 1 zM159.2.2.2.2.2.2.2 = some (1, (.ifCond .lt 14), 3, 15, 0) := by decide +kernel
theorem gx159_15 : aF 15 zM159.2.2.2.2.2.2.2 = some (15, (.iconst (-1)), 1, 0, 0) := by decide +kernel
theorem gx159_16 : aF 16 zM159.2.2.2.2.2.2.2 = some (16, .ireturn, 1, 0, 0) := by decide +kernel
theorem gx159_4 : aF 4 zM159.2.2.2.2.2.2.2 = some (4, (.iload_n 2), 1, 0, 0) := by decide +kernel
theorem gx159_5 : aF 5 zM159.2.2.2.2.2.2.2 = some (5, (.ifCond .lt 10), 3, 15, 0) := by decide +kernel
theorem gx159_8 : aF 8 zM159.2.2.2.2.2.2.2 = some (8, (.iload_n 3), 1, 0, 0) := by decide +kernel
theorem gx159_9 : aF 9 zM159.2.2.2.2.2.2.2 = some (9, (.invokestatic 164), 3, 138, 0) := by decide +kernel
theorem gx159_12 : aF 12 zM159.2.2.2.2.2.2.2 = some (12, (.ifCond .ne 5), 3, 17, 0) := by decide +kernel
theorem gx159_17 : aF 17 zM159.2.2.2.2.2.2.2 = some (17, (.iload_n 1), 1, 0, 0) := by decide +kernel
theorem gx159_18 : aF 18 zM159.2.2.2.2.2.2.2 = some (18, (.bipush 100), 2, 0, 0) := by decide +kernel
theorem gx159_20 : aF 20 zM159.2.2.2.2.2.2.2 = some (20, .idiv, 1, 0, 0) := by decide +kernel
theorem gx159_21 : aF 21 zM159.2.2.2.2.2.2.2 = some (21, (.istore 4), 2, 0, 0) := by decide +kernel
theorem gx159_23 : aF 23 zM159.2.2.2.2.2.2.2 = some (23, (.iload_n 1), 1, 0, 0) := by decide +kernel
theorem gx159_24 : aF 24 zM159.2.2.2.2.2.2.2 = some (24, (.bipush 100), 2, 0, 0) := by decide +kernel
theorem gx159_26 : aF 26 zM159.2.2.2.2.2.2.2 = some (26, .irem, 1, 0, 0) := by decide +kernel
theorem gx159_27 : aF 27 zM159.2.2.2.2.2.2.2 = some (27, (.istore 5), 2, 0, 0) := by decide +kernel
theorem gx159_29 : aF 29 zM159.2.2.2.2.2.2.2 = some (29, (.iload_n 2), 1, 0, 0) := by decide +kernel
theorem gx159_30 : aF 30 zM159.2.2.2.2.2.2.2 = some (30, (.bipush 100), 2, 0, 0) := by decide +kernel
theorem gx159_32 : aF 32 zM159.2.2.2.2.2.2.2 = some (32, .idiv, 1, 0, 0) := by decide +kernel
theorem gx159_33 : aF 33 zM159.2.2.2.2.2.2.2 = some (33, (.istore 6), 2, 0, 0) := by decide +kernel
theorem gx159_35 : aF 35 zM159.2.2.2.2.2.2.2 = some (35, (.iload_n 2), 1, 0, 0) := by decide +kernel
theorem gx159_36 : aF 36 zM159.2.2.2.2.2.2.2 = some (36, (.bipush 100), 2, 0, 0) := by decide +kernel
theorem gx159_38 : aF 38 zM159.2.2.2.2.2.2.2 = some (38, .irem, 1, 0, 0) := by decide +kernel
theorem gx159_39 : aF 39 zM159.2.2.2.2.2.2.2 = some (39, (.istore 7), 2, 0, 0) := by decide +kernel
theorem gx159_41 : aF 41 zM159.2.2.2.2.2.2.2 = some (41, (.iload 4), 2, 0, 0) := by decide +kernel
theorem gx159_43 : aF 43 zM159.2.2.2.2.2.2.2 = some (43, (.iload 6), 2, 0, 0) := by decide +kernel
theorem gx159_45 : aF 45 zM159.2.2.2.2.2.2.2 = some (45, (.if_icmp .gt 24), 3, 69, 0) := by decide +kernel
theorem gx159_69 : aF 69 zM159.2.2.2.2.2.2.2 = some (69, (.iconst (-1)), 1, 0, 0) := by decide +kernel
theorem gx159_70 : aF 70 zM159.2.2.2.2.2.2.2 = some (70, .ireturn, 1, 0, 0) := by decide +kernel
theorem gx159_48 : aF 48 zM159.2.2.2.2.2.2.2 = some (48, (.iload 5), 2, 0, 0) := by decide +kernel
theorem gx159_50 : aF 50 zM159.2.2.2.2.2.2.2 = some (50, (.iload 7), 2, 0, 0) := by decide +kernel
theorem gx159_52 : aF 52 zM159.2.2.2.2.2.2.2 = some (52, (.if_icmp .gt 17), 3, 69, 0) := by decide +kernel
theorem gx159_55 : aF 55 zM159.2.2.2.2.2.2.2 = some (55, (.iload 6), 2, 0, 0) := by decide +kernel
theorem gx159_57 : aF 57 zM159.2.2.2.2.2.2.2 = some (57, (.bipush 24), 2, 0, 0) := by decide +kernel
theorem gx159_59 : aF 59 zM159.2.2.2.2.2.2.2 = some (59, (.if_icmp .ge 10), 3, 69, 0) := by decide +kernel
theorem gx159_62 : aF 62 zM159.2.2.2.2.2.2.2 = some (62, (.iload 7), 2, 0, 0) := by decide +kernel
theorem gx159_64 : aF 64 zM159.2.2.2.2.2.2.2 = some (64, (.bipush 24), 2, 0, 0) := by decide +kernel
theorem gx159_66 : aF 66 zM159.2.2.2.2.2.2.2 = some (66, (.if_icmp .lt 5), 3, 71, 0) := by decide +kernel
theorem gx159_71 : aF 71 zM159.2.2.2.2.2.2.2 = some (71, (.aload_n 0), 1, 0, 0) := by decide +kernel
theorem gx159_72 : aF 72 zM159.2.2.2.2.2.2.2 = some (72, (.getfield 28), 3, 11, 2) := by decide +kernel
theorem gx159_75 : aF 75 zM159.2.2.2.2.2.2.2 = some (75, (.getfield 181), 3, 2, 2) := by decide +kernel
theorem gx159_78 : aF 78 zM159.2.2.2.2.2.2.2 = some (78, (.bipush 40), 2, 0, 0) := by decide +kernel
theorem gx159_80 : aF 80 zM159.2.2.2.2.2.2.2 = some (80, (.if_icmp .lt 8), 3, 88, 0) := by decide +kernel
theorem gx159_88 : aF 88 zM159.2.2.2.2.2.2.2 = some (88, (.aload_n 0), 1, 0, 0) := by decide +kernel
theorem gx159_89 : aF 89 zM159.2.2.2.2.2.2.2 = some (89, (.getfield 28), 3, 11, 2) := by decide +kernel
theorem gx159_92 : aF 92 zM159.2.2.2.2.2.2.2 = some (92, (.iload_n 1), 1, 0, 0) := by decide +kernel
theorem gx159_93 : aF 93 zM159.2.2.2.2.2.2.2 = some (93, (.iload_n 2), 1, 0, 0) := by decide +kernel
theorem gx159_94 : aF 94 zM159.2.2.2.2.2.2.2 = some (94, (.iload_n 3), 1, 0, 0) := by decide +kernel
theorem gx159_95 : aF 95 zM159.2.2.2.2.2.2.2 = some (95, (.invokevirtual 184), 3, 32, 0) := by decide +kernel
theorem gx159_98 : aF 98 zM159.2.2.2.2.2.2.2 = some (98, .ireturn, 1, 0, 0) := by decide +kernel
theorem gx159_83 : aF 83 zM159.2.2.2.2.2.2.2 = some (83, (.bipush (-3)), 2, 0, 0) := by decide +kernel
theorem gx159_85 : aF 85 zM159.2.2.2.2.2.2.2 = some (85, (.goto 13), 3, 98, 0) := by decide +kernel
theorem gx232_0 : aF 0 zM232.2.2.2.2.2.2.2 = some (0, (.iload_n 1), 1, 0, 0) := by decide +kernel
theorem gx232_1 : aF 1 zM232.2.2.2.2.2.2.2 = some (1, (.ifCond .lt 72), 3, 73, 0) := by decide +kernel
theorem gx232_73 : aF 73 zM232.2.2.2.2.2.2.2 = some (73, (.iconst (-1)), 1, 0, 0) := by decide +kernel
theorem gx232_74 : aF 74 zM232.2.2.2.2.2.2.2 = some (74, .ireturn, 1, 0, 0) := by decide +kernel
theorem gx232_4 : aF 4 zM232.2.2.2.2.2.2.2 = some (4, (.iload_n 2), 1, 0, 0) := by decide +kernel
theorem gx232_5 : aF 5 zM232.2.2.2.2.2.2.2 = some (5, (.ifCond .lt 68), 3, 73, 0) := by decide +kernel
theorem gx232_8 : aF 8 zM232.2.2.2.2.2.2.2 = some (8, (.iload_n 1), 1, 0, 0) := by decide +kernel
theorem gx232_9 : aF 9 zM232.2.2.2.2.2.2.2 = some (9, (.bipush 100), 2, 0, 0) := by decide +kernel
theorem gx232_11 : aF 11 zM232.2.2.2.2.2.2.2 = some (11, .idiv, 1, 0, 0) := by decide +kernel
theorem gx232_12 : aF 12 zM232.2.2.2.2.2.2.2 = some (12, (.iconst 0), 1, 0, 0) := by decide +kernel
theorem gx232_13 : aF 13 zM232.2.2.2.2.2.2.2 = some (13, (.bipush 23), 2, 0, 0) := by decide +kernel
theorem gx232_15 : aF 15 zM232.2.2.2.2.2.2.2 = some (15, (.invokestatic 258), 3, 196, 0) := by decide +kernel
theorem gx232_18 : aF 18 zM232.2.2.2.2.2.2.2 = some (18, (.ifCond .eq 55), 3, 73, 0) := by decide +kernel
theorem gx232_21 : aF 21 zM232.2.2.2.2.2.2.2 = some (21, (.iload_n 1), 1, 0, 0) := by decide +kernel
theorem gx232_22 : aF 22 zM232.2.2.2.2.2.2.2 = some (22, (.bipush 100), 2, 0, 0) := by decide +kernel
theorem gx232_24 : aF 24 zM232.2.2.2.2.2.2.2 = some (24, .irem, 1, 0, 0) := by decide +kernel
theorem gx232_25 : aF 25 zM232.2.2.2.2.2.2.2 = some (25, (.iconst 0), 1, 0, 0) := by decide +kernel
theorem gx232_26 : aF 26 zM232.2.2.2.2.2.2.2 = some (26, (.bipush 23), 2, 0, 0) := by decide +kernel
theorem gx232_28 : aF 28 zM232.2.2.2.2.2.2.2 = some (28, (.invokestatic 258), 3, 196, 0) := by decide +kernel
theorem gx232_31 : aF 31 zM232.2.2.2.2.2.2.2 = some (31, (.ifCond .eq 42), 3, 73, 0) := by decide +kernel
theorem gx232_34 : aF 34 zM232.2.2.2.2.2.2.2 = some (34, (.iload_n 2), 1, 0, 0) := by decide +kernel
theorem gx232_35 : aF 35 zM232.2.2.2.2.2.2.2 = some (35, (.bipush 100), 2, 0, 0) := by decide +kernel
theorem gx232_37 : aF 37 zM232.2.2.2.2.2.2.2 = some (37, .idiv, 1, 0, 0) := by decide +kernel
theorem gx232_38 : aF 38 zM232.2.2.2.2.2.2.2 = some (38, (.iload_n 1), 1, 0, 0) := by decide +kernel
theorem gx232_39 : aF 39 zM232.2.2.2.2.2.2.2 = some (39, (.bipush 100), 2, 0, 0) := by decide +kernel
theorem gx232_41 : aF 41 zM232.2.2.2.2.2.2.2 = some (41, .idiv, 1, 0, 0) := by decide +kernel
theorem gx232_42 : aF 42 zM232.2.2.2.2.2.2.2 = some (42, (.bipush 23), 2, 0, 0) := by decide +kernel
theorem gx232_44 : aF 44 zM232.2.2.2.2.2.2.2 = some (44, (.invokestatic 258), 3, 196, 0) := by decide +kernel
theorem gx232_47 : aF 47 zM232.2.2.2.2.2.2.2 = some (47, (.ifCond .eq 26), 3, 73, 0) := by decide +kernel
theorem gx232_50 : aF 50 zM232.2.2.2.2.2.2.2 = some (50, (.iload_n 2), 1, 0, 0) := by decide +kernel
theorem gx232_51 : aF 51 zM232.2.2.2.2.2.2.2 = some (51, (.bipush 100), 2, 0, 0) := by decide +kernel
theorem gx232_53 : aF 53 zM232.2.2.2.2.2.2.2 = some (53, .irem, 1, 0, 0) := by decide +kernel
theorem gx232_54 : aF 54 zM232.2.2.2.2.2.2.2 = some (54, (.iload_n 1), 1, 0, 0) := by decide +kernel
theorem gx232_55 : aF 55 zM232.2.2.2.2.2.2.2 = some (55, (.bipush 100), 2, 0, 0) := by decide +kernel
theorem gx232_57 : aF 57 zM232.2.2.2.2.2.2.2 = some (57, .irem, 1, 0, 0) := by decide +kernel
theorem gx232_58 : aF 58 zM232.2.2.2.2.2.2.2 = some (58, (.bipush 23), 2, 0, 0) := by decide +kernel
theorem gx232_60 : aF 60 zM232.2.2.2.2.2.2.2 = some (60, (.invokestatic 258), 3, 196, 0) := by decide +kernel
theorem gx232_63 : aF 63 zM232.2.2.2.2.2.2.2 = some (63, (.ifCond .eq 10), 3, 73, 0) := by decide +kernel
theorem gx232_66 : aF 66 zM232.2.2.2.2.2.2.2 = some (66, (.iload_n 3), 1, 0, 0) := by decide +kernel
theorem gx232_67 : aF 67 zM232.2.2.2.2.2.2.2 = some (67, (.invokestatic 325), 3, 197, 0) := by decide +kernel
theorem gx232_70 : aF 70 zM232.2.2.2.2.2.2.2 = some (70, (.ifCond .ne 5), 3, 75, 0) := by decide +kernel
theorem gx232_75 : aF 75 zM232.2.2.2.2.2.2.2 = some (75, (.aload_n 0), 1, 0, 0) := by decide +kernel
theorem gx232_76 : aF 76 zM232.2.2.2.2.2.2.2 = some (76, (.getfield 339), 3, 12, 25) := by decide +kernel
theorem gx232_79 : aF 79 zM232.2.2.2.2.2.2.2 = some (79, (.bipush 40), 2, 0, 0) := by decide +kernel
theorem gx232_81 : aF 81 zM232.2.2.2.2.2.2.2 = some (81, (.if_icmp .ne 6), 3, 87, 0) := by decide +kernel
theorem gx232_87 : aF 87 zM232.2.2.2.2.2.2.2 = some (87, (.aload_n 0), 1, 0, 0) := by decide +kernel
theorem gx232_88 : aF 88 zM232.2.2.2.2.2.2.2 = some (88, (.getfield 67), 3, 12, 26) := by decide +kernel
theorem gx232_91 : aF 91 zM232.2.2.2.2.2.2.2 = some (91, (.aload_n 0), 1, 0, 0) := by decide +kernel
theorem gx232_92 : aF 92 zM232.2.2.2.2.2.2.2 = some (92, (.getfield 339), 3, 12, 25) := by decide +kernel
theorem gx232_95 : aF 95 zM232.2.2.2.2.2.2.2 = some (95, (.iload_n 1), 1, 0, 0) := by decide +kernel
theorem gx232_96 : aF 96 zM232.2.2.2.2.2.2.2 = some (96, (.bipush 100), 2, 0, 0) := by decide +kernel
theorem gx232_98 : aF 98 zM232.2.2.2.2.2.2.2 = some (98, .idiv, 1, 0, 0) := by decide +kernel
theorem gx232_99 : aF 99 zM232.2.2.2.2.2.2.2 = some (99, .iastore, 1, 0, 0) := by decide +kernel
theorem gx232_100 : aF 100 zM232.2.2.2.2.2.2.2 = some (100, (.aload_n 0), 1, 0, 0) := by decide +kernel
theorem gx232_101 : aF 101 zM232.2.2.2.2.2.2.2 = some (101, (.getfield 70), 3, 12, 27) := by decide +kernel
theorem gx232_104 : aF 104 zM232.2.2.2.2.2.2.2 = some (104, (.aload_n 0), 1, 0, 0) := by decide +kernel
theorem gx232_105 : aF 105 zM232.2.2.2.2.2.2.2 = some (105, (.getfield 339), 3, 12, 25) := by decide +kernel
theorem gx232_108 : aF 108 zM232.2.2.2.2.2.2.2 = some (108, (.iload_n 1), 1, 0, 0) := by decide +kernel
theorem gx232_109 : aF 109 zM232.2.2.2.2.2.2.2 = some (109, (.bipush 100), 2, 0, 0) := by decide +kernel
theorem gx232_111 : aF 111 zM232.2.2.2.2.2.2.2 = some (111, .irem, 1, 0, 0) := by decide +kernel
theorem gx232_112 : aF 112 zM232.2.2.2.2.2.2.2 = some (112, .iastore, 1, 0, 0) := by decide +kernel
theorem gx232_113 : aF 113 zM232.2.2.2.2.2.2.2 = some (113, (.aload_n 0), 1, 0, 0) := by decide +kernel
theorem gx232_114 : aF 114 zM232.2.2.2.2.2.2.2 = some (114, (.getfield 73), 3, 12, 28) := by decide +kernel
theorem gx232_117 : aF 117 zM232.2.2.2.2.2.2.2 = some (117, (.aload_n 0), 1, 0, 0) := by decide +kernel
theorem gx232_118 : aF 118 zM232.2.2.2.2.2.2.2 = some (118, (.getfield 339), 3, 12, 25) := by decide +kernel
theorem gx232_121 : aF 121 zM232.2.2.2.2.2.2.2 = some (121, (.iload_n 2), 1, 0, 0) := by decide +kernel
theorem gx232_122 : aF 122 zM232.2.2.2.2.2.2.2 = some (122, (.bipush 100), 2, 0, 0) := by decide +kernel
theorem gx232_124 : aF 124 zM232.2.2.2.2.2.2.2 = some (124, .idiv, 1, 0, 0) := by decide +kernel
theorem gx232_125 : aF 125 zM232.2.2.2.2.2.2.2 = some (125, .iastore, 1, 0, 0) := by decide +kernel
theorem gx232_126 : aF 126 zM232.2.2.2.2.2.2.2 = some (126, (.aload_n 0), 1, 0, 0) := by decide +kernel
theorem gx232_127 : aF 127 zM232.2.2.2.2.2.2.2 = some (127, (.getfield 76), 3, 12, 29) := by decide +kernel
theorem gx232_130 : aF 130 zM232.2.2.2.2.2.2.2 = some (130, (.aload_n 0), 1, 0, 0) := by decide +kernel
theorem gx232_131 : aF 131 zM232.2.2.2.2.2.2.2 = some (131, (.getfield 339), 3, 12, 25) := by decide +kernel
theorem gx232_134 : aF 134 zM232.2.2.2.2.2.2.2 = some (134, (.iload_n 2), 1, 0, 0) := by decide +kernel
theorem gx232_135 : aF 135 zM232.2.2.2.2.2.2.2 = some (135, (.bipush 100), 2, 0, 0) := by decide +kernel
theorem gx232_137 : aF 137 zM232.2.2.2.2.2.2.2 = some (137, .irem, 1, 0, 0) := by decide +kernel
theorem gx232_138 : aF 138 zM232.2.2.2.2.2.2.2 = some (138, .iastore, 1, 0, 0) := by decide +kernel
theorem gx232_139 : aF 139 zM232.2.2.2.2.2.2.2 = some (139, (.aload_n 0), 1, 0, 0) := by decide +kernel
theorem gx232_140 : aF 140 zM232.2.2.2.2.2.2.2 = some (140, (.getfield 79), 3, 12, 30) := by decide +kernel
theorem gx232_143 : aF 143 zM232.2.2.2.2.2.2.2 = some (143, (.aload_n 0), 1, 0, 0) := by decide +kernel
theorem gx232_144 : aF 144 zM232.2.2.2.2.2.2.2 = some (144, (.getfield 339), 3, 12, 25) := by decide +kernel
theorem gx232_147 : aF 147 zM232.2.2.2.2.2.2.2 = some (147, (.iload_n 3), 1, 0, 0) := by decide +kernel
theorem gx232_148 : aF 148 zM232.2.2.2.2.2.2.2 = some (148, .iastore, 1, 0, 0) := by decide +kernel
theorem gx232_149 : aF 149 zM232.2.2.2.2.2.2.2 = some (149, (.aload_n 0), 1, 0, 0) := by decide +kernel
theorem gx232_150 : aF 150 zM232.2.2.2.2.2.2.2 = some (150, (.getfield 82), 3, 12, 31) := by decide +kernel
theorem gx232_153 : aF 153 zM232.2.2.2.2.2.2.2 = some (153, (.aload_n 0), 1, 0, 0) := by decide +kernel
theorem gx232_154 : aF 154 zM232.2.2.2.2.2.2.2 = some (154, (.getfield 339), 3, 12, 25) := by decide +kernel
theorem gx232_157 : aF 157 zM232.2.2.2.2.2.2.2 = some (157, (.aload_n 0), 1, 0, 0) := by decide +kernel
theorem gx232_158 : aF 158 zM232.2.2.2.2.2.2.2 = some (158, (.getfield 262), 3, 12, 1) := by decide +kernel
theorem gx232_161 : aF 161 zM232.2.2.2.2.2.2.2 = some (161, .iastore, 1, 0, 0) := by decide +kernel
theorem gx232_162 : aF 162 zM232.2.2.2.2.2.2.2 = some (162, (.aload_n 0), 1, 0, 0) := by decide +kernel
theorem gx232_163 : aF 163 zM232.2.2.2.2.2.2.2 = some (163, .dup, 1, 0, 0) := by decide +kernel
theorem gx232_164 : aF 164 zM232.2.2.2.2.2.2.2 = some (164, (.getfield 339), 3, 12, 25) := by decide +kernel
theorem gx232_167 : aF 167 zM232.2.2.2.2.2.2.2 = some (167, (.iconst 1), 1, 0, 0) := by decide +kernel
theorem gx232_168 : aF 168 zM232.2.2.2.2.2.2.2 = some (168, .iadd, 1, 0, 0) := by decide +kernel
theorem gx232_169 : aF 169 zM232.2.2.2.2.2.2.2 = some (169, (.putfield 339), 3, 12, 25) := by decide +kernel
theorem gx232_172 : aF 172 zM232.2.2.2.2.2.2.2 = some (172, (.aload_n 0), 1, 0, 0) := by decide +kernel
theorem gx232_173 : aF 173 zM232.2.2.2.2.2.2.2 = some (173, (.iconst 1), 1, 0, 0) := by decide +kernel
theorem gx232_174 : aF 174 zM232.2.2.2.2.2.2.2 = some (174, (.putfield 100), 3, 12, 38) := by decide +kernel
theorem gx232_177 : aF 177 zM232.2.2.2.2.2.2.2 = some (177, (.aload_n 0), 1, 0, 0) := by decide +kernel
theorem gx232_178 : aF 178 zM232.2.2.2.2.2.2.2 = some (178, (.getfield 339), 3, 12, 25) := by decide +kernel
theorem gx232_181 : aF 181 zM232.2.2.2.2.2.2.2 = some (181, .ireturn, 1, 0, 0) := by decide +kernel
theorem gx232_84 : aF 84 zM232.2.2.2.2.2.2.2 = some (84, (.bipush (-3)), 2, 0, 0) := by decide +kernel
theorem gx232_86 : aF 86 zM232.2.2.2.2.2.2.2 = some (86, .ireturn, 1, 0, 0) := by decide +kernel
theorem d32_0 {n : Nat} {X : aX} {h : aH} {P : Int → aH → Prop} {x1 x2 x3 : Int32} {a1 a2 a3 : Int} (S : wS h) (z1 : x1.toInt = a1) (z2 : x2.toInt = a2) (z3 : x3.toInt = a3) (H : ((40 ≤ vw h 16 2 → P (vw h 16 2) h) ∧ (vw h 16 2 < 40 → (0 ≤ vw h 16 2 → vw h 16 2 < 40 → ∀ h_22 : aH, wS h_22 → vw h_22 = up (up (up (up (up (vw h) 23 (vw h 16 2) a1) 24 (vw h 16 2) a2) 25 (vw h 16 2) a3) 26 (vw h 16 2) (vw h 1 0)) 16 2 (w32 ((vw h 16 2) + 1)) → P (w32 ((vw h 16 2) + 1)) h_22)))) : Pt (n + 1) X zM32 0 [some (.ref 16), some (.int x1), some (.int x2), some (.int x3)] [] h (qI P) := by
  refine pt_1 (fun n d => r_aloadn gx32_0 rfl) ?_
  refine pt_d (pt_getI (B := 2) gx32_1 S (fun v1 h1 => ?_))
  refine pt_d (pt_bipush gx32_4 (fun v2 h2 => ?_))
  refine pt_d (pt_icmp_ge gx32_6 h1 h2 (fun e3 => ?_) (fun e3 => ?_))
  · have H := H.1 e3
    refine pt_d (pt_1 (fun n d => r_aloadn gx32_65 rfl) ?_)
    refine pt_d (pt_getI (B := 2) gx32_66 S (fun v4 h4 => ?_))
    exact pt_d (pt_iret gx32_69 ⟨_, rfl, by rw [h4]; exact H⟩)
  · have H := H.2 e3
    refine pt_d (pt_1 (fun n d => r_aloadn gx32_9 rfl) ?_)
    refine pt_d (pt_getR gx32_10 S tr_16_10 ?_)
    refine pt_d (pt_1 (fun n d => r_aloadn gx32_13 rfl) ?_)
    refine pt_d (pt_getI (B := 2) gx32_14 S (fun v6 h6 => ?_))
    refine pt_d (pt_1 (fun n d => r_iloadn gx32_17 rfl) ?_)
    refine pt_d (pt_iast (N' := 40) gx32_18 S tl_23 h6 z1 (fun h_7 S7 p7 q7 e7 => ?_))
    have H := H p7 q7
    refine pt_d (pt_1 (fun n d => r_aloadn gx32_19 rfl) ?_)
    refine pt_d (pt_getR gx32_20 S7 tr_16_11 ?_)
    refine pt_d (pt_1 (fun n d => r_aloadn gx32_23 rfl) ?_)
    refine pt_d (pt_getI (B := 2) gx32_24 S7 (fun v9 h9 => ?_))
    have h9 : v9.toInt = vw h 16 2 := by rw [h9, e7, up_c (by decide)]
    refine pt_d (pt_1 (fun n d => r_iloadn gx32_27 rfl) ?_)
    refine pt_d (pt_iast (N' := 40) gx32_28 S7 tl_24 h9 z2 (fun h_10 S10 p10 q10 e10 => ?_))
    refine pt_d (pt_1 (fun n d => r_aloadn gx32_29 rfl) ?_)
    refine pt_d (pt_getR gx32_30 S10 tr_16_12 ?_)
    refine pt_d (pt_1 (fun n d => r_aloadn gx32_33 rfl) ?_)
    refine pt_d (pt_getI (B := 2) gx32_34 S10 (fun v12 h12 => ?_))
    have h12 : v12.toInt = vw h 16 2 := by rw [h12, e10, up_c (by decide), e7, up_c (by decide)]
    refine pt_d (pt_1 (fun n d => r_iloadn gx32_37 rfl) ?_)
    refine pt_d (pt_iast (N' := 40) gx32_38 S10 tl_25 h12 z3 (fun h_13 S13 p13 q13 e13 => ?_))
    refine pt_d (pt_1 (fun n d => r_aloadn gx32_39 rfl) ?_)
    refine pt_d (pt_getR gx32_40 S13 tr_16_13 ?_)
    refine pt_d (pt_1 (fun n d => r_aloadn gx32_43 rfl) ?_)
    refine pt_d (pt_getI (B := 2) gx32_44 S13 (fun v15 h15 => ?_))
    have h15 : v15.toInt = vw h 16 2 := by rw [h15, e13, up_c (by decide), e10, up_c (by decide), e7, up_c (by decide)]
    refine pt_d (pt_1 (fun n d => r_aloadn gx32_47 rfl) ?_)
    refine pt_d (pt_getR gx32_48 S13 tr_16_0 ?_)
    refine pt_d (pt_getI (B := 0) gx32_51 S13 (fun v17 h17 => ?_))
    have h17 : v17.toInt = vw h 1 0 := by rw [h17, e13, up_c (by decide), e10, up_c (by decide), e7, up_c (by decide)]
    refine pt_d (pt_iast (N' := 40) gx32_54 S13 tl_26 h15 h17 (fun h_18 S18 p18 q18 e18 => ?_))
    refine pt_d (pt_1 (fun n d => r_aloadn gx32_55 rfl) ?_)
    refine pt_d (pt_1 (fun n d => r_dup gx32_56 rfl) ?_)
    refine pt_d (pt_getI (B := 2) gx32_57 S18 (fun v19 h19 => ?_))
    have h19 : v19.toInt = vw h 16 2 := by rw [h19, e18, up_c (by decide), e13, up_c (by decide), e10, up_c (by decide), e7, up_c (by decide)]
    refine pt_d (pt_iconst gx32_60 (fun v20 h20 => ?_))
    refine pt_d (pt_iadd gx32_61 h19 h20 (fun v21 h21 => ?_))
    refine pt_d (pt_putI (B := 2) gx32_62 S18 h21 (fun h_22 S22 e22 => ?_))
    refine pt_d (pt_1 (fun n d => r_aloadn gx32_65 rfl) ?_)
    refine pt_d (pt_getI (B := 2) gx32_66 S22 (fun v23 h23 => ?_))
    have h23 : v23.toInt = w32 ((vw h 16 2) + 1) := by rw [h23, e22, up_s]
    have H := H h_22 S22 (by rw [e22, e18, e13, e10, e7])
    exact pt_d (pt_iret gx32_69 ⟨_, rfl, by rw [h23]; exact H⟩)
def cOutV (V : vS) (a b d : Int) : vS := up (up (up (up (up V 23 (V 16 2) a) 24 (V 16 2) b) 25 (V 16 2) d) 26 (V 16 2) (V 1 0)) 16 2 (w32 (V 16 2 + 1))
def R32 (V : vS) (a b d r : Int) (V' : vS) : Prop := (40 ≤ V 16 2 ∧ r = V 16 2 ∧ V' = V) ∨ (V 16 2 < 40 ∧ 0 ≤ V 16 2 ∧ r = w32 (V 16 2 + 1) ∧ V' = cOutV V a b d)
theorem c_32 {n : Nat} {X : aX} {h : aH} {x1 x2 x3 : Int32} {a1 a2 a3 : Int} (S : wS h) (z1 : x1.toInt = a1) (z2 : x2.toInt = a2) (z3 : x3.toInt = a3) : Pt n X zM32 0 [some (.ref 16), some (.int x1), some (.int x2), some (.int x3)] [] h (qI (fun y h' => wS h' ∧ R32 (vw h) a1 a2 a3 y (vw h'))) := by
  refine pt_d (d32_0 S z1 z2 z3 ⟨fun e => ⟨S, Or.inl ⟨e, rfl, rfl⟩⟩, fun e p q g S2 eg => ⟨S2, Or.inr ⟨e, p, rfl, eg⟩⟩⟩)

theorem d159_0 {n : Nat} {X : aX} {h : aH} {P : Int → aH → Prop} {x1 x2 x3 : Int32} {a1 a2 a3 : Int} (S : wS h) (z1 : x1.toInt = a1) (z2 : x2.toInt = a2) (z3 : x3.toInt = a3) (H : ((a1 < 0 → P (-1) h) ∧ (0 ≤ a1 → ((a2 < 0 → P (-1) h) ∧ (0 ≤ a2 → (((0 ≤ a3 ∧ a3 ≤ 3649) → ((iDiv a2 100 < iDiv a1 100 → P (-1) h) ∧ (iDiv a1 100 ≤ iDiv a2 100 → ((iRem a2 100 < iRem a1 100 → P (-1) h) ∧ (iRem a1 100 ≤ iRem a2 100 → ((24 ≤ iDiv a2 100 → P (-1) h) ∧ (iDiv a2 100 < 24 → ((iRem a2 100 < 24 → ((vw h 16 2 < 40 → ∀ (y29 : Int) (h_29 : aH), (wS h_29 ∧ R32 (vw h) a1 a2 a3 y29 (vw h_29)) → P y29 h_29) ∧ (40 ≤ vw h 16 2 → P (-3) h))) ∧ (24 ≤ iRem a2 100 → P (-1) h))))))))) ∧ (¬ (0 ≤ a3 ∧ a3 ≤ 3649) → P (-1) h))))))) : Pt (n + 1) X zM159 0 [some (.ref 0), some (.int x1), some (.int x2), some (.int x3), none, none, none, none] [] h (qI P) := by
  refine pt_1 (fun n d => r_iloadn gx159_0 rfl) ?_
  refine pt_d (pt_if_lt gx159_1 z1 (fun e1 => ?_) (fun e1 => ?_))
  · have H := H.1 e1
    refine pt_d (pt_iconst gx159_15 (fun v2 h2 => ?_))
    exact pt_d (pt_iret gx159_16 ⟨_, rfl, by rw [h2]; exact H⟩)
  · have H := H.2 e1
    refine pt_d (pt_1 (fun n d => r_iloadn gx159_4 rfl) ?_)
    refine pt_d (pt_if_lt gx159_5 z2 (fun e3 => ?_) (fun e3 => ?_))
    · have H := H.1 e3
      refine pt_d (pt_iconst gx159_15 (fun v4 h4 => ?_))
      exact pt_d (pt_iret gx159_16 ⟨_, rfl, by rw [h4]; exact H⟩)
    · have H := H.2 e3
      refine pt_d (pt_1 (fun n d => r_iloadn gx159_8 rfl) ?_)
      refine pt_d (pt_stat (as := [.int x3]) (r := []) gx159_9 rfl (show zmt[138]? = some zM138 from rfl) rfl rfl rfl rfl (c_138 S z3) (kqP (fun v5 h5 => ?_)))
      show Pt _ _ _ 12 _ [.int v5] _ _
      refine pt_d (pt_ifB_ne gx159_12 h5 (fun e6 => ?_) (fun e6 => ?_))
      · have H := H.1 e6
        refine pt_d (pt_1 (fun n d => r_iloadn gx159_17 rfl) ?_)
        refine pt_d (pt_bipush gx159_18 (fun v7 h7 => ?_))
        refine pt_d (pt_idiv gx159_20 z1 h7 (fun v8 h8 => ?_))
        refine pt_d (pt_1 (fun n d => r_istore (L' := [some (.ref 0), some (.int x1), some (.int x2), some (.int x3), some (.int v8), none, none, none]) gx159_21 rfl rfl) ?_)
        refine pt_d (pt_1 (fun n d => r_iloadn gx159_23 rfl) ?_)
        refine pt_d (pt_bipush gx159_24 (fun v9 h9 => ?_))
        refine pt_d (pt_irem gx159_26 z1 h9 (fun v10 h10 => ?_))
        refine pt_d (pt_1 (fun n d => r_istore (L' := [some (.ref 0), some (.int x1), some (.int x2), some (.int x3), some (.int v8), some (.int v10), none, none]) gx159_27 rfl rfl) ?_)
        refine pt_d (pt_1 (fun n d => r_iloadn gx159_29 rfl) ?_)
        refine pt_d (pt_bipush gx159_30 (fun v11 h11 => ?_))
        refine pt_d (pt_idiv gx159_32 z2 h11 (fun v12 h12 => ?_))
        refine pt_d (pt_1 (fun n d => r_istore (L' := [some (.ref 0), some (.int x1), some (.int x2), some (.int x3), some (.int v8), some (.int v10), some (.int v12), none]) gx159_33 rfl rfl) ?_)
        refine pt_d (pt_1 (fun n d => r_iloadn gx159_35 rfl) ?_)
        refine pt_d (pt_bipush gx159_36 (fun v13 h13 => ?_))
        refine pt_d (pt_irem gx159_38 z2 h13 (fun v14 h14 => ?_))
        refine pt_d (pt_1 (fun n d => r_istore (L' := [some (.ref 0), some (.int x1), some (.int x2), some (.int x3), some (.int v8), some (.int v10), some (.int v12), some (.int v14)]) gx159_39 rfl rfl) ?_)
        refine pt_d (pt_1 (fun n d => r_iload gx159_41 rfl) ?_)
        refine pt_d (pt_1 (fun n d => r_iload gx159_43 rfl) ?_)
        refine pt_d (pt_icmp_gt gx159_45 h8 h12 (fun e15 => ?_) (fun e15 => ?_))
        · have H := H.1 e15
          refine pt_d (pt_iconst gx159_69 (fun v16 h16 => ?_))
          exact pt_d (pt_iret gx159_70 ⟨_, rfl, by rw [h16]; exact H⟩)
        · have H := H.2 e15
          refine pt_d (pt_1 (fun n d => r_iload gx159_48 rfl) ?_)
          refine pt_d (pt_1 (fun n d => r_iload gx159_50 rfl) ?_)
          refine pt_d (pt_icmp_gt gx159_52 h10 h14 (fun e17 => ?_) (fun e17 => ?_))
          · have H := H.1 e17
            refine pt_d (pt_iconst gx159_69 (fun v18 h18 => ?_))
            exact pt_d (pt_iret gx159_70 ⟨_, rfl, by rw [h18]; exact H⟩)
          · have H := H.2 e17
            refine pt_d (pt_1 (fun n d => r_iload gx159_55 rfl) ?_)
            refine pt_d (pt_bipush gx159_57 (fun v19 h19 => ?_))
            refine pt_d (pt_icmp_ge gx159_59 h12 h19 (fun e20 => ?_) (fun e20 => ?_))
            · have H := H.1 e20
              refine pt_d (pt_iconst gx159_69 (fun v21 h21 => ?_))
              exact pt_d (pt_iret gx159_70 ⟨_, rfl, by rw [h21]; exact H⟩)
            · have H := H.2 e20
              refine pt_d (pt_1 (fun n d => r_iload gx159_62 rfl) ?_)
              refine pt_d (pt_bipush gx159_64 (fun v22 h22 => ?_))
              refine pt_d (pt_icmp_lt gx159_66 h14 h22 (fun e23 => ?_) (fun e23 => ?_))
              · have H := H.1 e23
                refine pt_d (pt_1 (fun n d => r_aloadn gx159_71 rfl) ?_)
                refine pt_d (pt_getR gx159_72 S tr_0_2 ?_)
                refine pt_d (pt_getI (B := 2) gx159_75 S (fun v25 h25 => ?_))
                refine pt_d (pt_bipush gx159_78 (fun v26 h26 => ?_))
                refine pt_d (pt_icmp_lt gx159_80 h25 h26 (fun e27 => ?_) (fun e27 => ?_))
                · have H := H.1 e27
                  refine pt_d (pt_1 (fun n d => r_aloadn gx159_88 rfl) ?_)
                  refine pt_d (pt_getR gx159_89 S tr_0_2 ?_)
                  refine pt_d (pt_1 (fun n d => r_iloadn gx159_92 rfl) ?_)
                  refine pt_d (pt_1 (fun n d => r_iloadn gx159_93 rfl) ?_)
                  refine pt_d (pt_1 (fun n d => r_iloadn gx159_94 rfl) ?_)
                  refine pt_d (pt_virt (as := [.int x1, .int x2, .int x3]) (r := []) gx159_95 rfl (show zmt[32]? = some zM32 from rfl) rfl rfl rfl rfl (c_32 S z1 z2 z3) (kqI (fun v29 y29 h_29 h29 P29 => ?_)))
                  have S29 := P29.1
                  have H := H y29 h_29 P29
                  show Pt _ _ _ 98 _ [.int v29] _ _
                  exact pt_d (pt_iret gx159_98 ⟨_, rfl, by rw [h29]; exact H⟩)
                · have H := H.2 e27
                  refine pt_d (pt_bipush gx159_83 (fun v30 h30 => ?_))
                  refine pt_d (pt_1 (fun n d => r_goto gx159_85) ?_)
                  exact pt_d (pt_iret gx159_98 ⟨_, rfl, by rw [h30]; exact H⟩)
              · have H := H.2 e23
                refine pt_d (pt_iconst gx159_69 (fun v31 h31 => ?_))
                exact pt_d (pt_iret gx159_70 ⟨_, rfl, by rw [h31]; exact H⟩)
      · have H := H.2 e6
        refine pt_d (pt_iconst gx159_15 (fun v32 h32 => ?_))
        exact pt_d (pt_iret gx159_16 ⟨_, rfl, by rw [h32]; exact H⟩)
theorem d232_0 {n : Nat} {X : aX} {h : aH} {P : Int → aH → Prop} {x1 x2 x3 : Int32} {a1 a2 a3 : Int} (S : wS h) (z1 : x1.toInt = a1) (z2 : x2.toInt = a2) (z3 : x3.toInt = a3) (H : ((a1 < 0 → P (-1) h) ∧ (0 ≤ a1 → ((a2 < 0 → P (-1) h) ∧ (0 ≤ a2 → ((¬ (0 ≤ (iDiv a1 100) ∧ (iDiv a1 100) ≤ 23) → P (-1) h) ∧ ((0 ≤ (iDiv a1 100) ∧ (iDiv a1 100) ≤ 23) → ((¬ (0 ≤ (iRem a1 100) ∧ (iRem a1 100) ≤ 23) → P (-1) h) ∧ ((0 ≤ (iRem a1 100) ∧ (iRem a1 100) ≤ 23) → ((¬ ((iDiv a1 100) ≤ (iDiv a2 100) ∧ (iDiv a2 100) ≤ 23) → P (-1) h) ∧ (((iDiv a1 100) ≤ (iDiv a2 100) ∧ (iDiv a2 100) ≤ 23) → ((¬ ((iRem a1 100) ≤ (iRem a2 100) ∧ (iRem a2 100) ≤ 23) → P (-1) h) ∧ (((iRem a1 100) ≤ (iRem a2 100) ∧ (iRem a2 100) ≤ 23) → (((0 ≤ a3 ∧ a3 ≤ 3649) → ((vw h 72 25 ≠ 40 → (0 ≤ vw h 72 25 → vw h 72 25 < 40 → ∀ h_72 : aH, wS h_72 → vw h_72 = up (up (up (up (up (up (up (up (vw h) 92 (vw h 72 25) (iDiv a1 100)) 93 (vw h 72 25) (iRem a1 100)) 94 (vw h 72 25) (iDiv a2 100)) 95 (vw h 72 25) (iRem a2 100)) 96 (vw h 72 25) a3) 97 (vw h 72 25) (vw h 72 1)) 72 25 (w32 ((vw h 72 25) + 1))) 72 38 1 → P (w32 ((vw h 72 25) + 1)) h_72)) ∧ (vw h 72 25 = 40 → P (-3) h))) ∧ (¬ (0 ≤ a3 ∧ a3 ≤ 3649) → P (-1) h))))))))))))))) : Pt (n + 1) X zM232 0 [some (.ref 72), some (.int x1), some (.int x2), some (.int x3)] [] h (qI P) := by
  refine pt_1 (fun n d => r_iloadn gx232_0 rfl) ?_
  refine pt_d (pt_if_lt gx232_1 z1 (fun e1 => ?_) (fun e1 => ?_))
  · have H := H.1 e1
    refine pt_d (pt_iconst gx232_73 (fun v2 h2 => ?_))
    exact pt_d (pt_iret gx232_74 ⟨_, rfl, by rw [h2]; exact H⟩)
  · have H := H.2 e1
    refine pt_d (pt_1 (fun n d => r_iloadn gx232_4 rfl) ?_)
    refine pt_d (pt_if_lt gx232_5 z2 (fun e3 => ?_) (fun e3 => ?_))
    · have H := H.1 e3
      refine pt_d (pt_iconst gx232_73 (fun v4 h4 => ?_))
      exact pt_d (pt_iret gx232_74 ⟨_, rfl, by rw [h4]; exact H⟩)
    · have H := H.2 e3
      refine pt_d (pt_1 (fun n d => r_iloadn gx232_8 rfl) ?_)
      refine pt_d (pt_bipush gx232_9 (fun v5 h5 => ?_))
      refine pt_d (pt_idiv gx232_11 z1 h5 (fun v6 h6 => ?_))
      refine pt_d (pt_iconst gx232_12 (fun v7 h7 => ?_))
      refine pt_d (pt_bipush gx232_13 (fun v8 h8 => ?_))
      refine pt_d (pt_stat (as := [.int v6, .int v7, .int v8]) (r := []) gx232_15 rfl (show zmt[196]? = some zM196 from rfl) rfl rfl rfl rfl (c_196 S h6 h7 h8) (kqP (fun v9 h9 => ?_)))
      show Pt _ _ _ 18 _ [.int v9] _ _
      refine pt_d (pt_ifB_eq gx232_18 h9 (fun e10 => ?_) (fun e10 => ?_))
      · have H := H.1 e10
        refine pt_d (pt_iconst gx232_73 (fun v11 h11 => ?_))
        exact pt_d (pt_iret gx232_74 ⟨_, rfl, by rw [h11]; exact H⟩)
      · have H := H.2 e10
        refine pt_d (pt_1 (fun n d => r_iloadn gx232_21 rfl) ?_)
        refine pt_d (pt_bipush gx232_22 (fun v12 h12 => ?_))
        refine pt_d (pt_irem gx232_24 z1 h12 (fun v13 h13 => ?_))
        refine pt_d (pt_iconst gx232_25 (fun v14 h14 => ?_))
        refine pt_d (pt_bipush gx232_26 (fun v15 h15 => ?_))
        refine pt_d (pt_stat (as := [.int v13, .int v14, .int v15]) (r := []) gx232_28 rfl (show zmt[196]? = some zM196 from rfl) rfl rfl rfl rfl (c_196 S h13 h14 h15) (kqP (fun v16 h16 => ?_)))
        show Pt _ _ _ 31 _ [.int v16] _ _
        refine pt_d (pt_ifB_eq gx232_31 h16 (fun e17 => ?_) (fun e17 => ?_))
        · have H := H.1 e17
          refine pt_d (pt_iconst gx232_73 (fun v18 h18 => ?_))
          exact pt_d (pt_iret gx232_74 ⟨_, rfl, by rw [h18]; exact H⟩)
        · have H := H.2 e17
          refine pt_d (pt_1 (fun n d => r_iloadn gx232_34 rfl) ?_)
          refine pt_d (pt_bipush gx232_35 (fun v19 h19 => ?_))
          refine pt_d (pt_idiv gx232_37 z2 h19 (fun v20 h20 => ?_))
          refine pt_d (pt_1 (fun n d => r_iloadn gx232_38 rfl) ?_)
          refine pt_d (pt_bipush gx232_39 (fun v21 h21 => ?_))
          refine pt_d (pt_idiv gx232_41 z1 h21 (fun v22 h22 => ?_))
          refine pt_d (pt_bipush gx232_42 (fun v23 h23 => ?_))
          refine pt_d (pt_stat (as := [.int v20, .int v22, .int v23]) (r := []) gx232_44 rfl (show zmt[196]? = some zM196 from rfl) rfl rfl rfl rfl (c_196 S h20 h22 h23) (kqP (fun v24 h24 => ?_)))
          show Pt _ _ _ 47 _ [.int v24] _ _
          refine pt_d (pt_ifB_eq gx232_47 h24 (fun e25 => ?_) (fun e25 => ?_))
          · have H := H.1 e25
            refine pt_d (pt_iconst gx232_73 (fun v26 h26 => ?_))
            exact pt_d (pt_iret gx232_74 ⟨_, rfl, by rw [h26]; exact H⟩)
          · have H := H.2 e25
            refine pt_d (pt_1 (fun n d => r_iloadn gx232_50 rfl) ?_)
            refine pt_d (pt_bipush gx232_51 (fun v27 h27 => ?_))
            refine pt_d (pt_irem gx232_53 z2 h27 (fun v28 h28 => ?_))
            refine pt_d (pt_1 (fun n d => r_iloadn gx232_54 rfl) ?_)
            refine pt_d (pt_bipush gx232_55 (fun v29 h29 => ?_))
            refine pt_d (pt_irem gx232_57 z1 h29 (fun v30 h30 => ?_))
            refine pt_d (pt_bipush gx232_58 (fun v31 h31 => ?_))
            refine pt_d (pt_stat (as := [.int v28, .int v30, .int v31]) (r := []) gx232_60 rfl (show zmt[196]? = some zM196 from rfl) rfl rfl rfl rfl (c_196 S h28 h30 h31) (kqP (fun v32 h32 => ?_)))
            show Pt _ _ _ 63 _ [.int v32] _ _
            refine pt_d (pt_ifB_eq gx232_63 h32 (fun e33 => ?_) (fun e33 => ?_))
            · have H := H.1 e33
              refine pt_d (pt_iconst gx232_73 (fun v34 h34 => ?_))
              exact pt_d (pt_iret gx232_74 ⟨_, rfl, by rw [h34]; exact H⟩)
            · have H := H.2 e33
              refine pt_d (pt_1 (fun n d => r_iloadn gx232_66 rfl) ?_)
              refine pt_d (pt_stat (as := [.int x3]) (r := []) gx232_67 rfl (show zmt[197]? = some zM197 from rfl) rfl rfl rfl rfl (c_197 S z3) (kqP (fun v35 h35 => ?_)))
              show Pt _ _ _ 70 _ [.int v35] _ _
              refine pt_d (pt_ifB_ne gx232_70 h35 (fun e36 => ?_) (fun e36 => ?_))
              · have H := H.1 e36
                refine pt_d (pt_1 (fun n d => r_aloadn gx232_75 rfl) ?_)
                refine pt_d (pt_getI (B := 25) gx232_76 S (fun v37 h37 => ?_))
                refine pt_d (pt_bipush gx232_79 (fun v38 h38 => ?_))
                refine pt_d (pt_icmp_ne gx232_81 h37 h38 (fun e39 => ?_) (fun e39 => ?_))
                · have H := H.1 e39
                  refine pt_d (pt_1 (fun n d => r_aloadn gx232_87 rfl) ?_)
                  refine pt_d (pt_getR gx232_88 S tr_72_26 ?_)
                  refine pt_d (pt_1 (fun n d => r_aloadn gx232_91 rfl) ?_)
                  refine pt_d (pt_getI (B := 25) gx232_92 S (fun v41 h41 => ?_))
                  refine pt_d (pt_1 (fun n d => r_iloadn gx232_95 rfl) ?_)
                  refine pt_d (pt_bipush gx232_96 (fun v42 h42 => ?_))
                  refine pt_d (pt_idiv gx232_98 z1 h42 (fun v43 h43 => ?_))
                  refine pt_d (pt_iast (N' := 40) gx232_99 S tl_92 h41 h43 (fun h_44 S44 p44 q44 e44 => ?_))
                  have H := H p44 q44
                  refine pt_d (pt_1 (fun n d => r_aloadn gx232_100 rfl) ?_)
                  refine pt_d (pt_getR gx232_101 S44 tr_72_27 ?_)
                  refine pt_d (pt_1 (fun n d => r_aloadn gx232_104 rfl) ?_)
                  refine pt_d (pt_getI (B := 25) gx232_105 S44 (fun v46 h46 => ?_))
                  have h46 : v46.toInt = vw h 72 25 := by rw [h46, e44, up_c (by decide)]
                  refine pt_d (pt_1 (fun n d => r_iloadn gx232_108 rfl) ?_)
                  refine pt_d (pt_bipush gx232_109 (fun v47 h47 => ?_))
                  refine pt_d (pt_irem gx232_111 z1 h47 (fun v48 h48 => ?_))
                  refine pt_d (pt_iast (N' := 40) gx232_112 S44 tl_93 h46 h48 (fun h_49 S49 p49 q49 e49 => ?_))
                  refine pt_d (pt_1 (fun n d => r_aloadn gx232_113 rfl) ?_)
                  refine pt_d (pt_getR gx232_114 S49 tr_72_28 ?_)
                  refine pt_d (pt_1 (fun n d => r_aloadn gx232_117 rfl) ?_)
                  refine pt_d (pt_getI (B := 25) gx232_118 S49 (fun v51 h51 => ?_))
                  have h51 : v51.toInt = vw h 72 25 := by rw [h51, e49, up_c (by decide), e44, up_c (by decide)]
                  refine pt_d (pt_1 (fun n d => r_iloadn gx232_121 rfl) ?_)
                  refine pt_d (pt_bipush gx232_122 (fun v52 h52 => ?_))
                  refine pt_d (pt_idiv gx232_124 z2 h52 (fun v53 h53 => ?_))
                  refine pt_d (pt_iast (N' := 40) gx232_125 S49 tl_94 h51 h53 (fun h_54 S54 p54 q54 e54 => ?_))
                  refine pt_d (pt_1 (fun n d => r_aloadn gx232_126 rfl) ?_)
                  refine pt_d (pt_getR gx232_127 S54 tr_72_29 ?_)
                  refine pt_d (pt_1 (fun n d => r_aloadn gx232_130 rfl) ?_)
                  refine pt_d (pt_getI (B := 25) gx232_131 S54 (fun v56 h56 => ?_))
                  have h56 : v56.toInt = vw h 72 25 := by rw [h56, e54, up_c (by decide), e49, up_c (by decide), e44, up_c (by decide)]
                  refine pt_d (pt_1 (fun n d => r_iloadn gx232_134 rfl) ?_)
                  refine pt_d (pt_bipush gx232_135 (fun v57 h57 => ?_))
                  refine pt_d (pt_irem gx232_137 z2 h57 (fun v58 h58 => ?_))
                  refine pt_d (pt_iast (N' := 40) gx232_138 S54 tl_95 h56 h58 (fun h_59 S59 p59 q59 e59 => ?_))
                  refine pt_d (pt_1 (fun n d => r_aloadn gx232_139 rfl) ?_)
                  refine pt_d (pt_getR gx232_140 S59 tr_72_30 ?_)
                  refine pt_d (pt_1 (fun n d => r_aloadn gx232_143 rfl) ?_)
                  refine pt_d (pt_getI (B := 25) gx232_144 S59 (fun v61 h61 => ?_))
                  have h61 : v61.toInt = vw h 72 25 := by rw [h61, e59, up_c (by decide), e54, up_c (by decide), e49, up_c (by decide), e44, up_c (by decide)]
                  refine pt_d (pt_1 (fun n d => r_iloadn gx232_147 rfl) ?_)
                  refine pt_d (pt_iast (N' := 40) gx232_148 S59 tl_96 h61 z3 (fun h_62 S62 p62 q62 e62 => ?_))
                  refine pt_d (pt_1 (fun n d => r_aloadn gx232_149 rfl) ?_)
                  refine pt_d (pt_getR gx232_150 S62 tr_72_31 ?_)
                  refine pt_d (pt_1 (fun n d => r_aloadn gx232_153 rfl) ?_)
                  refine pt_d (pt_getI (B := 25) gx232_154 S62 (fun v64 h64 => ?_))
                  have h64 : v64.toInt = vw h 72 25 := by rw [h64, e62, up_c (by decide), e59, up_c (by decide), e54, up_c (by decide), e49, up_c (by decide), e44, up_c (by decide)]
                  refine pt_d (pt_1 (fun n d => r_aloadn gx232_157 rfl) ?_)
                  refine pt_d (pt_getI (B := 1) gx232_158 S62 (fun v65 h65 => ?_))
                  have h65 : v65.toInt = vw h 72 1 := by rw [h65, e62, up_c (by decide), e59, up_c (by decide), e54, up_c (by decide), e49, up_c (by decide), e44, up_c (by decide)]
                  refine pt_d (pt_iast (N' := 40) gx232_161 S62 tl_97 h64 h65 (fun h_66 S66 p66 q66 e66 => ?_))
                  refine pt_d (pt_1 (fun n d => r_aloadn gx232_162 rfl) ?_)
                  refine pt_d (pt_1 (fun n d => r_dup gx232_163 rfl) ?_)
                  refine pt_d (pt_getI (B := 25) gx232_164 S66 (fun v67 h67 => ?_))
                  have h67 : v67.toInt = vw h 72 25 := by rw [h67, e66, up_c (by decide), e62, up_c (by decide), e59, up_c (by decide), e54, up_c (by decide), e49, up_c (by decide), e44, up_c (by decide)]
                  refine pt_d (pt_iconst gx232_167 (fun v68 h68 => ?_))
                  refine pt_d (pt_iadd gx232_168 h67 h68 (fun v69 h69 => ?_))
                  refine pt_d (pt_putI (B := 25) gx232_169 S66 h69 (fun h_70 S70 e70 => ?_))
                  refine pt_d (pt_1 (fun n d => r_aloadn gx232_172 rfl) ?_)
                  refine pt_d (pt_iconst gx232_173 (fun v71 h71 => ?_))
                  refine pt_d (pt_putI (B := 38) gx232_174 S70 h71 (fun h_72 S72 e72 => ?_))
                  refine pt_d (pt_1 (fun n d => r_aloadn gx232_177 rfl) ?_)
                  refine pt_d (pt_getI (B := 25) gx232_178 S72 (fun v73 h73 => ?_))
                  have h73 : v73.toInt = w32 ((vw h 72 25) + 1) := by rw [h73, e72, up_j (by decide), e70, up_s]
                  have H := H h_72 S72 (by rw [e72, e70, e66, e62, e59, e54, e49, e44])
                  exact pt_d (pt_iret gx232_181 ⟨_, rfl, by rw [h73]; exact H⟩)
                · have H := H.2 e39
                  refine pt_d (pt_bipush gx232_84 (fun v74 h74 => ?_))
                  exact pt_d (pt_iret gx232_86 ⟨_, rfl, by rw [h74]; exact H⟩)
              · have H := H.2 e36
                refine pt_d (pt_iconst gx232_73 (fun v75 h75 => ?_))
                exact pt_d (pt_iret gx232_74 ⟨_, rfl, by rw [h75]; exact H⟩)
def okOut (a b d : Int) : Prop := 0 ≤ a ∧ 0 ≤ b ∧ (0 ≤ d ∧ d ≤ 3649) ∧ iDiv a 100 ≤ iDiv b 100 ∧ iRem a 100 ≤ iRem b 100 ∧ iDiv b 100 < 24 ∧ iRem b 100 < 24
def R159 (V : vS) (a b d r : Int) (V' : vS) : Prop := (a ≤ 2147483647 ∧ b ≤ 2147483647) ∧ ((¬ okOut a b d ∧ r = -1 ∧ V' = V) ∨ (okOut a b d ∧ 40 ≤ V 16 2 ∧ r = -3 ∧ V' = V) ∨ (okOut a b d ∧ V 16 2 < 40 ∧ R32 V a b d r V'))
theorem c_159 {n : Nat} {X : aX} {h : aH} {x1 x2 x3 : Int32} {a1 a2 a3 : Int} (S : wS h) (z1 : x1.toInt = a1) (z2 : x2.toInt = a2) (z3 : x3.toInt = a3) : Pt n X zM159 0 [some (.ref 0), some (.int x1), some (.int x2), some (.int x3), none, none, none, none] [] h (qI (fun y h' => R159 (vw h) a1 a2 a3 y (vw h'))) := by
  have b1 : a1 ≤ 2147483647 := by have := iR x1; omega
  have b2 : a2 ≤ 2147483647 := by have := iR x2; omega
  have bad : ¬ okOut a1 a2 a3 → R159 (vw h) a1 a2 a3 (-1) (vw h) := fun z => ⟨⟨b1, b2⟩, Or.inl ⟨z, rfl, rfl⟩⟩
  refine pt_d (d159_0 S z1 z2 z3 ⟨fun e => bad ?_, fun e => ⟨fun e2 => bad ?_, fun e2 => ⟨fun e3 => ⟨fun e4 => bad ?_, fun e4 => ⟨fun e5 => bad ?_, fun e5 => ⟨fun e6 => bad ?_, fun e6 => ⟨fun e7 => ?_, fun e7 => bad ?_⟩⟩⟩⟩, fun e3 => bad ?_⟩⟩⟩)
  all_goals try (unfold okOut; omega)
  have ok : okOut a1 a2 a3 := ⟨e, e2, e3, e4, e5, e6, e7⟩
  exact ⟨fun e8 y g p => ⟨⟨b1, b2⟩, Or.inr (Or.inr ⟨ok, e8, p.2⟩)⟩, fun e8 => ⟨⟨b1, b2⟩, Or.inr (Or.inl ⟨ok, e8, rfl, rfl⟩)⟩⟩
def okOum (a b d : Int) : Prop := 0 ≤ a ∧ 0 ≤ b ∧ (0 ≤ iDiv a 100 ∧ iDiv a 100 ≤ 23) ∧ (0 ≤ iRem a 100 ∧ iRem a 100 ≤ 23) ∧ (iDiv a 100 ≤ iDiv b 100 ∧ iDiv b 100 ≤ 23) ∧ (iRem a 100 ≤ iRem b 100 ∧ iRem b 100 ≤ 23) ∧ 0 ≤ d ∧ d ≤ 3649
def mOutV (V : vS) (a b d : Int) : vS := up (up (up (up (up (up (up (up V 92 (V 72 25) (iDiv a 100)) 93 (V 72 25) (iRem a 100)) 94 (V 72 25) (iDiv b 100)) 95 (V 72 25) (iRem b 100)) 96 (V 72 25) d) 97 (V 72 25) (V 72 1)) 72 25 (w32 (V 72 25 + 1))) 72 38 1
def R232 (V : vS) (a b d r : Int) (V' : vS) : Prop := (¬ okOum a b d ∧ r = -1 ∧ V' = V) ∨ (okOum a b d ∧ V 72 25 = 40 ∧ r = -3 ∧ V' = V) ∨ (okOum a b d ∧ V 72 25 ≠ 40 ∧ r = w32 (V 72 25 + 1) ∧ V' = mOutV V a b d)
theorem c_232 {n : Nat} {X : aX} {h : aH} {x1 x2 x3 : Int32} {a1 a2 a3 : Int} (S : wS h) (z1 : x1.toInt = a1) (z2 : x2.toInt = a2) (z3 : x3.toInt = a3) : Pt n X zM232 0 [some (.ref 72), some (.int x1), some (.int x2), some (.int x3)] [] h (qI (fun y h' => R232 (vw h) a1 a2 a3 y (vw h'))) := by
  have bad : ¬ okOum a1 a2 a3 → R232 (vw h) a1 a2 a3 (-1) (vw h) := fun z => Or.inl ⟨z, rfl, rfl⟩
  refine pt_d (d232_0 S z1 z2 z3 ⟨fun e => bad ?_, fun e => ⟨fun e2 => bad ?_, fun e2 => ⟨fun e3 => bad ?_, fun e3 => ⟨fun e4 => bad ?_, fun e4 => ⟨fun e5 => bad ?_, fun e5 => ⟨fun e6 => bad ?_, fun e6 => ⟨fun e7 => ?_, fun e7 => bad ?_⟩⟩⟩⟩⟩⟩⟩)
  all_goals try (unfold okOum; omega)
  have ok : okOum a1 a2 a3 := ⟨e, e2, e3, e4, e5, e6, e7⟩
  exact ⟨fun e8 p q g S2 eg => Or.inr (Or.inr ⟨ok, e8, rfl, eg⟩), fun e8 => Or.inr (Or.inl ⟨ok, e8, rfl, rfl⟩)⟩

def bg (V : vS) (v : Int) : vS := if V 66 1 < 24 then up (up V 67 (V 66 1) v) 66 1 (w32 (V 66 1 + 1)) else up V 66 1 (w32 (V 66 1 + 1))
end
section
def JOut1 (V : vS) (j : Int) : Prop := V 92 j = iDiv (V 23 j) 100 ∧ V 93 j = iRem (V 23 j) 100 ∧ V 94 j = iDiv (V 24 j) 100 ∧ V 95 j = iRem (V 24 j) 100 ∧ V 96 j = V 25 j ∧ V 97 j = V 26 j
def JOut (V : vS) : Prop := V 16 2 = V 72 25 ∧ 0 ≤ V 16 2 ∧ V 16 2 ≤ 40 ∧ ∀ j, 0 ≤ j → j < V 16 2 → JOut1 V j
theorem okOut_j {a b d : Int} (ha : a ≤ 2147483647) (hb : b ≤ 2147483647) : okOut a b d ↔ okOum a b d := by
  unfold okOut okOum
  constructor
  · rintro ⟨h1, h2, h3, h4, h5, h6, h7⟩
    have e1 := iDiv_pos (a := a) (b := 100) h1 ha (by decide) (by decide)
    have e2 := iRem_pos (a := a) (b := 100) h1 ha (by decide) (by decide)
    have e3 := iDiv_pos (a := b) (b := 100) h2 hb (by decide) (by decide)
    have e4 := iRem_pos (a := b) (b := 100) h2 hb (by decide) (by decide)
    omega
  · rintro ⟨h1, h2, h3, h4, h5, h6, h7⟩
    omega
theorem jx_15 {V V1 V2 : vS} {a b d r1 r2 : Int} (L : JOut V) (hd : V 1 0 = V 72 1) (c : R159 V a b d r1 V1) (m : R232 V1 a b d r2 V2) : JOut V2 ∧ r1 = r2 := by
  obtain ⟨⟨ha, hb⟩, c⟩ := c
  have ok := okOut_j (d := d) ha hb
  have L0 := L
  obtain ⟨l1, l2, l3, l4⟩ := L0
  rcases c with ⟨k, rfl, rfl⟩ | ⟨k, k1, rfl, rfl⟩ | ⟨k, k1, ⟨k2, -, -⟩ | ⟨k2, k3, hr, rfl⟩⟩
  · rcases m with ⟨b0, rfl, rfl⟩ | ⟨b0, -⟩ | ⟨b0, -⟩
    · exact ⟨L, rfl⟩
    · exact absurd (ok.mpr b0) k
    · exact absurd (ok.mpr b0) k
  · rcases m with ⟨b0, rfl, rfl⟩ | ⟨b0, b1, rfl, rfl⟩ | ⟨b0, b1, -⟩
    · exact absurd (ok.mp k) b0
    · exact ⟨L, rfl⟩
    · omega
  · omega
  · have w : ∀ (c : Nat) (j : Int), c ≠ 16 → c ≠ 23 → c ≠ 24 → c ≠ 25 → c ≠ 26 → cOutV V a b d c j = V c j := fun c j h1 h2 h3 h4 h5 => by unfold cOutV; rw [up_c h1, up_c h5, up_c h4, up_c h3, up_c h2]
    have w16 : cOutV V a b d 16 2 = w32 (V 16 2 + 1) := by unfold cOutV; rw [up_s]
    have w23 : ∀ j, cOutV V a b d 23 j = if j = V 16 2 then a else V 23 j := fun j => by unfold cOutV; rw [up_c (by decide), up_c (by decide), up_c (by decide), up_c (by decide), up_p]
    have w24 : ∀ j, cOutV V a b d 24 j = if j = V 16 2 then b else V 24 j := fun j => by unfold cOutV; rw [up_c (by decide), up_c (by decide), up_c (by decide), up_p, up_c (by decide)]
    have w25 : ∀ j, cOutV V a b d 25 j = if j = V 16 2 then d else V 25 j := fun j => by unfold cOutV; rw [up_c (by decide), up_c (by decide), up_p, up_c (by decide), up_c (by decide)]
    have w26 : ∀ j, cOutV V a b d 26 j = if j = V 16 2 then V 1 0 else V 26 j := fun j => by unfold cOutV; rw [up_c (by decide), up_p, up_c (by decide), up_c (by decide), up_c (by decide)]
    generalize cOutV V a b d = W at m w w16 w23 w24 w25 w26
    have y : ∀ (c : Nat) (j : Int), 72 ≤ c → W c j = V c j := fun c j h => w c j (by omega) (by omega) (by omega) (by omega) (by omega)
    have e25 := y 72 25 (by decide)
    have e1 := y 72 1 (by decide)
    have w1 : w32 (V 16 2 + 1) = V 16 2 + 1 := w32_id (by omega) (by omega)
    rcases m with ⟨b0, -⟩ | ⟨b0, b1, -⟩ | ⟨b0, b1, hr2, rfl⟩
    · exact absurd (ok.mp k) b0
    · omega
    · have q : ∀ (c : Nat) (j : Int), c ≠ 72 → c ≠ 92 → c ≠ 93 → c ≠ 94 → c ≠ 95 → c ≠ 96 → c ≠ 97 → mOutV W a b d c j = W c j := fun c j h1 h2 h3 h4 h5 h6 h7 => by unfold mOutV; rw [up_c h1, up_c h1, up_c h7, up_c h6, up_c h5, up_c h4, up_c h3, up_c h2]
      have q25 : mOutV W a b d 72 25 = w32 (W 72 25 + 1) := by unfold mOutV; rw [up_j (by decide), up_s]
      have q92 : ∀ j, mOutV W a b d 92 j = if j = W 72 25 then iDiv a 100 else W 92 j := fun j => by unfold mOutV; rw [up_c (by decide), up_c (by decide), up_c (by decide), up_c (by decide), up_c (by decide), up_c (by decide), up_c (by decide), up_p]
      have q93 : ∀ j, mOutV W a b d 93 j = if j = W 72 25 then iRem a 100 else W 93 j := fun j => by unfold mOutV; rw [up_c (by decide), up_c (by decide), up_c (by decide), up_c (by decide), up_c (by decide), up_c (by decide), up_p, up_c (by decide)]
      have q94 : ∀ j, mOutV W a b d 94 j = if j = W 72 25 then iDiv b 100 else W 94 j := fun j => by unfold mOutV; rw [up_c (by decide), up_c (by decide), up_c (by decide), up_c (by decide), up_c (by decide), up_p, up_c (by decide), up_c (by decide)]
      have q95 : ∀ j, mOutV W a b d 95 j = if j = W 72 25 then iRem b 100 else W 95 j := fun j => by unfold mOutV; rw [up_c (by decide), up_c (by decide), up_c (by decide), up_c (by decide), up_p, up_c (by decide), up_c (by decide), up_c (by decide)]
      have q96 : ∀ j, mOutV W a b d 96 j = if j = W 72 25 then d else W 96 j := fun j => by unfold mOutV; rw [up_c (by decide), up_c (by decide), up_c (by decide), up_p, up_c (by decide), up_c (by decide), up_c (by decide), up_c (by decide)]
      have q97 : ∀ j, mOutV W a b d 97 j = if j = W 72 25 then W 72 1 else W 97 j := fun j => by unfold mOutV; rw [up_c (by decide), up_c (by decide), up_p, up_c (by decide), up_c (by decide), up_c (by decide), up_c (by decide), up_c (by decide)]
      generalize mOutV W a b d = U at q q25 q92 q93 q94 q95 q96 q97
      have u16 : U 16 2 = V 16 2 + 1 := by rw [q 16 2 (by decide) (by decide) (by decide) (by decide) (by decide) (by decide) (by decide), w16, w1]
      refine ⟨⟨by rw [u16, q25, e25, ← l1, w1], by omega, by omega, fun j j0 j1 => ?_⟩, by rw [hr, hr2, e25, l1]⟩
      rw [u16] at j1
      unfold JOut1
      rw [q92, q93, q94, q95, q96, q97, q 23 j (by decide) (by decide) (by decide) (by decide) (by decide) (by decide) (by decide), q 24 j (by decide) (by decide) (by decide) (by decide) (by decide) (by decide) (by decide), q 25 j (by decide) (by decide) (by decide) (by decide) (by decide) (by decide) (by decide), q 26 j (by decide) (by decide) (by decide) (by decide) (by decide) (by decide) (by decide), w23, w24, w25, w26, e25, e1, ← l1, ← hd, y 92 j (by decide), y 93 j (by decide), y 94 j (by decide), y 95 j (by decide), y 96 j (by decide), y 97 j (by decide)]
      by_cases z : j = V 16 2
      · simp only [if_pos z, and_self]
      · simp only [if_neg z]
        exact l4 j j0 (by omega)
def LOut : List (Nat × Option Nat) := [(16, some 2), (72, some 25), (92, none), (93, none), (94, none), (95, none), (96, none), (97, none), (23, none), (24, none), (25, none), (26, none)]
theorem JOut_ag {V V' : vS} (J : JOut V) (A : ag LOut V V') : JOut V' := by
  obtain ⟨a1, a2, a3, a4, a5, a6, a7, a8, a9, a10, a11, a12, -⟩ := A
  have a1 : V' 16 2 = V 16 2 := a1
  have a2 : V' 72 25 = V 72 25 := a2
  unfold JOut JOut1
  simp only [a1, a2, a3, a4, a5, a6, a7, a8, a9, a10, a11, a12]
  exact J
theorem JOut_dG {W : List (Nat × Nat)} {σ σ1 : List Nat} {h h1 : aH} (J : JOut (vw h)) (I : dI σ h) (G : dG W σ h σ1 h1) (k : frL W LOut = true) : JOut (vw h1) := JOut_ag J (ag_dG I.1 G _ k)
theorem zJOut0 : JOut (vw zH0) := by
  have e1 : vw zH0 16 2 = 0 := vzf (i := 2) (x := 0) zh16 rfl
  have e2 : vw zH0 72 25 = 0 := vzf (i := 25) (x := 0) zh72 rfl
  exact ⟨by rw [e1, e2], by rw [e1]; decide, by rw [e1]; decide, fun j h0 h1 => by rw [e1] at h1; omega⟩
end
section
theorem sz {f y : Int} (h0 : 0 ≤ f) (h1 : f < 150) (h2 : 0 ≤ y) (h3 : y ≤ 23) : w32 (w32 (f * 24) + y) = 24 * f + y := by
  rw [w32_id (z := f * 24) (by omega) (by omega), w32_id (by omega) (by omega)]
  omega
end
section
-- ===== the rows of squares of both sides are one =====
def tb (a : Int) (x : Nat) : Bool := (Int32.ofInt a).toBitVec.getLsbD x
theorem tb_xor (a b : Int) (x : Nat) : tb (bXor a b) x = Bool.xor (tb a x) (tb b x) := by
  unfold tb bXor
  rw [oI, Int32.toBitVec_xor, BitVec.getLsbD_xor]
theorem tb_or (a b : Int) (x : Nat) : tb (bOr a b) x = (tb a x || tb b x) := by
  unfold tb bOr
  rw [oI, Int32.toBitVec_or, BitVec.getLsbD_or]
theorem tb_0' : ∀ x : Fin 32, tb 0 x.val = false := by decide +kernel
theorem tb_0 {x : Nat} (h : x < 32) : tb 0 x = false := tb_0' ⟨x, h⟩
theorem tb_m1 : ∀ s : Fin 25, ∀ x : Fin 32, tb (bAnd 16777215 (bShl (-1) (s.val : Int))) x.val = decide (s.val ≤ x.val ∧ x.val < 24) := by decide +kernel
theorem tb_1 : ∀ s : Fin 24, ∀ x : Fin 32, tb (bShl 1 (s.val : Int)) x.val = decide (x.val = s.val) := by decide +kernel
theorem tb_ext {a b : Int32} (h : ∀ x, x < 32 → tb a.toInt x = tb b.toInt x) : a.toInt = b.toInt := by
  have e : a = b := by
    refine Int32.toBitVec_inj.mp (BitVec.eq_of_getLsbD_eq (fun i hi => ?_))
    have := h i hi
    unfold tb at this
    rw [oI, oI] at this
    exact this
  rw [e]
def crB (V : vS) (y : Int) (k : Nat) : Bool := decide (min (V 15 (2 * (k : Nat) + 1)) (V 15 (cNxt V (2 * (k : Nat) + 1))) ≤ y ∧ y < max (V 15 (2 * (k : Nat) + 1)) (V 15 (cNxt V (2 * (k : Nat) + 1))))
def rT (V : vS) (y : Int) : Nat → Bool
  | 0 => false
  | k + 1 => Bool.xor (rT V y k) (crB V y k)
def rP (V : vS) (x y : Int) : Nat → Bool
  | 0 => false
  | k + 1 => Bool.xor (rP V x y k) (crB V y k && decide (V 14 (2 * (k : Nat) + 1) ≤ x))
theorem cIns_i (V : vS) (y : Int) : ∀ k, ∃ z : Int32, cIns V y k = z.toInt
  | 0 => ⟨0, rfl⟩
  | k + 1 => by
    unfold cIns
    split
    · exact ⟨_, rfl⟩
    · exact cIns_i V y k
theorem mRw_i (V : vS) (y : Int) : ∀ k, ∃ z : Int32, mRw V y k = z.toInt
  | 0 => ⟨0, rfl⟩
  | k + 1 => by
    unfold mRw
    split
    · exact ⟨_, rfl⟩
    · exact ⟨_, rfl⟩
theorem tb_c {V : vS} (hx : ∀ j, 0 ≤ j → j < 12 → 0 ≤ V 14 j ∧ V 14 j ≤ 24) (y : Int) {x : Nat} (h : x < 32) : ∀ k : Nat, 2 * k ≤ 12 → tb (cIns V y k) x = (rP V (x : Nat) y k && decide (x < 24))
  | 0, _ => tb_0 h
  | k + 1, hk => by
    have ih := tb_c hx y h k (by omega)
    have es : rP V (x : Nat) y (k + 1) = Bool.xor (rP V (x : Nat) y k) (crB V y k && decide (V 14 (2 * (k : Nat) + 1) ≤ (x : Nat))) := rfl
    rw [es]
    unfold cIns
    by_cases q : min (V 15 (2 * (k : Nat) + 1)) (V 15 (cNxt V (2 * (k : Nat) + 1))) ≤ y ∧ y < max (V 15 (2 * (k : Nat) + 1)) (V 15 (cNxt V (2 * (k : Nat) + 1)))
    · have hb : crB V y k = true := decide_eq_true q
      obtain ⟨h0, h1⟩ := hx (2 * (k : Nat) + 1) (by omega) (by omega)
      obtain ⟨s, hs⟩ : ∃ s : Nat, V 14 (2 * (k : Nat) + 1) = (s : Int) := ⟨_, (Int.toNat_of_nonneg h0).symm⟩
      rw [if_pos q, tb_xor, ih, hb, hs, tb_m1 ⟨s, by omega⟩ ⟨x, h⟩]
      have e1 : decide ((s : Int) ≤ (x : Nat)) = decide (s ≤ x) := by
        rw [decide_eq_decide]; omega
      have e2 : decide (s ≤ x ∧ x < 24) = (decide (s ≤ x) && decide (x < 24)) := Bool.decide_and _ _
      rw [e1, e2]
      cases rP V (x : Nat) y k <;> cases decide (s ≤ x) <;> cases decide (x < 24) <;> rfl
    · have hb : crB V y k = false := decide_eq_false q
      rw [if_neg q, ih, hb]
      cases rP V (x : Nat) y k <;> rfl
theorem tb_m {V : vS} (y : Int) {x : Nat} (h : x < 32) : ∀ k : Nat, k ≤ 24 → tb (mRw V y k) x = (decide (x < k) && decide (mInR V (x : Nat) y ≠ 0))
  | 0, _ => tb_0 h
  | k + 1, hk => by
    have ih := tb_m (V := V) y h k (by omega)
    have e2 : decide (x < k + 1) = (decide (x < k) || decide (x = k)) := by
      rw [← Bool.decide_or, decide_eq_decide]; omega
    unfold mRw
    by_cases q : mInR V (k : Nat) y ≠ 0
    · rw [if_pos q, tb_or, ih, tb_1 ⟨k, by omega⟩ ⟨x, h⟩, e2]
      by_cases z : x = k
      · subst z
        rw [decide_eq_true q]
        cases decide (x < x) <;> simp
      · simp [z]
    · rw [if_neg q, tb_or, ih, tb_0 h, e2]
      by_cases z : x = k
      · subst z
        rw [decide_eq_false q]
        cases decide (x < x) <;> simp
      · simp [z]
theorem par_m {V : vS} (J : JRing V) (hy : ∀ j, 0 ≤ j → j < 12 → 0 ≤ V 15 j ∧ V 15 j ≤ 24) (x y : Int) : ∀ k : Nat, 2 * (k : Int) ≤ V 13 2 → decide (mIn V x y k ≠ 0) = Bool.xor (rP V x y k) (rT V y k)
  | 0, _ => rfl
  | k + 1, hk => by
    have ih := par_m J hy x y k (by omega)
    obtain ⟨j1, j2, j3, j4, j5⟩ := J
    have J' : JRing V := ⟨j1, j2, j3, j4, j5⟩
    have e1 : rP V x y (k + 1) = Bool.xor (rP V x y k) (crB V y k && decide (V 14 (2 * (k : Nat) + 1) ≤ x)) := rfl
    have e2 : rT V y (k + 1) = Bool.xor (rT V y k) (crB V y k) := rfl
    have en : mNxt V (2 * (k : Nat) + 1) = cNxt V (2 * (k : Nat) + 1) := (nxt_j J' (by omega) (by omega)).symm
    have b1 := hy (2 * (k : Nat) + 1) (by omega) (by omega)
    have b2 : 0 ≤ V 15 (cNxt V (2 * (k : Nat) + 1)) ∧ V 15 (cNxt V (2 * (k : Nat) + 1)) ≤ 24 := by
      refine hy _ ?_ ?_
      · unfold cNxt; split
        · rw [w32_id (by omega) (by omega)]; omega
        · omega
      · unfold cNxt; split <;> omega
    have ec : (x < V 81 (2 * (k : Nat) + 1) ∧ (min (V 82 (2 * (k : Nat) + 1)) (V 82 (mNxt V (2 * (k : Nat) + 1))) ≤ y ∧ y ≤ w32 (max (V 82 (2 * (k : Nat) + 1)) (V 82 (mNxt V (2 * (k : Nat) + 1))) - 1))) ↔ (¬ V 14 (2 * (k : Nat) + 1) ≤ x ∧ (min (V 15 (2 * (k : Nat) + 1)) (V 15 (cNxt V (2 * (k : Nat) + 1))) ≤ y ∧ y < max (V 15 (2 * (k : Nat) + 1)) (V 15 (cNxt V (2 * (k : Nat) + 1))))) := by
      rw [en, ← j2, ← j3, ← j3, w32_id (by omega) (by omega)]
      omega
    rw [e1, e2]
    have em : mIn V x y (k + 1) = if (x < V 81 (2 * (k : Nat) + 1) ∧ (min (V 82 (2 * (k : Nat) + 1)) (V 82 (mNxt V (2 * (k : Nat) + 1))) ≤ y ∧ y ≤ w32 (max (V 82 (2 * (k : Nat) + 1)) (V 82 (mNxt V (2 * (k : Nat) + 1))) - 1))) then (if mIn V x y k ≠ 0 then 0 else 1) else mIn V x y k := rfl
    by_cases q : min (V 15 (2 * (k : Nat) + 1)) (V 15 (cNxt V (2 * (k : Nat) + 1))) ≤ y ∧ y < max (V 15 (2 * (k : Nat) + 1)) (V 15 (cNxt V (2 * (k : Nat) + 1)))
    · have hb : crB V y k = true := decide_eq_true q
      by_cases z : V 14 (2 * (k : Nat) + 1) ≤ x
      · rw [em, if_neg (fun w => (ec.mp w).1 z), ih, hb, decide_eq_true z]
        cases rP V x y k <;> cases rT V y k <;> rfl
      · have e3 : decide (mIn V x y (k + 1) ≠ 0) = !(decide (mIn V x y k ≠ 0)) := by
          rw [em, if_pos (ec.mpr ⟨z, q⟩)]
          by_cases w : mIn V x y k ≠ 0
          · rw [if_pos w, decide_eq_true w]; rfl
          · rw [if_neg w, decide_eq_false w]; rfl
        rw [e3, ih, hb, decide_eq_false z]
        cases rP V x y k <;> cases rT V y k <;> rfl
    · have hb : crB V y k = false := decide_eq_false q
      rw [em, if_neg (fun w => q (ec.mp w).2), ih, hb]
      cases rP V x y k <;> cases rT V y k <;> rfl
theorem cr_s (a b y : Int) : decide (min a b ≤ y ∧ y < max a b) = Bool.xor (decide (a ≤ y)) (decide (b ≤ y)) := by
  by_cases p : a ≤ y
  · by_cases q : b ≤ y
    · rw [decide_eq_true p, decide_eq_true q, decide_eq_false (by omega)]; rfl
    · rw [decide_eq_true p, decide_eq_false q, decide_eq_true (by omega)]; rfl
  · by_cases q : b ≤ y
    · rw [decide_eq_false p, decide_eq_true q, decide_eq_true (by omega)]; rfl
    · rw [decide_eq_false p, decide_eq_false q, decide_eq_false (by omega)]; rfl
theorem lev {V : vS} (s : ∀ i, 0 ≤ i → i < V 13 2 → cWay V i) (h12 : V 13 2 ≤ 12) (k : Nat) (h : 2 * (k : Int) + 1 < V 13 2) : V 15 (2 * (k : Int)) = V 15 (2 * (k : Int) + 1) := by
  have w := (s (2 * (k : Int)) (by omega) (by omega)).1 (by rw [iRem_pos (by omega) (by omega) (by decide) (by decide)]; omega)
  rw [w.1]
  congr 1
  unfold cNxt
  rw [w32_id (by omega) (by omega), if_pos h]
theorem rT_s {V : vS} (s : ∀ i, 0 ≤ i → i < V 13 2 → cWay V i) (h12 : V 13 2 ≤ 12) (y : Int) : ∀ k : Nat, 2 * (k : Int) + 1 < V 13 2 → rT V y k = Bool.xor (decide (V 15 1 ≤ y)) (decide (V 15 (2 * (k : Nat) + 1) ≤ y))
  | 0, _ => by
    show false = _
    rw [show (2 * ((0 : Nat) : Int) + 1) = 1 from rfl]
    cases decide (V 15 1 ≤ y) <;> rfl
  | k + 1, h => by
    have ih := rT_s s h12 y k (by omega)
    have e2 : rT V y (k + 1) = Bool.xor (rT V y k) (crB V y k) := rfl
    have en : cNxt V (2 * (k : Nat) + 1) = 2 * ((k + 1 : Nat) : Int) := by
      unfold cNxt
      rw [w32_id (by omega) (by omega), if_pos (by omega)]
      omega
    have ec : crB V y k = Bool.xor (decide (V 15 (2 * (k : Nat) + 1) ≤ y)) (decide (V 15 (2 * ((k + 1 : Nat) : Int) + 1) ≤ y)) := by
      unfold crB
      rw [cr_s, en, lev s h12 (k + 1) h]
    rw [e2, ih, ec]
    cases decide (V 15 1 ≤ y) <;> cases decide (V 15 (2 * (k : Nat) + 1) ≤ y) <;> cases decide (V 15 (2 * ((k + 1 : Nat) : Int) + 1) ≤ y) <;> rfl
theorem rT_0 {V : vS} (s : cSound V) (h12 : V 13 2 ≤ 12) (y : Int) : rT V y ((V 13 2).toNat / 2) = false := by
  obtain ⟨s1, s2, s3, -⟩ := s
  rw [iRem_pos (by omega) (by omega) (by decide) (by decide)] at s2
  obtain ⟨k, hk⟩ : ∃ k : Nat, (V 13 2).toNat / 2 = k + 1 := ⟨(V 13 2).toNat / 2 - 1, by omega⟩
  have hn : V 13 2 = 2 * (k : Int) + 2 := by omega
  rw [hk]
  have ih := rT_s s3 h12 y k (by omega)
  have e2 : rT V y (k + 1) = Bool.xor (rT V y k) (crB V y k) := rfl
  have en : cNxt V (2 * (k : Nat) + 1) = 0 := by
    unfold cNxt
    rw [w32_id (by omega) (by omega), if_neg (by omega)]
  have e0 : V 15 0 = V 15 1 := lev s3 h12 0 (by omega)
  have ec : crB V y k = Bool.xor (decide (V 15 (2 * (k : Nat) + 1) ≤ y)) (decide (V 15 1 ≤ y)) := by
    unfold crB
    rw [cr_s, en, e0]
  rw [e2, ih, ec]
  cases decide (V 15 1 ≤ y) <;> cases decide (V 15 (2 * (k : Nat) + 1) ≤ y) <;> rfl
theorem row_eq {V : vS} (J : JRing V) (hx : ∀ j, 0 ≤ j → j < 12 → 0 ≤ V 14 j ∧ V 14 j ≤ 24) (hy : ∀ j, 0 ≤ j → j < 12 → 0 ≤ V 15 j ∧ V 15 j ≤ 24) (s : cSound V) (y : Int) : cRow V y = mRw V y 24 := by
  obtain ⟨a, ea⟩ := cIns_i V y ((V 13 2).toNat / 2)
  obtain ⟨b, eb⟩ := mRw_i V y 24
  unfold cRow
  rw [ea, eb]
  refine tb_ext (fun x h => ?_)
  have j4 := J.2.2.2.1
  have j5 := J.2.2.2.2
  rw [← ea, ← eb, tb_c hx y h _ (by omega), tb_m y h 24 (by decide)]
  have p := par_m J hy (x : Nat) y ((V 13 2).toNat / 2) (by omega)
  rw [rT_0 s j5 y] at p
  unfold mInR
  rw [← J.1, p]
  cases rP V (x : Nat) y ((V 13 2).toNat / 2) <;> cases decide (x < 24) <;> rfl
def JRows (V : vS) : Prop := ∀ j, V 8 j = V 80 j
theorem jx_6r {V V1 V2 : vS} {f w r1 r2 : Int} (J : JRing V) (K : JBody V) (L : JRows V) (hx : ∀ j, 0 ≤ j → j < 12 → 0 ≤ V 14 j ∧ V 14 j ≤ 24) (hy : ∀ j, 0 ≤ j → j < 12 → 0 ≤ V 15 j ∧ V 15 j ≤ 24) (c : R150 V f w r1 V1) (m : R222 V1 f w r2 V2) : JRows V2 := by
  have k1 := K.1
  rcases c with ⟨a, rfl, rfl⟩ | ⟨a, ⟨a0, rfl, rfl⟩ | ⟨a0, a1, rfl, rfl⟩ | ⟨a0, a1, a2, rfl, hV⟩⟩
  · rcases m with ⟨b, rfl, rfl⟩ | ⟨b, -⟩
    · exact L
    · exact absurd ⟨(farm_j K f).mpr b.1, b.2⟩ a
  · rcases m with ⟨b, rfl, rfl⟩ | ⟨b, ⟨b0, rfl, rfl⟩ | ⟨b0, -⟩ | ⟨b0, -⟩⟩
    · exact L
    · exact L
    · exact absurd ((sound_j J).mpr b0) a0
    · exact absurd ((sound_j J).mpr b0) a0
  · rcases m with ⟨b, rfl, rfl⟩ | ⟨b, ⟨b0, rfl, rfl⟩ | ⟨b0, b1, rfl, rfl⟩ | ⟨b0, b1, V3, ⟨c1, c2, -, -⟩, -⟩⟩
    · exact L
    · exact L
    · exact L
    · omega
  · have mk : R222k (if w = 1 then 5 else 4) V1 f w r2 V2 := m
    clear m
    generalize (if w = 1 then (5 : Int) else 4) = kd at mk hV
    have e8 : ∀ j, V1 8 j = if 24 * V 1 1 ≤ j ∧ j < 24 * V 1 1 + 24 then cRow (cAddV V kd (cArea V) f) (j - 24 * V 1 1) else V 8 j := fun j => by
      rw [hV, up_c (by decide)]
      unfold outl
      by_cases z : 24 * V 1 1 ≤ j ∧ j < 24 * V 1 1 + 24
      · rw [if_pos ⟨rfl, z⟩, if_pos z]
      · rw [if_neg (fun q => z q.2), if_neg z, cAddV_c (by decide) (by decide) (by decide) (by decide) (by decide) (by decide)]
    have o : ∀ (c : Nat) (j : Int), c ≠ 13 → c ≠ 8 → c ≠ 1 → c ≠ 2 → c ≠ 3 → c ≠ 4 → c ≠ 5 → c ≠ 7 → V1 c j = V c j := fun c j g1 g2 h1 h2 h3 h4 h5 h7 => by rw [hV, up_c g1, outl_c g2, cAddV_c h1 h2 h3 h4 h5 h7]
    have e72 : ∀ j, V1 72 j = V 72 j := fun j => o 72 j (by decide) (by decide) (by decide) (by decide) (by decide) (by decide) (by decide) (by decide)
    have e80 : ∀ j, V1 80 j = V 80 j := fun j => o 80 j (by decide) (by decide) (by decide) (by decide) (by decide) (by decide) (by decide) (by decide)
    have e81 : ∀ j, V1 81 j = V 81 j := fun j => o 81 j (by decide) (by decide) (by decide) (by decide) (by decide) (by decide) (by decide) (by decide)
    have e82 : ∀ j, V1 82 j = V 82 j := fun j => o 82 j (by decide) (by decide) (by decide) (by decide) (by decide) (by decide) (by decide) (by decide)
    have mf : mFarm V1 f ↔ mFarm V f := by
      unfold mFarm mBody
      rw [e72, o 73 f (by decide) (by decide) (by decide) (by decide) (by decide) (by decide) (by decide) (by decide)]
    have cr : ∀ y, cRow (cAddV V kd (cArea V) f) y = cRow V y := fun y => cRow_c (cAddV_c (by decide) (by decide) (by decide) (by decide) (by decide) (by decide)) (fun j => cAddV_c (by decide) (by decide) (by decide) (by decide) (by decide) (by decide)) (fun j => cAddV_c (by decide) (by decide) (by decide) (by decide) (by decide) (by decide)) y
    rcases mk with ⟨b, -⟩ | ⟨b, ⟨b0, -⟩ | ⟨b0, b1, -⟩ | ⟨b0, b1, V3, ⟨c1, c2, rfl, rfl⟩, rfl⟩⟩
    · exact absurd ⟨mf.mpr ((farm_j K f).mp a.1), a.2⟩ b
    · exact absurd ((mSound_c (e72 11) e81 e82).mpr ((sound_j J).mp a0)) b0
    · rw [e72] at b1
      omega
    · intro j
      have eb : V1 72 2 = V 1 1 := by rw [e72, k1]
      have p8 : up (outm (up (up (mAddV V1 kd) 75 (V1 72 2) f) 78 (V1 72 2) (mArea V1)) (V1 72 2) 24) 72 11 0 8 j = V1 8 j := by
        rw [up_c (by decide), outm_c (by decide), up_c (by decide), up_c (by decide), mAddV_c (by decide) (by decide) (by decide) (by decide) (by decide)]
      have q : ∀ (c : Nat) (j : Int), c ≠ 72 → c ≠ 73 → c ≠ 75 → c ≠ 76 → c ≠ 77 → c ≠ 78 → up (up (mAddV V1 kd) 75 (V1 72 2) f) 78 (V1 72 2) (mArea V1) c j = V1 c j := fun c j h1 h2 h3 h4 h5 h6 => by rw [up_c h6, up_c h3, mAddV_c h1 h2 h3 h4 h5]
      have q11 : up (up (mAddV V1 kd) 75 (V1 72 2) f) 78 (V1 72 2) (mArea V1) 72 11 = V 72 11 := by rw [up_c (by decide), up_c (by decide), mA_o (by decide), e72]
      have mr : ∀ y, mRw (up (up (mAddV V1 kd) 75 (V1 72 2) f) 78 (V1 72 2) (mArea V1)) y 24 = mRw V y 24 := fun y => mRw_c q11 (fun j => by rw [q 81 j (by decide) (by decide) (by decide) (by decide) (by decide) (by decide), e81]) (fun j => by rw [q 82 j (by decide) (by decide) (by decide) (by decide) (by decide) (by decide), e82]) y 24
      rw [p8, e8, up_c (by decide)]
      unfold outm
      rw [eb] at *
      by_cases z : 24 * V 1 1 ≤ j ∧ j < 24 * V 1 1 + 24
      · rw [if_pos z, if_pos ⟨rfl, z⟩, cr, mr]
        exact row_eq J hx hy a0 _
      · rw [if_neg z, if_neg (fun y => z y.2), q 80 j (by decide) (by decide) (by decide) (by decide) (by decide) (by decide), e80]
        exact L j
def LRows : List (Nat × Option Nat) := [(8, none), (80, none)]
theorem JRows_ag {V V' : vS} (J : JRows V) (A : ag LRows V V') : JRows V' := fun j => by
  obtain ⟨a1, a2, -⟩ := A
  rw [a1, a2]
  exact J j
theorem JRows_dG {W : List (Nat × Nat)} {σ σ1 : List Nat} {h h1 : aH} (J : JRows (vw h)) (I : dI σ h) (G : dG W σ h σ1 h1) (k : frL W LRows = true) : JRows (vw h1) := JRows_ag J (ag_dG I.1 G _ k)
theorem zJRows0 : JRows (vw zH0) := fun j => by rw [vz zh8, vz zh80]
theorem vb14 {σ : List Nat} {h : aH} (I : dI σ h) : ∀ j, 0 ≤ j → j < 12 → 0 ≤ vw h 14 j ∧ vw h 14 j ≤ 24 := fun j h0 h1 => vw_rng I (c := 14) (a := 0) (n := 12) (lo := 0) (hi := 24) (by decide +kernel) h0 h1
theorem vb15 {σ : List Nat} {h : aH} (I : dI σ h) : ∀ j, 0 ≤ j → j < 12 → 0 ≤ vw h 15 j ∧ vw h 15 j ≤ 24 := fun j h0 h1 => vw_rng I (c := 15) (a := 0) (n := 12) (lo := 0) (hi := 24) (by decide +kernel) h0 h1
end
section
theorem gx332_0 : aF 0 zM332.2.2.2.2.2.2.2 = some (0, (.iconst 0), 1, 0, 0) := by decide +kernel
theorem gx332_1 : aF 1 zM332.2.2.2.2.2.2.2 = some (1, (.istore_n 2), 1, 0, 0) := by decide +kernel
theorem gx332_2 : aF 2 zM332.2.2.2.2.2.2.2 = some (2, (.aload_n 0), 1, 0, 0) := by decide +kernel
theorem gx332_3 : aF 3 zM332.2.2.2.2.2.2.2 = some (3, .arraylength, 1, 0, 0) := by decide +kernel
theorem gx332_4 : aF 4 zM332.2.2.2.2.2.2.2 = some (4, (.istore_n 3), 1, 0, 0) := by decide +kernel
theorem gx332_5 : aF 5 zM332.2.2.2.2.2.2.2 = some (5, (.iload_n 2), 1, 0, 0) := by decide +kernel
theorem gx332_6 : aF 6 zM332.2.2.2.2.2.2.2 = some (6, (.iload_n 3), 1, 0, 0) := by decide +kernel
theorem gx332_7 : aF 7 zM332.2.2.2.2.2.2.2 = some (7, (.if_icmp .ge 13), 3, 20, 0) := by decide +kernel
theorem gx332_20 : aF 20 zM332.2.2.2.2.2.2.2 = some (20, .return_, 1, 0, 0) := by decide +kernel
theorem gx332_10 : aF 10 zM332.2.2.2.2.2.2.2 = some (10, (.aload_n 0), 1, 0, 0) := by decide +kernel
theorem gx332_11 : aF 11 zM332.2.2.2.2.2.2.2 = some (11, (.iload_n 2), 1, 0, 0) := by decide +kernel
theorem gx332_12 : aF 12 zM332.2.2.2.2.2.2.2 = some (12, (.iload_n 1), 1, 0, 0) := by decide +kernel
theorem gx332_13 : aF 13 zM332.2.2.2.2.2.2.2 = some (13, .iastore, 1, 0, 0) := by decide +kernel
theorem gx332_14 : aF 14 zM332.2.2.2.2.2.2.2 = some (14, (.iinc 2 1), 3, 0, 0) := by decide +kernel
theorem gx332_17 : aF 17 zM332.2.2.2.2.2.2.2 = some (17, (.goto (-12)), 3, 5, 0) := by decide +kernel
end
section
-- ===== rows for cells made late =====
def nwI (h : aH) (q t N : Nat) (h' : aH) : Prop := q = h.1.length ∧ h.1[q]? = none ∧ (∀ c, c ≠ q → h'.1[c]? = h.1[c]?) ∧ ∃ a, h'.1[q]? = some (.inl (t, N, a)) ∧ ∀ j, vA a j = 0
theorem app_l {h : aH} {c : Nat} {x y : aC} (e : h.1[c]? = some x) : (h.1 ++ [y])[c]? = some x := by
  obtain ⟨hc, -⟩ := List.getElem?_eq_some_iff.mp e
  rw [List.getElem?_append_left hc]
  exact e
theorem app_r {h : aH} {c : Nat} {y : aC} (hc : c ≠ h.1.length) : (h.1 ++ [y])[c]? = h.1[c]? := by
  by_cases q : c < h.1.length
  · rw [List.getElem?_append_left q]
  · have e1 : (h.1 ++ [y]).length ≤ c := by
      rw [List.length_append]
      simp only [List.length_cons, List.length_nil]
      omega
    have e2 : h.1.length ≤ c := by omega
    rw [List.getElem?_eq_none e1, List.getElem?_eq_none e2]
theorem app_e {h : aH} {y : aC} : (h.1 ++ [y])[h.1.length]? = some y := by
  rw [List.getElem?_append_right (Nat.le_refl _), Nat.sub_self]
  rfl
theorem wS_app {h : aH} {t n s : Nat} {a : (Nat → Int32) ⊕ (Nat → Int64) ⊕ (Nat → UInt32) ⊕ (Nat → UInt64) ⊕ (Nat → Option Nat)} (S : wS h) : wS (h.1 ++ [.inl (t, n, a)], s) := by
  obtain ⟨s1, s2, s3⟩ := S
  refine ⟨fun q ci fs i v e1 e2 => ?_, fun c i q e => ?_, fun c t' n' e => ?_⟩
  · by_cases z : q = h.1.length
    · subst z
      rw [show (h.1 ++ [Sum.inl (t, n, a)], s).1[h.1.length]? = some (Sum.inl (t, n, a)) from app_e] at e1
      cases e1
    · rw [show (h.1 ++ [Sum.inl (t, n, a)], s).1[q]? = h.1[q]? from app_r z] at e1
      exact s1 q ci fs i v e1 e2
  · obtain ⟨ci, fs, e1, e2⟩ := s2 c i q e
    exact ⟨ci, fs, app_l e1, e2⟩
  · have := s3 c t' n' e
    unfold tyA at this ⊢
    split at this
    · rename_i e1
      rw [show (h.1 ++ [Sum.inl (t, n, a)], s).1[c]? = _ from app_l e1]
      exact this
    · cases this
section PT2
variable {n : Nat} {X : aX} {M : aM} {Q : Option Value → aH → Prop} {pc len a b : Nat} {l : aL} {st r : List Value} {h : aH} {A B : Int}
theorem pt_newa {t : ArrayType} {x : Int32} (hf : aF pc M.2.2.2.2.2.2.2 = some (pc, (.newarray t), len, 0, b)) (S : wS h) (ha : x.toInt = A) (k : ∀ (q : Nat) (h' : aH), wS h' → 0 ≤ A → nwI h q 0 A.toNat h' → Pt n X M (pc + 2) l (.ref q :: r) h' Q) : Pt (n + 1) X M pc l (.int x :: r) h Q := pt_s fun m hm d v h2 e => by
  rw [arun_p hf rfl] at e
  simp only [aX1, tI] at e
  split at e
  · cases e
  · rename_i hx
    have x0 : 0 ≤ x.toInt := by
      rcases Int.lt_or_le x.toInt 0 with z | z
      · exact absurd (Or.inl (Int32.lt_iff_toInt_lt.mpr (by rw [show (0 : Int32).toInt = 0 from rfl]; exact z))) hx
      · exact z
    rw [← Int32.toNat_toInt] at e
    subst ha
    exact k _ _ (wS_app S) x0 ⟨rfl, List.getElem?_eq_none (Nat.le_refl _), fun c hc => app_r hc, _, app_e, fun j => rfl⟩ m hm d v h2 e
end PT2
end
section
section PT3
variable {n : Nat} {X : aX} {M : aM} {Q : Option Value → aH → Prop} {pc pc' len a b : Nat} {l : aL} {st r : List Value} {h : aH} {A B : Int}
theorem pt_alenD {o t N : Nat} {y : (Nat → Int32) ⊕ (Nat → Int64) ⊕ (Nat → UInt32) ⊕ (Nat → UInt64) ⊕ (Nat → Option Nat)} (hf : aF pc M.2.2.2.2.2.2.2 = some (pc, .arraylength, len, a, b)) (hc : h.1[o]? = some (.inl (t, N, y))) (hb : N < 2147483648) (k : ∀ x : Int32, x.toInt = (N : Int) → Pt n X M (pc + 1) l (.int x :: r) h Q) : Pt (n + 1) X M pc l (.ref o :: r) h Q := pt_s fun m hm d v h2 e => by
  have en : (Int32.ofNat N).toInt = (N : Int) := Int32.toInt_ofNat_of_lt (by omega)
  rw [arun_p hf rfl] at e
  simp only [aX1] at e
  split at e
  · rename_i N0 y0 hc0
    have q := hc.symm.trans hc0
    cases q
    exact k _ en m hm d v h2 e
  · rename_i N0 y0 hc0
    have q := hc.symm.trans hc0
    cases q
    exact k _ en m hm d v h2 e
  · cases e
end PT3
end
section
theorem b01 : bAnd 0 1 = 0 := by decide +kernel
theorem b11 : bAnd 1 1 = 1 := by decide +kernel
end
section
-- ===== what a field looks like =====
-- the first of the least, and the least of the others
def bst (f : Nat → Int) : Nat → Nat
  | 0 => 0
  | k + 1 => if f k < f (bst f k) then k else bst f k
def nx (f : Nat → Int) : Nat → Int
  | 0 => 2147483647
  | k + 1 => if f k < f (bst f k) then f (bst f k) else if k = 0 then 2147483647 else min (nx f k) (f k)
end
section
theorem JA_vw {r r' n : Nat} {h : aH} (J : JA r r' n h) : ∀ j, 0 ≤ j → j < (n : Int) → vw h r j = vw h r' j := by
  obtain ⟨g, g', c, c', e⟩ := J
  intro j h0 h1
  rw [vw_a c h0, vw_a c' h0]
  show (g j.toNat).toInt = (g' j.toNat).toInt
  rw [e _ (by omega)]
end
section
-- ===== the class reads a text =====
theorem tl_35 : tkL 35 3 2560 = true := by decide +kernel
theorem tr_33_2 : tkR 33 2 35 = true := by decide +kernel
theorem gx134_0 : aF 0 zM134.2.2.2.2.2.2.2 = some (0, (.bipush 48), 2, 0, 0) := by decide +kernel
theorem gx134_2 : aF 2 zM134.2.2.2.2.2.2.2 = some (2, (.iload_n 0), 1, 0, 0) := by decide +kernel
theorem gx134_3 : aF 3 zM134.2.2.2.2.2.2.2 = some (3, (.if_icmp .gt 13), 3, 16, 0) := by decide +kernel
theorem gx134_16 : aF 16 zM134.2.2.2.2.2.2.2 = some (16, (.iconst 0), 1, 0, 0) := by decide +kernel
theorem gx134_17 : aF 17 zM134.2.2.2.2.2.2.2 = some (17, .ireturn, 1, 0, 0) := by decide +kernel
theorem gx134_6 : aF 6 zM134.2.2.2.2.2.2.2 = some (6, (.iload_n 0), 1, 0, 0) := by decide +kernel
theorem gx134_7 : aF 7 zM134.2.2.2.2.2.2.2 = some (7, (.bipush 57), 2, 0, 0) := by decide +kernel
theorem gx134_9 : aF 9 zM134.2.2.2.2.2.2.2 = some (9, (.if_icmp .gt 7), 3, 16, 0) := by decide +kernel
theorem gx134_12 : aF 12 zM134.2.2.2.2.2.2.2 = some (12, (.iconst 1), 1, 0, 0) := by decide +kernel
theorem gx134_13 : aF 13 zM134.2.2.2.2.2.2.2 = some (13, (.goto 4), 3, 17, 0) := by decide +kernel
theorem gx124_0 : aF 0 zM124.2.2.2.2.2.2.2 = some (0, (.aload_n 0), 1, 0, 0) := by decide +kernel
theorem gx124_1 : aF 1 zM124.2.2.2.2.2.2.2 = some (1, (.getfield 72), 3, 10, 12) := by decide +kernel
theorem gx124_4 : aF 4 zM124.2.2.2.2.2.2.2 = some (4, (.iconst (-1)), 1, 0, 0) := by decide +kernel
theorem gx124_5 : aF 5 zM124.2.2.2.2.2.2.2 = some (5, (.if_icmp .ne 35), 3, 40, 0) := by decide +kernel
theorem gx124_40 : aF 40 zM124.2.2.2.2.2.2.2 = some (40, (.iconst (-1)), 1, 0, 0) := by decide +kernel
theorem gx124_41 : aF 41 zM124.2.2.2.2.2.2.2 = some (41, .ireturn, 1, 0, 0) := by decide +kernel
theorem gx124_8 : aF 8 zM124.2.2.2.2.2.2.2 = some (8, (.aload_n 0), 1, 0, 0) := by decide +kernel
theorem gx124_9 : aF 9 zM124.2.2.2.2.2.2.2 = some (9, (.getfield 75), 3, 10, 11) := by decide +kernel
theorem gx124_12 : aF 12 zM124.2.2.2.2.2.2.2 = some (12, (.aload_n 0), 1, 0, 0) := by decide +kernel
theorem gx124_13 : aF 13 zM124.2.2.2.2.2.2.2 = some (13, (.getfield 78), 3, 10, 10) := by decide +kernel
theorem gx124_16 : aF 16 zM124.2.2.2.2.2.2.2 = some (16, (.if_icmp .ge 24), 3, 40, 0) := by decide +kernel
theorem gx124_19 : aF 19 zM124.2.2.2.2.2.2.2 = some (19, (.aload_n 0), 1, 0, 0) := by decide +kernel
theorem gx124_20 : aF 20 zM124.2.2.2.2.2.2.2 = some (20, (.getfield 15), 3, 10, 2) := by decide +kernel
theorem gx124_23 : aF 23 zM124.2.2.2.2.2.2.2 = some (23, (.aload_n 0), 1, 0, 0) := by decide +kernel
theorem gx124_24 : aF 24 zM124.2.2.2.2.2.2.2 = some (24, (.getfield 81), 3, 10, 9) := by decide +kernel
theorem gx124_27 : aF 27 zM124.2.2.2.2.2.2.2 = some (27, (.aload_n 0), 1, 0, 0) := by decide +kernel
theorem gx124_28 : aF 28 zM124.2.2.2.2.2.2.2 = some (28, (.getfield 75), 3, 10, 11) := by decide +kernel
theorem gx124_31 : aF 31 zM124.2.2.2.2.2.2.2 = some (31, .iadd, 1, 0, 0) := by decide +kernel
theorem gx124_32 : aF 32 zM124.2.2.2.2.2.2.2 = some (32, .baload, 1, 0, 0) := by decide +kernel
theorem gx124_33 : aF 33 zM124.2.2.2.2.2.2.2 = some (33, (.sipush 255), 3, 0, 0) := by decide +kernel
theorem gx124_36 : aF 36 zM124.2.2.2.2.2.2.2 = some (36, .iand, 1, 0, 0) := by decide +kernel
theorem gx124_37 : aF 37 zM124.2.2.2.2.2.2.2 = some (37, (.goto 4), 3, 41, 0) := by decide +kernel
theorem gx126_0 : aF 0 zM126.2.2.2.2.2.2.2 = some (0, (.aload_n 0), 1, 0, 0) := by decide +kernel
theorem gx126_1 : aF 1 zM126.2.2.2.2.2.2.2 = some (1, (.getfield 72), 3, 10, 12) := by decide +kernel
theorem gx126_4 : aF 4 zM126.2.2.2.2.2.2.2 = some (4, (.iconst (-1)), 1, 0, 0) := by decide +kernel
theorem gx126_5 : aF 5 zM126.2.2.2.2.2.2.2 = some (5, (.if_icmp .ne 11), 3, 16, 0) := by decide +kernel
theorem gx126_16 : aF 16 zM126.2.2.2.2.2.2.2 = some (16, .return_, 1, 0, 0) := by decide +kernel
theorem gx126_8 : aF 8 zM126.2.2.2.2.2.2.2 = some (8, (.aload_n 0), 1, 0, 0) := by decide +kernel
theorem gx126_9 : aF 9 zM126.2.2.2.2.2.2.2 = some (9, (.aload_n 0), 1, 0, 0) := by decide +kernel
theorem gx126_10 : aF 10 zM126.2.2.2.2.2.2.2 = some (10, (.getfield 75), 3, 10, 11) := by decide +kernel
theorem gx126_13 : aF 13 zM126.2.2.2.2.2.2.2 = some (13, (.putfield 72), 3, 10, 12) := by decide +kernel
theorem gx125_0 : aF 0 zM125.2.2.2.2.2.2.2 = some (0, (.aload_n 0), 1, 0, 0) := by decide +kernel
theorem gx125_1 : aF 1 zM125.2.2.2.2.2.2.2 = some (1, (.invokevirtual 84), 3, 124, 0) := by decide +kernel
theorem gx125_4 : aF 4 zM125.2.2.2.2.2.2.2 = some (4, (.iload_n 1), 1, 0, 0) := by decide +kernel
theorem gx125_5 : aF 5 zM125.2.2.2.2.2.2.2 = some (5, (.if_icmp .ne 7), 3, 12, 0) := by decide +kernel
theorem gx125_12 : aF 12 zM125.2.2.2.2.2.2.2 = some (12, (.iconst 0), 1, 0, 0) := by decide +kernel
theorem gx125_13 : aF 13 zM125.2.2.2.2.2.2.2 = some (13, (.istore_n 2), 1, 0, 0) := by decide +kernel
theorem gx125_14 : aF 14 zM125.2.2.2.2.2.2.2 = some (14, (.aload_n 0), 1, 0, 0) := by decide +kernel
theorem gx125_15 : aF 15 zM125.2.2.2.2.2.2.2 = some (15, .dup, 1, 0, 0) := by decide +kernel
theorem gx125_16 : aF 16 zM125.2.2.2.2.2.2.2 = some (16, (.getfield 75), 3, 10, 11) := by decide +kernel
theorem gx125_19 : aF 19 zM125.2.2.2.2.2.2.2 = some (19, (.iload_n 2), 1, 0, 0) := by decide +kernel
theorem gx125_20 : aF 20 zM125.2.2.2.2.2.2.2 = some (20, (.ifCond .eq 7), 3, 27, 0) := by decide +kernel
theorem gx125_27 : aF 27 zM125.2.2.2.2.2.2.2 = some (27, (.iconst 0), 1, 0, 0) := by decide +kernel
theorem gx125_28 : aF 28 zM125.2.2.2.2.2.2.2 = some (28, .iadd, 1, 0, 0) := by decide +kernel
theorem gx125_29 : aF 29 zM125.2.2.2.2.2.2.2 = some (29, (.putfield 75), 3, 10, 11) := by decide +kernel
theorem gx125_32 : aF 32 zM125.2.2.2.2.2.2.2 = some (32, (.iload_n 2), 1, 0, 0) := by decide +kernel
theorem gx125_33 : aF 33 zM125.2.2.2.2.2.2.2 = some (33, .ireturn, 1, 0, 0) := by decide +kernel
theorem gx125_8 : aF 8 zM125.2.2.2.2.2.2.2 = some (8, (.iconst 1), 1, 0, 0) := by decide +kernel
theorem gx125_9 : aF 9 zM125.2.2.2.2.2.2.2 = some (9, (.goto 4), 3, 13, 0) := by decide +kernel
theorem gx125_23 : aF 23 zM125.2.2.2.2.2.2.2 = some (23, (.iconst 1), 1, 0, 0) := by decide +kernel
theorem gx125_24 : aF 24 zM125.2.2.2.2.2.2.2 = some (24, (.goto 4), 3, 28, 0) := by decide +kernel
theorem gx127_0 : aF 0 zM127.2.2.2.2.2.2.2 = some (0, (.iload_n 0), 1, 0, 0) := by decide +kernel
theorem gx127_1 : aF 1 zM127.2.2.2.2.2.2.2 = some (1, (.ifCond .eq 7), 3, 8, 0) := by decide +kernel
theorem gx127_8 : aF 8 zM127.2.2.2.2.2.2.2 = some (8, (.iconst 0), 1, 0, 0) := by decide +kernel
theorem gx127_9 : aF 9 zM127.2.2.2.2.2.2.2 = some (9, .ireturn, 1, 0, 0) := by decide +kernel
theorem gx127_4 : aF 4 zM127.2.2.2.2.2.2.2 = some (4, (.iconst 1), 1, 0, 0) := by decide +kernel
theorem gx127_5 : aF 5 zM127.2.2.2.2.2.2.2 = some (5, (.goto 4), 3, 9, 0) := by decide +kernel
theorem gx135_0 : aF 0 zM135.2.2.2.2.2.2.2 = some (0, (.iconst 0), 1, 0, 0) := by decide +kernel
theorem gx135_1 : aF 1 zM135.2.2.2.2.2.2.2 = some (1, (.istore_n 1), 1, 0, 0) := by decide +kernel
theorem gx135_2 : aF 2 zM135.2.2.2.2.2.2.2 = some (2, (.iconst 0), 1, 0, 0) := by decide +kernel
theorem gx135_3 : aF 3 zM135.2.2.2.2.2.2.2 = some (3, (.istore_n 2), 1, 0, 0) := by decide +kernel
theorem gx135_4 : aF 4 zM135.2.2.2.2.2.2.2 = some (4, (.iload_n 2), 1, 0, 0) := by decide +kernel
theorem gx135_5 : aF 5 zM135.2.2.2.2.2.2.2 = some (5, (.bipush 6), 2, 0, 0) := by decide +kernel
theorem gx135_7 : aF 7 zM135.2.2.2.2.2.2.2 = some (7, (.if_icmp .ge 42), 3, 49, 0) := by decide +kernel
theorem gx135_49 : aF 49 zM135.2.2.2.2.2.2.2 = some (49, (.iload_n 1), 1, 0, 0) := by decide +kernel
theorem gx135_50 : aF 50 zM135.2.2.2.2.2.2.2 = some (50, .ireturn, 1, 0, 0) := by decide +kernel
theorem gx135_10 : aF 10 zM135.2.2.2.2.2.2.2 = some (10, (.aload_n 0), 1, 0, 0) := by decide +kernel
theorem gx135_11 : aF 11 zM135.2.2.2.2.2.2.2 = some (11, (.invokevirtual 84), 3, 124, 0) := by decide +kernel
theorem gx135_14 : aF 14 zM135.2.2.2.2.2.2.2 = some (14, (.invokestatic 107), 3, 134, 0) := by decide +kernel
theorem gx135_17 : aF 17 zM135.2.2.2.2.2.2.2 = some (17, (.ifCond .eq 32), 3, 49, 0) := by decide +kernel
theorem gx135_20 : aF 20 zM135.2.2.2.2.2.2.2 = some (20, (.iload_n 1), 1, 0, 0) := by decide +kernel
theorem gx135_21 : aF 21 zM135.2.2.2.2.2.2.2 = some (21, (.bipush 10), 2, 0, 0) := by decide +kernel
theorem gx135_23 : aF 23 zM135.2.2.2.2.2.2.2 = some (23, .imul, 1, 0, 0) := by decide +kernel
theorem gx135_24 : aF 24 zM135.2.2.2.2.2.2.2 = some (24, (.aload_n 0), 1, 0, 0) := by decide +kernel
theorem gx135_25 : aF 25 zM135.2.2.2.2.2.2.2 = some (25, (.invokevirtual 84), 3, 124, 0) := by decide +kernel
theorem gx135_28 : aF 28 zM135.2.2.2.2.2.2.2 = some (28, .iadd, 1, 0, 0) := by decide +kernel
theorem gx135_29 : aF 29 zM135.2.2.2.2.2.2.2 = some (29, (.bipush 48), 2, 0, 0) := by decide +kernel
theorem gx135_31 : aF 31 zM135.2.2.2.2.2.2.2 = some (31, .isub, 1, 0, 0) := by decide +kernel
theorem gx135_32 : aF 32 zM135.2.2.2.2.2.2.2 = some (32, (.istore_n 1), 1, 0, 0) := by decide +kernel
theorem gx135_33 : aF 33 zM135.2.2.2.2.2.2.2 = some (33, (.aload_n 0), 1, 0, 0) := by decide +kernel
theorem gx135_34 : aF 34 zM135.2.2.2.2.2.2.2 = some (34, .dup, 1, 0, 0) := by decide +kernel
theorem gx135_35 : aF 35 zM135.2.2.2.2.2.2.2 = some (35, (.getfield 75), 3, 10, 11) := by decide +kernel
theorem gx135_38 : aF 38 zM135.2.2.2.2.2.2.2 = some (38, (.iconst 1), 1, 0, 0) := by decide +kernel
theorem gx135_39 : aF 39 zM135.2.2.2.2.2.2.2 = some (39, .iadd, 1, 0, 0) := by decide +kernel
theorem gx135_40 : aF 40 zM135.2.2.2.2.2.2.2 = some (40, (.putfield 75), 3, 10, 11) := by decide +kernel
theorem gx135_43 : aF 43 zM135.2.2.2.2.2.2.2 = some (43, (.iinc 2 1), 3, 0, 0) := by decide +kernel
theorem gx135_46 : aF 46 zM135.2.2.2.2.2.2.2 = some (46, (.goto (-42)), 3, 4, 0) := by decide +kernel
section PT4
variable {n : Nat} {X : aX} {M : aM} {Q : Option Value → aH → Prop} {pc len a b : Nat} {l : aL} {r : List Value} {h : aH}
theorem pt_ialdN {j : Int32} (hf : aF pc M.2.2.2.2.2.2.2 = some (pc, .iaload, len, a, b)) : Pt (n + 1) X M pc l (.int j :: .null :: r) h Q := pt_s fun m hm d v h2 e => by
  rw [arun_p hf rfl] at e
  exact absurd e (by simp [aX1])
end PT4
def cSg (V : vS) : Int := if V 33 12 = -1 ∧ V 33 11 < V 33 10 then bAnd (V 35 (w32 (V 33 9 + V 33 11))) 255 else -1
theorem cSg_n {V : vS} (h : V 33 12 ≠ -1) : cSg V = -1 := if_neg (fun z => h z.1)
theorem d134_0 {n : Nat} {X : aX} {h : aH} {P : Int → aH → Prop} {x0 : Int32} {a0 : Int} (S : wS h) (z0 : x0.toInt = a0) (H : ((a0 < 48 → P 0 h) ∧ (48 ≤ a0 → ((57 < a0 → P 0 h) ∧ (a0 ≤ 57 → P 1 h))))) : Pt (n + 1) X zM134 0 [some (.int x0)] [] h (qI P) := by
  refine pt_bipush gx134_0 (fun v1 h1 => ?_)
  refine pt_d (pt_1 (fun n d => r_iloadn gx134_2 rfl) ?_)
  refine pt_d (pt_icmp_gt gx134_3 h1 z0 (fun e2 => ?_) (fun e2 => ?_))
  · have H := H.1 e2
    refine pt_d (pt_iconst gx134_16 (fun v3 h3 => ?_))
    exact pt_d (pt_iret gx134_17 ⟨_, rfl, by rw [h3]; exact H⟩)
  · have H := H.2 e2
    refine pt_d (pt_1 (fun n d => r_iloadn gx134_6 rfl) ?_)
    refine pt_d (pt_bipush gx134_7 (fun v4 h4 => ?_))
    refine pt_d (pt_icmp_gt gx134_9 z0 h4 (fun e5 => ?_) (fun e5 => ?_))
    · have H := H.1 e5
      refine pt_d (pt_iconst gx134_16 (fun v6 h6 => ?_))
      exact pt_d (pt_iret gx134_17 ⟨_, rfl, by rw [h6]; exact H⟩)
    · have H := H.2 e5
      refine pt_d (pt_iconst gx134_12 (fun v7 h7 => ?_))
      refine pt_d (pt_1 (fun n d => r_goto gx134_13) ?_)
      exact pt_d (pt_iret gx134_17 ⟨_, rfl, by rw [h7]; exact H⟩)
theorem c_134 {n : Nat} {X : aX} {h : aH} {x0 : Int32} {a0 : Int} (S : wS h) (z0 : x0.toInt = a0) : Pt n X zM134 0 [some (.int x0)] [] h (qI (fun y h' => h' = h ∧ y = bI (48 ≤ a0 ∧ a0 ≤ 57))) := by
  refine pt_d (d134_0 S z0 ?_)
  repeat' (first | (refine And.intro ?_ ?_) | intro _)
  all_goals first
    | rfl
    | exact (bI_t (by omega)).symm
    | exact (bI_f (by omega)).symm
    | exact bI_c (by omega)
    | omega
theorem d124_0 {n : Nat} {X : aX} {h : aH} {P : Int → aH → Prop} (S : wS h) (H : ((vw h 33 12 ≠ (-1) → P (-1) h) ∧ (vw h 33 12 = (-1) → ((vw h 33 10 ≤ vw h 33 11 → P (-1) h) ∧ (vw h 33 11 < vw h 33 10 → (0 ≤ w32 ((vw h 33 9) + (vw h 33 11)) → w32 ((vw h 33 9) + (vw h 33 11)) < 2560 → P (bAnd (vw h 35 (w32 ((vw h 33 9) + (vw h 33 11)))) 255) h)))))) : Pt (n + 1) X zM124 0 [some (.ref 33)] [] h (qI P) := by
  refine pt_1 (fun n d => r_aloadn gx124_0 rfl) ?_
  refine pt_d (pt_getI (B := 12) gx124_1 S (fun v1 h1 => ?_))
  refine pt_d (pt_iconst gx124_4 (fun v2 h2 => ?_))
  refine pt_d (pt_icmp_ne gx124_5 h1 h2 (fun e3 => ?_) (fun e3 => ?_))
  · have H := H.1 e3
    refine pt_d (pt_iconst gx124_40 (fun v4 h4 => ?_))
    exact pt_d (pt_iret gx124_41 ⟨_, rfl, by rw [h4]; exact H⟩)
  · have H := H.2 e3
    refine pt_d (pt_1 (fun n d => r_aloadn gx124_8 rfl) ?_)
    refine pt_d (pt_getI (B := 11) gx124_9 S (fun v5 h5 => ?_))
    refine pt_d (pt_1 (fun n d => r_aloadn gx124_12 rfl) ?_)
    refine pt_d (pt_getI (B := 10) gx124_13 S (fun v6 h6 => ?_))
    refine pt_d (pt_icmp_ge gx124_16 h5 h6 (fun e7 => ?_) (fun e7 => ?_))
    · have H := H.1 e7
      refine pt_d (pt_iconst gx124_40 (fun v8 h8 => ?_))
      exact pt_d (pt_iret gx124_41 ⟨_, rfl, by rw [h8]; exact H⟩)
    · have H := H.2 e7
      refine pt_d (pt_1 (fun n d => r_aloadn gx124_19 rfl) ?_)
      refine pt_d (pt_getR gx124_20 S tr_33_2 ?_)
      refine pt_d (pt_1 (fun n d => r_aloadn gx124_23 rfl) ?_)
      refine pt_d (pt_getI (B := 9) gx124_24 S (fun v10 h10 => ?_))
      refine pt_d (pt_1 (fun n d => r_aloadn gx124_27 rfl) ?_)
      refine pt_d (pt_getI (B := 11) gx124_28 S (fun v11 h11 => ?_))
      refine pt_d (pt_iadd gx124_31 h10 h11 (fun v12 h12 => ?_))
      refine pt_d (pt_bald (N' := 2560) gx124_32 S tl_35 h12 (fun v13 p13 q13 h13 => ?_))
      have H := H p13 q13
      refine pt_d (pt_sipush gx124_33 (fun v14 h14 => ?_))
      refine pt_d (pt_iand gx124_36 h13 h14 (fun v15 h15 => ?_))
      refine pt_d (pt_1 (fun n d => r_goto gx124_37) ?_)
      exact pt_d (pt_iret gx124_41 ⟨_, rfl, by rw [h15]; exact H⟩)
theorem c_124 {n : Nat} {X : aX} {h : aH} (S : wS h) : Pt n X zM124 0 [some (.ref 33)] [] h (qI (fun y h' => h' = h ∧ y = cSg (vw h))) := by
  refine pt_d (d124_0 S ⟨fun e => ⟨rfl, (cSg_n e).symm⟩, fun e => ⟨fun e2 => ⟨rfl, ?_⟩, fun e2 p q => ⟨rfl, ?_⟩⟩⟩)
  · exact (if_neg (fun z => by omega)).symm
  · exact (if_pos ⟨e, e2⟩).symm

theorem d127_0 {n : Nat} {X : aX} {h : aH} {P : Int → aH → Prop} {x0 : Int32} {a0 : Int} (S : wS h) (z0 : x0.toInt = a0) (H : ((a0 = 0 → P 0 h) ∧ (a0 ≠ 0 → P 1 h))) : Pt (n + 1) X zM127 0 [some (.int x0)] [] h (qI P) := by
  refine pt_1 (fun n d => r_iloadn gx127_0 rfl) ?_
  refine pt_d (pt_if_eq gx127_1 z0 (fun e1 => ?_) (fun e1 => ?_))
  · have H := H.1 e1
    refine pt_d (pt_iconst gx127_8 (fun v2 h2 => ?_))
    exact pt_d (pt_iret gx127_9 ⟨_, rfl, by rw [h2]; exact H⟩)
  · have H := H.2 e1
    refine pt_d (pt_iconst gx127_4 (fun v3 h3 => ?_))
    refine pt_d (pt_1 (fun n d => r_goto gx127_5) ?_)
    exact pt_d (pt_iret gx127_9 ⟨_, rfl, by rw [h3]; exact H⟩)
theorem c_127 {n : Nat} {X : aX} {h : aH} {x0 : Int32} {a0 : Int} (S : wS h) (z0 : x0.toInt = a0) : Pt n X zM127 0 [some (.int x0)] [] h (qI (fun y h' => h' = h ∧ y = (if (a0 : Int) = 0 then 0 else 1))) := by
  refine pt_d (d127_0 S z0 ?_)
  repeat' (first | (refine And.intro ?_ ?_) | intro _)
  all_goals first
    | rfl
    | (rw [if_pos (by omega)])
    | (rw [if_neg (by omega)])
    | omega
end

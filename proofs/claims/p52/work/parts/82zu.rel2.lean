-- ===== 82zu.rel2: 3 texts =====
section
-- ===== the two sides' handovers and claims, as numbers =====
theorem vw_rng {σ : List Nat} {h : aH} (I : dI σ h) {c a n : Nat} {lo hi : Int} (k : tkA c a n lo hi = true) {j : Int} (h0 : 0 ≤ j) (h1 : j < (n : Nat)) : lo ≤ vw h c j ∧ vw h c j ≤ hi := by
  obtain ⟨g, e, r⟩ := hI_a I k
  rw [vw_a e h0]
  exact r _ (by omega)
theorem vw_rf {σ : List Nat} {h : aH} (I : dI σ h) {c ci f : Nat} {lo hi : Int} (k0 : tkO c ci = true) (k : tkI c f lo hi = true) : lo ≤ vw h c (f : Nat) ∧ vw h c (f : Nat) ≤ hi := by
  obtain ⟨fs, e⟩ := hI_o I k0
  obtain ⟨x, e2, r1, r2⟩ := hI_i I e k
  rw [vw_o e e2]
  exact ⟨r1, r2⟩
theorem held_j {V : vS} (J : JBody V) (b : Int) : cHeld V b ↔ mHeld V b := by
  unfold cHeld mHeld mField cBody mBody
  rw [J.1, J.2.1]
  unfold uF
  omega
theorem body_lt {V : vS} (J : JBody V) {b : Int} (h : cBody V b) : 0 ≤ b ∧ b < V 1 1 ∧ b < 150 := by
  have := J.2.2.2.2.2.2.1
  have := J.2.2.2.2.2.1
  unfold cBody at h
  rw [w32_id (by omega) (by omega)] at h
  omega
theorem jx_10 {V V1 V2 : vS} {b r1 r2 : Int} (J : JBody V) (hd : V 1 0 = V 72 1) (h0 : 0 ≤ V 1 0) (c : R154 V b r1 V1) (m : R224 V1 b r2 V2) : JBody V2 ∧ r1 = r2 := by
  have J0 := J
  obtain ⟨j1, j2, j3, j4, j5, j6, j7, j9, j8⟩ := J0
  rcases c with ⟨a, rfl, rfl⟩ | ⟨a, a1, rfl, rfl⟩ | ⟨a, a1, rfl, rfl⟩
  · rcases m with ⟨b0, rfl, rfl⟩ | ⟨b0, -⟩ | ⟨b0, -⟩
    · exact ⟨J, rfl⟩
    · exact absurd ((field_j J b).mpr b0) a
    · exact absurd ((field_j J b).mpr b0) a
  · rcases m with ⟨b0, rfl, rfl⟩ | ⟨b0, b1, rfl, rfl⟩ | ⟨b0, b1, rfl, rfl⟩
    · exact absurd ((field_j J b).mp a) b0
    · exact ⟨J, rfl⟩
    · have := (j9 b).1
      have := j4 b
      omega
  · have f : ∀ (c : Nat) (j : Int), c ≠ 1 → c ≠ 5 → up (up V 5 b (V 1 0)) 1 5 (w32 (V 1 5 + 1)) c j = V c j := fun c j h1 h2 => by rw [up_c h1, up_c h2]
    have mf : mField (up (up V 5 b (V 1 0)) 1 5 (w32 (V 1 5 + 1))) b ↔ mField V b := by
      unfold mField mBody
      rw [f 72 2 (by decide) (by decide), f 73 b (by decide) (by decide)]
    have e77 := f 77 b (by decide) (by decide)
    rcases m with ⟨b0, rfl, rfl⟩ | ⟨b0, b1, rfl, rfl⟩ | ⟨b0, b1, rfl, rfl⟩
    · exact absurd (mf.mpr ((field_j J b).mp a)) b0
    · have := j4 b
      omega
    · have g : ∀ (c : Nat) (j : Int), c ≠ 1 → c ≠ 5 → c ≠ 77 → c ≠ 72 → up (up (up (up V 5 b (V 1 0)) 1 5 (w32 (V 1 5 + 1))) 77 b (up (up V 5 b (V 1 0)) 1 5 (w32 (V 1 5 + 1)) 72 1)) 72 38 1 c j = V c j := fun c j h1 h2 h3 h4 => by rw [up_c h4, up_c h3, f c j h1 h2]
      have g1 : up (up (up (up V 5 b (V 1 0)) 1 5 (w32 (V 1 5 + 1))) 77 b (up (up V 5 b (V 1 0)) 1 5 (w32 (V 1 5 + 1)) 72 1)) 72 38 1 1 1 = V 1 1 := by rw [up_c (by decide), up_c (by decide), up_j (by decide), up_c (by decide)]
      have g72 : up (up (up (up V 5 b (V 1 0)) 1 5 (w32 (V 1 5 + 1))) 77 b (up (up V 5 b (V 1 0)) 1 5 (w32 (V 1 5 + 1)) 72 1)) 72 38 1 72 2 = V 72 2 := by rw [up_j (by decide), up_c (by decide), f 72 2 (by decide) (by decide)]
      have g5 : ∀ j, up (up (up (up V 5 b (V 1 0)) 1 5 (w32 (V 1 5 + 1))) 77 b (up (up V 5 b (V 1 0)) 1 5 (w32 (V 1 5 + 1)) 72 1)) 72 38 1 5 j = if j = b then V 1 0 else V 5 j := fun j => by rw [up_c (by decide), up_c (by decide), up_c (by decide), up_p]
      have g77 : ∀ j, up (up (up (up V 5 b (V 1 0)) 1 5 (w32 (V 1 5 + 1))) 77 b (up (up V 5 b (V 1 0)) 1 5 (w32 (V 1 5 + 1)) 72 1)) 72 38 1 77 j = if j = b then V 72 1 else V 77 j := fun j => by rw [up_c (by decide), up_p, f 77 j (by decide) (by decide), f 72 1 (by decide) (by decide)]
      refine ⟨⟨by rw [g1, g72, j1], fun j => ?_, fun j => ?_, fun j => by rw [g5, g77, hd, j4], fun j => ?_, by rw [g1]; exact j6, by rw [g1]; exact j7, fun j => ⟨?_, ?_⟩, fun j q0 q1 => ?_⟩, rfl⟩
      · rw [g 2 j (by decide) (by decide) (by decide) (by decide), g 73 j (by decide) (by decide) (by decide) (by decide), j2]
      · rw [g 4 j (by decide) (by decide) (by decide) (by decide), g 76 j (by decide) (by decide) (by decide) (by decide), j3]
      · rw [g 7 j (by decide) (by decide) (by decide) (by decide), g 75 j (by decide) (by decide) (by decide) (by decide), j5]
      · rw [g5]
        have := (j9 j).1
        split <;> omega
      · rw [g 7 j (by decide) (by decide) (by decide) (by decide)]
        exact (j9 j).2
      · unfold JMeas
        rw [g 2 j (by decide) (by decide) (by decide) (by decide), g 3 j (by decide) (by decide) (by decide) (by decide), g 74 j (by decide) (by decide) (by decide) (by decide), g 78 j (by decide) (by decide) (by decide) (by decide), g 79 j (by decide) (by decide) (by decide) (by decide)]
        rw [g1] at q1
        exact j8 j q0 q1
theorem jx_11 {V V1 V2 : vS} {b f d r1 r2 : Int} (J : JBody V) (K : JHand V) (hd : V 1 0 = V 72 1) (c : R155 V b f d r1 V1) (m : R225 V1 b f d r2 V2) : JHand V2 ∧ r1 = r2 := by
  have ok : ok155 V b f d ↔ ok225 V b f d := by
    unfold ok155 ok225
    rw [held_j J, farm_j J]
  have K0 := K
  obtain ⟨k1, k2, k3, k4, k5, k6, k7, k8, k9⟩ := K0
  rcases c with ⟨a, rfl, rfl⟩ | ⟨a, a1, rfl, rfl⟩ | ⟨a, a1, ⟨a2, -, -⟩ | ⟨a2, a3, rfl, rfl⟩⟩
  · rcases m with ⟨b0, rfl, rfl⟩ | ⟨b0, -⟩ | ⟨b0, -⟩
    · exact ⟨K, rfl⟩
    · exact absurd (ok.mpr b0) a
    · exact absurd (ok.mpr b0) a
  · rcases m with ⟨b0, rfl, rfl⟩ | ⟨b0, b1, rfl, rfl⟩ | ⟨b0, b1, b2, -, -⟩
    · exact absurd (ok.mp a) b0
    · exact ⟨K, rfl⟩
    · omega
  · omega
  · generalize hW : up (up (up (up (up V 9 (V 1 6) b) 10 (V 1 6) f) 11 (V 1 6) d) 12 (V 1 6) (V 1 0)) 1 6 (w32 (V 1 6 + 1)) = W at m
    have w : ∀ (c : Nat) (j : Int), c ≠ 1 → c ≠ 9 → c ≠ 10 → c ≠ 11 → c ≠ 12 → W c j = V c j := fun c j h1 h2 h3 h4 h5 => by rw [← hW, up_c h1, up_c h5, up_c h4, up_c h3, up_c h2]
    have w16 : W 1 6 = w32 (V 1 6 + 1) := by rw [← hW, up_s]
    have w9 : ∀ j, W 9 j = if j = V 1 6 then b else V 9 j := fun j => by rw [← hW, up_c (by decide), up_c (by decide), up_c (by decide), up_c (by decide), up_p]
    have w10 : ∀ j, W 10 j = if j = V 1 6 then f else V 10 j := fun j => by rw [← hW, up_c (by decide), up_c (by decide), up_c (by decide), up_p, up_c (by decide)]
    have w11 : ∀ j, W 11 j = if j = V 1 6 then d else V 11 j := fun j => by rw [← hW, up_c (by decide), up_c (by decide), up_p, up_c (by decide), up_c (by decide)]
    have w12 : ∀ j, W 12 j = if j = V 1 6 then V 1 0 else V 12 j := fun j => by rw [← hW, up_c (by decide), up_p, up_c (by decide), up_c (by decide), up_c (by decide)]
    have e14 : W 72 14 = V 72 14 := w 72 14 (by decide) (by decide) (by decide) (by decide) (by decide)
    have e1 : W 72 1 = V 72 1 := w 72 1 (by decide) (by decide) (by decide) (by decide) (by decide)
    have okW : ok225 W b f d ↔ ok225 V b f d := by
      unfold ok225 mHeld mField mFarm mBody
      rw [w 72 2 (by decide) (by decide) (by decide) (by decide) (by decide), w 73 b (by decide) (by decide) (by decide) (by decide) (by decide), w 73 f (by decide) (by decide) (by decide) (by decide) (by decide)]
    rcases m with ⟨b0, rfl, rfl⟩ | ⟨b0, b1, rfl, rfl⟩ | ⟨b0, b1, b2, rfl, rfl⟩
    · exact absurd (okW.mpr (ok.mp a)) b0
    · omega
    · have w1 : w32 (V 1 6 + 1) = V 1 6 + 1 := w32_id (by omega) (by omega)
      have g : ∀ (c : Nat) (j : Int), c ≠ 72 → c ≠ 83 → c ≠ 84 → c ≠ 85 → c ≠ 86 → up (up (up (up (up W 83 (W 72 14) b) 84 (W 72 14) f) 85 (W 72 14) d) 86 (W 72 14) (W 72 1)) 72 14 (w32 (W 72 14 + 1)) c j = W c j := fun c j h1 h2 h3 h4 h5 => by rw [up_c h1, up_c h5, up_c h4, up_c h3, up_c h2]
      have f0 := (body_lt J a.2.1.1).1
      refine ⟨⟨?_, fun j => ?_, fun j => ?_, fun j => ?_, fun j => ?_, ?_, ?_, fun j q0 q1 => ?_, fun j => ?_⟩, by rw [e14, k1]⟩
      · rw [g 1 6 (by decide) (by decide) (by decide) (by decide) (by decide), w16, up_s, e14, k1]
      · rw [g 9 j (by decide) (by decide) (by decide) (by decide) (by decide), w9, up_c (by decide), up_c (by decide), up_c (by decide), up_c (by decide), up_p, e14, k1, w 83 j (by decide) (by decide) (by decide) (by decide) (by decide), k2]
      · rw [g 10 j (by decide) (by decide) (by decide) (by decide) (by decide), w10, up_c (by decide), up_c (by decide), up_c (by decide), up_p, up_c (by decide), e14, k1, w 84 j (by decide) (by decide) (by decide) (by decide) (by decide), k3]
      · rw [g 11 j (by decide) (by decide) (by decide) (by decide) (by decide), w11, up_c (by decide), up_c (by decide), up_p, up_c (by decide), up_c (by decide), e14, k1, w 85 j (by decide) (by decide) (by decide) (by decide) (by decide), k4]
      · rw [g 12 j (by decide) (by decide) (by decide) (by decide) (by decide), w12, up_c (by decide), up_p, up_c (by decide), up_c (by decide), up_c (by decide), e14, k1, w 86 j (by decide) (by decide) (by decide) (by decide) (by decide), e1, hd, k5]
      · rw [g 1 6 (by decide) (by decide) (by decide) (by decide) (by decide), w16]; omega
      · rw [g 1 6 (by decide) (by decide) (by decide) (by decide) (by decide), w16]; omega
      · rw [g 1 6 (by decide) (by decide) (by decide) (by decide) (by decide), w16] at q1
        rw [g 11 j (by decide) (by decide) (by decide) (by decide) (by decide), w11]
        have := a.2.2.1
        split
        · omega
        · exact k8 j q0 (by omega)
      · rw [g 10 j (by decide) (by decide) (by decide) (by decide) (by decide), w10]
        have := k9 j
        split <;> omega
def JClm (V : vS) : Prop := V 16 1 = V 72 19 ∧ (∀ j, V 17 j = V 87 j) ∧ (∀ j, V 18 j = V 88 j) ∧ (∀ j, V 19 j = V 89 j) ∧ (∀ j, V 20 j = V 90 j) ∧ 0 ≤ V 16 1 ∧ V 16 1 ≤ 300
theorem jx_13 {V V1 V2 : vS} {f b c r1 r2 : Int} (J : JBody V) (K : JHand V) (L : JClm V) (hd : V 1 0 = V 72 1) (cc : R157 V f b c r1 V1) (m : R230 V1 f b c r2 V2) : JClm V2 ∧ r1 = r2 := by
  have L0 := L
  obtain ⟨l1, l2, l3, l4, l5, l6, l7⟩ := L0
  have ok : ok157 V f b c ↔ ok230 V f b c := by
    unfold ok157 ok230
    rw [farm_j J, field_j J, J.2.1]
  have j5 := J.2.2.2.1 b
  have j9 := (J.2.2.2.2.2.2.2.1 b).1
  have hh : hd157 V f b ↔ hd230 V f b := by
    unfold hd157 hd230
    rw [hold_j K J.2.2.2.2.1, hd, j5]
    rw [j5] at j9
    constructor
    · rintro ⟨q1, q2⟩; exact ⟨q1, by omega⟩
    · rintro ⟨q1, q2⟩; exact ⟨q1, by omega⟩
  rcases cc with ⟨a, rfl, rfl⟩ | ⟨a, a1, rfl, rfl⟩ | ⟨a, a1, a2, rfl, rfl⟩ | ⟨a, a1, a2, ⟨a3, -, -⟩ | ⟨a3, a4, rfl, a5⟩⟩
  · rcases m with ⟨b0, rfl, rfl⟩ | ⟨b0, -⟩ | ⟨b0, -⟩ | ⟨b0, -⟩
    · exact ⟨L, rfl⟩
    · exact absurd (ok.mpr b0) a
    · exact absurd (ok.mpr b0) a
    · exact absurd (ok.mpr b0) a
  · rcases m with ⟨b0, rfl, rfl⟩ | ⟨b0, b1, rfl, rfl⟩ | ⟨b0, b1, -⟩ | ⟨b0, b1, -⟩
    · exact absurd (ok.mp a) b0
    · exact ⟨L, rfl⟩
    · exact absurd (hh.mpr b1) a1
    · exact absurd (hh.mpr b1) a1
  · rcases m with ⟨b0, rfl, rfl⟩ | ⟨b0, b1, rfl, rfl⟩ | ⟨b0, b1, b2, rfl, rfl⟩ | ⟨b0, b1, b2, b3, -, -⟩
    · exact absurd (ok.mp a) b0
    · exact absurd (hh.mp a1) b1
    · exact ⟨L, rfl⟩
    · omega
  · omega
  · have w : ∀ (c : Nat) (j : Int), c ≠ 16 → c ≠ 17 → c ≠ 18 → c ≠ 19 → c ≠ 20 → c ≠ 21 → V1 c j = V c j := fun c j h1 h2 h3 h4 h5 h6 => by rw [a5 c j h6, up_c h1, up_c h5, up_c h4, up_c h3, up_c h2]
    have w16 : V1 16 1 = w32 (V 16 1 + 1) := by rw [a5 16 1 (by decide), up_s]
    have w17 : ∀ j, V1 17 j = if j = V 16 1 then f else V 17 j := fun j => by rw [a5 17 j (by decide), up_c (by decide), up_c (by decide), up_c (by decide), up_c (by decide), up_p]
    have w18 : ∀ j, V1 18 j = if j = V 16 1 then b else V 18 j := fun j => by rw [a5 18 j (by decide), up_c (by decide), up_c (by decide), up_c (by decide), up_p, up_c (by decide)]
    have w19 : ∀ j, V1 19 j = if j = V 16 1 then c else V 19 j := fun j => by rw [a5 19 j (by decide), up_c (by decide), up_c (by decide), up_p, up_c (by decide), up_c (by decide)]
    have w20 : ∀ j, V1 20 j = if j = V 16 1 then V 1 0 else V 20 j := fun j => by rw [a5 20 j (by decide), up_c (by decide), up_p, up_c (by decide), up_c (by decide), up_c (by decide)]
    have y : ∀ (c : Nat) (j : Int), 72 ≤ c → V1 c j = V c j := fun c j h => w c j (by omega) (by omega) (by omega) (by omega) (by omega) (by omega)
    have okW : ok230 V1 f b c ↔ ok230 V f b c := by
      unfold ok230 mField mFarm mBody
      rw [y 72 2 (by decide), y 73 b (by decide), y 73 f (by decide)]
    have mh : ∀ d k, mHold V1 b d k = mHold V b d k := by
      intro d k
      have s : ∀ i, mHo V1 b d k i = mHo V b d k i := by
        intro i
        induction i with
        | zero => rfl
        | succ i ih =>
          unfold mHo
          rw [ih, y 83 _ (by decide), y 86 _ (by decide), y 85 _ (by decide), y 85 _ (by decide)]
      unfold mHold
      rw [y 72 14 (by decide), s, y 75 _ (by decide), y 84 _ (by decide)]
    have hW : hd230 V1 f b ↔ hd230 V f b := by
      unfold hd230
      rw [mh, y 72 1 (by decide), y 77 b (by decide)]
    have e19 := y 72 19 (by decide)
    have e1 := y 72 1 (by decide)
    rcases m with ⟨b0, rfl, rfl⟩ | ⟨b0, b1, rfl, rfl⟩ | ⟨b0, b1, b2, rfl, rfl⟩ | ⟨b0, b1, b2, b3, rfl, rfl⟩
    · exact absurd (okW.mpr (ok.mp a)) b0
    · exact absurd (hW.mpr (hh.mp a1)) b1
    · omega
    · have w1 : w32 (V 16 1 + 1) = V 16 1 + 1 := w32_id (by omega) (by omega)
      unfold mClmV
      have g : ∀ (c' : Nat) (j : Int), c' ≠ 72 → c' ≠ 87 → c' ≠ 88 → c' ≠ 89 → c' ≠ 90 → up (up (up (up (up (up V1 87 (V1 72 19) f) 88 (V1 72 19) b) 89 (V1 72 19) c) 90 (V1 72 19) (V1 72 1)) 72 19 (w32 (V1 72 19 + 1))) 72 38 1 c' j = V1 c' j := fun c' j h1 h2 h3 h4 h5 => by rw [up_c h1, up_c h1, up_c h5, up_c h4, up_c h3, up_c h2]
      refine ⟨⟨?_, fun j => ?_, fun j => ?_, fun j => ?_, fun j => ?_, ?_, ?_⟩, by rw [e19, l1]⟩
      · rw [g 16 1 (by decide) (by decide) (by decide) (by decide) (by decide), w16, up_j (by decide), up_s, e19, l1]
      · rw [g 17 j (by decide) (by decide) (by decide) (by decide) (by decide), w17, up_c (by decide), up_c (by decide), up_c (by decide), up_c (by decide), up_c (by decide), up_p, e19, l1, y 87 j (by decide), l2]
      · rw [g 18 j (by decide) (by decide) (by decide) (by decide) (by decide), w18, up_c (by decide), up_c (by decide), up_c (by decide), up_c (by decide), up_p, up_c (by decide), e19, l1, y 88 j (by decide), l3]
      · rw [g 19 j (by decide) (by decide) (by decide) (by decide) (by decide), w19, up_c (by decide), up_c (by decide), up_c (by decide), up_p, up_c (by decide), up_c (by decide), e19, l1, y 89 j (by decide), l4]
      · rw [g 20 j (by decide) (by decide) (by decide) (by decide) (by decide), w20, up_c (by decide), up_c (by decide), up_p, up_c (by decide), up_c (by decide), up_c (by decide), e19, l1, y 90 j (by decide), e1, hd, l5]
      · rw [g 16 1 (by decide) (by decide) (by decide) (by decide) (by decide), w16]; omega
      · rw [g 16 1 (by decide) (by decide) (by decide) (by decide) (by decide), w16]; omega
def LHand : List (Nat × Option Nat) := [(1, some 6), (72, some 14), (9, none), (83, none), (10, none), (84, none), (11, none), (85, none), (12, none), (86, none)]
theorem JHand_ag {V V' : vS} (J : JHand V) (A : ag LHand V V') : JHand V' := by
  obtain ⟨a1, a2, a3, a4, a5, a6, a7, a8, a9, a10, -⟩ := A
  have a1 : V' 1 6 = V 1 6 := a1
  have a2 : V' 72 14 = V 72 14 := a2
  unfold JHand
  simp only [a1, a2, a3, a4, a5, a6, a7, a8, a9, a10]
  exact J
def LClm : List (Nat × Option Nat) := [(16, some 1), (72, some 19), (17, none), (87, none), (18, none), (88, none), (19, none), (89, none), (20, none), (90, none)]
theorem JClm_ag {V V' : vS} (J : JClm V) (A : ag LClm V V') : JClm V' := by
  obtain ⟨a1, a2, a3, a4, a5, a6, a7, a8, a9, a10, -⟩ := A
  have a1 : V' 16 1 = V 16 1 := a1
  have a2 : V' 72 19 = V 72 19 := a2
  unfold JClm
  simp only [a1, a2, a3, a4, a5, a6, a7, a8, a9, a10]
  exact J
theorem JHand_dG {W : List (Nat × Nat)} {σ σ1 : List Nat} {h h1 : aH} (J : JHand (vw h)) (I : dI σ h) (G : dG W σ h σ1 h1) (k : frL W LHand = true) : JHand (vw h1) := JHand_ag J (ag_dG I.1 G _ k)
theorem JClm_dG {W : List (Nat × Nat)} {σ σ1 : List Nat} {h h1 : aH} (J : JClm (vw h)) (I : dI σ h) (G : dG W σ h σ1 h1) (k : frL W LClm = true) : JClm (vw h1) := JClm_ag J (ag_dG I.1 G _ k)
theorem zJHand0 : JHand (vw zH0) := by
  have e1 : vw zH0 1 6 = 0 := vzf (i := 6) (x := 0) zh1 rfl
  have e2 : vw zH0 72 14 = 0 := vzf (i := 14) (x := 0) zh72 rfl
  refine ⟨by rw [e1, e2], fun j => by rw [vz zh9, vz zh83], fun j => by rw [vz zh10, vz zh84], fun j => by rw [vz zh11, vz zh85], fun j => by rw [vz zh12, vz zh86], by rw [e1]; decide, by rw [e1]; decide, fun j h0 h1 => by rw [e1] at h1; omega, fun j => by rw [vz zh10]; decide⟩
theorem zJClm0 : JClm (vw zH0) := by
  have e1 : vw zH0 16 1 = 0 := vzf (i := 1) (x := 0) zh16 rfl
  have e2 : vw zH0 72 19 = 0 := vzf (i := 19) (x := 0) zh72 rfl
  refine ⟨by rw [e1, e2], fun j => by rw [vz zh17, vz zh87], fun j => by rw [vz zh18, vz zh88], fun j => by rw [vz zh19, vz zh89], fun j => by rw [vz zh20, vz zh90], by rw [e1]; decide, by rw [e1]; decide⟩
end
section
def fillV (V : vS) (c : Nat) (A B v : Int) : vS := fun c' j => if c' = c ∧ A ≤ j ∧ j < B then v else V c' j
theorem fillV_c {V : vS} {c c' : Nat} {A B v j : Int} (h : c' ≠ c) : fillV V c A B v c' j = V c' j := if_neg (fun q => h q.1)
theorem fillV_s {V : vS} {c : Nat} {A B v : Int} (h : A ≤ B) : up (fillV V c A B v) c B v = fillV V c A (B + 1) v := by
  funext c' j
  unfold up fillV
  by_cases q : c' = c
  · subst q
    by_cases q2 : j = B
    · rw [if_pos ⟨rfl, q2⟩, if_pos ⟨rfl, by omega, by omega⟩]
    · rw [if_neg (fun z => q2 z.2)]
      by_cases q3 : A ≤ j ∧ j < B
      · rw [if_pos ⟨rfl, q3⟩, if_pos ⟨rfl, by omega, by omega⟩]
      · rw [if_neg (fun z => q3 z.2), if_neg (fun z => by omega)]
  · rw [if_neg (fun z => q z.1), if_neg (fun z => q z.1), if_neg (fun z => q z.1)]
theorem fillV_0 {V : vS} {c : Nat} {A v : Int} : fillV V c A A v = V := by
  funext c' j
  unfold fillV
  rw [if_neg (fun z => by omega)]
end
section
section WV
variable {X : aX} {D : Nat} {M : aM} {Q : Option Value → aH → Prop} {pc len a b : Nat} {l : aL} {r : List Value} {h : aH}
theorem w_lshlv {x : Int64} {y : Int32} (hf : aF pc M.2.2.2.2.2.2.2 = some (pc, .lshl, len, a, b)) (k : ∀ z : Int64, z = x <<< (y.toInt64 &&& 63) → Wp X D M Q (pc + 1) l (.long z :: r) h) : Wp X D M Q pc l (.int y :: .long x :: r) h := wp1 (fun n d => r_lshl hf rfl) (k _ rfl)
theorem w_landv {x y : Int64} (hf : aF pc M.2.2.2.2.2.2.2 = some (pc, .land, len, a, b)) (k : ∀ z : Int64, z = x &&& y → Wp X D M Q (pc + 1) l (.long z :: r) h) : Wp X D M Q pc l (.long y :: .long x :: r) h := wp1 (fun n d => r_land hf rfl) (k _ rfl)
theorem w_lorv {x y : Int64} (hf : aF pc M.2.2.2.2.2.2.2 = some (pc, .lor, len, a, b)) (k : ∀ z : Int64, z = x ||| y → Wp X D M Q (pc + 1) l (.long z :: r) h) : Wp X D M Q pc l (.long y :: .long x :: r) h := wp1 (fun n d => r_lor hf rfl) (k _ rfl)
end WV
theorem fillV_i {V : vS} {c : Nat} {A B v j : Int} (h : A ≤ j ∧ j < B) : fillV V c A B v c j = v := if_pos ⟨rfl, h⟩
end

-- ===== 82zr.rel: 6 texts =====
section
-- ===== the two sides' bodies and rings, as numbers =====
theorem cA_n {V : vS} {k m t : Int} : cAddV V k m t 1 1 = w32 (V 1 1 + 1) := by unfold cAddV; rw [up_s]
theorem cA_2 {V : vS} {k m t j : Int} : cAddV V k m t 2 j = if j = V 1 1 then k else V 2 j := by
  unfold cAddV
  rw [up_c (by decide), up_c (by decide), up_c (by decide), up_c (by decide), up_c (by decide), up_c (by decide), up_c (by decide), up_p]
theorem cA_3 {V : vS} {k m t j : Int} : cAddV V k m t 3 j = if j = V 1 1 then m else V 3 j := by
  unfold cAddV
  rw [up_c (by decide), up_c (by decide), up_c (by decide), up_c (by decide), up_c (by decide), up_c (by decide), up_p, up_c (by decide)]
theorem cA_7 {V : vS} {k m t j : Int} : cAddV V k m t 7 j = if j = V 1 1 then t else V 7 j := by
  unfold cAddV
  rw [up_c (by decide), up_c (by decide), up_c (by decide), up_c (by decide), up_c (by decide), up_p, up_c (by decide), up_c (by decide)]
theorem cA_4 {V : vS} {k m t j : Int} : cAddV V k m t 4 j = if j = V 1 1 then V 1 0 else V 4 j := by
  unfold cAddV
  rw [up_c (by decide), up_c (by decide), up_c (by decide), up_c (by decide), up_p, up_c (by decide), up_c (by decide), up_c (by decide)]
theorem cA_5 {V : vS} {k m t j : Int} : cAddV V k m t 5 j = if j = V 1 1 then -1 else V 5 j := by
  unfold cAddV
  rw [up_c (by decide), up_c (by decide), up_c (by decide), up_p, up_c (by decide), up_c (by decide), up_c (by decide), up_c (by decide)]
theorem mA_n {V : vS} {k : Int} : mAddV V k 72 2 = w32 (V 72 2 + 1) := by unfold mAddV; rw [up_s]
theorem mA_73 {V : vS} {k j : Int} : mAddV V k 73 j = if j = V 72 2 then k else V 73 j := by
  unfold mAddV
  rw [up_c (by decide), up_c (by decide), up_c (by decide), up_c (by decide), up_p]
theorem mA_75 {V : vS} {k j : Int} : mAddV V k 75 j = if j = V 72 2 then -1 else V 75 j := by
  unfold mAddV
  rw [up_c (by decide), up_c (by decide), up_c (by decide), up_p, up_c (by decide)]
theorem mA_76 {V : vS} {k j : Int} : mAddV V k 76 j = if j = V 72 2 then V 72 1 else V 76 j := by
  unfold mAddV
  rw [up_c (by decide), up_c (by decide), up_p, up_c (by decide), up_c (by decide)]
theorem mA_77 {V : vS} {k j : Int} : mAddV V k 77 j = if j = V 72 2 then -1 else V 77 j := by
  unfold mAddV
  rw [up_c (by decide), up_p, up_c (by decide), up_c (by decide), up_c (by decide)]
def JMeas (V : vS) (j : Int) : Prop := (kFarm (V 2 j) → V 3 j = V 74 j) ∧ (4 ≤ V 2 j → V 2 j ≤ 5 → V 3 j = V 78 j) ∧ (V 2 j = 6 → V 3 j = V 79 j)
def JBody (V : vS) : Prop := V 1 1 = V 72 2 ∧ (∀ j, V 2 j = V 73 j) ∧ (∀ j, V 4 j = V 76 j) ∧ (∀ j, V 5 j = V 77 j) ∧ (∀ j, V 7 j = V 75 j) ∧ 0 ≤ V 1 1 ∧ V 1 1 ≤ 150 ∧ (∀ j, -1 ≤ V 5 j ∧ -1 ≤ V 7 j) ∧ ∀ j, 0 ≤ j → j < V 1 1 → JMeas V j
theorem jb_gen {V V2 : vS} {k m t : Int} (J : JBody V) (hd : V 1 0 = V 72 1) (hn : V 1 1 < 150) (ht : -1 ≤ t) (a1 : V2 1 1 = w32 (V 1 1 + 1)) (a2 : ∀ j, V2 2 j = if j = V 1 1 then k else V 2 j) (a3 : ∀ j, V2 3 j = if j = V 1 1 then m else V 3 j) (a4 : ∀ j, V2 4 j = if j = V 1 1 then V 1 0 else V 4 j) (a5 : ∀ j, V2 5 j = if j = V 1 1 then -1 else V 5 j) (a7 : ∀ j, V2 7 j = if j = V 1 1 then t else V 7 j)
    (b1 : V2 72 2 = w32 (V 72 2 + 1)) (b2 : ∀ j, V2 73 j = if j = V 72 2 then k else V 73 j) (b4 : ∀ j, V2 76 j = if j = V 72 2 then V 72 1 else V 76 j) (b5 : ∀ j, V2 77 j = if j = V 72 2 then -1 else V 77 j) (b7 : ∀ j, V2 75 j = if j = V 72 2 then t else V 75 j) (c1 : ∀ j, j ≠ V 72 2 → V2 74 j = V 74 j ∧ V2 78 j = V 78 j ∧ V2 79 j = V 79 j) (c2 : (kFarm k → V2 74 (V 72 2) = m) ∧ (4 ≤ k → k ≤ 5 → V2 78 (V 72 2) = m) ∧ (k = 6 → V2 79 (V 72 2) = m)) : JBody V2 := by
  obtain ⟨j1, j2, j3, j4, j5, j6, j7, j9, j8⟩ := J
  rw [w32_id (by omega) (by omega)] at a1 b1
  refine ⟨by omega, fun j => by rw [a2, b2, j1, j2], fun j => by rw [a4, b4, j1, j3, hd], fun j => by rw [a5, b5, j1, j4], fun j => by rw [a7, b7, j1, j5], by omega, by omega, fun j => ⟨by rw [a5]; have := (j9 j).1; split <;> omega, by rw [a7]; have := (j9 j).2; split <;> omega⟩, fun j h0 h1 => ?_⟩
  unfold JMeas
  rw [a2, a3]
  by_cases q : j = V 1 1
  · subst q
    rw [if_pos rfl, if_pos rfl]
    rw [j1]
    exact ⟨fun z => (c2.1 z).symm, fun z1 z2 => (c2.2.1 z1 z2).symm, fun z => (c2.2.2 z).symm⟩
  · rw [if_neg q, if_neg q]
    obtain ⟨d1, d2, d3⟩ := c1 j (by omega)
    rw [d1, d2, d3]
    exact j8 j h0 (by omega)
theorem farm_j {V : vS} (J : JBody V) (b : Int) : cFarm V b ↔ mFarm V b := by
  unfold cFarm mFarm cBody mBody
  rw [J.1, J.2.1]
  unfold kFarm uF
  omega
theorem field_j {V : vS} (J : JBody V) (b : Int) : cField V b ↔ mField V b := by
  unfold cField mField cBody mBody
  rw [J.1, J.2.1]
  unfold uF
  omega
-- a call of both sides: body, farm, corner, uncorner, area, field, permit
theorem jx_1 {V V1 V2 : vS} {r1 r2 : Int} (J : JBody V) (hd : V 1 0 = V 72 1) (c : RAdd V 0 0 (-1) r1 V1) (m : RM205 V1 0 r2 V2) : JBody V2 ∧ r1 = r2 := by
  have j1 := J.1
  have j7 := J.2.2.2.2.2.2.1
  rcases c with ⟨a, rfl, rfl⟩ | ⟨a1, a2, rfl, rfl⟩
  · rcases m with ⟨b, rfl, rfl⟩ | ⟨b, c1, c2, -, -⟩
    · exact ⟨J, rfl⟩
    · omega
  · have e : cAddV V 0 0 (-1) 72 2 = V 72 2 := cAddV_c (by decide) (by decide) (by decide) (by decide) (by decide) (by decide)
    rcases m with ⟨b, rfl, rfl⟩ | ⟨b, c1, c2, rfl, rfl⟩
    · omega
    · refine ⟨jb_gen (k := 0) (m := 0) (t := -1) J hd a2 (by decide) ?_ ?_ ?_ ?_ ?_ ?_ ?_ ?_ ?_ ?_ ?_ ?_ ?_, by omega⟩
      · rw [mAddV_c (by decide) (by decide) (by decide) (by decide) (by decide), cA_n]
      · intro j; rw [mAddV_c (by decide) (by decide) (by decide) (by decide) (by decide), cA_2]
      · intro j; rw [mAddV_c (by decide) (by decide) (by decide) (by decide) (by decide), cA_3]
      · intro j; rw [mAddV_c (by decide) (by decide) (by decide) (by decide) (by decide), cA_4]
      · intro j; rw [mAddV_c (by decide) (by decide) (by decide) (by decide) (by decide), cA_5]
      · intro j; rw [mAddV_c (by decide) (by decide) (by decide) (by decide) (by decide), cA_7]
      · rw [mA_n, e]
      · intro j; rw [mA_73, e, cAddV_c (by decide) (by decide) (by decide) (by decide) (by decide) (by decide)]
      · intro j; rw [mA_76, e, cAddV_c (by decide) (by decide) (by decide) (by decide) (by decide) (by decide), cAddV_c (by decide) (by decide) (by decide) (by decide) (by decide) (by decide)]
      · intro j; rw [mA_77, e, cAddV_c (by decide) (by decide) (by decide) (by decide) (by decide) (by decide)]
      · intro j; rw [mA_75, e, cAddV_c (by decide) (by decide) (by decide) (by decide) (by decide) (by decide)]
      · intro j _
        refine ⟨?_, ?_, ?_⟩ <;> rw [mAddV_c (by decide) (by decide) (by decide) (by decide) (by decide), cAddV_c (by decide) (by decide) (by decide) (by decide) (by decide) (by decide)]
      · refine ⟨fun z => ?_, fun z1 z2 => by omega, fun z => by omega⟩
        unfold kFarm at z
        omega
theorem jx_2 {V V1 V2 : vS} {k l r1 r2 : Int} (J : JBody V) (hd : V 1 0 = V 72 1) (c : R146 V k l r1 V1) (m : R207 V1 k l r2 V2) : JBody V2 ∧ r1 = r2 := by
  have j1 := J.1
  have j7 := J.2.2.2.2.2.2.1
  have kk : (kFarm k ∧ 0 ≤ l ∧ l ≤ 3) ↔ (uF k 1 ∧ 0 ≤ k ∧ k ≤ 7 ∧ 0 ≤ l ∧ l ≤ 3) := by
    unfold kFarm uF
    omega
  rcases c with ⟨a, rfl, rfl⟩ | ⟨a, ⟨a0, rfl, rfl⟩ | ⟨a1, a2, rfl, rfl⟩⟩
  · rcases m with ⟨b, rfl, rfl⟩ | ⟨b, -⟩ | ⟨b, -⟩
    · exact ⟨J, rfl⟩
    · exact absurd (kk.mpr b) a
    · exact absurd (kk.mpr b) a
  · rcases m with ⟨b, rfl, rfl⟩ | ⟨b, c1, rfl, rfl⟩ | ⟨b, c1, V3, c2, -⟩
    · exact absurd (kk.mp a) b
    · exact ⟨J, rfl⟩
    · obtain ⟨d1, d2, -, -⟩ := c2
      omega
  · have e : cAddV V k l (-1) 72 2 = V 72 2 := cAddV_c (by decide) (by decide) (by decide) (by decide) (by decide) (by decide)
    rcases m with ⟨b, rfl, rfl⟩ | ⟨b, c1, rfl, rfl⟩ | ⟨b, c1, V3, ⟨d1, d2, rfl, rfl⟩, rfl⟩
    · exact absurd (kk.mp a) b
    · omega
    · refine ⟨jb_gen (k := k) (m := l) (t := -1) J hd a2 (by decide) ?_ ?_ ?_ ?_ ?_ ?_ ?_ ?_ ?_ ?_ ?_ ?_ ?_, by omega⟩
      · rw [up_c (by decide), mAddV_c (by decide) (by decide) (by decide) (by decide) (by decide), cA_n]
      · intro j; rw [up_c (by decide), mAddV_c (by decide) (by decide) (by decide) (by decide) (by decide), cA_2]
      · intro j; rw [up_c (by decide), mAddV_c (by decide) (by decide) (by decide) (by decide) (by decide), cA_3]
      · intro j; rw [up_c (by decide), mAddV_c (by decide) (by decide) (by decide) (by decide) (by decide), cA_4]
      · intro j; rw [up_c (by decide), mAddV_c (by decide) (by decide) (by decide) (by decide) (by decide), cA_5]
      · intro j; rw [up_c (by decide), mAddV_c (by decide) (by decide) (by decide) (by decide) (by decide), cA_7]
      · rw [up_c (by decide), mA_n, e]
      · intro j; rw [up_c (by decide), mA_73, e, cAddV_c (by decide) (by decide) (by decide) (by decide) (by decide) (by decide)]
      · intro j; rw [up_c (by decide), mA_76, e, cAddV_c (by decide) (by decide) (by decide) (by decide) (by decide) (by decide), cAddV_c (by decide) (by decide) (by decide) (by decide) (by decide) (by decide)]
      · intro j; rw [up_c (by decide), mA_77, e, cAddV_c (by decide) (by decide) (by decide) (by decide) (by decide) (by decide)]
      · intro j; rw [up_c (by decide), mA_75, e, cAddV_c (by decide) (by decide) (by decide) (by decide) (by decide) (by decide)]
      · intro j q
        refine ⟨?_, ?_, ?_⟩
        · rw [up_p, e, if_neg q, mAddV_c (by decide) (by decide) (by decide) (by decide) (by decide), cAddV_c (by decide) (by decide) (by decide) (by decide) (by decide) (by decide)]
        · rw [up_c (by decide), mAddV_c (by decide) (by decide) (by decide) (by decide) (by decide), cAddV_c (by decide) (by decide) (by decide) (by decide) (by decide) (by decide)]
        · rw [up_c (by decide), mAddV_c (by decide) (by decide) (by decide) (by decide) (by decide), cAddV_c (by decide) (by decide) (by decide) (by decide) (by decide) (by decide)]
      · have k7 := a.1
        unfold kFarm at k7
        refine ⟨fun z => ?_, fun z1 z2 => by omega, fun z => by omega⟩
        rw [up_p, e, if_pos rfl]
theorem jx_3 {V V1 V2 : vS} {x y r1 r2 : Int} (J : JRing V) (c : R147 V x y r1 V1) (m : R209 V1 x y r2 V2) : JRing V2 ∧ r1 = r2 := by
  have J0 := J
  obtain ⟨j1, j2, j3, j4, j5⟩ := J0
  rcases c with ⟨a, rfl, rfl⟩ | ⟨a, a0, rfl, rfl⟩ | ⟨a, a0, ⟨a1, -, -⟩ | ⟨a1, a2, rfl, rfl⟩⟩
  · rcases m with ⟨b, rfl, rfl⟩ | ⟨b, -⟩ | ⟨b, -⟩
    · exact ⟨J, rfl⟩
    · exact absurd b a
    · exact absurd b a
  · rcases m with ⟨b, rfl, rfl⟩ | ⟨b, b1, rfl, rfl⟩ | ⟨b, b1, b2, -⟩
    · exact absurd a b
    · exact ⟨J, rfl⟩
    · omega
  · omega
  · have e : ∀ (c : Nat) (j : Int), c ≠ 13 → c ≠ 14 → c ≠ 15 → up (up (up V 14 (V 13 2) x) 15 (V 13 2) y) 13 2 (w32 (V 13 2 + 1)) c j = V c j := by
      intro c j h1 h2 h3
      rw [up_c h1, up_c h3, up_c h2]
    have e2 := e 72 11 (by decide) (by decide) (by decide)
    rcases m with ⟨b, rfl, rfl⟩ | ⟨b, b1, rfl, rfl⟩ | ⟨b, b1, b2, rfl, rfl⟩
    · exact absurd a b
    · omega
    · have w1 : w32 (V 13 2 + 1) = V 13 2 + 1 := w32_id (by omega) (by omega)
      rw [e2, ← j1]
      refine ⟨⟨?_, fun j => ?_, fun j => ?_, ?_, ?_⟩, rfl⟩
      · rw [up_s, up_c (by decide), up_c (by decide), up_c (by decide), up_s]
      · rw [up_c (by decide), up_c (by decide), up_c (by decide), up_c (by decide), up_c (by decide), up_p, up_c (by decide), up_c (by decide), up_p, e 81 j (by decide) (by decide) (by decide), j2]
      · rw [up_c (by decide), up_c (by decide), up_c (by decide), up_c (by decide), up_p, up_c (by decide), up_c (by decide), up_p, up_c (by decide), e 82 j (by decide) (by decide) (by decide), j3]
      · rw [up_c (by decide), up_c (by decide), up_c (by decide), up_s]; omega
      · rw [up_c (by decide), up_c (by decide), up_c (by decide), up_s]; omega
theorem jx_4 {V V1 V2 : vS} {r1 r2 : Int} (J : JRing V) (c : r1 = V 13 2 ∧ V1 = up V 13 2 0) (m : r2 = V1 72 11 ∧ V2 = up V1 72 11 0) : JRing V2 ∧ r1 = r2 := by
  obtain ⟨j1, j2, j3, j4, j5⟩ := J
  obtain ⟨rfl, rfl⟩ := c
  obtain ⟨rfl, rfl⟩ := m
  refine ⟨⟨?_, fun j => ?_, fun j => ?_, ?_, ?_⟩, ?_⟩
  · rw [up_c (by decide), up_s, up_s]
  · rw [up_c (by decide), up_c (by decide), up_c (by decide), up_c (by decide), j2]
  · rw [up_c (by decide), up_c (by decide), up_c (by decide), up_c (by decide), j3]
  · rw [up_c (by decide), up_s]; decide
  · rw [up_c (by decide), up_s]; decide
  · rw [up_c (by decide), j1]
theorem jx_6w {V W : vS} {kd f : Int} (J : JRing V) (K : JBody V) (hd : V 1 0 = V 72 1) (a2 : V 1 1 < 150) (hf : -1 ≤ f) (hkd : 4 ≤ kd ∧ kd ≤ 5) (e : ∀ (c : Nat) (j : Int), c ≠ 1 → c ≠ 2 → c ≠ 3 → c ≠ 4 → c ≠ 5 → c ≠ 7 → c ≠ 8 → c ≠ 13 → W c j = V c j) (w13 : W 13 2 = 0) (wc : ∀ (c : Nat) (j : Int), c ≠ 8 → c ≠ 13 → W c j = cAddV V kd (cArea V) f c j) : JRing (up (outm (up (up (mAddV W kd) 75 (W 72 2) f) 78 (W 72 2) (cArea V)) (W 72 2) 24) 72 11 0) ∧ JBody (up (outm (up (up (mAddV W kd) 75 (W 72 2) f) 78 (W 72 2) (cArea V)) (W 72 2) 24) 72 11 0) := by
  have J0 := J
  obtain ⟨j1, j2, j3, j4, j5⟩ := J0
  have en : W 72 2 = V 72 2 := e 72 2 (by decide) (by decide) (by decide) (by decide) (by decide) (by decide) (by decide) (by decide)
  have e81 : ∀ j, W 81 j = V 81 j := fun j => e 81 j (by decide) (by decide) (by decide) (by decide) (by decide) (by decide) (by decide) (by decide)
  have e82 : ∀ j, W 82 j = V 82 j := fun j => e 82 j (by decide) (by decide) (by decide) (by decide) (by decide) (by decide) (by decide) (by decide)
  have q : ∀ (c : Nat) (j : Int), c ≠ 72 → c ≠ 73 → c ≠ 75 → c ≠ 76 → c ≠ 77 → c ≠ 78 → c ≠ 80 → up (outm (up (up (mAddV W kd) 75 (W 72 2) f) 78 (W 72 2) (cArea V)) (W 72 2) 24) 72 11 0 c j = W c j := by
    intro c j h1 h2 h3 h4 h5 h6 h7
    rw [up_c h1, outm_c h7, up_c h6, up_c h3, mAddV_c h1 h2 h3 h4 h5]
  refine ⟨⟨?_, fun j => ?_, fun j => ?_, ?_, ?_⟩, jb_gen (k := kd) (m := cArea V) (t := f) K hd a2 hf ?_ ?_ ?_ ?_ ?_ ?_ ?_ ?_ ?_ ?_ ?_ ?_ ?_⟩
  · rw [q 13 2 (by decide) (by decide) (by decide) (by decide) (by decide) (by decide) (by decide), w13, up_s]
  · rw [q 14 j (by decide) (by decide) (by decide) (by decide) (by decide) (by decide) (by decide), q 81 j (by decide) (by decide) (by decide) (by decide) (by decide) (by decide) (by decide), e81, ← j2, wc 14 j (by decide) (by decide), cAddV_c (by decide) (by decide) (by decide) (by decide) (by decide) (by decide)]
  · rw [q 15 j (by decide) (by decide) (by decide) (by decide) (by decide) (by decide) (by decide), q 82 j (by decide) (by decide) (by decide) (by decide) (by decide) (by decide) (by decide), e82, ← j3, wc 15 j (by decide) (by decide), cAddV_c (by decide) (by decide) (by decide) (by decide) (by decide) (by decide)]
  · rw [q 13 2 (by decide) (by decide) (by decide) (by decide) (by decide) (by decide) (by decide), w13]; decide
  · rw [q 13 2 (by decide) (by decide) (by decide) (by decide) (by decide) (by decide) (by decide), w13]; decide
  · rw [q 1 1 (by decide) (by decide) (by decide) (by decide) (by decide) (by decide) (by decide), wc 1 1 (by decide) (by decide), cA_n]
  · intro j; rw [q 2 j (by decide) (by decide) (by decide) (by decide) (by decide) (by decide) (by decide), wc 2 j (by decide) (by decide), cA_2]
  · intro j; rw [q 3 j (by decide) (by decide) (by decide) (by decide) (by decide) (by decide) (by decide), wc 3 j (by decide) (by decide), cA_3]
  · intro j; rw [q 4 j (by decide) (by decide) (by decide) (by decide) (by decide) (by decide) (by decide), wc 4 j (by decide) (by decide), cA_4]
  · intro j; rw [q 5 j (by decide) (by decide) (by decide) (by decide) (by decide) (by decide) (by decide), wc 5 j (by decide) (by decide), cA_5]
  · intro j; rw [q 7 j (by decide) (by decide) (by decide) (by decide) (by decide) (by decide) (by decide), wc 7 j (by decide) (by decide), cA_7]
  · rw [up_j (by decide), outm_c (by decide), up_c (by decide), up_c (by decide), mA_n, en]
  · intro j; rw [up_c (by decide), outm_c (by decide), up_c (by decide), up_c (by decide), mA_73, en, wc 73 j (by decide) (by decide), cAddV_c (by decide) (by decide) (by decide) (by decide) (by decide) (by decide)]
  · intro j; rw [up_c (by decide), outm_c (by decide), up_c (by decide), up_c (by decide), mA_76, en, wc 76 j (by decide) (by decide), wc 72 1 (by decide) (by decide), cAddV_c (by decide) (by decide) (by decide) (by decide) (by decide) (by decide), cAddV_c (by decide) (by decide) (by decide) (by decide) (by decide) (by decide)]
  · intro j; rw [up_c (by decide), outm_c (by decide), up_c (by decide), up_c (by decide), mA_77, en, wc 77 j (by decide) (by decide), cAddV_c (by decide) (by decide) (by decide) (by decide) (by decide) (by decide)]
  · intro j; rw [up_c (by decide), outm_c (by decide), up_c (by decide), up_p, en]
    by_cases z : j = V 72 2
    · rw [if_pos z, if_pos z]
    · rw [if_neg z, if_neg z, mA_75, en, if_neg z, wc 75 j (by decide) (by decide), cAddV_c (by decide) (by decide) (by decide) (by decide) (by decide) (by decide)]
  · intro j z
    refine ⟨?_, ?_, ?_⟩
    · rw [q 74 j (by decide) (by decide) (by decide) (by decide) (by decide) (by decide) (by decide), wc 74 j (by decide) (by decide), cAddV_c (by decide) (by decide) (by decide) (by decide) (by decide) (by decide)]
    · rw [up_c (by decide), outm_c (by decide), up_p, en, if_neg z, up_c (by decide), mAddV_c (by decide) (by decide) (by decide) (by decide) (by decide), wc 78 j (by decide) (by decide), cAddV_c (by decide) (by decide) (by decide) (by decide) (by decide) (by decide)]
    · rw [q 79 j (by decide) (by decide) (by decide) (by decide) (by decide) (by decide) (by decide), wc 79 j (by decide) (by decide), cAddV_c (by decide) (by decide) (by decide) (by decide) (by decide) (by decide)]
  · refine ⟨fun z => ?_, fun z1 z2 => ?_, fun z => by omega⟩
    · unfold kFarm at z; omega
    · rw [up_c (by decide), outm_c (by decide), up_p, en, if_pos rfl]
def R222k (kd : Int) (V : vS) (f m r : Int) (V' : vS) : Prop := (¬ (mFarm V f ∧ 0 ≤ m ∧ m ≤ 1) ∧ r = -1 ∧ V' = V) ∨ ((mFarm V f ∧ 0 ≤ m ∧ m ≤ 1) ∧ ((¬ mSound V ∧ r = -2 ∧ V' = V) ∨ (mSound V ∧ V 72 2 = 150 ∧ r = -3 ∧ V' = V) ∨ (mSound V ∧ V 72 2 ≠ 150 ∧ ∃ V1, RAddM V kd r V1 ∧ V' = up (outm (up (up V1 75 r f) 78 r (mArea V)) r 24) 72 11 0)))
theorem mSound_c {V W : vS} (er : W 72 11 = V 72 11) (e1 : ∀ j, W 81 j = V 81 j) (e2 : ∀ j, W 82 j = V 82 j) : mSound W ↔ mSound V := by
  unfold mSound mWay mMeet mlx mhx mly mhy
  simp only [er, e1, e2, mNxt_c er]
theorem jx_6c {V W V2 : vS} {kd f w r2 : Int} (J : JRing V) (K : JBody V) (hd : V 1 0 = V 72 1) (a : cFarm V f ∧ 0 ≤ w ∧ w ≤ 1) (a0 : cSound V) (a2 : V 1 1 < 150) (hkd : 4 ≤ kd ∧ kd ≤ 5) (e : ∀ (c : Nat) (j : Int), c ≠ 1 → c ≠ 2 → c ≠ 3 → c ≠ 4 → c ≠ 5 → c ≠ 7 → c ≠ 8 → c ≠ 13 → W c j = V c j) (w13 : W 13 2 = 0) (wc : ∀ (c : Nat) (j : Int), c ≠ 8 → c ≠ 13 → W c j = cAddV V kd (cArea V) f c j) (m : R222k kd W f w r2 V2) : (JRing V2 ∧ JBody V2) ∧ V 1 1 = r2 := by
  have k1 := K.1
  have k7 := K.2.2.2.2.2.2.1
  have en : W 72 2 = V 72 2 := e 72 2 (by decide) (by decide) (by decide) (by decide) (by decide) (by decide) (by decide) (by decide)
  have er : W 72 11 = V 72 11 := e 72 11 (by decide) (by decide) (by decide) (by decide) (by decide) (by decide) (by decide) (by decide)
  have e81 : ∀ j, W 81 j = V 81 j := fun j => e 81 j (by decide) (by decide) (by decide) (by decide) (by decide) (by decide) (by decide) (by decide)
  have e82 : ∀ j, W 82 j = V 82 j := fun j => e 82 j (by decide) (by decide) (by decide) (by decide) (by decide) (by decide) (by decide) (by decide)
  have mf : mFarm W f ↔ mFarm V f := by
    unfold mFarm mBody
    rw [en, e 73 f (by decide) (by decide) (by decide) (by decide) (by decide) (by decide) (by decide) (by decide)]
  have ma : mArea W = cArea V := by
    rw [area_j J]
    exact mArea_c er e81 e82
  rcases m with ⟨b, rfl, rfl⟩ | ⟨b, ⟨b0, rfl, rfl⟩ | ⟨b0, b1, rfl, rfl⟩ | ⟨b0, b1, V3, ⟨c1, c2, rfl, rfl⟩, rfl⟩⟩
  · exact absurd ⟨mf.mpr ((farm_j K f).mp a.1), a.2⟩ b
  · exact absurd ((mSound_c er e81 e82).mpr ((sound_j J).mp a0)) b0
  · rw [en] at b1
    omega
  · rw [ma]
    exact ⟨jx_6w J K hd a2 (by have := a.1.1.1; omega) hkd e w13 wc, by omega⟩
theorem jx_6 {V V1 V2 : vS} {f w r1 r2 : Int} (J : JRing V) (K : JBody V) (hd : V 1 0 = V 72 1) (c : R150 V f w r1 V1) (m : R222 V1 f w r2 V2) : (JRing V2 ∧ JBody V2) ∧ r1 = r2 := by
  have k1 := K.1
  have k7 := K.2.2.2.2.2.2.1
  rcases c with ⟨a, rfl, rfl⟩ | ⟨a, ⟨a0, rfl, rfl⟩ | ⟨a0, a1, rfl, rfl⟩ | ⟨a0, a1, a2, rfl, hV⟩⟩
  · rcases m with ⟨b, rfl, rfl⟩ | ⟨b, -⟩
    · exact ⟨⟨J, K⟩, rfl⟩
    · exact absurd ⟨(farm_j K f).mpr b.1, b.2⟩ a
  · rcases m with ⟨b, rfl, rfl⟩ | ⟨b, ⟨b0, rfl, rfl⟩ | ⟨b0, -⟩ | ⟨b0, -⟩⟩
    · exact absurd ⟨(farm_j K f).mp a.1, a.2⟩ b
    · exact ⟨⟨J, K⟩, rfl⟩
    · exact absurd ((sound_j J).mpr b0) a0
    · exact absurd ((sound_j J).mpr b0) a0
  · rcases m with ⟨b, rfl, rfl⟩ | ⟨b, ⟨b0, rfl, rfl⟩ | ⟨b0, b1, rfl, rfl⟩ | ⟨b0, b1, V3, ⟨c1, c2, -, -⟩, -⟩⟩
    · exact absurd ⟨(farm_j K f).mp a.1, a.2⟩ b
    · exact absurd ((sound_j J).mp a0) b0
    · exact ⟨⟨J, K⟩, rfl⟩
    · omega
  · have mk : R222k (if w = 1 then 5 else 4) V1 f w r2 V2 := m
    clear m
    generalize hk : (if w = 1 then (5 : Int) else 4) = kd at mk hV
    have hkd : 4 ≤ kd ∧ kd ≤ 5 := by
      rw [← hk]
      split <;> omega
    refine jx_6c J K hd a a0 a2 hkd (fun c j h1 h2 h3 h4 h5 h7 h8 h13 => ?_) (by rw [hV, up_s]) (fun c j h1 h2 => by rw [hV, up_c h2, outl_c h1]) mk
    rw [hV, up_c h13, outl_c h8, cAddV_c h1 h2 h3 h4 h5 h7]
theorem jx_7 {V V1 V2 : vS} {v r1 r2 : Int} (J : JBody V) (hd : V 1 0 = V 72 1) (c : R151 V v r1 V1) (m : R208 V1 v r2 V2) : JBody V2 ∧ r1 = r2 := by
  have j1 := J.1
  have j7 := J.2.2.2.2.2.2.1
  rcases c with ⟨a, rfl, rfl⟩ | ⟨a, ⟨a0, rfl, rfl⟩ | ⟨a1, a2, rfl, a3⟩⟩
  · rcases m with ⟨b, rfl, rfl⟩ | ⟨b, -⟩ | ⟨b, -⟩
    · exact ⟨J, rfl⟩
    · exact absurd b a
    · exact absurd b a
  · rcases m with ⟨b, rfl, rfl⟩ | ⟨b, c1, rfl, rfl⟩ | ⟨b, c1, V3, c2, -⟩
    · exact absurd a b
    · exact ⟨J, rfl⟩
    · obtain ⟨d1, d2, -, -⟩ := c2
      omega
  · have f : ∀ (c : Nat) (j : Int), c ≠ 6 → c ≠ 1 → V1 c j = cAddV V 6 v (-1) c j := fun c j h1 h2 => a3 c j h1 (fun z => h2 z.1)
    have e : V1 72 2 = V 72 2 := by rw [f 72 2 (by decide) (by decide)]; exact cAddV_c (by decide) (by decide) (by decide) (by decide) (by decide) (by decide)
    rcases m with ⟨b, rfl, rfl⟩ | ⟨b, c1, rfl, rfl⟩ | ⟨b, c1, V3, ⟨d1, d2, rfl, rfl⟩, rfl⟩
    · exact absurd a b
    · omega
    · refine ⟨jb_gen (k := 6) (m := v) (t := -1) J hd a2 (by decide) ?_ ?_ ?_ ?_ ?_ ?_ ?_ ?_ ?_ ?_ ?_ ?_ ?_, by omega⟩
      · rw [up_c (by decide), mAddV_c (by decide) (by decide) (by decide) (by decide) (by decide), a3 1 1 (by decide) (by decide), cA_n]
      · intro j; rw [up_c (by decide), mAddV_c (by decide) (by decide) (by decide) (by decide) (by decide), f 2 j (by decide) (by decide), cA_2]
      · intro j; rw [up_c (by decide), mAddV_c (by decide) (by decide) (by decide) (by decide) (by decide), f 3 j (by decide) (by decide), cA_3]
      · intro j; rw [up_c (by decide), mAddV_c (by decide) (by decide) (by decide) (by decide) (by decide), f 4 j (by decide) (by decide), cA_4]
      · intro j; rw [up_c (by decide), mAddV_c (by decide) (by decide) (by decide) (by decide) (by decide), f 5 j (by decide) (by decide), cA_5]
      · intro j; rw [up_c (by decide), mAddV_c (by decide) (by decide) (by decide) (by decide) (by decide), f 7 j (by decide) (by decide), cA_7]
      · rw [up_c (by decide), mA_n, e]
      · intro j; rw [up_c (by decide), mA_73, e, f 73 j (by decide) (by decide), cAddV_c (by decide) (by decide) (by decide) (by decide) (by decide) (by decide)]
      · intro j; rw [up_c (by decide), mA_76, e, f 76 j (by decide) (by decide), f 72 1 (by decide) (by decide), cAddV_c (by decide) (by decide) (by decide) (by decide) (by decide) (by decide), cAddV_c (by decide) (by decide) (by decide) (by decide) (by decide) (by decide)]
      · intro j; rw [up_c (by decide), mA_77, e, f 77 j (by decide) (by decide), cAddV_c (by decide) (by decide) (by decide) (by decide) (by decide) (by decide)]
      · intro j; rw [up_c (by decide), mA_75, e, f 75 j (by decide) (by decide), cAddV_c (by decide) (by decide) (by decide) (by decide) (by decide) (by decide)]
      · intro j q
        refine ⟨?_, ?_, ?_⟩
        · rw [up_c (by decide), mAddV_c (by decide) (by decide) (by decide) (by decide) (by decide), f 74 j (by decide) (by decide), cAddV_c (by decide) (by decide) (by decide) (by decide) (by decide) (by decide)]
        · rw [up_c (by decide), mAddV_c (by decide) (by decide) (by decide) (by decide) (by decide), f 78 j (by decide) (by decide), cAddV_c (by decide) (by decide) (by decide) (by decide) (by decide) (by decide)]
        · rw [up_p, e, if_neg q, mAddV_c (by decide) (by decide) (by decide) (by decide) (by decide), f 79 j (by decide) (by decide), cAddV_c (by decide) (by decide) (by decide) (by decide) (by decide) (by decide)]
      · refine ⟨fun z => ?_, fun z1 z2 => by omega, fun z => ?_⟩
        · unfold kFarm at z; omega
        · rw [up_p, e, if_pos rfl]
end
section
-- ===== frames of numbers; calls with what a run comes to =====
def fra (W : List (Nat × Nat)) (c : Nat) : Bool := match cRT[c]? with
  | some t => !(Nat.beq t.1 0) && Nat.blt c 146 && !(cWn W c 0)
  | none => false
def frf (W : List (Nat × Nat)) (c i : Nat) : Bool := match cRT[c]? with
  | some t => Nat.beq t.1 0 && Nat.blt c 146 && !(cWn W c i)
  | none => false
theorem vw_fa {W : List (Nat × Nat)} {σ σ1 : List Nat} {h h1 : aH} (H : dH σ h) (G : dG W σ h σ1 h1) {c : Nat} (k : fra W c = true) (j : Int) : vw h1 c j = vw h c j := by
  unfold fra at k
  split at k
  · rename_i t e
    simp only [Bool.and_eq_true, Bool.not_eq_true', Nat.blt_eq] at k
    obtain ⟨⟨k1, k2⟩, k3⟩ := k
    exact vw_dG H G k2 e j ⟨fun z => (by rw [z] at k1; cases k1), fun _ => k3⟩
  · cases k
theorem vw_ff {W : List (Nat × Nat)} {σ σ1 : List Nat} {h h1 : aH} (H : dH σ h) (G : dG W σ h σ1 h1) {c i : Nat} (k : frf W c i = true) : vw h1 c (i : Nat) = vw h c (i : Nat) := by
  unfold frf at k
  split at k
  · rename_i t e
    simp only [Bool.and_eq_true, Bool.not_eq_true', Nat.blt_eq] at k
    obtain ⟨⟨k1, k2⟩, k3⟩ := k
    exact vw_dG H G k2 e (i : Nat) ⟨fun _ => by rw [Int.toNat_natCast]; exact k3, fun z => absurd (Nat.eq_of_beq_eq_true k1) z⟩
  · cases k
def ag : List (Nat × Option Nat) → vS → vS → Prop
  | [], _, _ => True
  | (c, none) :: r, V, V' => (∀ j, V' c j = V c j) ∧ ag r V V'
  | (c, some i) :: r, V, V' => V' c (i : Nat) = V c (i : Nat) ∧ ag r V V'
def frL (W : List (Nat × Nat)) : List (Nat × Option Nat) → Bool
  | [] => true
  | (c, none) :: r => fra W c && frL W r
  | (c, some i) :: r => frf W c i && frL W r
theorem ag_dG {W : List (Nat × Nat)} {σ σ1 : List Nat} {h h1 : aH} (H : dH σ h) (G : dG W σ h σ1 h1) : ∀ (L : List (Nat × Option Nat)), frL W L = true → ag L (vw h) (vw h1)
  | [], _ => trivial
  | (c, none) :: r, k => by
    unfold frL at k
    rw [Bool.and_eq_true] at k
    exact ⟨fun j => vw_fa H G k.1 j, ag_dG H G r k.2⟩
  | (c, some i) :: r, k => by
    unfold frL at k
    rw [Bool.and_eq_true] at k
    exact ⟨vw_ff H G k.1, ag_dG H G r k.2⟩
def LRing : List (Nat × Option Nat) := [(13, some 2), (72, some 11), (14, none), (81, none), (15, none), (82, none)]
def LBody : List (Nat × Option Nat) := [(1, some 1), (72, some 2), (2, none), (73, none), (4, none), (76, none), (5, none), (77, none), (7, none), (75, none), (3, none), (74, none), (78, none), (79, none)]
theorem JRing_ag {V V' : vS} (J : JRing V) (A : ag LRing V V') : JRing V' := by
  obtain ⟨a1, a2, a3, a4, a5, a6, -⟩ := A
  have a1 : V' 13 2 = V 13 2 := a1
  have a2 : V' 72 11 = V 72 11 := a2
  unfold JRing
  simp only [a1, a2, a3, a4, a5, a6]
  exact J
theorem JBody_ag {V V' : vS} (J : JBody V) (A : ag LBody V V') : JBody V' := by
  obtain ⟨a1, a2, a3, a4, a5, a6, a7, a8, a9, a10, a11, a12, a13, a14, -⟩ := A
  have a1 : V' 1 1 = V 1 1 := a1
  have a2 : V' 72 2 = V 72 2 := a2
  unfold JBody JMeas
  simp only [a1, a2, a3, a4, a5, a6, a7, a8, a9, a10, a11, a12, a13, a14]
  exact J
theorem JRing_dG {W : List (Nat × Nat)} {σ σ1 : List Nat} {h h1 : aH} (J : JRing (vw h)) (I : dI σ h) (G : dG W σ h σ1 h1) (k : frL W LRing = true) : JRing (vw h1) := JRing_ag J (ag_dG I.1 G _ k)
theorem JBody_dG {W : List (Nat × Nat)} {σ σ1 : List Nat} {h h1 : aH} (J : JBody (vw h)) (I : dI σ h) (G : dG W σ h σ1 h1) (k : frL W LBody = true) : JBody (vw h1) := JBody_ag J (ag_dG I.1 G _ k)
theorem JP_day {h : aH} (J : JP h) : vw h 1 0 = vw h 72 1 := by
  obtain ⟨fs, f2, t, n, p, c1, a1, -, -, -, c2, a5⟩ := J
  exact (vw_o c1 a1).trans (vw_o c2 a5).symm
theorem vz {c n : Nat} (e : zH0.1[c]? = some (.inl (0, n, .inl (fun _ => 0)))) (j : Int) : vw zH0 c j = 0 := by
  unfold vw
  split
  · rfl
  · rw [e]; rfl
theorem vzf {c ci i : Nat} {fs : List Value} {x : Int32} (e : zH0.1[c]? = some (.inr (ci, fs))) (ef : fs[i]? = some (.int x)) : vw zH0 c (i : Nat) = x.toInt := vw_o e ef
theorem zJRing0 : JRing (vw zH0) := by
  have e1 : vw zH0 13 2 = 0 := vzf (i := 2) (x := 0) zh13 rfl
  have e2 : vw zH0 72 11 = 0 := vzf (i := 11) (x := 0) zh72 rfl
  refine ⟨by rw [e1, e2], fun j => by rw [vz zh14, vz zh81], fun j => by rw [vz zh15, vz zh82], by rw [e1]; decide, by rw [e1]; decide⟩
theorem zJBody0 : JBody (vw zH0) := by
  have e1 : vw zH0 1 1 = 0 := vzf (i := 1) (x := 0) zh1 rfl
  have e2 : vw zH0 72 2 = 0 := vzf (i := 2) (x := 0) zh72 rfl
  refine ⟨by rw [e1, e2], fun j => by rw [vz zh2, vz zh73], fun j => by rw [vz zh4, vz zh76], fun j => by rw [vz zh5, vz zh77], fun j => by rw [vz zh7, vz zh75], by rw [e1]; decide, by rw [e1]; decide, fun j => by rw [vz zh5, vz zh7]; decide, fun j h0 h1 => by rw [e1] at h1; omega⟩
section WQ
variable {X : aX} {D : Nat} {M : aM} {Q : Option Value → aH → Prop} {pc pc' : Nat} {l l' : aL} {st r : List Value} {h : aH}
theorem wp_goodQ {C : cC} {Y : aM} (G : dGood X C) (hY : zmt[C.1]? = some Y) {σ : List Nat} (I : dI σ h) {ρ : List Int} {l1 : aL} (K : dK σ h ρ [] C.2.2.2.1.2.2) (L : dL ρ [] C.2.2.2.1.1 l1) {Q' : Option Value → aH → Prop} (P : ∀ n, Pt n X Y 0 l1 [] h Q')
    (hs : ∀ (n d : Nat) (v : Option Value) (h1 : aH), arun X n d Y 0 l1 [] h = some (v, h1) → arun X (n + 1) (d + 1) M pc l st h = arun X n (d + 1) M pc' l' (v.toList ++ r) h1) (hd : C.2.1 + 1 ≤ D)
    (k : ∀ (v : Option Value) (h1 : aH) (σ1 : List Nat), dI σ1 h1 → dG C.2.2.1 σ h σ1 h1 → (∃ P, P ∈ C.2.2.2.2.1 ∧ dPost P σ1 h1 v) → Q' v h1 → Wp X D M Q pc' l' (v.toList ++ r) h1) : Wp X D M Q pc l st h := by
  obtain ⟨N, v, h1, σ1, e1, e2, e3, e4⟩ := G Y hY l1 h σ ρ [] I K L
  exact wp_call (fun n d e => hs n d v h1 e) hd e1 (k v h1 σ1 e2 e3 e4 (P (0 + N) (0 + N) (Nat.le_refl _) (0 + C.2.1) v h1 (e1 0 0)))
end WQ
end
section
-- ===== who holds what, what is given up =====
theorem tl_9 : tkL 9 0 200 = true := by decide +kernel
theorem tl_12 : tkL 12 0 200 = true := by decide +kernel
theorem tl_11 : tkL 11 0 200 = true := by decide +kernel
theorem tl_10 : tkL 10 0 200 = true := by decide +kernel
theorem tl_84 : tkL 84 0 200 = true := by decide +kernel
theorem tl_83 : tkL 83 0 200 = true := by decide +kernel
theorem tl_86 : tkL 86 0 200 = true := by decide +kernel
theorem tl_85 : tkL 85 0 200 = true := by decide +kernel
theorem tr_1_14 : tkR 1 14 9 = true := by decide +kernel
theorem tr_1_17 : tkR 1 17 12 = true := by decide +kernel
theorem tr_1_16 : tkR 1 16 11 = true := by decide +kernel
theorem tr_1_15 : tkR 1 15 10 = true := by decide +kernel
theorem tr_72_16 : tkR 72 16 84 = true := by decide +kernel
theorem tr_72_15 : tkR 72 15 83 = true := by decide +kernel
theorem tr_72_18 : tkR 72 18 86 = true := by decide +kernel
theorem tr_72_17 : tkR 72 17 85 = true := by decide +kernel
theorem gx85_0 : aF 0 zM85.2.2.2.2.2.2.2 = some (0, (.aload_n 0), 1, 0, 0) := by decide +kernel
theorem gx85_1 : aF 1 zM85.2.2.2.2.2.2.2 = some (1, (.getfield 101), 3, 6, 6) := by decide +kernel
theorem gx85_4 : aF 4 zM85.2.2.2.2.2.2.2 = some (4, (.sipush 200), 3, 0, 0) := by decide +kernel
theorem gx85_7 : aF 7 zM85.2.2.2.2.2.2.2 = some (7, (.if_icmp .ge 56), 3, 63, 0) := by decide +kernel
theorem gx85_63 : aF 63 zM85.2.2.2.2.2.2.2 = some (63, (.aload_n 0), 1, 0, 0) := by decide +kernel
theorem gx85_64 : aF 64 zM85.2.2.2.2.2.2.2 = some (64, (.getfield 101), 3, 6, 6) := by decide +kernel
theorem gx85_67 : aF 67 zM85.2.2.2.2.2.2.2 = some (67, .ireturn, 1, 0, 0) := by decide +kernel
theorem gx85_10 : aF 10 zM85.2.2.2.2.2.2.2 = some (10, (.aload_n 0), 1, 0, 0) := by decide +kernel
theorem gx85_11 : aF 11 zM85.2.2.2.2.2.2.2 = some (11, (.getfield 33), 3, 6, 14) := by decide +kernel
theorem gx85_14 : aF 14 zM85.2.2.2.2.2.2.2 = some (14, (.aload_n 0), 1, 0, 0) := by decide +kernel
theorem gx85_15 : aF 15 zM85.2.2.2.2.2.2.2 = some (15, (.getfield 101), 3, 6, 6) := by decide +kernel
theorem gx85_18 : aF 18 zM85.2.2.2.2.2.2.2 = some (18, (.iload_n 1), 1, 0, 0) := by decide +kernel
theorem gx85_19 : aF 19 zM85.2.2.2.2.2.2.2 = some (19, .iastore, 1, 0, 0) := by decide +kernel
theorem gx85_20 : aF 20 zM85.2.2.2.2.2.2.2 = some (20, (.aload_n 0), 1, 0, 0) := by decide +kernel
theorem gx85_21 : aF 21 zM85.2.2.2.2.2.2.2 = some (21, (.getfield 36), 3, 6, 15) := by decide +kernel
theorem gx85_24 : aF 24 zM85.2.2.2.2.2.2.2 = some (24, (.aload_n 0), 1, 0, 0) := by decide +kernel
theorem gx85_25 : aF 25 zM85.2.2.2.2.2.2.2 = some (25, (.getfield 101), 3, 6, 6) := by decide +kernel
theorem gx85_28 : aF 28 zM85.2.2.2.2.2.2.2 = some (28, (.iload_n 2), 1, 0, 0) := by decide +kernel
theorem gx85_29 : aF 29 zM85.2.2.2.2.2.2.2 = some (29, .iastore, 1, 0, 0) := by decide +kernel
theorem gx85_30 : aF 30 zM85.2.2.2.2.2.2.2 = some (30, (.aload_n 0), 1, 0, 0) := by decide +kernel
theorem gx85_31 : aF 31 zM85.2.2.2.2.2.2.2 = some (31, (.getfield 39), 3, 6, 16) := by decide +kernel
theorem gx85_34 : aF 34 zM85.2.2.2.2.2.2.2 = some (34, (.aload_n 0), 1, 0, 0) := by decide +kernel
theorem gx85_35 : aF 35 zM85.2.2.2.2.2.2.2 = some (35, (.getfield 101), 3, 6, 6) := by decide +kernel
theorem gx85_38 : aF 38 zM85.2.2.2.2.2.2.2 = some (38, (.iload_n 3), 1, 0, 0) := by decide +kernel
theorem gx85_39 : aF 39 zM85.2.2.2.2.2.2.2 = some (39, .iastore, 1, 0, 0) := by decide +kernel
theorem gx85_40 : aF 40 zM85.2.2.2.2.2.2.2 = some (40, (.aload_n 0), 1, 0, 0) := by decide +kernel
theorem gx85_41 : aF 41 zM85.2.2.2.2.2.2.2 = some (41, (.getfield 42), 3, 6, 17) := by decide +kernel
theorem gx85_44 : aF 44 zM85.2.2.2.2.2.2.2 = some (44, (.aload_n 0), 1, 0, 0) := by decide +kernel
theorem gx85_45 : aF 45 zM85.2.2.2.2.2.2.2 = some (45, (.getfield 101), 3, 6, 6) := by decide +kernel
theorem gx85_48 : aF 48 zM85.2.2.2.2.2.2.2 = some (48, (.aload_n 0), 1, 0, 0) := by decide +kernel
theorem gx85_49 : aF 49 zM85.2.2.2.2.2.2.2 = some (49, (.getfield 70), 3, 6, 0) := by decide +kernel
theorem gx85_52 : aF 52 zM85.2.2.2.2.2.2.2 = some (52, .iastore, 1, 0, 0) := by decide +kernel
theorem gx85_53 : aF 53 zM85.2.2.2.2.2.2.2 = some (53, (.aload_n 0), 1, 0, 0) := by decide +kernel
theorem gx85_54 : aF 54 zM85.2.2.2.2.2.2.2 = some (54, .dup, 1, 0, 0) := by decide +kernel
theorem gx85_55 : aF 55 zM85.2.2.2.2.2.2.2 = some (55, (.getfield 101), 3, 6, 6) := by decide +kernel
theorem gx85_58 : aF 58 zM85.2.2.2.2.2.2.2 = some (58, (.iconst 1), 1, 0, 0) := by decide +kernel
theorem gx85_59 : aF 59 zM85.2.2.2.2.2.2.2 = some (59, .iadd, 1, 0, 0) := by decide +kernel
theorem gx85_60 : aF 60 zM85.2.2.2.2.2.2.2 = some (60, (.putfield 101), 3, 6, 6) := by decide +kernel
theorem gx154_0 : aF 0 zM154.2.2.2.2.2.2.2 = some (0, (.aload_n 0), 1, 0, 0) := by decide +kernel
theorem gx154_1 : aF 1 zM154.2.2.2.2.2.2.2 = some (1, (.getfield 12), 3, 11, 0) := by decide +kernel
theorem gx154_4 : aF 4 zM154.2.2.2.2.2.2.2 = some (4, (.iload_n 1), 1, 0, 0) := by decide +kernel
theorem gx154_5 : aF 5 zM154.2.2.2.2.2.2.2 = some (5, (.invokevirtual 136), 3, 77, 0) := by decide +kernel
theorem gx154_8 : aF 8 zM154.2.2.2.2.2.2.2 = some (8, (.ifCond .ne 5), 3, 13, 0) := by decide +kernel
theorem gx154_13 : aF 13 zM154.2.2.2.2.2.2.2 = some (13, (.aload_n 0), 1, 0, 0) := by decide +kernel
theorem gx154_14 : aF 14 zM154.2.2.2.2.2.2.2 = some (14, (.getfield 12), 3, 11, 0) := by decide +kernel
theorem gx154_17 : aF 17 zM154.2.2.2.2.2.2.2 = some (17, (.getfield 149), 3, 6, 10) := by decide +kernel
theorem gx154_20 : aF 20 zM154.2.2.2.2.2.2.2 = some (20, (.iload_n 1), 1, 0, 0) := by decide +kernel
theorem gx154_21 : aF 21 zM154.2.2.2.2.2.2.2 = some (21, .iaload, 1, 0, 0) := by decide +kernel
theorem gx154_22 : aF 22 zM154.2.2.2.2.2.2.2 = some (22, (.iconst (-1)), 1, 0, 0) := by decide +kernel
theorem gx154_23 : aF 23 zM154.2.2.2.2.2.2.2 = some (23, (.if_icmp .eq 6), 3, 29, 0) := by decide +kernel
theorem gx154_29 : aF 29 zM154.2.2.2.2.2.2.2 = some (29, (.aload_n 0), 1, 0, 0) := by decide +kernel
theorem gx154_30 : aF 30 zM154.2.2.2.2.2.2.2 = some (30, (.getfield 12), 3, 11, 0) := by decide +kernel
theorem gx154_33 : aF 33 zM154.2.2.2.2.2.2.2 = some (33, (.getfield 149), 3, 6, 10) := by decide +kernel
theorem gx154_36 : aF 36 zM154.2.2.2.2.2.2.2 = some (36, (.iload_n 1), 1, 0, 0) := by decide +kernel
theorem gx154_37 : aF 37 zM154.2.2.2.2.2.2.2 = some (37, (.aload_n 0), 1, 0, 0) := by decide +kernel
theorem gx154_38 : aF 38 zM154.2.2.2.2.2.2.2 = some (38, (.getfield 12), 3, 11, 0) := by decide +kernel
theorem gx154_41 : aF 41 zM154.2.2.2.2.2.2.2 = some (41, (.getfield 93), 3, 6, 0) := by decide +kernel
theorem gx154_44 : aF 44 zM154.2.2.2.2.2.2.2 = some (44, .iastore, 1, 0, 0) := by decide +kernel
theorem gx154_45 : aF 45 zM154.2.2.2.2.2.2.2 = some (45, (.aload_n 0), 1, 0, 0) := by decide +kernel
theorem gx154_46 : aF 46 zM154.2.2.2.2.2.2.2 = some (46, (.getfield 12), 3, 11, 0) := by decide +kernel
theorem gx154_49 : aF 49 zM154.2.2.2.2.2.2.2 = some (49, .dup, 1, 0, 0) := by decide +kernel
theorem gx154_50 : aF 50 zM154.2.2.2.2.2.2.2 = some (50, (.getfield 158), 3, 6, 5) := by decide +kernel
theorem gx154_53 : aF 53 zM154.2.2.2.2.2.2.2 = some (53, (.iconst 1), 1, 0, 0) := by decide +kernel
theorem gx154_54 : aF 54 zM154.2.2.2.2.2.2.2 = some (54, .iadd, 1, 0, 0) := by decide +kernel
theorem gx154_55 : aF 55 zM154.2.2.2.2.2.2.2 = some (55, (.putfield 158), 3, 6, 5) := by decide +kernel
theorem gx154_58 : aF 58 zM154.2.2.2.2.2.2.2 = some (58, (.iconst 1), 1, 0, 0) := by decide +kernel
theorem gx154_59 : aF 59 zM154.2.2.2.2.2.2.2 = some (59, .ireturn, 1, 0, 0) := by decide +kernel
theorem gx154_26 : aF 26 zM154.2.2.2.2.2.2.2 = some (26, (.bipush (-2)), 2, 0, 0) := by decide +kernel
theorem gx154_28 : aF 28 zM154.2.2.2.2.2.2.2 = some (28, .ireturn, 1, 0, 0) := by decide +kernel
theorem gx154_11 : aF 11 zM154.2.2.2.2.2.2.2 = some (11, (.iconst (-1)), 1, 0, 0) := by decide +kernel
theorem gx154_12 : aF 12 zM154.2.2.2.2.2.2.2 = some (12, .ireturn, 1, 0, 0) := by decide +kernel
theorem gx224_0 : aF 0 zM224.2.2.2.2.2.2.2 = some (0, (.aload_n 0), 1, 0, 0) := by decide +kernel
theorem gx224_1 : aF 1 zM224.2.2.2.2.2.2.2 = some (1, (.iload_n 1), 1, 0, 0) := by decide +kernel
theorem gx224_2 : aF 2 zM224.2.2.2.2.2.2.2 = some (2, (.invokevirtual 322), 3, 203, 0) := by decide +kernel
theorem gx224_5 : aF 5 zM224.2.2.2.2.2.2.2 = some (5, (.ifCond .ne 5), 3, 10, 0) := by decide +kernel
theorem gx224_10 : aF 10 zM224.2.2.2.2.2.2.2 = some (10, (.aload_n 0), 1, 0, 0) := by decide +kernel
theorem gx224_11 : aF 11 zM224.2.2.2.2.2.2.2 = some (11, (.getfield 22), 3, 12, 7) := by decide +kernel
theorem gx224_14 : aF 14 zM224.2.2.2.2.2.2.2 = some (14, (.iload_n 1), 1, 0, 0) := by decide +kernel
theorem gx224_15 : aF 15 zM224.2.2.2.2.2.2.2 = some (15, .iaload, 1, 0, 0) := by decide +kernel
theorem gx224_16 : aF 16 zM224.2.2.2.2.2.2.2 = some (16, (.ifCond .lt 6), 3, 22, 0) := by decide +kernel
theorem gx224_22 : aF 22 zM224.2.2.2.2.2.2.2 = some (22, (.aload_n 0), 1, 0, 0) := by decide +kernel
theorem gx224_23 : aF 23 zM224.2.2.2.2.2.2.2 = some (23, (.getfield 22), 3, 12, 7) := by decide +kernel
theorem gx224_26 : aF 26 zM224.2.2.2.2.2.2.2 = some (26, (.iload_n 1), 1, 0, 0) := by decide +kernel
theorem gx224_27 : aF 27 zM224.2.2.2.2.2.2.2 = some (27, (.aload_n 0), 1, 0, 0) := by decide +kernel
theorem gx224_28 : aF 28 zM224.2.2.2.2.2.2.2 = some (28, (.getfield 262), 3, 12, 1) := by decide +kernel
theorem gx224_31 : aF 31 zM224.2.2.2.2.2.2.2 = some (31, .iastore, 1, 0, 0) := by decide +kernel
theorem gx224_32 : aF 32 zM224.2.2.2.2.2.2.2 = some (32, (.aload_n 0), 1, 0, 0) := by decide +kernel
theorem gx224_33 : aF 33 zM224.2.2.2.2.2.2.2 = some (33, (.iconst 1), 1, 0, 0) := by decide +kernel
theorem gx224_34 : aF 34 zM224.2.2.2.2.2.2.2 = some (34, (.putfield 100), 3, 12, 38) := by decide +kernel
theorem gx224_37 : aF 37 zM224.2.2.2.2.2.2.2 = some (37, (.iconst 1), 1, 0, 0) := by decide +kernel
theorem gx224_38 : aF 38 zM224.2.2.2.2.2.2.2 = some (38, .ireturn, 1, 0, 0) := by decide +kernel
theorem gx224_19 : aF 19 zM224.2.2.2.2.2.2.2 = some (19, (.bipush (-2)), 2, 0, 0) := by decide +kernel
theorem gx224_21 : aF 21 zM224.2.2.2.2.2.2.2 = some (21, .ireturn, 1, 0, 0) := by decide +kernel
theorem gx224_8 : aF 8 zM224.2.2.2.2.2.2.2 = some (8, (.iconst (-1)), 1, 0, 0) := by decide +kernel
theorem gx224_9 : aF 9 zM224.2.2.2.2.2.2.2 = some (9, .ireturn, 1, 0, 0) := by decide +kernel
theorem gx155_0 : aF 0 zM155.2.2.2.2.2.2.2 = some (0, (.aload_n 0), 1, 0, 0) := by decide +kernel
theorem gx155_1 : aF 1 zM155.2.2.2.2.2.2.2 = some (1, (.getfield 12), 3, 11, 0) := by decide +kernel
theorem gx155_4 : aF 4 zM155.2.2.2.2.2.2.2 = some (4, (.iload_n 1), 1, 0, 0) := by decide +kernel
theorem gx155_5 : aF 5 zM155.2.2.2.2.2.2.2 = some (5, (.invokevirtual 161), 3, 78, 0) := by decide +kernel
theorem gx155_8 : aF 8 zM155.2.2.2.2.2.2.2 = some (8, (.ifCond .eq 21), 3, 29, 0) := by decide +kernel
theorem gx155_29 : aF 29 zM155.2.2.2.2.2.2.2 = some (29, (.iconst (-1)), 1, 0, 0) := by decide +kernel
theorem gx155_30 : aF 30 zM155.2.2.2.2.2.2.2 = some (30, .ireturn, 1, 0, 0) := by decide +kernel
theorem gx155_11 : aF 11 zM155.2.2.2.2.2.2.2 = some (11, (.aload_n 0), 1, 0, 0) := by decide +kernel
theorem gx155_12 : aF 12 zM155.2.2.2.2.2.2.2 = some (12, (.getfield 12), 3, 11, 0) := by decide +kernel
theorem gx155_15 : aF 15 zM155.2.2.2.2.2.2.2 = some (15, (.iload_n 2), 1, 0, 0) := by decide +kernel
theorem gx155_16 : aF 16 zM155.2.2.2.2.2.2.2 = some (16, (.invokevirtual 121), 3, 75, 0) := by decide +kernel
theorem gx155_19 : aF 19 zM155.2.2.2.2.2.2.2 = some (19, (.ifCond .eq 10), 3, 29, 0) := by decide +kernel
theorem gx155_22 : aF 22 zM155.2.2.2.2.2.2.2 = some (22, (.iload_n 3), 1, 0, 0) := by decide +kernel
theorem gx155_23 : aF 23 zM155.2.2.2.2.2.2.2 = some (23, (.invokestatic 164), 3, 138, 0) := by decide +kernel
theorem gx155_26 : aF 26 zM155.2.2.2.2.2.2.2 = some (26, (.ifCond .ne 5), 3, 31, 0) := by decide +kernel
theorem gx155_31 : aF 31 zM155.2.2.2.2.2.2.2 = some (31, (.aload_n 0), 1, 0, 0) := by decide +kernel
theorem gx155_32 : aF 32 zM155.2.2.2.2.2.2.2 = some (32, (.getfield 12), 3, 11, 0) := by decide +kernel
theorem gx155_35 : aF 35 zM155.2.2.2.2.2.2.2 = some (35, (.getfield 167), 3, 6, 6) := by decide +kernel
theorem gx155_38 : aF 38 zM155.2.2.2.2.2.2.2 = some (38, (.sipush 200), 3, 0, 0) := by decide +kernel
theorem gx155_41 : aF 41 zM155.2.2.2.2.2.2.2 = some (41, (.if_icmp .lt 8), 3, 49, 0) := by decide +kernel
theorem gx155_49 : aF 49 zM155.2.2.2.2.2.2.2 = some (49, (.aload_n 0), 1, 0, 0) := by decide +kernel
theorem gx155_50 : aF 50 zM155.2.2.2.2.2.2.2 = some (50, (.getfield 12), 3, 11, 0) := by decide +kernel
theorem gx155_53 : aF 53 zM155.2.2.2.2.2.2.2 = some (53, (.iload_n 1), 1, 0, 0) := by decide +kernel
theorem gx155_54 : aF 54 zM155.2.2.2.2.2.2.2 = some (54, (.iload_n 2), 1, 0, 0) := by decide +kernel
theorem gx155_55 : aF 55 zM155.2.2.2.2.2.2.2 = some (55, (.iload_n 3), 1, 0, 0) := by decide +kernel
theorem gx155_56 : aF 56 zM155.2.2.2.2.2.2.2 = some (56, (.invokevirtual 170), 3, 85, 0) := by decide +kernel
theorem gx155_59 : aF 59 zM155.2.2.2.2.2.2.2 = some (59, .ireturn, 1, 0, 0) := by decide +kernel
theorem gx155_44 : aF 44 zM155.2.2.2.2.2.2.2 = some (44, (.bipush (-3)), 2, 0, 0) := by decide +kernel
theorem gx155_46 : aF 46 zM155.2.2.2.2.2.2.2 = some (46, (.goto 13), 3, 59, 0) := by decide +kernel
theorem gx225_0 : aF 0 zM225.2.2.2.2.2.2.2 = some (0, (.aload_n 0), 1, 0, 0) := by decide +kernel
theorem gx225_1 : aF 1 zM225.2.2.2.2.2.2.2 = some (1, (.iload_n 1), 1, 0, 0) := by decide +kernel
theorem gx225_2 : aF 2 zM225.2.2.2.2.2.2.2 = some (2, (.invokevirtual 268), 3, 200, 0) := by decide +kernel
theorem gx225_5 : aF 5 zM225.2.2.2.2.2.2.2 = some (5, (.ifCond .eq 37), 3, 42, 0) := by decide +kernel
theorem gx225_42 : aF 42 zM225.2.2.2.2.2.2.2 = some (42, (.iconst (-1)), 1, 0, 0) := by decide +kernel
theorem gx225_43 : aF 43 zM225.2.2.2.2.2.2.2 = some (43, .ireturn, 1, 0, 0) := by decide +kernel
theorem gx225_8 : aF 8 zM225.2.2.2.2.2.2.2 = some (8, (.aload_n 0), 1, 0, 0) := by decide +kernel
theorem gx225_9 : aF 9 zM225.2.2.2.2.2.2.2 = some (9, (.iload_n 1), 1, 0, 0) := by decide +kernel
theorem gx225_10 : aF 10 zM225.2.2.2.2.2.2.2 = some (10, (.invokevirtual 322), 3, 203, 0) := by decide +kernel
theorem gx225_13 : aF 13 zM225.2.2.2.2.2.2.2 = some (13, (.ifCond .ne 14), 3, 27, 0) := by decide +kernel
theorem gx225_27 : aF 27 zM225.2.2.2.2.2.2.2 = some (27, (.aload_n 0), 1, 0, 0) := by decide +kernel
theorem gx225_28 : aF 28 zM225.2.2.2.2.2.2.2 = some (28, (.iload_n 2), 1, 0, 0) := by decide +kernel
theorem gx225_29 : aF 29 zM225.2.2.2.2.2.2.2 = some (29, (.invokevirtual 316), 3, 202, 0) := by decide +kernel
theorem gx225_32 : aF 32 zM225.2.2.2.2.2.2.2 = some (32, (.ifCond .eq 10), 3, 42, 0) := by decide +kernel
theorem gx225_35 : aF 35 zM225.2.2.2.2.2.2.2 = some (35, (.iload_n 3), 1, 0, 0) := by decide +kernel
theorem gx225_36 : aF 36 zM225.2.2.2.2.2.2.2 = some (36, (.invokestatic 325), 3, 197, 0) := by decide +kernel
theorem gx225_39 : aF 39 zM225.2.2.2.2.2.2.2 = some (39, (.ifCond .ne 5), 3, 44, 0) := by decide +kernel
theorem gx225_44 : aF 44 zM225.2.2.2.2.2.2.2 = some (44, (.aload_n 0), 1, 0, 0) := by decide +kernel
theorem gx225_45 : aF 45 zM225.2.2.2.2.2.2.2 = some (45, (.getfield 328), 3, 12, 14) := by decide +kernel
theorem gx225_48 : aF 48 zM225.2.2.2.2.2.2.2 = some (48, (.sipush 200), 3, 0, 0) := by decide +kernel
theorem gx225_51 : aF 51 zM225.2.2.2.2.2.2.2 = some (51, (.if_icmp .ne 6), 3, 57, 0) := by decide +kernel
theorem gx225_57 : aF 57 zM225.2.2.2.2.2.2.2 = some (57, (.aload_n 0), 1, 0, 0) := by decide +kernel
theorem gx225_58 : aF 58 zM225.2.2.2.2.2.2.2 = some (58, (.getfield 40), 3, 12, 15) := by decide +kernel
theorem gx225_61 : aF 61 zM225.2.2.2.2.2.2.2 = some (61, (.aload_n 0), 1, 0, 0) := by decide +kernel
theorem gx225_62 : aF 62 zM225.2.2.2.2.2.2.2 = some (62, (.getfield 328), 3, 12, 14) := by decide +kernel
theorem gx225_65 : aF 65 zM225.2.2.2.2.2.2.2 = some (65, (.iload_n 1), 1, 0, 0) := by decide +kernel
theorem gx225_66 : aF 66 zM225.2.2.2.2.2.2.2 = some (66, .iastore, 1, 0, 0) := by decide +kernel
theorem gx225_67 : aF 67 zM225.2.2.2.2.2.2.2 = some (67, (.aload_n 0), 1, 0, 0) := by decide +kernel
theorem gx225_68 : aF 68 zM225.2.2.2.2.2.2.2 = some (68, (.getfield 43), 3, 12, 16) := by decide +kernel
theorem gx225_71 : aF 71 zM225.2.2.2.2.2.2.2 = some (71, (.aload_n 0), 1, 0, 0) := by decide +kernel
theorem gx225_72 : aF 72 zM225.2.2.2.2.2.2.2 = some (72, (.getfield 328), 3, 12, 14) := by decide +kernel
theorem gx225_75 : aF 75 zM225.2.2.2.2.2.2.2 = some (75, (.iload_n 2), 1, 0, 0) := by decide +kernel
theorem gx225_76 : aF 76 zM225.2.2.2.2.2.2.2 = some (76, .iastore, 1, 0, 0) := by decide +kernel
theorem gx225_77 : aF 77 zM225.2.2.2.2.2.2.2 = some (77, (.aload_n 0), 1, 0, 0) := by decide +kernel
theorem gx225_78 : aF 78 zM225.2.2.2.2.2.2.2 = some (78, (.getfield 46), 3, 12, 17) := by decide +kernel
theorem gx225_81 : aF 81 zM225.2.2.2.2.2.2.2 = some (81, (.aload_n 0), 1, 0, 0) := by decide +kernel
theorem gx225_82 : aF 82 zM225.2.2.2.2.2.2.2 = some (82, (.getfield 328), 3, 12, 14) := by decide +kernel
theorem gx225_85 : aF 85 zM225.2.2.2.2.2.2.2 = some (85, (.iload_n 3), 1, 0, 0) := by decide +kernel
theorem gx225_86 : aF 86 zM225.2.2.2.2.2.2.2 = some (86, .iastore, 1, 0, 0) := by decide +kernel
theorem gx225_87 : aF 87 zM225.2.2.2.2.2.2.2 = some (87, (.aload_n 0), 1, 0, 0) := by decide +kernel
theorem gx225_88 : aF 88 zM225.2.2.2.2.2.2.2 = some (88, (.getfield 49), 3, 12, 18) := by decide +kernel
theorem gx225_91 : aF 91 zM225.2.2.2.2.2.2.2 = some (91, (.aload_n 0), 1, 0, 0) := by decide +kernel
theorem gx225_92 : aF 92 zM225.2.2.2.2.2.2.2 = some (92, (.getfield 328), 3, 12, 14) := by decide +kernel
theorem gx225_95 : aF 95 zM225.2.2.2.2.2.2.2 = some (95, (.aload_n 0), 1, 0, 0) := by decide +kernel
theorem gx225_96 : aF 96 zM225.2.2.2.2.2.2.2 = some (96, (.getfield 262), 3, 12, 1) := by decide +kernel
theorem gx225_99 : aF 99 zM225.2.2.2.2.2.2.2 = some (99, .iastore, 1, 0, 0) := by decide +kernel
theorem gx225_100 : aF 100 zM225.2.2.2.2.2.2.2 = some (100, (.aload_n 0), 1, 0, 0) := by decide +kernel
theorem gx225_101 : aF 101 zM225.2.2.2.2.2.2.2 = some (101, .dup, 1, 0, 0) := by decide +kernel
theorem gx225_102 : aF 102 zM225.2.2.2.2.2.2.2 = some (102, (.getfield 328), 3, 12, 14) := by decide +kernel
theorem gx225_105 : aF 105 zM225.2.2.2.2.2.2.2 = some (105, (.iconst 1), 1, 0, 0) := by decide +kernel
theorem gx225_106 : aF 106 zM225.2.2.2.2.2.2.2 = some (106, .iadd, 1, 0, 0) := by decide +kernel
theorem gx225_107 : aF 107 zM225.2.2.2.2.2.2.2 = some (107, (.putfield 328), 3, 12, 14) := by decide +kernel
theorem gx225_110 : aF 110 zM225.2.2.2.2.2.2.2 = some (110, (.aload_n 0), 1, 0, 0) := by decide +kernel
theorem gx225_111 : aF 111 zM225.2.2.2.2.2.2.2 = some (111, (.getfield 328), 3, 12, 14) := by decide +kernel
theorem gx225_114 : aF 114 zM225.2.2.2.2.2.2.2 = some (114, .ireturn, 1, 0, 0) := by decide +kernel
theorem gx225_54 : aF 54 zM225.2.2.2.2.2.2.2 = some (54, (.bipush (-3)), 2, 0, 0) := by decide +kernel
theorem gx225_56 : aF 56 zM225.2.2.2.2.2.2.2 = some (56, .ireturn, 1, 0, 0) := by decide +kernel
theorem gx225_16 : aF 16 zM225.2.2.2.2.2.2.2 = some (16, (.aload_n 0), 1, 0, 0) := by decide +kernel
theorem gx225_17 : aF 17 zM225.2.2.2.2.2.2.2 = some (17, (.getfield 7), 3, 12, 3) := by decide +kernel
theorem gx225_20 : aF 20 zM225.2.2.2.2.2.2.2 = some (20, (.iload_n 1), 1, 0, 0) := by decide +kernel
theorem gx225_21 : aF 21 zM225.2.2.2.2.2.2.2 = some (21, .iaload, 1, 0, 0) := by decide +kernel
theorem gx225_22 : aF 22 zM225.2.2.2.2.2.2.2 = some (22, (.bipush 6), 2, 0, 0) := by decide +kernel
theorem gx225_24 : aF 24 zM225.2.2.2.2.2.2.2 = some (24, (.if_icmp .ne 18), 3, 42, 0) := by decide +kernel
def JHand (V : vS) : Prop := V 1 6 = V 72 14 ∧ (∀ j, V 9 j = V 83 j) ∧ (∀ j, V 10 j = V 84 j) ∧ (∀ j, V 11 j = V 85 j) ∧ (∀ j, V 12 j = V 86 j) ∧ 0 ≤ V 1 6 ∧ V 1 6 ≤ 200 ∧ (∀ j, 0 ≤ j → j < V 1 6 → 0 ≤ V 11 j) ∧ ∀ j, -1 ≤ V 10 j
theorem d85_0 {n : Nat} {X : aX} {h : aH} {P : Int → aH → Prop} {x1 x2 x3 : Int32} {a1 a2 a3 : Int} (S : wS h) (z1 : x1.toInt = a1) (z2 : x2.toInt = a2) (z3 : x3.toInt = a3) (H : ((200 ≤ vw h 1 6 → P (vw h 1 6) h) ∧ (vw h 1 6 < 200 → (0 ≤ vw h 1 6 → vw h 1 6 < 200 → ∀ h_21 : aH, wS h_21 → vw h_21 = up (up (up (up (up (vw h) 9 (vw h 1 6) a1) 10 (vw h 1 6) a2) 11 (vw h 1 6) a3) 12 (vw h 1 6) (vw h 1 0)) 1 6 (w32 ((vw h 1 6) + 1)) → P (w32 ((vw h 1 6) + 1)) h_21)))) : Pt (n + 1) X zM85 0 [some (.ref 1), some (.int x1), some (.int x2), some (.int x3)] [] h (qI P) := by
  refine pt_1 (fun n d => r_aloadn gx85_0 rfl) ?_
  refine pt_d (pt_getI (B := 6) gx85_1 S (fun v1 h1 => ?_))
  refine pt_d (pt_sipush gx85_4 (fun v2 h2 => ?_))
  refine pt_d (pt_icmp_ge gx85_7 h1 h2 (fun e3 => ?_) (fun e3 => ?_))
  · have H := H.1 e3
    refine pt_d (pt_1 (fun n d => r_aloadn gx85_63 rfl) ?_)
    refine pt_d (pt_getI (B := 6) gx85_64 S (fun v4 h4 => ?_))
    exact pt_d (pt_iret gx85_67 ⟨_, rfl, by rw [h4]; exact H⟩)
  · have H := H.2 e3
    refine pt_d (pt_1 (fun n d => r_aloadn gx85_10 rfl) ?_)
    refine pt_d (pt_getR gx85_11 S tr_1_14 ?_)
    refine pt_d (pt_1 (fun n d => r_aloadn gx85_14 rfl) ?_)
    refine pt_d (pt_getI (B := 6) gx85_15 S (fun v6 h6 => ?_))
    refine pt_d (pt_1 (fun n d => r_iloadn gx85_18 rfl) ?_)
    refine pt_d (pt_iast (N' := 200) gx85_19 S tl_9 h6 z1 (fun h_7 S7 p7 q7 e7 => ?_))
    have H := H p7 q7
    refine pt_d (pt_1 (fun n d => r_aloadn gx85_20 rfl) ?_)
    refine pt_d (pt_getR gx85_21 S7 tr_1_15 ?_)
    refine pt_d (pt_1 (fun n d => r_aloadn gx85_24 rfl) ?_)
    refine pt_d (pt_getI (B := 6) gx85_25 S7 (fun v9 h9 => ?_))
    have h9 : v9.toInt = vw h 1 6 := by rw [h9, e7, up_c (by decide)]
    refine pt_d (pt_1 (fun n d => r_iloadn gx85_28 rfl) ?_)
    refine pt_d (pt_iast (N' := 200) gx85_29 S7 tl_10 h9 z2 (fun h_10 S10 p10 q10 e10 => ?_))
    refine pt_d (pt_1 (fun n d => r_aloadn gx85_30 rfl) ?_)
    refine pt_d (pt_getR gx85_31 S10 tr_1_16 ?_)
    refine pt_d (pt_1 (fun n d => r_aloadn gx85_34 rfl) ?_)
    refine pt_d (pt_getI (B := 6) gx85_35 S10 (fun v12 h12 => ?_))
    have h12 : v12.toInt = vw h 1 6 := by rw [h12, e10, up_c (by decide), e7, up_c (by decide)]
    refine pt_d (pt_1 (fun n d => r_iloadn gx85_38 rfl) ?_)
    refine pt_d (pt_iast (N' := 200) gx85_39 S10 tl_11 h12 z3 (fun h_13 S13 p13 q13 e13 => ?_))
    refine pt_d (pt_1 (fun n d => r_aloadn gx85_40 rfl) ?_)
    refine pt_d (pt_getR gx85_41 S13 tr_1_17 ?_)
    refine pt_d (pt_1 (fun n d => r_aloadn gx85_44 rfl) ?_)
    refine pt_d (pt_getI (B := 6) gx85_45 S13 (fun v15 h15 => ?_))
    have h15 : v15.toInt = vw h 1 6 := by rw [h15, e13, up_c (by decide), e10, up_c (by decide), e7, up_c (by decide)]
    refine pt_d (pt_1 (fun n d => r_aloadn gx85_48 rfl) ?_)
    refine pt_d (pt_getI (B := 0) gx85_49 S13 (fun v16 h16 => ?_))
    have h16 : v16.toInt = vw h 1 0 := by rw [h16, e13, up_c (by decide), e10, up_c (by decide), e7, up_c (by decide)]
    refine pt_d (pt_iast (N' := 200) gx85_52 S13 tl_12 h15 h16 (fun h_17 S17 p17 q17 e17 => ?_))
    refine pt_d (pt_1 (fun n d => r_aloadn gx85_53 rfl) ?_)
    refine pt_d (pt_1 (fun n d => r_dup gx85_54 rfl) ?_)
    refine pt_d (pt_getI (B := 6) gx85_55 S17 (fun v18 h18 => ?_))
    have h18 : v18.toInt = vw h 1 6 := by rw [h18, e17, up_c (by decide), e13, up_c (by decide), e10, up_c (by decide), e7, up_c (by decide)]
    refine pt_d (pt_iconst gx85_58 (fun v19 h19 => ?_))
    refine pt_d (pt_iadd gx85_59 h18 h19 (fun v20 h20 => ?_))
    refine pt_d (pt_putI (B := 6) gx85_60 S17 h20 (fun h_21 S21 e21 => ?_))
    refine pt_d (pt_1 (fun n d => r_aloadn gx85_63 rfl) ?_)
    refine pt_d (pt_getI (B := 6) gx85_64 S21 (fun v22 h22 => ?_))
    have h22 : v22.toInt = w32 ((vw h 1 6) + 1) := by rw [h22, e21, up_s]
    have H := H h_21 S21 (by rw [e21, e17, e13, e10, e7])
    exact pt_d (pt_iret gx85_67 ⟨_, rfl, by rw [h22]; exact H⟩)
def RPass (V : vS) (b f d r : Int) (V' : vS) : Prop := (200 ≤ V 1 6 ∧ r = V 1 6 ∧ V' = V) ∨ (0 ≤ V 1 6 ∧ V 1 6 < 200 ∧ r = w32 (V 1 6 + 1) ∧ V' = up (up (up (up (up V 9 (V 1 6) b) 10 (V 1 6) f) 11 (V 1 6) d) 12 (V 1 6) (V 1 0)) 1 6 (w32 (V 1 6 + 1)))
theorem c_85 {n : Nat} {X : aX} {h : aH} {x1 x2 x3 : Int32} {a1 a2 a3 : Int} (S : wS h) (z1 : x1.toInt = a1) (z2 : x2.toInt = a2) (z3 : x3.toInt = a3) : Pt n X zM85 0 [some (.ref 1), some (.int x1), some (.int x2), some (.int x3)] [] h (qI (fun y h' => wS h' ∧ RPass (vw h) a1 a2 a3 y (vw h'))) := by
  refine pt_d (d85_0 S z1 z2 z3 ⟨fun e => ⟨S, Or.inl ⟨e, rfl, rfl⟩⟩, fun e p q g S2 eg => ⟨S2, Or.inr ⟨p, q, rfl, eg⟩⟩⟩)

theorem d154_0 {n : Nat} {X : aX} {h : aH} {P : Int → aH → Prop} {x1 : Int32} {a1 : Int} (S : wS h) (z1 : x1.toInt = a1) (H : (((cField (vw h) a1) → (0 ≤ a1 → a1 < 150 → ((vw h 5 a1 = (-1) → ∀ h_18 : aH, wS h_18 → vw h_18 = up (up (vw h) 5 a1 (vw h 1 0)) 1 5 (w32 ((vw h 1 5) + 1)) → P 1 h_18) ∧ (vw h 5 a1 ≠ (-1) → P (-2) h)))) ∧ (¬ (cField (vw h) a1) → P (-1) h))) : Pt (n + 1) X zM154 0 [some (.ref 0), some (.int x1)] [] h (qI P) := by
  refine pt_1 (fun n d => r_aloadn gx154_0 rfl) ?_
  refine pt_d (pt_getR gx154_1 S tr_0_0 ?_)
  refine pt_d (pt_1 (fun n d => r_iloadn gx154_4 rfl) ?_)
  refine pt_d (pt_virt (as := [.int x1]) (r := []) gx154_5 rfl (show zmt[77]? = some zM77 from rfl) rfl rfl rfl rfl (c_77 S z1) (kqP (fun v2 h2 => ?_)))
  show Pt _ _ _ 8 _ [.int v2] _ _
  refine pt_d (pt_ifB_ne gx154_8 h2 (fun e3 => ?_) (fun e3 => ?_))
  · have H := H.1 e3
    refine pt_d (pt_1 (fun n d => r_aloadn gx154_13 rfl) ?_)
    refine pt_d (pt_getR gx154_14 S tr_0_0 ?_)
    refine pt_d (pt_getR gx154_17 S tr_1_10 ?_)
    refine pt_d (pt_1 (fun n d => r_iloadn gx154_20 rfl) ?_)
    refine pt_d (pt_iald (N' := 150) gx154_21 S tl_5 z1 (fun v6 p6 q6 h6 => ?_))
    have H := H p6 q6
    refine pt_d (pt_iconst gx154_22 (fun v7 h7 => ?_))
    refine pt_d (pt_icmp_eq gx154_23 h6 h7 (fun e8 => ?_) (fun e8 => ?_))
    · have H := H.1 e8
      refine pt_d (pt_1 (fun n d => r_aloadn gx154_29 rfl) ?_)
      refine pt_d (pt_getR gx154_30 S tr_0_0 ?_)
      refine pt_d (pt_getR gx154_33 S tr_1_10 ?_)
      refine pt_d (pt_1 (fun n d => r_iloadn gx154_36 rfl) ?_)
      refine pt_d (pt_1 (fun n d => r_aloadn gx154_37 rfl) ?_)
      refine pt_d (pt_getR gx154_38 S tr_0_0 ?_)
      refine pt_d (pt_getI (B := 0) gx154_41 S (fun v12 h12 => ?_))
      refine pt_d (pt_iast (N' := 150) gx154_44 S tl_5 z1 h12 (fun h_13 S13 p13 q13 e13 => ?_))
      refine pt_d (pt_1 (fun n d => r_aloadn gx154_45 rfl) ?_)
      refine pt_d (pt_getR gx154_46 S13 tr_0_0 ?_)
      refine pt_d (pt_1 (fun n d => r_dup gx154_49 rfl) ?_)
      refine pt_d (pt_getI (B := 5) gx154_50 S13 (fun v15 h15 => ?_))
      have h15 : v15.toInt = vw h 1 5 := by rw [h15, e13, up_c (by decide)]
      refine pt_d (pt_iconst gx154_53 (fun v16 h16 => ?_))
      refine pt_d (pt_iadd gx154_54 h15 h16 (fun v17 h17 => ?_))
      refine pt_d (pt_putI (B := 5) gx154_55 S13 h17 (fun h_18 S18 e18 => ?_))
      refine pt_d (pt_iconst gx154_58 (fun v19 h19 => ?_))
      have H := H h_18 S18 (by rw [e18, e13])
      exact pt_d (pt_iret gx154_59 ⟨_, rfl, by rw [h19]; exact H⟩)
    · have H := H.2 e8
      refine pt_d (pt_bipush gx154_26 (fun v20 h20 => ?_))
      exact pt_d (pt_iret gx154_28 ⟨_, rfl, by rw [h20]; exact H⟩)
  · have H := H.2 e3
    refine pt_d (pt_iconst gx154_11 (fun v21 h21 => ?_))
    exact pt_d (pt_iret gx154_12 ⟨_, rfl, by rw [h21]; exact H⟩)
theorem d224_0 {n : Nat} {X : aX} {h : aH} {P : Int → aH → Prop} {x1 : Int32} {a1 : Int} (S : wS h) (z1 : x1.toInt = a1) (H : (((mField (vw h) a1) → (0 ≤ a1 → a1 < 150 → ((vw h 77 a1 < 0 → ∀ h_10 : aH, wS h_10 → vw h_10 = up (up (vw h) 77 a1 (vw h 72 1)) 72 38 1 → P 1 h_10) ∧ (0 ≤ vw h 77 a1 → P (-2) h)))) ∧ (¬ (mField (vw h) a1) → P (-1) h))) : Pt (n + 1) X zM224 0 [some (.ref 72), some (.int x1)] [] h (qI P) := by
  refine pt_1 (fun n d => r_aloadn gx224_0 rfl) ?_
  refine pt_d (pt_1 (fun n d => r_iloadn gx224_1 rfl) ?_)
  refine pt_d (pt_virt (as := [.int x1]) (r := []) gx224_2 rfl (show zmt[203]? = some zM203 from rfl) rfl rfl rfl rfl (c_203 S z1) (kqP (fun v1 h1 => ?_)))
  show Pt _ _ _ 5 _ [.int v1] _ _
  refine pt_d (pt_ifB_ne gx224_5 h1 (fun e2 => ?_) (fun e2 => ?_))
  · have H := H.1 e2
    refine pt_d (pt_1 (fun n d => r_aloadn gx224_10 rfl) ?_)
    refine pt_d (pt_getR gx224_11 S tr_72_7 ?_)
    refine pt_d (pt_1 (fun n d => r_iloadn gx224_14 rfl) ?_)
    refine pt_d (pt_iald (N' := 150) gx224_15 S tl_77 z1 (fun v4 p4 q4 h4 => ?_))
    have H := H p4 q4
    refine pt_d (pt_if_lt gx224_16 h4 (fun e5 => ?_) (fun e5 => ?_))
    · have H := H.1 e5
      refine pt_d (pt_1 (fun n d => r_aloadn gx224_22 rfl) ?_)
      refine pt_d (pt_getR gx224_23 S tr_72_7 ?_)
      refine pt_d (pt_1 (fun n d => r_iloadn gx224_26 rfl) ?_)
      refine pt_d (pt_1 (fun n d => r_aloadn gx224_27 rfl) ?_)
      refine pt_d (pt_getI (B := 1) gx224_28 S (fun v7 h7 => ?_))
      refine pt_d (pt_iast (N' := 150) gx224_31 S tl_77 z1 h7 (fun h_8 S8 p8 q8 e8 => ?_))
      refine pt_d (pt_1 (fun n d => r_aloadn gx224_32 rfl) ?_)
      refine pt_d (pt_iconst gx224_33 (fun v9 h9 => ?_))
      refine pt_d (pt_putI (B := 38) gx224_34 S8 h9 (fun h_10 S10 e10 => ?_))
      refine pt_d (pt_iconst gx224_37 (fun v11 h11 => ?_))
      have H := H h_10 S10 (by rw [e10, e8])
      exact pt_d (pt_iret gx224_38 ⟨_, rfl, by rw [h11]; exact H⟩)
    · have H := H.2 e5
      refine pt_d (pt_bipush gx224_19 (fun v12 h12 => ?_))
      exact pt_d (pt_iret gx224_21 ⟨_, rfl, by rw [h12]; exact H⟩)
  · have H := H.2 e2
    refine pt_d (pt_iconst gx224_8 (fun v13 h13 => ?_))
    exact pt_d (pt_iret gx224_9 ⟨_, rfl, by rw [h13]; exact H⟩)
theorem d155_0 {n : Nat} {X : aX} {h : aH} {P : Int → aH → Prop} {x1 x2 x3 : Int32} {a1 a2 a3 : Int} (S : wS h) (z1 : x1.toInt = a1) (z2 : x2.toInt = a2) (z3 : x3.toInt = a3) (H : ((¬ (cHeld (vw h) a1) → P (-1) h) ∧ ((cHeld (vw h) a1) → ((¬ (cFarm (vw h) a2) → P (-1) h) ∧ ((cFarm (vw h) a2) → (((0 ≤ a3 ∧ a3 ≤ 3649) → ((vw h 1 6 < 200 → ∀ (y16 : Int) (h_16 : aH), (wS h_16 ∧ RPass (vw h) a1 a2 a3 y16 (vw h_16)) → P y16 h_16) ∧ (200 ≤ vw h 1 6 → P (-3) h))) ∧ (¬ (0 ≤ a3 ∧ a3 ≤ 3649) → P (-1) h))))))) : Pt (n + 1) X zM155 0 [some (.ref 0), some (.int x1), some (.int x2), some (.int x3)] [] h (qI P) := by
  refine pt_1 (fun n d => r_aloadn gx155_0 rfl) ?_
  refine pt_d (pt_getR gx155_1 S tr_0_0 ?_)
  refine pt_d (pt_1 (fun n d => r_iloadn gx155_4 rfl) ?_)
  refine pt_d (pt_virt (as := [.int x1]) (r := []) gx155_5 rfl (show zmt[78]? = some zM78 from rfl) rfl rfl rfl rfl (c_78 S z1) (kqP (fun v2 h2 => ?_)))
  show Pt _ _ _ 8 _ [.int v2] _ _
  refine pt_d (pt_ifB_eq gx155_8 h2 (fun e3 => ?_) (fun e3 => ?_))
  · have H := H.1 e3
    refine pt_d (pt_iconst gx155_29 (fun v4 h4 => ?_))
    exact pt_d (pt_iret gx155_30 ⟨_, rfl, by rw [h4]; exact H⟩)
  · have H := H.2 e3
    refine pt_d (pt_1 (fun n d => r_aloadn gx155_11 rfl) ?_)
    refine pt_d (pt_getR gx155_12 S tr_0_0 ?_)
    refine pt_d (pt_1 (fun n d => r_iloadn gx155_15 rfl) ?_)
    refine pt_d (pt_virt (as := [.int x2]) (r := []) gx155_16 rfl (show zmt[75]? = some zM75 from rfl) rfl rfl rfl rfl (c_75 S z2) (kqP (fun v6 h6 => ?_)))
    show Pt _ _ _ 19 _ [.int v6] _ _
    refine pt_d (pt_ifB_eq gx155_19 h6 (fun e7 => ?_) (fun e7 => ?_))
    · have H := H.1 e7
      refine pt_d (pt_iconst gx155_29 (fun v8 h8 => ?_))
      exact pt_d (pt_iret gx155_30 ⟨_, rfl, by rw [h8]; exact H⟩)
    · have H := H.2 e7
      refine pt_d (pt_1 (fun n d => r_iloadn gx155_22 rfl) ?_)
      refine pt_d (pt_stat (as := [.int x3]) (r := []) gx155_23 rfl (show zmt[138]? = some zM138 from rfl) rfl rfl rfl rfl (c_138 S z3) (kqP (fun v9 h9 => ?_)))
      show Pt _ _ _ 26 _ [.int v9] _ _
      refine pt_d (pt_ifB_ne gx155_26 h9 (fun e10 => ?_) (fun e10 => ?_))
      · have H := H.1 e10
        refine pt_d (pt_1 (fun n d => r_aloadn gx155_31 rfl) ?_)
        refine pt_d (pt_getR gx155_32 S tr_0_0 ?_)
        refine pt_d (pt_getI (B := 6) gx155_35 S (fun v12 h12 => ?_))
        refine pt_d (pt_sipush gx155_38 (fun v13 h13 => ?_))
        refine pt_d (pt_icmp_lt gx155_41 h12 h13 (fun e14 => ?_) (fun e14 => ?_))
        · have H := H.1 e14
          refine pt_d (pt_1 (fun n d => r_aloadn gx155_49 rfl) ?_)
          refine pt_d (pt_getR gx155_50 S tr_0_0 ?_)
          refine pt_d (pt_1 (fun n d => r_iloadn gx155_53 rfl) ?_)
          refine pt_d (pt_1 (fun n d => r_iloadn gx155_54 rfl) ?_)
          refine pt_d (pt_1 (fun n d => r_iloadn gx155_55 rfl) ?_)
          refine pt_d (pt_virt (as := [.int x1, .int x2, .int x3]) (r := []) gx155_56 rfl (show zmt[85]? = some zM85 from rfl) rfl rfl rfl rfl (c_85 S z1 z2 z3) (kqI (fun v16 y16 h_16 h16 P16 => ?_)))
          have S16 := P16.1
          have H := H y16 h_16 P16
          show Pt _ _ _ 59 _ [.int v16] _ _
          exact pt_d (pt_iret gx155_59 ⟨_, rfl, by rw [h16]; exact H⟩)
        · have H := H.2 e14
          refine pt_d (pt_bipush gx155_44 (fun v17 h17 => ?_))
          refine pt_d (pt_1 (fun n d => r_goto gx155_46) ?_)
          exact pt_d (pt_iret gx155_59 ⟨_, rfl, by rw [h17]; exact H⟩)
      · have H := H.2 e10
        refine pt_d (pt_iconst gx155_29 (fun v18 h18 => ?_))
        exact pt_d (pt_iret gx155_30 ⟨_, rfl, by rw [h18]; exact H⟩)
theorem d225_0 {n : Nat} {X : aX} {h : aH} {P : Int → aH → Prop} {x1 x2 x3 : Int32} {a1 a2 a3 : Int} (S : wS h) (z1 : x1.toInt = a1) (z2 : x2.toInt = a2) (z3 : x3.toInt = a3) (H : ((¬ (mBody (vw h) a1) → P (-1) h) ∧ ((mBody (vw h) a1) → (((mField (vw h) a1) → ((¬ (mFarm (vw h) a2) → P (-1) h) ∧ ((mFarm (vw h) a2) → (((0 ≤ a3 ∧ a3 ≤ 3649) → ((vw h 72 14 ≠ 200 → (0 ≤ vw h 72 14 → vw h 72 14 < 200 → ∀ h_30 : aH, wS h_30 → vw h_30 = up (up (up (up (up (vw h) 83 (vw h 72 14) a1) 84 (vw h 72 14) a2) 85 (vw h 72 14) a3) 86 (vw h 72 14) (vw h 72 1)) 72 14 (w32 ((vw h 72 14) + 1)) → P (w32 ((vw h 72 14) + 1)) h_30)) ∧ (vw h 72 14 = 200 → P (-3) h))) ∧ (¬ (0 ≤ a3 ∧ a3 ≤ 3649) → P (-1) h))))) ∧ (¬ (mField (vw h) a1) → (0 ≤ a1 → a1 < 150 → ((vw h 73 a1 ≠ 6 → P (-1) h) ∧ (vw h 73 a1 = 6 → ((¬ (mFarm (vw h) a2) → P (-1) h) ∧ ((mFarm (vw h) a2) → (((0 ≤ a3 ∧ a3 ≤ 3649) → ((vw h 72 14 ≠ 200 → (0 ≤ vw h 72 14 → vw h 72 14 < 200 → ∀ h_63 : aH, wS h_63 → vw h_63 = up (up (up (up (up (vw h) 83 (vw h 72 14) a1) 84 (vw h 72 14) a2) 85 (vw h 72 14) a3) 86 (vw h 72 14) (vw h 72 1)) 72 14 (w32 ((vw h 72 14) + 1)) → P (w32 ((vw h 72 14) + 1)) h_63)) ∧ (vw h 72 14 = 200 → P (-3) h))) ∧ (¬ (0 ≤ a3 ∧ a3 ≤ 3649) → P (-1) h)))))))))))) : Pt (n + 1) X zM225 0 [some (.ref 72), some (.int x1), some (.int x2), some (.int x3)] [] h (qI P) := by
  refine pt_1 (fun n d => r_aloadn gx225_0 rfl) ?_
  refine pt_d (pt_1 (fun n d => r_iloadn gx225_1 rfl) ?_)
  refine pt_d (pt_virt (as := [.int x1]) (r := []) gx225_2 rfl (show zmt[200]? = some zM200 from rfl) rfl rfl rfl rfl (c_200 S z1) (kqP (fun v1 h1 => ?_)))
  show Pt _ _ _ 5 _ [.int v1] _ _
  refine pt_d (pt_ifB_eq gx225_5 h1 (fun e2 => ?_) (fun e2 => ?_))
  · have H := H.1 e2
    refine pt_d (pt_iconst gx225_42 (fun v3 h3 => ?_))
    exact pt_d (pt_iret gx225_43 ⟨_, rfl, by rw [h3]; exact H⟩)
  · have H := H.2 e2
    refine pt_d (pt_1 (fun n d => r_aloadn gx225_8 rfl) ?_)
    refine pt_d (pt_1 (fun n d => r_iloadn gx225_9 rfl) ?_)
    refine pt_d (pt_virt (as := [.int x1]) (r := []) gx225_10 rfl (show zmt[203]? = some zM203 from rfl) rfl rfl rfl rfl (c_203 S z1) (kqP (fun v4 h4 => ?_)))
    show Pt _ _ _ 13 _ [.int v4] _ _
    refine pt_d (pt_ifB_ne gx225_13 h4 (fun e5 => ?_) (fun e5 => ?_))
    · have H := H.1 e5
      refine pt_d (pt_1 (fun n d => r_aloadn gx225_27 rfl) ?_)
      refine pt_d (pt_1 (fun n d => r_iloadn gx225_28 rfl) ?_)
      refine pt_d (pt_virt (as := [.int x2]) (r := []) gx225_29 rfl (show zmt[202]? = some zM202 from rfl) rfl rfl rfl rfl (c_202 S z2) (kqP (fun v6 h6 => ?_)))
      show Pt _ _ _ 32 _ [.int v6] _ _
      refine pt_d (pt_ifB_eq gx225_32 h6 (fun e7 => ?_) (fun e7 => ?_))
      · have H := H.1 e7
        refine pt_d (pt_iconst gx225_42 (fun v8 h8 => ?_))
        exact pt_d (pt_iret gx225_43 ⟨_, rfl, by rw [h8]; exact H⟩)
      · have H := H.2 e7
        refine pt_d (pt_1 (fun n d => r_iloadn gx225_35 rfl) ?_)
        refine pt_d (pt_stat (as := [.int x3]) (r := []) gx225_36 rfl (show zmt[197]? = some zM197 from rfl) rfl rfl rfl rfl (c_197 S z3) (kqP (fun v9 h9 => ?_)))
        show Pt _ _ _ 39 _ [.int v9] _ _
        refine pt_d (pt_ifB_ne gx225_39 h9 (fun e10 => ?_) (fun e10 => ?_))
        · have H := H.1 e10
          refine pt_d (pt_1 (fun n d => r_aloadn gx225_44 rfl) ?_)
          refine pt_d (pt_getI (B := 14) gx225_45 S (fun v11 h11 => ?_))
          refine pt_d (pt_sipush gx225_48 (fun v12 h12 => ?_))
          refine pt_d (pt_icmp_ne gx225_51 h11 h12 (fun e13 => ?_) (fun e13 => ?_))
          · have H := H.1 e13
            refine pt_d (pt_1 (fun n d => r_aloadn gx225_57 rfl) ?_)
            refine pt_d (pt_getR gx225_58 S tr_72_15 ?_)
            refine pt_d (pt_1 (fun n d => r_aloadn gx225_61 rfl) ?_)
            refine pt_d (pt_getI (B := 14) gx225_62 S (fun v15 h15 => ?_))
            refine pt_d (pt_1 (fun n d => r_iloadn gx225_65 rfl) ?_)
            refine pt_d (pt_iast (N' := 200) gx225_66 S tl_83 h15 z1 (fun h_16 S16 p16 q16 e16 => ?_))
            have H := H p16 q16
            refine pt_d (pt_1 (fun n d => r_aloadn gx225_67 rfl) ?_)
            refine pt_d (pt_getR gx225_68 S16 tr_72_16 ?_)
            refine pt_d (pt_1 (fun n d => r_aloadn gx225_71 rfl) ?_)
            refine pt_d (pt_getI (B := 14) gx225_72 S16 (fun v18 h18 => ?_))
            have h18 : v18.toInt = vw h 72 14 := by rw [h18, e16, up_c (by decide)]
            refine pt_d (pt_1 (fun n d => r_iloadn gx225_75 rfl) ?_)
            refine pt_d (pt_iast (N' := 200) gx225_76 S16 tl_84 h18 z2 (fun h_19 S19 p19 q19 e19 => ?_))
            refine pt_d (pt_1 (fun n d => r_aloadn gx225_77 rfl) ?_)
            refine pt_d (pt_getR gx225_78 S19 tr_72_17 ?_)
            refine pt_d (pt_1 (fun n d => r_aloadn gx225_81 rfl) ?_)
            refine pt_d (pt_getI (B := 14) gx225_82 S19 (fun v21 h21 => ?_))
            have h21 : v21.toInt = vw h 72 14 := by rw [h21, e19, up_c (by decide), e16, up_c (by decide)]
            refine pt_d (pt_1 (fun n d => r_iloadn gx225_85 rfl) ?_)
            refine pt_d (pt_iast (N' := 200) gx225_86 S19 tl_85 h21 z3 (fun h_22 S22 p22 q22 e22 => ?_))
            refine pt_d (pt_1 (fun n d => r_aloadn gx225_87 rfl) ?_)
            refine pt_d (pt_getR gx225_88 S22 tr_72_18 ?_)
            refine pt_d (pt_1 (fun n d => r_aloadn gx225_91 rfl) ?_)
            refine pt_d (pt_getI (B := 14) gx225_92 S22 (fun v24 h24 => ?_))
            have h24 : v24.toInt = vw h 72 14 := by rw [h24, e22, up_c (by decide), e19, up_c (by decide), e16, up_c (by decide)]
            refine pt_d (pt_1 (fun n d => r_aloadn gx225_95 rfl) ?_)
            refine pt_d (pt_getI (B := 1) gx225_96 S22 (fun v25 h25 => ?_))
            have h25 : v25.toInt = vw h 72 1 := by rw [h25, e22, up_c (by decide), e19, up_c (by decide), e16, up_c (by decide)]
            refine pt_d (pt_iast (N' := 200) gx225_99 S22 tl_86 h24 h25 (fun h_26 S26 p26 q26 e26 => ?_))
            refine pt_d (pt_1 (fun n d => r_aloadn gx225_100 rfl) ?_)
            refine pt_d (pt_1 (fun n d => r_dup gx225_101 rfl) ?_)
            refine pt_d (pt_getI (B := 14) gx225_102 S26 (fun v27 h27 => ?_))
            have h27 : v27.toInt = vw h 72 14 := by rw [h27, e26, up_c (by decide), e22, up_c (by decide), e19, up_c (by decide), e16, up_c (by decide)]
            refine pt_d (pt_iconst gx225_105 (fun v28 h28 => ?_))
            refine pt_d (pt_iadd gx225_106 h27 h28 (fun v29 h29 => ?_))
            refine pt_d (pt_putI (B := 14) gx225_107 S26 h29 (fun h_30 S30 e30 => ?_))
            refine pt_d (pt_1 (fun n d => r_aloadn gx225_110 rfl) ?_)
            refine pt_d (pt_getI (B := 14) gx225_111 S30 (fun v31 h31 => ?_))
            have h31 : v31.toInt = w32 ((vw h 72 14) + 1) := by rw [h31, e30, up_s]
            have H := H h_30 S30 (by rw [e30, e26, e22, e19, e16])
            exact pt_d (pt_iret gx225_114 ⟨_, rfl, by rw [h31]; exact H⟩)
          · have H := H.2 e13
            refine pt_d (pt_bipush gx225_54 (fun v32 h32 => ?_))
            exact pt_d (pt_iret gx225_56 ⟨_, rfl, by rw [h32]; exact H⟩)
        · have H := H.2 e10
          refine pt_d (pt_iconst gx225_42 (fun v33 h33 => ?_))
          exact pt_d (pt_iret gx225_43 ⟨_, rfl, by rw [h33]; exact H⟩)
    · have H := H.2 e5
      refine pt_d (pt_1 (fun n d => r_aloadn gx225_16 rfl) ?_)
      refine pt_d (pt_getR gx225_17 S tr_72_3 ?_)
      refine pt_d (pt_1 (fun n d => r_iloadn gx225_20 rfl) ?_)
      refine pt_d (pt_iald (N' := 150) gx225_21 S tl_73 z1 (fun v35 p35 q35 h35 => ?_))
      have H := H p35 q35
      refine pt_d (pt_bipush gx225_22 (fun v36 h36 => ?_))
      refine pt_d (pt_icmp_ne gx225_24 h35 h36 (fun e37 => ?_) (fun e37 => ?_))
      · have H := H.1 e37
        refine pt_d (pt_iconst gx225_42 (fun v38 h38 => ?_))
        exact pt_d (pt_iret gx225_43 ⟨_, rfl, by rw [h38]; exact H⟩)
      · have H := H.2 e37
        refine pt_d (pt_1 (fun n d => r_aloadn gx225_27 rfl) ?_)
        refine pt_d (pt_1 (fun n d => r_iloadn gx225_28 rfl) ?_)
        refine pt_d (pt_virt (as := [.int x2]) (r := []) gx225_29 rfl (show zmt[202]? = some zM202 from rfl) rfl rfl rfl rfl (c_202 S z2) (kqP (fun v39 h39 => ?_)))
        show Pt _ _ _ 32 _ [.int v39] _ _
        refine pt_d (pt_ifB_eq gx225_32 h39 (fun e40 => ?_) (fun e40 => ?_))
        · have H := H.1 e40
          refine pt_d (pt_iconst gx225_42 (fun v41 h41 => ?_))
          exact pt_d (pt_iret gx225_43 ⟨_, rfl, by rw [h41]; exact H⟩)
        · have H := H.2 e40
          refine pt_d (pt_1 (fun n d => r_iloadn gx225_35 rfl) ?_)
          refine pt_d (pt_stat (as := [.int x3]) (r := []) gx225_36 rfl (show zmt[197]? = some zM197 from rfl) rfl rfl rfl rfl (c_197 S z3) (kqP (fun v42 h42 => ?_)))
          show Pt _ _ _ 39 _ [.int v42] _ _
          refine pt_d (pt_ifB_ne gx225_39 h42 (fun e43 => ?_) (fun e43 => ?_))
          · have H := H.1 e43
            refine pt_d (pt_1 (fun n d => r_aloadn gx225_44 rfl) ?_)
            refine pt_d (pt_getI (B := 14) gx225_45 S (fun v44 h44 => ?_))
            refine pt_d (pt_sipush gx225_48 (fun v45 h45 => ?_))
            refine pt_d (pt_icmp_ne gx225_51 h44 h45 (fun e46 => ?_) (fun e46 => ?_))
            · have H := H.1 e46
              refine pt_d (pt_1 (fun n d => r_aloadn gx225_57 rfl) ?_)
              refine pt_d (pt_getR gx225_58 S tr_72_15 ?_)
              refine pt_d (pt_1 (fun n d => r_aloadn gx225_61 rfl) ?_)
              refine pt_d (pt_getI (B := 14) gx225_62 S (fun v48 h48 => ?_))
              refine pt_d (pt_1 (fun n d => r_iloadn gx225_65 rfl) ?_)
              refine pt_d (pt_iast (N' := 200) gx225_66 S tl_83 h48 z1 (fun h_49 S49 p49 q49 e49 => ?_))
              have H := H p49 q49
              refine pt_d (pt_1 (fun n d => r_aloadn gx225_67 rfl) ?_)
              refine pt_d (pt_getR gx225_68 S49 tr_72_16 ?_)
              refine pt_d (pt_1 (fun n d => r_aloadn gx225_71 rfl) ?_)
              refine pt_d (pt_getI (B := 14) gx225_72 S49 (fun v51 h51 => ?_))
              have h51 : v51.toInt = vw h 72 14 := by rw [h51, e49, up_c (by decide)]
              refine pt_d (pt_1 (fun n d => r_iloadn gx225_75 rfl) ?_)
              refine pt_d (pt_iast (N' := 200) gx225_76 S49 tl_84 h51 z2 (fun h_52 S52 p52 q52 e52 => ?_))
              refine pt_d (pt_1 (fun n d => r_aloadn gx225_77 rfl) ?_)
              refine pt_d (pt_getR gx225_78 S52 tr_72_17 ?_)
              refine pt_d (pt_1 (fun n d => r_aloadn gx225_81 rfl) ?_)
              refine pt_d (pt_getI (B := 14) gx225_82 S52 (fun v54 h54 => ?_))
              have h54 : v54.toInt = vw h 72 14 := by rw [h54, e52, up_c (by decide), e49, up_c (by decide)]
              refine pt_d (pt_1 (fun n d => r_iloadn gx225_85 rfl) ?_)
              refine pt_d (pt_iast (N' := 200) gx225_86 S52 tl_85 h54 z3 (fun h_55 S55 p55 q55 e55 => ?_))
              refine pt_d (pt_1 (fun n d => r_aloadn gx225_87 rfl) ?_)
              refine pt_d (pt_getR gx225_88 S55 tr_72_18 ?_)
              refine pt_d (pt_1 (fun n d => r_aloadn gx225_91 rfl) ?_)
              refine pt_d (pt_getI (B := 14) gx225_92 S55 (fun v57 h57 => ?_))
              have h57 : v57.toInt = vw h 72 14 := by rw [h57, e55, up_c (by decide), e52, up_c (by decide), e49, up_c (by decide)]
              refine pt_d (pt_1 (fun n d => r_aloadn gx225_95 rfl) ?_)
              refine pt_d (pt_getI (B := 1) gx225_96 S55 (fun v58 h58 => ?_))
              have h58 : v58.toInt = vw h 72 1 := by rw [h58, e55, up_c (by decide), e52, up_c (by decide), e49, up_c (by decide)]
              refine pt_d (pt_iast (N' := 200) gx225_99 S55 tl_86 h57 h58 (fun h_59 S59 p59 q59 e59 => ?_))
              refine pt_d (pt_1 (fun n d => r_aloadn gx225_100 rfl) ?_)
              refine pt_d (pt_1 (fun n d => r_dup gx225_101 rfl) ?_)
              refine pt_d (pt_getI (B := 14) gx225_102 S59 (fun v60 h60 => ?_))
              have h60 : v60.toInt = vw h 72 14 := by rw [h60, e59, up_c (by decide), e55, up_c (by decide), e52, up_c (by decide), e49, up_c (by decide)]
              refine pt_d (pt_iconst gx225_105 (fun v61 h61 => ?_))
              refine pt_d (pt_iadd gx225_106 h60 h61 (fun v62 h62 => ?_))
              refine pt_d (pt_putI (B := 14) gx225_107 S59 h62 (fun h_63 S63 e63 => ?_))
              refine pt_d (pt_1 (fun n d => r_aloadn gx225_110 rfl) ?_)
              refine pt_d (pt_getI (B := 14) gx225_111 S63 (fun v64 h64 => ?_))
              have h64 : v64.toInt = w32 ((vw h 72 14) + 1) := by rw [h64, e63, up_s]
              have H := H h_63 S63 (by rw [e63, e59, e55, e52, e49])
              exact pt_d (pt_iret gx225_114 ⟨_, rfl, by rw [h64]; exact H⟩)
            · have H := H.2 e46
              refine pt_d (pt_bipush gx225_54 (fun v65 h65 => ?_))
              exact pt_d (pt_iret gx225_56 ⟨_, rfl, by rw [h65]; exact H⟩)
          · have H := H.2 e43
            refine pt_d (pt_iconst gx225_42 (fun v66 h66 => ?_))
            exact pt_d (pt_iret gx225_43 ⟨_, rfl, by rw [h66]; exact H⟩)
def R154 (V : vS) (b r : Int) (V' : vS) : Prop := (¬ cField V b ∧ r = -1 ∧ V' = V) ∨ (cField V b ∧ V 5 b ≠ -1 ∧ r = -2 ∧ V' = V) ∨ (cField V b ∧ V 5 b = -1 ∧ r = 1 ∧ V' = up (up V 5 b (V 1 0)) 1 5 (w32 (V 1 5 + 1)))
theorem c_154 {n : Nat} {X : aX} {h : aH} {x1 : Int32} {a1 : Int} (S : wS h) (z1 : x1.toInt = a1) : Pt n X zM154 0 [some (.ref 0), some (.int x1)] [] h (qI (fun y h' => R154 (vw h) a1 y (vw h'))) := by
  refine pt_d (d154_0 S z1 ⟨fun e p q => ⟨fun e2 g S2 eg => Or.inr (Or.inr ⟨e, e2, rfl, eg⟩), fun e2 => Or.inr (Or.inl ⟨e, e2, rfl, rfl⟩)⟩, fun e => Or.inl ⟨e, rfl, rfl⟩⟩)
def R224 (V : vS) (b r : Int) (V' : vS) : Prop := (¬ mField V b ∧ r = -1 ∧ V' = V) ∨ (mField V b ∧ 0 ≤ V 77 b ∧ r = -2 ∧ V' = V) ∨ (mField V b ∧ V 77 b < 0 ∧ r = 1 ∧ V' = up (up V 77 b (V 72 1)) 72 38 1)
theorem c_224 {n : Nat} {X : aX} {h : aH} {x1 : Int32} {a1 : Int} (S : wS h) (z1 : x1.toInt = a1) : Pt n X zM224 0 [some (.ref 72), some (.int x1)] [] h (qI (fun y h' => R224 (vw h) a1 y (vw h'))) := by
  refine pt_d (d224_0 S z1 ⟨fun e p q => ⟨fun e2 g S2 eg => Or.inr (Or.inr ⟨e, e2, rfl, eg⟩), fun e2 => Or.inr (Or.inl ⟨e, e2, rfl, rfl⟩)⟩, fun e => Or.inl ⟨e, rfl, rfl⟩⟩)
def ok155 (V : vS) (b f d : Int) : Prop := cHeld V b ∧ cFarm V f ∧ 0 ≤ d ∧ d ≤ 3649
def R155 (V : vS) (b f d r : Int) (V' : vS) : Prop := (¬ ok155 V b f d ∧ r = -1 ∧ V' = V) ∨ (ok155 V b f d ∧ 200 ≤ V 1 6 ∧ r = -3 ∧ V' = V) ∨ (ok155 V b f d ∧ V 1 6 < 200 ∧ RPass V b f d r V')
theorem c_155 {n : Nat} {X : aX} {h : aH} {x1 x2 x3 : Int32} {a1 a2 a3 : Int} (S : wS h) (z1 : x1.toInt = a1) (z2 : x2.toInt = a2) (z3 : x3.toInt = a3) : Pt n X zM155 0 [some (.ref 0), some (.int x1), some (.int x2), some (.int x3)] [] h (qI (fun y h' => R155 (vw h) a1 a2 a3 y (vw h'))) := by
  refine pt_d (d155_0 S z1 z2 z3 ⟨fun e => Or.inl ⟨fun q => e q.1, rfl, rfl⟩, fun e => ⟨fun e2 => Or.inl ⟨fun q => e2 q.2.1, rfl, rfl⟩, fun e2 => ⟨fun e3 => ⟨fun e4 y g p => Or.inr (Or.inr ⟨⟨e, e2, e3⟩, e4, p.2⟩), fun e4 => Or.inr (Or.inl ⟨⟨e, e2, e3⟩, e4, rfl, rfl⟩)⟩, fun e3 => Or.inl ⟨fun q => e3 q.2.2, rfl, rfl⟩⟩⟩⟩)
def mHeld (V : vS) (b : Int) : Prop := mBody V b ∧ (mField V b ∨ V 73 b = 6)
def ok225 (V : vS) (b f d : Int) : Prop := mHeld V b ∧ mFarm V f ∧ 0 ≤ d ∧ d ≤ 3649
def R225 (V : vS) (b f d r : Int) (V' : vS) : Prop := (¬ ok225 V b f d ∧ r = -1 ∧ V' = V) ∨ (ok225 V b f d ∧ V 72 14 = 200 ∧ r = -3 ∧ V' = V) ∨ (ok225 V b f d ∧ 0 ≤ V 72 14 ∧ V 72 14 < 200 ∧ r = w32 (V 72 14 + 1) ∧ V' = up (up (up (up (up V 83 (V 72 14) b) 84 (V 72 14) f) 85 (V 72 14) d) 86 (V 72 14) (V 72 1)) 72 14 (w32 (V 72 14 + 1)))
theorem c_225 {n : Nat} {X : aX} {h : aH} {x1 x2 x3 : Int32} {a1 a2 a3 : Int} (S : wS h) (z1 : x1.toInt = a1) (z2 : x2.toInt = a2) (z3 : x3.toInt = a3) : Pt n X zM225 0 [some (.ref 72), some (.int x1), some (.int x2), some (.int x3)] [] h (qI (fun y h' => R225 (vw h) a1 a2 a3 y (vw h'))) := by
  have rest : ∀ {g : aH → Prop}, mHeld (vw h) a1 → ((¬ mFarm (vw h) a2 → (fun y h' => R225 (vw h) a1 a2 a3 y (vw h')) (-1) h) ∧ (mFarm (vw h) a2 → ((0 ≤ a3 ∧ a3 ≤ 3649 → ((vw h 72 14 ≠ 200 → (0 ≤ vw h 72 14 → vw h 72 14 < 200 → ∀ g : aH, wS g → vw g = up (up (up (up (up (vw h) 83 (vw h 72 14) a1) 84 (vw h 72 14) a2) 85 (vw h 72 14) a3) 86 (vw h 72 14) (vw h 72 1)) 72 14 (w32 ((vw h 72 14) + 1)) → (fun y h' => R225 (vw h) a1 a2 a3 y (vw h')) (w32 ((vw h 72 14) + 1)) g)) ∧ (vw h 72 14 = 200 → (fun y h' => R225 (vw h) a1 a2 a3 y (vw h')) (-3) h))) ∧ (¬ (0 ≤ a3 ∧ a3 ≤ 3649) → (fun y h' => R225 (vw h) a1 a2 a3 y (vw h')) (-1) h)))) := fun {_} e => ⟨fun e2 => Or.inl ⟨fun q => e2 q.2.1, rfl, rfl⟩, fun e2 => ⟨fun e3 => ⟨fun e4 p q g S2 eg => Or.inr (Or.inr ⟨⟨e, e2, e3⟩, p, q, rfl, eg⟩), fun e4 => Or.inr (Or.inl ⟨⟨e, e2, e3⟩, e4, rfl, rfl⟩)⟩, fun e3 => Or.inl ⟨fun q => e3 q.2.2, rfl, rfl⟩⟩⟩
  exact pt_d (d225_0 S z1 z2 z3 ⟨fun e => Or.inl ⟨fun q => e q.1.1, rfl, rfl⟩, fun e => ⟨fun e2 => rest (g := fun _ => True) ⟨e, Or.inl e2⟩, fun e2 p q => ⟨fun e3 => Or.inl ⟨fun q => q.1.2.elim e2 e3, rfl, rfl⟩, fun e3 => rest (g := fun _ => True) ⟨e, Or.inr e3⟩⟩⟩⟩)
end
section
theorem vw_rf {σ : List Nat} {h : aH} (I : dI σ h) {c ci f : Nat} {lo hi : Int} (k0 : tkO c ci = true) (k : tkI c f lo hi = true) : lo ≤ vw h c (f : Nat) ∧ vw h c (f : Nat) ≤ hi := by
  obtain ⟨fs, e⟩ := hI_o I k0
  obtain ⟨x, e2, r1, r2⟩ := hI_i I e k
  rw [vw_o e e2]
  exact ⟨r1, r2⟩
theorem held_j {V : vS} (J : JBody V) (b : Int) : cHeld V b ↔ mHeld V b := by
  unfold cHeld mHeld mField cBody mBody
  rw [J.1, J.2.1]
  unfold uF
  omega
theorem body_lt {V : vS} (J : JBody V) {b : Int} (h : cBody V b) : 0 ≤ b ∧ b < V 1 1 ∧ b < 150 := by
  have := J.2.2.2.2.2.2.1
  have := J.2.2.2.2.2.1
  unfold cBody at h
  rw [w32_id (by omega) (by omega)] at h
  omega
theorem jx_10 {V V1 V2 : vS} {b r1 r2 : Int} (J : JBody V) (hd : V 1 0 = V 72 1) (h0 : 0 ≤ V 1 0) (c : R154 V b r1 V1) (m : R224 V1 b r2 V2) : JBody V2 ∧ r1 = r2 := by
  have J0 := J
  obtain ⟨j1, j2, j3, j4, j5, j6, j7, j9, j8⟩ := J0
  rcases c with ⟨a, rfl, rfl⟩ | ⟨a, a1, rfl, rfl⟩ | ⟨a, a1, rfl, rfl⟩
  · rcases m with ⟨b0, rfl, rfl⟩ | ⟨b0, -⟩ | ⟨b0, -⟩
    · exact ⟨J, rfl⟩
    · exact absurd ((field_j J b).mpr b0) a
    · exact absurd ((field_j J b).mpr b0) a
  · rcases m with ⟨b0, rfl, rfl⟩ | ⟨b0, b1, rfl, rfl⟩ | ⟨b0, b1, rfl, rfl⟩
    · exact absurd ((field_j J b).mp a) b0
    · exact ⟨J, rfl⟩
    · have := (j9 b).1
      have := j4 b
      omega
  · have f : ∀ (c : Nat) (j : Int), c ≠ 1 → c ≠ 5 → up (up V 5 b (V 1 0)) 1 5 (w32 (V 1 5 + 1)) c j = V c j := fun c j h1 h2 => by rw [up_c h1, up_c h2]
    have mf : mField (up (up V 5 b (V 1 0)) 1 5 (w32 (V 1 5 + 1))) b ↔ mField V b := by
      unfold mField mBody
      rw [f 72 2 (by decide) (by decide), f 73 b (by decide) (by decide)]
    have e77 := f 77 b (by decide) (by decide)
    rcases m with ⟨b0, rfl, rfl⟩ | ⟨b0, b1, rfl, rfl⟩ | ⟨b0, b1, rfl, rfl⟩
    · exact absurd (mf.mpr ((field_j J b).mp a)) b0
    · have := j4 b
      omega
    · have g : ∀ (c : Nat) (j : Int), c ≠ 1 → c ≠ 5 → c ≠ 77 → c ≠ 72 → up (up (up (up V 5 b (V 1 0)) 1 5 (w32 (V 1 5 + 1))) 77 b (up (up V 5 b (V 1 0)) 1 5 (w32 (V 1 5 + 1)) 72 1)) 72 38 1 c j = V c j := fun c j h1 h2 h3 h4 => by rw [up_c h4, up_c h3, f c j h1 h2]
      have g1 : up (up (up (up V 5 b (V 1 0)) 1 5 (w32 (V 1 5 + 1))) 77 b (up (up V 5 b (V 1 0)) 1 5 (w32 (V 1 5 + 1)) 72 1)) 72 38 1 1 1 = V 1 1 := by rw [up_c (by decide), up_c (by decide), up_j (by decide), up_c (by decide)]
      have g72 : up (up (up (up V 5 b (V 1 0)) 1 5 (w32 (V 1 5 + 1))) 77 b (up (up V 5 b (V 1 0)) 1 5 (w32 (V 1 5 + 1)) 72 1)) 72 38 1 72 2 = V 72 2 := by rw [up_j (by decide), up_c (by decide), f 72 2 (by decide) (by decide)]
      have g5 : ∀ j, up (up (up (up V 5 b (V 1 0)) 1 5 (w32 (V 1 5 + 1))) 77 b (up (up V 5 b (V 1 0)) 1 5 (w32 (V 1 5 + 1)) 72 1)) 72 38 1 5 j = if j = b then V 1 0 else V 5 j := fun j => by rw [up_c (by decide), up_c (by decide), up_c (by decide), up_p]
      have g77 : ∀ j, up (up (up (up V 5 b (V 1 0)) 1 5 (w32 (V 1 5 + 1))) 77 b (up (up V 5 b (V 1 0)) 1 5 (w32 (V 1 5 + 1)) 72 1)) 72 38 1 77 j = if j = b then V 72 1 else V 77 j := fun j => by rw [up_c (by decide), up_p, f 77 j (by decide) (by decide), f 72 1 (by decide) (by decide)]
      refine ⟨⟨by rw [g1, g72, j1], fun j => ?_, fun j => ?_, fun j => by rw [g5, g77, hd, j4], fun j => ?_, by rw [g1]; exact j6, by rw [g1]; exact j7, fun j => ⟨?_, ?_⟩, fun j q0 q1 => ?_⟩, rfl⟩
      · rw [g 2 j (by decide) (by decide) (by decide) (by decide), g 73 j (by decide) (by decide) (by decide) (by decide), j2]
      · rw [g 4 j (by decide) (by decide) (by decide) (by decide), g 76 j (by decide) (by decide) (by decide) (by decide), j3]
      · rw [g 7 j (by decide) (by decide) (by decide) (by decide), g 75 j (by decide) (by decide) (by decide) (by decide), j5]
      · rw [g5]
        have := (j9 j).1
        split <;> omega
      · rw [g 7 j (by decide) (by decide) (by decide) (by decide)]
        exact (j9 j).2
      · unfold JMeas
        rw [g 2 j (by decide) (by decide) (by decide) (by decide), g 3 j (by decide) (by decide) (by decide) (by decide), g 74 j (by decide) (by decide) (by decide) (by decide), g 78 j (by decide) (by decide) (by decide) (by decide), g 79 j (by decide) (by decide) (by decide) (by decide)]
        rw [g1] at q1
        exact j8 j q0 q1
theorem jx_11 {V V1 V2 : vS} {b f d r1 r2 : Int} (J : JBody V) (K : JHand V) (hd : V 1 0 = V 72 1) (c : R155 V b f d r1 V1) (m : R225 V1 b f d r2 V2) : JHand V2 ∧ r1 = r2 := by
  have ok : ok155 V b f d ↔ ok225 V b f d := by
    unfold ok155 ok225
    rw [held_j J, farm_j J]
  have K0 := K
  obtain ⟨k1, k2, k3, k4, k5, k6, k7, k8, k9⟩ := K0
  rcases c with ⟨a, rfl, rfl⟩ | ⟨a, a1, rfl, rfl⟩ | ⟨a, a1, ⟨a2, -, -⟩ | ⟨a2, a3, rfl, rfl⟩⟩
  · rcases m with ⟨b0, rfl, rfl⟩ | ⟨b0, -⟩ | ⟨b0, -⟩
    · exact ⟨K, rfl⟩
    · exact absurd (ok.mpr b0) a
    · exact absurd (ok.mpr b0) a
  · rcases m with ⟨b0, rfl, rfl⟩ | ⟨b0, b1, rfl, rfl⟩ | ⟨b0, b1, b2, -, -⟩
    · exact absurd (ok.mp a) b0
    · exact ⟨K, rfl⟩
    · omega
  · omega
  · generalize hW : up (up (up (up (up V 9 (V 1 6) b) 10 (V 1 6) f) 11 (V 1 6) d) 12 (V 1 6) (V 1 0)) 1 6 (w32 (V 1 6 + 1)) = W at m
    have w : ∀ (c : Nat) (j : Int), c ≠ 1 → c ≠ 9 → c ≠ 10 → c ≠ 11 → c ≠ 12 → W c j = V c j := fun c j h1 h2 h3 h4 h5 => by rw [← hW, up_c h1, up_c h5, up_c h4, up_c h3, up_c h2]
    have w16 : W 1 6 = w32 (V 1 6 + 1) := by rw [← hW, up_s]
    have w9 : ∀ j, W 9 j = if j = V 1 6 then b else V 9 j := fun j => by rw [← hW, up_c (by decide), up_c (by decide), up_c (by decide), up_c (by decide), up_p]
    have w10 : ∀ j, W 10 j = if j = V 1 6 then f else V 10 j := fun j => by rw [← hW, up_c (by decide), up_c (by decide), up_c (by decide), up_p, up_c (by decide)]
    have w11 : ∀ j, W 11 j = if j = V 1 6 then d else V 11 j := fun j => by rw [← hW, up_c (by decide), up_c (by decide), up_p, up_c (by decide), up_c (by decide)]
    have w12 : ∀ j, W 12 j = if j = V 1 6 then V 1 0 else V 12 j := fun j => by rw [← hW, up_c (by decide), up_p, up_c (by decide), up_c (by decide), up_c (by decide)]
    have e14 : W 72 14 = V 72 14 := w 72 14 (by decide) (by decide) (by decide) (by decide) (by decide)
    have e1 : W 72 1 = V 72 1 := w 72 1 (by decide) (by decide) (by decide) (by decide) (by decide)
    have okW : ok225 W b f d ↔ ok225 V b f d := by
      unfold ok225 mHeld mField mFarm mBody
      rw [w 72 2 (by decide) (by decide) (by decide) (by decide) (by decide), w 73 b (by decide) (by decide) (by decide) (by decide) (by decide), w 73 f (by decide) (by decide) (by decide) (by decide) (by decide)]
    rcases m with ⟨b0, rfl, rfl⟩ | ⟨b0, b1, rfl, rfl⟩ | ⟨b0, b1, b2, rfl, rfl⟩
    · exact absurd (okW.mpr (ok.mp a)) b0
    · omega
    · have w1 : w32 (V 1 6 + 1) = V 1 6 + 1 := w32_id (by omega) (by omega)
      have g : ∀ (c : Nat) (j : Int), c ≠ 72 → c ≠ 83 → c ≠ 84 → c ≠ 85 → c ≠ 86 → up (up (up (up (up W 83 (W 72 14) b) 84 (W 72 14) f) 85 (W 72 14) d) 86 (W 72 14) (W 72 1)) 72 14 (w32 (W 72 14 + 1)) c j = W c j := fun c j h1 h2 h3 h4 h5 => by rw [up_c h1, up_c h5, up_c h4, up_c h3, up_c h2]
      have f0 := (body_lt J a.2.1.1).1
      refine ⟨⟨?_, fun j => ?_, fun j => ?_, fun j => ?_, fun j => ?_, ?_, ?_, fun j q0 q1 => ?_, fun j => ?_⟩, by rw [e14, k1]⟩
      · rw [g 1 6 (by decide) (by decide) (by decide) (by decide) (by decide), w16, up_s, e14, k1]
      · rw [g 9 j (by decide) (by decide) (by decide) (by decide) (by decide), w9, up_c (by decide), up_c (by decide), up_c (by decide), up_c (by decide), up_p, e14, k1, w 83 j (by decide) (by decide) (by decide) (by decide) (by decide), k2]
      · rw [g 10 j (by decide) (by decide) (by decide) (by decide) (by decide), w10, up_c (by decide), up_c (by decide), up_c (by decide), up_p, up_c (by decide), e14, k1, w 84 j (by decide) (by decide) (by decide) (by decide) (by decide), k3]
      · rw [g 11 j (by decide) (by decide) (by decide) (by decide) (by decide), w11, up_c (by decide), up_c (by decide), up_p, up_c (by decide), up_c (by decide), e14, k1, w 85 j (by decide) (by decide) (by decide) (by decide) (by decide), k4]
      · rw [g 12 j (by decide) (by decide) (by decide) (by decide) (by decide), w12, up_c (by decide), up_p, up_c (by decide), up_c (by decide), up_c (by decide), e14, k1, w 86 j (by decide) (by decide) (by decide) (by decide) (by decide), e1, hd, k5]
      · rw [g 1 6 (by decide) (by decide) (by decide) (by decide) (by decide), w16]; omega
      · rw [g 1 6 (by decide) (by decide) (by decide) (by decide) (by decide), w16]; omega
      · rw [g 1 6 (by decide) (by decide) (by decide) (by decide) (by decide), w16] at q1
        rw [g 11 j (by decide) (by decide) (by decide) (by decide) (by decide), w11]
        have := a.2.2.1
        split
        · omega
        · exact k8 j q0 (by omega)
      · rw [g 10 j (by decide) (by decide) (by decide) (by decide) (by decide), w10]
        have := k9 j
        split <;> omega
def LHand : List (Nat × Option Nat) := [(1, some 6), (72, some 14), (9, none), (83, none), (10, none), (84, none), (11, none), (85, none), (12, none), (86, none)]
theorem JHand_ag {V V' : vS} (J : JHand V) (A : ag LHand V V') : JHand V' := by
  obtain ⟨a1, a2, a3, a4, a5, a6, a7, a8, a9, a10, -⟩ := A
  have a1 : V' 1 6 = V 1 6 := a1
  have a2 : V' 72 14 = V 72 14 := a2
  unfold JHand
  simp only [a1, a2, a3, a4, a5, a6, a7, a8, a9, a10]
  exact J
theorem JHand_dG {W : List (Nat × Nat)} {σ σ1 : List Nat} {h h1 : aH} (J : JHand (vw h)) (I : dI σ h) (G : dG W σ h σ1 h1) (k : frL W LHand = true) : JHand (vw h1) := JHand_ag J (ag_dG I.1 G _ k)
theorem zJHand0 : JHand (vw zH0) := by
  have e1 : vw zH0 1 6 = 0 := vzf (i := 6) (x := 0) zh1 rfl
  have e2 : vw zH0 72 14 = 0 := vzf (i := 14) (x := 0) zh72 rfl
  refine ⟨by rw [e1, e2], fun j => by rw [vz zh9, vz zh83], fun j => by rw [vz zh10, vz zh84], fun j => by rw [vz zh11, vz zh85], fun j => by rw [vz zh12, vz zh86], by rw [e1]; decide, by rw [e1]; decide, fun j h0 h1 => by rw [e1] at h1; omega, fun j => by rw [vz zh10]; decide⟩
end
section
section WV
variable {X : aX} {D : Nat} {M : aM} {Q : Option Value → aH → Prop} {pc len a b : Nat} {l : aL} {r : List Value} {h : aH}
theorem w_lshlv {x : Int64} {y : Int32} (hf : aF pc M.2.2.2.2.2.2.2 = some (pc, .lshl, len, a, b)) (k : ∀ z : Int64, z = x <<< (y.toInt64 &&& 63) → Wp X D M Q (pc + 1) l (.long z :: r) h) : Wp X D M Q pc l (.int y :: .long x :: r) h := wp1 (fun n d => r_lshl hf rfl) (k _ rfl)
theorem w_landv {x y : Int64} (hf : aF pc M.2.2.2.2.2.2.2 = some (pc, .land, len, a, b)) (k : ∀ z : Int64, z = x &&& y → Wp X D M Q (pc + 1) l (.long z :: r) h) : Wp X D M Q pc l (.long y :: .long x :: r) h := wp1 (fun n d => r_land hf rfl) (k _ rfl)
theorem w_lorv {x y : Int64} (hf : aF pc M.2.2.2.2.2.2.2 = some (pc, .lor, len, a, b)) (k : ∀ z : Int64, z = x ||| y → Wp X D M Q (pc + 1) l (.long z :: r) h) : Wp X D M Q pc l (.long y :: .long x :: r) h := wp1 (fun n d => r_lor hf rfl) (k _ rfl)
end WV
end
section
-- ===== the rows of squares of both sides are one =====
def tb (a : Int) (x : Nat) : Bool := (Int32.ofInt a).toBitVec.getLsbD x
end

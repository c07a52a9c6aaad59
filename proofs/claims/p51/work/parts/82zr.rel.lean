-- ===== 82zr.rel: 4 texts =====
section
-- ===== the two sides' bodies and rings, as numbers =====
theorem cA_n {V : vS} {k m t : Int} : cAddV V k m t 1 1 = w32 (V 1 1 + 1) := by unfold cAddV; rw [up_s]
theorem cA_2 {V : vS} {k m t j : Int} : cAddV V k m t 2 j = if j = V 1 1 then k else V 2 j := by
  unfold cAddV
  rw [up_c (by decide), up_c (by decide), up_c (by decide), up_c (by decide), up_c (by decide), up_c (by decide), up_c (by decide), up_p]
theorem cA_3 {V : vS} {k m t j : Int} : cAddV V k m t 3 j = if j = V 1 1 then m else V 3 j := by
  unfold cAddV
  rw [up_c (by decide), up_c (by decide), up_c (by decide), up_c (by decide), up_c (by decide), up_c (by decide), up_p, up_c (by decide)]
theorem cA_7 {V : vS} {k m t j : Int} : cAddV V k m t 7 j = if j = V 1 1 then t else V 7 j := by
  unfold cAddV
  rw [up_c (by decide), up_c (by decide), up_c (by decide), up_c (by decide), up_c (by decide), up_p, up_c (by decide), up_c (by decide)]
theorem cA_4 {V : vS} {k m t j : Int} : cAddV V k m t 4 j = if j = V 1 1 then V 1 0 else V 4 j := by
  unfold cAddV
  rw [up_c (by decide), up_c (by decide), up_c (by decide), up_c (by decide), up_p, up_c (by decide), up_c (by decide), up_c (by decide)]
theorem cA_5 {V : vS} {k m t j : Int} : cAddV V k m t 5 j = if j = V 1 1 then -1 else V 5 j := by
  unfold cAddV
  rw [up_c (by decide), up_c (by decide), up_c (by decide), up_p, up_c (by decide), up_c (by decide), up_c (by decide), up_c (by decide)]
theorem mA_n {V : vS} {k : Int} : mAddV V k 72 2 = w32 (V 72 2 + 1) := by unfold mAddV; rw [up_s]
theorem mA_73 {V : vS} {k j : Int} : mAddV V k 73 j = if j = V 72 2 then k else V 73 j := by
  unfold mAddV
  rw [up_c (by decide), up_c (by decide), up_c (by decide), up_c (by decide), up_p]
theorem mA_75 {V : vS} {k j : Int} : mAddV V k 75 j = if j = V 72 2 then -1 else V 75 j := by
  unfold mAddV
  rw [up_c (by decide), up_c (by decide), up_c (by decide), up_p, up_c (by decide)]
theorem mA_76 {V : vS} {k j : Int} : mAddV V k 76 j = if j = V 72 2 then V 72 1 else V 76 j := by
  unfold mAddV
  rw [up_c (by decide), up_c (by decide), up_p, up_c (by decide), up_c (by decide)]
theorem mA_77 {V : vS} {k j : Int} : mAddV V k 77 j = if j = V 72 2 then -1 else V 77 j := by
  unfold mAddV
  rw [up_c (by decide), up_p, up_c (by decide), up_c (by decide), up_c (by decide)]
def JMeas (V : vS) (j : Int) : Prop := (kFarm (V 2 j) → V 3 j = V 74 j) ∧ (4 ≤ V 2 j → V 2 j ≤ 5 → V 3 j = V 78 j) ∧ (V 2 j = 6 → V 3 j = V 79 j)
def JBody (V : vS) : Prop := V 1 1 = V 72 2 ∧ (∀ j, V 2 j = V 73 j) ∧ (∀ j, V 4 j = V 76 j) ∧ (∀ j, V 5 j = V 77 j) ∧ (∀ j, V 7 j = V 75 j) ∧ 0 ≤ V 1 1 ∧ V 1 1 ≤ 150 ∧ (∀ j, -1 ≤ V 5 j ∧ -1 ≤ V 7 j) ∧ ∀ j, 0 ≤ j → j < V 1 1 → JMeas V j
theorem jb_gen {V V2 : vS} {k m t : Int} (J : JBody V) (hd : V 1 0 = V 72 1) (hn : V 1 1 < 150) (ht : -1 ≤ t) (a1 : V2 1 1 = w32 (V 1 1 + 1)) (a2 : ∀ j, V2 2 j = if j = V 1 1 then k else V 2 j) (a3 : ∀ j, V2 3 j = if j = V 1 1 then m else V 3 j) (a4 : ∀ j, V2 4 j = if j = V 1 1 then V 1 0 else V 4 j) (a5 : ∀ j, V2 5 j = if j = V 1 1 then -1 else V 5 j) (a7 : ∀ j, V2 7 j = if j = V 1 1 then t else V 7 j)
    (b1 : V2 72 2 = w32 (V 72 2 + 1)) (b2 : ∀ j, V2 73 j = if j = V 72 2 then k else V 73 j) (b4 : ∀ j, V2 76 j = if j = V 72 2 then V 72 1 else V 76 j) (b5 : ∀ j, V2 77 j = if j = V 72 2 then -1 else V 77 j) (b7 : ∀ j, V2 75 j = if j = V 72 2 then t else V 75 j) (c1 : ∀ j, j ≠ V 72 2 → V2 74 j = V 74 j ∧ V2 78 j = V 78 j ∧ V2 79 j = V 79 j) (c2 : (kFarm k → V2 74 (V 72 2) = m) ∧ (4 ≤ k → k ≤ 5 → V2 78 (V 72 2) = m) ∧ (k = 6 → V2 79 (V 72 2) = m)) : JBody V2 := by
  obtain ⟨j1, j2, j3, j4, j5, j6, j7, j9, j8⟩ := J
  rw [w32_id (by omega) (by omega)] at a1 b1
  refine ⟨by omega, fun j => by rw [a2, b2, j1, j2], fun j => by rw [a4, b4, j1, j3, hd], fun j => by rw [a5, b5, j1, j4], fun j => by rw [a7, b7, j1, j5], by omega, by omega, fun j => ⟨by rw [a5]; have := (j9 j).1; split <;> omega, by rw [a7]; have := (j9 j).2; split <;> omega⟩, fun j h0 h1 => ?_⟩
  unfold JMeas
  rw [a2, a3]
  by_cases q : j = V 1 1
  · subst q
    rw [if_pos rfl, if_pos rfl]
    rw [j1]
    exact ⟨fun z => (c2.1 z).symm, fun z1 z2 => (c2.2.1 z1 z2).symm, fun z => (c2.2.2 z).symm⟩
  · rw [if_neg q, if_neg q]
    obtain ⟨d1, d2, d3⟩ := c1 j (by omega)
    rw [d1, d2, d3]
    exact j8 j h0 (by omega)
theorem farm_j {V : vS} (J : JBody V) (b : Int) : cFarm V b ↔ mFarm V b := by
  unfold cFarm mFarm cBody mBody
  rw [J.1, J.2.1]
  unfold kFarm uF
  omega
theorem field_j {V : vS} (J : JBody V) (b : Int) : cField V b ↔ mField V b := by
  unfold cField mField cBody mBody
  rw [J.1, J.2.1]
  unfold uF
  omega
-- a call of both sides: body, farm, corner, uncorner, area, field, permit
theorem jx_1 {V V1 V2 : vS} {r1 r2 : Int} (J : JBody V) (hd : V 1 0 = V 72 1) (c : RAdd V 0 0 (-1) r1 V1) (m : RM205 V1 0 r2 V2) : JBody V2 ∧ r1 = r2 := by
  have j1 := J.1
  have j7 := J.2.2.2.2.2.2.1
  rcases c with ⟨a, rfl, rfl⟩ | ⟨a1, a2, rfl, rfl⟩
  · rcases m with ⟨b, rfl, rfl⟩ | ⟨b, c1, c2, -, -⟩
    · exact ⟨J, rfl⟩
    · omega
  · have e : cAddV V 0 0 (-1) 72 2 = V 72 2 := cAddV_c (by decide) (by decide) (by decide) (by decide) (by decide) (by decide)
    rcases m with ⟨b, rfl, rfl⟩ | ⟨b, c1, c2, rfl, rfl⟩
    · omega
    · refine ⟨jb_gen (k := 0) (m := 0) (t := -1) J hd a2 (by decide) ?_ ?_ ?_ ?_ ?_ ?_ ?_ ?_ ?_ ?_ ?_ ?_ ?_, by omega⟩
      · rw [mAddV_c (by decide) (by decide) (by decide) (by decide) (by decide), cA_n]
      · intro j; rw [mAddV_c (by decide) (by decide) (by decide) (by decide) (by decide), cA_2]
      · intro j; rw [mAddV_c (by decide) (by decide) (by decide) (by decide) (by decide), cA_3]
      · intro j; rw [mAddV_c (by decide) (by decide) (by decide) (by decide) (by decide), cA_4]
      · intro j; rw [mAddV_c (by decide) (by decide) (by decide) (by decide) (by decide), cA_5]
      · intro j; rw [mAddV_c (by decide) (by decide) (by decide) (by decide) (by decide), cA_7]
      · rw [mA_n, e]
      · intro j; rw [mA_73, e, cAddV_c (by decide) (by decide) (by decide) (by decide) (by decide) (by decide)]
      · intro j; rw [mA_76, e, cAddV_c (by decide) (by decide) (by decide) (by decide) (by decide) (by decide), cAddV_c (by decide) (by decide) (by decide) (by decide) (by decide) (by decide)]
      · intro j; rw [mA_77, e, cAddV_c (by decide) (by decide) (by decide) (by decide) (by decide) (by decide)]
      · intro j; rw [mA_75, e, cAddV_c (by decide) (by decide) (by decide) (by decide) (by decide) (by decide)]
      · intro j _
        refine ⟨?_, ?_, ?_⟩ <;> rw [mAddV_c (by decide) (by decide) (by decide) (by decide) (by decide), cAddV_c (by decide) (by decide) (by decide) (by decide) (by decide) (by decide)]
      · refine ⟨fun z => ?_, fun z1 z2 => by omega, fun z => by omega⟩
        unfold kFarm at z
        omega
theorem jx_2 {V V1 V2 : vS} {k l r1 r2 : Int} (J : JBody V) (hd : V 1 0 = V 72 1) (c : R146 V k l r1 V1) (m : R207 V1 k l r2 V2) : JBody V2 ∧ r1 = r2 := by
  have j1 := J.1
  have j7 := J.2.2.2.2.2.2.1
  have kk : (kFarm k ∧ 0 ≤ l ∧ l ≤ 3) ↔ (uF k 1 ∧ 0 ≤ k ∧ k ≤ 7 ∧ 0 ≤ l ∧ l ≤ 3) := by
    unfold kFarm uF
    omega
  rcases c with ⟨a, rfl, rfl⟩ | ⟨a, ⟨a0, rfl, rfl⟩ | ⟨a1, a2, rfl, rfl⟩⟩
  · rcases m with ⟨b, rfl, rfl⟩ | ⟨b, -⟩ | ⟨b, -⟩
    · exact ⟨J, rfl⟩
    · exact absurd (kk.mpr b) a
    · exact absurd (kk.mpr b) a
  · rcases m with ⟨b, rfl, rfl⟩ | ⟨b, c1, rfl, rfl⟩ | ⟨b, c1, V3, c2, -⟩
    · exact absurd (kk.mp a) b
    · exact ⟨J, rfl⟩
    · obtain ⟨d1, d2, -, -⟩ := c2
      omega
  · have e : cAddV V k l (-1) 72 2 = V 72 2 := cAddV_c (by decide) (by decide) (by decide) (by decide) (by decide) (by decide)
    rcases m with ⟨b, rfl, rfl⟩ | ⟨b, c1, rfl, rfl⟩ | ⟨b, c1, V3, ⟨d1, d2, rfl, rfl⟩, rfl⟩
    · exact absurd (kk.mp a) b
    · omega
    · refine ⟨jb_gen (k := k) (m := l) (t := -1) J hd a2 (by decide) ?_ ?_ ?_ ?_ ?_ ?_ ?_ ?_ ?_ ?_ ?_ ?_ ?_, by omega⟩
      · rw [up_c (by decide), mAddV_c (by decide) (by decide) (by decide) (by decide) (by decide), cA_n]
      · intro j; rw [up_c (by decide), mAddV_c (by decide) (by decide) (by decide) (by decide) (by decide), cA_2]
      · intro j; rw [up_c (by decide), mAddV_c (by decide) (by decide) (by decide) (by decide) (by decide), cA_3]
      · intro j; rw [up_c (by decide), mAddV_c (by decide) (by decide) (by decide) (by decide) (by decide), cA_4]
      · intro j; rw [up_c (by decide), mAddV_c (by decide) (by decide) (by decide) (by decide) (by decide), cA_5]
      · intro j; rw [up_c (by decide), mAddV_c (by decide) (by decide) (by decide) (by decide) (by decide), cA_7]
      · rw [up_c (by decide), mA_n, e]
      · intro j; rw [up_c (by decide), mA_73, e, cAddV_c (by decide) (by decide) (by decide) (by decide) (by decide) (by decide)]
      · intro j; rw [up_c (by decide), mA_76, e, cAddV_c (by decide) (by decide) (by decide) (by decide) (by decide) (by decide), cAddV_c (by decide) (by decide) (by decide) (by decide) (by decide) (by decide)]
      · intro j; rw [up_c (by decide), mA_77, e, cAddV_c (by decide) (by decide) (by decide) (by decide) (by decide) (by decide)]
      · intro j; rw [up_c (by decide), mA_75, e, cAddV_c (by decide) (by decide) (by decide) (by decide) (by decide) (by decide)]
      · intro j q
        refine ⟨?_, ?_, ?_⟩
        · rw [up_p, e, if_neg q, mAddV_c (by decide) (by decide) (by decide) (by decide) (by decide), cAddV_c (by decide) (by decide) (by decide) (by decide) (by decide) (by decide)]
        · rw [up_c (by decide), mAddV_c (by decide) (by decide) (by decide) (by decide) (by decide), cAddV_c (by decide) (by decide) (by decide) (by decide) (by decide) (by decide)]
        · rw [up_c (by decide), mAddV_c (by decide) (by decide) (by decide) (by decide) (by decide), cAddV_c (by decide) (by decide) (by decide) (by decide) (by decide) (by decide)]
      · have k7 := a.1
        unfold kFarm at k7
        refine ⟨fun z => ?_, fun z1 z2 => by omega, fun z => by omega⟩
        rw [up_p, e, if_pos rfl]
theorem jx_3 {V V1 V2 : vS} {x y r1 r2 : Int} (J : JRing V) (c : R147 V x y r1 V1) (m : R209 V1 x y r2 V2) : JRing V2 ∧ r1 = r2 := by
  have J0 := J
  obtain ⟨j1, j2, j3, j4, j5⟩ := J0
  rcases c with ⟨a, rfl, rfl⟩ | ⟨a, a0, rfl, rfl⟩ | ⟨a, a0, ⟨a1, -, -⟩ | ⟨a1, a2, rfl, rfl⟩⟩
  · rcases m with ⟨b, rfl, rfl⟩ | ⟨b, -⟩ | ⟨b, -⟩
    · exact ⟨J, rfl⟩
    · exact absurd b a
    · exact absurd b a
  · rcases m with ⟨b, rfl, rfl⟩ | ⟨b, b1, rfl, rfl⟩ | ⟨b, b1, b2, -⟩
    · exact absurd a b
    · exact ⟨J, rfl⟩
    · omega
  · omega
  · have e : ∀ (c : Nat) (j : Int), c ≠ 13 → c ≠ 14 → c ≠ 15 → up (up (up V 14 (V 13 2) x) 15 (V 13 2) y) 13 2 (w32 (V 13 2 + 1)) c j = V c j := by
      intro c j h1 h2 h3
      rw [up_c h1, up_c h3, up_c h2]
    have e2 := e 72 11 (by decide) (by decide) (by decide)
    rcases m with ⟨b, rfl, rfl⟩ | ⟨b, b1, rfl, rfl⟩ | ⟨b, b1, b2, rfl, rfl⟩
    · exact absurd a b
    · omega
    · have w1 : w32 (V 13 2 + 1) = V 13 2 + 1 := w32_id (by omega) (by omega)
      rw [e2, ← j1]
      refine ⟨⟨?_, fun j => ?_, fun j => ?_, ?_, ?_⟩, rfl⟩
      · rw [up_s, up_c (by decide), up_c (by decide), up_c (by decide), up_s]
      · rw [up_c (by decide), up_c (by decide), up_c (by decide), up_c (by decide), up_c (by decide), up_p, up_c (by decide), up_c (by decide), up_p, e 81 j (by decide) (by decide) (by decide), j2]
      · rw [up_c (by decide), up_c (by decide), up_c (by decide), up_c (by decide), up_p, up_c (by decide), up_c (by decide), up_p, up_c (by decide), e 82 j (by decide) (by decide) (by decide), j3]
      · rw [up_c (by decide), up_c (by decide), up_c (by decide), up_s]; omega
      · rw [up_c (by decide), up_c (by decide), up_c (by decide), up_s]; omega
theorem jx_4 {V V1 V2 : vS} {r1 r2 : Int} (J : JRing V) (c : r1 = V 13 2 ∧ V1 = up V 13 2 0) (m : r2 = V1 72 11 ∧ V2 = up V1 72 11 0) : JRing V2 ∧ r1 = r2 := by
  obtain ⟨j1, j2, j3, j4, j5⟩ := J
  obtain ⟨rfl, rfl⟩ := c
  obtain ⟨rfl, rfl⟩ := m
  refine ⟨⟨?_, fun j => ?_, fun j => ?_, ?_, ?_⟩, ?_⟩
  · rw [up_c (by decide), up_s, up_s]
  · rw [up_c (by decide), up_c (by decide), up_c (by decide), up_c (by decide), j2]
  · rw [up_c (by decide), up_c (by decide), up_c (by decide), up_c (by decide), j3]
  · rw [up_c (by decide), up_s]; decide
  · rw [up_c (by decide), up_s]; decide
  · rw [up_c (by decide), j1]
theorem jx_6w {V W : vS} {kd f : Int} (J : JRing V) (K : JBody V) (hd : V 1 0 = V 72 1) (a2 : V 1 1 < 150) (hf : -1 ≤ f) (hkd : 4 ≤ kd ∧ kd ≤ 5) (e : ∀ (c : Nat) (j : Int), c ≠ 1 → c ≠ 2 → c ≠ 3 → c ≠ 4 → c ≠ 5 → c ≠ 7 → c ≠ 8 → c ≠ 13 → W c j = V c j) (w13 : W 13 2 = 0) (wc : ∀ (c : Nat) (j : Int), c ≠ 8 → c ≠ 13 → W c j = cAddV V kd (cArea V) f c j) : JRing (up (outm (up (up (mAddV W kd) 75 (W 72 2) f) 78 (W 72 2) (cArea V)) (W 72 2) 24) 72 11 0) ∧ JBody (up (outm (up (up (mAddV W kd) 75 (W 72 2) f) 78 (W 72 2) (cArea V)) (W 72 2) 24) 72 11 0) := by
  have J0 := J
  obtain ⟨j1, j2, j3, j4, j5⟩ := J0
  have en : W 72 2 = V 72 2 := e 72 2 (by decide) (by decide) (by decide) (by decide) (by decide) (by decide) (by decide) (by decide)
  have e81 : ∀ j, W 81 j = V 81 j := fun j => e 81 j (by decide) (by decide) (by decide) (by decide) (by decide) (by decide) (by decide) (by decide)
  have e82 : ∀ j, W 82 j = V 82 j := fun j => e 82 j (by decide) (by decide) (by decide) (by decide) (by decide) (by decide) (by decide) (by decide)
  have q : ∀ (c : Nat) (j : Int), c ≠ 72 → c ≠ 73 → c ≠ 75 → c ≠ 76 → c ≠ 77 → c ≠ 78 → c ≠ 80 → up (outm (up (up (mAddV W kd) 75 (W 72 2) f) 78 (W 72 2) (cArea V)) (W 72 2) 24) 72 11 0 c j = W c j := by
    intro c j h1 h2 h3 h4 h5 h6 h7
    rw [up_c h1, outm_c h7, up_c h6, up_c h3, mAddV_c h1 h2 h3 h4 h5]
  refine ⟨⟨?_, fun j => ?_, fun j => ?_, ?_, ?_⟩, jb_gen (k := kd) (m := cArea V) (t := f) K hd a2 hf ?_ ?_ ?_ ?_ ?_ ?_ ?_ ?_ ?_ ?_ ?_ ?_ ?_⟩
  · rw [q 13 2 (by decide) (by decide) (by decide) (by decide) (by decide) (by decide) (by decide), w13, up_s]
  · rw [q 14 j (by decide) (by decide) (by decide) (by decide) (by decide) (by decide) (by decide), q 81 j (by decide) (by decide) (by decide) (by decide) (by decide) (by decide) (by decide), e81, ← j2, wc 14 j (by decide) (by decide), cAddV_c (by decide) (by decide) (by decide) (by decide) (by decide) (by decide)]
  · rw [q 15 j (by decide) (by decide) (by decide) (by decide) (by decide) (by decide) (by decide), q 82 j (by decide) (by decide) (by decide) (by decide) (by decide) (by decide) (by decide), e82, ← j3, wc 15 j (by decide) (by decide), cAddV_c (by decide) (by decide) (by decide) (by decide) (by decide) (by decide)]
  · rw [q 13 2 (by decide) (by decide) (by decide) (by decide) (by decide) (by decide) (by decide), w13]; decide
  · rw [q 13 2 (by decide) (by decide) (by decide) (by decide) (by decide) (by decide) (by decide), w13]; decide
  · rw [q 1 1 (by decide) (by decide) (by decide) (by decide) (by decide) (by decide) (by decide), wc 1 1 (by decide) (by decide), cA_n]
  · intro j; rw [q 2 j (by decide) (by decide) (by decide) (by decide) (by decide) (by decide) (by decide), wc 2 j (by decide) (by decide), cA_2]
  · intro j; rw [q 3 j (by decide) (by decide) (by decide) (by decide) (by decide) (by decide) (by decide), wc 3 j (by decide) (by decide), cA_3]
  · intro j; rw [q 4 j (by decide) (by decide) (by decide) (by decide) (by decide) (by decide) (by decide), wc 4 j (by decide) (by decide), cA_4]
  · intro j; rw [q 5 j (by decide) (by decide) (by decide) (by decide) (by decide) (by decide) (by decide), wc 5 j (by decide) (by decide), cA_5]
  · intro j; rw [q 7 j (by decide) (by decide) (by decide) (by decide) (by decide) (by decide) (by decide), wc 7 j (by decide) (by decide), cA_7]
  · rw [up_j (by decide), outm_c (by decide), up_c (by decide), up_c (by decide), mA_n, en]
  · intro j; rw [up_c (by decide), outm_c (by decide), up_c (by decide), up_c (by decide), mA_73, en, wc 73 j (by decide) (by decide), cAddV_c (by decide) (by decide) (by decide) (by decide) (by decide) (by decide)]
  · intro j; rw [up_c (by decide), outm_c (by decide), up_c (by decide), up_c (by decide), mA_76, en, wc 76 j (by decide) (by decide), wc 72 1 (by decide) (by decide), cAddV_c (by decide) (by decide) (by decide) (by decide) (by decide) (by decide), cAddV_c (by decide) (by decide) (by decide) (by decide) (by decide) (by decide)]
  · intro j; rw [up_c (by decide), outm_c (by decide), up_c (by decide), up_c (by decide), mA_77, en, wc 77 j (by decide) (by decide), cAddV_c (by decide) (by decide) (by decide) (by decide) (by decide) (by decide)]
  · intro j; rw [up_c (by decide), outm_c (by decide), up_c (by decide), up_p, en]
    by_cases z : j = V 72 2
    · rw [if_pos z, if_pos z]
    · rw [if_neg z, if_neg z, mA_75, en, if_neg z, wc 75 j (by decide) (by decide), cAddV_c (by decide) (by decide) (by decide) (by decide) (by decide) (by decide)]
  · intro j z
    refine ⟨?_, ?_, ?_⟩
    · rw [q 74 j (by decide) (by decide) (by decide) (by decide) (by decide) (by decide) (by decide), wc 74 j (by decide) (by decide), cAddV_c (by decide) (by decide) (by decide) (by decide) (by decide) (by decide)]
    · rw [up_c (by decide), outm_c (by decide), up_p, en, if_neg z, up_c (by decide), mAddV_c (by decide) (by decide) (by decide) (by decide) (by decide), wc 78 j (by decide) (by decide), cAddV_c (by decide) (by decide) (by decide) (by decide) (by decide) (by decide)]
    · rw [q 79 j (by decide) (by decide) (by decide) (by decide) (by decide) (by decide) (by decide), wc 79 j (by decide) (by decide), cAddV_c (by decide) (by decide) (by decide) (by decide) (by decide) (by decide)]
  · refine ⟨fun z => ?_, fun z1 z2 => ?_, fun z => by omega⟩
    · unfold kFarm at z; omega
    · rw [up_c (by decide), outm_c (by decide), up_p, en, if_pos rfl]
def R222k (kd : Int) (V : vS) (f m r : Int) (V' : vS) : Prop := (¬ (mFarm V f ∧ 0 ≤ m ∧ m ≤ 1) ∧ r = -1 ∧ V' = V) ∨ ((mFarm V f ∧ 0 ≤ m ∧ m ≤ 1) ∧ ((¬ mSound V ∧ r = -2 ∧ V' = V) ∨ (mSound V ∧ V 72 2 = 150 ∧ r = -3 ∧ V' = V) ∨ (mSound V ∧ V 72 2 ≠ 150 ∧ ∃ V1, RAddM V kd r V1 ∧ V' = up (outm (up (up V1 75 r f) 78 r (mArea V)) r 24) 72 11 0)))
theorem mSound_c {V W : vS} (er : W 72 11 = V 72 11) (e1 : ∀ j, W 81 j = V 81 j) (e2 : ∀ j, W 82 j = V 82 j) : mSound W ↔ mSound V := by
  unfold mSound mWay mMeet mlx mhx mly mhy
  simp only [er, e1, e2, mNxt_c er]
theorem jx_6c {V W V2 : vS} {kd f w r2 : Int} (J : JRing V) (K : JBody V) (hd : V 1 0 = V 72 1) (a : cFarm V f ∧ 0 ≤ w ∧ w ≤ 1) (a0 : cSound V) (a2 : V 1 1 < 150) (hkd : 4 ≤ kd ∧ kd ≤ 5) (e : ∀ (c : Nat) (j : Int), c ≠ 1 → c ≠ 2 → c ≠ 3 → c ≠ 4 → c ≠ 5 → c ≠ 7 → c ≠ 8 → c ≠ 13 → W c j = V c j) (w13 : W 13 2 = 0) (wc : ∀ (c : Nat) (j : Int), c ≠ 8 → c ≠ 13 → W c j = cAddV V kd (cArea V) f c j) (m : R222k kd W f w r2 V2) : (JRing V2 ∧ JBody V2) ∧ V 1 1 = r2 := by
  have k1 := K.1
  have k7 := K.2.2.2.2.2.2.1
  have en : W 72 2 = V 72 2 := e 72 2 (by decide) (by decide) (by decide) (by decide) (by decide) (by decide) (by decide) (by decide)
  have er : W 72 11 = V 72 11 := e 72 11 (by decide) (by decide) (by decide) (by decide) (by decide) (by decide) (by decide) (by decide)
  have e81 : ∀ j, W 81 j = V 81 j := fun j => e 81 j (by decide) (by decide) (by decide) (by decide) (by decide) (by decide) (by decide) (by decide)
  have e82 : ∀ j, W 82 j = V 82 j := fun j => e 82 j (by decide) (by decide) (by decide) (by decide) (by decide) (by decide) (by decide) (by decide)
  have mf : mFarm W f ↔ mFarm V f := by
    unfold mFarm mBody
    rw [en, e 73 f (by decide) (by decide) (by decide) (by decide) (by decide) (by decide) (by decide) (by decide)]
  have ma : mArea W = cArea V := by
    rw [area_j J]
    exact mArea_c er e81 e82
  rcases m with ⟨b, rfl, rfl⟩ | ⟨b, ⟨b0, rfl, rfl⟩ | ⟨b0, b1, rfl, rfl⟩ | ⟨b0, b1, V3, ⟨c1, c2, rfl, rfl⟩, rfl⟩⟩
  · exact absurd ⟨mf.mpr ((farm_j K f).mp a.1), a.2⟩ b
  · exact absurd ((mSound_c er e81 e82).mpr ((sound_j J).mp a0)) b0
  · rw [en] at b1
    omega
  · rw [ma]
    exact ⟨jx_6w J K hd a2 (by have := a.1.1.1; omega) hkd e w13 wc, by omega⟩
theorem jx_6 {V V1 V2 : vS} {f w r1 r2 : Int} (J : JRing V) (K : JBody V) (hd : V 1 0 = V 72 1) (c : R150 V f w r1 V1) (m : R222 V1 f w r2 V2) : (JRing V2 ∧ JBody V2) ∧ r1 = r2 := by
  have k1 := K.1
  have k7 := K.2.2.2.2.2.2.1
  rcases c with ⟨a, rfl, rfl⟩ | ⟨a, ⟨a0, rfl, rfl⟩ | ⟨a0, a1, rfl, rfl⟩ | ⟨a0, a1, a2, rfl, hV⟩⟩
  · rcases m with ⟨b, rfl, rfl⟩ | ⟨b, -⟩
    · exact ⟨⟨J, K⟩, rfl⟩
    · exact absurd ⟨(farm_j K f).mpr b.1, b.2⟩ a
  · rcases m with ⟨b, rfl, rfl⟩ | ⟨b, ⟨b0, rfl, rfl⟩ | ⟨b0, -⟩ | ⟨b0, -⟩⟩
    · exact absurd ⟨(farm_j K f).mp a.1, a.2⟩ b
    · exact ⟨⟨J, K⟩, rfl⟩
    · exact absurd ((sound_j J).mpr b0) a0
    · exact absurd ((sound_j J).mpr b0) a0
  · rcases m with ⟨b, rfl, rfl⟩ | ⟨b, ⟨b0, rfl, rfl⟩ | ⟨b0, b1, rfl, rfl⟩ | ⟨b0, b1, V3, ⟨c1, c2, -, -⟩, -⟩⟩
    · exact absurd ⟨(farm_j K f).mp a.1, a.2⟩ b
    · exact absurd ((sound_j J).mp a0) b0
    · exact ⟨⟨J, K⟩, rfl⟩
    · omega
  · have mk : R222k (if w = 1 then 5 else 4) V1 f w r2 V2 := m
    clear m
    generalize hk : (if w = 1 then (5 : Int) else 4) = kd at mk hV
    have hkd : 4 ≤ kd ∧ kd ≤ 5 := by
      rw [← hk]
      split <;> omega
    refine jx_6c J K hd a a0 a2 hkd (fun c j h1 h2 h3 h4 h5 h7 h8 h13 => ?_) (by rw [hV, up_s]) (fun c j h1 h2 => by rw [hV, up_c h2, outl_c h1]) mk
    rw [hV, up_c h13, outl_c h8, cAddV_c h1 h2 h3 h4 h5 h7]
theorem jx_7 {V V1 V2 : vS} {v r1 r2 : Int} (J : JBody V) (hd : V 1 0 = V 72 1) (c : R151 V v r1 V1) (m : R208 V1 v r2 V2) : JBody V2 ∧ r1 = r2 := by
  have j1 := J.1
  have j7 := J.2.2.2.2.2.2.1
  rcases c with ⟨a, rfl, rfl⟩ | ⟨a, ⟨a0, rfl, rfl⟩ | ⟨a1, a2, rfl, a3⟩⟩
  · rcases m with ⟨b, rfl, rfl⟩ | ⟨b, -⟩ | ⟨b, -⟩
    · exact ⟨J, rfl⟩
    · exact absurd b a
    · exact absurd b a
  · rcases m with ⟨b, rfl, rfl⟩ | ⟨b, c1, rfl, rfl⟩ | ⟨b, c1, V3, c2, -⟩
    · exact absurd a b
    · exact ⟨J, rfl⟩
    · obtain ⟨d1, d2, -, -⟩ := c2
      omega
  · have f : ∀ (c : Nat) (j : Int), c ≠ 6 → c ≠ 1 → V1 c j = cAddV V 6 v (-1) c j := fun c j h1 h2 => a3 c j h1 (fun z => h2 z.1)
    have e : V1 72 2 = V 72 2 := by rw [f 72 2 (by decide) (by decide)]; exact cAddV_c (by decide) (by decide) (by decide) (by decide) (by decide) (by decide)
    rcases m with ⟨b, rfl, rfl⟩ | ⟨b, c1, rfl, rfl⟩ | ⟨b, c1, V3, ⟨d1, d2, rfl, rfl⟩, rfl⟩
    · exact absurd a b
    · omega
    · refine ⟨jb_gen (k := 6) (m := v) (t := -1) J hd a2 (by decide) ?_ ?_ ?_ ?_ ?_ ?_ ?_ ?_ ?_ ?_ ?_ ?_ ?_, by omega⟩
      · rw [up_c (by decide), mAddV_c (by decide) (by decide) (by decide) (by decide) (by decide), a3 1 1 (by decide) (by decide), cA_n]
      · intro j; rw [up_c (by decide), mAddV_c (by decide) (by decide) (by decide) (by decide) (by decide), f 2 j (by decide) (by decide), cA_2]
      · intro j; rw [up_c (by decide), mAddV_c (by decide) (by decide) (by decide) (by decide) (by decide), f 3 j (by decide) (by decide), cA_3]
      · intro j; rw [up_c (by decide), mAddV_c (by decide) (by decide) (by decide) (by decide) (by decide), f 4 j (by decide) (by decide), cA_4]
      · intro j; rw [up_c (by decide), mAddV_c (by decide) (by decide) (by decide) (by decide) (by decide), f 5 j (by decide) (by decide), cA_5]
      · intro j; rw [up_c (by decide), mAddV_c (by decide) (by decide) (by decide) (by decide) (by decide), f 7 j (by decide) (by decide), cA_7]
      · rw [up_c (by decide), mA_n, e]
      · intro j; rw [up_c (by decide), mA_73, e, f 73 j (by decide) (by decide), cAddV_c (by decide) (by decide) (by decide) (by decide) (by decide) (by decide)]
      · intro j; rw [up_c (by decide), mA_76, e, f 76 j (by decide) (by decide), f 72 1 (by decide) (by decide), cAddV_c (by decide) (by decide) (by decide) (by decide) (by decide) (by decide), cAddV_c (by decide) (by decide) (by decide) (by decide) (by decide) (by decide)]
      · intro j; rw [up_c (by decide), mA_77, e, f 77 j (by decide) (by decide), cAddV_c (by decide) (by decide) (by decide) (by decide) (by decide) (by decide)]
      · intro j; rw [up_c (by decide), mA_75, e, f 75 j (by decide) (by decide), cAddV_c (by decide) (by decide) (by decide) (by decide) (by decide) (by decide)]
      · intro j q
        refine ⟨?_, ?_, ?_⟩
        · rw [up_c (by decide), mAddV_c (by decide) (by decide) (by decide) (by decide) (by decide), f 74 j (by decide) (by decide), cAddV_c (by decide) (by decide) (by decide) (by decide) (by decide) (by decide)]
        · rw [up_c (by decide), mAddV_c (by decide) (by decide) (by decide) (by decide) (by decide), f 78 j (by decide) (by decide), cAddV_c (by decide) (by decide) (by decide) (by decide) (by decide) (by decide)]
        · rw [up_p, e, if_neg q, mAddV_c (by decide) (by decide) (by decide) (by decide) (by decide), f 79 j (by decide) (by decide), cAddV_c (by decide) (by decide) (by decide) (by decide) (by decide) (by decide)]
      · refine ⟨fun z => ?_, fun z1 z2 => by omega, fun z => ?_⟩
        · unfold kFarm at z; omega
        · rw [up_p, e, if_pos rfl]
end
section
-- ===== frames of numbers; calls with what a run comes to =====
def fra (W : List (Nat × Nat)) (c : Nat) : Bool := match cRT[c]? with
  | some t => !(Nat.beq t.1 0) && Nat.blt c 146 && !(cWn W c 0)
  | none => false
def frf (W : List (Nat × Nat)) (c i : Nat) : Bool := match cRT[c]? with
  | some t => Nat.beq t.1 0 && Nat.blt c 146 && !(cWn W c i)
  | none => false
theorem vw_fa {W : List (Nat × Nat)} {σ σ1 : List Nat} {h h1 : aH} (H : dH σ h) (G : dG W σ h σ1 h1) {c : Nat} (k : fra W c = true) (j : Int) : vw h1 c j = vw h c j := by
  unfold fra at k
  split at k
  · rename_i t e
    simp only [Bool.and_eq_true, Bool.not_eq_true', Nat.blt_eq] at k
    obtain ⟨⟨k1, k2⟩, k3⟩ := k
    exact vw_dG H G k2 e j ⟨fun z => (by rw [z] at k1; cases k1), fun _ => k3⟩
  · cases k
theorem vw_ff {W : List (Nat × Nat)} {σ σ1 : List Nat} {h h1 : aH} (H : dH σ h) (G : dG W σ h σ1 h1) {c i : Nat} (k : frf W c i = true) : vw h1 c (i : Nat) = vw h c (i : Nat) := by
  unfold frf at k
  split at k
  · rename_i t e
    simp only [Bool.and_eq_true, Bool.not_eq_true', Nat.blt_eq] at k
    obtain ⟨⟨k1, k2⟩, k3⟩ := k
    exact vw_dG H G k2 e (i : Nat) ⟨fun _ => by rw [Int.toNat_natCast]; exact k3, fun z => absurd (Nat.eq_of_beq_eq_true k1) z⟩
  · cases k
def ag : List (Nat × Option Nat) → vS → vS → Prop
  | [], _, _ => True
  | (c, none) :: r, V, V' => (∀ j, V' c j = V c j) ∧ ag r V V'
  | (c, some i) :: r, V, V' => V' c (i : Nat) = V c (i : Nat) ∧ ag r V V'
def frL (W : List (Nat × Nat)) : List (Nat × Option Nat) → Bool
  | [] => true
  | (c, none) :: r => fra W c && frL W r
  | (c, some i) :: r => frf W c i && frL W r
theorem ag_dG {W : List (Nat × Nat)} {σ σ1 : List Nat} {h h1 : aH} (H : dH σ h) (G : dG W σ h σ1 h1) : ∀ (L : List (Nat × Option Nat)), frL W L = true → ag L (vw h) (vw h1)
  | [], _ => trivial
  | (c, none) :: r, k => by
    unfold frL at k
    rw [Bool.and_eq_true] at k
    exact ⟨fun j => vw_fa H G k.1 j, ag_dG H G r k.2⟩
  | (c, some i) :: r, k => by
    unfold frL at k
    rw [Bool.and_eq_true] at k
    exact ⟨vw_ff H G k.1, ag_dG H G r k.2⟩
def LRing : List (Nat × Option Nat) := [(13, some 2), (72, some 11), (14, none), (81, none), (15, none), (82, none)]
def LBody : List (Nat × Option Nat) := [(1, some 1), (72, some 2), (2, none), (73, none), (4, none), (76, none), (5, none), (77, none), (7, none), (75, none), (3, none), (74, none), (78, none), (79, none)]
theorem JRing_ag {V V' : vS} (J : JRing V) (A : ag LRing V V') : JRing V' := by
  obtain ⟨a1, a2, a3, a4, a5, a6, -⟩ := A
  have a1 : V' 13 2 = V 13 2 := a1
  have a2 : V' 72 11 = V 72 11 := a2
  unfold JRing
  simp only [a1, a2, a3, a4, a5, a6]
  exact J
theorem JBody_ag {V V' : vS} (J : JBody V) (A : ag LBody V V') : JBody V' := by
  obtain ⟨a1, a2, a3, a4, a5, a6, a7, a8, a9, a10, a11, a12, a13, a14, -⟩ := A
  have a1 : V' 1 1 = V 1 1 := a1
  have a2 : V' 72 2 = V 72 2 := a2
  unfold JBody JMeas
  simp only [a1, a2, a3, a4, a5, a6, a7, a8, a9, a10, a11, a12, a13, a14]
  exact J
theorem JRing_dG {W : List (Nat × Nat)} {σ σ1 : List Nat} {h h1 : aH} (J : JRing (vw h)) (I : dI σ h) (G : dG W σ h σ1 h1) (k : frL W LRing = true) : JRing (vw h1) := JRing_ag J (ag_dG I.1 G _ k)
theorem JBody_dG {W : List (Nat × Nat)} {σ σ1 : List Nat} {h h1 : aH} (J : JBody (vw h)) (I : dI σ h) (G : dG W σ h σ1 h1) (k : frL W LBody = true) : JBody (vw h1) := JBody_ag J (ag_dG I.1 G _ k)
theorem JP_day {h : aH} (J : JP h) : vw h 1 0 = vw h 72 1 := by
  obtain ⟨fs, f2, t, n, p, c1, a1, -, -, -, c2, a5⟩ := J
  exact (vw_o c1 a1).trans (vw_o c2 a5).symm
theorem vz {c n : Nat} (e : zH0.1[c]? = some (.inl (0, n, .inl (fun _ => 0)))) (j : Int) : vw zH0 c j = 0 := by
  unfold vw
  split
  · rfl
  · rw [e]; rfl
theorem vzf {c ci i : Nat} {fs : List Value} {x : Int32} (e : zH0.1[c]? = some (.inr (ci, fs))) (ef : fs[i]? = some (.int x)) : vw zH0 c (i : Nat) = x.toInt := vw_o e ef
theorem zJRing0 : JRing (vw zH0) := by
  have e1 : vw zH0 13 2 = 0 := vzf (i := 2) (x := 0) zh13 rfl
  have e2 : vw zH0 72 11 = 0 := vzf (i := 11) (x := 0) zh72 rfl
  refine ⟨by rw [e1, e2], fun j => by rw [vz zh14, vz zh81], fun j => by rw [vz zh15, vz zh82], by rw [e1]; decide, by rw [e1]; decide⟩
theorem zJBody0 : JBody (vw zH0) := by
  have e1 : vw zH0 1 1 = 0 := vzf (i := 1) (x := 0) zh1 rfl
  have e2 : vw zH0 72 2 = 0 := vzf (i := 2) (x := 0) zh72 rfl
  refine ⟨by rw [e1, e2], fun j => by rw [vz zh2, vz zh73], fun j => by rw [vz zh4, vz zh76], fun j => by rw [vz zh5, vz zh77], fun j => by rw [vz zh7, vz zh75], by rw [e1]; decide, by rw [e1]; decide, fun j => by rw [vz zh5, vz zh7]; decide, fun j h0 h1 => by rw [e1] at h1; omega⟩
section WQ
variable {X : aX} {D : Nat} {M : aM} {Q : Option Value → aH → Prop} {pc pc' : Nat} {l l' : aL} {st r : List Value} {h : aH}
theorem wp_goodQ {C : cC} {Y : aM} (G : dGood X C) (hY : zmt[C.1]? = some Y) {σ : List Nat} (I : dI σ h) {ρ : List Int} {l1 : aL} (K : dK σ h ρ [] C.2.2.2.1.2.2) (L : dL ρ [] C.2.2.2.1.1 l1) {Q' : Option Value → aH → Prop} (P : ∀ n, Pt n X Y 0 l1 [] h Q')
    (hs : ∀ (n d : Nat) (v : Option Value) (h1 : aH), arun X n d Y 0 l1 [] h = some (v, h1) → arun X (n + 1) (d + 1) M pc l st h = arun X n (d + 1) M pc' l' (v.toList ++ r) h1) (hd : C.2.1 + 1 ≤ D)
    (k : ∀ (v : Option Value) (h1 : aH) (σ1 : List Nat), dI σ1 h1 → dG C.2.2.1 σ h σ1 h1 → (∃ P, P ∈ C.2.2.2.2.1 ∧ dPost P σ1 h1 v) → Q' v h1 → Wp X D M Q pc' l' (v.toList ++ r) h1) : Wp X D M Q pc l st h := by
  obtain ⟨N, v, h1, σ1, e1, e2, e3, e4⟩ := G Y hY l1 h σ ρ [] I K L
  exact wp_call (fun n d e => hs n d v h1 e) hd e1 (k v h1 σ1 e2 e3 e4 (P (0 + N) (0 + N) (Nat.le_refl _) (0 + C.2.1) v h1 (e1 0 0)))
end WQ
end
section
theorem gx154_0 : aF 0 zM154.2.2.2.2.2.2.2 = some (0, (.aload_n 0), 1, 0, 0) := by decide +kernel
theorem gx154_1 : aF 1 zM154.2.2.2.2.2.2.2 = some (1, (.getfield 12), 3, 11, 0) := by decide +kernel
theorem gx154_4 : aF 4 zM154.2.2.2.2.2.2.2 = some (4, (.iload_n 1), 1, 0, 0) := by decide +kernel
theorem gx154_5 : aF 5 zM154.2.2.2.2.2.2.2 = some (5, (.invokevirtual 136), 3, 77, 0) := by decide +kernel
theorem gx154_8 : aF 8 zM154.2.2.2.2.2.2.2 = some (8, (.ifCond .ne 5), 3, 13, 0) := by decide +kernel
theorem gx154_13 : aF 13 zM154.2.2.2.2.2.2.2 = some (13, (.aload_n 0), 1, 0, 0) := by decide +kernel
theorem gx154_14 : aF 14 zM154.2.2.2.2.2.2.2 = some (14, (.getfield 12), 3, 11, 0) := by decide +kernel
theorem gx154_17 : aF 17 zM154.2.2.2.2.2.2.2 = some (17, (.getfield 149), 3, 6, 10) := by decide +kernel
theorem gx154_20 : aF 20 zM154.2.2.2.2.2.2.2 = some (20, (.iload_n 1), 1, 0, 0) := by decide +kernel
theorem gx154_21 : aF 21 zM154.2.2.2.2.2.2.2 = some (21, .iaload, 1, 0, 0) := by decide +kernel
theorem gx154_22 : aF 22 zM154.2.2.2.2.2.2.2 = some (22, (.iconst (-1)), 1, 0, 0) := by decide +kernel
theorem gx154_23 : aF 23 zM154.2.2.2.2.2.2.2 = some (23, (.if_icmp .eq 6), 3, 29, 0) := by decide +kernel
theorem gx154_29 : aF 29 zM154.2.2.2.2.2.2.2 = some (29, (.aload_n 0), 1, 0, 0) := by decide +kernel
theorem gx154_30 : aF 30 zM154.2.2.2.2.2.2.2 = some (30, (.getfield 12), 3, 11, 0) := by decide +kernel
theorem gx154_33 : aF 33 zM154.2.2.2.2.2.2.2 = some (33, (.getfield 149), 3, 6, 10) := by decide +kernel
theorem gx154_36 : aF 36 zM154.2.2.2.2.2.2.2 = some (36, (.iload_n 1), 1, 0, 0) := by decide +kernel
theorem gx154_37 : aF 37 zM154.2.2.2.2.2.2.2 = some (37, (.aload_n 0), 1, 0, 0) := by decide +kernel
theorem gx154_38 : aF 38 zM154.2.2.2.2.2.2.2 = some (38, (.getfield 12), 3, 11, 0) := by decide +kernel
theorem gx154_41 : aF 41 zM154.2.2.2.2.2.2.2 = some (41, (.getfield 93), 3, 6, 0) := by decide +kernel
theorem gx154_44 : aF 44 zM154.2.2.2.2.2.2.2 = some (44, .iastore, 1, 0, 0) := by decide +kernel
theorem gx154_45 : aF 45 zM154.2.2.2.2.2.2.2 = some (45, (.aload_n 0), 1, 0, 0) := by decide +kernel
theorem gx154_46 : aF 46 zM154.2.2.2.2.2.2.2 = some (46, (.getfield 12), 3, 11, 0) := by decide +kernel
theorem gx154_49 : aF 49 zM154.2.2.2.2.2.2.2 = some (49, .dup, 1, 0, 0) := by decide +kernel
theorem gx154_50 : aF 50 zM154.2.2.2.2.2.2.2 = some (50, (.getfield 158), 3, 6, 5) := by decide +kernel
theorem gx154_53 : aF 53 zM154.2.2.2.2.2.2.2 = some (53, (.iconst 1), 1, 0, 0) := by decide +kernel
theorem gx154_54 : aF 54 zM154.2.2.2.2.2.2.2 = some (54, .iadd, 1, 0, 0) := by decide +kernel
theorem gx154_55 : aF 55 zM154.2.2.2.2.2.2.2 = some (55, (.putfield 158), 3, 6, 5) := by decide +kernel
theorem gx154_58 : aF 58 zM154.2.2.2.2.2.2.2 = some (58, (.iconst 1), 1, 0, 0) := by decide +kernel
theorem gx154_59 : aF 59 zM154.2.2.2.2.2.2.2 = some (59, .ireturn, 1, 0, 0) := by decide +kernel
theorem gx154_26 : aF 26 zM154.2.2.2.2.2.2.2 = some (26, (.bipush (-2)), 2, 0, 0) := by decide +kernel
theorem gx154_28 : aF 28 zM154.2.2.2.2.2.2.2 = some (28, .ireturn, 1, 0, 0) := by decide +kernel
theorem gx154_11 : aF 11 zM154.2.2.2.2.2.2.2 = some (11, (.iconst (-1)), 1, 0, 0) := by decide +kernel
theorem gx154_12 : aF 12 zM154.2.2.2.2.2.2.2 = some (12, .ireturn, 1, 0, 0) := by decide +kernel
theorem gx224_0 : aF 0 zM224.2.2.2.2.2.2.2 = some (0, (.aload_n 0), 1, 0, 0) := by decide +kernel
theorem gx224_1 : aF 1 zM224.2.2.2.2.2.2.2 = some (1, (.iload_n 1), 1, 0, 0) := by decide +kernel
theorem gx224_2 : aF 2 zM224.2.2.2.2.2.2.2 = some (2, (.invokevirtual 322), 3, 203, 0) := by decide +kernel
theorem gx224_5 : aF 5 zM224.2.2.2.2.2.2.2 = some (5, (.ifCond .ne 5), 3, 10, 0) := by decide +kernel
theorem gx224_10 : aF 10 zM224.2.2.2.2.2.2.2 = some (10, (.aload_n 0), 1, 0, 0) := by decide +kernel
theorem gx224_11 : aF 11 zM224.2.2.2.2.2.2.2 = some (11, (.getfield 22), 3, 12, 7) := by decide +kernel
theorem gx224_14 : aF 14 zM224.2.2.2.2.2.2.2 = some (14, (.iload_n 1), 1, 0, 0) := by decide +kernel
theorem gx224_15 : aF 15 zM224.2.2.2.2.2.2.2 = some (15, .iaload, 1, 0, 0) := by decide +kernel
theorem gx224_16 : aF 16 zM224.2.2.2.2.2.2.2 = some (16, (.ifCond .lt 6), 3, 22, 0) := by decide +kernel
theorem gx224_22 : aF 22 zM224.2.2.2.2.2.2.2 = some (22, (.aload_n 0), 1, 0, 0) := by decide +kernel
theorem gx224_23 : aF 23 zM224.2.2.2.2.2.2.2 = some (23, (.getfield 22), 3, 12, 7) := by decide +kernel
theorem gx224_26 : aF 26 zM224.2.2.2.2.2.2.2 = some (26, (.iload_n 1), 1, 0, 0) := by decide +kernel
theorem gx224_27 : aF 27 zM224.2.2.2.2.2.2.2 = some (27, (.aload_n 0), 1, 0, 0) := by decide +kernel
theorem gx224_28 : aF 28 zM224.2.2.2.2.2.2.2 = some (28, (.getfield 262), 3, 12, 1) := by decide +kernel
theorem gx224_31 : aF 31 zM224.2.2.2.2.2.2.2 = some (31, .iastore, 1, 0, 0) := by decide +kernel
theorem gx224_32 : aF 32 zM224.2.2.2.2.2.2.2 = some (32, (.aload_n 0), 1, 0, 0) := by decide +kernel
theorem gx224_33 : aF 33 zM224.2.2.2.2.2.2.2 = some (33, (.iconst 1), 1, 0, 0) := by decide +kernel
theorem gx224_34 : aF 34 zM224.2.2.2.2.2.2.2 = some (34, (.putfield 100), 3, 12, 38) := by decide +kernel
theorem gx224_37 : aF 37 zM224.2.2.2.2.2.2.2 = some (37, (.iconst 1), 1, 0, 0) := by decide +kernel
theorem gx224_38 : aF 38 zM224.2.2.2.2.2.2.2 = some (38, .ireturn, 1, 0, 0) := by decide +kernel
theorem gx224_19 : aF 19 zM224.2.2.2.2.2.2.2 = some (19, (.bipush (-2)), 2, 0, 0) := by decide +kernel
theorem gx224_21 : aF 21 zM224.2.2.2.2.2.2.2 = some (21, .ireturn, 1, 0, 0) := by decide +kernel
theorem gx224_8 : aF 8 zM224.2.2.2.2.2.2.2 = some (8, (.iconst (-1)), 1, 0, 0) := by decide +kernel
theorem gx224_9 : aF 9 zM224.2.2.2.2.2.2.2 = some (9, .ireturn, 1, 0, 0) := by decide +kernel
theorem d154_0 {n : Nat} {X : aX} {h : aH} {P : Int → aH → Prop} {x1 : Int32} {a1 : Int} (S : wS h) (z1 : x1.toInt = a1) (H : (((cField (vw h) a1) → (0 ≤ a1 → a1 < 150 → ((vw h 5 a1 = (-1) → ∀ h_18 : aH, wS h_18 → vw h_18 = up (up (vw h) 5 a1 (vw h 1 0)) 1 5 (w32 ((vw h 1 5) + 1)) → P 1 h_18) ∧ (vw h 5 a1 ≠ (-1) → P (-2) h)))) ∧ (¬ (cField (vw h) a1) → P (-1) h))) : Pt (n + 1) X zM154 0 [some (.ref 0), some (.int x1)] [] h (qI P) := by
  refine pt_1 (fun n d => r_aloadn gx154_0 rfl) ?_
  refine pt_d (pt_getR gx154_1 S tr_0_0 ?_)
  refine pt_d (pt_1 (fun n d => r_iloadn gx154_4 rfl) ?_)
  refine pt_d (pt_virt (as := [.int x1]) (r := []) gx154_5 rfl (show zmt[77]? = some zM77 from rfl) rfl rfl rfl rfl (c_77 S z1) (kqP (fun v2 h2 => ?_)))
  show Pt _ _ _ 8 _ [.int v2] _ _
  refine pt_d (pt_ifB_ne gx154_8 h2 (fun e3 => ?_) (fun e3 => ?_))
  · have H := H.1 e3
    refine pt_d (pt_1 (fun n d => r_aloadn gx154_13 rfl) ?_)
    refine pt_d (pt_getR gx154_14 S tr_0_0 ?_)
    refine pt_d (pt_getR gx154_17 S tr_1_10 ?_)
    refine pt_d (pt_1 (fun n d => r_iloadn gx154_20 rfl) ?_)
    refine pt_d (pt_iald (N' := 150) gx154_21 S tl_5 z1 (fun v6 p6 q6 h6 => ?_))
    have H := H p6 q6
    refine pt_d (pt_iconst gx154_22 (fun v7 h7 => ?_))
    refine pt_d (pt_icmp_eq gx154_23 h6 h7 (fun e8 => ?_) (fun e8 => ?_))
    · have H := H.1 e8
      refine pt_d (pt_1 (fun n d => r_aloadn gx154_29 rfl) ?_)
      refine pt_d (pt_getR gx154_30 S tr_0_0 ?_)
      refine pt_d (pt_getR gx154_33 S tr_1_10 ?_)
      refine pt_d (pt_1 (fun n d => r_iloadn gx154_36 rfl) ?_)
      refine pt_d (pt_1 (fun n d => r_aloadn gx154_37 rfl) ?_)
      refine pt_d (pt_getR gx154_38 S tr_0_0 ?_)
      refine pt_d (pt_getI (B := 0) gx154_41 S (fun v12 h12 => ?_))
      refine pt_d (pt_iast (N' := 150) gx154_44 S tl_5 z1 h12 (fun h_13 S13 p13 q13 e13 => ?_))
      refine pt_d (pt_1 (fun n d => r_aloadn gx154_45 rfl) ?_)
      refine pt_d (pt_getR gx154_46 S13 tr_0_0 ?_)
      refine pt_d (pt_1 (fun n d => r_dup gx154_49 rfl) ?_)
      refine pt_d (pt_getI (B := 5) gx154_50 S13 (fun v15 h15 => ?_))
      have h15 : v15.toInt = vw h 1 5 := by rw [h15, e13, up_c (by decide)]
      refine pt_d (pt_iconst gx154_53 (fun v16 h16 => ?_))
      refine pt_d (pt_iadd gx154_54 h15 h16 (fun v17 h17 => ?_))
      refine pt_d (pt_putI (B := 5) gx154_55 S13 h17 (fun h_18 S18 e18 => ?_))
      refine pt_d (pt_iconst gx154_58 (fun v19 h19 => ?_))
      have H := H h_18 S18 (by rw [e18, e13])
      exact pt_d (pt_iret gx154_59 ⟨_, rfl, by rw [h19]; exact H⟩)
    · have H := H.2 e8
      refine pt_d (pt_bipush gx154_26 (fun v20 h20 => ?_))
      exact pt_d (pt_iret gx154_28 ⟨_, rfl, by rw [h20]; exact H⟩)
  · have H := H.2 e3
    refine pt_d (pt_iconst gx154_11 (fun v21 h21 => ?_))
    exact pt_d (pt_iret gx154_12 ⟨_, rfl, by rw [h21]; exact H⟩)
theorem d224_0 {n : Nat} {X : aX} {h : aH} {P : Int → aH → Prop} {x1 : Int32} {a1 : Int} (S : wS h) (z1 : x1.toInt = a1) (H : (((mField (vw h) a1) → (0 ≤ a1 → a1 < 150 → ((vw h 77 a1 < 0 → ∀ h_10 : aH, wS h_10 → vw h_10 = up (up (vw h) 77 a1 (vw h 72 1)) 72 38 1 → P 1 h_10) ∧ (0 ≤ vw h 77 a1 → P (-2) h)))) ∧ (¬ (mField (vw h) a1) → P (-1) h))) : Pt (n + 1) X zM224 0 [some (.ref 72), some (.int x1)] [] h (qI P) := by
  refine pt_1 (fun n d => r_aloadn gx224_0 rfl) ?_
  refine pt_d (pt_1 (fun n d => r_iloadn gx224_1 rfl) ?_)
  refine pt_d (pt_virt (as := [.int x1]) (r := []) gx224_2 rfl (show zmt[203]? = some zM203 from rfl) rfl rfl rfl rfl (c_203 S z1) (kqP (fun v1 h1 => ?_)))
  show Pt _ _ _ 5 _ [.int v1] _ _
  refine pt_d (pt_ifB_ne gx224_5 h1 (fun e2 => ?_) (fun e2 => ?_))
  · have H := H.1 e2
    refine pt_d (pt_1 (fun n d => r_aloadn gx224_10 rfl) ?_)
    refine pt_d (pt_getR gx224_11 S tr_72_7 ?_)
    refine pt_d (pt_1 (fun n d => r_iloadn gx224_14 rfl) ?_)
    refine pt_d (pt_iald (N' := 150) gx224_15 S tl_77 z1 (fun v4 p4 q4 h4 => ?_))
    have H := H p4 q4
    refine pt_d (pt_if_lt gx224_16 h4 (fun e5 => ?_) (fun e5 => ?_))
    · have H := H.1 e5
      refine pt_d (pt_1 (fun n d => r_aloadn gx224_22 rfl) ?_)
      refine pt_d (pt_getR gx224_23 S tr_72_7 ?_)
      refine pt_d (pt_1 (fun n d => r_iloadn gx224_26 rfl) ?_)
      refine pt_d (pt_1 (fun n d => r_aloadn gx224_27 rfl) ?_)
      refine pt_d (pt_getI (B := 1) gx224_28 S (fun v7 h7 => ?_))
      refine pt_d (pt_iast (N' := 150) gx224_31 S tl_77 z1 h7 (fun h_8 S8 p8 q8 e8 => ?_))
      refine pt_d (pt_1 (fun n d => r_aloadn gx224_32 rfl) ?_)
      refine pt_d (pt_iconst gx224_33 (fun v9 h9 => ?_))
      refine pt_d (pt_putI (B := 38) gx224_34 S8 h9 (fun h_10 S10 e10 => ?_))
      refine pt_d (pt_iconst gx224_37 (fun v11 h11 => ?_))
      have H := H h_10 S10 (by rw [e10, e8])
      exact pt_d (pt_iret gx224_38 ⟨_, rfl, by rw [h11]; exact H⟩)
    · have H := H.2 e5
      refine pt_d (pt_bipush gx224_19 (fun v12 h12 => ?_))
      exact pt_d (pt_iret gx224_21 ⟨_, rfl, by rw [h12]; exact H⟩)
  · have H := H.2 e2
    refine pt_d (pt_iconst gx224_8 (fun v13 h13 => ?_))
    exact pt_d (pt_iret gx224_9 ⟨_, rfl, by rw [h13]; exact H⟩)
def R154 (V : vS) (b r : Int) (V' : vS) : Prop := (¬ cField V b ∧ r = -1 ∧ V' = V) ∨ (cField V b ∧ V 5 b ≠ -1 ∧ r = -2 ∧ V' = V) ∨ (cField V b ∧ V 5 b = -1 ∧ r = 1 ∧ V' = up (up V 5 b (V 1 0)) 1 5 (w32 (V 1 5 + 1)))
theorem c_154 {n : Nat} {X : aX} {h : aH} {x1 : Int32} {a1 : Int} (S : wS h) (z1 : x1.toInt = a1) : Pt n X zM154 0 [some (.ref 0), some (.int x1)] [] h (qI (fun y h' => R154 (vw h) a1 y (vw h'))) := by
  refine pt_d (d154_0 S z1 ⟨fun e p q => ⟨fun e2 g S2 eg => Or.inr (Or.inr ⟨e, e2, rfl, eg⟩), fun e2 => Or.inr (Or.inl ⟨e, e2, rfl, rfl⟩)⟩, fun e => Or.inl ⟨e, rfl, rfl⟩⟩)
def R224 (V : vS) (b r : Int) (V' : vS) : Prop := (¬ mField V b ∧ r = -1 ∧ V' = V) ∨ (mField V b ∧ 0 ≤ V 77 b ∧ r = -2 ∧ V' = V) ∨ (mField V b ∧ V 77 b < 0 ∧ r = 1 ∧ V' = up (up V 77 b (V 72 1)) 72 38 1)
theorem c_224 {n : Nat} {X : aX} {h : aH} {x1 : Int32} {a1 : Int} (S : wS h) (z1 : x1.toInt = a1) : Pt n X zM224 0 [some (.ref 72), some (.int x1)] [] h (qI (fun y h' => R224 (vw h) a1 y (vw h'))) := by
  refine pt_d (d224_0 S z1 ⟨fun e p q => ⟨fun e2 g S2 eg => Or.inr (Or.inr ⟨e, e2, rfl, eg⟩), fun e2 => Or.inr (Or.inl ⟨e, e2, rfl, rfl⟩)⟩, fun e => Or.inl ⟨e, rfl, rfl⟩⟩)
end
section
-- ===== the two sides' handovers and claims, as numbers =====
theorem vw_rng {σ : List Nat} {h : aH} (I : dI σ h) {c a n : Nat} {lo hi : Int} (k : tkA c a n lo hi = true) {j : Int} (h0 : 0 ≤ j) (h1 : j < (n : Nat)) : lo ≤ vw h c j ∧ vw h c j ≤ hi := by
  obtain ⟨g, e, r⟩ := hI_a I k
  rw [vw_a e h0]
  exact r _ (by omega)
theorem vw_rf {σ : List Nat} {h : aH} (I : dI σ h) {c ci f : Nat} {lo hi : Int} (k0 : tkO c ci = true) (k : tkI c f lo hi = true) : lo ≤ vw h c (f : Nat) ∧ vw h c (f : Nat) ≤ hi := by
  obtain ⟨fs, e⟩ := hI_o I k0
  obtain ⟨x, e2, r1, r2⟩ := hI_i I e k
  rw [vw_o e e2]
  exact ⟨r1, r2⟩
theorem body_lt {V : vS} (J : JBody V) {b : Int} (h : cBody V b) : 0 ≤ b ∧ b < V 1 1 ∧ b < 150 := by
  have := J.2.2.2.2.2.2.1
  have := J.2.2.2.2.2.1
  unfold cBody at h
  rw [w32_id (by omega) (by omega)] at h
  omega
theorem jx_10 {V V1 V2 : vS} {b r1 r2 : Int} (J : JBody V) (hd : V 1 0 = V 72 1) (h0 : 0 ≤ V 1 0) (c : R154 V b r1 V1) (m : R224 V1 b r2 V2) : JBody V2 ∧ r1 = r2 := by
  have J0 := J
  obtain ⟨j1, j2, j3, j4, j5, j6, j7, j9, j8⟩ := J0
  rcases c with ⟨a, rfl, rfl⟩ | ⟨a, a1, rfl, rfl⟩ | ⟨a, a1, rfl, rfl⟩
  · rcases m with ⟨b0, rfl, rfl⟩ | ⟨b0, -⟩ | ⟨b0, -⟩
    · exact ⟨J, rfl⟩
    · exact absurd ((field_j J b).mpr b0) a
    · exact absurd ((field_j J b).mpr b0) a
  · rcases m with ⟨b0, rfl, rfl⟩ | ⟨b0, b1, rfl, rfl⟩ | ⟨b0, b1, rfl, rfl⟩
    · exact absurd ((field_j J b).mp a) b0
    · exact ⟨J, rfl⟩
    · have := (j9 b).1
      have := j4 b
      omega
  · have f : ∀ (c : Nat) (j : Int), c ≠ 1 → c ≠ 5 → up (up V 5 b (V 1 0)) 1 5 (w32 (V 1 5 + 1)) c j = V c j := fun c j h1 h2 => by rw [up_c h1, up_c h2]
    have mf : mField (up (up V 5 b (V 1 0)) 1 5 (w32 (V 1 5 + 1))) b ↔ mField V b := by
      unfold mField mBody
      rw [f 72 2 (by decide) (by decide), f 73 b (by decide) (by decide)]
    have e77 := f 77 b (by decide) (by decide)
    rcases m with ⟨b0, rfl, rfl⟩ | ⟨b0, b1, rfl, rfl⟩ | ⟨b0, b1, rfl, rfl⟩
    · exact absurd (mf.mpr ((field_j J b).mp a)) b0
    · have := j4 b
      omega
    · have g : ∀ (c : Nat) (j : Int), c ≠ 1 → c ≠ 5 → c ≠ 77 → c ≠ 72 → up (up (up (up V 5 b (V 1 0)) 1 5 (w32 (V 1 5 + 1))) 77 b (up (up V 5 b (V 1 0)) 1 5 (w32 (V 1 5 + 1)) 72 1)) 72 38 1 c j = V c j := fun c j h1 h2 h3 h4 => by rw [up_c h4, up_c h3, f c j h1 h2]
      have g1 : up (up (up (up V 5 b (V 1 0)) 1 5 (w32 (V 1 5 + 1))) 77 b (up (up V 5 b (V 1 0)) 1 5 (w32 (V 1 5 + 1)) 72 1)) 72 38 1 1 1 = V 1 1 := by rw [up_c (by decide), up_c (by decide), up_j (by decide), up_c (by decide)]
      have g72 : up (up (up (up V 5 b (V 1 0)) 1 5 (w32 (V 1 5 + 1))) 77 b (up (up V 5 b (V 1 0)) 1 5 (w32 (V 1 5 + 1)) 72 1)) 72 38 1 72 2 = V 72 2 := by rw [up_j (by decide), up_c (by decide), f 72 2 (by decide) (by decide)]
      have g5 : ∀ j, up (up (up (up V 5 b (V 1 0)) 1 5 (w32 (V 1 5 + 1))) 77 b (up (up V 5 b (V 1 0)) 1 5 (w32 (V 1 5 + 1)) 72 1)) 72 38 1 5 j = if j = b then V 1 0 else V 5 j := fun j => by rw [up_c (by decide), up_c (by decide), up_c (by decide), up_p]
      have g77 : ∀ j, up (up (up (up V 5 b (V 1 0)) 1 5 (w32 (V 1 5 + 1))) 77 b (up (up V 5 b (V 1 0)) 1 5 (w32 (V 1 5 + 1)) 72 1)) 72 38 1 77 j = if j = b then V 72 1 else V 77 j := fun j => by rw [up_c (by decide), up_p, f 77 j (by decide) (by decide), f 72 1 (by decide) (by decide)]
      refine ⟨⟨by rw [g1, g72, j1], fun j => ?_, fun j => ?_, fun j => by rw [g5, g77, hd, j4], fun j => ?_, by rw [g1]; exact j6, by rw [g1]; exact j7, fun j => ⟨?_, ?_⟩, fun j q0 q1 => ?_⟩, rfl⟩
      · rw [g 2 j (by decide) (by decide) (by decide) (by decide), g 73 j (by decide) (by decide) (by decide) (by decide), j2]
      · rw [g 4 j (by decide) (by decide) (by decide) (by decide), g 76 j (by decide) (by decide) (by decide) (by decide), j3]
      · rw [g 7 j (by decide) (by decide) (by decide) (by decide), g 75 j (by decide) (by decide) (by decide) (by decide), j5]
      · rw [g5]
        have := (j9 j).1
        split <;> omega
      · rw [g 7 j (by decide) (by decide) (by decide) (by decide)]
        exact (j9 j).2
      · unfold JMeas
        rw [g 2 j (by decide) (by decide) (by decide) (by decide), g 3 j (by decide) (by decide) (by decide) (by decide), g 74 j (by decide) (by decide) (by decide) (by decide), g 78 j (by decide) (by decide) (by decide) (by decide), g 79 j (by decide) (by decide) (by decide) (by decide)]
        rw [g1] at q1
        exact j8 j q0 q1
end

-- ===== 82zr.rel: 8 texts =====
section
-- ===== the two sides' bodies and rings, as numbers =====
theorem cA_n {V : vS} {k m t : Int} : cAddV V k m t 1 1 = w32 (V 1 1 + 1) := by unfold cAddV; rw [up_s]
theorem cA_2 {V : vS} {k m t j : Int} : cAddV V k m t 2 j = if j = V 1 1 then k else V 2 j := by
  unfold cAddV
  rw [up_c (by decide), up_c (by decide), up_c (by decide), up_c (by decide), up_c (by decide), up_c (by decide), up_c (by decide), up_p]
theorem cA_3 {V : vS} {k m t j : Int} : cAddV V k m t 3 j = if j = V 1 1 then m else V 3 j := by
  unfold cAddV
  rw [up_c (by decide), up_c (by decide), up_c (by decide), up_c (by decide), up_c (by decide), up_c (by decide), up_p, up_c (by decide)]
theorem cA_7 {V : vS} {k m t j : Int} : cAddV V k m t 7 j = if j = V 1 1 then t else V 7 j := by
  unfold cAddV
  rw [up_c (by decide), up_c (by decide), up_c (by decide), up_c (by decide), up_c (by decide), up_p, up_c (by decide), up_c (by decide)]
theorem cA_4 {V : vS} {k m t j : Int} : cAddV V k m t 4 j = if j = V 1 1 then V 1 0 else V 4 j := by
  unfold cAddV
  rw [up_c (by decide), up_c (by decide), up_c (by decide), up_c (by decide), up_p, up_c (by decide), up_c (by decide), up_c (by decide)]
theorem cA_5 {V : vS} {k m t j : Int} : cAddV V k m t 5 j = if j = V 1 1 then -1 else V 5 j := by
  unfold cAddV
  rw [up_c (by decide), up_c (by decide), up_c (by decide), up_p, up_c (by decide), up_c (by decide), up_c (by decide), up_c (by decide)]
theorem mA_n {V : vS} {k : Int} : mAddV V k 72 2 = w32 (V 72 2 + 1) := by unfold mAddV; rw [up_s]
theorem mA_73 {V : vS} {k j : Int} : mAddV V k 73 j = if j = V 72 2 then k else V 73 j := by
  unfold mAddV
  rw [up_c (by decide), up_c (by decide), up_c (by decide), up_c (by decide), up_p]
theorem mA_75 {V : vS} {k j : Int} : mAddV V k 75 j = if j = V 72 2 then -1 else V 75 j := by
  unfold mAddV
  rw [up_c (by decide), up_c (by decide), up_c (by decide), up_p, up_c (by decide)]
theorem mA_76 {V : vS} {k j : Int} : mAddV V k 76 j = if j = V 72 2 then V 72 1 else V 76 j := by
  unfold mAddV
  rw [up_c (by decide), up_c (by decide), up_p, up_c (by decide), up_c (by decide)]
theorem mA_77 {V : vS} {k j : Int} : mAddV V k 77 j = if j = V 72 2 then -1 else V 77 j := by
  unfold mAddV
  rw [up_c (by decide), up_p, up_c (by decide), up_c (by decide), up_c (by decide)]
def JMeas (V : vS) (j : Int) : Prop := (kFarm (V 2 j) → V 3 j = V 74 j) ∧ (4 ≤ V 2 j → V 2 j ≤ 5 → V 3 j = V 78 j) ∧ (V 2 j = 6 → V 3 j = V 79 j)
def JBody (V : vS) : Prop := V 1 1 = V 72 2 ∧ (∀ j, V 2 j = V 73 j) ∧ (∀ j, V 4 j = V 76 j) ∧ (∀ j, V 5 j = V 77 j) ∧ (∀ j, V 7 j = V 75 j) ∧ 0 ≤ V 1 1 ∧ V 1 1 ≤ 150 ∧ (∀ j, -1 ≤ V 5 j ∧ -1 ≤ V 7 j) ∧ ∀ j, 0 ≤ j → j < V 1 1 → JMeas V j
theorem jb_gen {V V2 : vS} {k m t : Int} (J : JBody V) (hd : V 1 0 = V 72 1) (hn : V 1 1 < 150) (ht : -1 ≤ t) (a1 : V2 1 1 = w32 (V 1 1 + 1)) (a2 : ∀ j, V2 2 j = if j = V 1 1 then k else V 2 j) (a3 : ∀ j, V2 3 j = if j = V 1 1 then m else V 3 j) (a4 : ∀ j, V2 4 j = if j = V 1 1 then V 1 0 else V 4 j) (a5 : ∀ j, V2 5 j = if j = V 1 1 then -1 else V 5 j) (a7 : ∀ j, V2 7 j = if j = V 1 1 then t else V 7 j)
    (b1 : V2 72 2 = w32 (V 72 2 + 1)) (b2 : ∀ j, V2 73 j = if j = V 72 2 then k else V 73 j) (b4 : ∀ j, V2 76 j = if j = V 72 2 then V 72 1 else V 76 j) (b5 : ∀ j, V2 77 j = if j = V 72 2 then -1 else V 77 j) (b7 : ∀ j, V2 75 j = if j = V 72 2 then t else V 75 j) (c1 : ∀ j, j ≠ V 72 2 → V2 74 j = V 74 j ∧ V2 78 j = V 78 j ∧ V2 79 j = V 79 j) (c2 : (kFarm k → V2 74 (V 72 2) = m) ∧ (4 ≤ k → k ≤ 5 → V2 78 (V 72 2) = m) ∧ (k = 6 → V2 79 (V 72 2) = m)) : JBody V2 := by
  obtain ⟨j1, j2, j3, j4, j5, j6, j7, j9, j8⟩ := J
  rw [w32_id (by omega) (by omega)] at a1 b1
  refine ⟨by omega, fun j => by rw [a2, b2, j1, j2], fun j => by rw [a4, b4, j1, j3, hd], fun j => by rw [a5, b5, j1, j4], fun j => by rw [a7, b7, j1, j5], by omega, by omega, fun j => ⟨by rw [a5]; have := (j9 j).1; split <;> omega, by rw [a7]; have := (j9 j).2; split <;> omega⟩, fun j h0 h1 => ?_⟩
  unfold JMeas
  rw [a2, a3]
  by_cases q : j = V 1 1
  · subst q
    rw [if_pos rfl, if_pos rfl]
    rw [j1]
    exact ⟨fun z => (c2.1 z).symm, fun z1 z2 => (c2.2.1 z1 z2).symm, fun z => (c2.2.2 z).symm⟩
  · rw [if_neg q, if_neg q]
    obtain ⟨d1, d2, d3⟩ := c1 j (by omega)
    rw [d1, d2, d3]
    exact j8 j h0 (by omega)
theorem farm_j {V : vS} (J : JBody V) (b : Int) : cFarm V b ↔ mFarm V b := by
  unfold cFarm mFarm cBody mBody
  rw [J.1, J.2.1]
  unfold kFarm uF
  omega
theorem field_j {V : vS} (J : JBody V) (b : Int) : cField V b ↔ mField V b := by
  unfold cField mField cBody mBody
  rw [J.1, J.2.1]
  unfold uF
  omega
-- a call of both sides: body, farm, corner, uncorner, area, field, permit
theorem jx_1 {V V1 V2 : vS} {r1 r2 : Int} (J : JBody V) (hd : V 1 0 = V 72 1) (c : RAdd V 0 0 (-1) r1 V1) (m : RM205 V1 0 r2 V2) : JBody V2 ∧ r1 = r2 := by
  have j1 := J.1
  have j7 := J.2.2.2.2.2.2.1
  rcases c with ⟨a, rfl, rfl⟩ | ⟨a1, a2, rfl, rfl⟩
  · rcases m with ⟨b, rfl, rfl⟩ | ⟨b, c1, c2, -, -⟩
    · exact ⟨J, rfl⟩
    · omega
  · have e : cAddV V 0 0 (-1) 72 2 = V 72 2 := cAddV_c (by decide) (by decide) (by decide) (by decide) (by decide) (by decide)
    rcases m with ⟨b, rfl, rfl⟩ | ⟨b, c1, c2, rfl, rfl⟩
    · omega
    · refine ⟨jb_gen (k := 0) (m := 0) (t := -1) J hd a2 (by decide) ?_ ?_ ?_ ?_ ?_ ?_ ?_ ?_ ?_ ?_ ?_ ?_ ?_, by omega⟩
      · rw [mAddV_c (by decide) (by decide) (by decide) (by decide) (by decide), cA_n]
      · intro j; rw [mAddV_c (by decide) (by decide) (by decide) (by decide) (by decide), cA_2]
      · intro j; rw [mAddV_c (by decide) (by decide) (by decide) (by decide) (by decide), cA_3]
      · intro j; rw [mAddV_c (by decide) (by decide) (by decide) (by decide) (by decide), cA_4]
      · intro j; rw [mAddV_c (by decide) (by decide) (by decide) (by decide) (by decide), cA_5]
      · intro j; rw [mAddV_c (by decide) (by decide) (by decide) (by decide) (by decide), cA_7]
      · rw [mA_n, e]
      · intro j; rw [mA_73, e, cAddV_c (by decide) (by decide) (by decide) (by decide) (by decide) (by decide)]
      · intro j; rw [mA_76, e, cAddV_c (by decide) (by decide) (by decide) (by decide) (by decide) (by decide), cAddV_c (by decide) (by decide) (by decide) (by decide) (by decide) (by decide)]
      · intro j; rw [mA_77, e, cAddV_c (by decide) (by decide) (by decide) (by decide) (by decide) (by decide)]
      · intro j; rw [mA_75, e, cAddV_c (by decide) (by decide) (by decide) (by decide) (by decide) (by decide)]
      · intro j _
        refine ⟨?_, ?_, ?_⟩ <;> rw [mAddV_c (by decide) (by decide) (by decide) (by decide) (by decide), cAddV_c (by decide) (by decide) (by decide) (by decide) (by decide) (by decide)]
      · refine ⟨fun z => ?_, fun z1 z2 => by omega, fun z => by omega⟩
        unfold kFarm at z
        omega
theorem jx_2 {V V1 V2 : vS} {k l r1 r2 : Int} (J : JBody V) (hd : V 1 0 = V 72 1) (c : R146 V k l r1 V1) (m : R207 V1 k l r2 V2) : JBody V2 ∧ r1 = r2 := by
  have j1 := J.1
  have j7 := J.2.2.2.2.2.2.1
  have kk : (kFarm k ∧ 0 ≤ l ∧ l ≤ 3) ↔ (uF k 1 ∧ 0 ≤ k ∧ k ≤ 7 ∧ 0 ≤ l ∧ l ≤ 3) := by
    unfold kFarm uF
    omega
  rcases c with ⟨a, rfl, rfl⟩ | ⟨a, ⟨a0, rfl, rfl⟩ | ⟨a1, a2, rfl, rfl⟩⟩
  · rcases m with ⟨b, rfl, rfl⟩ | ⟨b, -⟩ | ⟨b, -⟩
    · exact ⟨J, rfl⟩
    · exact absurd (kk.mpr b) a
    · exact absurd (kk.mpr b) a
  · rcases m with ⟨b, rfl, rfl⟩ | ⟨b, c1, rfl, rfl⟩ | ⟨b, c1, V3, c2, -⟩
    · exact absurd (kk.mp a) b
    · exact ⟨J, rfl⟩
    · obtain ⟨d1, d2, -, -⟩ := c2
      omega
  · have e : cAddV V k l (-1) 72 2 = V 72 2 := cAddV_c (by decide) (by decide) (by decide) (by decide) (by decide) (by decide)
    rcases m with ⟨b, rfl, rfl⟩ | ⟨b, c1, rfl, rfl⟩ | ⟨b, c1, V3, ⟨d1, d2, rfl, rfl⟩, rfl⟩
    · exact absurd (kk.mp a) b
    · omega
    · refine ⟨jb_gen (k := k) (m := l) (t := -1) J hd a2 (by decide) ?_ ?_ ?_ ?_ ?_ ?_ ?_ ?_ ?_ ?_ ?_ ?_ ?_, by omega⟩
      · rw [up_c (by decide), mAddV_c (by decide) (by decide) (by decide) (by decide) (by decide), cA_n]
      · intro j; rw [up_c (by decide), mAddV_c (by decide) (by decide) (by decide) (by decide) (by decide), cA_2]
      · intro j; rw [up_c (by decide), mAddV_c (by decide) (by decide) (by decide) (by decide) (by decide), cA_3]
      · intro j; rw [up_c (by decide), mAddV_c (by decide) (by decide) (by decide) (by decide) (by decide), cA_4]
      · intro j; rw [up_c (by decide), mAddV_c (by decide) (by decide) (by decide) (by decide) (by decide), cA_5]
      · intro j; rw [up_c (by decide), mAddV_c (by decide) (by decide) (by decide) (by decide) (by decide), cA_7]
      · rw [up_c (by decide), mA_n, e]
      · intro j; rw [up_c (by decide), mA_73, e, cAddV_c (by decide) (by decide) (by decide) (by decide) (by decide) (by decide)]
      · intro j; rw [up_c (by decide), mA_76, e, cAddV_c (by decide) (by decide) (by decide) (by decide) (by decide) (by decide), cAddV_c (by decide) (by decide) (by decide) (by decide) (by decide) (by decide)]
      · intro j; rw [up_c (by decide), mA_77, e, cAddV_c (by decide) (by decide) (by decide) (by decide) (by decide) (by decide)]
      · intro j; rw [up_c (by decide), mA_75, e, cAddV_c (by decide) (by decide) (by decide) (by decide) (by decide) (by decide)]
      · intro j q
        refine ⟨?_, ?_, ?_⟩
        · rw [up_p, e, if_neg q, mAddV_c (by decide) (by decide) (by decide) (by decide) (by decide), cAddV_c (by decide) (by decide) (by decide) (by decide) (by decide) (by decide)]
        · rw [up_c (by decide), mAddV_c (by decide) (by decide) (by decide) (by decide) (by decide), cAddV_c (by decide) (by decide) (by decide) (by decide) (by decide) (by decide)]
        · rw [up_c (by decide), mAddV_c (by decide) (by decide) (by decide) (by decide) (by decide), cAddV_c (by decide) (by decide) (by decide) (by decide) (by decide) (by decide)]
      · have k7 := a.1
        unfold kFarm at k7
        refine ⟨fun z => ?_, fun z1 z2 => by omega, fun z => by omega⟩
        rw [up_p, e, if_pos rfl]
theorem jx_3 {V V1 V2 : vS} {x y r1 r2 : Int} (J : JRing V) (c : R147 V x y r1 V1) (m : R209 V1 x y r2 V2) : JRing V2 ∧ r1 = r2 := by
  have J0 := J
  obtain ⟨j1, j2, j3, j4, j5⟩ := J0
  rcases c with ⟨a, rfl, rfl⟩ | ⟨a, a0, rfl, rfl⟩ | ⟨a, a0, ⟨a1, -, -⟩ | ⟨a1, a2, rfl, rfl⟩⟩
  · rcases m with ⟨b, rfl, rfl⟩ | ⟨b, -⟩ | ⟨b, -⟩
    · exact ⟨J, rfl⟩
    · exact absurd b a
    · exact absurd b a
  · rcases m with ⟨b, rfl, rfl⟩ | ⟨b, b1, rfl, rfl⟩ | ⟨b, b1, b2, -⟩
    · exact absurd a b
    · exact ⟨J, rfl⟩
    · omega
  · omega
  · have e : ∀ (c : Nat) (j : Int), c ≠ 13 → c ≠ 14 → c ≠ 15 → up (up (up V 14 (V 13 2) x) 15 (V 13 2) y) 13 2 (w32 (V 13 2 + 1)) c j = V c j := by
      intro c j h1 h2 h3
      rw [up_c h1, up_c h3, up_c h2]
    have e2 := e 72 11 (by decide) (by decide) (by decide)
    rcases m with ⟨b, rfl, rfl⟩ | ⟨b, b1, rfl, rfl⟩ | ⟨b, b1, b2, rfl, rfl⟩
    · exact absurd a b
    · omega
    · have w1 : w32 (V 13 2 + 1) = V 13 2 + 1 := w32_id (by omega) (by omega)
      rw [e2, ← j1]
      refine ⟨⟨?_, fun j => ?_, fun j => ?_, ?_, ?_⟩, rfl⟩
      · rw [up_s, up_c (by decide), up_c (by decide), up_c (by decide), up_s]
      · rw [up_c (by decide), up_c (by decide), up_c (by decide), up_c (by decide), up_c (by decide), up_p, up_c (by decide), up_c (by decide), up_p, e 81 j (by decide) (by decide) (by decide), j2]
      · rw [up_c (by decide), up_c (by decide), up_c (by decide), up_c (by decide), up_p, up_c (by decide), up_c (by decide), up_p, up_c (by decide), e 82 j (by decide) (by decide) (by decide), j3]
      · rw [up_c (by decide), up_c (by decide), up_c (by decide), up_s]; omega
      · rw [up_c (by decide), up_c (by decide), up_c (by decide), up_s]; omega
theorem jx_4 {V V1 V2 : vS} {r1 r2 : Int} (J : JRing V) (c : r1 = V 13 2 ∧ V1 = up V 13 2 0) (m : r2 = V1 72 11 ∧ V2 = up V1 72 11 0) : JRing V2 ∧ r1 = r2 := by
  obtain ⟨j1, j2, j3, j4, j5⟩ := J
  obtain ⟨rfl, rfl⟩ := c
  obtain ⟨rfl, rfl⟩ := m
  refine ⟨⟨?_, fun j => ?_, fun j => ?_, ?_, ?_⟩, ?_⟩
  · rw [up_c (by decide), up_s, up_s]
  · rw [up_c (by decide), up_c (by decide), up_c (by decide), up_c (by decide), j2]
  · rw [up_c (by decide), up_c (by decide), up_c (by decide), up_c (by decide), j3]
  · rw [up_c (by decide), up_s]; decide
  · rw [up_c (by decide), up_s]; decide
  · rw [up_c (by decide), j1]
theorem jx_6w {V W : vS} {kd f : Int} (J : JRing V) (K : JBody V) (hd : V 1 0 = V 72 1) (a2 : V 1 1 < 150) (hf : -1 ≤ f) (hkd : 4 ≤ kd ∧ kd ≤ 5) (e : ∀ (c : Nat) (j : Int), c ≠ 1 → c ≠ 2 → c ≠ 3 → c ≠ 4 → c ≠ 5 → c ≠ 7 → c ≠ 8 → c ≠ 13 → W c j = V c j) (w13 : W 13 2 = 0) (wc : ∀ (c : Nat) (j : Int), c ≠ 8 → c ≠ 13 → W c j = cAddV V kd (cArea V) f c j) : JRing (up (outm (up (up (mAddV W kd) 75 (W 72 2) f) 78 (W 72 2) (cArea V)) (W 72 2) 24) 72 11 0) ∧ JBody (up (outm (up (up (mAddV W kd) 75 (W 72 2) f) 78 (W 72 2) (cArea V)) (W 72 2) 24) 72 11 0) := by
  have J0 := J
  obtain ⟨j1, j2, j3, j4, j5⟩ := J0
  have en : W 72 2 = V 72 2 := e 72 2 (by decide) (by decide) (by decide) (by decide) (by decide) (by decide) (by decide) (by decide)
  have e81 : ∀ j, W 81 j = V 81 j := fun j => e 81 j (by decide) (by decide) (by decide) (by decide) (by decide) (by decide) (by decide) (by decide)
  have e82 : ∀ j, W 82 j = V 82 j := fun j => e 82 j (by decide) (by decide) (by decide) (by decide) (by decide) (by decide) (by decide) (by decide)
  have q : ∀ (c : Nat) (j : Int), c ≠ 72 → c ≠ 73 → c ≠ 75 → c ≠ 76 → c ≠ 77 → c ≠ 78 → c ≠ 80 → up (outm (up (up (mAddV W kd) 75 (W 72 2) f) 78 (W 72 2) (cArea V)) (W 72 2) 24) 72 11 0 c j = W c j := by
    intro c j h1 h2 h3 h4 h5 h6 h7
    rw [up_c h1, outm_c h7, up_c h6, up_c h3, mAddV_c h1 h2 h3 h4 h5]
  refine ⟨⟨?_, fun j => ?_, fun j => ?_, ?_, ?_⟩, jb_gen (k := kd) (m := cArea V) (t := f) K hd a2 hf ?_ ?_ ?_ ?_ ?_ ?_ ?_ ?_ ?_ ?_ ?_ ?_ ?_⟩
  · rw [q 13 2 (by decide) (by decide) (by decide) (by decide) (by decide) (by decide) (by decide), w13, up_s]
  · rw [q 14 j (by decide) (by decide) (by decide) (by decide) (by decide) (by decide) (by decide), q 81 j (by decide) (by decide) (by decide) (by decide) (by decide) (by decide) (by decide), e81, ← j2, wc 14 j (by decide) (by decide), cAddV_c (by decide) (by decide) (by decide) (by decide) (by decide) (by decide)]
  · rw [q 15 j (by decide) (by decide) (by decide) (by decide) (by decide) (by decide) (by decide), q 82 j (by decide) (by decide) (by decide) (by decide) (by decide) (by decide) (by decide), e82, ← j3, wc 15 j (by decide) (by decide), cAddV_c (by decide) (by decide) (by decide) (by decide) (by decide) (by decide)]
  · rw [q 13 2 (by decide) (by decide) (by decide) (by decide) (by decide) (by decide) (by decide), w13]; decide
  · rw [q 13 2 (by decide) (by decide) (by decide) (by decide) (by decide) (by decide) (by decide), w13]; decide
  · rw [q 1 1 (by decide) (by decide) (by decide) (by decide) (by decide) (by decide) (by decide), wc 1 1 (by decide) (by decide), cA_n]
  · intro j; rw [q 2 j (by decide) (by decide) (by decide) (by decide) (by decide) (by decide) (by decide), wc 2 j (by decide) (by decide), cA_2]
  · intro j; rw [q 3 j (by decide) (by decide) (by decide) (by decide) (by decide) (by decide) (by decide), wc 3 j (by decide) (by decide), cA_3]
  · intro j; rw [q 4 j (by decide) (by decide) (by decide) (by decide) (by decide) (by decide) (by decide), wc 4 j (by decide) (by decide), cA_4]
  · intro j; rw [q 5 j (by decide) (by decide) (by decide) (by decide) (by decide) (by decide) (by decide), wc 5 j (by decide) (by decide), cA_5]
  · intro j; rw [q 7 j (by decide) (by decide) (by decide) (by decide) (by decide) (by decide) (by decide), wc 7 j (by decide) (by decide), cA_7]
  · rw [up_j (by decide), outm_c (by decide), up_c (by decide), up_c (by decide), mA_n, en]
  · intro j; rw [up_c (by decide), outm_c (by decide), up_c (by decide), up_c (by decide), mA_73, en, wc 73 j (by decide) (by decide), cAddV_c (by decide) (by decide) (by decide) (by decide) (by decide) (by decide)]
  · intro j; rw [up_c (by decide), outm_c (by decide), up_c (by decide), up_c (by decide), mA_76, en, wc 76 j (by decide) (by decide), wc 72 1 (by decide) (by decide), cAddV_c (by decide) (by decide) (by decide) (by decide) (by decide) (by decide), cAddV_c (by decide) (by decide) (by decide) (by decide) (by decide) (by decide)]
  · intro j; rw [up_c (by decide), outm_c (by decide), up_c (by decide), up_c (by decide), mA_77, en, wc 77 j (by decide) (by decide), cAddV_c (by decide) (by decide) (by decide) (by decide) (by decide) (by decide)]
  · intro j; rw [up_c (by decide), outm_c (by decide), up_c (by decide), up_p, en]
    by_cases z : j = V 72 2
    · rw [if_pos z, if_pos z]
    · rw [if_neg z, if_neg z, mA_75, en, if_neg z, wc 75 j (by decide) (by decide), cAddV_c (by decide) (by decide) (by decide) (by decide) (by decide) (by decide)]
  · intro j z
    refine ⟨?_, ?_, ?_⟩
    · rw [q 74 j (by decide) (by decide) (by decide) (by decide) (by decide) (by decide) (by decide), wc 74 j (by decide) (by decide), cAddV_c (by decide) (by decide) (by decide) (by decide) (by decide) (by decide)]
    · rw [up_c (by decide), outm_c (by decide), up_p, en, if_neg z, up_c (by decide), mAddV_c (by decide) (by decide) (by decide) (by decide) (by decide), wc 78 j (by decide) (by decide), cAddV_c (by decide) (by decide) (by decide) (by decide) (by decide) (by decide)]
    · rw [q 79 j (by decide) (by decide) (by decide) (by decide) (by decide) (by decide) (by decide), wc 79 j (by decide) (by decide), cAddV_c (by decide) (by decide) (by decide) (by decide) (by decide) (by decide)]
  · refine ⟨fun z => ?_, fun z1 z2 => ?_, fun z => by omega⟩
    · unfold kFarm at z; omega
    · rw [up_c (by decide), outm_c (by decide), up_p, en, if_pos rfl]
def R222k (kd : Int) (V : vS) (f m r : Int) (V' : vS) : Prop := (¬ (mFarm V f ∧ 0 ≤ m ∧ m ≤ 1) ∧ r = -1 ∧ V' = V) ∨ ((mFarm V f ∧ 0 ≤ m ∧ m ≤ 1) ∧ ((¬ mSound V ∧ r = -2 ∧ V' = V) ∨ (mSound V ∧ V 72 2 = 150 ∧ r = -3 ∧ V' = V) ∨ (mSound V ∧ V 72 2 ≠ 150 ∧ ∃ V1, RAddM V kd r V1 ∧ V' = up (outm (up (up V1 75 r f) 78 r (mArea V)) r 24) 72 11 0)))
theorem mSound_c {V W : vS} (er : W 72 11 = V 72 11) (e1 : ∀ j, W 81 j = V 81 j) (e2 : ∀ j, W 82 j = V 82 j) : mSound W ↔ mSound V := by
  unfold mSound mWay mMeet mlx mhx mly mhy
  simp only [er, e1, e2, mNxt_c er]
theorem jx_6c {V W V2 : vS} {kd f w r2 : Int} (J : JRing V) (K : JBody V) (hd : V 1 0 = V 72 1) (a : cFarm V f ∧ 0 ≤ w ∧ w ≤ 1) (a0 : cSound V) (a2 : V 1 1 < 150) (hkd : 4 ≤ kd ∧ kd ≤ 5) (e : ∀ (c : Nat) (j : Int), c ≠ 1 → c ≠ 2 → c ≠ 3 → c ≠ 4 → c ≠ 5 → c ≠ 7 → c ≠ 8 → c ≠ 13 → W c j = V c j) (w13 : W 13 2 = 0) (wc : ∀ (c : Nat) (j : Int), c ≠ 8 → c ≠ 13 → W c j = cAddV V kd (cArea V) f c j) (m : R222k kd W f w r2 V2) : (JRing V2 ∧ JBody V2) ∧ V 1 1 = r2 := by
  have k1 := K.1
  have k7 := K.2.2.2.2.2.2.1
  have en : W 72 2 = V 72 2 := e 72 2 (by decide) (by decide) (by decide) (by decide) (by decide) (by decide) (by decide) (by decide)
  have er : W 72 11 = V 72 11 := e 72 11 (by decide) (by decide) (by decide) (by decide) (by decide) (by decide) (by decide) (by decide)
  have e81 : ∀ j, W 81 j = V 81 j := fun j => e 81 j (by decide) (by decide) (by decide) (by decide) (by decide) (by decide) (by decide) (by decide)
  have e82 : ∀ j, W 82 j = V 82 j := fun j => e 82 j (by decide) (by decide) (by decide) (by decide) (by decide) (by decide) (by decide) (by decide)
  have mf : mFarm W f ↔ mFarm V f := by
    unfold mFarm mBody
    rw [en, e 73 f (by decide) (by decide) (by decide) (by decide) (by decide) (by decide) (by decide) (by decide)]
  have ma : mArea W = cArea V := by
    rw [area_j J]
    exact mArea_c er e81 e82
  rcases m with ⟨b, rfl, rfl⟩ | ⟨b, ⟨b0, rfl, rfl⟩ | ⟨b0, b1, rfl, rfl⟩ | ⟨b0, b1, V3, ⟨c1, c2, rfl, rfl⟩, rfl⟩⟩
  · exact absurd ⟨mf.mpr ((farm_j K f).mp a.1), a.2⟩ b
  · exact absurd ((mSound_c er e81 e82).mpr ((sound_j J).mp a0)) b0
  · rw [en] at b1
    omega
  · rw [ma]
    exact ⟨jx_6w J K hd a2 (by have := a.1.1.1; omega) hkd e w13 wc, by omega⟩
theorem jx_6 {V V1 V2 : vS} {f w r1 r2 : Int} (J : JRing V) (K : JBody V) (hd : V 1 0 = V 72 1) (c : R150 V f w r1 V1) (m : R222 V1 f w r2 V2) : (JRing V2 ∧ JBody V2) ∧ r1 = r2 := by
  have k1 := K.1
  have k7 := K.2.2.2.2.2.2.1
  rcases c with ⟨a, rfl, rfl⟩ | ⟨a, ⟨a0, rfl, rfl⟩ | ⟨a0, a1, rfl, rfl⟩ | ⟨a0, a1, a2, rfl, hV⟩⟩
  · rcases m with ⟨b, rfl, rfl⟩ | ⟨b, -⟩
    · exact ⟨⟨J, K⟩, rfl⟩
    · exact absurd ⟨(farm_j K f).mpr b.1, b.2⟩ a
  · rcases m with ⟨b, rfl, rfl⟩ | ⟨b, ⟨b0, rfl, rfl⟩ | ⟨b0, -⟩ | ⟨b0, -⟩⟩
    · exact absurd ⟨(farm_j K f).mp a.1, a.2⟩ b
    · exact ⟨⟨J, K⟩, rfl⟩
    · exact absurd ((sound_j J).mpr b0) a0
    · exact absurd ((sound_j J).mpr b0) a0
  · rcases m with ⟨b, rfl, rfl⟩ | ⟨b, ⟨b0, rfl, rfl⟩ | ⟨b0, b1, rfl, rfl⟩ | ⟨b0, b1, V3, ⟨c1, c2, -, -⟩, -⟩⟩
    · exact absurd ⟨(farm_j K f).mp a.1, a.2⟩ b
    · exact absurd ((sound_j J).mp a0) b0
    · exact ⟨⟨J, K⟩, rfl⟩
    · omega
  · have mk : R222k (if w = 1 then 5 else 4) V1 f w r2 V2 := m
    clear m
    generalize hk : (if w = 1 then (5 : Int) else 4) = kd at mk hV
    have hkd : 4 ≤ kd ∧ kd ≤ 5 := by
      rw [← hk]
      split <;> omega
    refine jx_6c J K hd a a0 a2 hkd (fun c j h1 h2 h3 h4 h5 h7 h8 h13 => ?_) (by rw [hV, up_s]) (fun c j h1 h2 => by rw [hV, up_c h2, outl_c h1]) mk
    rw [hV, up_c h13, outl_c h8, cAddV_c h1 h2 h3 h4 h5 h7]
theorem jx_7 {V V1 V2 : vS} {v r1 r2 : Int} (J : JBody V) (hd : V 1 0 = V 72 1) (c : R151 V v r1 V1) (m : R208 V1 v r2 V2) : JBody V2 ∧ r1 = r2 := by
  have j1 := J.1
  have j7 := J.2.2.2.2.2.2.1
  rcases c with ⟨a, rfl, rfl⟩ | ⟨a, ⟨a0, rfl, rfl⟩ | ⟨a1, a2, rfl, a3⟩⟩
  · rcases m with ⟨b, rfl, rfl⟩ | ⟨b, -⟩ | ⟨b, -⟩
    · exact ⟨J, rfl⟩
    · exact absurd b a
    · exact absurd b a
  · rcases m with ⟨b, rfl, rfl⟩ | ⟨b, c1, rfl, rfl⟩ | ⟨b, c1, V3, c2, -⟩
    · exact absurd a b
    · exact ⟨J, rfl⟩
    · obtain ⟨d1, d2, -, -⟩ := c2
      omega
  · have f : ∀ (c : Nat) (j : Int), c ≠ 6 → c ≠ 1 → V1 c j = cAddV V 6 v (-1) c j := fun c j h1 h2 => a3 c j h1 (fun z => h2 z.1)
    have e : V1 72 2 = V 72 2 := by rw [f 72 2 (by decide) (by decide)]; exact cAddV_c (by decide) (by decide) (by decide) (by decide) (by decide) (by decide)
    rcases m with ⟨b, rfl, rfl⟩ | ⟨b, c1, rfl, rfl⟩ | ⟨b, c1, V3, ⟨d1, d2, rfl, rfl⟩, rfl⟩
    · exact absurd a b
    · omega
    · refine ⟨jb_gen (k := 6) (m := v) (t := -1) J hd a2 (by decide) ?_ ?_ ?_ ?_ ?_ ?_ ?_ ?_ ?_ ?_ ?_ ?_ ?_, by omega⟩
      · rw [up_c (by decide), mAddV_c (by decide) (by decide) (by decide) (by decide) (by decide), a3 1 1 (by decide) (by decide), cA_n]
      · intro j; rw [up_c (by decide), mAddV_c (by decide) (by decide) (by decide) (by decide) (by decide), f 2 j (by decide) (by decide), cA_2]
      · intro j; rw [up_c (by decide), mAddV_c (by decide) (by decide) (by decide) (by decide) (by decide), f 3 j (by decide) (by decide), cA_3]
      · intro j; rw [up_c (by decide), mAddV_c (by decide) (by decide) (by decide) (by decide) (by decide), f 4 j (by decide) (by decide), cA_4]
      · intro j; rw [up_c (by decide), mAddV_c (by decide) (by decide) (by decide) (by decide) (by decide), f 5 j (by decide) (by decide), cA_5]
      · intro j; rw [up_c (by decide), mAddV_c (by decide) (by decide) (by decide) (by decide) (by decide), f 7 j (by decide) (by decide), cA_7]
      · rw [up_c (by decide), mA_n, e]
      · intro j; rw [up_c (by decide), mA_73, e, f 73 j (by decide) (by decide), cAddV_c (by decide) (by decide) (by decide) (by decide) (by decide) (by decide)]
      · intro j; rw [up_c (by decide), mA_76, e, f 76 j (by decide) (by decide), f 72 1 (by decide) (by decide), cAddV_c (by decide) (by decide) (by decide) (by decide) (by decide) (by decide), cAddV_c (by decide) (by decide) (by decide) (by decide) (by decide) (by decide)]
      · intro j; rw [up_c (by decide), mA_77, e, f 77 j (by decide) (by decide), cAddV_c (by decide) (by decide) (by decide) (by decide) (by decide) (by decide)]
      · intro j; rw [up_c (by decide), mA_75, e, f 75 j (by decide) (by decide), cAddV_c (by decide) (by decide) (by decide) (by decide) (by decide) (by decide)]
      · intro j q
        refine ⟨?_, ?_, ?_⟩
        · rw [up_c (by decide), mAddV_c (by decide) (by decide) (by decide) (by decide) (by decide), f 74 j (by decide) (by decide), cAddV_c (by decide) (by decide) (by decide) (by decide) (by decide) (by decide)]
        · rw [up_c (by decide), mAddV_c (by decide) (by decide) (by decide) (by decide) (by decide), f 78 j (by decide) (by decide), cAddV_c (by decide) (by decide) (by decide) (by decide) (by decide) (by decide)]
        · rw [up_p, e, if_neg q, mAddV_c (by decide) (by decide) (by decide) (by decide) (by decide), f 79 j (by decide) (by decide), cAddV_c (by decide) (by decide) (by decide) (by decide) (by decide) (by decide)]
      · refine ⟨fun z => ?_, fun z1 z2 => by omega, fun z => ?_⟩
        · unfold kFarm at z; omega
        · rw [up_p, e, if_pos rfl]
end
section
-- ===== frames of numbers; calls with what a run comes to =====
def fra (W : List (Nat × Nat)) (c : Nat) : Bool := match cRT[c]? with
  | some t => !(Nat.beq t.1 0) && Nat.blt c 146 && !(cWn W c 0)
  | none => false
def frf (W : List (Nat × Nat)) (c i : Nat) : Bool := match cRT[c]? with
  | some t => Nat.beq t.1 0 && Nat.blt c 146 && !(cWn W c i)
  | none => false
theorem vw_fa {W : List (Nat × Nat)} {σ σ1 : List Nat} {h h1 : aH} (H : dH σ h) (G : dG W σ h σ1 h1) {c : Nat} (k : fra W c = true) (j : Int) : vw h1 c j = vw h c j := by
  unfold fra at k
  split at k
  · rename_i t e
    simp only [Bool.and_eq_true, Bool.not_eq_true', Nat.blt_eq] at k
    obtain ⟨⟨k1, k2⟩, k3⟩ := k
    exact vw_dG H G k2 e j ⟨fun z => (by rw [z] at k1; cases k1), fun _ => k3⟩
  · cases k
theorem vw_ff {W : List (Nat × Nat)} {σ σ1 : List Nat} {h h1 : aH} (H : dH σ h) (G : dG W σ h σ1 h1) {c i : Nat} (k : frf W c i = true) : vw h1 c (i : Nat) = vw h c (i : Nat) := by
  unfold frf at k
  split at k
  · rename_i t e
    simp only [Bool.and_eq_true, Bool.not_eq_true', Nat.blt_eq] at k
    obtain ⟨⟨k1, k2⟩, k3⟩ := k
    exact vw_dG H G k2 e (i : Nat) ⟨fun _ => by rw [Int.toNat_natCast]; exact k3, fun z => absurd (Nat.eq_of_beq_eq_true k1) z⟩
  · cases k
def ag : List (Nat × Option Nat) → vS → vS → Prop
  | [], _, _ => True
  | (c, none) :: r, V, V' => (∀ j, V' c j = V c j) ∧ ag r V V'
  | (c, some i) :: r, V, V' => V' c (i : Nat) = V c (i : Nat) ∧ ag r V V'
def frL (W : List (Nat × Nat)) : List (Nat × Option Nat) → Bool
  | [] => true
  | (c, none) :: r => fra W c && frL W r
  | (c, some i) :: r => frf W c i && frL W r
theorem ag_dG {W : List (Nat × Nat)} {σ σ1 : List Nat} {h h1 : aH} (H : dH σ h) (G : dG W σ h σ1 h1) : ∀ (L : List (Nat × Option Nat)), frL W L = true → ag L (vw h) (vw h1)
  | [], _ => trivial
  | (c, none) :: r, k => by
    unfold frL at k
    rw [Bool.and_eq_true] at k
    exact ⟨fun j => vw_fa H G k.1 j, ag_dG H G r k.2⟩
  | (c, some i) :: r, k => by
    unfold frL at k
    rw [Bool.and_eq_true] at k
    exact ⟨vw_ff H G k.1, ag_dG H G r k.2⟩
def LRing : List (Nat × Option Nat) := [(13, some 2), (72, some 11), (14, none), (81, none), (15, none), (82, none)]
def LBody : List (Nat × Option Nat) := [(1, some 1), (72, some 2), (2, none), (73, none), (4, none), (76, none), (5, none), (77, none), (7, none), (75, none), (3, none), (74, none), (78, none), (79, none)]
theorem JRing_ag {V V' : vS} (J : JRing V) (A : ag LRing V V') : JRing V' := by
  obtain ⟨a1, a2, a3, a4, a5, a6, -⟩ := A
  have a1 : V' 13 2 = V 13 2 := a1
  have a2 : V' 72 11 = V 72 11 := a2
  unfold JRing
  simp only [a1, a2, a3, a4, a5, a6]
  exact J
theorem JBody_ag {V V' : vS} (J : JBody V) (A : ag LBody V V') : JBody V' := by
  obtain ⟨a1, a2, a3, a4, a5, a6, a7, a8, a9, a10, a11, a12, a13, a14, -⟩ := A
  have a1 : V' 1 1 = V 1 1 := a1
  have a2 : V' 72 2 = V 72 2 := a2
  unfold JBody JMeas
  simp only [a1, a2, a3, a4, a5, a6, a7, a8, a9, a10, a11, a12, a13, a14]
  exact J
theorem JRing_dG {W : List (Nat × Nat)} {σ σ1 : List Nat} {h h1 : aH} (J : JRing (vw h)) (I : dI σ h) (G : dG W σ h σ1 h1) (k : frL W LRing = true) : JRing (vw h1) := JRing_ag J (ag_dG I.1 G _ k)
theorem JBody_dG {W : List (Nat × Nat)} {σ σ1 : List Nat} {h h1 : aH} (J : JBody (vw h)) (I : dI σ h) (G : dG W σ h σ1 h1) (k : frL W LBody = true) : JBody (vw h1) := JBody_ag J (ag_dG I.1 G _ k)
theorem JP_day {h : aH} (J : JP h) : vw h 1 0 = vw h 72 1 := by
  obtain ⟨fs, f2, t, n, p, c1, a1, -, -, -, c2, a5⟩ := J
  exact (vw_o c1 a1).trans (vw_o c2 a5).symm
theorem vz {c n : Nat} (e : zH0.1[c]? = some (.inl (0, n, .inl (fun _ => 0)))) (j : Int) : vw zH0 c j = 0 := by
  unfold vw
  split
  · rfl
  · rw [e]; rfl
theorem vzf {c ci i : Nat} {fs : List Value} {x : Int32} (e : zH0.1[c]? = some (.inr (ci, fs))) (ef : fs[i]? = some (.int x)) : vw zH0 c (i : Nat) = x.toInt := vw_o e ef
theorem zJRing0 : JRing (vw zH0) := by
  have e1 : vw zH0 13 2 = 0 := vzf (i := 2) (x := 0) zh13 rfl
  have e2 : vw zH0 72 11 = 0 := vzf (i := 11) (x := 0) zh72 rfl
  refine ⟨by rw [e1, e2], fun j => by rw [vz zh14, vz zh81], fun j => by rw [vz zh15, vz zh82], by rw [e1]; decide, by rw [e1]; decide⟩
theorem zJBody0 : JBody (vw zH0) := by
  have e1 : vw zH0 1 1 = 0 := vzf (i := 1) (x := 0) zh1 rfl
  have e2 : vw zH0 72 2 = 0 := vzf (i := 2) (x := 0) zh72 rfl
  refine ⟨by rw [e1, e2], fun j => by rw [vz zh2, vz zh73], fun j => by rw [vz zh4, vz zh76], fun j => by rw [vz zh5, vz zh77], fun j => by rw [vz zh7, vz zh75], by rw [e1]; decide, by rw [e1]; decide, fun j => by rw [vz zh5, vz zh7]; decide, fun j h0 h1 => by rw [e1] at h1; omega⟩
section WQ
variable {X : aX} {D : Nat} {M : aM} {Q : Option Value → aH → Prop} {pc pc' : Nat} {l l' : aL} {st r : List Value} {h : aH}
theorem wp_goodQ {C : cC} {Y : aM} (G : dGood X C) (hY : zmt[C.1]? = some Y) {σ : List Nat} (I : dI σ h) {ρ : List Int} {l1 : aL} (K : dK σ h ρ [] C.2.2.2.1.2.2) (L : dL ρ [] C.2.2.2.1.1 l1) {Q' : Option Value → aH → Prop} (P : ∀ n, Pt n X Y 0 l1 [] h Q')
    (hs : ∀ (n d : Nat) (v : Option Value) (h1 : aH), arun X n d Y 0 l1 [] h = some (v, h1) → arun X (n + 1) (d + 1) M pc l st h = arun X n (d + 1) M pc' l' (v.toList ++ r) h1) (hd : C.2.1 + 1 ≤ D)
    (k : ∀ (v : Option Value) (h1 : aH) (σ1 : List Nat), dI σ1 h1 → dG C.2.2.1 σ h σ1 h1 → (∃ P, P ∈ C.2.2.2.2.1 ∧ dPost P σ1 h1 v) → Q' v h1 → Wp X D M Q pc' l' (v.toList ++ r) h1) : Wp X D M Q pc l st h := by
  obtain ⟨N, v, h1, σ1, e1, e2, e3, e4⟩ := G Y hY l1 h σ ρ [] I K L
  exact wp_call (fun n d e => hs n d v h1 e) hd e1 (k v h1 σ1 e2 e3 e4 (P (0 + N) (0 + N) (Nat.le_refl _) (0 + C.2.1) v h1 (e1 0 0)))
end WQ
end
section
theorem tr_16_0 : tkR 16 0 1 = true := by decide +kernel
theorem tr_0_2 : tkR 0 2 16 = true := by decide +kernel
theorem gx154_0 : aF 0 zM154.2.2.2.2.2.2.2 = some (0, (.aload_n 0), 1, 0, 0) := by decide +kernel
theorem gx154_1 : aF 1 zM154.2.2.2.2.2.2.2 = some (1, (.getfield 12), 3, 11, 0) := by decide +kernel
theorem gx154_4 : aF 4 zM154.2.2.2.2.2.2.2 = some (4, (.iload_n 1), 1, 0, 0) := by decide +kernel
theorem gx154_5 : aF 5 zM154.2.2.2.2.2.2.2 = some (5, (.invokevirtual 136), 3, 77, 0) := by decide +kernel
theorem gx154_8 : aF 8 zM154.2.2.2.2.2.2.2 = some (8, (.ifCond .ne 5), 3, 13, 0) := by decide +kernel
theorem gx154_13 : aF 13 zM154.2.2.2.2.2.2.2 = some (13, (.aload_n 0), 1, 0, 0) := by decide +kernel
theorem gx154_14 : aF 14 zM154.2.2.2.2.2.2.2 = some (14, (.getfield 12), 3, 11, 0) := by decide +kernel
theorem gx154_17 : aF 17 zM154.2.2.2.2.2.2.2 = some (17, (.getfield 149), 3, 6, 10) := by decide +kernel
theorem gx154_20 : aF 20 zM154.2.2.2.2.2.2.2 = some (20, (.iload_n 1), 1, 0, 0) := by decide +kernel
theorem gx154_21 : aF 21 zM154.2.2.2.2.2.2.2 = some (21, .iaload, 1, 0, 0) := by decide +kernel
theorem gx154_22 : aF 22 zM154.2.2.2.2.2.2.2 = some (22, (.iconst (-1)), 1, 0, 0) := by decide +kernel
theorem gx154_23 : aF 23 zM154.2.2.2.2.2.2.2 = some (23, (.if_icmp .eq 6), 3, 29, 0) := by decide +kernel
theorem gx154_29 : aF 29 zM154.2.2.2.2.2.2.2 = some (29, (.aload_n 0), 1, 0, 0) := by decide +kernel
theorem gx154_30 : aF 30 zM154.2.2.2.2.2.2.2 = some (30, (.getfield 12), 3, 11, 0) := by decide +kernel
theorem gx154_33 : aF 33 zM154.2.2.2.2.2.2.2 = some (33, (.getfield 149), 3, 6, 10) := by decide +kernel
theorem gx154_36 : aF 36 zM154.2.2.2.2.2.2.2 = some (36, (.iload_n 1), 1, 0, 0) := by decide +kernel
theorem gx154_37 : aF 37 zM154.2.2.2.2.2.2.2 = some (37, (.aload_n 0), 1, 0, 0) := by decide +kernel
theorem gx154_38 : aF 38 zM154.2.2.2.2.2.2.2 = some (38, (.getfield 12), 3, 11, 0) := by decide +kernel
theorem gx154_41 : aF 41 zM154.2.2.2.2.2.2.2 = some (41, (.getfield 93), 3, 6, 0) := by decide +kernel
theorem gx154_44 : aF 44 zM154.2.2.2.2.2.2.2 = some (44, .iastore, 1, 0, 0) := by decide +kernel
theorem gx154_45 : aF 45 zM154.2.2.2.2.2.2.2 = some (45, (.aload_n 0), 1, 0, 0) := by decide +kernel
theorem gx154_46 : aF 46 zM154.2.2.2.2.2.2.2 = some (46, (.getfield 12), 3, 11, 0) := by decide +kernel
theorem gx154_49 : aF 49 zM154.2.2.2.2.2.2.2 = some (49, .dup, 1, 0, 0) := by decide +kernel
theorem gx154_50 : aF 50 zM154.2.2.2.2.2.2.2 = some (50, (.getfield 158), 3, 6, 5) := by decide +kernel
theorem gx154_53 : aF 53 zM154.2.2.2.2.2.2.2 = some (53, (.iconst 1), 1, 0, 0) := by decide +kernel
theorem gx154_54 : aF 54 zM154.2.2.2.2.2.2.2 = some (54, .iadd, 1, 0, 0) := by decide +kernel
theorem gx154_55 : aF 55 zM154.2.2.2.2.2.2.2 = some (55, (.putfield 158), 3, 6, 5) := by decide +kernel
theorem gx154_58 : aF 58 zM154.2.2.2.2.2.2.2 = some (58, (.iconst 1), 1, 0, 0) := by decide +kernel
theorem gx154_59 : aF 59 zM154.2.2.2.2.2.2.2 = some (59, .ireturn, 1, 0, 0) := by decide +kernel
theorem gx154_26 : aF 26 zM154.2.2.2.2.2.2.2 = some (26, (.bipush (-2)), 2, 0, 0) := by decide +kernel
theorem gx154_28 : aF 28 zM154.2.2.2.2.2.2.2 = some (28, .ireturn, 1, 0, 0) := by decide +kernel
theorem gx154_11 : aF 11 zM154.2.2.2.2.2.2.2 = some (11, (.iconst (-1)), 1, 0, 0) := by decide +kernel
theorem gx154_12 : aF 12 zM154.2.2.2.2.2.2.2 = some (12, .ireturn, 1, 0, 0) := by decide +kernel
theorem gx224_0 : aF 0 zM224.2.2.2.2.2.2.2 = some (0, (.aload_n 0), 1, 0, 0) := by decide +kernel
theorem gx224_1 : aF 1 zM224.2.2.2.2.2.2.2 = some (1, (.iload_n 1), 1, 0, 0) := by decide +kernel
theorem gx224_2 : aF 2 zM224.2.2.2.2.2.2.2 = some (2, (.invokevirtual 322), 3, 203, 0) := by decide +kernel
theorem gx224_5 : aF 5 zM224.2.2.2.2.2.2.2 = some (5, (.ifCond .ne 5), 3, 10, 0) := by decide +kernel
theorem gx224_10 : aF 10 zM224.2.2.2.2.2.2.2 = some (10, (.aload_n 0), 1, 0, 0) := by decide +kernel
theorem gx224_11 : aF 11 zM224.2.2.2.2.2.2.2 = some (11, (.getfield 22), 3, 12, 7) := by decide +kernel
theorem gx224_14 : aF 14 zM224.2.2.2.2.2.2.2 = some (14, (.iload_n 1), 1, 0, 0) := by decide +kernel
theorem gx224_15 : aF 15 zM224.2.2.2.2.2.2.2 = some (15, .iaload, 1, 0, 0) := by decide +kernel
theorem gx224_16 : aF 16 zM224.2.2.2.2.2.2.2 = some (16, (.ifCond .lt 6), 3, 22, 0) := by decide +kernel
theorem gx224_22 : aF 22 zM224.2.2.2.2.2.2.2 = some (22, (.aload_n 0), 1, 0, 0) := by decide +kernel
theorem gx224_23 : aF 23 zM224.2.2.2.2.2.2.2 = some (23, (.getfield 22), 3, 12, 7) := by decide +kernel
theorem gx224_26 : aF 26 zM224.2.2.2.2.2.2.2 = some (26, (.iload_n 1), 1, 0, 0) := by decide +kernel
theorem gx224_27 : aF 27 zM224.2.2.2.2.2.2.2 = some (27, (.aload_n 0), 1, 0, 0) := by decide +kernel
theorem gx224_28 : aF 28 zM224.2.2.2.2.2.2.2 = some (28, (.getfield 262), 3, 12, 1) := by decide +kernel
theorem gx224_31 : aF 31 zM224.2.2.2.2.2.2.2 = some (31, .iastore, 1, 0, 0) := by decide +kernel
theorem gx224_32 : aF 32 zM224.2.2.2.2.2.2.2 = some (32, (.aload_n 0), 1, 0, 0) := by decide +kernel
theorem gx224_33 : aF 33 zM224.2.2.2.2.2.2.2 = some (33, (.iconst 1), 1, 0, 0) := by decide +kernel
theorem gx224_34 : aF 34 zM224.2.2.2.2.2.2.2 = some (34, (.putfield 100), 3, 12, 38) := by decide +kernel
theorem gx224_37 : aF 37 zM224.2.2.2.2.2.2.2 = some (37, (.iconst 1), 1, 0, 0) := by decide +kernel
theorem gx224_38 : aF 38 zM224.2.2.2.2.2.2.2 = some (38, .ireturn, 1, 0, 0) := by decide +kernel
theorem gx224_19 : aF 19 zM224.2.2.2.2.2.2.2 = some (19, (.bipush (-2)), 2, 0, 0) := by decide +kernel
theorem gx224_21 : aF 21 zM224.2.2.2.2.2.2.2 = some (21, .ireturn, 1, 0, 0) := by decide +kernel
theorem gx224_8 : aF 8 zM224.2.2.2.2.2.2.2 = some (8, (.iconst (-1)), 1, 0, 0) := by decide +kernel
theorem gx224_9 : aF 9 zM224.2.2.2.2.2.2.2 = some (9, .ireturn, 1, 0, 0) := by decide +kernel
theorem d154_0 {n : Nat} {X : aX} {h : aH} {P : Int → aH → Prop} {x1 : Int32} {a1 : Int} (S : wS h) (z1 : x1.toInt = a1) (H : (((cField (vw h) a1) → (0 ≤ a1 → a1 < 150 → ((vw h 5 a1 = (-1) → ∀ h_18 : aH, wS h_18 → vw h_18 = up (up (vw h) 5 a1 (vw h 1 0)) 1 5 (w32 ((vw h 1 5) + 1)) → P 1 h_18) ∧ (vw h 5 a1 ≠ (-1) → P (-2) h)))) ∧ (¬ (cField (vw h) a1) → P (-1) h))) : Pt (n + 1) X zM154 0 [some (.ref 0), some (.int x1)] [] h (qI P) := by
  refine pt_1 (fun n d => r_aloadn gx154_0 rfl) ?_
  refine pt_d (pt_getR gx154_1 S tr_0_0 ?_)
  refine pt_d (pt_1 (fun n d => r_iloadn gx154_4 rfl) ?_)
  refine pt_d (pt_virt (as := [.int x1]) (r := []) gx154_5 rfl (show zmt[77]? = some zM77 from rfl) rfl rfl rfl rfl (c_77 S z1) (kqP (fun v2 h2 => ?_)))
  show Pt _ _ _ 8 _ [.int v2] _ _
  refine pt_d (pt_ifB_ne gx154_8 h2 (fun e3 => ?_) (fun e3 => ?_))
  · have H := H.1 e3
    refine pt_d (pt_1 (fun n d => r_aloadn gx154_13 rfl) ?_)
    refine pt_d (pt_getR gx154_14 S tr_0_0 ?_)
    refine pt_d (pt_getR gx154_17 S tr_1_10 ?_)
    refine pt_d (pt_1 (fun n d => r_iloadn gx154_20 rfl) ?_)
    refine pt_d (pt_iald (N' := 150) gx154_21 S tl_5 z1 (fun v6 p6 q6 h6 => ?_))
    have H := H p6 q6
    refine pt_d (pt_iconst gx154_22 (fun v7 h7 => ?_))
    refine pt_d (pt_icmp_eq gx154_23 h6 h7 (fun e8 => ?_) (fun e8 => ?_))
    · have H := H.1 e8
      refine pt_d (pt_1 (fun n d => r_aloadn gx154_29 rfl) ?_)
      refine pt_d (pt_getR gx154_30 S tr_0_0 ?_)
      refine pt_d (pt_getR gx154_33 S tr_1_10 ?_)
      refine pt_d (pt_1 (fun n d => r_iloadn gx154_36 rfl) ?_)
      refine pt_d (pt_1 (fun n d => r_aloadn gx154_37 rfl) ?_)
      refine pt_d (pt_getR gx154_38 S tr_0_0 ?_)
      refine pt_d (pt_getI (B := 0) gx154_41 S (fun v12 h12 => ?_))
      refine pt_d (pt_iast (N' := 150) gx154_44 S tl_5 z1 h12 (fun h_13 S13 p13 q13 e13 => ?_))
      refine pt_d (pt_1 (fun n d => r_aloadn gx154_45 rfl) ?_)
      refine pt_d (pt_getR gx154_46 S13 tr_0_0 ?_)
      refine pt_d (pt_1 (fun n d => r_dup gx154_49 rfl) ?_)
      refine pt_d (pt_getI (B := 5) gx154_50 S13 (fun v15 h15 => ?_))
      have h15 : v15.toInt = vw h 1 5 := by rw [h15, e13, up_c (by decide)]
      refine pt_d (pt_iconst gx154_53 (fun v16 h16 => ?_))
      refine pt_d (pt_iadd gx154_54 h15 h16 (fun v17 h17 => ?_))
      refine pt_d (pt_putI (B := 5) gx154_55 S13 h17 (fun h_18 S18 e18 => ?_))
      refine pt_d (pt_iconst gx154_58 (fun v19 h19 => ?_))
      have H := H h_18 S18 (by rw [e18, e13])
      exact pt_d (pt_iret gx154_59 ⟨_, rfl, by rw [h19]; exact H⟩)
    · have H := H.2 e8
      refine pt_d (pt_bipush gx154_26 (fun v20 h20 => ?_))
      exact pt_d (pt_iret gx154_28 ⟨_, rfl, by rw [h20]; exact H⟩)
  · have H := H.2 e3
    refine pt_d (pt_iconst gx154_11 (fun v21 h21 => ?_))
    exact pt_d (pt_iret gx154_12 ⟨_, rfl, by rw [h21]; exact H⟩)
theorem d224_0 {n : Nat} {X : aX} {h : aH} {P : Int → aH → Prop} {x1 : Int32} {a1 : Int} (S : wS h) (z1 : x1.toInt = a1) (H : (((mField (vw h) a1) → (0 ≤ a1 → a1 < 150 → ((vw h 77 a1 < 0 → ∀ h_10 : aH, wS h_10 → vw h_10 = up (up (vw h) 77 a1 (vw h 72 1)) 72 38 1 → P 1 h_10) ∧ (0 ≤ vw h 77 a1 → P (-2) h)))) ∧ (¬ (mField (vw h) a1) → P (-1) h))) : Pt (n + 1) X zM224 0 [some (.ref 72), some (.int x1)] [] h (qI P) := by
  refine pt_1 (fun n d => r_aloadn gx224_0 rfl) ?_
  refine pt_d (pt_1 (fun n d => r_iloadn gx224_1 rfl) ?_)
  refine pt_d (pt_virt (as := [.int x1]) (r := []) gx224_2 rfl (show zmt[203]? = some zM203 from rfl) rfl rfl rfl rfl (c_203 S z1) (kqP (fun v1 h1 => ?_)))
  show Pt _ _ _ 5 _ [.int v1] _ _
  refine pt_d (pt_ifB_ne gx224_5 h1 (fun e2 => ?_) (fun e2 => ?_))
  · have H := H.1 e2
    refine pt_d (pt_1 (fun n d => r_aloadn gx224_10 rfl) ?_)
    refine pt_d (pt_getR gx224_11 S tr_72_7 ?_)
    refine pt_d (pt_1 (fun n d => r_iloadn gx224_14 rfl) ?_)
    refine pt_d (pt_iald (N' := 150) gx224_15 S tl_77 z1 (fun v4 p4 q4 h4 => ?_))
    have H := H p4 q4
    refine pt_d (pt_if_lt gx224_16 h4 (fun e5 => ?_) (fun e5 => ?_))
    · have H := H.1 e5
      refine pt_d (pt_1 (fun n d => r_aloadn gx224_22 rfl) ?_)
      refine pt_d (pt_getR gx224_23 S tr_72_7 ?_)
      refine pt_d (pt_1 (fun n d => r_iloadn gx224_26 rfl) ?_)
      refine pt_d (pt_1 (fun n d => r_aloadn gx224_27 rfl) ?_)
      refine pt_d (pt_getI (B := 1) gx224_28 S (fun v7 h7 => ?_))
      refine pt_d (pt_iast (N' := 150) gx224_31 S tl_77 z1 h7 (fun h_8 S8 p8 q8 e8 => ?_))
      refine pt_d (pt_1 (fun n d => r_aloadn gx224_32 rfl) ?_)
      refine pt_d (pt_iconst gx224_33 (fun v9 h9 => ?_))
      refine pt_d (pt_putI (B := 38) gx224_34 S8 h9 (fun h_10 S10 e10 => ?_))
      refine pt_d (pt_iconst gx224_37 (fun v11 h11 => ?_))
      have H := H h_10 S10 (by rw [e10, e8])
      exact pt_d (pt_iret gx224_38 ⟨_, rfl, by rw [h11]; exact H⟩)
    · have H := H.2 e5
      refine pt_d (pt_bipush gx224_19 (fun v12 h12 => ?_))
      exact pt_d (pt_iret gx224_21 ⟨_, rfl, by rw [h12]; exact H⟩)
  · have H := H.2 e2
    refine pt_d (pt_iconst gx224_8 (fun v13 h13 => ?_))
    exact pt_d (pt_iret gx224_9 ⟨_, rfl, by rw [h13]; exact H⟩)
def R154 (V : vS) (b r : Int) (V' : vS) : Prop := (¬ cField V b ∧ r = -1 ∧ V' = V) ∨ (cField V b ∧ V 5 b ≠ -1 ∧ r = -2 ∧ V' = V) ∨ (cField V b ∧ V 5 b = -1 ∧ r = 1 ∧ V' = up (up V 5 b (V 1 0)) 1 5 (w32 (V 1 5 + 1)))
theorem c_154 {n : Nat} {X : aX} {h : aH} {x1 : Int32} {a1 : Int} (S : wS h) (z1 : x1.toInt = a1) : Pt n X zM154 0 [some (.ref 0), some (.int x1)] [] h (qI (fun y h' => R154 (vw h) a1 y (vw h'))) := by
  refine pt_d (d154_0 S z1 ⟨fun e p q => ⟨fun e2 g S2 eg => Or.inr (Or.inr ⟨e, e2, rfl, eg⟩), fun e2 => Or.inr (Or.inl ⟨e, e2, rfl, rfl⟩)⟩, fun e => Or.inl ⟨e, rfl, rfl⟩⟩)
def R224 (V : vS) (b r : Int) (V' : vS) : Prop := (¬ mField V b ∧ r = -1 ∧ V' = V) ∨ (mField V b ∧ 0 ≤ V 77 b ∧ r = -2 ∧ V' = V) ∨ (mField V b ∧ V 77 b < 0 ∧ r = 1 ∧ V' = up (up V 77 b (V 72 1)) 72 38 1)
theorem c_224 {n : Nat} {X : aX} {h : aH} {x1 : Int32} {a1 : Int} (S : wS h) (z1 : x1.toInt = a1) : Pt n X zM224 0 [some (.ref 72), some (.int x1)] [] h (qI (fun y h' => R224 (vw h) a1 y (vw h'))) := by
  refine pt_d (d224_0 S z1 ⟨fun e p q => ⟨fun e2 g S2 eg => Or.inr (Or.inr ⟨e, e2, rfl, eg⟩), fun e2 => Or.inr (Or.inl ⟨e, e2, rfl, rfl⟩)⟩, fun e => Or.inl ⟨e, rfl, rfl⟩⟩)
end
section
theorem vw_rf {σ : List Nat} {h : aH} (I : dI σ h) {c ci f : Nat} {lo hi : Int} (k0 : tkO c ci = true) (k : tkI c f lo hi = true) : lo ≤ vw h c (f : Nat) ∧ vw h c (f : Nat) ≤ hi := by
  obtain ⟨fs, e⟩ := hI_o I k0
  obtain ⟨x, e2, r1, r2⟩ := hI_i I e k
  rw [vw_o e e2]
  exact ⟨r1, r2⟩
theorem jx_10 {V V1 V2 : vS} {b r1 r2 : Int} (J : JBody V) (hd : V 1 0 = V 72 1) (h0 : 0 ≤ V 1 0) (c : R154 V b r1 V1) (m : R224 V1 b r2 V2) : JBody V2 ∧ r1 = r2 := by
  have J0 := J
  obtain ⟨j1, j2, j3, j4, j5, j6, j7, j9, j8⟩ := J0
  rcases c with ⟨a, rfl, rfl⟩ | ⟨a, a1, rfl, rfl⟩ | ⟨a, a1, rfl, rfl⟩
  · rcases m with ⟨b0, rfl, rfl⟩ | ⟨b0, -⟩ | ⟨b0, -⟩
    · exact ⟨J, rfl⟩
    · exact absurd ((field_j J b).mpr b0) a
    · exact absurd ((field_j J b).mpr b0) a
  · rcases m with ⟨b0, rfl, rfl⟩ | ⟨b0, b1, rfl, rfl⟩ | ⟨b0, b1, rfl, rfl⟩
    · exact absurd ((field_j J b).mp a) b0
    · exact ⟨J, rfl⟩
    · have := (j9 b).1
      have := j4 b
      omega
  · have f : ∀ (c : Nat) (j : Int), c ≠ 1 → c ≠ 5 → up (up V 5 b (V 1 0)) 1 5 (w32 (V 1 5 + 1)) c j = V c j := fun c j h1 h2 => by rw [up_c h1, up_c h2]
    have mf : mField (up (up V 5 b (V 1 0)) 1 5 (w32 (V 1 5 + 1))) b ↔ mField V b := by
      unfold mField mBody
      rw [f 72 2 (by decide) (by decide), f 73 b (by decide) (by decide)]
    have e77 := f 77 b (by decide) (by decide)
    rcases m with ⟨b0, rfl, rfl⟩ | ⟨b0, b1, rfl, rfl⟩ | ⟨b0, b1, rfl, rfl⟩
    · exact absurd (mf.mpr ((field_j J b).mp a)) b0
    · have := j4 b
      omega
    · have g : ∀ (c : Nat) (j : Int), c ≠ 1 → c ≠ 5 → c ≠ 77 → c ≠ 72 → up (up (up (up V 5 b (V 1 0)) 1 5 (w32 (V 1 5 + 1))) 77 b (up (up V 5 b (V 1 0)) 1 5 (w32 (V 1 5 + 1)) 72 1)) 72 38 1 c j = V c j := fun c j h1 h2 h3 h4 => by rw [up_c h4, up_c h3, f c j h1 h2]
      have g1 : up (up (up (up V 5 b (V 1 0)) 1 5 (w32 (V 1 5 + 1))) 77 b (up (up V 5 b (V 1 0)) 1 5 (w32 (V 1 5 + 1)) 72 1)) 72 38 1 1 1 = V 1 1 := by rw [up_c (by decide), up_c (by decide), up_j (by decide), up_c (by decide)]
      have g72 : up (up (up (up V 5 b (V 1 0)) 1 5 (w32 (V 1 5 + 1))) 77 b (up (up V 5 b (V 1 0)) 1 5 (w32 (V 1 5 + 1)) 72 1)) 72 38 1 72 2 = V 72 2 := by rw [up_j (by decide), up_c (by decide), f 72 2 (by decide) (by decide)]
      have g5 : ∀ j, up (up (up (up V 5 b (V 1 0)) 1 5 (w32 (V 1 5 + 1))) 77 b (up (up V 5 b (V 1 0)) 1 5 (w32 (V 1 5 + 1)) 72 1)) 72 38 1 5 j = if j = b then V 1 0 else V 5 j := fun j => by rw [up_c (by decide), up_c (by decide), up_c (by decide), up_p]
      have g77 : ∀ j, up (up (up (up V 5 b (V 1 0)) 1 5 (w32 (V 1 5 + 1))) 77 b (up (up V 5 b (V 1 0)) 1 5 (w32 (V 1 5 + 1)) 72 1)) 72 38 1 77 j = if j = b then V 72 1 else V 77 j := fun j => by rw [up_c (by decide), up_p, f 77 j (by decide) (by decide), f 72 1 (by decide) (by decide)]
      refine ⟨⟨by rw [g1, g72, j1], fun j => ?_, fun j => ?_, fun j => by rw [g5, g77, hd, j4], fun j => ?_, by rw [g1]; exact j6, by rw [g1]; exact j7, fun j => ⟨?_, ?_⟩, fun j q0 q1 => ?_⟩, rfl⟩
      · rw [g 2 j (by decide) (by decide) (by decide) (by decide), g 73 j (by decide) (by decide) (by decide) (by decide), j2]
      · rw [g 4 j (by decide) (by decide) (by decide) (by decide), g 76 j (by decide) (by decide) (by decide) (by decide), j3]
      · rw [g 7 j (by decide) (by decide) (by decide) (by decide), g 75 j (by decide) (by decide) (by decide) (by decide), j5]
      · rw [g5]
        have := (j9 j).1
        split <;> omega
      · rw [g 7 j (by decide) (by decide) (by decide) (by decide)]
        exact (j9 j).2
      · unfold JMeas
        rw [g 2 j (by decide) (by decide) (by decide) (by decide), g 3 j (by decide) (by decide) (by decide) (by decide), g 74 j (by decide) (by decide) (by decide) (by decide), g 78 j (by decide) (by decide) (by decide) (by decide), g 79 j (by decide) (by decide) (by decide) (by decide)]
        rw [g1] at q1
        exact j8 j q0 q1
end
section
section WV
variable {X : aX} {D : Nat} {M : aM} {Q : Option Value → aH → Prop} {pc len a b : Nat} {l : aL} {r : List Value} {h : aH}
theorem w_lshlv {x : Int64} {y : Int32} (hf : aF pc M.2.2.2.2.2.2.2 = some (pc, .lshl, len, a, b)) (k : ∀ z : Int64, z = x <<< (y.toInt64 &&& 63) → Wp X D M Q (pc + 1) l (.long z :: r) h) : Wp X D M Q pc l (.int y :: .long x :: r) h := wp1 (fun n d => r_lshl hf rfl) (k _ rfl)
theorem w_landv {x y : Int64} (hf : aF pc M.2.2.2.2.2.2.2 = some (pc, .land, len, a, b)) (k : ∀ z : Int64, z = x &&& y → Wp X D M Q (pc + 1) l (.long z :: r) h) : Wp X D M Q pc l (.long y :: .long x :: r) h := wp1 (fun n d => r_land hf rfl) (k _ rfl)
theorem w_lorv {x y : Int64} (hf : aF pc M.2.2.2.2.2.2.2 = some (pc, .lor, len, a, b)) (k : ∀ z : Int64, z = x ||| y → Wp X D M Q (pc + 1) l (.long z :: r) h) : Wp X D M Q pc l (.long y :: .long x :: r) h := wp1 (fun n d => r_lor hf rfl) (k _ rfl)
end WV
end
section
theorem tl_23 : tkL 23 0 40 = true := by decide +kernel
theorem tl_24 : tkL 24 0 40 = true := by decide +kernel
theorem tl_25 : tkL 25 0 40 = true := by decide +kernel
theorem tl_26 : tkL 26 0 40 = true := by decide +kernel
theorem tl_92 : tkL 92 0 40 = true := by decide +kernel
theorem tl_93 : tkL 93 0 40 = true := by decide +kernel
theorem tl_94 : tkL 94 0 40 = true := by decide +kernel
theorem tl_95 : tkL 95 0 40 = true := by decide +kernel
theorem tl_96 : tkL 96 0 40 = true := by decide +kernel
theorem tl_97 : tkL 97 0 40 = true := by decide +kernel
theorem tr_16_10 : tkR 16 10 23 = true := by decide +kernel
theorem tr_16_11 : tkR 16 11 24 = true := by decide +kernel
theorem tr_16_12 : tkR 16 12 25 = true := by decide +kernel
theorem tr_16_13 : tkR 16 13 26 = true := by decide +kernel
theorem tr_72_26 : tkR 72 26 92 = true := by decide +kernel
theorem tr_72_27 : tkR 72 27 93 = true := by decide +kernel
theorem tr_72_28 : tkR 72 28 94 = true := by decide +kernel
theorem tr_72_29 : tkR 72 29 95 = true := by decide +kernel
theorem tr_72_30 : tkR 72 30 96 = true := by decide +kernel
theorem tr_72_31 : tkR 72 31 97 = true := by decide +kernel
theorem gx32_0 : aF 0 zM32.2.2.2.2.2.2.2 = some (0, (.aload_n 0), 1, 0, 0) := by decide +kernel
theorem gx32_1 : aF 1 zM32.2.2.2.2.2.2.2 = some (1, (.getfield 96), 3, 2, 2) := by decide +kernel
theorem gx32_4 : aF 4 zM32.2.2.2.2.2.2.2 = some (4, (.bipush 40), 2, 0, 0) := by decide +kernel
theorem gx32_6 : aF 6 zM32.2.2.2.2.2.2.2 = some (6, (.if_icmp .ge 59), 3, 65, 0) := by decide +kernel
theorem gx32_65 : aF 65 zM32.2.2.2.2.2.2.2 = some (65, (.aload_n 0), 1, 0, 0) := by decide +kernel
theorem gx32_66 : aF 66 zM32.2.2.2.2.2.2.2 = some (66, (.getfield 96), 3, 2, 2) := by decide +kernel
theorem gx32_69 : aF 69 zM32.2.2.2.2.2.2.2 = some (69, .ireturn, 1, 0, 0) := by decide +kernel
theorem gx32_9 : aF 9 zM32.2.2.2.2.2.2.2 = some (9, (.aload_n 0), 1, 0, 0) := by decide +kernel
theorem gx32_10 : aF 10 zM32.2.2.2.2.2.2.2 = some (10, (.getfield 30), 3, 2, 10) := by decide +kernel
theorem gx32_13 : aF 13 zM32.2.2.2.2.2.2.2 = some (13, (.aload_n 0), 1, 0, 0) := by decide +kernel
theorem gx32_14 : aF 14 zM32.2.2.2.2.2.2.2 = some (14, (.getfield 96), 3, 2, 2) := by decide +kernel
theorem gx32_17 : aF 17 zM32.2.2.2.2.2.2.2 = some (17, (.iload_n 1), 1, 0, 0) := by decide +kernel
theorem gx32_18 : aF 18 zM32.2.2.2.2.2.2.2 = some (18, .iastore, 1, 0, 0) := by decide +kernel
theorem gx32_19 : aF 19 zM32.2.2.2.2.2.2.2 = some (19, (.aload_n 0), 1, 0, 0) := by decide +kernel
theorem gx32_20 : aF 20 zM32.2.2.2.2.2.2.2 = some (20, (.getfield 33), 3, 2, 11) := by decide +kernel
theorem gx32_23 : aF 23 zM32.2.2.2.2.2.2.2 = some (23, (.aload_n 0), 1, 0, 0) := by decide +kernel
theorem gx32_24 : aF 24 zM32.2.2.2.2.2.2.2 = some (24, (.getfield 96), 3, 2, 2) := by decide +kernel
theorem gx32_27 : aF 27 zM32.2.2.2.2.2.2.2 = some (27, (.iload_n 2), 1, 0, 0) := by decide +kernel
theorem gx32_28 : aF 28 zM32.2.2.2.2.2.2.2 = some (28, .iastore, 1, 0, 0) := by decide +kernel
theorem gx32_29 : aF 29 zM32.2.2.2.2.2.2.2 = some (29, (.aload_n 0), 1, 0, 0) := by decide +kernel
theorem gx32_30 : aF 30 zM32.2.2.2.2.2.2.2 = some (30, (.getfield 36), 3, 2, 12) := by decide +kernel
theorem gx32_33 : aF 33 zM32.2.2.2.2.2.2.2 = some (33, (.aload_n 0), 1, 0, 0) := by decide +kernel
theorem gx32_34 : aF 34 zM32.2.2.2.2.2.2.2 = some (34, (.getfield 96), 3, 2, 2) := by decide +kernel
theorem gx32_37 : aF 37 zM32.2.2.2.2.2.2.2 = some (37, (.iload_n 3), 1, 0, 0) := by decide +kernel
theorem gx32_38 : aF 38 zM32.2.2.2.2.2.2.2 = some (38, .iastore, 1, 0, 0) := by decide +kernel
theorem gx32_39 : aF 39 zM32.2.2.2.2.2.2.2 = some (39, (.aload_n 0), 1, 0, 0) := by decide +kernel
theorem gx32_40 : aF 40 zM32.2.2.2.2.2.2.2 = some (40, (.getfield 39), 3, 2, 13) := by decide +kernel
theorem gx32_43 : aF 43 zM32.2.2.2.2.2.2.2 = some (43, (.aload_n 0), 1, 0, 0) := by decide +kernel
theorem gx32_44 : aF 44 zM32.2.2.2.2.2.2.2 = some (44, (.getfield 96), 3, 2, 2) := by decide +kernel
theorem gx32_47 : aF 47 zM32.2.2.2.2.2.2.2 = some (47, (.aload_n 0), 1, 0, 0) := by decide +kernel
theorem gx32_48 : aF 48 zM32.2.2.2.2.2.2.2 = some (48, (.getfield 60), 3, 2, 0) := by decide +kernel
theorem gx32_51 : aF 51 zM32.2.2.2.2.2.2.2 = some (51, (.getfield 68), 3, 6, 0) := by decide +kernel
theorem gx32_54 : aF 54 zM32.2.2.2.2.2.2.2 = some (54, .iastore, 1, 0, 0) := by decide +kernel
theorem gx32_55 : aF 55 zM32.2.2.2.2.2.2.2 = some (55, (.aload_n 0), 1, 0, 0) := by decide +kernel
theorem gx32_56 : aF 56 zM32.2.2.2.2.2.2.2 = some (56, .dup, 1, 0, 0) := by decide +kernel
theorem gx32_57 : aF 57 zM32.2.2.2.2.2.2.2 = some (57, (.getfield 96), 3, 2, 2) := by decide +kernel
theorem gx32_60 : aF 60 zM32.2.2.2.2.2.2.2 = some (60, (.iconst 1), 1, 0, 0) := by decide +kernel
theorem gx32_61 : aF 61 zM32.2.2.2.2.2.2.2 = some (61, .iadd, 1, 0, 0) := by decide +kernel
theorem gx32_62 : aF 62 zM32.2.2.2.2.2.2.2 = some (62, (.putfield 96), 3, 2, 2) := by decide +kernel
theorem gx159_0 : aF 0 zM159.2.2.2.2.2.2.2 = some (0, (.iload_n 1), 1, 0, 0) := by decide +kernel
theorem gx159_1 : aF 1 zM159.2.2.2.2.2.2.2 = some (1, (.ifCond .lt 14), 3, 15, 0) := by decide +kernel
theorem gx159_15 : aF 15 zM159.2.2.2.2.2.2.2 = some (15, (.iconst (-1)), 1, 0, 0) := by decide +kernel
theorem gx159_16 : aF 16 zM159.2.2.2.2.2.2.2 = some (16, .ireturn, 1, 0, 0) := by decide +kernel
theorem gx159_4 : aF 4 zM159.2.2.2.2.2.2.2 = some (4, (.iload_n 2), 1, 0, 0) := by decide +kernel
theorem gx159_5 : aF 5 zM159.2.2.2.2.2.2.2 = some (5, (.ifCond .lt 10), 3, 15, 0) := by decide +kernel
theorem gx159_8 : aF 8 zM159.2.2.2.2.2.2.2 = some (8, (.iload_n 3), 1, 0, 0) := by decide +kernel
theorem gx159_9 : aF 9 zM159.2.2.2.2.2.2.2 = some (9, (.invokestatic 164), 3, 138, 0) := by decide +kernel
theorem gx159_12 : aF 12 zM159.2.2.2.2.2.2.2 = some (12, (.ifCond .ne 5), 3, 17, 0) := by decide +kernel
theorem gx159_17 : aF 17 zM159.2.2.2.2.2.2.2 = some (17, (.iload_n 1), 1, 0, 0) := by decide +kernel
theorem gx159_18 : aF 18 zM159.2.2.2.2.2.2.2 = some (18, (.bipush 100), 2, 0, 0) := by decide +kernel
theorem gx159_20 : aF 20 zM159.2.2.2.2.2.2.2 = some (20, .idiv, 1, 0, 0) := by decide +kernel
theorem gx159_21 : aF 21 zM159.2.2.2.2.2.2.2 = some (21, (.istore 4), 2, 0, 0) := by decide +kernel
theorem gx159_23 : aF 23 zM159.2.2.2.2.2.2.2 = some (23, (.iload_n 1), 1, 0, 0) := by decide +kernel
theorem gx159_24 : aF 24 zM159.2.2.2.2.2.2.2 = some (24, (.bipush 100), 2, 0, 0) := by decide +kernel
theorem gx159_26 : aF 26 zM159.2.2.2.2.2.2.2 = some (26, .irem, 1, 0, 0) := by decide +kernel
theorem gx159_27 : aF 27 zM159.2.2.2.2.2.2.2 = some (27, (.istore 5), 2, 0, 0) := by decide +kernel
theorem gx159_29 : aF 29 zM159.2.2.2.2.2.2.2 = some (29, (.iload_n 2), 1, 0, 0) := by decide +kernel
theorem gx159_30 : aF 30 zM159.2.2.2.2.2.2.2 = some (30, (.bipush 100), 2, 0, 0) := by decide +kernel
theorem gx159_32 : aF 32 zM159.2.2.2.2.2.2.2 = some (32, .idiv, 1, 0, 0) := by decide +kernel
theorem gx159_33 : aF 33 zM159.2.2.2.2.2.2.2 = some (33, (.istore 6), 2, 0, 0) := by decide +kernel
theorem gx159_35 : aF 35 zM159.2.2.2.2.2.2.2 = some (35, (.iload_n 2), 1, 0, 0) := by decide +kernel
theorem gx159_36 : aF 36 zM159.2.2.2.2.2.2.2 = some (36, (.bipush 100), 2, 0, 0) := by decide +kernel
theorem gx159_38 : aF 38 zM159.2.2.2.2.2.2.2 = some (38, .irem, 1, 0, 0) := by decide +kernel
theorem gx159_39 : aF 39 zM159.2.2.2.2.2.2.2 = some (39, (.istore 7), 2, 0, 0) := by decide +kernel
theorem gx159_41 : aF 41 zM159.2.2.2.2.2.2.2 = some (41, (.iload 4), 2, 0, 0) := by decide +kernel
theorem gx159_43 : aF 43 zM159.2.2.2.2.2.2.2 = some (43, (.iload 6), 2, 0, 0) := by decide +kernel
theorem gx159_45 : aF 45 zM159.2.2.2.2.2.2.2 = some (45, (.if_icmp .gt 24), 3, 69, 0) := by decide +kernel
theorem gx159_69 : aF 69 zM159.2.2.2.2.2.2.2 = some (69, (.iconst (-1)), 1, 0, 0) := by decide +kernel
theorem gx159_70 : aF 70 zM159.2.2.2.2.2.2.2 = some (70, .ireturn, 1, 0, 0) := by decide +kernel
theorem gx159_48 : aF 48 zM159.2.2.2.2.2.2.2 = some (48, (.iload 5), 2, 0, 0) := by decide +kernel
theorem gx159_50 : aF 50 zM159.2.2.2.2.2.2.2 = some (50, (.iload 7), 2, 0, 0) := by decide +kernel
theorem gx159_52 : aF 52 zM159.2.2.2.2.2.2.2 = some (52, (.if_icmp .gt 17), 3, 69, 0) := by decide +kernel
theorem gx159_55 : aF 55 zM159.2.2.2.2.2.2.2 = some (55, (.iload 6), 2, 0, 0) := by decide +kernel
theorem gx159_57 : aF 57 zM159.2.2.2.2.2.2.2 = some (57, (.bipush 24), 2, 0, 0) := by decide +kernel
theorem gx159_59 : aF 59 zM159.2.2.2.2.2.2.2 = some (59, (.if_icmp .ge 10), 3, 69, 0) := by decide +kernel
theorem gx159_62 : aF 62 zM159.2.2.2.2.2.2.2 = some (62, (.iload 7), 2, 0, 0) := by decide +kernel
theorem gx159_64 : aF 64 zM159.2.2.2.2.2.2.2 = some (64, (.bipush 24), 2, 0, 0) := by decide +kernel
theorem gx159_66 : aF 66 zM159.2.2.2.2.2.2.2 = some (66, (.if_icmp .lt 5), 3, 71, 0) := by decide +kernel
theorem gx159_71 : aF 71 zM159.2.2.2.2.2.2.2 = some (71, (.aload_n 0), 1, 0, 0) := by decide +kernel
theorem gx159_72 : aF 72 zM159.2.2.2.2.2.2.2 = some (72, (.getfield 28), 3, 11, 2) := by decide +kernel
theorem gx159_75 : aF 75 zM159.2.2.2.2.2.2.2 = some (75, (.getfield 181), 3, 2, 2) := by decide +kernel
theorem gx159_78 : aF 78 zM159.2.2.2.2.2.2.2 = some (78, (.bipush 40), 2, 0, 0) := by decide +kernel
theorem gx159_80 : aF 80 zM159.2.2.2.2.2.2.2 = some (80, (.if_icmp .lt 8), 3, 88, 0) := by decide +kernel
theorem gx159_88 : aF 88 zM159.2.2.2.2.2.2.2 = some (88, (.aload_n 0), 1, 0, 0) := by decide +kernel
theorem gx159_89 : aF 89 zM159.2.2.2.2.2.2.2 = some (89, (.getfield 28), 3, 11, 2) := by decide +kernel
theorem gx159_92 : aF 92 zM159.2.2.2.2.2.2.2 = some (92, (.iload_n 1), 1, 0, 0) := by decide +kernel
theorem gx159_93 : aF 93 zM159.2.2.2.2.2.2.2 = some (93, (.iload_n 2), 1, 0, 0) := by decide +kernel
theorem gx159_94 : aF 94 zM159.2.2.2.2.2.2.2 = some (94, (.iload_n 3), 1, 0, 0) := by decide +kernel
theorem gx159_95 : aF 95 zM159.2.2.2.2.2.2.2 = some (95, (.invokevirtual 184), 3, 32, 0) := by decide +kernel
theorem gx159_98 : aF 98 zM159.2.2.2.2.2.2.2 = some (98, .ireturn, 1, 0, 0) := by decide +kernel
theorem gx159_83 : aF 83 zM159.2.2.2.2.2.2.2 = some (83, (.bipush (-3)), 2, 0, 0) := by decide +kernel
theorem gx159_85 : aF 85 zM159.2.2.2.2.2.2.2 = some (85, (.goto 13), 3, 98, 0) := by decide +kernel
theorem gx232_0 : aF 0 zM232.2.2.2.2.2.2.2 = some (0, (.iload_n 1), 1, 0, 0) := by decide +kernel
theorem gx232_1 : aF 1 zM232.2.2.2.2.2.2.2 = some (1, (.ifCond .lt 72), 3, 73, 0) := by decide +kernel
theorem gx232_73 : aF 73 zM232.2.2.2.2.2.2.2 = some (73, (.iconst (-1)), 1, 0, 0) := by decide +kernel
theorem gx232_74 : aF 74 zM232.2.2.2.2.2.2.2 = some (74, .ireturn, 1, 0, 0) := by decide +kernel
theorem gx232_4 : aF 4 zM232.2.2.2.2.2.2.2 = some (4, (.iload_n 2), 1, 0, 0) := by decide +kernel
theorem gx232_5 : aF 5 zM232.2.2.2.2.2.2.2 = some (5, (.ifCond .lt 68), 3, 73, 0) := by decide +kernel
theorem gx232_8 : aF 8 zM232.2.2.2.2.2.2.2 = some (8, (.iload_n 1), 1, 0, 0) := by decide +kernel
theorem gx232_9 : aF 9 zM232.2.2.2.2.2.2.2 = some (9, (.bipush 100), 2, 0, 0) := by decide +kernel
theorem gx232_11 : aF 11 zM232.2.2.2.2.2.2.2 = some (11, .idiv, 1, 0, 0) := by decide +kernel
theorem gx232_12 : aF 12 zM232.2.2.2.2.2.2.2 = some (12, (.iconst 0), 1, 0, 0) := by decide +kernel
theorem gx232_13 : aF 13 zM232.2.2.2.2.2.2.2 = some (13, (.bipush 23), 2, 0, 0) := by decide +kernel
theorem gx232_15 : aF 15 zM232.2.2.2.2.2.2.2 = some (15, (.invokestatic 258), 3, 196, 0) := by decide +kernel
theorem gx232_18 : aF 18 zM232.2.2.2.2.2.2.2 = some (18, (.ifCond .eq 55), 3, 73, 0) := by decide +kernel
theorem gx232_21 : aF 21 zM232.2.2.2.2.2.2.2 = some (21, (.iload_n 1), 1, 0, 0) := by decide +kernel
theorem gx232_22 : aF 22 zM232.2.2.2.2.2.2.2 = some (22, (.bipush 100), 2, 0, 0) := by decide +kernel
theorem gx232_24 : aF 24 zM232.2.2.2.2.2.2.2 = some (24, .irem, 1, 0, 0) := by decide +kernel
theorem gx232_25 : aF 25 zM232.2.2.2.2.2.2.2 = some (25, (.iconst 0), 1, 0, 0) := by decide +kernel
theorem gx232_26 : aF 26 zM232.2.2.2.2.2.2.2 = some (26, (.bipush 23), 2, 0, 0) := by decide +kernel
theorem gx232_28 : aF 28 zM232.2.2.2.2.2.2.2 = some (28, (.invokestatic 258), 3, 196, 0) := by decide +kernel
theorem gx232_31 : aF 31 zM232.2.2.2.2.2.2.2 = some (31, (.ifCond .eq 42), 3, 73, 0) := by decide +kernel
theorem gx232_34 : aF 34 zM232.2.2.2.2.2.2.2 = some (34, (.iload_n 2), 1, 0, 0) := by decide +kernel
theorem gx232_35 : aF 35 zM232.2.2.2.2.2.2.2 = some (35, (.bipush 100), 2, 0, 0) := by decide +kernel
theorem gx232_37 : aF 37 zM232.2.2.2.2.2.2.2 = some (37, .idiv, 1, 0, 0) := by decide +kernel
theorem gx232_38 : aF 38 zM232.2.2.2.2.2.2.2 = some (38, (.iload_n 1), 1, 0, 0) := by decide +kernel
theorem gx232_39 : aF 39 zM232.2.2.2.2.2.2.2 = some (39, (.bipush 100), 2, 0, 0) := by decide +kernel
theorem gx232_41 : aF 41 zM232.2.2.2.2.2.2.2 = some (41, .idiv, 1, 0, 0) := by decide +kernel
theorem gx232_42 : aF 42 zM232.2.2.2.2.2.2.2 = some (42, (.bipush 23), 2, 0, 0) := by decide +kernel
theorem gx232_44 : aF 44 zM232.2.2.2.2.2.2.2 = some (44, (.invokestatic 258), 3, 196, 0) := by decide +kernel
theorem gx232_47 : aF 47 zM232.2.2.2.2.2.2.2 = some (47, (.ifCond .eq 26), 3, 73, 0) := by decide +kernel
theorem gx232_50 : aF 50 zM232.2.2.2.2.2.2.2 = some (50, (.iload_n 2), 1, 0, 0) := by decide +kernel
theorem gx232_51 : aF 51 zM232.2.2.2.2.2.2.2 = some (51, (.bipush 100), 2, 0, 0) := by decide +kernel
theorem gx232_53 : aF 53 zM232.2.2.2.2.2.2.2 = some (53, .irem, 1, 0, 0) := by decide +kernel
theorem gx232_54 : aF 54 zM232.2.2.2.2.2.2.2 = some (54, (.iload_n 1), 1, 0, 0) := by decide +kernel
theorem gx232_55 : aF 55 zM232.2.2.2.2.2.2.2 = some (55, (.bipush 100), 2, 0, 0) := by decide +kernel
theorem gx232_57 : aF 57 zM232.2.2.2.2.2.2.2 = some (57, .irem, 1, 0, 0) := by decide +kernel
theorem gx232_58 : aF 58 zM232.2.2.2.2.2.2.2 = some (58, (.bipush 23), 2, 0, 0) := by decide +kernel
theorem gx232_60 : aF 60 zM232.2.2.2.2.2.2.2 = some (60, (.invokestatic 258), 3, 196, 0) := by decide +kernel
theorem gx232_63 : aF 63 zM232.2.2.2.2.2.2.2 = some (63, (.ifCond .eq 10), 3, 73, 0) := by decide +kernel
theorem gx232_66 : aF 66 zM232.2.2.2.2.2.2.2 = some (66, (.iload_n 3), 1, 0, 0) := by decide +kernel
theorem gx232_67 : aF 67 zM232.2.2.2.2.2.2.2 = some (67, (.invokestatic 325), 3, 197, 0) := by decide +kernel
theorem gx232_70 : aF 70 zM232.2.2.2.2.2.2.2 = some (70, (.ifCond .ne 5), 3, 75, 0) := by decide +kernel
theorem gx232_75 : aF 75 zM232.2.2.2.2.2.2.2 = some (75, (.aload_n 0), 1, 0, 0) := by decide +kernel
theorem gx232_76 : aF 76 zM232.2.2.2.2.2.2.2 = some (76, (.getfield 339), 3, 12, 25) := by decide +kernel
theorem gx232_79 : aF 79 zM232.2.2.2.2.2.2.2 = some (79, (.bipush 40), 2, 0, 0) := by decide +kernel
theorem gx232_81 : aF 81 zM232.2.2.2.2.2.2.2 = some (81, (.if_icmp .ne 6), 3, 87, 0) := by decide +kernel
theorem gx232_87 : aF 87 zM232.2.2.2.2.2.2.2 = some (87, (.aload_n 0), 1, 0, 0) := by decide +kernel
theorem gx232_88 : aF 88 zM232.2.2.2.2.2.2.2 = some (88, (.getfield 67), 3, 12, 26) := by decide +kernel
theorem gx232_91 : aF 91 zM232.2.2.2.2.2.2.2 = some (91, (.aload_n 0), 1, 0, 0) := by decide +kernel
theorem gx232_92 : aF 92 zM232.2.2.2.2.2.2.2 = some (92, (.getfield 339), 3, 12, 25) := by decide +kernel
theorem gx232_95 : aF 95 zM232.2.2.2.2.2.2.2 = some (95, (.iload_n 1), 1, 0, 0) := by decide +kernel
theorem gx232_96 : aF 96 zM232.2.2.2.2.2.2.2 = some (96, (.bipush 100), 2, 0, 0) := by decide +kernel
theorem gx232_98 : aF 98 zM232.2.2.2.2.2.2.2 = some (98, .idiv, 1, 0, 0) := by decide +kernel
theorem gx232_99 : aF 99 zM232.2.2.2.2.2.2.2 = some (99, .iastore, 1, 0, 0) := by decide +kernel
theorem gx232_100 : aF 100 zM232.2.2.2.2.2.2.2 = some (100, (.aload_n 0), 1, 0, 0) := by decide +kernel
theorem gx232_101 : aF 101 zM232.2.2.2.2.2.2.2 = some (101, (.getfield 70), 3, 12, 27) := by decide +kernel
theorem gx232_104 : aF 104 zM232.2.2.2.2.2.2.2 = some (104, (.aload_n 0), 1, 0, 0) := by decide +kernel
theorem gx232_105 : aF 105 zM232.2.2.2.2.2.2.2 = some (105, (.getfield 339), 3, 12, 25) := by decide +kernel
theorem gx232_108 : aF 108 zM232.2.2.2.2.2.2.2 = some (108, (.iload_n 1), 1, 0, 0) := by decide +kernel
theorem gx232_109 : aF 109 zM232.2.2.2.2.2.2.2 = some (109, (.bipush 100), 2, 0, 0) := by decide +kernel
theorem gx232_111 : aF 111 zM232.2.2.2.2.2.2.2 = some (111, .irem, 1, 0, 0) := by decide +kernel
theorem gx232_112 : aF 112 zM232.2.2.2.2.2.2.2 = some (112, .iastore, 1, 0, 0) := by decide +kernel
theorem gx232_113 : aF 113 zM232.2.2.2.2.2.2.2 = some (113, (.aload_n 0), 1, 0, 0) := by decide +kernel
theorem gx232_114 : aF 114 zM232.2.2.2.2.2.2.2 = some (114, (.getfield 73), 3, 12, 28) := by decide +kernel
theorem gx232_117 : aF 117 zM232.2.2.2.2.2.2.2 = some (117, (.aload_n 0), 1, 0, 0) := by decide +kernel
theorem gx232_118 : aF 118 zM232.2.2.2.2.2.2.2 = some (118, (.getfield 339), 3, 12, 25) := by decide +kernel
theorem gx232_121 : aF 121 zM232.2.2.2.2.2.2.2 = some (121, (.iload_n 2), 1, 0, 0) := by decide +kernel
theorem gx232_122 : aF 122 zM232.2.2.2.2.2.2.2 = some (122, (.bipush 100), 2, 0, 0) := by decide +kernel
theorem gx232_124 : aF 124 zM232.2.2.2.2.2.2.2 = some (124, .idiv, 1, 0, 0) := by decide +kernel
theorem gx232_125 : aF 125 zM232.2.2.2.2.2.2.2 = some (125, .iastore, 1, 0, 0) := by decide +kernel
theorem gx232_126 : aF 126 zM232.2.2.2.2.2.2.2 = some (126, (.aload_n 0), 1, 0, 0) := by decide +kernel
theorem gx232_127 : aF 127 zM232.2.2.2.2.2.2.2 = some (127, (.getfield 76), 3, 12, 29) := by decide +kernel
theorem gx232_130 : aF 130 zM232.2.2.2.2.2.2.2 = some (130, (.aload_n 0), 1, 0, 0) := by decide +kernel
theorem gx232_131 : aF 131 zM232.2.2.2.2.2.2.2 = some (131, (.getfield 339), 3, 12, 25) := by decide +kernel
theorem gx232_134 : aF 134 zM232.2.2.2.2.2.2.2 = some (134, (.iload_n 2), 1, 0, 0) := by decide +kernel
theorem gx232_135 : aF 135 zM232.2.2.2.2.2.2.2 = some (135, (.bipush 100), 2, 0, 0) := by decide +kernel
theorem gx232_137 : aF 137 zM232.2.2.2.2.2.2.2 = some (137, .irem, 1, 0, 0) := by decide +kernel
theorem gx232_138 : aF 138 zM232.2.2.2.2.2.2.2 = some (138, .iastore, 1, 0, 0) := by decide +kernel
theorem gx232_139 : aF 139 zM232.2.2.2.2.2.2.2 = some (139, (.aload_n 0), 1, 0, 0) := by decide +kernel
theorem gx232_140 : aF 140 zM232.2.2.2.2.2.2.2 = some (140, (.getfield 79), 3, 12, 30) := by decide +kernel
theorem gx232_143 : aF 143 zM232.2.2.2.2.2.2.2 = some (143, (.aload_n 0), 1, 0, 0) := by decide +kernel
theorem gx232_144 : aF 144 zM232.2.2.2.2.2.2.2 = some (144, (.getfield 339), 3, 12, 25) := by decide +kernel
theorem gx232_147 : aF 147 zM232.2.2.2.2.2.2.2 = some (147, (.iload_n 3), 1, 0, 0) := by decide +kernel
theorem gx232_148 : aF 148 zM232.2.2.2.2.2.2.2 = some (148, .iastore, 1, 0, 0) := by decide +kernel
theorem gx232_149 : aF 149 zM232.2.2.2.2.2.2.2 = some (149, (.aload_n 0), 1, 0, 0) := by decide +kernel
theorem gx232_150 : aF 150 zM232.2.2.2.2.2.2.2 = some (150, (.getfield 82), 3, 12, 31) := by decide +kernel
theorem gx232_153 : aF 153 zM232.2.2.2.2.2.2.2 = some (153, (.aload_n 0), 1, 0, 0) := by decide +kernel
theorem gx232_154 : aF 154 zM232.2.2.2.2.2.2.2 = some (154, (.getfield 339), 3, 12, 25) := by decide +kernel
theorem gx232_157 : aF 157 zM232.2.2.2.2.2.2.2 = some (157, (.aload_n 0), 1, 0, 0) := by decide +kernel
theorem gx232_158 : aF 158 zM232.2.2.2.2.2.2.2 = some (158, (.getfield 262), 3, 12, 1) := by decide +kernel
theorem gx232_161 : aF 161 zM232.2.2.2.2.2.2.2 = some (161, .iastore, 1, 0, 0) := by decide +kernel
theorem gx232_162 : aF 162 zM232.2.2.2.2.2.2.2 = some (162, (.aload_n 0), 1, 0, 0) := by decide +kernel
theorem gx232_163 : aF 163 zM232.2.2.2.2.2.2.2 = some (163, .dup, 1, 0, 0) := by decide +kernel
theorem gx232_164 : aF 164 zM232.2.2.2.2.2.2.2 = some (164, (.getfield 339), 3, 12, 25) := by decide +kernel
theorem gx232_167 : aF 167 zM232.2.2.2.2.2.2.2 = some (167, (.iconst 1), 1, 0, 0) := by decide +kernel
theorem gx232_168 : aF 168 zM232.2.2.2.2.2.2.2 = some (168, .iadd, 1, 0, 0) := by decide +kernel
theorem gx232_169 : aF 169 zM232.2.2.2.2.2.2.2 = some (169, (.putfield 339), 3, 12, 25) := by decide +kernel
theorem gx232_172 : aF 172 zM232.2.2.2.2.2.2.2 = some (172, (.aload_n 0), 1, 0, 0) := by decide +kernel
theorem gx232_173 : aF 173 zM232.2.2.2.2.2.2.2 = some (173, (.iconst 1), 1, 0, 0) := by decide +kernel
theorem gx232_174 : aF 174 zM232.2.2.2.2.2.2.2 = some (174, (.putfield 100), 3, 12, 38) := by decide +kernel
theorem gx232_177 : aF 177 zM232.2.2.2.2.2.2.2 = some (177, (.aload_n 0), 1, 0, 0) := by decide +kernel
theorem gx232_178 : aF 178 zM232.2.2.2.2.2.2.2 = some (178, (.getfield 339), 3, 12, 25) := by decide +kernel
theorem gx232_181 : aF 181 zM232.2.2.2.2.2.2.2 = some (181, .ireturn, 1, 0, 0) := by decide +kernel
theorem gx232_84 : aF 84 zM232.2.2.2.2.2.2.2 = some (84, (.bipush (-3)), 2, 0, 0) := by decide +kernel
theorem gx232_86 : aF 86 zM232.2.2.2.2.2.2.2 = some (86, .ireturn, 1, 0, 0) := by decide +kernel
theorem d32_0 {n : Nat} {X : aX} {h : aH} {P : Int → aH → Prop} {x1 x2 x3 : Int32} {a1 a2 a3 : Int} (S : wS h) (z1 : x1.toInt = a1) (z2 : x2.toInt = a2) (z3 : x3.toInt = a3) (H : ((40 ≤ vw h 16 2 → P (vw h 16 2) h) ∧ (vw h 16 2 < 40 → (0 ≤ vw h 16 2 → vw h 16 2 < 40 → ∀ h_22 : aH, wS h_22 → vw h_22 = up (up (up (up (up (vw h) 23 (vw h 16 2) a1) 24 (vw h 16 2) a2) 25 (vw h 16 2) a3) 26 (vw h 16 2) (vw h 1 0)) 16 2 (w32 ((vw h 16 2) + 1)) → P (w32 ((vw h 16 2) + 1)) h_22)))) : Pt (n + 1) X zM32 0 [some (.ref 16), some (.int x1), some (.int x2), some (.int x3)] [] h (qI P) := by
  refine pt_1 (fun n d => r_aloadn gx32_0 rfl) ?_
  refine pt_d (pt_getI (B := 2) gx32_1 S (fun v1 h1 => ?_))
  refine pt_d (pt_bipush gx32_4 (fun v2 h2 => ?_))
  refine pt_d (pt_icmp_ge gx32_6 h1 h2 (fun e3 => ?_) (fun e3 => ?_))
  · have H := H.1 e3
    refine pt_d (pt_1 (fun n d => r_aloadn gx32_65 rfl) ?_)
    refine pt_d (pt_getI (B := 2) gx32_66 S (fun v4 h4 => ?_))
    exact pt_d (pt_iret gx32_69 ⟨_, rfl, by rw [h4]; exact H⟩)
  · have H := H.2 e3
    refine pt_d (pt_1 (fun n d => r_aloadn gx32_9 rfl) ?_)
    refine pt_d (pt_getR gx32_10 S tr_16_10 ?_)
    refine pt_d (pt_1 (fun n d => r_aloadn gx32_13 rfl) ?_)
    refine pt_d (pt_getI (B := 2) gx32_14 S (fun v6 h6 => ?_))
    refine pt_d (pt_1 (fun n d => r_iloadn gx32_17 rfl) ?_)
    refine pt_d (pt_iast (N' := 40) gx32_18 S tl_23 h6 z1 (fun h_7 S7 p7 q7 e7 => ?_))
    have H := H p7 q7
    refine pt_d (pt_1 (fun n d => r_aloadn gx32_19 rfl) ?_)
    refine pt_d (pt_getR gx32_20 S7 tr_16_11 ?_)
    refine pt_d (pt_1 (fun n d => r_aloadn gx32_23 rfl) ?_)
    refine pt_d (pt_getI (B := 2) gx32_24 S7 (fun v9 h9 => ?_))
    have h9 : v9.toInt = vw h 16 2 := by rw [h9, e7, up_c (by decide)]
    refine pt_d (pt_1 (fun n d => r_iloadn gx32_27 rfl) ?_)
    refine pt_d (pt_iast (N' := 40) gx32_28 S7 tl_24 h9 z2 (fun h_10 S10 p10 q10 e10 => ?_))
    refine pt_d (pt_1 (fun n d => r_aloadn gx32_29 rfl) ?_)
    refine pt_d (pt_getR gx32_30 S10 tr_16_12 ?_)
    refine pt_d (pt_1 (fun n d => r_aloadn gx32_33 rfl) ?_)
    refine pt_d (pt_getI (B := 2) gx32_34 S10 (fun v12 h12 => ?_))
    have h12 : v12.toInt = vw h 16 2 := by rw [h12, e10, up_c (by decide), e7, up_c (by decide)]
    refine pt_d (pt_1 (fun n d => r_iloadn gx32_37 rfl) ?_)
    refine pt_d (pt_iast (N' := 40) gx32_38 S10 tl_25 h12 z3 (fun h_13 S13 p13 q13 e13 => ?_))
    refine pt_d (pt_1 (fun n d => r_aloadn gx32_39 rfl) ?_)
    refine pt_d (pt_getR gx32_40 S13 tr_16_13 ?_)
    refine pt_d (pt_1 (fun n d => r_aloadn gx32_43 rfl) ?_)
    refine pt_d (pt_getI (B := 2) gx32_44 S13 (fun v15 h15 => ?_))
    have h15 : v15.toInt = vw h 16 2 := by rw [h15, e13, up_c (by decide), e10, up_c (by decide), e7, up_c (by decide)]
    refine pt_d (pt_1 (fun n d => r_aloadn gx32_47 rfl) ?_)
    refine pt_d (pt_getR gx32_48 S13 tr_16_0 ?_)
    refine pt_d (pt_getI (B := 0) gx32_51 S13 (fun v17 h17 => ?_))
    have h17 : v17.toInt = vw h 1 0 := by rw [h17, e13, up_c (by decide), e10, up_c (by decide), e7, up_c (by decide)]
    refine pt_d (pt_iast (N' := 40) gx32_54 S13 tl_26 h15 h17 (fun h_18 S18 p18 q18 e18 => ?_))
    refine pt_d (pt_1 (fun n d => r_aloadn gx32_55 rfl) ?_)
    refine pt_d (pt_1 (fun n d => r_dup gx32_56 rfl) ?_)
    refine pt_d (pt_getI (B := 2) gx32_57 S18 (fun v19 h19 => ?_))
    have h19 : v19.toInt = vw h 16 2 := by rw [h19, e18, up_c (by decide), e13, up_c (by decide), e10, up_c (by decide), e7, up_c (by decide)]
    refine pt_d (pt_iconst gx32_60 (fun v20 h20 => ?_))
    refine pt_d (pt_iadd gx32_61 h19 h20 (fun v21 h21 => ?_))
    refine pt_d (pt_putI (B := 2) gx32_62 S18 h21 (fun h_22 S22 e22 => ?_))
    refine pt_d (pt_1 (fun n d => r_aloadn gx32_65 rfl) ?_)
    refine pt_d (pt_getI (B := 2) gx32_66 S22 (fun v23 h23 => ?_))
    have h23 : v23.toInt = w32 ((vw h 16 2) + 1) := by rw [h23, e22, up_s]
    have H := H h_22 S22 (by rw [e22, e18, e13, e10, e7])
    exact pt_d (pt_iret gx32_69 ⟨_, rfl, by rw [h23]; exact H⟩)
def cOutV (V : vS) (a b d : Int) : vS := up (up (up (up (up V 23 (V 16 2) a) 24 (V 16 2) b) 25 (V 16 2) d) 26 (V 16 2) (V 1 0)) 16 2 (w32 (V 16 2 + 1))
def R32 (V : vS) (a b d r : Int) (V' : vS) : Prop := (40 ≤ V 16 2 ∧ r = V 16 2 ∧ V' = V) ∨ (V 16 2 < 40 ∧ 0 ≤ V 16 2 ∧ r = w32 (V 16 2 + 1) ∧ V' = cOutV V a b d)
theorem c_32 {n : Nat} {X : aX} {h : aH} {x1 x2 x3 : Int32} {a1 a2 a3 : Int} (S : wS h) (z1 : x1.toInt = a1) (z2 : x2.toInt = a2) (z3 : x3.toInt = a3) : Pt n X zM32 0 [some (.ref 16), some (.int x1), some (.int x2), some (.int x3)] [] h (qI (fun y h' => wS h' ∧ R32 (vw h) a1 a2 a3 y (vw h'))) := by
  refine pt_d (d32_0 S z1 z2 z3 ⟨fun e => ⟨S, Or.inl ⟨e, rfl, rfl⟩⟩, fun e p q g S2 eg => ⟨S2, Or.inr ⟨e, p, rfl, eg⟩⟩⟩)

theorem d159_0 {n : Nat} {X : aX} {h : aH} {P : Int → aH → Prop} {x1 x2 x3 : Int32} {a1 a2 a3 : Int} (S : wS h) (z1 : x1.toInt = a1) (z2 : x2.toInt = a2) (z3 : x3.toInt = a3) (H : ((a1 < 0 → P (-1) h) ∧ (0 ≤ a1 → ((a2 < 0 → P (-1) h) ∧ (0 ≤ a2 → (((0 ≤ a3 ∧ a3 ≤ 3649) → ((iDiv a2 100 < iDiv a1 100 → P (-1) h) ∧ (iDiv a1 100 ≤ iDiv a2 100 → ((iRem a2 100 < iRem a1 100 → P (-1) h) ∧ (iRem a1 100 ≤ iRem a2 100 → ((24 ≤ iDiv a2 100 → P (-1) h) ∧ (iDiv a2 100 < 24 → ((iRem a2 100 < 24 → ((vw h 16 2 < 40 → ∀ (y29 : Int) (h_29 : aH), (wS h_29 ∧ R32 (vw h) a1 a2 a3 y29 (vw h_29)) → P y29 h_29) ∧ (40 ≤ vw h 16 2 → P (-3) h))) ∧ (24 ≤ iRem a2 100 → P (-1) h))))))))) ∧ (¬ (0 ≤ a3 ∧ a3 ≤ 3649) → P (-1) h))))))) : Pt (n + 1) X zM159 0 [some (.ref 0), some (.int x1), some (.int x2), some (.int x3), none, none, none, none] [] h (qI P) := by
  refine pt_1 (fun n d => r_iloadn gx159_0 rfl) ?_
  refine pt_d (pt_if_lt gx159_1 z1 (fun e1 => ?_) (fun e1 => ?_))
  · have H := H.1 e1
    refine pt_d (pt_iconst gx159_15 (fun v2 h2 => ?_))
    exact pt_d (pt_iret gx159_16 ⟨_, rfl, by rw [h2]; exact H⟩)
  · have H := H.2 e1
    refine pt_d (pt_1 (fun n d => r_iloadn gx159_4 rfl) ?_)
    refine pt_d (pt_if_lt gx159_5 z2 (fun e3 => ?_) (fun e3 => ?_))
    · have H := H.1 e3
      refine pt_d (pt_iconst gx159_15 (fun v4 h4 => ?_))
      exact pt_d (pt_iret gx159_16 ⟨_, rfl, by rw [h4]; exact H⟩)
    · have H := H.2 e3
      refine pt_d (pt_1 (fun n d => r_iloadn gx159_8 rfl) ?_)
      refine pt_d (pt_stat (as := [.int x3]) (r := []) gx159_9 rfl (show zmt[138]? = some zM138 from rfl) rfl rfl rfl rfl (c_138 S z3) (kqP (fun v5 h5 => ?_)))
      show Pt _ _ _ 12 _ [.int v5] _ _
      refine pt_d (pt_ifB_ne gx159_12 h5 (fun e6 => ?_) (fun e6 => ?_))
      · have H := H.1 e6
        refine pt_d (pt_1 (fun n d => r_iloadn gx159_17 rfl) ?_)
        refine pt_d (pt_bipush gx159_18 (fun v7 h7 => ?_))
        refine pt_d (pt_idiv gx159_20 z1 h7 (fun v8 h8 => ?_))
        refine pt_d (pt_1 (fun n d => r_istore (L' := [some (.ref 0), some (.int x1), some (.int x2), some (.int x3), some (.int v8), none, none, none]) gx159_21 rfl rfl) ?_)
        refine pt_d (pt_1 (fun n d => r_iloadn gx159_23 rfl) ?_)
        refine pt_d (pt_bipush gx159_24 (fun v9 h9 => ?_))
        refine pt_d (pt_irem gx159_26 z1 h9 (fun v10 h10 => ?_))
        refine pt_d (pt_1 (fun n d => r_istore (L' := [some (.ref 0), some (.int x1), some (.int x2), some (.int x3), some (.int v8), some (.int v10), none, none]) gx159_27 rfl rfl) ?_)
        refine pt_d (pt_1 (fun n d => r_iloadn gx159_29 rfl) ?_)
        refine pt_d (pt_bipush gx159_30 (fun v11 h11 => ?_))
        refine pt_d (pt_idiv gx159_32 z2 h11 (fun v12 h12 => ?_))
        refine pt_d (pt_1 (fun n d => r_istore (L' := [some (.ref 0), some (.int x1), some (.int x2), some (.int x3), some (.int v8), some (.int v10), some (.int v12), none]) gx159_33 rfl rfl) ?_)
        refine pt_d (pt_1 (fun n d => r_iloadn gx159_35 rfl) ?_)
        refine pt_d (pt_bipush gx159_36 (fun v13 h13 => ?_))
        refine pt_d (pt_irem gx159_38 z2 h13 (fun v14 h14 => ?_))
        refine pt_d (pt_1 (fun n d => r_istore (L' := [some (.ref 0), some (.int x1), some (.int x2), some (.int x3), some (.int v8), some (.int v10), some (.int v12), some (.int v14)]) gx159_39 rfl rfl) ?_)
        refine pt_d (pt_1 (fun n d => r_iload gx159_41 rfl) ?_)
        refine pt_d (pt_1 (fun n d => r_iload gx159_43 rfl) ?_)
        refine pt_d (pt_icmp_gt gx159_45 h8 h12 (fun e15 => ?_) (fun e15 => ?_))
        · have H := H.1 e15
          refine pt_d (pt_iconst gx159_69 (fun v16 h16 => ?_))
          exact pt_d (pt_iret gx159_70 ⟨_, rfl, by rw [h16]; exact H⟩)
        · have H := H.2 e15
          refine pt_d (pt_1 (fun n d => r_iload gx159_48 rfl) ?_)
          refine pt_d (pt_1 (fun n d => r_iload gx159_50 rfl) ?_)
          refine pt_d (pt_icmp_gt gx159_52 h10 h14 (fun e17 => ?_) (fun e17 => ?_))
          · have H := H.1 e17
            refine pt_d (pt_iconst gx159_69 (fun v18 h18 => ?_))
            exact pt_d (pt_iret gx159_70 ⟨_, rfl, by rw [h18]; exact H⟩)
          · have H := H.2 e17
            refine pt_d (pt_1 (fun n d => r_iload gx159_55 rfl) ?_)
            refine pt_d (pt_bipush gx159_57 (fun v19 h19 => ?_))
            refine pt_d (pt_icmp_ge gx159_59 h12 h19 (fun e20 => ?_) (fun e20 => ?_))
            · have H := H.1 e20
              refine pt_d (pt_iconst gx159_69 (fun v21 h21 => ?_))
              exact pt_d (pt_iret gx159_70 ⟨_, rfl, by rw [h21]; exact H⟩)
            · have H := H.2 e20
              refine pt_d (pt_1 (fun n d => r_iload gx159_62 rfl) ?_)
              refine pt_d (pt_bipush gx159_64 (fun v22 h22 => ?_))
              refine pt_d (pt_icmp_lt gx159_66 h14 h22 (fun e23 => ?_) (fun e23 => ?_))
              · have H := H.1 e23
                refine pt_d (pt_1 (fun n d => r_aloadn gx159_71 rfl) ?_)
                refine pt_d (pt_getR gx159_72 S tr_0_2 ?_)
                refine pt_d (pt_getI (B := 2) gx159_75 S (fun v25 h25 => ?_))
                refine pt_d (pt_bipush gx159_78 (fun v26 h26 => ?_))
                refine pt_d (pt_icmp_lt gx159_80 h25 h26 (fun e27 => ?_) (fun e27 => ?_))
                · have H := H.1 e27
                  refine pt_d (pt_1 (fun n d => r_aloadn gx159_88 rfl) ?_)
                  refine pt_d (pt_getR gx159_89 S tr_0_2 ?_)
                  refine pt_d (pt_1 (fun n d => r_iloadn gx159_92 rfl) ?_)
                  refine pt_d (pt_1 (fun n d => r_iloadn gx159_93 rfl) ?_)
                  refine pt_d (pt_1 (fun n d => r_iloadn gx159_94 rfl) ?_)
                  refine pt_d (pt_virt (as := [.int x1, .int x2, .int x3]) (r := []) gx159_95 rfl (show zmt[32]? = some zM32 from rfl) rfl rfl rfl rfl (c_32 S z1 z2 z3) (kqI (fun v29 y29 h_29 h29 P29 => ?_)))
                  have S29 := P29.1
                  have H := H y29 h_29 P29
                  show Pt _ _ _ 98 _ [.int v29] _ _
                  exact pt_d (pt_iret gx159_98 ⟨_, rfl, by rw [h29]; exact H⟩)
                · have H := H.2 e27
                  refine pt_d (pt_bipush gx159_83 (fun v30 h30 => ?_))
                  refine pt_d (pt_1 (fun n d => r_goto gx159_85) ?_)
                  exact pt_d (pt_iret gx159_98 ⟨_, rfl, by rw [h30]; exact H⟩)
              · have H := H.2 e23
                refine pt_d (pt_iconst gx159_69 (fun v31 h31 => ?_))
                exact pt_d (pt_iret gx159_70 ⟨_, rfl, by rw [h31]; exact H⟩)
      · have H := H.2 e6
        refine pt_d (pt_iconst gx159_15 (fun v32 h32 => ?_))
        exact pt_d (pt_iret gx159_16 ⟨_, rfl, by rw [h32]; exact H⟩)
theorem d232_0 {n : Nat} {X : aX} {h : aH} {P : Int → aH → Prop} {x1 x2 x3 : Int32} {a1 a2 a3 : Int} (S : wS h) (z1 : x1.toInt = a1) (z2 : x2.toInt = a2) (z3 : x3.toInt = a3) (H : ((a1 < 0 → P (-1) h) ∧ (0 ≤ a1 → ((a2 < 0 → P (-1) h) ∧ (0 ≤ a2 → ((¬ (0 ≤ (iDiv a1 100) ∧ (iDiv a1 100) ≤ 23) → P (-1) h) ∧ ((0 ≤ (iDiv a1 100) ∧ (iDiv a1 100) ≤ 23) → ((¬ (0 ≤ (iRem a1 100) ∧ (iRem a1 100) ≤ 23) → P (-1) h) ∧ ((0 ≤ (iRem a1 100) ∧ (iRem a1 100) ≤ 23) → ((¬ ((iDiv a1 100) ≤ (iDiv a2 100) ∧ (iDiv a2 100) ≤ 23) → P (-1) h) ∧ (((iDiv a1 100) ≤ (iDiv a2 100) ∧ (iDiv a2 100) ≤ 23) → ((¬ ((iRem a1 100) ≤ (iRem a2 100) ∧ (iRem a2 100) ≤ 23) → P (-1) h) ∧ (((iRem a1 100) ≤ (iRem a2 100) ∧ (iRem a2 100) ≤ 23) → (((0 ≤ a3 ∧ a3 ≤ 3649) → ((vw h 72 25 ≠ 40 → (0 ≤ vw h 72 25 → vw h 72 25 < 40 → ∀ h_72 : aH, wS h_72 → vw h_72 = up (up (up (up (up (up (up (up (vw h) 92 (vw h 72 25) (iDiv a1 100)) 93 (vw h 72 25) (iRem a1 100)) 94 (vw h 72 25) (iDiv a2 100)) 95 (vw h 72 25) (iRem a2 100)) 96 (vw h 72 25) a3) 97 (vw h 72 25) (vw h 72 1)) 72 25 (w32 ((vw h 72 25) + 1))) 72 38 1 → P (w32 ((vw h 72 25) + 1)) h_72)) ∧ (vw h 72 25 = 40 → P (-3) h))) ∧ (¬ (0 ≤ a3 ∧ a3 ≤ 3649) → P (-1) h))))))))))))))) : Pt (n + 1) X zM232 0 [some (.ref 72), some (.int x1), some (.int x2), some (.int x3)] [] h (qI P) := by
  refine pt_1 (fun n d => r_iloadn gx232_0 rfl) ?_
  refine pt_d (pt_if_lt gx232_1 z1 (fun e1 => ?_) (fun e1 => ?_))
  · have H := H.1 e1
    refine pt_d (pt_iconst gx232_73 (fun v2 h2 => ?_))
    exact pt_d (pt_iret gx232_74 ⟨_, rfl, by rw [h2]; exact H⟩)
  · have H := H.2 e1
    refine pt_d (pt_1 (fun n d => r_iloadn gx232_4 rfl) ?_)
    refine pt_d (pt_if_lt gx232_5 z2 (fun e3 => ?_) (fun e3 => ?_))
    · have H := H.1 e3
      refine pt_d (pt_iconst gx232_73 (fun v4 h4 => ?_))
      exact pt_d (pt_iret gx232_74 ⟨_, rfl, by rw [h4]; exact H⟩)
    · have H := H.2 e3
      refine pt_d (pt_1 (fun n d => r_iloadn gx232_8 rfl) ?_)
      refine pt_d (pt_bipush gx232_9 (fun v5 h5 => ?_))
      refine pt_d (pt_idiv gx232_11 z1 h5 (fun v6 h6 => ?_))
      refine pt_d (pt_iconst gx232_12 (fun v7 h7 => ?_))
      refine pt_d (pt_bipush gx232_13 (fun v8 h8 => ?_))
      refine pt_d (pt_stat (as := [.int v6, .int v7, .int v8]) (r := []) gx232_15 rfl (show zmt[196]? = some zM196 from rfl) rfl rfl rfl rfl (c_196 S h6 h7 h8) (kqP (fun v9 h9 => ?_)))
      show Pt _ _ _ 18 _ [.int v9] _ _
      refine pt_d (pt_ifB_eq gx232_18 h9 (fun e10 => ?_) (fun e10 => ?_))
      · have H := H.1 e10
        refine pt_d (pt_iconst gx232_73 (fun v11 h11 => ?_))
        exact pt_d (pt_iret gx232_74 ⟨_, rfl, by rw [h11]; exact H⟩)
      · have H := H.2 e10
        refine pt_d (pt_1 (fun n d => r_iloadn gx232_21 rfl) ?_)
        refine pt_d (pt_bipush gx232_22 (fun v12 h12 => ?_))
        refine pt_d (pt_irem gx232_24 z1 h12 (fun v13 h13 => ?_))
        refine pt_d (pt_iconst gx232_25 (fun v14 h14 => ?_))
        refine pt_d (pt_bipush gx232_26 (fun v15 h15 => ?_))
        refine pt_d (pt_stat (as := [.int v13, .int v14, .int v15]) (r := []) gx232_28 rfl (show zmt[196]? = some zM196 from rfl) rfl rfl rfl rfl (c_196 S h13 h14 h15) (kqP (fun v16 h16 => ?_)))
        show Pt _ _ _ 31 _ [.int v16] _ _
        refine pt_d (pt_ifB_eq gx232_31 h16 (fun e17 => ?_) (fun e17 => ?_))
        · have H := H.1 e17
          refine pt_d (pt_iconst gx232_73 (fun v18 h18 => ?_))
          exact pt_d (pt_iret gx232_74 ⟨_, rfl, by rw [h18]; exact H⟩)
        · have H := H.2 e17
          refine pt_d (pt_1 (fun n d => r_iloadn gx232_34 rfl) ?_)
          refine pt_d (pt_bipush gx232_35 (fun v19 h19 => ?_))
          refine pt_d (pt_idiv gx232_37 z2 h19 (fun v20 h20 => ?_))
          refine pt_d (pt_1 (fun n d => r_iloadn gx232_38 rfl) ?_)
          refine pt_d (pt_bipush gx232_39 (fun v21 h21 => ?_))
          refine pt_d (pt_idiv gx232_41 z1 h21 (fun v22 h22 => ?_))
          refine pt_d (pt_bipush gx232_42 (fun v23 h23 => ?_))
          refine pt_d (pt_stat (as := [.int v20, .int v22, .int v23]) (r := []) gx232_44 rfl (show zmt[196]? = some zM196 from rfl) rfl rfl rfl rfl (c_196 S h20 h22 h23) (kqP (fun v24 h24 => ?_)))
          show Pt _ _ _ 47 _ [.int v24] _ _
          refine pt_d (pt_ifB_eq gx232_47 h24 (fun e25 => ?_) (fun e25 => ?_))
          · have H := H.1 e25
            refine pt_d (pt_iconst gx232_73 (fun v26 h26 => ?_))
            exact pt_d (pt_iret gx232_74 ⟨_, rfl, by rw [h26]; exact H⟩)
          · have H := H.2 e25
            refine pt_d (pt_1 (fun n d => r_iloadn gx232_50 rfl) ?_)
            refine pt_d (pt_bipush gx232_51 (fun v27 h27 => ?_))
            refine pt_d (pt_irem gx232_53 z2 h27 (fun v28 h28 => ?_))
            refine pt_d (pt_1 (fun n d => r_iloadn gx232_54 rfl) ?_)
            refine pt_d (pt_bipush gx232_55 (fun v29 h29 => ?_))
            refine pt_d (pt_irem gx232_57 z1 h29 (fun v30 h30 => ?_))
            refine pt_d (pt_bipush gx232_58 (fun v31 h31 => ?_))
            refine pt_d (pt_stat (as := [.int v28, .int v30, .int v31]) (r := []) gx232_60 rfl (show zmt[196]? = some zM196 from rfl) rfl rfl rfl rfl (c_196 S h28 h30 h31) (kqP (fun v32 h32 => ?_)))
            show Pt _ _ _ 63 _ [.int v32] _ _
            refine pt_d (pt_ifB_eq gx232_63 h32 (fun e33 => ?_) (fun e33 => ?_))
            · have H := H.1 e33
              refine pt_d (pt_iconst gx232_73 (fun v34 h34 => ?_))
              exact pt_d (pt_iret gx232_74 ⟨_, rfl, by rw [h34]; exact H⟩)
            · have H := H.2 e33
              refine pt_d (pt_1 (fun n d => r_iloadn gx232_66 rfl) ?_)
              refine pt_d (pt_stat (as := [.int x3]) (r := []) gx232_67 rfl (show zmt[197]? = some zM197 from rfl) rfl rfl rfl rfl (c_197 S z3) (kqP (fun v35 h35 => ?_)))
              show Pt _ _ _ 70 _ [.int v35] _ _
              refine pt_d (pt_ifB_ne gx232_70 h35 (fun e36 => ?_) (fun e36 => ?_))
              · have H := H.1 e36
                refine pt_d (pt_1 (fun n d => r_aloadn gx232_75 rfl) ?_)
                refine pt_d (pt_getI (B := 25) gx232_76 S (fun v37 h37 => ?_))
                refine pt_d (pt_bipush gx232_79 (fun v38 h38 => ?_))
                refine pt_d (pt_icmp_ne gx232_81 h37 h38 (fun e39 => ?_) (fun e39 => ?_))
                · have H := H.1 e39
                  refine pt_d (pt_1 (fun n d => r_aloadn gx232_87 rfl) ?_)
                  refine pt_d (pt_getR gx232_88 S tr_72_26 ?_)
                  refine pt_d (pt_1 (fun n d => r_aloadn gx232_91 rfl) ?_)
                  refine pt_d (pt_getI (B := 25) gx232_92 S (fun v41 h41 => ?_))
                  refine pt_d (pt_1 (fun n d => r_iloadn gx232_95 rfl) ?_)
                  refine pt_d (pt_bipush gx232_96 (fun v42 h42 => ?_))
                  refine pt_d (pt_idiv gx232_98 z1 h42 (fun v43 h43 => ?_))
                  refine pt_d (pt_iast (N' := 40) gx232_99 S tl_92 h41 h43 (fun h_44 S44 p44 q44 e44 => ?_))
                  have H := H p44 q44
                  refine pt_d (pt_1 (fun n d => r_aloadn gx232_100 rfl) ?_)
                  refine pt_d (pt_getR gx232_101 S44 tr_72_27 ?_)
                  refine pt_d (pt_1 (fun n d => r_aloadn gx232_104 rfl) ?_)
                  refine pt_d (pt_getI (B := 25) gx232_105 S44 (fun v46 h46 => ?_))
                  have h46 : v46.toInt = vw h 72 25 := by rw [h46, e44, up_c (by decide)]
                  refine pt_d (pt_1 (fun n d => r_iloadn gx232_108 rfl) ?_)
                  refine pt_d (pt_bipush gx232_109 (fun v47 h47 => ?_))
                  refine pt_d (pt_irem gx232_111 z1 h47 (fun v48 h48 => ?_))
                  refine pt_d (pt_iast (N' := 40) gx232_112 S44 tl_93 h46 h48 (fun h_49 S49 p49 q49 e49 => ?_))
                  refine pt_d (pt_1 (fun n d => r_aloadn gx232_113 rfl) ?_)
                  refine pt_d (pt_getR gx232_114 S49 tr_72_28 ?_)
                  refine pt_d (pt_1 (fun n d => r_aloadn gx232_117 rfl) ?_)
                  refine pt_d (pt_getI (B := 25) gx232_118 S49 (fun v51 h51 => ?_))
                  have h51 : v51.toInt = vw h 72 25 := by rw [h51, e49, up_c (by decide), e44, up_c (by decide)]
                  refine pt_d (pt_1 (fun n d => r_iloadn gx232_121 rfl) ?_)
                  refine pt_d (pt_bipush gx232_122 (fun v52 h52 => ?_))
                  refine pt_d (pt_idiv gx232_124 z2 h52 (fun v53 h53 => ?_))
                  refine pt_d (pt_iast (N' := 40) gx232_125 S49 tl_94 h51 h53 (fun h_54 S54 p54 q54 e54 => ?_))
                  refine pt_d (pt_1 (fun n d => r_aloadn gx232_126 rfl) ?_)
                  refine pt_d (pt_getR gx232_127 S54 tr_72_29 ?_)
                  refine pt_d (pt_1 (fun n d => r_aloadn gx232_130 rfl) ?_)
                  refine pt_d (pt_getI (B := 25) gx232_131 S54 (fun v56 h56 => ?_))
                  have h56 : v56.toInt = vw h 72 25 := by rw [h56, e54, up_c (by decide), e49, up_c (by decide), e44, up_c (by decide)]
                  refine pt_d (pt_1 (fun n d => r_iloadn gx232_134 rfl) ?_)
                  refine pt_d (pt_bipush gx232_135 (fun v57 h57 => ?_))
                  refine pt_d (pt_irem gx232_137 z2 h57 (fun v58 h58 => ?_))
                  refine pt_d (pt_iast (N' := 40) gx232_138 S54 tl_95 h56 h58 (fun h_59 S59 p59 q59 e59 => ?_))
                  refine pt_d (pt_1 (fun n d => r_aloadn gx232_139 rfl) ?_)
                  refine pt_d (pt_getR gx232_140 S59 tr_72_30 ?_)
                  refine pt_d (pt_1 (fun n d => r_aloadn gx232_143 rfl) ?_)
                  refine pt_d (pt_getI (B := 25) gx232_144 S59 (fun v61 h61 => ?_))
                  have h61 : v61.toInt = vw h 72 25 := by rw [h61, e59, up_c (by decide), e54, up_c (by decide), e49, up_c (by decide), e44, up_c (by decide)]
                  refine pt_d (pt_1 (fun n d => r_iloadn gx232_147 rfl) ?_)
                  refine pt_d (pt_iast (N' := 40) gx232_148 S59 tl_96 h61 z3 (fun h_62 S62 p62 q62 e62 => ?_))
                  refine pt_d (pt_1 (fun n d => r_aloadn gx232_149 rfl) ?_)
                  refine pt_d (pt_getR gx232_150 S62 tr_72_31 ?_)
                  refine pt_d (pt_1 (fun n d => r_aloadn gx232_153 rfl) ?_)
                  refine pt_d (pt_getI (B := 25) gx232_154 S62 (fun v64 h64 => ?_))
                  have h64 : v64.toInt = vw h 72 25 := by rw [h64, e62, up_c (by decide), e59, up_c (by decide), e54, up_c (by decide), e49, up_c (by decide), e44, up_c (by decide)]
                  refine pt_d (pt_1 (fun n d => r_aloadn gx232_157 rfl) ?_)
                  refine pt_d (pt_getI (B := 1) gx232_158 S62 (fun v65 h65 => ?_))
                  have h65 : v65.toInt = vw h 72 1 := by rw [h65, e62, up_c (by decide), e59, up_c (by decide), e54, up_c (by decide), e49, up_c (by decide), e44, up_c (by decide)]
                  refine pt_d (pt_iast (N' := 40) gx232_161 S62 tl_97 h64 h65 (fun h_66 S66 p66 q66 e66 => ?_))
                  refine pt_d (pt_1 (fun n d => r_aloadn gx232_162 rfl) ?_)
                  refine pt_d (pt_1 (fun n d => r_dup gx232_163 rfl) ?_)
                  refine pt_d (pt_getI (B := 25) gx232_164 S66 (fun v67 h67 => ?_))
                  have h67 : v67.toInt = vw h 72 25 := by rw [h67, e66, up_c (by decide), e62, up_c (by decide), e59, up_c (by decide), e54, up_c (by decide), e49, up_c (by decide), e44, up_c (by decide)]
                  refine pt_d (pt_iconst gx232_167 (fun v68 h68 => ?_))
                  refine pt_d (pt_iadd gx232_168 h67 h68 (fun v69 h69 => ?_))
                  refine pt_d (pt_putI (B := 25) gx232_169 S66 h69 (fun h_70 S70 e70 => ?_))
                  refine pt_d (pt_1 (fun n d => r_aloadn gx232_172 rfl) ?_)
                  refine pt_d (pt_iconst gx232_173 (fun v71 h71 => ?_))
                  refine pt_d (pt_putI (B := 38) gx232_174 S70 h71 (fun h_72 S72 e72 => ?_))
                  refine pt_d (pt_1 (fun n d => r_aloadn gx232_177 rfl) ?_)
                  refine pt_d (pt_getI (B := 25) gx232_178 S72 (fun v73 h73 => ?_))
                  have h73 : v73.toInt = w32 ((vw h 72 25) + 1) := by rw [h73, e72, up_j (by decide), e70, up_s]
                  have H := H h_72 S72 (by rw [e72, e70, e66, e62, e59, e54, e49, e44])
                  exact pt_d (pt_iret gx232_181 ⟨_, rfl, by rw [h73]; exact H⟩)
                · have H := H.2 e39
                  refine pt_d (pt_bipush gx232_84 (fun v74 h74 => ?_))
                  exact pt_d (pt_iret gx232_86 ⟨_, rfl, by rw [h74]; exact H⟩)
              · have H := H.2 e36
                refine pt_d (pt_iconst gx232_73 (fun v75 h75 => ?_))
                exact pt_d (pt_iret gx232_74 ⟨_, rfl, by rw [h75]; exact H⟩)
def okOut (a b d : Int) : Prop := 0 ≤ a ∧ 0 ≤ b ∧ (0 ≤ d ∧ d ≤ 3649) ∧ iDiv a 100 ≤ iDiv b 100 ∧ iRem a 100 ≤ iRem b 100 ∧ iDiv b 100 < 24 ∧ iRem b 100 < 24
def R159 (V : vS) (a b d r : Int) (V' : vS) : Prop := (a ≤ 2147483647 ∧ b ≤ 2147483647) ∧ ((¬ okOut a b d ∧ r = -1 ∧ V' = V) ∨ (okOut a b d ∧ 40 ≤ V 16 2 ∧ r = -3 ∧ V' = V) ∨ (okOut a b d ∧ V 16 2 < 40 ∧ R32 V a b d r V'))
theorem c_159 {n : Nat} {X : aX} {h : aH} {x1 x2 x3 : Int32} {a1 a2 a3 : Int} (S : wS h) (z1 : x1.toInt = a1) (z2 : x2.toInt = a2) (z3 : x3.toInt = a3) : Pt n X zM159 0 [some (.ref 0), some (.int x1), some (.int x2), some (.int x3), none, none, none, none] [] h (qI (fun y h' => R159 (vw h) a1 a2 a3 y (vw h'))) := by
  have b1 : a1 ≤ 2147483647 := by have := iR x1; omega
  have b2 : a2 ≤ 2147483647 := by have := iR x2; omega
  have bad : ¬ okOut a1 a2 a3 → R159 (vw h) a1 a2 a3 (-1) (vw h) := fun z => ⟨⟨b1, b2⟩, Or.inl ⟨z, rfl, rfl⟩⟩
  refine pt_d (d159_0 S z1 z2 z3 ⟨fun e => bad ?_, fun e => ⟨fun e2 => bad ?_, fun e2 => ⟨fun e3 => ⟨fun e4 => bad ?_, fun e4 => ⟨fun e5 => bad ?_, fun e5 => ⟨fun e6 => bad ?_, fun e6 => ⟨fun e7 => ?_, fun e7 => bad ?_⟩⟩⟩⟩, fun e3 => bad ?_⟩⟩⟩)
  all_goals try (unfold okOut; omega)
  have ok : okOut a1 a2 a3 := ⟨e, e2, e3, e4, e5, e6, e7⟩
  exact ⟨fun e8 y g p => ⟨⟨b1, b2⟩, Or.inr (Or.inr ⟨ok, e8, p.2⟩)⟩, fun e8 => ⟨⟨b1, b2⟩, Or.inr (Or.inl ⟨ok, e8, rfl, rfl⟩)⟩⟩
def okOum (a b d : Int) : Prop := 0 ≤ a ∧ 0 ≤ b ∧ (0 ≤ iDiv a 100 ∧ iDiv a 100 ≤ 23) ∧ (0 ≤ iRem a 100 ∧ iRem a 100 ≤ 23) ∧ (iDiv a 100 ≤ iDiv b 100 ∧ iDiv b 100 ≤ 23) ∧ (iRem a 100 ≤ iRem b 100 ∧ iRem b 100 ≤ 23) ∧ 0 ≤ d ∧ d ≤ 3649
def mOutV (V : vS) (a b d : Int) : vS := up (up (up (up (up (up (up (up V 92 (V 72 25) (iDiv a 100)) 93 (V 72 25) (iRem a 100)) 94 (V 72 25) (iDiv b 100)) 95 (V 72 25) (iRem b 100)) 96 (V 72 25) d) 97 (V 72 25) (V 72 1)) 72 25 (w32 (V 72 25 + 1))) 72 38 1
def R232 (V : vS) (a b d r : Int) (V' : vS) : Prop := (¬ okOum a b d ∧ r = -1 ∧ V' = V) ∨ (okOum a b d ∧ V 72 25 = 40 ∧ r = -3 ∧ V' = V) ∨ (okOum a b d ∧ V 72 25 ≠ 40 ∧ r = w32 (V 72 25 + 1) ∧ V' = mOutV V a b d)
theorem c_232 {n : Nat} {X : aX} {h : aH} {x1 x2 x3 : Int32} {a1 a2 a3 : Int} (S : wS h) (z1 : x1.toInt = a1) (z2 : x2.toInt = a2) (z3 : x3.toInt = a3) : Pt n X zM232 0 [some (.ref 72), some (.int x1), some (.int x2), some (.int x3)] [] h (qI (fun y h' => R232 (vw h) a1 a2 a3 y (vw h'))) := by
  have bad : ¬ okOum a1 a2 a3 → R232 (vw h) a1 a2 a3 (-1) (vw h) := fun z => Or.inl ⟨z, rfl, rfl⟩
  refine pt_d (d232_0 S z1 z2 z3 ⟨fun e => bad ?_, fun e => ⟨fun e2 => bad ?_, fun e2 => ⟨fun e3 => bad ?_, fun e3 => ⟨fun e4 => bad ?_, fun e4 => ⟨fun e5 => bad ?_, fun e5 => ⟨fun e6 => bad ?_, fun e6 => ⟨fun e7 => ?_, fun e7 => bad ?_⟩⟩⟩⟩⟩⟩⟩)
  all_goals try (unfold okOum; omega)
  have ok : okOum a1 a2 a3 := ⟨e, e2, e3, e4, e5, e6, e7⟩
  exact ⟨fun e8 p q g S2 eg => Or.inr (Or.inr ⟨ok, e8, rfl, eg⟩), fun e8 => Or.inr (Or.inl ⟨ok, e8, rfl, rfl⟩)⟩
end
section
def JOut1 (V : vS) (j : Int) : Prop := V 92 j = iDiv (V 23 j) 100 ∧ V 93 j = iRem (V 23 j) 100 ∧ V 94 j = iDiv (V 24 j) 100 ∧ V 95 j = iRem (V 24 j) 100 ∧ V 96 j = V 25 j ∧ V 97 j = V 26 j
def JOut (V : vS) : Prop := V 16 2 = V 72 25 ∧ 0 ≤ V 16 2 ∧ V 16 2 ≤ 40 ∧ ∀ j, 0 ≤ j → j < V 16 2 → JOut1 V j
theorem okOut_j {a b d : Int} (ha : a ≤ 2147483647) (hb : b ≤ 2147483647) : okOut a b d ↔ okOum a b d := by
  unfold okOut okOum
  constructor
  · rintro ⟨h1, h2, h3, h4, h5, h6, h7⟩
    have e1 := iDiv_pos (a := a) (b := 100) h1 ha (by decide) (by decide)
    have e2 := iRem_pos (a := a) (b := 100) h1 ha (by decide) (by decide)
    have e3 := iDiv_pos (a := b) (b := 100) h2 hb (by decide) (by decide)
    have e4 := iRem_pos (a := b) (b := 100) h2 hb (by decide) (by decide)
    omega
  · rintro ⟨h1, h2, h3, h4, h5, h6, h7⟩
    omega
theorem jx_15 {V V1 V2 : vS} {a b d r1 r2 : Int} (L : JOut V) (hd : V 1 0 = V 72 1) (c : R159 V a b d r1 V1) (m : R232 V1 a b d r2 V2) : JOut V2 ∧ r1 = r2 := by
  obtain ⟨⟨ha, hb⟩, c⟩ := c
  have ok := okOut_j (d := d) ha hb
  have L0 := L
  obtain ⟨l1, l2, l3, l4⟩ := L0
  rcases c with ⟨k, rfl, rfl⟩ | ⟨k, k1, rfl, rfl⟩ | ⟨k, k1, ⟨k2, -, -⟩ | ⟨k2, k3, hr, rfl⟩⟩
  · rcases m with ⟨b0, rfl, rfl⟩ | ⟨b0, -⟩ | ⟨b0, -⟩
    · exact ⟨L, rfl⟩
    · exact absurd (ok.mpr b0) k
    · exact absurd (ok.mpr b0) k
  · rcases m with ⟨b0, rfl, rfl⟩ | ⟨b0, b1, rfl, rfl⟩ | ⟨b0, b1, -⟩
    · exact absurd (ok.mp k) b0
    · exact ⟨L, rfl⟩
    · omega
  · omega
  · have w : ∀ (c : Nat) (j : Int), c ≠ 16 → c ≠ 23 → c ≠ 24 → c ≠ 25 → c ≠ 26 → cOutV V a b d c j = V c j := fun c j h1 h2 h3 h4 h5 => by unfold cOutV; rw [up_c h1, up_c h5, up_c h4, up_c h3, up_c h2]
    have w16 : cOutV V a b d 16 2 = w32 (V 16 2 + 1) := by unfold cOutV; rw [up_s]
    have w23 : ∀ j, cOutV V a b d 23 j = if j = V 16 2 then a else V 23 j := fun j => by unfold cOutV; rw [up_c (by decide), up_c (by decide), up_c (by decide), up_c (by decide), up_p]
    have w24 : ∀ j, cOutV V a b d 24 j = if j = V 16 2 then b else V 24 j := fun j => by unfold cOutV; rw [up_c (by decide), up_c (by decide), up_c (by decide), up_p, up_c (by decide)]
    have w25 : ∀ j, cOutV V a b d 25 j = if j = V 16 2 then d else V 25 j := fun j => by unfold cOutV; rw [up_c (by decide), up_c (by decide), up_p, up_c (by decide), up_c (by decide)]
    have w26 : ∀ j, cOutV V a b d 26 j = if j = V 16 2 then V 1 0 else V 26 j := fun j => by unfold cOutV; rw [up_c (by decide), up_p, up_c (by decide), up_c (by decide), up_c (by decide)]
    generalize cOutV V a b d = W at m w w16 w23 w24 w25 w26
    have y : ∀ (c : Nat) (j : Int), 72 ≤ c → W c j = V c j := fun c j h => w c j (by omega) (by omega) (by omega) (by omega) (by omega)
    have e25 := y 72 25 (by decide)
    have e1 := y 72 1 (by decide)
    have w1 : w32 (V 16 2 + 1) = V 16 2 + 1 := w32_id (by omega) (by omega)
    rcases m with ⟨b0, -⟩ | ⟨b0, b1, -⟩ | ⟨b0, b1, hr2, rfl⟩
    · exact absurd (ok.mp k) b0
    · omega
    · have q : ∀ (c : Nat) (j : Int), c ≠ 72 → c ≠ 92 → c ≠ 93 → c ≠ 94 → c ≠ 95 → c ≠ 96 → c ≠ 97 → mOutV W a b d c j = W c j := fun c j h1 h2 h3 h4 h5 h6 h7 => by unfold mOutV; rw [up_c h1, up_c h1, up_c h7, up_c h6, up_c h5, up_c h4, up_c h3, up_c h2]
      have q25 : mOutV W a b d 72 25 = w32 (W 72 25 + 1) := by unfold mOutV; rw [up_j (by decide), up_s]
      have q92 : ∀ j, mOutV W a b d 92 j = if j = W 72 25 then iDiv a 100 else W 92 j := fun j => by unfold mOutV; rw [up_c (by decide), up_c (by decide), up_c (by decide), up_c (by decide), up_c (by decide), up_c (by decide), up_c (by decide), up_p]
      have q93 : ∀ j, mOutV W a b d 93 j = if j = W 72 25 then iRem a 100 else W 93 j := fun j => by unfold mOutV; rw [up_c (by decide), up_c (by decide), up_c (by decide), up_c (by decide), up_c (by decide), up_c (by decide), up_p, up_c (by decide)]
      have q94 : ∀ j, mOutV W a b d 94 j = if j = W 72 25 then iDiv b 100 else W 94 j := fun j => by unfold mOutV; rw [up_c (by decide), up_c (by decide), up_c (by decide), up_c (by decide), up_c (by decide), up_p, up_c (by decide), up_c (by decide)]
      have q95 : ∀ j, mOutV W a b d 95 j = if j = W 72 25 then iRem b 100 else W 95 j := fun j => by unfold mOutV; rw [up_c (by decide), up_c (by decide), up_c (by decide), up_c (by decide), up_p, up_c (by decide), up_c (by decide), up_c (by decide)]
      have q96 : ∀ j, mOutV W a b d 96 j = if j = W 72 25 then d else W 96 j := fun j => by unfold mOutV; rw [up_c (by decide), up_c (by decide), up_c (by decide), up_p, up_c (by decide), up_c (by decide), up_c (by decide), up_c (by decide)]
      have q97 : ∀ j, mOutV W a b d 97 j = if j = W 72 25 then W 72 1 else W 97 j := fun j => by unfold mOutV; rw [up_c (by decide), up_c (by decide), up_p, up_c (by decide), up_c (by decide), up_c (by decide), up_c (by decide), up_c (by decide)]
      generalize mOutV W a b d = U at q q25 q92 q93 q94 q95 q96 q97
      have u16 : U 16 2 = V 16 2 + 1 := by rw [q 16 2 (by decide) (by decide) (by decide) (by decide) (by decide) (by decide) (by decide), w16, w1]
      refine ⟨⟨by rw [u16, q25, e25, ← l1, w1], by omega, by omega, fun j j0 j1 => ?_⟩, by rw [hr, hr2, e25, l1]⟩
      rw [u16] at j1
      unfold JOut1
      rw [q92, q93, q94, q95, q96, q97, q 23 j (by decide) (by decide) (by decide) (by decide) (by decide) (by decide) (by decide), q 24 j (by decide) (by decide) (by decide) (by decide) (by decide) (by decide) (by decide), q 25 j (by decide) (by decide) (by decide) (by decide) (by decide) (by decide) (by decide), q 26 j (by decide) (by decide) (by decide) (by decide) (by decide) (by decide) (by decide), w23, w24, w25, w26, e25, e1, ← l1, ← hd, y 92 j (by decide), y 93 j (by decide), y 94 j (by decide), y 95 j (by decide), y 96 j (by decide), y 97 j (by decide)]
      by_cases z : j = V 16 2
      · simp only [if_pos z, and_self]
      · simp only [if_neg z]
        exact l4 j j0 (by omega)
def LOut : List (Nat × Option Nat) := [(16, some 2), (72, some 25), (92, none), (93, none), (94, none), (95, none), (96, none), (97, none), (23, none), (24, none), (25, none), (26, none)]
theorem JOut_ag {V V' : vS} (J : JOut V) (A : ag LOut V V') : JOut V' := by
  obtain ⟨a1, a2, a3, a4, a5, a6, a7, a8, a9, a10, a11, a12, -⟩ := A
  have a1 : V' 16 2 = V 16 2 := a1
  have a2 : V' 72 25 = V 72 25 := a2
  unfold JOut JOut1
  simp only [a1, a2, a3, a4, a5, a6, a7, a8, a9, a10, a11, a12]
  exact J
theorem JOut_dG {W : List (Nat × Nat)} {σ σ1 : List Nat} {h h1 : aH} (J : JOut (vw h)) (I : dI σ h) (G : dG W σ h σ1 h1) (k : frL W LOut = true) : JOut (vw h1) := JOut_ag J (ag_dG I.1 G _ k)
theorem zJOut0 : JOut (vw zH0) := by
  have e1 : vw zH0 16 2 = 0 := vzf (i := 2) (x := 0) zh16 rfl
  have e2 : vw zH0 72 25 = 0 := vzf (i := 25) (x := 0) zh72 rfl
  exact ⟨by rw [e1, e2], by rw [e1]; decide, by rw [e1]; decide, fun j h0 h1 => by rw [e1] at h1; omega⟩
end
section
-- ===== the rows of squares of both sides are one =====
def tb (a : Int) (x : Nat) : Bool := (Int32.ofInt a).toBitVec.getLsbD x
end

-- ===== what is seen of fields =====
-- the elements of rows of bytes are bytes
theorem w8_r (z : Int) : -128 ≤ w8 z ∧ w8 z ≤ 127 := by unfold w8; omega
theorem jb_44 {V V1 V2 : vS} {s b r1 r2 : Int} (B : JByt V) (c : R188 V s b r1 V1) (m : R319 V1 s b r2 V2) : JByt V2 := by
  have k1 : JByt V1 := by
    rcases c with ⟨-, -, rfl⟩ | ⟨a, -, -, rfl⟩ | ⟨a, -, -, -, rfl⟩
    · exact B
    all_goals
      intro s' h0 h1 e i i0 i1
      rw [up_c (by decide)] at e
      rw [up_c (by decide), up_c (by decide)]
      by_cases q : s' = s
      · subst q
        rw [up_s] at e
        exact absurd e (by decide)
      · rw [up_j q] at e i1
        rw [up_c (by decide)] at i1
        exact B s' h0 h1 e i i0 i1
  have e : ∀ c j, c ≠ 142 → V2 c j = V1 c j := by
    rcases m with ⟨-, -, rfl⟩ | ⟨-, -, -, rfl⟩
    · exact fun _ _ _ => rfl
    · exact fun c j h => up_c h
  intro s' h0 h1 e' i i0 i1
  rw [e _ _ (by decide)] at e' i1 ⊢
  exact k1 s' h0 h1 e' i i0 i1
theorem jb_45 {V V1 V2 : vS} {s t m r1 r2 : Int} (B : JByt V) (c : R189 V s t m r1 V1) (mm : R320 V1 s t m r2 V2) : JByt V2 := by
  have k1 : JByt V1 := by
    rcases c with ⟨-, -, rfl⟩ | ⟨-, -, -, rfl⟩ | ⟨a, a1, -, rfl⟩
    · exact B
    · exact B
    · obtain ⟨a2, a3, a4⟩ := a
      intro s' h0 h1 e i i0 i1
      rw [fillV_c (by decide), up_c (by decide)] at e
      rw [fillV_c (by decide)] at i1
      by_cases q : s' = s
      · subst q
        rw [up_s] at i1
        rw [fillV_i (by omega)]
        decide
      · rw [up_j q] at e i1
        rw [up_c (by decide)] at i1
        by_cases z : 60 * s ≤ 60 * s' + i ∧ 60 * s' + i < 60 * s + m
        · rw [fillV_i z]
          decide
        · rw [fillV_o z, up_c (by decide), up_c (by decide)]
          exact B s' h0 h1 e i i0 i1
  have e : ∀ c j, c ≠ 142 → c ≠ 143 → c ≠ 144 → V2 c j = V1 c j := by
    rcases mm with ⟨-, -, rfl⟩ | ⟨-, -, -, rfl⟩ | ⟨-, -, -, rfl⟩
    · exact fun _ _ _ _ _ => rfl
    · exact fun _ _ _ _ _ => rfl
    · exact fun c j h h2 h3 => by rw [fillV_c h3, up_c h2, up_c h]
  intro s' h0 h1 e' i i0 i1
  rw [e _ _ (by decide) (by decide) (by decide)] at e' i1 ⊢
  exact k1 s' h0 h1 e' i i0 i1
theorem jb_46 {V V1 V2 : vS} {s i v r1 r2 : Int} (L : JShelf V) (B : JByt V) (c : R190 V s i v r1 V1) (m : R322 V1 s i v r2 V2) : JByt V2 := by
  have k1 : JByt V1 := by
    rcases c with ⟨-, -, rfl⟩ | ⟨a, c⟩
    · exact B
    rcases c with ⟨-, -, rfl⟩ | ⟨-, -, -, rfl⟩ | ⟨c1, c2, -, rfl⟩
    · exact B
    · exact B
    · intro s' h0 h1 e j j0 j1
      rw [up_c (by decide)] at e j1
      rw [up_p]
      by_cases z : 60 * s' + j = 60 * s + i
      · rw [if_pos z]
        have Ls := L s a.1 a.2
        have Ls' := L s' h0 h1
        have es : s' = s := by
          unfold JSh1 at Ls Ls'
          have : V 69 s ≠ 5 := fun w => by rw [cR1_b w] at c1; exact absurd c1 (by decide)
          have : V 69 s ≠ -1 := fun w => by rw [cR1_n w] at c1; exact absurd c1 (by decide)
          omega
        subst es
        unfold cLow
        rw [if_pos e]
        exact w8_r _
      · rw [if_neg z]
        exact B s' h0 h1 e j j0 j1
  have e : ∀ c j, c ≠ 144 → V2 c j = V1 c j := by
    rcases m with ⟨-, -, rfl⟩ | ⟨-, -, rfl⟩
    · exact fun _ _ _ => rfl
    · exact fun c j h => up_c h
  intro s' h0 h1 e' i i0 i1
  rw [e _ _ (by decide)] at e' i1 ⊢
  exact k1 s' h0 h1 e' i i0 i1
theorem jb_48 {V V1 V2 : vS} {s i o j m r1 r2 : Int} (L : JShelf V) (B : JByt V) (c : R192 V s i o j m r1 V1) (mm : R324 V1 s i o j m r2 V2) : JByt V2 := by
  have k1 : JByt V1 := by
    rcases c with ⟨-, -, rfl⟩ | ⟨a, c⟩
    · exact B
    rcases c with ⟨-, -, rfl⟩ | ⟨c0, c⟩
    · exact B
    rcases c with ⟨-, -, rfl⟩ | ⟨c1, c⟩
    · exact B
    rcases c with ⟨-, -, rfl⟩ | ⟨c2, -, rfl⟩
    · exact B
    · have Ls := L s a.1.1 a.1.2
      have Lo := L o a.2.1 a.2.2
      intro s' h0 h1 e k k0 k1
      rw [cpy_c (by decide)] at e k1
      have Ls' := L s' h0 h1
      unfold cpy
      by_cases z : (71 : Nat) = 71 ∧ 60 * o + j ≤ 60 * s' + k ∧ 60 * s' + k < 60 * o + j + m
      · rw [if_pos z]
        have n1 : V 69 s ≠ 5 := fun w => c1 (Or.inl (cR1_b w))
        have n2 : V 69 s ≠ -1 := fun w => c0 (Or.inl (cR1_n w))
        have n3 : V 69 s = V 69 o := by
          rcases Int.lt_or_le (V 69 s) (V 69 o) with w | w
          · exact absurd (Or.inr (Or.inr (by omega))) c1
          · rcases Int.lt_or_le (V 69 o) (V 69 s) with w2 | w2
            · exact absurd (Or.inr (Or.inr (by omega))) c1
            · omega
        have es : s' = o := by
          unfold JSh1 at Ls Lo Ls'
          omega
        subst es
        have ei : 60 * s + i + (60 * s' + k - (60 * s' + j)) = 60 * s + (i + (k - j)) := by omega
        rw [ei]
        exact B s a.1.1 a.1.2 (n3.trans e) _ (by omega) (by omega)
      · rw [if_neg z]
        exact B s' h0 h1 e k k0 k1
  have e : ∀ c j', c ≠ 144 → c ≠ 145 → V2 c j' = V1 c j' := by
    rcases mm with ⟨-, -, rfl⟩ | ⟨-, mm⟩
    · exact fun _ _ _ _ => rfl
    rcases mm with ⟨-, -, rfl⟩ | ⟨-, mm⟩
    · exact fun _ _ _ _ => rfl
    rcases mm with ⟨-, -, rfl⟩ | ⟨-, mm⟩
    · exact fun _ _ _ _ => rfl
    rcases mm with ⟨-, -, rfl⟩ | ⟨-, -, mm⟩
    · exact fun _ _ _ _ => rfl
    · exact fun c j' h h2 => by rw [mm c j' h2, cpy_c h]
  intro s' h0 h1 e' k k0 k1'
  rw [e _ _ (by decide) (by decide)] at e' k1' ⊢
  exact k1 s' h0 h1 e' k k0 k1'


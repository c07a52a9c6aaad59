-- ===== seasons: both sides =====
def lxl (V : vS) (c d : Int) : Prop := V 17 c < V 17 d ∨ (V 17 c = V 17 d ∧ (V 18 c < V 18 d ∨ (V 18 c = V 18 d ∧ c < d)))
def JOrd (V : vS) : Prop := (∀ p, 0 ≤ p → p < V 16 1 → 0 ≤ V 21 p ∧ V 21 p < V 16 1) ∧ (∀ p p', 0 ≤ p → p < p' → p' < V 16 1 → lxl V (V 21 p) (V 21 p')) ∧ (∀ c, 0 ≤ c → c < V 16 1 → ∃ p, (0 ≤ p ∧ p < V 16 1) ∧ V 21 p = c) ∧ ∀ c c', 0 ≤ c → c ≤ c' → c' < V 16 1 → V 20 c ≤ V 20 c'
theorem yr_mono {a b : Int} (h0 : 0 ≤ a) (h : a ≤ b) (hb : b ≤ 2147483647) : iDiv a 365 ≤ iDiv b 365 := by
  rw [iDiv_pos h0 (by omega) (by decide) (by decide), iDiv_pos (by omega) hb (by decide) (by decide)]
  omega
theorem cnt_l {V : vS} (C : JClm V) (B : JBody V) (O : JOrd V) (hd : ∀ c, 0 ≤ V 20 c ∧ V 20 c ≤ 2147483647) {p y k : Int} (p0 : 0 ≤ p) (pN : p < V 16 1) : cnt V p y k ↔ LkM V k y (V 21 p) := by
  obtain ⟨cN, c17, c18, -, c20, -, -⟩ := C
  obtain ⟨o1, o2, o3, o4⟩ := O
  have g : ∀ b, V 77 b < 0 ↔ V 5 b = -1 := fun b => by
    have := (B.2.2.2.2.2.2.2.1 b).1
    rw [← B.2.2.2.1 b]
    omega
  have g5 : ∀ b, V 77 b = V 5 b := fun b => (B.2.2.2.1 b).symm
  have r1 := o1 p p0 pN
  unfold cnt wsM LkM mcn
  rw [g, g5, ← c18, ← c20, ← cN]
  constructor
  · rintro ⟨⟨wy, wk⟩, gv, nx⟩
    refine ⟨⟨wk, gv, fun o co oN l => ?_⟩, wy⟩
    obtain ⟨l1, l2, l3, l4⟩ := l
    rw [← c17, ← c17] at l2
    rw [← c18, ← c18] at l3
    rw [← c20, ← c20] at l4
    rw [← c20] at l1
    obtain ⟨p', ⟨q0, qN⟩, e⟩ := o3 o (by omega) oN
    have lt : p < p' := by
      rcases Int.lt_trichotomy p p' with z | z | z
      · exact z
      · rw [← z] at e
        omega
      · have := o2 p' p q0 z pN
        unfold lxl at this
        rw [e] at this
        omega
    have s1 := o2 p (p + 1) p0 (by omega) (by omega)
    have r2 := o1 (p + 1) (by omega) (by omega)
    have s2 : V 21 (p + 1) = o ∨ lxl V (V 21 (p + 1)) o := by
      by_cases z : p + 1 = p'
      · rw [z]; exact Or.inl e
      · have := o2 (p + 1) p' (by omega) (by omega) qN
        rw [e] at this
        exact Or.inr this
    unfold lxl at s1 s2
    have k1 : V 17 (V 21 (p + 1)) = V 17 (V 21 p) ∧ V 18 (V 21 (p + 1)) = V 18 (V 21 p) ∧ V 21 p < V 21 (p + 1) ∧ V 21 (p + 1) ≤ o := by
      rcases s2 with z | z
      · rw [z] at s1 ⊢
        exact ⟨l2, l3, co, Int.le_refl _⟩
      · omega
    rcases nx with z | z | z
    · omega
    · unfold bhd at z
      omega
    · have d1 := o4 _ _ r1.1 (Int.le_of_lt k1.2.2.1) r2.2
      have d2 := o4 _ _ r2.1 k1.2.2.2 oN
      have y1 := yr_mono (hd _).1 d1 (hd _).2
      have y2 := yr_mono (hd _).1 d2 (hd _).2
      exact z ⟨by omega, by omega⟩
  · rintro ⟨⟨wk, gv, no⟩, wy⟩
    refine ⟨⟨wy, wk⟩, gv, ?_⟩
    by_cases h1 : V 16 1 ≤ p + 1
    · exact Or.inl h1
    · by_cases h2 : bhd V (V 21 (p + 1)) (V 17 (V 21 p)) (V 18 (V 21 p))
      · exact Or.inr (Or.inl h2)
      · refine Or.inr (Or.inr (fun w => ?_))
        have s1 := o2 p (p + 1) p0 (by omega) (by omega)
        have r2 := o1 (p + 1) (by omega) (by omega)
        unfold lxl at s1
        unfold bhd at h2
        refine no (V 21 (p + 1)) (by omega) r2.2 ⟨?_, ?_, ?_, ?_⟩
        · rw [← c20]; exact w.2
        · rw [← c17, ← c17]; omega
        · rw [← c18, ← c18]; omega
        · rw [← c20, ← c20, w.1, wy]
theorem cnN_s (V : vS) (y k : Int) : ∀ N i : Nat, i < cnN V y k N → ∃ p : Nat, p < N ∧ cnt V (p : Nat) y k ∧ cnN V y k p = i
  | 0, i, h => absurd h (Nat.not_lt_zero _)
  | N + 1, i, h => by
    by_cases z : cnt V (N : Nat) y k
    · rw [cnN_t z] at h
      by_cases w : i < cnN V y k N
      · obtain ⟨p, a, b⟩ := cnN_s V y k N i w
        exact ⟨p, by omega, b⟩
      · exact ⟨N, by omega, z, by omega⟩
    · rw [cnN_f z] at h
      obtain ⟨p, a, b⟩ := cnN_s V y k N i h
      exact ⟨p, by omega, b⟩
theorem cnN_lt {V : vS} {y k : Int} {p p' : Nat} (h : p < p') (z : cnt V (p : Nat) y k) : cnN V y k p < cnN V y k p' := by
  have := cnN_mono V y k (show p + 1 ≤ p' from h)
  rw [cnN_t z] at this
  omega
-- the list of a season, as places of the order
def lis (V : vS) (q : Nat) (y k : Int) : Prop := V q 5 = ((cnN V y k (V 16 1).toNat : Nat) : Int) ∧ ∀ p : Nat, (p : Int) < V 16 1 → cnt V (p : Nat) y k → V (q + 1) ((cnN V y k p : Nat) : Int) = V 21 (p : Nat)
theorem li_s {V : vS} {q : Nat} {y k : Int} (L : lis V q y k) {i : Int} (i0 : 0 ≤ i) (iN : i < V q 5) : ∃ p : Nat, (p : Int) < V 16 1 ∧ cnt V (p : Nat) y k ∧ ((cnN V y k p : Nat) : Int) = i ∧ V (q + 1) i = V 21 (p : Nat) := by
  have e := L.1
  obtain ⟨p, a, b, c⟩ := cnN_s V y k (V 16 1).toNat i.toNat (by omega)
  have ci : ((cnN V y k p : Nat) : Int) = i := by omega
  refine ⟨p, by omega, b, ci, ?_⟩
  rw [← L.2 p (by omega) b, ci]
theorem li_m {V : vS} {q : Nat} {y k : Int} (C : JClm V) (B : JBody V) (O : JOrd V) (hd : ∀ c, 0 ≤ V 20 c ∧ V 20 c ≤ 2147483647) (L : lis V q y k) {c : Int} (c0 : 0 ≤ c) (cN : c < V 72 19) (h : LkM V k y c) : ∃ p : Nat, (p : Int) < V 16 1 ∧ cnt V (p : Nat) y k ∧ V 21 (p : Nat) = c ∧ ((cnN V y k p : Nat) : Int) < V q 5 ∧ V (q + 1) ((cnN V y k p : Nat) : Int) = c := by
  obtain ⟨p, ⟨p0, pN⟩, e⟩ := O.2.2.1 c c0 (by rw [C.1]; exact cN)
  obtain ⟨p, rfl⟩ : ∃ m : Nat, p = (m : Int) := ⟨p.toNat, by omega⟩
  have z : cnt V (p : Nat) y k := (cnt_l C B O hd p0 pN).mpr (by rw [e]; exact h)
  have l := cnN_lt (p' := (V 16 1).toNat) (by omega) z
  exact ⟨p, pN, z, e, by rw [L.1]; omega, (L.2 p pN z).trans e⟩


-- ===== seasons: both sides =====
theorem msk_all : ∀ a b x : Fin 24, a.val ≤ b.val → ((2 ^ (b.val + 1) - 2 ^ a.val) / 2 ^ x.val % 2 = 1 ↔ a.val ≤ x.val ∧ x.val ≤ b.val) := by decide +kernel
theorem shl_2 : ∀ b : Fin 24, bShl 2 (b.val : Int) = ((2 ^ (b.val + 1) : Nat) : Int) := by decide +kernel
theorem shl_1 : ∀ a : Fin 24, bShl 1 (a.val : Int) = ((2 ^ a.val : Nat) : Int) := by decide +kernel
theorem pow_b : ∀ a b : Fin 24, a.val ≤ b.val → 2 ^ a.val ≤ 2 ^ (b.val + 1) ∧ 2 ^ (b.val + 1) < 2147483648 := by decide +kernel
theorem tb_mk {a b : Int} {x : Nat} (ha : 0 ≤ a) (hab : a ≤ b) (hb : b < 24) (hx : x < 24) : tb (w32 (bShl 2 b - bShl 1 a)) x = true ↔ a ≤ (x : Int) ∧ (x : Int) ≤ b := by
  obtain ⟨m, rfl⟩ : ∃ m : Nat, a = (m : Int) := ⟨a.toNat, by omega⟩
  obtain ⟨n, rfl⟩ : ∃ n : Nat, b = (n : Int) := ⟨b.toNat, by omega⟩
  have e2 : bShl 2 (n : Int) = ((2 ^ (n + 1) : Nat) : Int) := shl_2 ⟨n, by omega⟩
  have e1 : bShl 1 (m : Int) = ((2 ^ m : Nat) : Int) := shl_1 ⟨m, by omega⟩
  have p : 2 ^ m ≤ 2 ^ (n + 1) ∧ 2 ^ (n + 1) < 2147483648 := pow_b ⟨m, by omega⟩ ⟨n, by omega⟩ (show m ≤ n by omega)
  have al : (2 ^ (n + 1) - 2 ^ m) / 2 ^ x % 2 = 1 ↔ m ≤ x ∧ x ≤ n := msk_all ⟨m, by omega⟩ ⟨n, by omega⟩ ⟨x, hx⟩ (show m ≤ n by omega)
  have e3 : ((2 ^ (n + 1) : Nat) : Int) - ((2 ^ m : Nat) : Int) = ((2 ^ (n + 1) - 2 ^ m : Nat) : Int) := by
    generalize 2 ^ (n + 1) = u at p ⊢
    generalize 2 ^ m = v at p ⊢
    omega
  have lt : 2 ^ (n + 1) - 2 ^ m < 2147483648 := Nat.lt_of_le_of_lt (Nat.sub_le _ _) p.2
  rw [e2, e1, e3, w32_n lt, tb_n lt, decide_eq_true_eq, al]
  omega
def JOut2 (V : vS) : Prop := ∀ j, 0 ≤ j → j < V 16 2 → 0 ≤ V 92 j ∧ V 92 j ≤ V 94 j ∧ V 94 j < 24
theorem hit_e {V : vS} {j y yr k : Int} (O : JOut1 V j) (x : Int) : oHm V x y yr k j ↔ oHit V y yr k j ∧ V 92 j ≤ x ∧ x ≤ V 94 j := by
  obtain ⟨o1, o2, o3, o4, o5, o6⟩ := O
  unfold oHm oHit
  rw [o2, o4, o5, o6, Int.mul_comm]
  constructor
  · rintro ⟨a, b, c, d⟩
    exact ⟨⟨a, b, d⟩, c⟩
  · rintro ⟨⟨a, b, d⟩, c⟩
    exact ⟨a, b, c, d⟩
theorem orw_e {V : vS} (O : JOut V) (O2 : JOut2 V) {y yr k : Int} {x : Nat} (hx : x < 24) : ∀ i : Nat, (i : Int) ≤ V 16 2 → (tb (oRw V y yr k i) x = true ↔ ∃ j : Int, (0 ≤ j ∧ j < (i : Int)) ∧ oHm V (x : Int) y yr k j) := by
  intro i
  induction i with
  | zero =>
    intro _
    refine ⟨fun z => ?_, fun ⟨j, a, _⟩ => by omega⟩
    have e : tb (oRw V y yr k 0) x = false := tb_0 (by omega)
    rw [e] at z
    cases z
  | succ i ih =>
    intro hi
    have ih := ih (by omega)
    have o1 := O.2.2.2 (i : Nat) (by omega) (by omega)
    have o2 := O2 (i : Nat) (by omega) (by omega)
    by_cases z : oHit V y yr k (i : Nat)
    · rw [oRw_t z, tb_or, Bool.or_eq_true, ih, ← o1.1, ← o1.2.2.1, tb_mk o2.1 o2.2.1 o2.2.2 hx]
      constructor
      · rintro (⟨j, a, b⟩ | a)
        · exact ⟨j, ⟨a.1, by omega⟩, b⟩
        · exact ⟨(i : Nat), ⟨by omega, by omega⟩, (hit_e o1 _).mpr ⟨z, a⟩⟩
      · rintro ⟨j, a, b⟩
        by_cases w : j = (i : Nat)
        · rw [w] at b
          exact Or.inr ((hit_e o1 _).mp b).2
        · exact Or.inl ⟨j, ⟨a.1, by omega⟩, b⟩
    · rw [oRw_f z, ih]
      constructor
      · rintro ⟨j, a, b⟩
        exact ⟨j, ⟨a.1, by omega⟩, b⟩
      · rintro ⟨j, a, b⟩
        by_cases w : j = (i : Nat)
        · rw [w] at b
          exact absurd ((hit_e o1 _).mp b).1 z
        · exact ⟨j, ⟨a.1, by omega⟩, b⟩
theorem out_e {V : vS} (O : JOut V) (O2 : JOut2 V) {y yr k : Int} {x : Nat} (hx : x < 24) : tb (oRw V y yr k (V 16 2).toNat) x = true ↔ isO V (x : Int) y yr k := by
  have h := O.2.1
  rw [orw_e O O2 hx _ (by omega)]
  unfold isO
  rw [← O.1, show (((V 16 2).toNat : Nat) : Int) = V 16 2 by omega]
-- sums by rows, by squares
theorem nQ_s (P : Int → Prop) (q : Nat) : nQ P (q + 1) = nQ P q + (if prB (P (q : Nat)) then 1 else 0) := rfl
theorem nQ_add (P : Int → Prop) (a : Nat) : ∀ b : Nat, nQ P (a + b) = nQ P a + nQ (fun j => P (j + (a : Nat))) b
  | 0 => (Int.add_zero _).symm
  | b + 1 => by
    have e : (((a + b : Nat)) : Int) = ((b : Nat) : Int) + ((a : Nat) : Int) := by omega
    rw [show a + (b + 1) = (a + b) + 1 from rfl, nQ_s, nQ_s, nQ_add P a b, e, Int.add_assoc]
theorem bcn_s (b : Nat → Bool) (k : Nat) : bcn b (k + 1) = bcn b k + (if b k then 1 else 0) := rfl
theorem bcn_nQ {b : Nat → Bool} {P : Int → Prop} : ∀ k : Nat, (∀ x, x < k → (b x = true ↔ P (x : Nat))) → bcn b k = nQ P k
  | 0, _ => rfl
  | k + 1, h => by
    have e := h k (by omega)
    rw [bcn_s, bcn_nQ k (fun x hx => h x (by omega))]
    by_cases z : P (k : Nat)
    · rw [nQ_t z, if_pos (e.mpr z)]
    · rw [nQ_f z, if_neg (fun w => z (e.mp w))]
theorem bcn_hi {b : Nat → Bool} (h : ∀ x, 24 ≤ x → b x = false) : bcn b 32 = bcn b 24 := by
  have g : ∀ m : Nat, bcn b (24 + m) = bcn b 24 := by
    intro m
    induction m with
    | zero => rfl
    | succ m ih =>
      rw [show 24 + (m + 1) = (24 + m) + 1 from rfl, bcn_s, h (24 + m) (by omega), ih]
      exact Int.add_zero _
  exact g 8
theorem tb_hi {n : Int} (h0 : 0 ≤ n) (h1 : n < 16777216) {x : Nat} (hx : 24 ≤ x) : tb n x = false := by
  obtain ⟨m, rfl⟩ : ∃ m : Nat, n = (m : Int) := ⟨n.toNat, by omega⟩
  have l : m < 2 ^ x := Nat.lt_of_lt_of_le (show m < 2 ^ 24 by omega) (Nat.pow_le_pow_right (by decide) hx)
  rw [tb_n (by omega), Nat.div_eq_of_lt l]
  rfl


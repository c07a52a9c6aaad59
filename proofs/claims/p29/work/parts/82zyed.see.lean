-- ===== what is seen of fields =====
def hpB (V : vS) (s i : Int) (k : Nat) : Bool := decide (cRow1 V s = 1 ∧ 0 ≤ i + (k : Int) ∧ i + (k : Int) < V 70 s)
def sE (V : vS) (s i : Int) : Nat → Bool
  | 0 => false
  | k + 1 => sE V s i k || !hpB V s i k
def sB (V : vS) (s i : Int) (k : Nat) : Bool := !sE V s i (k + 1) && decide (w32 (V 71 (60 * s + (i + (k : Int)))) ≠ V 63 1)
def sN (V : vS) (s i : Int) : Nat → Int
  | 0 => 0
  | k + 1 => sN V s i k + (if sB V s i k then 1 else 0)
def sV (V : vS) (s i : Int) (k : Nat) : Int := if sB V s i k then w32 (V 71 (60 * s + (i + (k : Int)))) else 1000
theorem sN_b (V : vS) (s i : Int) : ∀ k : Nat, 0 ≤ sN V s i k ∧ sN V s i k ≤ (k : Int)
  | 0 => ⟨Int.le_refl _, Int.le_refl _⟩
  | k + 1 => by
    have := sN_b V s i k
    unfold sN
    split <;> omega
def rwV (V : vS) (q : Nat) (y s i : Int) (k : Nat) : vS := fun c j => if c = q ∧ 6 * y ≤ j ∧ j < 6 * y + (k : Int) then sV V s i (j - 6 * y).toNat else V c j
theorem rwV_c {V : vS} {q c : Nat} {y s i j : Int} {k : Nat} (h : c ≠ q) : rwV V q y s i k c j = V c j := if_neg (fun z => h z.1)
theorem rwV_0 {V : vS} {q : Nat} {y s i : Int} : rwV V q y s i 0 = V := by
  funext c j
  unfold rwV
  rw [if_neg (fun z => by omega)]
theorem rwV_s {V : vS} {q : Nat} {y s i v : Int} {k : Nat} (h : v = sV V s i k) : up (rwV V q y s i k) q (6 * y + (k : Int)) v = rwV V q y s i (k + 1) := by
  funext c j
  unfold up rwV
  by_cases z : c = q
  · subst z
    by_cases z2 : j = 6 * y + (k : Int)
    · subst z2
      rw [if_pos ⟨rfl, rfl⟩, if_pos ⟨rfl, by omega, by omega⟩, h]
      congr 1
      omega
    · rw [if_neg (fun w => z2 w.2)]
      by_cases z3 : 6 * y ≤ j ∧ j < 6 * y + (k : Int)
      · rw [if_pos ⟨rfl, z3⟩, if_pos ⟨rfl, by omega, by omega⟩]
      · rw [if_neg (fun w => z3 w.2), if_neg (fun w => by omega)]
  · rw [if_neg (fun w => z w.1), if_neg (fun w => z w.1), if_neg (fun w => z w.1)]
theorem sB_n {V : vS} {s i : Int} {k : Nat} (h : sE V s i (k + 1) = true) : sB V s i k = false := by unfold sB; rw [h]; rfl
theorem sV_n {V : vS} {s i : Int} {k : Nat} (h : sB V s i k = false) : sV V s i k = 1000 := by unfold sV; rw [if_neg (by rw [h]; decide)]
theorem sV_t {V : vS} {s i : Int} {k : Nat} (h : sB V s i k = true) : sV V s i k = w32 (V 71 (60 * s + (i + (k : Int)))) := by unfold sV; rw [if_pos h]
theorem sN_n {V : vS} {s i : Int} {k : Nat} (h : sB V s i k = false) : sN V s i (k + 1) = sN V s i k := by
  show sN V s i k + _ = _
  rw [if_neg (by rw [h]; decide)]; omega
theorem sN_t {V : vS} {s i : Int} {k : Nat} (h : sB V s i k = true) : sN V s i (k + 1) = sN V s i k + 1 := by
  show sN V s i k + _ = _
  rw [if_pos h]


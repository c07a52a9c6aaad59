-- ===== by hand: sums, parts of a whole =====
def sumN (f : Nat → Int) : Nat → Int
  | 0 => 0
  | n + 1 => sumN f n + f n
theorem sumN_congr {f g : Nat → Int} : ∀ n, (∀ j, j < n → f j = g j) → sumN f n = sumN g n
  | 0, _ => rfl
  | n + 1, h => by
    show sumN f n + f n = sumN g n + g n
    rw [sumN_congr n (fun j hj => h j (by omega)), h n (by omega)]
theorem sumN_bd {f : Nat → Int} {B : Nat} : ∀ n, (∀ j, j < n → -(B : Int) ≤ f j ∧ f j ≤ B) → -((n * B : Nat) : Int) ≤ sumN f n ∧ sumN f n ≤ ((n * B : Nat) : Int)
  | 0, _ => by show -((0 * B : Nat) : Int) ≤ 0 ∧ (0 : Int) ≤ ((0 * B : Nat) : Int); rw [Nat.zero_mul]; exact ⟨by omega, by omega⟩
  | n + 1, h => by
    have h1 := sumN_bd (f := f) (B := B) n (fun j hj => h j (by omega))
    have h2 := h n (by omega)
    have e : (n + 1) * B = n * B + B := by rw [Nat.add_mul, Nat.one_mul]
    rw [e]
    show _ ≤ sumN f n + f n ∧ sumN f n + f n ≤ _
    omega
def cntP (p : Nat → Bool) : Nat → Nat
  | 0 => 0
  | n + 1 => cntP p n + (if p n = true then 1 else 0)
theorem cntP_le (p : Nat → Bool) : ∀ n, cntP p n ≤ n
  | 0 => Nat.le_refl _
  | n + 1 => by
    have := cntP_le p n
    show cntP p n + (if p n = true then 1 else 0) ≤ n + 1
    split <;> omega
theorem cntP_congr {p q : Nat → Bool} : ∀ n, (∀ j, j < n → p j = q j) → cntP p n = cntP q n
  | 0, _ => rfl
  | n + 1, h => by
    show cntP p n + (if p n = true then 1 else 0) = cntP q n + (if q n = true then 1 else 0)
    rw [cntP_congr n (fun j hj => h j (by omega)), h n (by omega)]
theorem cntP_mono (p : Nat → Bool) : ∀ n m, n ≤ m → cntP p n ≤ cntP p m
  | n, 0, h => by rw [Nat.le_zero.mp h]; exact Nat.le_refl _
  | n, m + 1, h => by
    rcases Nat.lt_or_ge m n with q | q
    · rw [show n = m + 1 by omega]; exact Nat.le_refl _
    · have := cntP_mono p n m q
      show cntP p n ≤ cntP p m + (if p m = true then 1 else 0)
      omega
theorem cntP_imp {p q : Nat → Bool} : ∀ n, (∀ j, j < n → p j = true → q j = true) → cntP p n ≤ cntP q n
  | 0, _ => Nat.le_refl _
  | n + 1, h => by
    have h1 := cntP_imp (p := p) (q := q) n (fun j hj => h j (by omega))
    show cntP p n + (if p n = true then 1 else 0) ≤ cntP q n + (if q n = true then 1 else 0)
    by_cases e : p n = true
    · rw [if_pos e, if_pos (h n (by omega) e)]; omega
    · rw [if_neg e]; omega
/-- one of them taken away, no other lost -/
theorem cntP_upd {p q : Nat → Bool} {k : Nat} (hk : p k = true) (h : ∀ j, j ≠ k → p j = true → q j = true) : ∀ n, k < n → cntP p n ≤ cntP q n + 1
  | 0, hn => by omega
  | n + 1, hn => by
    show cntP p n + (if p n = true then 1 else 0) ≤ cntP q n + (if q n = true then 1 else 0) + 1
    by_cases e : k = n
    · subst e
      have := cntP_imp (p := p) (q := q) k (fun j hj => h j (by omega))
      rw [if_pos hk]
      omega
    · have := cntP_upd hk h n (by omega)
      by_cases e2 : p n = true
      · rw [if_pos e2, if_pos (h n (fun q => e q.symm) e2)]; omega
      · rw [if_neg e2]; omega
theorem cntP_0 {p : Nat → Bool} : ∀ n, cntP p n = 0 → ∀ j, j < n → p j = false
  | 0, _, j, hj => by omega
  | n + 1, h, j, hj => by
    have h : cntP p n + (if p n = true then 1 else 0) = 0 := h
    have h1 : cntP p n = 0 := by omega
    by_cases e : p n = true
    · rw [if_pos e] at h; omega
    · rcases Nat.lt_succ_iff_lt_or_eq.mp hj with q | rfl
      · exact cntP_0 n h1 j q
      · cases e2 : p j with
        | false => rfl
        | true => exact absurd e2 e
theorem mul_bd {v w A B : Int} (v0 : 0 ≤ v) (v1 : v ≤ A) (w0 : -B ≤ w) (w1 : w ≤ B) (b0 : 0 ≤ B) : -(A * B) ≤ v * w ∧ v * w ≤ A * B := by
  have h1 : v * w ≤ v * B := Int.mul_le_mul_of_nonneg_left w1 v0
  have h2 : v * B ≤ A * B := Int.mul_le_mul_of_nonneg_right v1 b0
  have h3 : v * (-B) ≤ v * w := Int.mul_le_mul_of_nonneg_left w0 v0
  rw [Int.mul_neg] at h3
  omega
/-- whole parts: what is left is at most as much as there are that want any -/
theorem parts_le {v all : Int} {w : Nat → Int} (ha : 0 < all) : ∀ n, v * sumN w n - all * sumN (fun j => (v * w j).tdiv all) n ≤ (all - 1) * (cntP (fun j => decide (w j ≠ 0)) n : Nat) ∧ -(all - 1) * (cntP (fun j => decide (w j ≠ 0)) n : Nat) ≤ v * sumN w n - all * sumN (fun j => (v * w j).tdiv all) n
  | 0 => by
    show v * 0 - all * 0 ≤ (all - 1) * ((0 : Nat) : Int) ∧ -(all - 1) * ((0 : Nat) : Int) ≤ v * 0 - all * 0
    simp
  | n + 1 => by
    obtain ⟨h1, h2⟩ := parts_le (v := v) (w := w) ha n
    have e := Int.mul_tdiv_add_tmod (v * w n) all
    have t1 := Int.tmod_lt_of_pos (v * w n) ha
    have t2 := Int.lt_tmod_of_pos (v * w n) ha
    show v * (sumN w n + w n) - all * (sumN (fun j => (v * w j).tdiv all) n + (v * w n).tdiv all) ≤ (all - 1) * ((cntP (fun j => decide (w j ≠ 0)) n + (if decide (w n ≠ 0) = true then 1 else 0) : Nat) : Int) ∧ -(all - 1) * ((cntP (fun j => decide (w j ≠ 0)) n + (if decide (w n ≠ 0) = true then 1 else 0) : Nat) : Int) ≤ v * (sumN w n + w n) - all * (sumN (fun j => (v * w j).tdiv all) n + (v * w n).tdiv all)
    rw [Int.mul_add, Int.mul_add]
    generalize v * sumN w n = a at *
    generalize all * sumN (fun j => (v * w j).tdiv all) n = b at *
    by_cases q : w n = 0
    · rw [if_neg (by simp [q]), Nat.add_zero]
      rw [q, Int.mul_zero, Int.zero_tdiv, Int.mul_zero]
      omega
    · rw [if_pos (by simp [q])]
      generalize cntP (fun j => decide (w j ≠ 0)) n = c at *
      have e1 : (all - 1) * ((c + 1 : Nat) : Int) = (all - 1) * (c : Int) + (all - 1) := by
        rw [Int.natCast_add, Int.mul_add]; omega
      have e2 : -(all - 1) * ((c + 1 : Nat) : Int) = -(all - 1) * (c : Int) - (all - 1) := by
        rw [Int.natCast_add, Int.mul_add]; omega
      rw [e1, e2]
      generalize (all - 1) * (c : Int) = p at *
      generalize -(all - 1) * (c : Int) = p' at *
      generalize all * (v * w n).tdiv all = x at *
      generalize v * w n = y at *
      omega
theorem parts_end {v all : Int} {w : Nat → Int} {n : Nat} (ha : 0 < all) (hs : sumN w n = all) : -((cntP (fun j => decide (w j ≠ 0)) n : Nat) : Int) ≤ v - sumN (fun j => (v * w j).tdiv all) n ∧ v - sumN (fun j => (v * w j).tdiv all) n ≤ ((cntP (fun j => decide (w j ≠ 0)) n : Nat) : Int) := by
  obtain ⟨h1, h2⟩ := parts_le (v := v) (w := w) ha n
  rw [hs] at h1 h2
  generalize sumN (fun j => (v * w j).tdiv all) n = s at *
  generalize cntP (fun j => decide (w j ≠ 0)) n = c at *
  have e : v * all - all * s = all * (v - s) := by rw [Int.mul_sub, Int.mul_comm v all]
  rw [e] at h1 h2
  have hc : (all - 1) * (c : Int) ≤ all * (c : Int) := Int.mul_le_mul_of_nonneg_right (by omega) (by omega)
  have hc2 : all * (-(c : Int)) ≤ -(all - 1) * (c : Int) := by
    rw [Int.mul_neg, Int.neg_mul]
    omega
  exact ⟨Int.le_of_mul_le_mul_left (Int.le_trans hc2 h2) ha, Int.le_of_mul_le_mul_left (Int.le_trans h1 hc) ha⟩
theorem lw_c {ρ : List Int} {x : Int32} {o : Int} (e : ρ[0]? = some 0) (hx : x.toInt = o) : (1 : Nat) = 0 ∨ ∃ u, some (Value.int x) = some u ∧ dW ρ [] (1, 0, o) u := Or.inr ⟨_, rfl, x, 0, rfl, e, by show _ = 0 + o; omega⟩
section WJ
variable {X : aX} {D : Nat} {M : aM} {Q : Option Value → aH → Prop} {pc len a b : Nat} {l : aL} {r : List Value} {h : aH}
theorem w_ldivt {x y : Int64} (hf : aF pc M.2.2.2.2.2.2.2 = some (pc, .ldiv, len, a, b)) (h1 : 1 ≤ y.toInt) (k : ∀ z : Int64, z.toInt = x.toInt.tdiv y.toInt → Wp X D M Q (pc + 1) l (.long z :: r) h) : Wp X D M Q pc l (.long y :: .long x :: r) h := by
  have t := tdiv_b (x := x.toInt) (y := y.toInt) h1
  have g := jR x
  have e : (x / y).toInt = x.toInt.tdiv y.toInt := j_div (by omega) (by omega)
  exact wp1 (fun n d => r_ldiv hf (fun q => by rw [q] at h1; exact absurd h1 (by decide)) rfl) (k _ e)
theorem w_lrem' {x y : Int64} (hf : aF pc M.2.2.2.2.2.2.2 = some (pc, .lrem, len, a, b)) (h1 : 1 ≤ y.toInt) (k : ∀ z : Int64, Wp X D M Q (pc + 1) l (.long z :: r) h) : Wp X D M Q pc l (.long y :: .long x :: r) h :=
  wp1 (fun n d => r_lrem hf (fun q => by rw [q] at h1; exact absurd h1 (by decide)) rfl) (k _)
theorem w_lsubm {x y : Int64} (hf : aF pc M.2.2.2.2.2.2.2 = some (pc, .lsub, len, a, b)) (k : ∀ z : Int64, z.toInt = (x.toInt - y.toInt).bmod (2 ^ 64) → Wp X D M Q (pc + 1) l (.long z :: r) h) : Wp X D M Q pc l (.long y :: .long x :: r) h :=
  wp1 (fun n d => r_lsub hf rfl) (k _ (Int64.toInt_sub _ _))
end WJ

-- ===== what a field looks like =====
-- the first of the least, and the least of the others
def bst (f : Nat → Int) : Nat → Nat
  | 0 => 0
  | k + 1 => if f k < f (bst f k) then k else bst f k
def nx (f : Nat → Int) : Nat → Int
  | 0 => 2147483647
  | k + 1 => if f k < f (bst f k) then f (bst f k) else if k = 0 then 2147483647 else min (nx f k) (f k)
def mn (f : Nat → Int) (b : Nat) : Nat → Int
  | 0 => 2147483647
  | k + 1 => if k = b then mn f b k else min (mn f b k) (f k)
theorem bst_s (f : Nat → Int) (k : Nat) : bst f (k + 1) = if f k < f (bst f k) then k else bst f k := rfl
theorem nx_s (f : Nat → Int) (k : Nat) : nx f (k + 1) = if f k < f (bst f k) then f (bst f k) else if k = 0 then 2147483647 else min (nx f k) (f k) := rfl
theorem mn_s (f : Nat → Int) (b k : Nat) : mn f b (k + 1) = if k = b then mn f b k else min (mn f b k) (f k) := rfl
theorem bst_1 (f : Nat → Int) : bst f 1 = 0 := by show (if f 0 < f 0 then 0 else 0) = 0; split <;> rfl
theorem bst_lt (f : Nat → Int) : ∀ k, bst f (k + 1) < k + 1
  | 0 => by
    have : bst f 1 = 0 := bst_1 f
    show bst f 1 < 1
    omega
  | k + 1 => by
    have ih := bst_lt f k
    have e : bst f (k + 1 + 1) = if f (k + 1) < f (bst f (k + 1)) then k + 1 else bst f (k + 1) := rfl
    rw [e]
    split <;> omega
theorem mn_all {f : Nat → Int} (hf : f 0 ≤ 2147483647) : ∀ k b, k + 1 ≤ b → mn f b (k + 1) = f (bst f (k + 1))
  | 0, b, h => by
    have e : bst f 1 = 0 := by show (if f 0 < f 0 then 0 else 0) = 0; split <;> rfl
    have e2 : mn f b 1 = if 0 = b then mn f b 0 else min (mn f b 0) (f 0) := rfl
    show mn f b 1 = f (bst f 1)
    rw [e, e2, if_neg (by omega)]
    show min 2147483647 (f 0) = f 0
    omega
  | k + 1, b, h => by
    have ih := mn_all hf k b (by omega)
    have e : bst f (k + 1 + 1) = if f (k + 1) < f (bst f (k + 1)) then k + 1 else bst f (k + 1) := rfl
    have e2 : mn f b (k + 1 + 1) = if k + 1 = b then mn f b (k + 1) else min (mn f b (k + 1)) (f (k + 1)) := rfl
    rw [e, e2, if_neg (by omega), ih]
    split <;> omega
theorem nx_mn {f : Nat → Int} (hf : f 0 ≤ 2147483647) : ∀ k, nx f (k + 1) = mn f (bst f (k + 1)) (k + 1)
  | 0 => by
    have e : bst f 1 = 0 := by show (if f 0 < f 0 then 0 else 0) = 0; split <;> rfl
    have e1 : nx f 1 = if f 0 < f (bst f 0) then f (bst f 0) else if 0 = 0 then 2147483647 else min (nx f 0) (f 0) := rfl
    have e2 : mn f 0 1 = if 0 = 0 then mn f 0 0 else min (mn f 0 0) (f 0) := rfl
    have e0 : bst f 0 = 0 := rfl
    show nx f 1 = mn f (bst f 1) 1
    rw [e, e1, e2, e0, if_neg (by omega), if_pos rfl, if_pos rfl]
    rfl
  | k + 1 => by
    have ih := nx_mn hf k
    have e : bst f (k + 1 + 1) = if f (k + 1) < f (bst f (k + 1)) then k + 1 else bst f (k + 1) := rfl
    have e1 : nx f (k + 1 + 1) = if f (k + 1) < f (bst f (k + 1)) then f (bst f (k + 1)) else if k + 1 = 0 then 2147483647 else min (nx f (k + 1)) (f (k + 1)) := rfl
    have e2 : ∀ b, mn f b (k + 1 + 1) = if k + 1 = b then mn f b (k + 1) else min (mn f b (k + 1)) (f (k + 1)) := fun _ => rfl
    have hb := bst_lt f k
    rw [e, e1, e2]
    by_cases z : f (k + 1) < f (bst f (k + 1))
    · rw [if_pos z, if_pos z, if_pos rfl]
      exact (mn_all hf k (k + 1) (Nat.le_refl _)).symm
    · rw [if_neg z, if_neg z, if_neg (by omega), if_neg (by omega), ih]
theorem bst_c {f g : Nat → Int} {N : Nat} (e : ∀ k, k < N → f k = g k) : ∀ k, k ≤ N → bst f k = bst g k
  | 0, _ => rfl
  | k + 1, h => by
    have ih := bst_c e k (by omega)
    have hb : bst g k < N := by
      cases k with
      | zero => show 0 < N; omega
      | succ k => have := bst_lt g k; omega
    rw [bst_s, bst_s, ih, e k (by omega), e _ hb]
theorem mn_c {f g : Nat → Int} {N : Nat} (e : ∀ k, k < N → f k = g k) (b : Nat) : ∀ k, k ≤ N → mn f b k = mn g b k
  | 0, _ => rfl
  | k + 1, h => by
    have ih := mn_c e b k (by omega)
    rw [mn_s, mn_s, ih, e k (by omega)]
def jdg (f : Nat → Int) (w : Int) : Int := if w = 0 then (bst f 8 : Nat) else w32 (mn f (bst f 8) 8 - f (bst f 8))
theorem jdg_c {f g : Nat → Int} {w : Int} (e : ∀ k, k < 8 → f k = g k) : jdg f w = jdg g w := by
  have e1 := bst_c e 8 (Nat.le_refl _)
  have hb : bst g 8 < 8 := bst_lt g 7
  unfold jdg
  rw [e1, mn_c e _ 8 (Nat.le_refl _), e _ hb]


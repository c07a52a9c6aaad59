-- ===== seasons: both sides =====
-- sums over places
def sgm (f : Int → Int) : Nat → Int
  | 0 => 0
  | i + 1 => sgm f i + f (i : Nat)
theorem sgm_s (f : Int → Int) (i : Nat) : sgm f (i + 1) = sgm f i + f (i : Nat) := rfl
noncomputable def pI (p : Prop) (x : Int) : Int := @ite Int p (Classical.propDecidable p) x 0
theorem pI_t {p : Prop} {x : Int} (h : p) : pI p x = x := by unfold pI; rw [if_pos h]
theorem pI_f {p : Prop} {x : Int} (h : ¬ p) : pI p x = 0 := by unfold pI; rw [if_neg h]
theorem pI_c {p p' : Prop} {x x' : Int} (h : p ↔ p') (e : p → x = x') : pI p x = pI p' x' := by
  by_cases z : p
  · rw [pI_t z, pI_t (h.mp z), e z]
  · rw [pI_f z, pI_f (fun w => z (h.mpr w))]
theorem sgm_c {f g : Int → Int} : ∀ n : Nat, (∀ j : Int, 0 ≤ j → j < (n : Int) → f j = g j) → sgm f n = sgm g n
  | 0, _ => rfl
  | n + 1, h => by rw [sgm_s, sgm_s, sgm_c n (fun j a b => h j a (by omega)), h (n : Nat) (by omega) (by omega)]
theorem w32_add (a b : Int) : w32 (w32 a + b) = w32 (a + b) := by
  unfold w32
  omega
def isMx (S : Int → Prop) (m : Int) : Prop := -1 ≤ m ∧ (m = -1 ∨ S m) ∧ ∀ c, S c → c ≤ m
def tmS (V : vS) (q : Nat) (f j : Int) (c : Int) : Prop := ∃ i, (0 ≤ i ∧ i < j) ∧ fmA V (q + 1) i = f ∧ V (q + 1) i = c
noncomputable def tSm (V : vS) (q r : Nat) (f : Int) (n : Nat) : Int := sgm (fun i => pI (fmA V (q + 1) i = f) (V r i)) n
-- a farm's squares, those told as missing, its latest claim
def tot (V : vS) (q : Nat) : Prop := ∀ f, 0 ≤ f → f < 150 → V (q + 5) f = w32 (tSm V q (q + 2) f (V q 5).toNat) ∧ V (q + 6) f = w32 (tSm V q (q + 3) f (V q 5).toNat) ∧ isMx (tmS V q f (V q 5)) (V (q + 7) f)
theorem suS_5 (U : vS) (q : Nat) (i f : Int) : suS U q i (q + 5) f = if f = fmA U (q + 1) i then w32 (U (q + 5) f + U (q + 2) i) else U (q + 5) f := by
  unfold suS
  rw [up_c (by omega), up_c (by omega), up_p, up_c (by omega)]
  by_cases z : f = fmA U (q + 1) i
  · rw [if_pos z, if_pos z, z]
  · rw [if_neg z, if_neg z]
theorem suS_6 (U : vS) (q : Nat) (i f : Int) : suS U q i (q + 6) f = if f = fmA U (q + 1) i then w32 (U (q + 6) f + min (U (q + 2) i) (msg U (U (q + 1) i) (U q 2) (U q 3) (U 16 3).toNat)) else U (q + 6) f := by
  unfold suS
  rw [up_c (by omega), up_p, up_c (by omega), up_c (by omega)]
  by_cases z : f = fmA U (q + 1) i
  · rw [if_pos z, if_pos z, z]
  · rw [if_neg z, if_neg z]
theorem suS_7 (U : vS) (q : Nat) (i f : Int) : suS U q i (q + 7) f = if f = fmA U (q + 1) i then max (U (q + 7) f) (U (q + 1) i) else U (q + 7) f := by
  unfold suS
  rw [up_p, up_c (by omega), up_c (by omega), up_c (by omega)]
  by_cases z : f = fmA U (q + 1) i
  · rw [if_pos z, if_pos z, z]
  · rw [if_neg z, if_neg z]


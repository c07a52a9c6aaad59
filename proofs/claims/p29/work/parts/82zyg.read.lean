-- ===== the reading of texts =====
-- what a text's reading comes to: the place reached and the fault (-1: none)
def nmB (t : Int) : Bool := t == 121 || t == 107 || t == 115 || t == 102 || t == 103 || t == 99 || t == 116 || t == 108 || t == 101 || t == 112 || t == 109 || t == 106 || t == 98
def isD (t : Int) : Bool := decide (48 ≤ t ∧ t ≤ 57)
def dgEnd (T : Int → Int) : Nat → Int → Int
  | 0, p => p
  | k + 1, p => bif isD (T p) then dgEnd T k (p + 1) else p
def opB (t : Nat) (c : Int) : Bool := match t with
  | 2 => c == 42 || c == 47 || c == 37
  | 4 => c == 43 || c == 45
  | 7 => c == 38
  | 9 => c == 124
  | 12 => c == 60 || c == 61 || c == 62
  | 13 => c == 63
  | 14 => c == 59
  | _ => false
def thn (r : Option (Int × Int)) (g : Int → Option (Int × Int)) : Option (Int × Int) := match r with
  | none => none
  | some (q, f) => bif decide (0 ≤ f) then some (q, f) else g q
def prs (T : Int → Int) : Nat → Nat → Int → Int → Option (Int × Int)
  | 0, _, _, _ => none
  | k + 1, tag, o, p => match tag with
    | 0 => bif nmB (T p) then some (p + 1, -1)
      else bif T p == 33 || T p == 45 then (bif o == 8 then some (p, p) else prs T k 0 (o + 1) (p + 1))
      else bif T p == 40 then (bif o == 8 then some (p, p) else thn (prs T k 8 (o + 1) (p + 1)) (fun q => bif T q == 41 then some (q + 1, -1) else some (q, q)))
      else bif dgEnd T 6 p == p || isD (T (dgEnd T 6 p)) then some (dgEnd T 6 p, dgEnd T 6 p) else some (dgEnd T 6 p, -1)
    | 1 => thn (prs T k 0 o p) (fun q => prs T k 2 o q)
    | 2 => bif opB 2 (T p) then thn (prs T k 0 o (p + 1)) (fun q => prs T k 2 o q) else some (p, -1)
    | 3 => thn (prs T k 1 o p) (fun q => prs T k 4 o q)
    | 4 => bif opB 4 (T p) then thn (prs T k 1 o (p + 1)) (fun q => prs T k 4 o q) else some (p, -1)
    | 5 => thn (prs T k 3 o p) (fun q => prs T k 12 o q)
    | 6 => thn (prs T k 5 o p) (fun q => prs T k 7 o q)
    | 7 => bif opB 7 (T p) then thn (prs T k 5 o (p + 1)) (fun q => prs T k 7 o q) else some (p, -1)
    | 8 => thn (prs T k 6 o p) (fun q => prs T k 9 o q)
    | 9 => bif opB 9 (T p) then thn (prs T k 6 o (p + 1)) (fun q => prs T k 9 o q) else some (p, -1)
    | 10 => thn (prs T k 8 o p) (fun q => prs T k 13 o q)
    | 11 => thn (prs T k 10 o p) (fun q => prs T k 14 o q)
    | 12 => bif opB 12 (T p) then prs T k 3 o (p + 1) else some (p, -1)
    | 13 => bif opB 13 (T p) then prs T k 8 o (p + 1) else some (p, -1)
    | 14 => bif opB 14 (T p) then prs T k 11 o (p + 1) else some (p, -1)
    | _ => none
theorem thn_m {r r' : Option (Int × Int)} {g g' : Int → Option (Int × Int)} (h1 : ∀ x, r = some x → r' = some x) (h2 : ∀ q x, g q = some x → g' q = some x) : ∀ x, thn r g = some x → thn r' g' = some x := by
  intro x e
  cases hr : r with
  | none => rw [hr] at e; cases e
  | some y =>
    obtain ⟨q, f⟩ := y
    rw [hr] at e
    rw [h1 _ hr]
    unfold thn at e ⊢
    dsimp only at e ⊢
    cases z : decide (0 ≤ f) with
    | true => rw [z] at e; exact e
    | false => rw [z] at e; exact h2 q x e
theorem bif_m {b : Bool} {r r' s s' : Option (Int × Int)} (h1 : ∀ x, r = some x → r' = some x) (h2 : ∀ x, s = some x → s' = some x) : ∀ x, (bif b then r else s) = some x → (bif b then r' else s') = some x := by
  intro x e
  cases b with
  | true => exact h1 x e
  | false => exact h2 x e
theorem prs_s (T : Int → Int) : ∀ (k tag : Nat) (o p : Int) (x : Int × Int), prs T k tag o p = some x → prs T (k + 1) tag o p = some x
  | 0, _, _, _, _, e => by cases e
  | k + 1, tag, o, p, x, e => by
    have ih := prs_s T k
    have same : ∀ (r : Option (Int × Int)) x, r = some x → r = some x := fun _ _ e => e
    match tag with
    | 0 => exact bif_m (same _) (bif_m (bif_m (same _) (ih 0 _ _)) (bif_m (bif_m (same _) (thn_m (ih 8 _ _) (fun _ => same _))) (same _))) x e
    | 1 => exact thn_m (ih 0 _ _) (fun q => ih 2 o q) x e
    | 2 => exact bif_m (thn_m (ih 0 _ _) (fun q => ih 2 o q)) (same _) x e
    | 3 => exact thn_m (ih 1 _ _) (fun q => ih 4 o q) x e
    | 4 => exact bif_m (thn_m (ih 1 _ _) (fun q => ih 4 o q)) (same _) x e
    | 5 => exact thn_m (ih 3 _ _) (fun q => ih 12 o q) x e
    | 6 => exact thn_m (ih 5 _ _) (fun q => ih 7 o q) x e
    | 7 => exact bif_m (thn_m (ih 5 _ _) (fun q => ih 7 o q)) (same _) x e
    | 8 => exact thn_m (ih 6 _ _) (fun q => ih 9 o q) x e
    | 9 => exact bif_m (thn_m (ih 6 _ _) (fun q => ih 9 o q)) (same _) x e
    | 10 => exact thn_m (ih 8 _ _) (fun q => ih 13 o q) x e
    | 11 => exact thn_m (ih 10 _ _) (fun q => ih 14 o q) x e
    | 12 => exact bif_m (ih 3 _ _) (same _) x e
    | 13 => exact bif_m (ih 8 _ _) (same _) x e
    | 14 => exact bif_m (ih 11 _ _) (same _) x e
    | _ + 15 => cases e
theorem prs_le {T : Int → Int} {k k' tag : Nat} {o p : Int} {x : Int × Int} (h : k ≤ k') (e : prs T k tag o p = some x) : prs T k' tag o p = some x := by
  obtain ⟨d, rfl⟩ := Nat.le.dest h
  induction d with
  | zero => exact e
  | succ d ih => exact prs_s T (k + d) tag o p x (ih (by omega))
def Pr (T : Int → Int) (t : Nat) (o p q f : Int) : Prop := ∃ k, prs T k t o p = some (q, f)
theorem pr_u {T : Int → Int} {t : Nat} {o p q f q' f' : Int} (a : Pr T t o p q f) (b : Pr T t o p q' f') : q = q' ∧ f = f' := by
  obtain ⟨k, a⟩ := a
  obtain ⟨k', b⟩ := b
  have a := prs_le (Nat.le_max_left k k') a
  have b := prs_le (Nat.le_max_right k k') b
  rw [a] at b
  cases b
  exact ⟨rfl, rfl⟩
theorem thn_f {r : Option (Int × Int)} {g : Int → Option (Int × Int)} {q f : Int} (e : r = some (q, f)) (h : 0 ≤ f) : thn r g = some (q, f) := by
  rw [e]
  unfold thn
  dsimp only
  rw [decide_eq_true h]
  rfl
theorem thn_n {r : Option (Int × Int)} {g : Int → Option (Int × Int)} {q f : Int} {x : Int × Int} (e : r = some (q, f)) (h : f < 0) (e2 : g q = some x) : thn r g = some x := by
  rw [e]
  unfold thn
  dsimp only
  rw [decide_eq_false (by omega)]
  exact e2
-- t: first t1, then t2
def seqT (t t1 t2 : Nat) : Prop := ∀ (T : Int → Int) (k : Nat) (o p : Int), prs T (k + 1) t o p = thn (prs T k t1 o p) (fun q => prs T k t2 o q)
-- t: a loop or a choice: where one of its signs stands, t1 behind it (and then t2)
def lopT (t t1 t2 : Nat) : Prop := ∀ (T : Int → Int) (k : Nat) (o p : Int), prs T (k + 1) t o p = bif opB t (T p) then thn (prs T k t1 o (p + 1)) (fun q => prs T k t2 o q) else some (p, -1)
def chT (t t1 : Nat) : Prop := ∀ (T : Int → Int) (k : Nat) (o p : Int), prs T (k + 1) t o p = bif opB t (T p) then prs T k t1 o (p + 1) else some (p, -1)
theorem gsq1 : seqT 1 0 2 := fun _ _ _ _ => rfl
theorem gsq3 : seqT 3 1 4 := fun _ _ _ _ => rfl
theorem gsq5 : seqT 5 3 12 := fun _ _ _ _ => rfl
theorem gsq6 : seqT 6 5 7 := fun _ _ _ _ => rfl
theorem gsq8 : seqT 8 6 9 := fun _ _ _ _ => rfl
theorem gsq10 : seqT 10 8 13 := fun _ _ _ _ => rfl
theorem gsq11 : seqT 11 10 14 := fun _ _ _ _ => rfl
theorem glp2 : lopT 2 0 2 := fun _ _ _ _ => rfl
theorem glp4 : lopT 4 1 4 := fun _ _ _ _ => rfl
theorem glp7 : lopT 7 5 7 := fun _ _ _ _ => rfl
theorem glp9 : lopT 9 6 9 := fun _ _ _ _ => rfl
theorem gch12 : chT 12 3 := fun _ _ _ _ => rfl
theorem gch13 : chT 13 8 := fun _ _ _ _ => rfl
theorem gch14 : chT 14 11 := fun _ _ _ _ => rfl
theorem sq_f {t t1 t2 : Nat} (S : seqT t t1 t2) {T : Int → Int} {o p q f : Int} (a : Pr T t1 o p q f) (h : 0 ≤ f) : Pr T t o p q f := by
  obtain ⟨k, a⟩ := a
  exact ⟨k + 1, (S T k o p).trans (thn_f a h)⟩
theorem sq_n {t t1 t2 : Nat} (S : seqT t t1 t2) {T : Int → Int} {o p q q2 f2 : Int} (a : Pr T t1 o p q (-1)) (b : Pr T t2 o q q2 f2) : Pr T t o p q2 f2 := by
  obtain ⟨k, a⟩ := a
  obtain ⟨k', b⟩ := b
  exact ⟨max k k' + 1, (S T _ o p).trans (thn_n (prs_le (Nat.le_max_left k k') a) (by decide) (prs_le (Nat.le_max_right k k') b))⟩
theorem lp_e {t t1 t2 : Nat} (S : lopT t t1 t2) {T : Int → Int} {o p : Int} (h : opB t (T p) = false) : Pr T t o p p (-1) := ⟨1, by rw [S T 0 o p, h]; rfl⟩
theorem lp_f {t t1 t2 : Nat} (S : lopT t t1 t2) {T : Int → Int} {o p q f : Int} (h : opB t (T p) = true) (a : Pr T t1 o (p + 1) q f) (hf : 0 ≤ f) : Pr T t o p q f := by
  obtain ⟨k, a⟩ := a
  exact ⟨k + 1, by rw [S T k o p, h]; exact thn_f a hf⟩
theorem lp_n {t t1 t2 : Nat} (S : lopT t t1 t2) {T : Int → Int} {o p q q2 f2 : Int} (h : opB t (T p) = true) (a : Pr T t1 o (p + 1) q (-1)) (b : Pr T t2 o q q2 f2) : Pr T t o p q2 f2 := by
  obtain ⟨k, a⟩ := a
  obtain ⟨k', b⟩ := b
  exact ⟨max k k' + 1, by rw [S T _ o p, h]; exact thn_n (prs_le (Nat.le_max_left k k') a) (by decide) (prs_le (Nat.le_max_right k k') b)⟩
theorem ch_e {t t1 : Nat} (S : chT t t1) {T : Int → Int} {o p : Int} (h : opB t (T p) = false) : Pr T t o p p (-1) := ⟨1, by rw [S T 0 o p, h]; rfl⟩
theorem ch_y {t t1 : Nat} (S : chT t t1) {T : Int → Int} {o p q f : Int} (h : opB t (T p) = true) (a : Pr T t1 o (p + 1) q f) : Pr T t o p q f := by
  obtain ⟨k, a⟩ := a
  exact ⟨k + 1, by rw [S T k o p, h]; exact a⟩
-- the operand
theorem op_nm {T : Int → Int} {o p : Int} (h : nmB (T p) = true) : Pr T 0 o p (p + 1) (-1) := ⟨1, by show (bif nmB (T p) then _ else _) = _; rw [h]; rfl⟩
theorem op_un {T : Int → Int} {o p q f : Int} (h : T p = 33 ∨ T p = 45) (ho : o ≠ 8) (a : Pr T 0 (o + 1) (p + 1) q f) : Pr T 0 o p q f := by
  obtain ⟨k, a⟩ := a
  refine ⟨k + 1, ?_⟩
  have h1 : nmB (T p) = false := by rcases h with h | h <;> rw [h] <;> rfl
  have h2 : (T p == 33 || T p == 45) = true := by rcases h with h | h <;> rw [h] <;> rfl
  have h3 : (o == 8) = false := beq_false_of_ne ho
  show (bif nmB (T p) then _ else bif T p == 33 || T p == 45 then (bif o == 8 then _ else prs T k 0 (o + 1) (p + 1)) else _) = _
  rw [h1, h2, h3]
  exact a
theorem op_8 {T : Int → Int} {o p : Int} (h : T p = 33 ∨ T p = 45 ∨ T p = 40) (ho : o = 8) : Pr T 0 o p p p := by
  refine ⟨1, ?_⟩
  subst ho
  show (bif nmB (T p) then _ else bif T p == 33 || T p == 45 then (bif (8 : Int) == 8 then some (p, p) else _) else bif T p == 40 then (bif (8 : Int) == 8 then some (p, p) else _) else _) = _
  rcases h with h | h | h <;> rw [h] <;> rfl
theorem op_br {T : Int → Int} {o p q f q2 f2 : Int} (h : T p = 40) (ho : o ≠ 8) (a : Pr T 8 (o + 1) (p + 1) q f) (b : (0 ≤ f ∧ q2 = q ∧ f2 = f) ∨ (f = -1 ∧ T q = 41 ∧ q2 = q + 1 ∧ f2 = -1) ∨ (f = -1 ∧ T q ≠ 41 ∧ q2 = q ∧ f2 = q)) : Pr T 0 o p q2 f2 := by
  obtain ⟨k, a⟩ := a
  refine ⟨k + 1, ?_⟩
  have h3 : (o == 8) = false := beq_false_of_ne ho
  show (bif nmB (T p) then _ else bif T p == 33 || T p == 45 then _ else bif T p == 40 then (bif o == 8 then _ else thn (prs T k 8 (o + 1) (p + 1)) (fun q => bif T q == 41 then some (q + 1, -1) else some (q, q))) else _) = _
  rw [h, h3]
  show thn (prs T k 8 (o + 1) (p + 1)) (fun q => bif T q == 41 then some (q + 1, -1) else some (q, q)) = _
  rcases b with ⟨b1, e1, e2⟩ | ⟨rfl, b2, e1, e2⟩ | ⟨rfl, b2, e1, e2⟩ <;> rw [e1, e2]
  · exact thn_f a b1
  · refine thn_n a (by decide) ?_
    show (bif T q == 41 then _ else _) = _
    rw [b2]; rfl
  · refine thn_n a (by decide) ?_
    show (bif T q == 41 then _ else _) = _
    rw [beq_false_of_ne b2]; rfl
theorem op_no {T : Int → Int} {o p : Int} (h1 : nmB (T p) = false) (h2 : T p ≠ 33) (h3 : T p ≠ 45) (h4 : T p ≠ 40) : Pr T 0 o p (dgEnd T 6 p) (if dgEnd T 6 p = p ∨ isD (T (dgEnd T 6 p)) = true then dgEnd T 6 p else -1) := by
  refine ⟨1, ?_⟩
  show (bif nmB (T p) then _ else bif T p == 33 || T p == 45 then _ else bif T p == 40 then _ else bif dgEnd T 6 p == p || isD (T (dgEnd T 6 p)) then some (dgEnd T 6 p, dgEnd T 6 p) else some (dgEnd T 6 p, -1)) = _
  rw [h1, beq_false_of_ne h2, beq_false_of_ne h3, beq_false_of_ne h4]
  show (bif dgEnd T 6 p == p || isD (T (dgEnd T 6 p)) then some (dgEnd T 6 p, dgEnd T 6 p) else some (dgEnd T 6 p, -1)) = _
  by_cases z : dgEnd T 6 p = p ∨ isD (T (dgEnd T 6 p)) = true
  · have : (dgEnd T 6 p == p || isD (T (dgEnd T 6 p))) = true := by rw [Bool.or_eq_true, beq_iff_eq]; exact z
    rw [this, if_pos z]; rfl
  · have : (dgEnd T 6 p == p || isD (T (dgEnd T 6 p))) = false := by
      rw [Bool.eq_false_iff]
      intro w
      rw [Bool.or_eq_true, beq_iff_eq] at w
      exact z w
    rw [this, if_neg z]; rfl
theorem dEnd_b (T : Int → Int) : ∀ (k : Nat) (p : Int), p ≤ dgEnd T k p ∧ (isD (T p) = true → 1 ≤ k → p < dgEnd T k p)
  | 0, p => ⟨Int.le_refl _, fun _ h => by omega⟩
  | k + 1, p => by
    have ih := dEnd_b T k (p + 1)
    have e : dgEnd T (k + 1) p = bif isD (T p) then dgEnd T k (p + 1) else p := rfl
    rw [e]
    cases z : isD (T p) with
    | true => exact ⟨by show p ≤ dgEnd T k (p + 1); omega, fun _ _ => by show p < dgEnd T k (p + 1); omega⟩
    | false => exact ⟨Int.le_refl _, fun w => by cases w⟩
theorem thn_x {r : Option (Int × Int)} {g : Int → Option (Int × Int)} {q f : Int} (e : thn r g = some (q, f)) : (r = some (q, f) ∧ 0 ≤ f) ∨ ∃ q1 f1, r = some (q1, f1) ∧ f1 < 0 ∧ g q1 = some (q, f) := by
  cases hr : r with
  | none => rw [hr] at e; cases e
  | some y =>
    obtain ⟨q1, f1⟩ := y
    rw [hr] at e
    unfold thn at e
    dsimp only at e
    cases z : decide (0 ≤ f1) with
    | true =>
      rw [z] at e
      cases e
      exact Or.inl ⟨rfl, of_decide_eq_true z⟩
    | false =>
      rw [z] at e
      exact Or.inr ⟨q1, f1, rfl, by have := of_decide_eq_false z; omega, e⟩
-- a reading without a fault goes on (but a loop may stay), and one with a fault has it where it stands; the fault is -1 or a place
theorem prs_b (T : Int → Int) : ∀ (k t : Nat) (o p q f : Int), 0 ≤ p → prs T k t o p = some (q, f) → (f = -1 ∨ 0 ≤ f) ∧ p ≤ q ∧ (f < 0 → (t = 2 ∨ t = 4 ∨ t = 7 ∨ t = 9 ∨ t = 12 ∨ t = 13 ∨ t = 14) ∨ p < q)
  | 0, _, _, _, _, _, _, e => by cases e
  | k + 1, t, o, p, q, f, hp, e => by
    have ih := prs_b T k
    have sq : ∀ t1 t2, (t1 = 0 ∨ t1 = 1 ∨ t1 = 3 ∨ t1 = 5 ∨ t1 = 6 ∨ t1 = 8 ∨ t1 = 10) → thn (prs T k t1 o p) (fun q => prs T k t2 o q) = some (q, f) → (f = -1 ∨ 0 ≤ f) ∧ p ≤ q ∧ (f < 0 → (t = 2 ∨ t = 4 ∨ t = 7 ∨ t = 9 ∨ t = 12 ∨ t = 13 ∨ t = 14) ∨ p < q) := by
      intro t1 t2 h1 e
      rcases thn_x e with ⟨a, b⟩ | ⟨q1, f1, a, b, c⟩
      · obtain ⟨i1, i2, i3⟩ := ih _ _ _ _ _ hp a
        exact ⟨i1, i2, fun w => by omega⟩
      · obtain ⟨i1, i2, i3⟩ := ih _ _ _ _ _ hp a
        obtain ⟨j1, j2, j3⟩ := ih _ _ _ _ _ (by omega) c
        exact ⟨j1, by omega, fun w => Or.inr (by have := i3 b; omega)⟩
    have lp : ∀ t1 t2, (t = 2 ∨ t = 4 ∨ t = 7 ∨ t = 9 ∨ t = 12 ∨ t = 13 ∨ t = 14) → (bif opB t (T p) then thn (prs T k t1 o (p + 1)) (fun q => prs T k t2 o q) else some (p, -1)) = some (q, f) → (f = -1 ∨ 0 ≤ f) ∧ p ≤ q ∧ (f < 0 → (t = 2 ∨ t = 4 ∨ t = 7 ∨ t = 9 ∨ t = 12 ∨ t = 13 ∨ t = 14) ∨ p < q) := by
      intro t1 t2 h1 e
      cases z : opB t (T p) with
      | false =>
        rw [z] at e
        cases e
        exact ⟨Or.inl rfl, Int.le_refl _, fun _ => Or.inl h1⟩
      | true =>
        rw [z] at e
        rcases thn_x e with ⟨a, b⟩ | ⟨q1, f1, a, b, c⟩
        · obtain ⟨i1, i2, i3⟩ := ih _ _ _ _ _ (by omega) a
          exact ⟨i1, by omega, fun w => Or.inl h1⟩
        · obtain ⟨i1, i2, i3⟩ := ih _ _ _ _ _ (by omega) a
          obtain ⟨j1, j2, j3⟩ := ih _ _ _ _ _ (by omega) c
          exact ⟨j1, by omega, fun w => Or.inl h1⟩
    have ch : ∀ t1, (t = 2 ∨ t = 4 ∨ t = 7 ∨ t = 9 ∨ t = 12 ∨ t = 13 ∨ t = 14) → (bif opB t (T p) then prs T k t1 o (p + 1) else some (p, -1)) = some (q, f) → (f = -1 ∨ 0 ≤ f) ∧ p ≤ q ∧ (f < 0 → (t = 2 ∨ t = 4 ∨ t = 7 ∨ t = 9 ∨ t = 12 ∨ t = 13 ∨ t = 14) ∨ p < q) := by
      intro t1 h1 e
      cases z : opB t (T p) with
      | false =>
        rw [z] at e
        cases e
        exact ⟨Or.inl rfl, Int.le_refl _, fun _ => Or.inl h1⟩
      | true =>
        rw [z] at e
        obtain ⟨i1, i2, i3⟩ := ih _ _ _ _ _ (by omega) e
        exact ⟨i1, by omega, fun w => Or.inl h1⟩
    match t with
    | 0 =>
      have e : (bif nmB (T p) then some (p + 1, -1) else bif T p == 33 || T p == 45 then (bif o == 8 then some (p, p) else prs T k 0 (o + 1) (p + 1)) else bif T p == 40 then (bif o == 8 then some (p, p) else thn (prs T k 8 (o + 1) (p + 1)) (fun q => bif T q == 41 then some (q + 1, -1) else some (q, q))) else bif dgEnd T 6 p == p || isD (T (dgEnd T 6 p)) then some (dgEnd T 6 p, dgEnd T 6 p) else some (dgEnd T 6 p, -1)) = some (q, f) := e
      cases z1 : nmB (T p) with
      | true => rw [z1] at e; cases e; exact ⟨Or.inl rfl, by omega, fun _ => Or.inr (by omega)⟩
      | false =>
        rw [z1] at e
        cases z2 : (T p == 33 || T p == 45) with
        | true =>
          rw [z2] at e
          cases z3 : (o == 8) with
          | true => rw [z3] at e; cases e; exact ⟨Or.inr hp, Int.le_refl _, fun w => by omega⟩
          | false =>
            rw [z3] at e
            obtain ⟨i1, i2, i3⟩ := ih _ _ _ _ _ (by omega) e
            exact ⟨i1, by omega, fun w => Or.inr (by omega)⟩
        | false =>
          rw [z2] at e
          cases z4 : (T p == 40) with
          | true =>
            rw [z4] at e
            cases z3 : (o == 8) with
            | true => rw [z3] at e; cases e; exact ⟨Or.inr hp, Int.le_refl _, fun w => by omega⟩
            | false =>
              rw [z3] at e
              rcases thn_x e with ⟨a, b⟩ | ⟨q1, f1, a, b, c⟩
              · obtain ⟨i1, i2, i3⟩ := ih _ _ _ _ _ (by omega) a
                exact ⟨i1, by omega, fun w => by omega⟩
              · obtain ⟨i1, i2, i3⟩ := ih _ _ _ _ _ (by omega) a
                cases z5 : (T q1 == 41) with
                | true => simp only [z5, cond_true] at c; cases c; exact ⟨Or.inl rfl, by omega, fun _ => Or.inr (by omega)⟩
                | false => simp only [z5, cond_false] at c; cases c; exact ⟨Or.inr (by omega), by omega, fun w => by omega⟩
          | false =>
            rw [z4] at e
            have d := dEnd_b T 6 p
            cases z6 : (dgEnd T 6 p == p || isD (T (dgEnd T 6 p))) with
            | true => rw [z6] at e; cases e; exact ⟨Or.inr (by omega), d.1, fun w => by omega⟩
            | false =>
              rw [z6] at e
              cases e
              rw [Bool.or_eq_false_iff] at z6
              have := ne_of_beq_false z6.1
              exact ⟨Or.inl rfl, d.1, fun w => Or.inr (by omega)⟩
    | 1 => exact sq 0 2 (by decide) e
    | 2 => exact lp 0 2 (by decide) e
    | 3 => exact sq 1 4 (by decide) e
    | 4 => exact lp 1 4 (by decide) e
    | 5 => exact sq 3 12 (by decide) e
    | 6 => exact sq 5 7 (by decide) e
    | 7 => exact lp 5 7 (by decide) e
    | 8 => exact sq 6 9 (by decide) e
    | 9 => exact lp 6 9 (by decide) e
    | 10 => exact sq 8 13 (by decide) e
    | 11 => exact sq 10 14 (by decide) e
    | 12 => exact ch 3 (by decide) e
    | 13 => exact ch 8 (by decide) e
    | 14 => exact ch 11 (by decide) e
    | _ + 15 => cases e
theorem pr_b {T : Int → Int} {t : Nat} {o p q f : Int} (h : 0 ≤ p) (a : Pr T t o p q f) : (f = -1 ∨ 0 ≤ f) ∧ p ≤ q ∧ (f < 0 → (t = 2 ∨ t = 4 ∨ t = 7 ∨ t = 9 ∨ t = 12 ∨ t = 13 ∨ t = 14) ∨ p < q) := by
  obtain ⟨k, a⟩ := a
  exact prs_b T k t o p q f h a


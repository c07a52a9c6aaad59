-- ===== the worth of texts =====
def nmV (t : Int) : Int := if t = 121 then 0 else if t = 107 then 1 else if t = 115 then 2 else if t = 102 then 3 else if t = 103 then 4 else if t = 99 then 5 else if t = 116 then 6 else if t = 108 then 7 else if t = 101 then 8 else if t = 112 then 9 else if t = 109 then 10 else if t = 106 then 11 else if t = 98 then 12 else -1
def dgVal (T : Int → Int) : Nat → Int → Int → Int
  | 0, _, v => v
  | k + 1, p, v => bif isD (T p) then dgVal T k (p + 1) (w32 (w32 (w32 (v * 10) + T p) - 48)) else v
noncomputable def bo (w a b : Int) : Int := if w = 43 then w32 (a + b) else if w = 45 then w32 (a - b) else if w = 42 then w32 (a * b) else if w = 47 then (if b = 0 then 0 else iDiv a b) else if w = 37 then (if b = 0 then 0 else iRem a b) else if w = 60 then bI (a < b) else if w = 61 then bI (a = b) else if w = 62 then bI (b < a) else if w = 38 then bI (a ≠ 0 ∧ b ≠ 0) else bI (a ≠ 0 ∨ b ≠ 0)
noncomputable def stpP (N : Int → Int) (w x : Int) (st : List Int) : List Int := if w = 1 then x :: st else if w = 2 then N x :: st else match st with
  | [] => []
  | b :: r => if w = 3 then bI (b = 0) :: r else if w = 4 then w32 (-b) :: r else match r with
    | [] => []
    | a :: r2 => bo w a b :: r2
noncomputable def run (N : Int → Int) : List (Int × Int) → List Int → List Int
  | [], st => st
  | (w, x) :: L, st => run N L (stpP N w x st)
theorem run_a (N : Int → Int) : ∀ (L M : List (Int × Int)) (st : List Int), run N (L ++ M) st = run N M (run N L st)
  | [], _, _ => rfl
  | (w, x) :: L, M, st => run_a N L M (stpP N w x st)
abbrev cR : Type := Option (Int × List (Int × Int))
def cdT (r : cR) (M : List (Int × Int)) (g : Int → cR) : cR := match r with
  | none => none
  | some (q, L) => match g q with
    | none => none
    | some (q2, L2) => some (q2, L ++ (M ++ L2))
def cdF (T : Int → Int) : Nat → Nat → Int → Int → cR
  | 0, _, _, _ => none
  | k + 1, tag, o, p => match tag with
    | 0 => bif nmB (T p) then some (p + 1, [(2, nmV (T p))])
      else bif T p == 33 then (bif o == 8 then none else cdT (cdF T k 0 (o + 1) (p + 1)) [(3, 0)] (fun q => some (q, [])))
      else bif T p == 45 then (bif o == 8 then none else cdT (cdF T k 0 (o + 1) (p + 1)) [(4, 0)] (fun q => some (q, [])))
      else bif T p == 40 then (bif o == 8 then none else cdT (cdF T k 8 (o + 1) (p + 1)) [] (fun q => bif T q == 41 then some (q + 1, []) else none))
      else bif dgEnd T 6 p == p || isD (T (dgEnd T 6 p)) then none else some (dgEnd T 6 p, [(1, dgVal T 6 p 0)])
    | 1 => cdT (cdF T k 0 o p) [] (fun q => cdF T k 2 o q)
    | 2 => bif opB 2 (T p) then cdT (cdF T k 0 o (p + 1)) [(T p, 0)] (fun q => cdF T k 2 o q) else some (p, [])
    | 3 => cdT (cdF T k 1 o p) [] (fun q => cdF T k 4 o q)
    | 4 => bif opB 4 (T p) then cdT (cdF T k 1 o (p + 1)) [(T p, 0)] (fun q => cdF T k 4 o q) else some (p, [])
    | 5 => cdT (cdF T k 3 o p) [] (fun q => cdF T k 12 o q)
    | 6 => cdT (cdF T k 5 o p) [] (fun q => cdF T k 7 o q)
    | 7 => bif opB 7 (T p) then cdT (cdF T k 5 o (p + 1)) [(T p, 0)] (fun q => cdF T k 7 o q) else some (p, [])
    | 8 => cdT (cdF T k 6 o p) [] (fun q => cdF T k 9 o q)
    | 9 => bif opB 9 (T p) then cdT (cdF T k 6 o (p + 1)) [(T p, 0)] (fun q => cdF T k 9 o q) else some (p, [])
    | 12 => bif opB 12 (T p) then cdT (cdF T k 3 o (p + 1)) [(T p, 0)] (fun q => some (q, [])) else some (p, [])
    | _ => none
theorem cdT_x {r : cR} {M : List (Int × Int)} {g : Int → cR} {q : Int} {L : List (Int × Int)} (e : cdT r M g = some (q, L)) : ∃ q1 L1 L2, r = some (q1, L1) ∧ g q1 = some (q, L2) ∧ L = L1 ++ (M ++ L2) := by
  cases hr : r with
  | none => rw [hr] at e; cases e
  | some y =>
    obtain ⟨q1, L1⟩ := y
    rw [hr] at e
    unfold cdT at e
    dsimp only at e
    cases hg : g q1 with
    | none => rw [hg] at e; cases e
    | some z =>
      obtain ⟨q2, L2⟩ := z
      rw [hg] at e
      cases e
      exact ⟨q1, L1, L2, rfl, hg, rfl⟩
theorem cdT_e {r : cR} {M : List (Int × Int)} {g : Int → cR} {q1 q : Int} {L1 L2 : List (Int × Int)} (a : r = some (q1, L1)) (b : g q1 = some (q, L2)) : cdT r M g = some (q, L1 ++ (M ++ L2)) := by
  rw [a]
  unfold cdT
  dsimp only
  rw [b]
theorem cdT_m {r r' : cR} {M : List (Int × Int)} {g g' : Int → cR} (h1 : ∀ x, r = some x → r' = some x) (h2 : ∀ q x, g q = some x → g' q = some x) : ∀ x, cdT r M g = some x → cdT r' M g' = some x := by
  rintro ⟨q, L⟩ e
  obtain ⟨q1, L1, L2, a, b, rfl⟩ := cdT_x e
  exact cdT_e (h1 _ a) (h2 _ _ b)
theorem bic_m {b : Bool} {r r' s s' : cR} (h1 : ∀ x, r = some x → r' = some x) (h2 : ∀ x, s = some x → s' = some x) : ∀ x, (bif b then r else s) = some x → (bif b then r' else s') = some x := by
  intro x e
  cases b with
  | true => exact h1 x e
  | false => exact h2 x e
theorem cdF_s (T : Int → Int) : ∀ (k tag : Nat) (o p : Int) (x : Int × List (Int × Int)), cdF T k tag o p = some x → cdF T (k + 1) tag o p = some x
  | 0, _, _, _, _, e => by cases e
  | k + 1, tag, o, p, x, e => by
    have ih := cdF_s T k
    have same : ∀ (r : cR) x, r = some x → r = some x := fun _ _ e => e
    match tag with
    | 0 => exact bic_m (same _) (bic_m (bic_m (same _) (cdT_m (ih 0 _ _) (fun _ => same _))) (bic_m (bic_m (same _) (cdT_m (ih 0 _ _) (fun _ => same _))) (bic_m (bic_m (same _) (cdT_m (ih 8 _ _) (fun _ => same _))) (same _)))) x e
    | 1 => exact cdT_m (ih 0 _ _) (fun q => ih 2 o q) x e
    | 2 => exact bic_m (cdT_m (ih 0 _ _) (fun q => ih 2 o q)) (same _) x e
    | 3 => exact cdT_m (ih 1 _ _) (fun q => ih 4 o q) x e
    | 4 => exact bic_m (cdT_m (ih 1 _ _) (fun q => ih 4 o q)) (same _) x e
    | 5 => exact cdT_m (ih 3 _ _) (fun q => ih 12 o q) x e
    | 6 => exact cdT_m (ih 5 _ _) (fun q => ih 7 o q) x e
    | 7 => exact bic_m (cdT_m (ih 5 _ _) (fun q => ih 7 o q)) (same _) x e
    | 8 => exact cdT_m (ih 6 _ _) (fun q => ih 9 o q) x e
    | 9 => exact bic_m (cdT_m (ih 6 _ _) (fun q => ih 9 o q)) (same _) x e
    | 10 => cases e
    | 11 => cases e
    | 12 => exact bic_m (cdT_m (ih 3 _ _) (fun _ => same _)) (same _) x e
    | _ + 13 => cases e
theorem cdF_le {T : Int → Int} {k k' tag : Nat} {o p : Int} {x : Int × List (Int × Int)} (h : k ≤ k') (e : cdF T k tag o p = some x) : cdF T k' tag o p = some x := by
  obtain ⟨d, rfl⟩ := Nat.le.dest h
  induction d with
  | zero => exact e
  | succ d ih => exact cdF_s T (k + d) tag o p x (ih (by omega))
def Cd (T : Int → Int) (t : Nat) (o p q : Int) (L : List (Int × Int)) : Prop := ∃ k, cdF T k t o p = some (q, L)
theorem cd_u {T : Int → Int} {t : Nat} {o p q q' : Int} {L L' : List (Int × Int)} (a : Cd T t o p q L) (b : Cd T t o p q' L') : q = q' ∧ L = L' := by
  obtain ⟨k, a⟩ := a
  obtain ⟨k', b⟩ := b
  have a := cdF_le (Nat.le_max_left k k') a
  have b := cdF_le (Nat.le_max_right k k') b
  rw [a] at b
  cases b
  exact ⟨rfl, rfl⟩
def seqC (t t1 t2 : Nat) : Prop := ∀ (T : Int → Int) (k : Nat) (o p : Int), cdF T (k + 1) t o p = cdT (cdF T k t1 o p) [] (fun q => cdF T k t2 o q)
def lopC (t t1 : Nat) : Prop := ∀ (T : Int → Int) (k : Nat) (o p : Int), cdF T (k + 1) t o p = bif opB t (T p) then cdT (cdF T k t1 o (p + 1)) [(T p, 0)] (fun q => cdF T k t o q) else some (p, [])
theorem ksq1 : seqC 1 0 2 := fun _ _ _ _ => rfl
theorem ksq3 : seqC 3 1 4 := fun _ _ _ _ => rfl
theorem ksq5 : seqC 5 3 12 := fun _ _ _ _ => rfl
theorem ksq6 : seqC 6 5 7 := fun _ _ _ _ => rfl
theorem ksq8 : seqC 8 6 9 := fun _ _ _ _ => rfl
theorem klp2 : lopC 2 0 := fun _ _ _ _ => rfl
theorem klp4 : lopC 4 1 := fun _ _ _ _ => rfl
theorem klp7 : lopC 7 5 := fun _ _ _ _ => rfl
theorem klp9 : lopC 9 6 := fun _ _ _ _ => rfl
theorem kch12 (T : Int → Int) (k : Nat) (o p : Int) : cdF T (k + 1) 12 o p = bif opB 12 (T p) then cdT (cdF T k 3 o (p + 1)) [(T p, 0)] (fun q => some (q, [])) else some (p, []) := rfl
section KD
variable {T : Int → Int} {t t1 t2 : Nat} {o p q q1 q2 : Int} {L L1 L2 : List (Int × Int)}
theorem kq_n (S : seqC t t1 t2) (a : Cd T t1 o p q1 L1) (b : Cd T t2 o q1 q L2) : Cd T t o p q (L1 ++ L2) := by
  obtain ⟨k, a⟩ := a
  obtain ⟨k', b⟩ := b
  exact ⟨max k k' + 1, (S T _ o p).trans (cdT_e (cdF_le (Nat.le_max_left k k') a) (cdF_le (Nat.le_max_right k k') b))⟩
theorem kq_x (S : seqC t t1 t2) (a : Cd T t o p q L) : ∃ q1 L1 L2, Cd T t1 o p q1 L1 ∧ Cd T t2 o q1 q L2 ∧ L = L1 ++ L2 := by
  obtain ⟨k, a⟩ := a
  cases k with
  | zero => cases a
  | succ k =>
    rw [S] at a
    obtain ⟨q1, L1, L2, b, c, e⟩ := cdT_x a
    exact ⟨q1, L1, L2, ⟨k, b⟩, ⟨k, c⟩, e⟩
theorem kl_e (S : lopC t t1) (h : opB t (T p) = false) : Cd T t o p p [] := ⟨1, by rw [S, h]; rfl⟩
theorem kl_n (S : lopC t t1) (h : opB t (T p) = true) (a : Cd T t1 o (p + 1) q1 L1) (b : Cd T t o q1 q L2) : Cd T t o p q (L1 ++ (T p, 0) :: L2) := by
  obtain ⟨k, a⟩ := a
  obtain ⟨k', b⟩ := b
  exact ⟨max k k' + 1, by rw [S, h]; exact cdT_e (cdF_le (Nat.le_max_left k k') a) (cdF_le (Nat.le_max_right k k') b)⟩
theorem kl_x (S : lopC t t1) (a : Cd T t o p q L) : (opB t (T p) = false ∧ q = p ∧ L = []) ∨ (opB t (T p) = true ∧ ∃ q1 L1 L2, Cd T t1 o (p + 1) q1 L1 ∧ Cd T t o q1 q L2 ∧ L = L1 ++ (T p, 0) :: L2) := by
  obtain ⟨k, a⟩ := a
  cases k with
  | zero => cases a
  | succ k =>
    rw [S] at a
    cases z : opB t (T p) with
    | false =>
      rw [z] at a
      cases a
      exact Or.inl ⟨rfl, rfl, rfl⟩
    | true =>
      rw [z] at a
      obtain ⟨q1, L1, L2, b, c, e⟩ := cdT_x a
      exact Or.inr ⟨rfl, q1, L1, L2, ⟨k, b⟩, ⟨k, c⟩, e⟩
theorem kc_e (h : opB 12 (T p) = false) : Cd T 12 o p p [] := ⟨1, by rw [kch12, h]; rfl⟩
theorem kc_y (h : opB 12 (T p) = true) (a : Cd T 3 o (p + 1) q L1) : Cd T 12 o p q (L1 ++ [(T p, 0)]) := by
  obtain ⟨k, a⟩ := a
  refine ⟨k + 1, ?_⟩
  rw [kch12, h]
  show cdT (cdF T k 3 o (p + 1)) [(T p, 0)] (fun q => some (q, [])) = _
  exact cdT_e (g := fun q => some (q, [])) a rfl
theorem kc_x (a : Cd T 12 o p q L) : (opB 12 (T p) = false ∧ q = p ∧ L = []) ∨ (opB 12 (T p) = true ∧ ∃ L1, Cd T 3 o (p + 1) q L1 ∧ L = L1 ++ [(T p, 0)]) := by
  obtain ⟨k, a⟩ := a
  cases k with
  | zero => cases a
  | succ k =>
    rw [kch12] at a
    cases z : opB 12 (T p) with
    | false =>
      rw [z] at a
      cases a
      exact Or.inl ⟨rfl, rfl, rfl⟩
    | true =>
      rw [z] at a
      have a : cdT (cdF T k 3 o (p + 1)) [(T p, 0)] (fun q => some (q, [])) = some (q, L) := a
      obtain ⟨q1, L1, L2, b, c, e⟩ := cdT_x a
      cases c
      exact Or.inr ⟨rfl, L1, ⟨k, b⟩, e⟩
-- the operand
theorem ko_s (T : Int → Int) (k : Nat) (o p : Int) : cdF T (k + 1) 0 o p = bif nmB (T p) then some (p + 1, [(2, nmV (T p))]) else bif T p == 33 then (bif o == 8 then none else cdT (cdF T k 0 (o + 1) (p + 1)) [(3, 0)] (fun q => some (q, []))) else bif T p == 45 then (bif o == 8 then none else cdT (cdF T k 0 (o + 1) (p + 1)) [(4, 0)] (fun q => some (q, []))) else bif T p == 40 then (bif o == 8 then none else cdT (cdF T k 8 (o + 1) (p + 1)) [] (fun q => bif T q == 41 then some (q + 1, []) else none)) else bif dgEnd T 6 p == p || isD (T (dgEnd T 6 p)) then none else some (dgEnd T 6 p, [(1, dgVal T 6 p 0)]) := rfl
theorem ko_nm (h : nmB (T p) = true) : Cd T 0 o p (p + 1) [(2, nmV (T p))] := ⟨1, by rw [ko_s, h]; rfl⟩
theorem ko_un {w : Int} (h : (T p = 33 ∧ w = 3) ∨ (T p = 45 ∧ w = 4)) (ho : o ≠ 8) (a : Cd T 0 (o + 1) (p + 1) q L) : Cd T 0 o p q (L ++ [(w, 0)]) := by
  obtain ⟨k, a⟩ := a
  refine ⟨k + 1, ?_⟩
  rw [ko_s, beq_false_of_ne ho]
  rcases h with ⟨h, rfl⟩ | ⟨h, rfl⟩ <;> rw [h]
  · show cdT (cdF T k 0 (o + 1) (p + 1)) [(3, 0)] (fun q => some (q, [])) = _
    exact cdT_e (g := fun q => some (q, [])) a rfl
  · show cdT (cdF T k 0 (o + 1) (p + 1)) [(4, 0)] (fun q => some (q, [])) = _
    exact cdT_e (g := fun q => some (q, [])) a rfl
theorem ko_br (h : T p = 40) (ho : o ≠ 8) (a : Cd T 8 (o + 1) (p + 1) q L) (b : T q = 41) : Cd T 0 o p (q + 1) L := by
  obtain ⟨k, a⟩ := a
  refine ⟨k + 1, ?_⟩
  rw [ko_s, beq_false_of_ne ho, h]
  have e := cdT_e (M := []) (g := fun q => bif T q == 41 then some (q + 1, []) else none) a (show (bif T q == 41 then some (q + 1, ([] : List (Int × Int))) else none) = some (q + 1, []) by rw [b]; rfl)
  rw [List.nil_append, List.append_nil] at e
  exact e
theorem ko_no (h1 : nmB (T p) = false) (h2 : T p ≠ 33) (h3 : T p ≠ 45) (h4 : T p ≠ 40) (d : ¬ (dgEnd T 6 p = p ∨ isD (T (dgEnd T 6 p)) = true)) : Cd T 0 o p (dgEnd T 6 p) [(1, dgVal T 6 p 0)] := by
  refine ⟨1, ?_⟩
  have z : (dgEnd T 6 p == p || isD (T (dgEnd T 6 p))) = false := by
    rw [Bool.eq_false_iff]
    intro w
    rw [Bool.or_eq_true, beq_iff_eq] at w
    exact d w
  rw [ko_s, h1, beq_false_of_ne h2, beq_false_of_ne h3, beq_false_of_ne h4, z]
  rfl
theorem ko_x (a : Cd T 0 o p q L) : (nmB (T p) = true ∧ q = p + 1 ∧ L = [(2, nmV (T p))]) ∨ (nmB (T p) = false ∧ o ≠ 8 ∧ ∃ w L1, ((T p = 33 ∧ w = 3) ∨ (T p = 45 ∧ w = 4)) ∧ Cd T 0 (o + 1) (p + 1) q L1 ∧ L = L1 ++ [(w, 0)]) ∨ (nmB (T p) = false ∧ o ≠ 8 ∧ T p = 40 ∧ ∃ q1, Cd T 8 (o + 1) (p + 1) q1 L ∧ T q1 = 41 ∧ q = q1 + 1) ∨ (nmB (T p) = false ∧ (T p ≠ 33 ∧ T p ≠ 45 ∧ T p ≠ 40) ∧ ¬ (dgEnd T 6 p = p ∨ isD (T (dgEnd T 6 p)) = true) ∧ q = dgEnd T 6 p ∧ L = [(1, dgVal T 6 p 0)]) := by
  obtain ⟨k, a⟩ := a
  cases k with
  | zero => cases a
  | succ k =>
    rw [ko_s] at a
    cases z1 : nmB (T p) with
    | true =>
      rw [z1] at a
      cases a
      exact Or.inl ⟨rfl, rfl, rfl⟩
    | false =>
      rw [z1] at a
      have un : ∀ (c w : Int), (bif o == 8 then none else cdT (cdF T k 0 (o + 1) (p + 1)) [(w, 0)] (fun q => some (q, []))) = some (q, L) → o ≠ 8 ∧ ∃ L1, Cd T 0 (o + 1) (p + 1) q L1 ∧ L = L1 ++ [(w, 0)] := fun c w a => by
        cases z : (o == 8) with
        | true => rw [z] at a; cases a
        | false =>
          rw [z] at a
          have a : cdT (cdF T k 0 (o + 1) (p + 1)) [(w, 0)] (fun q => some (q, [])) = some (q, L) := a
          obtain ⟨q1, L1, L2, b, c, e⟩ := cdT_x a
          cases c
          exact ⟨ne_of_beq_false z, L1, ⟨k, b⟩, e⟩
      cases z2 : (T p == 33) with
      | true =>
        rw [z2] at a
        obtain ⟨n, L1, b, e⟩ := un 33 3 a
        exact Or.inr (Or.inl ⟨rfl, n, 3, L1, Or.inl ⟨eq_of_beq z2, rfl⟩, b, e⟩)
      | false =>
        rw [z2] at a
        cases z3 : (T p == 45) with
        | true =>
          rw [z3] at a
          obtain ⟨n, L1, b, e⟩ := un 45 4 a
          exact Or.inr (Or.inl ⟨rfl, n, 4, L1, Or.inr ⟨eq_of_beq z3, rfl⟩, b, e⟩)
        | false =>
          rw [z3] at a
          cases z4 : (T p == 40) with
          | true =>
            rw [z4] at a
            cases z : (o == 8) with
            | true => rw [z] at a; cases a
            | false =>
              rw [z] at a
              obtain ⟨q1, L1, L2, b, c, e⟩ := cdT_x a
              cases z5 : (T q1 == 41) with
              | false => simp only [z5, cond_false] at c; cases c
              | true =>
                simp only [z5, cond_true] at c
                cases c
                rw [List.nil_append, List.append_nil] at e
                exact Or.inr (Or.inr (Or.inl ⟨rfl, ne_of_beq_false z, eq_of_beq z4, q1, ⟨k, by rw [e]; exact b⟩, eq_of_beq z5, rfl⟩))
          | false =>
            rw [z4] at a
            cases z6 : (dgEnd T 6 p == p || isD (T (dgEnd T 6 p))) with
            | true => rw [z6] at a; cases a
            | false =>
              rw [z6] at a
              cases a
              refine Or.inr (Or.inr (Or.inr ⟨rfl, ⟨ne_of_beq_false z2, ne_of_beq_false z3, ne_of_beq_false z4⟩, fun w => ?_, rfl, rfl⟩))
              rw [Bool.or_eq_false_iff] at z6
              rcases w with w | w
              · exact ne_of_beq_false z6.1 w
              · rw [z6.2] at w
                cases w
end KD
-- a code's place is the reading's
theorem cdF_p (T : Int → Int) : ∀ (k t : Nat) (o p q : Int) (L : List (Int × Int)), cdF T k t o p = some (q, L) → Pr T t o p q (-1)
  | 0, _, _, _, _, _, e => by cases e
  | k + 1, t, o, p, q, L, e => by
    have ih := cdF_p T k
    have sq : ∀ {t1 t2 : Nat}, seqT t t1 t2 → cdT (cdF T k t1 o p) [] (fun q => cdF T k t2 o q) = some (q, L) → Pr T t o p q (-1) := fun S e => by
      obtain ⟨q1, L1, L2, a, b, -⟩ := cdT_x e
      exact sq_n S (ih _ _ _ _ _ a) (ih _ _ _ _ _ b)
    have lp : ∀ {t1 : Nat}, lopT t t1 t → (bif opB t (T p) then cdT (cdF T k t1 o (p + 1)) [(T p, 0)] (fun q => cdF T k t o q) else some (p, [])) = some (q, L) → Pr T t o p q (-1) := fun S e => by
      cases z : opB t (T p) with
      | false =>
        rw [z] at e
        cases e
        exact lp_e S z
      | true =>
        rw [z] at e
        obtain ⟨q1, L1, L2, a, b, -⟩ := cdT_x e
        exact lp_n S z (ih _ _ _ _ _ a) (ih _ _ _ _ _ b)
    match t with
    | 0 =>
      rcases ko_x ⟨k + 1, e⟩ with ⟨a, rfl, -⟩ | ⟨-, n, w, L1, c, -, -⟩ | ⟨-, n, c, q1, -, c2, rfl⟩ | ⟨a, ⟨b, c, d⟩, z, rfl, -⟩
      · exact op_nm a
      · have c' : T p = 33 ∨ T p = 45 := by omega
        rw [ko_s] at e
        have h1 : nmB (T p) = false := by rcases c' with h | h <;> rw [h] <;> rfl
        rw [h1, beq_false_of_ne n] at e
        rcases c' with h | h <;> rw [h] at e
        · have e : cdT (cdF T k 0 (o + 1) (p + 1)) [(3, 0)] (fun q => some (q, [])) = some (q, L) := e
          obtain ⟨q1, L1, L2, a, b, -⟩ := cdT_x e
          cases b
          exact op_un (Or.inl h) n (ih _ _ _ _ _ a)
        · have e : cdT (cdF T k 0 (o + 1) (p + 1)) [(4, 0)] (fun q => some (q, [])) = some (q, L) := e
          obtain ⟨q1, L1, L2, a, b, -⟩ := cdT_x e
          cases b
          exact op_un (Or.inr h) n (ih _ _ _ _ _ a)
      · rw [ko_s, beq_false_of_ne n, c] at e
        have e : cdT (cdF T k 8 (o + 1) (p + 1)) [] (fun q => bif T q == 41 then some (q + 1, []) else none) = some (q1 + 1, L) := e
        obtain ⟨q2, L1, L2, a, b, -⟩ := cdT_x e
        have pa := ih _ _ _ _ _ a
        cases z5 : (T q2 == 41) with
        | false => simp only [z5, cond_false] at b; cases b
        | true =>
          simp only [z5, cond_true] at b
          have b := congrArg (fun x => x.map Prod.fst) b
          have b : some (q2 + 1) = some (q1 + 1) := b
          have b := Option.some.inj b
          exact op_br c n pa (Or.inr (Or.inl ⟨rfl, eq_of_beq z5, b.symm, rfl⟩))
      · have r := op_no (o := o) a b c d
        rw [if_neg z] at r
        exact r
    | 1 => exact sq gsq1 e
    | 2 => exact lp glp2 e
    | 3 => exact sq gsq3 e
    | 4 => exact lp glp4 e
    | 5 => exact sq gsq5 e
    | 6 => exact sq gsq6 e
    | 7 => exact lp glp7 e
    | 8 => exact sq gsq8 e
    | 9 => exact lp glp9 e
    | 10 => cases e
    | 11 => cases e
    | 12 =>
      rcases kc_x ⟨k + 1, e⟩ with ⟨z, rfl, -⟩ | ⟨z, -⟩
      · exact ch_e gch12 z
      · rw [kch12, z] at e
        have e : cdT (cdF T k 3 o (p + 1)) [(T p, 0)] (fun q => some (q, [])) = some (q, L) := e
        obtain ⟨q1, L1, L2, a, b, -⟩ := cdT_x e
        cases b
        exact ch_y gch12 z (ih _ _ _ _ _ a)
    | _ + 13 => cases e
theorem cd_p {T : Int → Int} {t : Nat} {o p q : Int} {L : List (Int × Int)} (a : Cd T t o p q L) : Pr T t o p q (-1) := by
  obtain ⟨k, a⟩ := a
  exact cdF_p T k t o p q L a


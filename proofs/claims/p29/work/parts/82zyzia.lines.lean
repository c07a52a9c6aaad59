-- ===== what a text says =====
-- a code leaves one number more
theorem opB_n {t : Nat} {c : Int} (h : opB t c = true) : c ≠ 1 ∧ c ≠ 2 ∧ c ≠ 3 ∧ c ≠ 4 := by
  have k : ∀ c : Int, (c = 1 ∨ c = 2 ∨ c = 3 ∨ c = 4) → opB t c = false := fun c hc => by
    unfold opB
    split <;> (rcases hc with rfl | rfl | rfl | rfl <;> rfl)
  refine ⟨fun e => ?_, fun e => ?_, fun e => ?_, fun e => ?_⟩ <;> (rw [k c (by omega)] at h; cases h)
abbrev oneC (N : Int → Int) (L : List (Int × Int)) : Prop := ∀ st, ∃ r, run N L st = r :: st
abbrev onC (N : Int → Int) (L : List (Int × Int)) : Prop := ∀ a st, ∃ r, run N L (a :: st) = r :: st
abbrev tagA (t : Nat) : Prop := t = 0 ∨ t = 1 ∨ t = 3 ∨ t = 5 ∨ t = 6 ∨ t = 8
abbrev tagB (t : Nat) : Prop := t = 2 ∨ t = 4 ∨ t = 7 ∨ t = 9 ∨ t = 12
theorem cdF_r (T N : Int → Int) : ∀ (k t : Nat) (o p q : Int) (L : List (Int × Int)), cdF T k t o p = some (q, L) → (tagA t → oneC N L) ∧ (tagB t → onC N L)
  | 0, _, _, _, _, _, e => by cases e
  | k + 1, t, o, p, q, L, e => by
    have ih := cdF_r T N k
    have sq : ∀ {t1 t2 : Nat}, tagA t1 → tagB t2 → cdT (cdF T k t1 o p) [] (fun q => cdF T k t2 o q) = some (q, L) → oneC N L := fun h1 h2 e st => by
      obtain ⟨q1, L1, L2, a, b, rfl⟩ := cdT_x e
      obtain ⟨r1, e1⟩ := (ih _ _ _ _ _ a).1 h1 st
      obtain ⟨r2, e2⟩ := (ih _ _ _ _ _ b).2 h2 r1 st
      exact ⟨r2, by rw [List.nil_append, run_a, e1, e2]⟩
    have stp : ∀ {L1 L2 : List (Int × Int)} {t1 : Nat}, opB t1 (T p) = true → oneC N L1 → onC N L2 → onC N (L1 ++ ([(T p, 0)] ++ L2)) := by
      intro L1 L2 t1 z h1 h2 a st
      obtain ⟨r1, e1⟩ := h1 (a :: st)
      obtain ⟨r2, e2⟩ := h2 (bo (T p) a r1) st
      refine ⟨r2, ?_⟩
      rw [run_a, e1]
      show run N ((T p, 0) :: L2) (r1 :: a :: st) = _
      rw [run_c, stp_b (opB_n z)]
      exact e2
    have lp : ∀ {t1 : Nat}, tagA t1 → tagB t → (bif opB t (T p) then cdT (cdF T k t1 o (p + 1)) [(T p, 0)] (fun q => cdF T k t o q) else some (p, [])) = some (q, L) → onC N L := fun h1 h2 e a st => by
      cases z : opB t (T p) with
      | false =>
        rw [z] at e
        cases e
        exact ⟨a, rfl⟩
      | true =>
        rw [z] at e
        obtain ⟨q1, L1, L2, x, y, rfl⟩ := cdT_x e
        exact stp z ((ih _ _ _ _ _ x).1 h1) ((ih _ _ _ _ _ y).2 h2) a st
    have nA : ∀ {t : Nat}, (t = 0 ∨ t = 1 ∨ t = 3 ∨ t = 5 ∨ t = 6 ∨ t = 8 → False) → tagA t → oneC N L := fun h z => absurd z h
    have nB : ∀ {t : Nat}, (t = 2 ∨ t = 4 ∨ t = 7 ∨ t = 9 ∨ t = 12 → False) → tagB t → onC N L := fun h z => absurd z h
    match t with
    | 0 =>
      refine ⟨fun _ => ?_, nB (by decide)⟩
      rw [ko_s] at e
      cases z1 : nmB (T p) with
      | true =>
        rw [z1] at e
        cases e
        exact fun st => ⟨N (nmV (T p)), rfl⟩
      | false =>
        rw [z1] at e
        have un : ∀ w : Int, (w = 3 ∨ w = 4) → (bif o == 8 then none else cdT (cdF T k 0 (o + 1) (p + 1)) [(w, 0)] (fun q => some (q, []))) = some (q, L) → oneC N L := fun w hw e => by
          cases z : (o == 8) with
          | true => rw [z] at e; cases e
          | false =>
            rw [z] at e
            have e : cdT (cdF T k 0 (o + 1) (p + 1)) [(w, 0)] (fun q => some (q, [])) = some (q, L) := e
            obtain ⟨q1, L1, L2, a, b, rfl⟩ := cdT_x e
            cases b
            intro st
            obtain ⟨r1, e1⟩ := (ih _ _ _ _ _ a).1 (by decide) st
            rcases hw with rfl | rfl
            · exact ⟨bI (r1 = 0), by rw [run_a, e1]; rfl⟩
            · exact ⟨w32 (-r1), by rw [run_a, e1]; rfl⟩
        cases z2 : (T p == 33) with
        | true => rw [z2] at e; exact un 3 (Or.inl rfl) e
        | false =>
          rw [z2] at e
          cases z3 : (T p == 45) with
          | true => rw [z3] at e; exact un 4 (Or.inr rfl) e
          | false =>
            rw [z3] at e
            cases z4 : (T p == 40) with
            | true =>
              rw [z4] at e
              cases z : (o == 8) with
              | true => rw [z] at e; cases e
              | false =>
                rw [z] at e
                obtain ⟨q1, L1, L2, a, b, rfl⟩ := cdT_x e
                cases z5 : (T q1 == 41) with
                | false => simp only [z5, cond_false] at b; cases b
                | true =>
                  simp only [z5, cond_true] at b
                  cases b
                  rw [List.nil_append, List.append_nil]
                  exact (ih _ _ _ _ _ a).1 (by decide)
            | false =>
              rw [z4] at e
              cases z6 : (dgEnd T 6 p == p || isD (T (dgEnd T 6 p))) with
              | true => rw [z6] at e; cases e
              | false =>
                rw [z6] at e
                cases e
                exact fun st => ⟨dgVal T 6 p 0, rfl⟩
    | 1 => exact ⟨fun _ => sq (by decide) (by decide) e, nB (by decide)⟩
    | 2 => exact ⟨nA (by decide), fun _ => lp (by decide) (by decide) e⟩
    | 3 => exact ⟨fun _ => sq (by decide) (by decide) e, nB (by decide)⟩
    | 4 => exact ⟨nA (by decide), fun _ => lp (by decide) (by decide) e⟩
    | 5 => exact ⟨fun _ => sq (by decide) (by decide) e, nB (by decide)⟩
    | 6 => exact ⟨fun _ => sq (by decide) (by decide) e, nB (by decide)⟩
    | 7 => exact ⟨nA (by decide), fun _ => lp (by decide) (by decide) e⟩
    | 8 => exact ⟨fun _ => sq (by decide) (by decide) e, nB (by decide)⟩
    | 9 => exact ⟨nA (by decide), fun _ => lp (by decide) (by decide) e⟩
    | 10 => cases e
    | 11 => cases e
    | 12 =>
      refine ⟨nA (by decide), fun _ => ?_⟩
      rw [kch12] at e
      cases z : opB 12 (T p) with
      | false =>
        rw [z] at e
        cases e
        exact fun a st => ⟨a, rfl⟩
      | true =>
        rw [z] at e
        have e : cdT (cdF T k 3 o (p + 1)) [(T p, 0)] (fun q => some (q, [])) = some (q, L) := e
        obtain ⟨q1, L1, L2, a, b, rfl⟩ := cdT_x e
        cases b
        exact stp z ((ih _ _ _ _ _ a).1 (by decide)) (fun a st => ⟨a, rfl⟩)
    | _ + 13 => cases e
theorem cd_r {T : Int → Int} {o p q : Int} {L : List (Int × Int)} (d : Cd T 8 o p q L) (N : Int → Int) : oneC N L := by
  obtain ⟨k, d⟩ := d
  exact (cdF_r T N k 8 o p q L d).1 (by decide)
theorem cd_ne {T : Int → Int} {o p q : Int} {L : List (Int × Int)} (d : Cd T 8 o p q L) : L ≠ [] := by
  rintro rfl
  obtain ⟨r, e⟩ := cd_r d (fun _ => 0) []
  cases e
-- lines: the test's code (or none) and the code
abbrev cLs : Type := List (List (Int × Int) × List (Int × Int))
def ln1 (T : Int → Int) (p q : Int) (l : List (Int × Int) × List (Int × Int)) : Prop := (l.1 = [] ∧ Cd T 8 0 p q l.2 ∧ T q ≠ 63) ∨ (∃ q1, Cd T 8 0 p q1 l.1 ∧ T q1 = 63 ∧ Cd T 8 0 (q1 + 1) q l.2)
def lnT (T : Int → Int) : Int → cLs → Prop
  | p, [] => T p ≠ 59
  | p, l :: ls => T p = 59 ∧ ∃ q, ln1 T (p + 1) q l ∧ lnT T q ls
def Lns (T : Int → Int) (p : Int) : cLs → Prop
  | [] => False
  | l :: ls => ∃ q, ln1 T p q l ∧ lnT T q ls
noncomputable def evC (N : Int → Int) (L : List (Int × Int)) : Int := (run N L []).headD 0
noncomputable def valL (N : Int → Int) : Int → cLs → Int × Int
  | _, [] => (0, -1)
  | i, (M, L) :: ls => @ite _ (M = [] ∨ evC N M ≠ 0) (Classical.propDecidable _) (evC N L, i) (valL N (i + 1) ls)
theorem valL_y {N : Int → Int} {i : Int} {M L : List (Int × Int)} {ls : cLs} (h : M = [] ∨ evC N M ≠ 0) : valL N i ((M, L) :: ls) = (evC N L, i) := by
  unfold valL
  rw [if_pos h]
theorem valL_n {N : Int → Int} {i : Int} {M L : List (Int × Int)} {ls : cLs} (h : ¬ (M = [] ∨ evC N M ≠ 0)) : valL N i ((M, L) :: ls) = valL N (i + 1) ls := by
  rw [valL, if_neg h]
theorem evC_e {N : Int → Int} {L : List (Int × Int)} {r : Int} (h : ∀ st, run N L st = r :: st) : evC N L = r := by
  unfold evC
  rw [h]
  rfl
theorem ln1_u {T : Int → Int} {p q q' : Int} {l l' : List (Int × Int) × List (Int × Int)} (a : ln1 T p q l) (b : ln1 T p q' l') : q = q' ∧ l = l' := by
  obtain ⟨M, L⟩ := l
  obtain ⟨M', L'⟩ := l'
  rcases a with ⟨a1, a2, a3⟩ | ⟨x, a1, a2, a3⟩ <;> rcases b with ⟨b1, b2, b3⟩ | ⟨y, b1, b2, b3⟩
  · obtain ⟨rfl, e⟩ := cd_u a2 b2
    have a1 : M = [] := a1
    have b1 : M' = [] := b1
    have e : L = L' := e
    exact ⟨rfl, by rw [a1, b1, e]⟩
  · obtain ⟨rfl, -⟩ := cd_u a2 b1
    exact absurd b2 a3
  · obtain ⟨rfl, -⟩ := cd_u a1 b2
    exact absurd a2 b3
  · obtain ⟨rfl, e1⟩ := cd_u a1 b1
    obtain ⟨rfl, e2⟩ := cd_u a3 b3
    have e1 : M = M' := e1
    have e2 : L = L' := e2
    exact ⟨rfl, by rw [e1, e2]⟩
theorem lnT_u {T : Int → Int} : ∀ (ls ls' : cLs) (p : Int), lnT T p ls → lnT T p ls' → ls = ls'
  | [], [], _, _, _ => rfl
  | [], _ :: _, _, a, b => absurd b.1 a
  | _ :: _, [], _, a, b => absurd a.1 b
  | l :: ls, l' :: ls', p, a, b => by
    obtain ⟨-, q, a1, a2⟩ := a
    obtain ⟨-, q', b1, b2⟩ := b
    obtain ⟨rfl, rfl⟩ := ln1_u a1 b1
    rw [lnT_u ls ls' q a2 b2]
theorem Lns_u {T : Int → Int} {p : Int} : ∀ {ls ls' : cLs}, Lns T p ls → Lns T p ls' → ls = ls'
  | [], _, a, _ => a.elim
  | _ :: _, [], _, b => b.elim
  | l :: ls, l' :: ls', ⟨q, a1, a2⟩, ⟨q', b1, b2⟩ => by
    obtain ⟨rfl, rfl⟩ := ln1_u a1 b1
    rw [lnT_u ls ls' q a2 b2]
-- what a text says: of its bytes and the names
noncomputable def tSay (T N : Int → Int) : Int × Int := @dite _ (∃ ls, Lns T 0 ls) (Classical.propDecidable _) (fun h => valL N 0 (Classical.choose h)) (fun _ => (0, -1))
theorem tSay_e {T N : Int → Int} {ls : cLs} (h : Lns T 0 ls) : tSay T N = valL N 0 ls := by
  unfold tSay
  have e : ∃ ls, Lns T 0 ls := ⟨ls, h⟩
  rw [dif_pos e, Lns_u (Classical.choose_spec e) h]


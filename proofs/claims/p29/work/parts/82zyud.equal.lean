-- ===== seasons: both sides =====
def JR24 (V : vS) : Prop := ∀ j, 0 ≤ V 8 j ∧ V 8 j < 16777216
theorem size_e {V : vS} {q : Nat} {yr k : Int} (E : EQ V) (L : lis V q yr k) (O : JOut V) (O2 : JOut2 V) (R : JR24 V) (q2 : V q 2 = yr) (q3 : V q 3 = k) {i : Int} (i0 : 0 ≤ i) (iN : i < V q 5) : ∀ y : Nat, y ≤ 24 → szS V q i y = nQ (gdR V k yr (V (q + 1) i)) (24 * y) := by
  intro y
  induction y with
  | zero => exact fun _ => rfl
  | succ y ih =>
    intro hy
    have s : szS V q i (y + 1) = szS V q i y + szF V q i (y : Nat) := rfl
    rw [s, ih (by omega), show 24 * (y + 1) = 24 * y + 24 from rfl, nQ_add]
    congr 1
    unfold szF
    rw [q2, q3, bcn_hi (fun x hx => ?_)]
    · refine bcn_nQ 24 (fun x hx => ?_)
      have e : (x : Int) + ((24 * y : Nat) : Int) = 24 * (y : Int) + (x : Int) := by omega
      have f := flt_e E L (y := (y : Int)) ⟨by omega, by omega⟩ hx
      have g := lsr_e E L (y := (y : Int)) ⟨by omega, by omega⟩ hx i0 iN
      have o := out_e O O2 (y := (y : Int)) (yr := yr) (k := k) hx
      have b := in_b E (c := V (q + 1) i) (y := (y : Int)) ⟨by omega, by omega⟩ hx
      unfold gdR
      rw [e, b, ← f, ← g, show (24 * (y : Int) + (x : Int)) % 24 = (x : Int) by omega, show (24 * (y : Int) + (x : Int)) / 24 = (y : Int) by omega, ← o]
      unfold Bt fdA
      cases tb (V 8 (24 * V 18 (V (q + 1) i) + (y : Int))) x with
      | false => simp only [Bool.false_and, Bool.false_eq_true, false_and]
      | true =>
        simp only [Bool.true_and, true_and, Bool.and_eq_true, Bool.not_eq_true', Bool.or_eq_false_iff]
        constructor
        · rintro ⟨⟨a, c⟩, d⟩
          exact ⟨fun w => (by rw [prB_t.mpr w] at a; cases a), fun w => (by rw [w] at c; cases c), fun w => (by rw [prB_t.mpr w] at d; cases d)⟩
        · rintro ⟨a, c, d⟩
          refine ⟨⟨?_, ?_⟩, ?_⟩
          · cases h : prB (fltB V (q + 1) (y : Int) (V q 5) x) with
            | false => rfl
            | true => exact absurd (prB_t.mp h) a
          · cases h : tb (oRw V (y : Int) yr k (V 16 2).toNat) x with
            | false => rfl
            | true => exact absurd h c
          · cases h : prB (lsB V (q + 1) (y : Int) i x) with
            | false => rfl
            | true => exact absurd (prB_t.mp h) d
    · have h := R (24 * fdA V (q + 1) i + (y : Int))
      show (Bt V (q + 1) (y : Int) i x && _ && _) = false
      unfold Bt
      rw [tb_hi h.1 h.2 hx]
      rfl
theorem bad_e {V : vS} {q : Nat} {yr k : Int} (E : EQ V) (L : lis V q yr k) (R : JR24 V) (hf : ∀ y, 0 ≤ y → y < 24 → ∀ x, x < 32 → (tb (V (q + 4) y) x = true ↔ fltB V (q + 1) y (V q 5) x)) {c : Int} : ∀ y : Nat, y ≤ 24 → sqA V (V 18 c) (q + 4) y = nQ (bdR V k yr c) (24 * y) := by
  intro y
  induction y with
  | zero => exact fun _ => rfl
  | succ y ih =>
    intro hy
    have s : sqA V (V 18 c) (q + 4) (y + 1) = sqA V (V 18 c) (q + 4) y + bcn (tb (bAnd (V 8 (24 * V 18 c + (y : Nat))) (V (q + 4) (y : Nat)))) 32 := rfl
    have h := R (24 * V 18 c + (y : Int))
    rw [s, ih (by omega), show 24 * (y + 1) = 24 * y + 24 from rfl, nQ_add, bcn_hi (fun x hx => by rw [tb_and, tb_hi h.1 h.2 hx]; rfl)]
    congr 1
    refine bcn_nQ 24 (fun x hx => ?_)
    have e : (x : Int) + ((24 * y : Nat) : Int) = 24 * (y : Int) + (x : Int) := by omega
    have f := flt_e E L (y := (y : Int)) ⟨by omega, by omega⟩ hx
    have b := in_b E (c := c) (y := (y : Int)) ⟨by omega, by omega⟩ hx
    unfold bdR
    rw [e, b, ← f, ← hf (y : Int) (by omega) (by omega) x (by omega), tb_and, Bool.and_eq_true]
def JCtl (V : vS) : Prop := V 16 3 = V 72 32 ∧ (∀ j, V 27 j = V 98 j) ∧ (∀ j, V 28 j = V 99 j) ∧ (∀ j, V 29 j = V 100 j) ∧ (∀ j, V 30 j = V 101 j) ∧ (∀ j, V 31 j = V 102 j) ∧ 0 ≤ V 16 3 ∧ V 16 3 ≤ 200
theorem msg_s (V : vS) (c yr k : Int) (i : Nat) : msg V c yr k (i + 1) = if V 27 (i : Nat) = V 17 c ∧ V 28 (i : Nat) = V 18 c ∧ V 29 (i : Nat) = yr ∧ V 31 (i : Nat) ≤ k then V 30 (i : Nat) else msg V c yr k i := rfl
theorem msg_e {V : vS} (C : JClm V) (K : JCtl V) {c k : Int} : ∀ i : Nat, msg V c (iDiv (V 90 c) 365) k i = mmg V c k i := by
  obtain ⟨-, k1, k2, k3, k4, k5, -, -⟩ := K
  intro i
  induction i with
  | zero => rfl
  | succ i ih => rw [msg_s, mmg_s, ih, k1, k2, k3, k4, k5, C.2.1, C.2.2.1]
theorem msg_b {V : vS} (h : ∀ j, 0 ≤ V 30 j ∧ V 30 j ≤ 576) (c yr k : Int) : ∀ i : Nat, 0 ≤ msg V c yr k i ∧ msg V c yr k i ≤ 576 := by
  intro i
  induction i with
  | zero => exact ⟨Int.le_refl _, by show (0 : Int) ≤ 576; decide⟩
  | succ i ih =>
    rw [msg_s]
    split
    · exact h _
    · exact ih


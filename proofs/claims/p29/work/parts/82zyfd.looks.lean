-- ===== what a field looks like =====
-- both sides' looks are one
def JCol (V : vS) : Prop := ∀ j, 0 ≤ j → j < 48 → 0 ≤ V 64 j ∧ V 64 j ≤ 99
def LCol : List (Nat × Option Nat) := [(64, none)]
theorem JCol_dG {W : List (Nat × Nat)} {σ σ1 : List Nat} {h h1 : aH} (J : JCol (vw h)) (I : dI σ h) (G : dG W σ h σ1 h1) (k : frL W LCol = true) : JCol (vw h1) := by
  obtain ⟨a1, -⟩ := ag_dG I.1 G _ k
  intro j h0 h1
  rw [a1]
  exact J j h0 h1
theorem JA_vw {r r' n : Nat} {h : aH} (J : JA r r' n h) : ∀ j, 0 ≤ j → j < (n : Int) → vw h r j = vw h r' j := by
  obtain ⟨g, g', c, c', e⟩ := J
  intro j h0 h1
  rw [vw_a c h0, vw_a c' h0]
  show (g j.toNat).toInt = (g' j.toNat).toInt
  rw [e _ (by omega)]
theorem JF_vw {r ci f r' ci' f' : Nat} {h : aH} (J : JF r ci f r' ci' f' h) : vw h r (f : Nat) = vw h r' (f' : Nat) := by
  obtain ⟨fs, fs', v, c, e, c', e'⟩ := J
  rw [vw_o c e, vw_o c' e']
theorem jcol_19 {h h2 : aH} {x y z r1 : Int32} {g g1 : Nat → Int32} (J : JCol (vw h)) (c1 : h.1[64]? = some (.inl (0, 48, .inl g))) (d4 : h2.1[64]? = some (.inl (0, 48, .inl g1))) (k1 : clc x y z g r1 g1) : JCol (vw h2) := by
  intro j h0 h1
  have o := J j h0 h1
  rw [vw_a c1 h0] at o
  rw [vw_a d4 h0]
  have o : 0 ≤ (g j.toNat).toInt ∧ (g j.toNat).toInt ≤ 99 := o
  show 0 ≤ (g1 j.toNat).toInt ∧ (g1 j.toNat).toInt ≤ 99
  rcases k1 with ⟨a, -, rfl⟩ | ⟨-, -, rfl⟩
  · unfold upd
    split
    · exact ⟨a.2.2.2.2.1, a.2.2.2.2.2⟩
    · exact o
  · exact o
theorem seen_fr {σ : List Nat} {h : aH} (I : dI σ h) : ∀ (b : Int) (q : Nat), 0 ≤ b → vw h 65 b = (q : Int) → h.1[q]? ≠ none := by
  intro b q b0 e z
  obtain ⟨-, x, e2⟩ := seen_ty I b0 e
  rw [z] at e2
  cases e2
theorem seen_cF {V : vS} (Bo : JBody V) (N : JSeen V) : ∀ b, cField V b → V 65 b = -1 ∨ 146 ≤ V 65 b := by
  intro b k
  have hb := cField_b k ⟨by have := Bo.2.2.2.2.2.1; omega, by have := Bo.2.2.2.2.2.2.1; omega⟩
  exact seen_65 N hb.1 hb.2
theorem seen_q {V : vS} (Bo : JBody V) (N : JSeen V) (K : JCol V) : ∀ b, cField V b → ∀ y, 0 ≤ y ∧ y ≤ 9 → q42 V b y := by
  intro b k y hy q e c c0 c1
  have hb := cField_b k ⟨by have := Bo.2.2.2.2.2.1; omega, by have := Bo.2.2.2.2.2.2.1; omega⟩
  refine ⟨hy, ⟨c0, c1⟩, fun j j0 j1 => ?_, K⟩
  rcases N.1 b hb.1 hb.2 with ⟨n1, -⟩ | ⟨q', n1, n2, n3⟩
  · omega
  · have : q' = q := by omega
    subst this
    rcases n3 j j0 j1 with ⟨-, z⟩ | ⟨-, -, z⟩
    · exact Or.inl z
    · exact Or.inr z
theorem seen_m {V : vS} (Bo : JBody V) (N : JSeen V) (K : JCol V) (e64 : ∀ j, 0 ≤ j → j < 48 → V 64 j = V 112 j) : ∀ b, mField V b → ∀ y, 0 ≤ y ∧ y ≤ 9 → ∀ c, 0 ≤ c → c < 8 → lkMo V b y c := by
  intro b k y hy c c0 c1
  have hb := cField_b ((field_j Bo b).mpr k) ⟨by have := Bo.2.2.2.2.2.1; omega, by have := Bo.2.2.2.2.2.2.1; omega⟩
  refine ⟨hb, hy, ⟨c0, c1⟩, fun j j0 j1 => ?_, fun j j0 j1 => by rw [← e64 j j0 j1]; exact K j j0 j1⟩
  rcases N.1 b hb.1 hb.2 with ⟨n1, n2⟩ | ⟨q', n1, n2, n3⟩
  · exact Or.inl (n2 j j0 j1)
  · rcases n3 j j0 j1 with ⟨z, -⟩ | ⟨-, z1, z2, z3⟩
    · exact Or.inl z
    · exact Or.inr ⟨by omega, by omega⟩
theorem look_eq {V : vS} {b y : Int} {q : Nat} (hy : 0 ≤ y ∧ y ≤ 9) (n3 : ∀ j, 0 ≤ j → j < 60 → (V 114 (60 * b + j) = 0 ∧ V q j = 1000) ∨ (V 114 (60 * b + j) = 1 ∧ V q j = V 113 (60 * b + j) ∧ -128 ≤ V q j ∧ V q j ≤ 127)) (e64 : ∀ j, 0 ≤ j → j < 48 → V 64 j = V 112 j) : ∀ k : Nat, k ≤ 6 → (∀ c, 0 ≤ c → c < 8 → aA V q y c k = mA V b y c k) ∧ 0 ≤ aW V q y k ∧ (aW V q y k = 0 ↔ mS V b y k = false)
  | 0, _ => ⟨fun _ _ _ => rfl, Int.le_refl _, ⟨fun _ => rfl, fun _ => rfl⟩⟩
  | k + 1, hk => by
    obtain ⟨i1, i2, i3⟩ := look_eq hy n3 e64 k (by omega)
    have z := n3 (6 * y + (k : Int)) (by omega) (by omega)
    rw [show 60 * b + (6 * y + (k : Int)) = 60 * b + 6 * y + (k : Int) by omega] at z
    have eW : aW V q y (k + 1) = aW V q y k + (if V q (6 * y + (k : Int)) = 1000 then 0 else 1) := rfl
    have eS : mS V b y (k + 1) = (mS V b y k || decide (V 114 (60 * b + 6 * y + (k : Int)) ≠ 0)) := rfl
    rw [eW, eS]
    rcases z with ⟨z1, z2⟩ | ⟨z1, z2, z3, z4⟩
    · refine ⟨fun c c0 c1 => ?_, ?_, ?_⟩
      · unfold aA mA
        rw [i1 c c0 c1, if_pos z2, if_pos z1]
      · rw [if_pos z2]; omega
      · rw [if_pos z2, decide_eq_false (fun w => w z1), Bool.or_false, ← i3]
        omega
    · have n1 : V q (6 * y + (k : Int)) ≠ 1000 := by omega
      have n2 : V 114 (60 * b + 6 * y + (k : Int)) ≠ 0 := by omega
      refine ⟨fun c c0 c1 => ?_, ?_, ?_⟩
      · unfold aA mA
        rw [i1 c c0 c1, if_neg n1, if_neg n2, ← z2, e64 (6 * c + (k : Int)) (by omega) (by omega)]
      · rw [if_neg n1]; omega
      · rw [if_neg n1, decide_eq_true n2, Bool.or_true]
        exact ⟨fun w => by omega, fun w => by cases w⟩
theorem jx_22 {V : vS} {b y w r1 r2 : Int} (Bo : JBody V) (N : JSeen V) (K : JCol V) (e64 : ∀ j, 0 ≤ j → j < 48 → V 64 j = V 112 j) (c : R166 V b y w r1) (m : R249 V b y w r2) : r1 = r2 := by
  rcases c with ⟨a, rfl⟩ | ⟨a, c⟩
  · rcases m with ⟨m0, rfl⟩ | ⟨m0, -⟩
    · rfl
    · exact absurd ⟨(field_j Bo b).mpr m0.1, m0.2⟩ a
  have hb := cField_b a.1 ⟨by have := Bo.2.2.2.2.2.1; omega, by have := Bo.2.2.2.2.2.2.1; omega⟩
  rcases m with ⟨m0, -⟩ | ⟨m0, m⟩
  · exact absurd ⟨(field_j Bo b).mp a.1, a.2⟩ m0
  have pq := seen_q Bo N K b a.1 y a.2.1
  rcases N.1 b hb.1 hb.2 with ⟨n1, n2⟩ | ⟨q', n1, n2, n3⟩
  · have s0 : ∀ k : Nat, k ≤ 6 → mS V b y k = false := by
      intro k
      induction k with
      | zero => exact fun _ => rfl
      | succ k ih =>
        intro hk
        have eS : mS V b y (k + 1) = (mS V b y k || decide (V 114 (60 * b + 6 * y + (k : Int)) ≠ 0)) := rfl
        have z := n2 (6 * y + (k : Int)) (by omega) (by omega)
        rw [show 60 * b + (6 * y + (k : Int)) = 60 * b + 6 * y + (k : Int) by omega] at z
        rw [eS, ih (by omega), decide_eq_false (fun w => w z)]
        rfl
    rcases c with ⟨-, rfl⟩ | ⟨q, e, -⟩
    · rcases m with ⟨-, rfl⟩ | ⟨m1, -⟩
      · rfl
      · rw [s0 6 (Nat.le_refl _)] at m1; cases m1
    · omega
  · obtain ⟨i1, i2, i3⟩ := look_eq a.2.1 n3 e64 6 (Nat.le_refl _)
    rcases c with ⟨e, -⟩ | ⟨q, e, c⟩
    · omega
    · have : q = q' := by omega
      subst this
      have ff : ∀ c, 0 ≤ c → c < 8 → aW V q y 6 ≠ 0 → cAp V q y c = mA V b y c 6 := by
        intro c c0 c1 w
        unfold cAp
        rw [if_neg w]
        exact i1 c c0 c1
      by_cases z : aW V q y 6 = 0
      · have c0 : cAp V q y 0 = -1 := by unfold cAp; rw [if_pos z]
        rcases c with ⟨-, rfl⟩ | ⟨c1, -⟩
        · rcases m with ⟨-, rfl⟩ | ⟨m1, -⟩
          · rfl
          · rw [i3.mp z] at m1; cases m1
        · exact absurd c0 c1
      · have c0 : cAp V q y 0 ≠ -1 := by
          unfold cAp
          rw [if_neg z]
          have := (aA_b (pq q e 0 (by decide) (by decide)) 6 (Nat.le_refl _)).1.1
          omega
        rcases c with ⟨c1, -⟩ | ⟨-, rfl⟩
        · exact absurd c1 c0
        · rcases m with ⟨m1, -⟩ | ⟨-, rfl⟩
          · exact absurd (i3.mpr m1) z
          · exact jdg_c (fun k hk => ff (k : Int) (by omega) (by omega) z)
theorem zJSeen0 : JSeen (vw zH0) := by
  have e : ∀ b, 0 ≤ b → vw zH0 65 b = -1 := fun b b0 => vw_a zh65 b0
  exact ⟨fun b b0 b1 => Or.inl ⟨e b b0, fun j j0 j1 => vz' zh114 _⟩, fun b b' b0 b1 _ _ _ _ => e b b0⟩
theorem zJByt0 : JByt (vw zH0) := by
  intro s s0 s1 e
  rw [vw_a zh69 s0] at e
  have e : ((-1 : Int32)).toInt = 0 := e
  exact absurd e (by decide)
theorem zJCol0 : JCol (vw zH0) := fun j h0 h1 => by rw [vz zh64]; decide


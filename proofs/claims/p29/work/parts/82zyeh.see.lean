-- ===== what is seen of fields =====
-- what is seen, on both sides
def JSn1 (V : vS) (b : Int) : Prop := (V 65 b = -1 ∧ ∀ j, 0 ≤ j → j < 60 → V 114 (60 * b + j) = 0) ∨ (∃ q : Nat, V 65 b = (q : Int) ∧ 146 ≤ q ∧ ∀ j, 0 ≤ j → j < 60 → (V 114 (60 * b + j) = 0 ∧ V q j = 1000) ∨ (V 114 (60 * b + j) = 1 ∧ V q j = V 113 (60 * b + j) ∧ -128 ≤ V q j ∧ V q j ≤ 127))
def JSeen (V : vS) : Prop := (∀ b, 0 ≤ b → b < 150 → JSn1 V b) ∧ ∀ b b', 0 ≤ b → b < 150 → 0 ≤ b' → b' < 150 → b ≠ b' → V 65 b = V 65 b' → V 65 b = -1
def JByt (V : vS) : Prop := ∀ s, 0 ≤ s → s ≤ 5 → V 69 s = 0 → ∀ i, 0 ≤ i → i < V 70 s → -128 ≤ V 71 (60 * s + i) ∧ V 71 (60 * s + i) ≤ 127
theorem seen_65 {V : vS} (N : JSeen V) {b : Int} (b0 : 0 ≤ b) (b1 : b < 150) : V 65 b = -1 ∨ 146 ≤ V 65 b := by
  rcases N.1 b b0 b1 with ⟨e, -⟩ | ⟨q, e, hq, -⟩
  · exact Or.inl e
  · exact Or.inr (by omega)
theorem seen_ty {σ : List Nat} {h : aH} (I : dI σ h) {b : Int} {q : Nat} (b0 : 0 ≤ b) (e : vw h 65 b = (q : Int)) : σ[q]? = some 154 ∧ ∃ x, h.1[q]? = some (.inl x) := by
  have hs := I.1.2.2.2 65 (by decide)
  obtain ⟨t, ht, t1, t2, t3, t4⟩ : ∃ t, cRT[65]? = some t ∧ t.1 = 3 ∧ t.2.1 = 5 ∧ t.2.2.1 = 150 ∧ t.2.2.2.1.toNat = 154 := ⟨_, rfl, rfl, rfl, rfl, rfl⟩
  obtain ⟨c', d1, d2⟩ := dH_cell I.1 hs ht
  obtain ⟨g', rfl, d3⟩ := dC_3 d2 t1
  rw [vw_a d1 b0] at e
  have hq : σ[q]? = some 154 := by
    have e : (match g' b.toNat with
      | some q => (q : Int)
      | none => -1) = (q : Int) := e
    cases hg : g' b.toNat with
    | none =>
      rw [hg] at e
      have e : (-1 : Int) = (q : Int) := e
      omega
    | some q' =>
      rw [hg] at e
      have e : (q' : Int) = (q : Int) := e
      have e : q' = q := by omega
      subst e
      have := d3 _ _ hg
      rw [t4] at this
      exact this
  refine ⟨hq, ?_⟩
  obtain ⟨t', ht', t1'⟩ : ∃ t, cRT[154]? = some t ∧ t.1 = 1 := ⟨_, rfl, rfl⟩
  obtain ⟨c1, f1, f2⟩ := dH_cell I.1 hq ht'
  obtain ⟨g1, rfl, -⟩ := dC_1 f2 t1'
  exact ⟨_, f1⟩
theorem len_dI {σ : List Nat} {h : aH} (I : dI σ h) : 146 ≤ h.1.length := by
  have e := I.1.1
  have := (List.getElem?_eq_some_iff.mp (I.1.2.2.2 145 (by decide))).1
  omega
def LSeen : List (Nat × Option Nat) := [(65, none), (113, none), (114, none)]
theorem JSeen_dG {W : List (Nat × Nat)} {σ σ1 : List Nat} {h h1 : aH} (J : JSeen (vw h)) (I : dI σ h) (G : dG W σ h σ1 h1) (k : (frL W LSeen && !(cWn W 154 0)) = true) : JSeen (vw h1) := by
  rw [Bool.and_eq_true, Bool.not_eq_true'] at k
  obtain ⟨a1, a2, a3, -⟩ := ag_dG I.1 G _ k.1
  have key : ∀ (b : Int) (q : Nat), 0 ≤ b → vw h 65 b = (q : Int) → ∀ j, vw h1 q j = vw h q j := by
    intro b q b0 e j
    obtain ⟨s1, x, s2⟩ := seen_ty I b0 e
    obtain ⟨c, c1, c2, -⟩ := G.2.1 q 154 _ s1 s2
    have := c2 x rfl k.2
    rw [this] at c1
    exact vw_eq (c1.trans s2.symm) j
  refine ⟨fun b b0 b1 => ?_, fun b b' b0 b1 b2 b3 b4 => ?_⟩
  · rcases J.1 b b0 b1 with ⟨e, e2⟩ | ⟨q, e, hq, e2⟩
    · exact Or.inl ⟨(a1 b).trans e, fun j j0 j1 => (a3 _).trans (e2 j j0 j1)⟩
    · refine Or.inr ⟨q, (a1 b).trans e, hq, fun j j0 j1 => ?_⟩
      rw [a3, a2, key b q b0 e]
      exact e2 j j0 j1
  · rw [a1, a1]
    exact J.2 b b' b0 b1 b2 b3 b4
def LByt : List (Nat × Option Nat) := [(69, none), (70, none), (71, none)]
theorem JByt_dG {W : List (Nat × Nat)} {σ σ1 : List Nat} {h h1 : aH} (J : JByt (vw h)) (I : dI σ h) (G : dG W σ h σ1 h1) (k : frL W LByt = true) : JByt (vw h1) := by
  obtain ⟨a1, a2, a3, -⟩ := ag_dG I.1 G _ k
  intro s s0 s1 e i i0 i1
  rw [a1] at e
  rw [a2] at i1
  rw [a3]
  exact J s s0 s1 e i i0 i1
-- the two sides' looks, a week at a time
theorem see_e {V : vS} {s i : Int} (J : JSh1 V s) (hk : V 69 s = -1 ∨ V 69 s = 0) : ∀ k : Nat, sE V s i (k + 1) = mE V s i (k + 1) ∧ ∀ k' : Nat, hpB V s i k' = (decide (V 142 s ≠ -1) && decide (0 ≤ i + (k' : Int) ∧ i + (k' : Int) < V 143 s)) := by
  have hh : ∀ k' : Nat, hpB V s i k' = (decide (V 142 s ≠ -1) && decide (0 ≤ i + (k' : Int) ∧ i + (k' : Int) < V 143 s)) := by
    intro k'
    unfold hpB cRow1
    rcases J with ⟨q1, q2⟩ | ⟨q1, q2, q3⟩ | ⟨q1, q2, q3, q4, q5, q6, q7⟩
    · rw [if_pos q1, decide_eq_false (fun z => absurd z.1 (by decide)), decide_eq_false (fun z => z q2)]
      rfl
    · omega
    · rw [if_neg (by omega), if_neg (by omega), decide_eq_true (p := V 142 s ≠ -1) (by omega), q4, Bool.true_and, decide_eq_decide]
      exact ⟨fun z => z.2, fun z => ⟨rfl, z⟩⟩
  intro k
  refine ⟨?_, hh⟩
  induction k with
  | zero =>
    show (false || !hpB V s i 0) = (decide (V 142 s = -1) || !decide (0 ≤ i + ((0 : Nat) : Int) ∧ i + ((0 : Nat) : Int) < V 143 s))
    rw [hh]
    by_cases z : V 142 s = -1
    · rw [decide_eq_true z, decide_eq_false (fun w => w z)]; rfl
    · rw [decide_eq_false z, decide_eq_true z]
      cases decide (0 ≤ i + ((0 : Nat) : Int) ∧ i + ((0 : Nat) : Int) < V 143 s) <;> rfl
  | succ k ih =>
    have e1 : sE V s i (k + 1 + 1) = (sE V s i (k + 1) || !hpB V s i (k + 1)) := rfl
    have e2 : mE V s i (k + 1 + 1) = (mE V s i (k + 1) || !decide (0 ≤ i + ((k + 1 : Nat) : Int) ∧ i + ((k + 1 : Nat) : Int) < V 143 s)) := rfl
    rw [e1, e2, ih, hh]
    by_cases z : V 142 s = -1
    · have m1 : ∀ k, mE V s i k = true := by
        intro k
        induction k with
        | zero => exact decide_eq_true z
        | succ k ih => unfold mE; rw [ih]; rfl
      rw [m1]
      rfl
    · rw [decide_eq_true z, Bool.true_and]
theorem mE_in {V : vS} {s i : Int} {k : Nat} (h : mE V s i (k + 1) = false) : V 142 s ≠ -1 ∧ 0 ≤ i + (k : Int) ∧ i + (k : Int) < V 143 s := by
  have m1 : V 142 s = -1 → ∀ k, mE V s i k = true := by
    intro z k
    induction k with
    | zero => exact decide_eq_true z
    | succ k ih => unfold mE; rw [ih]; rfl
  refine ⟨fun z => (by rw [m1 z] at h; cases h), ?_⟩
  have e2 : mE V s i (k + 1) = (mE V s i k || !decide (0 ≤ i + (k : Int) ∧ i + (k : Int) < V 143 s)) := rfl
  rw [e2, Bool.or_eq_false_iff, Bool.not_eq_false', decide_eq_true_eq] at h
  exact h.2
theorem see_b {V : vS} {s i : Int} (J : JSh1 V s) (B : V 69 s = 0 → ∀ i, 0 ≤ i → i < V 70 s → -128 ≤ V 71 (60 * s + i) ∧ V 71 (60 * s + i) ≤ 127) (hk : V 69 s = -1 ∨ V 69 s = 0) (eb : V 63 1 = V 72 52) (k : Nat) : sB V s i k = mB V s i k ∧ (mB V s i k = true → sV V s i k = w32 (V 144 (60 * s + (i + (k : Int)))) ∧ -128 ≤ sV V s i k ∧ sV V s i k ≤ 127) ∧ (mB V s i k = false → sV V s i k = 1000) := by
  have e1 := (see_e (i := i) J hk k).1
  have inn : mE V s i (k + 1) = false → V 71 (60 * s + (i + (k : Int))) = V 144 (60 * s + (i + (k : Int))) ∧ -128 ≤ V 71 (60 * s + (i + (k : Int))) ∧ V 71 (60 * s + (i + (k : Int))) ≤ 127 := by
    intro z
    have z := mE_in z
    rcases J with ⟨q1, q2⟩ | ⟨q1, q2, q3⟩ | ⟨q1, q2, q3, q4, q5, q6, q7⟩
    · omega
    · omega
    · exact ⟨q7 _ z.2.1 z.2.2, B (by omega) _ z.2.1 (by omega)⟩
  have e2 : sB V s i k = mB V s i k := by
    unfold sB mB
    rw [e1]
    cases z : mE V s i (k + 1) with
    | true => rfl
    | false =>
      obtain ⟨i1, i2, i3⟩ := inn z
      rw [w32_id (by omega) (by omega), i1, eb]
  refine ⟨e2, fun z => ?_, fun z => sV_n (e2.trans z)⟩
  have z2 : mE V s i (k + 1) = false := by
    unfold mB at z
    rw [Bool.and_eq_true, Bool.not_eq_true'] at z
    exact z.1
  obtain ⟨i1, i2, i3⟩ := inn z2
  rw [sV_t (e2.trans z), i1]
  rw [i1] at i2 i3
  rw [w32_id (by omega) (by omega)]
  exact ⟨rfl, i2, i3⟩
theorem see_n {V : vS} {s i : Int} (J : JSh1 V s) (B : V 69 s = 0 → ∀ i, 0 ≤ i → i < V 70 s → -128 ≤ V 71 (60 * s + i) ∧ V 71 (60 * s + i) ≤ 127) (hk : V 69 s = -1 ∨ V 69 s = 0) (eb : V 63 1 = V 72 52) : ∀ k : Nat, sN V s i k = mN V s i k
  | 0 => rfl
  | k + 1 => by
    unfold sN mN
    rw [see_n J B hk eb k, (see_b J B hk eb k).1]
theorem mE_c {V V' : vS} {s i : Int} (h2 : V' 142 s = V 142 s) (h3 : V' 143 s = V 143 s) : ∀ k, mE V' s i k = mE V s i k
  | 0 => by
    show decide (V' 142 s = -1) = decide (V 142 s = -1)
    rw [h2]
  | k + 1 => by unfold mE; rw [mE_c h2 h3 k, h3]
theorem mB_c {V V' : vS} {s i : Int} {k : Nat} (h2 : V' 142 s = V 142 s) (h3 : V' 143 s = V 143 s) (h4 : ∀ j, V' 144 j = V 144 j) (h5 : V' 72 52 = V 72 52) : mB V' s i k = mB V s i k := by unfold mB; rw [mE_c h2 h3, h4, h5]
theorem mN_c {V V' : vS} {s i : Int} (h2 : V' 142 s = V 142 s) (h3 : V' 143 s = V 143 s) (h4 : ∀ j, V' 144 j = V 144 j) (h5 : V' 72 52 = V 72 52) : ∀ k, mN V' s i k = mN V s i k
  | 0 => rfl
  | k + 1 => by unfold mN; rw [mN_c h2 h3 h4 h5 k, mB_c h2 h3 h4 h5]
theorem seen_after {V V1 : vS} {b y s i : Int} {q : Nat} (hb : 0 ≤ b ∧ b < 150) (hy : 0 ≤ y ∧ y ≤ 9) (N : JSeen V) (J : JSh1 V s) (B : V 69 s = 0 → ∀ i, 0 ≤ i → i < V 70 s → -128 ≤ V 71 (60 * s + i) ∧ V 71 (60 * s + i) ≤ 127) (hk : V 69 s = -1 ∨ V 69 s = 0) (eb : V 63 1 = V 72 52)
    (f1 : ∀ (c : Nat) j, c < 146 → c ≠ 65 → V1 c j = V c j) (f2 : ∀ b', b' ≠ b → V1 65 b' = V 65 b') (f3 : V1 65 b = (q : Int) ∧ 146 ≤ q) (f4 : ∀ (q' : Nat) j, 146 ≤ q' → q' ≠ q → V1 q' j = V q' j) (f5 : ∀ j, 6 * y ≤ j → j < 6 * y + 6 → V1 q j = sV V s i (j - 6 * y).toNat)
    (f6 : ∀ j, 0 ≤ j → j < 60 → ¬ (6 * y ≤ j ∧ j < 6 * y + 6) → (V 114 (60 * b + j) = 0 ∧ V1 q j = 1000) ∨ (V 114 (60 * b + j) = 1 ∧ V1 q j = V 113 (60 * b + j) ∧ -128 ≤ V1 q j ∧ V1 q j ≤ 127)) (f7 : ∀ b', b' ≠ b → 0 ≤ b' → b' < 150 → V 65 b' ≠ (q : Int)) : JSeen (mwV V1 b y s i 6) := by
  have mb : ∀ k, mB V1 s i k = mB V s i k := fun k => mB_c (f1 _ _ (by decide) (by decide)) (f1 _ _ (by decide) (by decide)) (fun j => f1 _ _ (by decide) (by decide)) (f1 _ _ (by decide) (by decide))
  have out4 : ∀ j, ¬ (60 * b + 6 * y ≤ j ∧ j < 60 * b + 6 * y + 6) → mwV V1 b y s i 6 114 j = V 114 j := by
    intro j hj
    unfold mwV
    rw [if_neg (fun z => hj z.2), if_neg (fun z => absurd z.1 (by decide)), f1 114 j (by decide) (by decide)]
  have out3 : ∀ j, ¬ (60 * b + 6 * y ≤ j ∧ j < 60 * b + 6 * y + 6) → mwV V1 b y s i 6 113 j = V 113 j := by
    intro j hj
    unfold mwV
    rw [if_neg (fun z => absurd z.1 (by decide)), if_neg (fun z => hj z.2.1), f1 113 j (by decide) (by decide)]
  have e65 : ∀ b', mwV V1 b y s i 6 65 b' = V1 65 b' := fun b' => mwV_c (by decide) (by decide)
  refine ⟨fun b' b0 b1 => ?_, fun b1 b2 p1 p2 p3 p4 ne e => ?_⟩
  · by_cases z : b' = b
    · subst z
      refine Or.inr ⟨q, (e65 _).trans f3.1, f3.2, fun j j0 j1 => ?_⟩
      rw [mwV_c (V := V1) (c := q) (by omega) (by omega)]
      by_cases r : 6 * y ≤ j ∧ j < 6 * y + 6
      · rw [f5 j r.1 r.2]
        obtain ⟨s1, s2, s3⟩ := see_b (i := i) J B hk eb (j - 6 * y).toNat
        have ej : 60 * b' + j - (60 * b' + 6 * y) = j - 6 * y := by omega
        have ej2 : (((j - 6 * y).toNat : Nat) : Int) = j - 6 * y := by omega
        cases w : mB V s i (j - 6 * y).toNat with
        | false =>
          refine Or.inl ⟨?_, s3 w⟩
          unfold mwV
          rw [if_pos ⟨rfl, by omega, by omega⟩, ej, mb, w]
          rfl
        | true =>
          refine Or.inr ⟨?_, ?_, (s2 w).2⟩
          · unfold mwV
            rw [if_pos ⟨rfl, by omega, by omega⟩, ej, mb, w]
            rfl
          · unfold mwV
            rw [if_neg (fun z => absurd z.1 (by decide)), if_pos ⟨rfl, ⟨by omega, by omega⟩, by rw [ej, mb, w]⟩, ej, f1 144 _ (by decide) (by decide), (s2 w).1, ej2]
      · rw [out4 _ (by omega), out3 _ (by omega)]
        exact f6 j j0 j1 r
    · have e := f2 b' z
      rcases N.1 b' b0 b1 with ⟨n1, n2⟩ | ⟨q', n1, n2, n3⟩
      · refine Or.inl ⟨(e65 _).trans (e.trans n1), fun j j0 j1 => ?_⟩
        rw [out4 _ (by omega)]
        exact n2 j j0 j1
      · refine Or.inr ⟨q', (e65 _).trans (e.trans n1), n2, fun j j0 j1 => ?_⟩
        have nq : q' ≠ q := fun w => f7 b' z b0 b1 (by rw [n1, w])
        rw [out4 _ (by omega), out3 _ (by omega), mwV_c (V := V1) (c := q') (by omega) (by omega), f4 q' j n2 nq]
        exact n3 j j0 j1
  · rw [e65] at e ⊢
    rw [e65] at e
    by_cases z1 : b1 = b
    · have z2 : b2 ≠ b := fun w => ne (z1.trans w.symm)
      rw [z1, f3.1, f2 b2 z2] at e
      exact absurd e.symm (f7 b2 z2 p3 p4)
    · by_cases z2 : b2 = b
      · rw [z2, f3.1, f2 b1 z1] at e
        exact absurd e (f7 b1 z1 p1 p2)
      · rw [f2 b1 z1] at e ⊢
        rw [f2 b2 z2] at e
        exact N.2 b1 b2 p1 p2 p3 p4 ne e
theorem rwV_i {V : vS} {q : Nat} {y s i j : Int} (h : 6 * y ≤ j ∧ j < 6 * y + 6) : rwV V q y s i 6 q j = sV V s i (j - 6 * y).toNat := if_pos ⟨rfl, h.1, h.2⟩
theorem rwV_o {V : vS} {q : Nat} {y s i j : Int} (h : ¬ (6 * y ≤ j ∧ j < 6 * y + 6)) : rwV V q y s i 6 q j = V q j := if_neg (fun z => h z.2)
theorem jx_20 {h : aH} {V1 V2 : vS} {b y s i r1 r2 : Int} (Bo : JBody (vw h)) (L : JShelf (vw h)) (B : JByt (vw h)) (N : JSeen (vw h)) (eb : vw h 63 1 = vw h 72 52) (fr : ∀ (b : Int) (q : Nat), 0 ≤ b → vw h 65 b = (q : Int) → h.1[q]? ≠ none) (c : R164 h b y s i r1 V1) (m : R247 V1 b y s i r2 V2) : JSeen V2 ∧ r1 = r2 := by
  rcases c with ⟨a, rfl, rfl⟩ | ⟨a, c⟩
  · rcases m with ⟨m0, rfl, rfl⟩ | ⟨m0, -⟩
    · exact ⟨N, rfl⟩
    · exact absurd ⟨(field_j Bo b).mpr m0.1, m0.2⟩ a
  have Ls := L s a.2.2.1 a.2.2.2
  have hb := cField_b a.1 ⟨by have := Bo.2.2.2.2.2.1; omega, by have := Bo.2.2.2.2.2.2.1; omega⟩
  rcases c with ⟨c1, c2, rfl, rfl⟩ | ⟨ck, rfl, q, hq, c⟩
  · rcases m with ⟨m0, -⟩ | ⟨-, ⟨m1, m2, rfl, rfl⟩ | ⟨m1, -⟩⟩
    · exact absurd ⟨(field_j Bo b).mp a.1, a.2⟩ m0
    · exact ⟨N, rfl⟩
    · unfold JSh1 at Ls
      omega
  have Bs := B s a.2.2.1 a.2.2.2
  have main : ∀ (f1 : ∀ (c : Nat) j, c < 146 → c ≠ 65 → V1 c j = vw h c j), (JSeen (mwV V1 b y s i 6)) → JSeen V2 ∧ sN (vw h) s i 6 = r2 := by
    intro f1 fin
    have em : mField V1 b ↔ mField (vw h) b := by
      unfold mField mBody
      rw [f1 72 _ (by decide) (by decide), f1 73 _ (by decide) (by decide)]
    have e2 := f1 142 s (by decide) (by decide)
    rcases m with ⟨m0, -⟩ | ⟨-, ⟨m1, m2, -⟩ | ⟨m1, rfl, rfl⟩⟩
    · exact absurd ⟨em.mpr ((field_j Bo b).mp a.1), a.2⟩ m0
    · rw [e2] at m1 m2
      unfold JSh1 at Ls
      omega
    · refine ⟨fin, ?_⟩
      rw [see_n Ls Bs ck eb]
      exact (mN_c e2 (f1 _ _ (by decide) (by decide)) (fun j => f1 _ _ (by decide) (by decide)) (f1 _ _ (by decide) (by decide)) 6).symm
  rcases c with ⟨e65, rfl⟩ | ⟨e65, e0, rfl⟩
  · have f1 : ∀ (c : Nat) j, c < 146 → c ≠ 65 → rwV (vw h) q y s i 6 c j = vw h c j := fun c j hc _ => rwV_c (by omega)
    refine main f1 (seen_after hb a.2.1 N Ls Bs ck eb f1 (fun b' _ => rwV_c (by omega)) ⟨(rwV_c (by omega)).trans e65, hq⟩ (fun q' j _ n => rwV_c n) (fun j j0 j1 => rwV_i ⟨j0, j1⟩) (fun j j0 j1 r => ?_) (fun b' n b0 b1 e => ?_))
    · rw [rwV_o r]
      rcases N.1 b hb.1 hb.2 with ⟨n1, -⟩ | ⟨q', n1, n2, n3⟩
      · omega
      · have : q' = q := by omega
        subst this
        exact n3 j j0 j1
    · have := N.2 b' b b0 b1 hb.1 hb.2 n (e.trans e65.symm)
      omega
  · have f0 : ∀ (c : Nat) j, c ≠ 65 → c ≠ q → up (fillV (vw h) q 0 60 1000) 65 b (q : Int) c j = vw h c j := fun c j n1 n2 => by rw [up_c n1, fillV_c n2]
    have f1 : ∀ (c : Nat) j, c < 146 → c ≠ 65 → rwV (up (fillV (vw h) q 0 60 1000) 65 b (q : Int)) q y s i 6 c j = vw h c j := fun c j hc n => by rw [rwV_c (by omega), f0 c j n (by omega)]
    have fresh : ∀ b', 0 ≤ b' → vw h 65 b' ≠ (q : Int) := fun b' b0 e => fr b' q b0 e e0
    refine main f1 (seen_after hb a.2.1 N Ls Bs ck eb f1 (fun b' n => ?_) ⟨?_, hq⟩ (fun q' j q0 n => ?_) (fun j j0 j1 => ?_) (fun j j0 j1 r => ?_) (fun b' _ b0 _ => fresh b' b0))
    · rw [rwV_c (by omega), up_j n, fillV_c (by omega)]
    · rw [rwV_c (by omega), up_s]
    · rw [rwV_c n, f0 q' j (by omega) n]
    · rw [rwV_i ⟨j0, j1⟩]
      exact sV_c (f0 _ _ (by decide) (by omega)) (f0 _ _ (by decide) (by omega)) (fun j => f0 _ _ (by decide) (by omega)) (f0 _ _ (by decide) (by omega))
    · rw [rwV_o r, up_c (by omega), fillV_i ⟨j0, j1⟩]
      rcases N.1 b hb.1 hb.2 with ⟨n1, n2⟩ | ⟨q', n1, n2, n3⟩
      · exact Or.inl ⟨n2 j j0 j1, rfl⟩
      · omega


-- ===== seasons: both sides =====
-- what both sides know alike
def EQ (V : vS) : Prop := JClm V ∧ JBody V ∧ JOrd V ∧ (∀ c, 0 ≤ V 20 c ∧ V 20 c ≤ 2147483647) ∧ (∀ j, V 8 j = V 80 j) ∧ (∀ j, 0 ≤ V 8 j ∧ V 8 j < 2147483648) ∧ ∀ c, 0 ≤ V 18 c ∧ V 18 c < 150
theorem in_b {V : vS} (E : EQ V) {c y : Int} {x : Nat} (hy : 0 ≤ y ∧ y < 24) (hx : x < 24) : InM V c (24 * y + (x : Int)) ↔ tb (V 8 (24 * V 18 c + y)) x = true := by
  obtain ⟨C, -, -, -, r, r8, rf⟩ := E
  unfold InM
  rw [← C.2.2.1 c, isI_tb (rf c) hy hx (fun j => by rw [← r j]; exact r8 j), r]
theorem mcn_u {V : vS} {c c' k : Int} (h : mcn V c k) (h' : V 90 c' ≤ k) (lt : c < c') (cN : c' < V 72 19) (f : V 87 c' = V 87 c) (b : V 88 c' = V 88 c) (y : iDiv (V 90 c') 365 = iDiv (V 90 c) 365) : False := h.2.2 c' lt cN ⟨h', f, b, y⟩
theorem flt_e {V : vS} {q : Nat} {yr k : Int} (E : EQ V) (L : lis V q yr k) {y : Int} {x : Nat} (hy : 0 ≤ y ∧ y < 24) (hx : x < 24) : fltB V (q + 1) y (V q 5) x ↔ DB V k yr (24 * y + (x : Int)) := by
  have E0 := E
  obtain ⟨C, B, O, hd, r, r8, rf⟩ := E0
  constructor
  · rintro ⟨j, j', ⟨a, b, d⟩, ne, t, t'⟩
    obtain ⟨p, pN, z, -, e⟩ := li_s L a (Int.lt_trans b d)
    obtain ⟨p', pN', z', -, e'⟩ := li_s L (by omega) d
    unfold Bt fdA at t t'
    unfold fmA at ne
    rw [e] at t ne
    rw [e'] at t' ne
    have m := O.1 (p : Nat) (by omega) pN
    have m' := O.1 (p' : Nat) (by omega) pN'
    have l := (cnt_l C B O hd (by omega) pN).mp z
    have l' := (cnt_l C B O hd (by omega) pN').mp z'
    exact ⟨V 21 (p : Nat), V 21 (p' : Nat), ⟨⟨m.1, by rw [← C.1]; exact m.2⟩, l, (in_b E hy hx).mpr t⟩, ⟨⟨m'.1, by rw [← C.1]; exact m'.2⟩, l', (in_b E hy hx).mpr t'⟩, by rw [← C.2.1, ← C.2.1]; exact ne⟩
  · rintro ⟨c1, c2, ⟨n1, l1, i1⟩, ⟨n2, l2, i2⟩, ne⟩
    obtain ⟨p, pN, z, e, lt, s⟩ := li_m C B O hd L n1.1 n1.2 l1
    obtain ⟨p', pN', z', e', lt', s'⟩ := li_m C B O hd L n2.1 n2.2 l2
    rw [in_b E hy hx] at i1 i2
    rw [← C.2.1, ← C.2.1] at ne
    have b1 : Bt V (q + 1) y ((cnN V yr k p : Nat) : Int) x = true := by
      unfold Bt fdA
      rw [s]
      exact i1
    have b2 : Bt V (q + 1) y ((cnN V yr k p' : Nat) : Int) x = true := by
      unfold Bt fdA
      rw [s']
      exact i2
    have f : fmA V (q + 1) ((cnN V yr k p : Nat) : Int) ≠ fmA V (q + 1) ((cnN V yr k p' : Nat) : Int) := by
      unfold fmA
      rw [s, s']
      exact ne
    rcases Nat.lt_trichotomy (cnN V yr k p) (cnN V yr k p') with w | w | w
    · exact ⟨_, _, ⟨by omega, by omega, lt'⟩, f, b1, b2⟩
    · rw [w] at f
      exact absurd rfl f
    · exact ⟨_, _, ⟨by omega, by omega, lt⟩, fun h => f h.symm, b2, b1⟩
theorem lsr_e {V : vS} {q : Nat} {yr k : Int} (E : EQ V) (L : lis V q yr k) {y i : Int} {x : Nat} (hy : 0 ≤ y ∧ y < 24) (hx : x < 24) (i0 : 0 ≤ i) (iN : i < V q 5) : lsB V (q + 1) y i x ↔ tkQ V k yr (V (q + 1) i) (24 * y + (x : Int)) := by
  have E0 := E
  obtain ⟨C, B, O, hd, r, r8, rf⟩ := E0
  obtain ⟨pi, piN, zi, ci, ei⟩ := li_s L i0 iN
  have mi := O.1 (pi : Nat) (by omega) piN
  have li := (cnt_l C B O hd (by omega) piN).mp zi
  rw [← ei] at li mi
  constructor
  · rintro ⟨j, ⟨a, b⟩, fj, t⟩
    obtain ⟨p, pN, z, cj, e⟩ := li_s L a (Int.lt_trans b iN)
    have m := O.1 (p : Nat) (by omega) pN
    have l := (cnt_l C B O hd (by omega) pN).mp z
    have lp : p < pi := by
      rcases Nat.lt_or_ge p pi with w | w
      · exact w
      · have := cnN_mono V yr k w
        omega
    have lx := O.2.1 (p : Nat) (pi : Nat) (by omega) (by omega) piN
    rw [← e] at l lx m
    rw [← ei] at lx
    unfold Bt fdA at t
    unfold fmA at fj
    refine ⟨V (q + 1) j, ⟨⟨m.1, by rw [← C.1]; exact m.2⟩, l, (in_b E hy hx).mpr t⟩, by rw [← C.2.1, ← C.2.1]; exact fj, ?_⟩
    rw [← C.2.2.1, ← C.2.2.1]
    unfold lxl at lx
    rcases lx with w | ⟨-, w | ⟨w1, w2⟩⟩
    · omega
    · exact w
    · exact absurd (mcn_u l.1 li.1.1 w2 (by rw [← C.1]; exact mi.2) (by rw [← C.2.1, ← C.2.1]; exact fj.symm) (by rw [← C.2.2.1, ← C.2.2.1]; exact w1.symm) (by rw [li.2, l.2])) (fun h => h)
  · rintro ⟨o, ⟨no, l, io⟩, f, g⟩
    obtain ⟨p, pN, z, e, lt, s⟩ := li_m C B O hd L no.1 no.2 l
    rw [in_b E hy hx] at io
    rw [← C.2.1, ← C.2.1] at f
    rw [← C.2.2.1, ← C.2.2.1] at g
    have lp : p < pi := by
      rcases Nat.lt_trichotomy p pi with w | w | w
      · exact w
      · rw [w, ← ei] at e
        rw [e] at g
        omega
      · have lx := O.2.1 (pi : Nat) (p : Nat) (by omega) (by omega) pN
        rw [← ei, e] at lx
        unfold lxl at lx
        omega
    have := cnN_lt lp z
    refine ⟨((cnN V yr k p : Nat) : Int), ⟨by omega, by omega⟩, ?_, ?_⟩
    · unfold fmA
      rw [s]
      exact f
    · unfold Bt fdA
      rw [s]
      exact io


-- ===== what a run comes to, if it comes to anything; the heap as numbers =====
def Pt (n : Nat) (X : aX) (M : aM) (pc : Nat) (l : aL) (st : List Value) (h : aH) (Q : Option Value → aH → Prop) : Prop := ∀ m, m ≤ n → ∀ d v h', arun X m d M pc l st h = some (v, h') → Q v h'
abbrev vS : Type := Nat → Int → Int
def vV (v : Value) : Int := match v with
  | .int x => x.toInt
  | .long x => x.toInt
  | .ref q => (q : Int)
  | .null => -1
  | _ => 0
def vA (a : (Nat → Int32) ⊕ (Nat → Int64) ⊕ (Nat → UInt32) ⊕ (Nat → UInt64) ⊕ (Nat → Option Nat)) (j : Nat) : Int := match a with
  | .inl g => (g j).toInt
  | .inr (.inl g) => (g j).toInt
  | .inr (.inr (.inr (.inr g))) => (match g j with
    | some q => (q : Int)
    | none => -1)
  | _ => 0
def vw (h : aH) : vS := fun c j => if j < 0 then 0 else match h.1[c]? with
  | some (.inl (_, _, a)) => vA a j.toNat
  | some (.inr (_, fs)) => (match fs[j.toNat]? with
    | some v => vV v
    | none => 0)
  | none => 0
def up (V : vS) (c : Nat) (j v : Int) : vS := fun c' j' => if c' = c ∧ j' = j then v else V c' j'
def w32 (z : Int) : Int := (z + 2147483648) % 4294967296 - 2147483648
def w64 (z : Int) : Int := (z + 9223372036854775808) % 18446744073709551616 - 9223372036854775808
def w16 (z : Int) : Int := (z + 32768) % 65536 - 32768
def w8 (z : Int) : Int := (z + 128) % 256 - 128
def bAnd (a b : Int) : Int := (Int32.ofInt a &&& Int32.ofInt b).toInt
def bOr (a b : Int) : Int := (Int32.ofInt a ||| Int32.ofInt b).toInt
def bXor (a b : Int) : Int := (Int32.ofInt a ^^^ Int32.ofInt b).toInt
def bShl (a b : Int) : Int := (Int32.ofInt a <<< (Int32.ofInt b &&& 31)).toInt
def bShr (a b : Int) : Int := (Int32.ofInt a >>> (Int32.ofInt b &&& 31)).toInt
def bUshr (a b : Int) : Int := ((Int32.ofInt a).toUInt32 >>> ((Int32.ofInt b).toUInt32 &&& Int32.toUInt32 31)).toInt32.toInt
def iDiv (a b : Int) : Int := (Int32.ofInt a / Int32.ofInt b).toInt
def iRem (a b : Int) : Int := (Int32.ofInt a - Int32.ofInt a / Int32.ofInt b * Int32.ofInt b).toInt
def jDiv (a b : Int) : Int := (Int64.ofInt a / Int64.ofInt b).toInt
def jRem (a b : Int) : Int := (Int64.ofInt a - Int64.ofInt a / Int64.ofInt b * Int64.ofInt b).toInt
def iAbs (a : Int) : Int := if 0 ≤ a then a else w32 (-a)
def iIx (a : Int) : Int := (zIx (Int32.ofInt a)).toInt
noncomputable def bI (p : Prop) : Int := @ite Int p (Classical.propDecidable p) 1 0
theorem bI_t {p : Prop} (h : p) : bI p = 1 := by unfold bI; rw [if_pos h]
theorem bI_f {p : Prop} (h : ¬ p) : bI p = 0 := by unfold bI; rw [if_neg h]
theorem bI_1 {p : Prop} : bI p = 1 ↔ p := by
  constructor
  · intro e
    by_cases h : p
    · exact h
    · rw [bI_f h] at e; cases e
  · exact bI_t
theorem bI_0 {p : Prop} : bI p = 0 ↔ ¬ p := by
  constructor
  · intro e h
    rw [bI_t h] at e; cases e
  · exact bI_f
theorem bI_c {p q : Prop} (h : p ↔ q) : bI p = bI q := by
  by_cases c : p
  · rw [bI_t c, bI_t (h.mp c)]
  · rw [bI_f c, bI_f (fun d => c (h.mpr d))]
theorem bI_r (p : Prop) : bI p = 0 ∨ bI p = 1 := by
  by_cases c : p
  · exact Or.inr (bI_t c)
  · exact Or.inl (bI_f c)
-- numbers that wrap
theorem w32_b (z : Int) : z.bmod (2 ^ 32) = w32 z := by
  unfold w32
  have e : z.bmod (2 ^ 32) = z.bmod 4294967296 := rfl
  rw [e, Int.bmod_def]
  split <;> omega
theorem w64_b (z : Int) : z.bmod (2 ^ 64) = w64 z := by
  unfold w64
  have e : z.bmod (2 ^ 64) = z.bmod 18446744073709551616 := rfl
  rw [e, Int.bmod_def]
  split <;> omega
theorem w32_id {z : Int} (h1 : -2147483648 ≤ z) (h2 : z ≤ 2147483647) : w32 z = z := by unfold w32; omega
theorem w64_id {z : Int} (h1 : -9223372036854775808 ≤ z) (h2 : z ≤ 9223372036854775807) : w64 z = z := by unfold w64; omega
theorem oI (x : Int32) : Int32.ofInt x.toInt = x := Int32.ofInt_toInt x
theorem oJ (x : Int64) : Int64.ofInt x.toInt = x := Int64.ofInt_toInt x
theorem t_add (x y : Int32) : (x + y).toInt = w32 (x.toInt + y.toInt) := by rw [Int32.toInt_add, w32_b]
theorem t_sub (x y : Int32) : (x - y).toInt = w32 (x.toInt - y.toInt) := by rw [Int32.toInt_sub, w32_b]
theorem t_mul (x y : Int32) : (x * y).toInt = w32 (x.toInt * y.toInt) := by rw [Int32.toInt_mul, w32_b]
theorem t_neg (x : Int32) : (-x).toInt = w32 (-x.toInt) := by rw [Int32.toInt_neg, w32_b]
theorem u_add (x y : Int64) : (x + y).toInt = w64 (x.toInt + y.toInt) := by rw [Int64.toInt_add, w64_b]
theorem u_sub (x y : Int64) : (x - y).toInt = w64 (x.toInt - y.toInt) := by rw [Int64.toInt_sub, w64_b]
theorem u_mul (x y : Int64) : (x * y).toInt = w64 (x.toInt * y.toInt) := by rw [Int64.toInt_mul, w64_b]
theorem iDiv_pos {a b : Int} (ha : 0 ≤ a) (ha2 : a ≤ 2147483647) (hb : 1 ≤ b) (hb2 : b ≤ 2147483647) : iDiv a b = a / b := by
  unfold iDiv
  have e1 : (Int32.ofInt a).toInt = a := Int32.toInt_ofInt_of_le (by omega) (by omega)
  have e2 : (Int32.ofInt b).toInt = b := Int32.toInt_ofInt_of_le (by omega) (by omega)
  have t := (tdiv_b (x := (Int32.ofInt a).toInt) (y := (Int32.ofInt b).toInt) (by omega)).1 (by omega)
  rw [i_div (by omega) (by omega), e1, e2, Int.tdiv_eq_ediv_of_nonneg ha]
theorem iRem_pos {a b : Int} (ha : 0 ≤ a) (ha2 : a ≤ 2147483647) (hb : 1 ≤ b) (hb2 : b ≤ 2147483647) : iRem a b = a % b := by
  unfold iRem
  have e1 : (Int32.ofInt a).toInt = a := Int32.toInt_ofInt_of_le (by omega) (by omega)
  have e2 : (Int32.ofInt b).toInt = b := Int32.toInt_ofInt_of_le (by omega) (by omega)
  rw [i_rem (by omega), e1, e2, Int.tmod_eq_emod_of_nonneg ha]
theorem jDiv_pos {a b : Int} (ha : 0 ≤ a) (ha2 : a ≤ 9223372036854775807) (hb : 1 ≤ b) (hb2 : b ≤ 9223372036854775807) : jDiv a b = a / b := by
  unfold jDiv
  have e1 : (Int64.ofInt a).toInt = a := Int64.toInt_ofInt_of_le (by omega) (by omega)
  have e2 : (Int64.ofInt b).toInt = b := Int64.toInt_ofInt_of_le (by omega) (by omega)
  have t := (tdiv_b (x := (Int64.ofInt a).toInt) (y := (Int64.ofInt b).toInt) (by omega)).1 (by omega)
  rw [j_div (by omega) (by omega), e1, e2, Int.tdiv_eq_ediv_of_nonneg ha]
theorem jRem_pos {a b : Int} (ha : 0 ≤ a) (ha2 : a ≤ 9223372036854775807) (hb : 1 ≤ b) (hb2 : b ≤ 9223372036854775807) : jRem a b = a % b := by
  unfold jRem
  have e1 : (Int64.ofInt a).toInt = a := Int64.toInt_ofInt_of_le (by omega) (by omega)
  have e2 : (Int64.ofInt b).toInt = b := Int64.toInt_ofInt_of_le (by omega) (by omega)
  rw [j_rem (by omega), e1, e2, Int.tmod_eq_emod_of_nonneg ha]
-- the heap as numbers
theorem up_s (V : vS) (c : Nat) (j v : Int) : up V c j v c j = v := if_pos ⟨rfl, rfl⟩
theorem up_c {V : vS} {c c' : Nat} {j j' v : Int} (h : c' ≠ c) : up V c j v c' j' = V c' j' := if_neg (fun q => h q.1)
theorem up_j {V : vS} {c c' : Nat} {j j' v : Int} (h : j' ≠ j) : up V c j v c' j' = V c' j' := if_neg (fun q => h q.2)
theorem up_p {V : vS} {c : Nat} {j j' v : Int} : up V c j v c j' = if j' = j then v else V c j' := by
  unfold up
  by_cases q : j' = j
  · rw [if_pos ⟨rfl, q⟩, if_pos q]
  · rw [if_neg (fun r => q r.2), if_neg q]
theorem vw_a {h : aH} {c t n : Nat} {a : (Nat → Int32) ⊕ (Nat → Int64) ⊕ (Nat → UInt32) ⊕ (Nat → UInt64) ⊕ (Nat → Option Nat)} {j : Int} (e : h.1[c]? = some (.inl (t, n, a))) (hj : 0 ≤ j) : vw h c j = vA a j.toNat := by
  unfold vw
  rw [if_neg (by omega), e]
theorem vw_o {h : aH} {c ci : Nat} {fs : List Value} {i : Nat} {v : Value} (e : h.1[c]? = some (.inr (ci, fs))) (hv : fs[i]? = some v) : vw h c (i : Nat) = vV v := by
  unfold vw
  rw [if_neg (by omega), e]
  simp only [Int.toNat_natCast, hv]
theorem vw_eq {h h' : aH} {c : Nat} (e : h'.1[c]? = h.1[c]?) (j : Int) : vw h' c j = vw h c j := by
  unfold vw
  rw [e]
/-- what a frame leaves, in numbers -/
theorem vw_dG {W : List (Nat × Nat)} {σ σ1 : List Nat} {h h1 : aH} (H : dH σ h) (G : dG W σ h σ1 h1) {r : Nat} (hr : r < 146) {t : cRt} (ht : cRT[r]? = some t) (j : Int) (hW : (t.1 = 0 → cWn W r j.toNat = false) ∧ (t.1 ≠ 0 → cWn W r 0 = false)) : vw h1 r j = vw h r j := by
  obtain ⟨c, e, k⟩ := dH_cell H (H.2.2.2 r hr) ht
  obtain ⟨c1, a1, a2⟩ := G.2.1 r r _ (H.2.2.2 r hr) e
  by_cases h0 : t.1 = 0
  · obtain ⟨fs, rfl, -, -⟩ := dC_0 k h0
    obtain ⟨fs1, rfl, a3⟩ := a2.2 _ fs rfl
    unfold vw
    rw [e, a1]
    simp only [a3 _ (hW.1 h0)]
  · have : ∃ x, c = .inl x := by
      unfold dC at k
      split at k
      · exact absurd ‹_› h0
      · obtain ⟨g, rfl, -⟩ := k; exact ⟨_, rfl⟩
      · obtain ⟨g, rfl, -⟩ := k; exact ⟨_, rfl⟩
      · obtain ⟨g, rfl, -⟩ := k; exact ⟨_, rfl⟩
      · exact k.elim
    obtain ⟨x, rfl⟩ := this
    rw [a2.1 x rfl (hW.2 h0)] at a1
    exact vw_eq (a1.trans e.symm) j
def tyA (h : aH) (c : Nat) : Option (Nat × Nat) := match h.1[c]? with
  | some (.inl (t, n, _)) => some (t, n)
  | _ => none
def tkL (c t n : Nat) : Bool := match cRT[c]? with
  | some q => !(Nat.beq q.1 0) && Nat.beq q.2.1 t && Nat.beq q.2.2.1 n && Nat.blt c 146
  | none => false
def tkN (o b : Nat) : Bool := match cRT[o]? with
  | some t => (match t.2.2.2.2.2[b]? with
    | some ty => !(Nat.beq ty.1 1)
    | none => true)
  | none => true
theorem tkN_R {o b : Nat} (h : tkN o b = true) (q : Nat) : tkR o b q = false := by
  unfold tkN at h
  unfold tkR
  split
  · rename_i t e
    simp only [e] at h
    split
    · rename_i ty ety
      simp only [ety] at h
      cases k : Nat.beq ty.1 1 with
      | true => rw [k] at h; cases h
      | false => simp
    · simp
  · rfl
/-- a heap whose fields keep their kinds, whose two objects' parts lie where they lay -/
def wS (h : aH) : Prop := (∀ (q ci : Nat) (fs : List Value) (i : Nat) (v : Value), h.1[q]? = some (.inr (ci, fs)) → fs[i]? = some v → aok (zY ci i) v = true) ∧ (∀ c i q : Nat, tkR c i q = true → ∃ (ci : Nat) (fs : List Value), h.1[c]? = some (.inr (ci, fs)) ∧ fs[i]? = some (.ref q)) ∧ (∀ c t n : Nat, tkL c t n = true → tyA h c = some (t, n))
def fY (ci i : Nat) (ty : Nat × Int × Int) : Bool := match ty.1, zY ci i with
  | 0, .int => true
  | 0, .boolean => ceI ty.2.1 0 && ceI ty.2.2 1
  | 1, .object _ => true
  | 1, .array _ => true
  | 4, .array _ => true
  | _, _ => false
def fYs (ci : Nat) : Nat → List (Nat × Int × Int) → Bool
  | _, [] => true
  | i, ty :: r => fY ci i ty && fYs ci (i + 1) r
def fYt : List cRt → Bool
  | [] => true
  | t :: r => (!(Nat.beq t.1 0) || fYs t.2.1 0 t.2.2.2.2.2) && fYt r
theorem fYt_0 : fYt cRT = true := by decide +kernel
theorem fYs_i {ci : Nat} : ∀ {k : Nat} {L : List (Nat × Int × Int)}, fYs ci k L = true → ∀ (i : Nat) (ty : Nat × Int × Int), L[i]? = some ty → fY ci (k + i) ty = true
  | _, [], _, i, ty, e => by simp at e
  | k, t :: r, h, 0, ty, e => by
    unfold fYs at h
    rw [Bool.and_eq_true] at h
    simp only [List.getElem?_cons_zero, Option.some.injEq] at e
    subst e
    exact h.1
  | k, t :: r, h, i + 1, ty, e => by
    unfold fYs at h
    rw [Bool.and_eq_true] at h
    rw [List.getElem?_cons_succ] at e
    rw [show k + (i + 1) = (k + 1) + i by omega]
    exact fYs_i h.2 i ty e
theorem fYt_i : ∀ {L : List cRt}, fYt L = true → ∀ (r : Nat) (t : cRt), L[r]? = some t → t.1 = 0 → fYs t.2.1 0 t.2.2.2.2.2 = true
  | [], _, r, t, e, _ => by simp at e
  | u :: L, h, 0, t, e, h0 => by
    unfold fYt at h
    rw [Bool.and_eq_true] at h
    simp only [List.getElem?_cons_zero, Option.some.injEq] at e
    subst e
    have := h.1
    rw [h0] at this
    simpa using this
  | u :: L, h, r + 1, t, e, h0 => by
    unfold fYt at h
    rw [Bool.and_eq_true] at h
    rw [List.getElem?_cons_succ] at e
    exact fYt_i h.2 r t e h0
theorem fY_ok {σ : List Nat} {ci i : Nat} {ty : Nat × Int × Int} {v : Value} (h : fY ci i ty = true) (k : dT σ ty v) : aok (zY ci i) v = true := by
  unfold fY at h
  unfold dT at k
  split at h
  · rename_i e1 e2
    rw [e1] at k
    obtain ⟨x, rfl, -, -⟩ := k
    rw [e2]; rfl
  · rename_i e1 e2
    rw [e1] at k
    obtain ⟨x, rfl, k1, k2⟩ := k
    rw [e2]
    simp only [Bool.and_eq_true, ceI_i] at h
    have : x.toInt = 0 ∨ x.toInt = 1 := by omega
    rcases this with q | q
    · rw [b_i.mpr (show x.toInt = (0 : Int32).toInt from q)]; rfl
    · rw [b_i.mpr (show x.toInt = (1 : Int32).toInt from q)]; rfl
  · rename_i e1 e2
    rw [e1] at k
    obtain ⟨q, rfl, -⟩ := k
    rw [e2]; rfl
  · rename_i e1 e2
    rw [e1] at k
    obtain ⟨q, rfl, -⟩ := k
    rw [e2]; rfl
  · rename_i e1 e2
    rw [e1] at k
    rcases k with rfl | rfl
    · rw [e2]; rfl
    · rw [e2]; rfl
  · cases h
theorem wS_dI {σ : List Nat} {h : aH} (I : dI σ h) : wS h := by
  refine ⟨fun q ci fs i v e ev => ?_, fun c i q k => ?_, fun c t n k => ?_⟩
  · obtain ⟨H1, H2, -, -⟩ := I.1
    have hq : q < σ.length := by rw [H1]; exact (List.getElem?_eq_some_iff.mp e).1
    obtain ⟨t, c, e1, e2, e3⟩ := H2 q σ[q] (List.getElem?_eq_getElem hq)
    rw [e] at e2
    cases e2
    by_cases h0 : t.1 = 0
    · obtain ⟨fs', c1, c2, c3⟩ := dC_0 e3 h0
      cases c1
      have hi : i < t.2.2.2.2.2.length := by rw [← c2]; exact (List.getElem?_eq_some_iff.mp ev).1
      obtain ⟨v', d1, d2⟩ := c3 i _ (List.getElem?_eq_getElem hi)
      rw [ev] at d1
      cases d1
      have := fYs_i (fYt_i fYt_0 _ _ e1 h0) i _ (List.getElem?_eq_getElem hi)
      rw [Nat.zero_add] at this
      exact fY_ok this d2
    · unfold dC at e3
      split at e3
      · exact absurd ‹_› h0
      · obtain ⟨g, e4, -⟩ := e3; cases e4
      · obtain ⟨g, e4, -⟩ := e3; cases e4
      · obtain ⟨g, e4, -⟩ := e3; cases e4
      · exact e3.elim
  · have k0 := k
    unfold tkR at k
    split at k
    · rename_i t e
      rw [Bool.and_eq_true, Bool.and_eq_true, Nat.blt_eq] at k
      obtain ⟨⟨k1, k2⟩, k3⟩ := k
      obtain ⟨fs, a, -, -⟩ := dI_o I k2 e (Nat.eq_of_beq_eq_true k1)
      exact ⟨_, fs, a, hI_r I a k0⟩
    · cases k
  · unfold tkL at k
    split at k
    · rename_i q e
      simp only [Bool.and_eq_true, Bool.not_eq_true', Nat.blt_eq] at k
      obtain ⟨⟨⟨k1, k2⟩, k3⟩, k4⟩ := k
      have h0 : q.1 ≠ 0 := fun z => by rw [z] at k1; cases k1
      obtain ⟨x, e1, e2⟩ := dH_cell I.1 (I.1.2.2.2 c k4) e
      have e3 := Nat.eq_of_beq_eq_true k2
      have e4 := Nat.eq_of_beq_eq_true k3
      unfold tyA
      unfold dC at e2
      split at e2
      · exact absurd ‹_› h0
      · obtain ⟨g, rfl, -⟩ := e2; rw [e1]; simp only [e3, e4]
      · rename_i h2
        obtain ⟨g, rfl, -⟩ := e2; rw [e1]
        have : q.2.1 = 1 := by
          have z : (cRT.all (fun t => !(Nat.beq t.1 2) || Nat.beq t.2.1 1)) = true := by decide +kernel
          have := List.all_eq_true.mp z q (List.mem_of_getElem? e)
          rw [h2] at this
          exact Nat.eq_of_beq_eq_true (by simpa using this)
        simp only [← e3, this, e4]
      · obtain ⟨g, rfl, -⟩ := e2; rw [e1]; simp only [e3, e4]
      · exact e2.elim
    · cases k
/-- a row of numbers changed at one place -/
theorem wS_arr {h : aH} {o t n : Nat} {s : Nat} {a a' : (Nat → Int32) ⊕ (Nat → Int64) ⊕ (Nat → UInt32) ⊕ (Nat → UInt64) ⊕ (Nat → Option Nat)} (S : wS h) (c : h.1[o]? = some (.inl (t, n, a))) : wS (h.1.set o (.inl (t, n, a')), s) := by
  have hne : ∀ q ci fs, h.1[q]? = some (.inr (ci, fs)) → o ≠ q := by
    intro q ci fs e z
    rw [z, e] at c
    cases c
  refine ⟨fun q ci fs i v e ev => ?_, fun c' i q k => ?_, fun c' t' n' k => ?_⟩
  · by_cases z : o = q
    · subst z
      rw [set_eq' c] at e
      cases e
    · rw [set_ne' z] at e
      exact S.1 q ci fs i v e ev
  · obtain ⟨ci, fs, e1, e2⟩ := S.2.1 c' i q k
    exact ⟨ci, fs, (set_ne' (hne _ _ _ e1)).trans e1, e2⟩
  · have := S.2.2 c' t' n' k
    by_cases z : o = c'
    · subst z
      unfold tyA at this ⊢
      rw [c] at this
      rw [set_eq' c]
      exact this
    · unfold tyA at this ⊢
      rw [set_ne' z]
      exact this
theorem vw_arr {h : aH} {o t n s : Nat} {a a' : (Nat → Int32) ⊕ (Nat → Int64) ⊕ (Nat → UInt32) ⊕ (Nat → UInt64) ⊕ (Nat → Option Nat)} {J B : Int} (c : h.1[o]? = some (.inl (t, n, a))) (hJ : 0 ≤ J) (e : ∀ k : Nat, vA a' k = if k = J.toNat then B else vA a k) : vw (h.1.set o (.inl (t, n, a')), s) = up (vw h) o J B := by
  funext c' j'
  unfold up
  by_cases z : c' = o
  · subst z
    unfold vw
    rw [set_eq' c, c]
    by_cases q : j' < 0
    · rw [if_pos q, if_pos q, if_neg (by omega)]
    · rw [if_neg q, if_neg q]
      dsimp only
      rw [e]
      by_cases y : j' = J
      · rw [if_pos (by rw [y]), if_pos ⟨rfl, y⟩]
      · rw [if_neg (by omega), if_neg (fun w => y w.2)]
  · rw [if_neg (fun w => z w.1)]
    exact vw_eq (set_ne' (fun w => z w.symm)) j'
theorem wS_obj {h : aH} {o ci b s : Nat} {fs : List Value} {v : Value} (S : wS h) (c : h.1[o]? = some (.inr (ci, fs))) (hv : aok (zY ci b) v = true) (hn : ∀ q, tkR o b q = false) : wS (h.1.set o (.inr (ci, fs.set b v)), s) := by
  refine ⟨fun q ci' fs' i v' e ev => ?_, fun c' i q k => ?_, fun c' t' n' k => ?_⟩
  · by_cases z : o = q
    · subst z
      rw [set_eq' c] at e
      cases e
      rw [List.getElem?_set] at ev
      by_cases y : b = i
      · subst y
        rw [if_pos rfl] at ev
        split at ev
        · cases ev; exact hv
        · cases ev
      · rw [if_neg y] at ev
        exact S.1 _ _ _ _ _ c ev
    · rw [set_ne' z] at e
      exact S.1 q ci' fs' i v' e ev
  · obtain ⟨ci', fs', e1, e2⟩ := S.2.1 c' i q k
    by_cases z : o = c'
    · subst z
      rw [c] at e1
      cases e1
      have y : b ≠ i := fun y => by rw [← y, hn] at k; cases k
      exact ⟨ci, fs.set b v, set_eq' c, by rw [List.getElem?_set, if_neg y]; exact e2⟩
    · exact ⟨ci', fs', (set_ne' z).trans e1, e2⟩
  · have := S.2.2 c' t' n' k
    by_cases z : o = c'
    · subst z
      unfold tyA at this
      rw [c] at this
      cases this
    · unfold tyA at this ⊢
      rw [set_ne' z]
      exact this
theorem vw_obj {h : aH} {o ci b s : Nat} {fs : List Value} {v : Value} (c : h.1[o]? = some (.inr (ci, fs))) (hb : b < fs.length) : vw (h.1.set o (.inr (ci, fs.set b v)), s) = up (vw h) o (b : Nat) (vV v) := by
  funext c' j'
  unfold up
  by_cases z : c' = o
  · subst z
    unfold vw
    rw [set_eq' c, c]
    by_cases q : j' < 0
    · rw [if_pos q, if_pos q, if_neg (by omega)]
    · rw [if_neg q, if_neg q]
      dsimp only
      rw [List.getElem?_set]
      by_cases y : j' = (b : Nat)
      · subst y
        rw [Int.toNat_natCast, if_pos rfl, if_pos hb, if_pos ⟨rfl, rfl⟩]
      · rw [if_neg (by omega), if_neg (fun w => y w.2)]
  · rw [if_neg (fun w => z w.1)]
    exact vw_eq (set_ne' (fun w => z w.symm)) j'

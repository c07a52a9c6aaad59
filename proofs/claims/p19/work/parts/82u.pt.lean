-- ===== 82u.pt: 2 texts =====
section
-- ===== what a run comes to, if it comes to anything; the heap as numbers =====
def Pt (n : Nat) (X : aX) (M : aM) (pc : Nat) (l : aL) (st : List Value) (h : aH) (Q : Option Value → aH → Prop) : Prop := ∀ m, m ≤ n → ∀ d v h', arun X m d M pc l st h = some (v, h') → Q v h'
abbrev vS : Type := Nat → Int → Int
def vV (v : Value) : Int := match v with
  | .int x => x.toInt
  | .long x => x.toInt
  | .ref q => (q : Int)
  | .null => -1
  | _ => 0
def vA (a : (Nat → Int32) ⊕ (Nat → Int64) ⊕ (Nat → UInt32) ⊕ (Nat → UInt64) ⊕ (Nat → Option Nat)) (j : Nat) : Int := match a with
  | .inl g => (g j).toInt
  | .inr (.inl g) => (g j).toInt
  | .inr (.inr (.inr (.inr g))) => (match g j with
    | some q => (q : Int)
    | none => -1)
  | _ => 0
def vw (h : aH) : vS := fun c j => if j < 0 then 0 else match h.1[c]? with
  | some (.inl (_, _, a)) => vA a j.toNat
  | some (.inr (_, fs)) => (match fs[j.toNat]? with
    | some v => vV v
    | none => 0)
  | none => 0
def up (V : vS) (c : Nat) (j v : Int) : vS := fun c' j' => if c' = c ∧ j' = j then v else V c' j'
def w32 (z : Int) : Int := (z + 2147483648) % 4294967296 - 2147483648
def w64 (z : Int) : Int := (z + 9223372036854775808) % 18446744073709551616 - 9223372036854775808
def w16 (z : Int) : Int := (z + 32768) % 65536 - 32768
def w8 (z : Int) : Int := (z + 128) % 256 - 128
def bAnd (a b : Int) : Int := (Int32.ofInt a &&& Int32.ofInt b).toInt
def bOr (a b : Int) : Int := (Int32.ofInt a ||| Int32.ofInt b).toInt
def bXor (a b : Int) : Int := (Int32.ofInt a ^^^ Int32.ofInt b).toInt
def bShl (a b : Int) : Int := (Int32.ofInt a <<< (Int32.ofInt b &&& 31)).toInt
def bShr (a b : Int) : Int := (Int32.ofInt a >>> (Int32.ofInt b &&& 31)).toInt
def bUshr (a b : Int) : Int := ((Int32.ofInt a).toUInt32 >>> ((Int32.ofInt b).toUInt32 &&& Int32.toUInt32 31)).toInt32.toInt
def iDiv (a b : Int) : Int := (Int32.ofInt a / Int32.ofInt b).toInt
def iRem (a b : Int) : Int := (Int32.ofInt a - Int32.ofInt a / Int32.ofInt b * Int32.ofInt b).toInt
def jDiv (a b : Int) : Int := (Int64.ofInt a / Int64.ofInt b).toInt
def jRem (a b : Int) : Int := (Int64.ofInt a - Int64.ofInt a / Int64.ofInt b * Int64.ofInt b).toInt
def iAbs (a : Int) : Int := if 0 ≤ a then a else w32 (-a)
def iIx (a : Int) : Int := (zIx (Int32.ofInt a)).toInt
noncomputable def bI (p : Prop) : Int := @ite Int p (Classical.propDecidable p) 1 0
theorem bI_t {p : Prop} (h : p) : bI p = 1 := by unfold bI; rw [if_pos h]
theorem bI_f {p : Prop} (h : ¬ p) : bI p = 0 := by unfold bI; rw [if_neg h]
theorem bI_0 {p : Prop} : bI p = 0 ↔ ¬ p := by
  constructor
  · intro e h
    rw [bI_t h] at e; cases e
  · exact bI_f
theorem bI_c {p q : Prop} (h : p ↔ q) : bI p = bI q := by
  by_cases c : p
  · rw [bI_t c, bI_t (h.mp c)]
  · rw [bI_f c, bI_f (fun d => c (h.mpr d))]
theorem bI_r (p : Prop) : bI p = 0 ∨ bI p = 1 := by
  by_cases c : p
  · exact Or.inr (bI_t c)
  · exact Or.inl (bI_f c)
-- numbers that wrap
theorem w32_b (z : Int) : z.bmod (2 ^ 32) = w32 z := by
  unfold w32
  have e : z.bmod (2 ^ 32) = z.bmod 4294967296 := rfl
  rw [e, Int.bmod_def]
  split <;> omega
theorem w64_b (z : Int) : z.bmod (2 ^ 64) = w64 z := by
  unfold w64
  have e : z.bmod (2 ^ 64) = z.bmod 18446744073709551616 := rfl
  rw [e, Int.bmod_def]
  split <;> omega
theorem w32_id {z : Int} (h1 : -2147483648 ≤ z) (h2 : z ≤ 2147483647) : w32 z = z := by unfold w32; omega
theorem oI (x : Int32) : Int32.ofInt x.toInt = x := Int32.ofInt_toInt x
theorem oJ (x : Int64) : Int64.ofInt x.toInt = x := Int64.ofInt_toInt x
theorem t_add (x y : Int32) : (x + y).toInt = w32 (x.toInt + y.toInt) := by rw [Int32.toInt_add, w32_b]
theorem t_sub (x y : Int32) : (x - y).toInt = w32 (x.toInt - y.toInt) := by rw [Int32.toInt_sub, w32_b]
theorem t_mul (x y : Int32) : (x * y).toInt = w32 (x.toInt * y.toInt) := by rw [Int32.toInt_mul, w32_b]
theorem t_neg (x : Int32) : (-x).toInt = w32 (-x.toInt) := by rw [Int32.toInt_neg, w32_b]
theorem u_add (x y : Int64) : (x + y).toInt = w64 (x.toInt + y.toInt) := by rw [Int64.toInt_add, w64_b]
theorem u_sub (x y : Int64) : (x - y).toInt = w64 (x.toInt - y.toInt) := by rw [Int64.toInt_sub, w64_b]
theorem u_mul (x y : Int64) : (x * y).toInt = w64 (x.toInt * y.toInt) := by rw [Int64.toInt_mul, w64_b]
theorem iDiv_pos {a b : Int} (ha : 0 ≤ a) (ha2 : a ≤ 2147483647) (hb : 1 ≤ b) (hb2 : b ≤ 2147483647) : iDiv a b = a / b := by
  unfold iDiv
  have e1 : (Int32.ofInt a).toInt = a := Int32.toInt_ofInt_of_le (by omega) (by omega)
  have e2 : (Int32.ofInt b).toInt = b := Int32.toInt_ofInt_of_le (by omega) (by omega)
  have t := (tdiv_b (x := (Int32.ofInt a).toInt) (y := (Int32.ofInt b).toInt) (by omega)).1 (by omega)
  rw [i_div (by omega) (by omega), e1, e2, Int.tdiv_eq_ediv_of_nonneg ha]
theorem iRem_pos {a b : Int} (ha : 0 ≤ a) (ha2 : a ≤ 2147483647) (hb : 1 ≤ b) (hb2 : b ≤ 2147483647) : iRem a b = a % b := by
  unfold iRem
  have e1 : (Int32.ofInt a).toInt = a := Int32.toInt_ofInt_of_le (by omega) (by omega)
  have e2 : (Int32.ofInt b).toInt = b := Int32.toInt_ofInt_of_le (by omega) (by omega)
  rw [i_rem (by omega), e1, e2, Int.tmod_eq_emod_of_nonneg ha]
-- the heap as numbers
theorem up_s (V : vS) (c : Nat) (j v : Int) : up V c j v c j = v := if_pos ⟨rfl, rfl⟩
theorem up_c {V : vS} {c c' : Nat} {j j' v : Int} (h : c' ≠ c) : up V c j v c' j' = V c' j' := if_neg (fun q => h q.1)
theorem up_j {V : vS} {c c' : Nat} {j j' v : Int} (h : j' ≠ j) : up V c j v c' j' = V c' j' := if_neg (fun q => h q.2)
theorem up_p {V : vS} {c : Nat} {j j' v : Int} : up V c j v c j' = if j' = j then v else V c j' := by
  unfold up
  by_cases q : j' = j
  · rw [if_pos ⟨rfl, q⟩, if_pos q]
  · rw [if_neg (fun r => q r.2), if_neg q]
theorem vw_a {h : aH} {c t n : Nat} {a : (Nat → Int32) ⊕ (Nat → Int64) ⊕ (Nat → UInt32) ⊕ (Nat → UInt64) ⊕ (Nat → Option Nat)} {j : Int} (e : h.1[c]? = some (.inl (t, n, a))) (hj : 0 ≤ j) : vw h c j = vA a j.toNat := by
  unfold vw
  rw [if_neg (by omega), e]
theorem vw_o {h : aH} {c ci : Nat} {fs : List Value} {i : Nat} {v : Value} (e : h.1[c]? = some (.inr (ci, fs))) (hv : fs[i]? = some v) : vw h c (i : Nat) = vV v := by
  unfold vw
  rw [if_neg (by omega), e]
  simp only [Int.toNat_natCast, hv]
theorem vw_eq {h h' : aH} {c : Nat} (e : h'.1[c]? = h.1[c]?) (j : Int) : vw h' c j = vw h c j := by
  unfold vw
  rw [e]
theorem vw_dG {W : List (Nat × Nat)} {σ σ1 : List Nat} {h h1 : aH} (H : dH σ h) (G : dG W σ h σ1 h1) {r : Nat} (hr : r < 146) {t : cRt} (ht : cRT[r]? = some t) (j : Int) (hW : (t.1 = 0 → cWn W r j.toNat = false) ∧ (t.1 ≠ 0 → cWn W r 0 = false)) : vw h1 r j = vw h r j := by
  obtain ⟨c, e, k⟩ := dH_cell H (H.2.2.2 r hr) ht
  obtain ⟨c1, a1, a2⟩ := G.2.1 r r _ (H.2.2.2 r hr) e
  by_cases h0 : t.1 = 0
  · obtain ⟨fs, rfl, -, -⟩ := dC_0 k h0
    obtain ⟨fs1, rfl, a3⟩ := a2.2 _ fs rfl
    unfold vw
    rw [e, a1]
    simp only [a3 _ (hW.1 h0)]
  · have : ∃ x, c = .inl x := by
      unfold dC at k
      split at k
      · exact absurd ‹_› h0
      · obtain ⟨g, rfl, -⟩ := k; exact ⟨_, rfl⟩
      · obtain ⟨g, rfl, -⟩ := k; exact ⟨_, rfl⟩
      · obtain ⟨g, rfl, -⟩ := k; exact ⟨_, rfl⟩
      · exact k.elim
    obtain ⟨x, rfl⟩ := this
    rw [a2.1 x rfl (hW.2 h0)] at a1
    exact vw_eq (a1.trans e.symm) j
def tyA (h : aH) (c : Nat) : Option (Nat × Nat) := match h.1[c]? with
  | some (.inl (t, n, _)) => some (t, n)
  | _ => none
def tkL (c t n : Nat) : Bool := match cRT[c]? with
  | some q => !(Nat.beq q.1 0) && Nat.beq q.2.1 t && Nat.beq q.2.2.1 n && Nat.blt c 146
  | none => false
def tkN (o b : Nat) : Bool := match cRT[o]? with
  | some t => (match t.2.2.2.2.2[b]? with
    | some ty => !(Nat.beq ty.1 1)
    | none => true)
  | none => true
theorem tkN_R {o b : Nat} (h : tkN o b = true) (q : Nat) : tkR o b q = false := by
  unfold tkN at h
  unfold tkR
  split
  · rename_i t e
    simp only [e] at h
    split
    · rename_i ty ety
      simp only [ety] at h
      cases k : Nat.beq ty.1 1 with
      | true => rw [k] at h; cases h
      | false => simp
    · simp
  · rfl
def wS (h : aH) : Prop := (∀ (q ci : Nat) (fs : List Value) (i : Nat) (v : Value), h.1[q]? = some (.inr (ci, fs)) → fs[i]? = some v → aok (zY ci i) v = true) ∧ (∀ c i q : Nat, tkR c i q = true → ∃ (ci : Nat) (fs : List Value), h.1[c]? = some (.inr (ci, fs)) ∧ fs[i]? = some (.ref q)) ∧ (∀ c t n : Nat, tkL c t n = true → tyA h c = some (t, n))
def fY (ci i : Nat) (ty : Nat × Int × Int) : Bool := match ty.1, zY ci i with
  | 0, .int => true
  | 0, .boolean => ceI ty.2.1 0 && ceI ty.2.2 1
  | 1, .object _ => true
  | 1, .array _ => true
  | 4, .array _ => true
  | _, _ => false
def fYs (ci : Nat) : Nat → List (Nat × Int × Int) → Bool
  | _, [] => true
  | i, ty :: r => fY ci i ty && fYs ci (i + 1) r
def fYt : List cRt → Bool
  | [] => true
  | t :: r => (!(Nat.beq t.1 0) || fYs t.2.1 0 t.2.2.2.2.2) && fYt r
theorem fYt_0 : fYt cRT = true := by decide +kernel
theorem fYs_i {ci : Nat} : ∀ {k : Nat} {L : List (Nat × Int × Int)}, fYs ci k L = true → ∀ (i : Nat) (ty : Nat × Int × Int), L[i]? = some ty → fY ci (k + i) ty = true
  | _, [], _, i, ty, e => by simp at e
  | k, t :: r, h, 0, ty, e => by
    unfold fYs at h
    rw [Bool.and_eq_true] at h
    simp only [List.getElem?_cons_zero, Option.some.injEq] at e
    subst e
    exact h.1
  | k, t :: r, h, i + 1, ty, e => by
    unfold fYs at h
    rw [Bool.and_eq_true] at h
    rw [List.getElem?_cons_succ] at e
    rw [show k + (i + 1) = (k + 1) + i by omega]
    exact fYs_i h.2 i ty e
theorem fYt_i : ∀ {L : List cRt}, fYt L = true → ∀ (r : Nat) (t : cRt), L[r]? = some t → t.1 = 0 → fYs t.2.1 0 t.2.2.2.2.2 = true
  | [], _, r, t, e, _ => by simp at e
  | u :: L, h, 0, t, e, h0 => by
    unfold fYt at h
    rw [Bool.and_eq_true] at h
    simp only [List.getElem?_cons_zero, Option.some.injEq] at e
    subst e
    have := h.1
    rw [h0] at this
    simpa using this
  | u :: L, h, r + 1, t, e, h0 => by
    unfold fYt at h
    rw [Bool.and_eq_true] at h
    rw [List.getElem?_cons_succ] at e
    exact fYt_i h.2 r t e h0
theorem fY_ok {σ : List Nat} {ci i : Nat} {ty : Nat × Int × Int} {v : Value} (h : fY ci i ty = true) (k : dT σ ty v) : aok (zY ci i) v = true := by
  unfold fY at h
  unfold dT at k
  split at h
  · rename_i e1 e2
    rw [e1] at k
    obtain ⟨x, rfl, -, -⟩ := k
    rw [e2]; rfl
  · rename_i e1 e2
    rw [e1] at k
    obtain ⟨x, rfl, k1, k2⟩ := k
    rw [e2]
    simp only [Bool.and_eq_true, ceI_i] at h
    have : x.toInt = 0 ∨ x.toInt = 1 := by omega
    rcases this with q | q
    · rw [b_i.mpr (show x.toInt = (0 : Int32).toInt from q)]; rfl
    · rw [b_i.mpr (show x.toInt = (1 : Int32).toInt from q)]; rfl
  · rename_i e1 e2
    rw [e1] at k
    obtain ⟨q, rfl, -⟩ := k
    rw [e2]; rfl
  · rename_i e1 e2
    rw [e1] at k
    obtain ⟨q, rfl, -⟩ := k
    rw [e2]; rfl
  · rename_i e1 e2
    rw [e1] at k
    rcases k with rfl | rfl
    · rw [e2]; rfl
    · rw [e2]; rfl
  · cases h
theorem wS_dI {σ : List Nat} {h : aH} (I : dI σ h) : wS h := by
  refine ⟨fun q ci fs i v e ev => ?_, fun c i q k => ?_, fun c t n k => ?_⟩
  · obtain ⟨H1, H2, -, -⟩ := I.1
    have hq : q < σ.length := by rw [H1]; exact (List.getElem?_eq_some_iff.mp e).1
    obtain ⟨t, c, e1, e2, e3⟩ := H2 q σ[q] (List.getElem?_eq_getElem hq)
    rw [e] at e2
    cases e2
    by_cases h0 : t.1 = 0
    · obtain ⟨fs', c1, c2, c3⟩ := dC_0 e3 h0
      cases c1
      have hi : i < t.2.2.2.2.2.length := by rw [← c2]; exact (List.getElem?_eq_some_iff.mp ev).1
      obtain ⟨v', d1, d2⟩ := c3 i _ (List.getElem?_eq_getElem hi)
      rw [ev] at d1
      cases d1
      have := fYs_i (fYt_i fYt_0 _ _ e1 h0) i _ (List.getElem?_eq_getElem hi)
      rw [Nat.zero_add] at this
      exact fY_ok this d2
    · unfold dC at e3
      split at e3
      · exact absurd ‹_› h0
      · obtain ⟨g, e4, -⟩ := e3; cases e4
      · obtain ⟨g, e4, -⟩ := e3; cases e4
      · obtain ⟨g, e4, -⟩ := e3; cases e4
      · exact e3.elim
  · have k0 := k
    unfold tkR at k
    split at k
    · rename_i t e
      rw [Bool.and_eq_true, Bool.and_eq_true, Nat.blt_eq] at k
      obtain ⟨⟨k1, k2⟩, k3⟩ := k
      obtain ⟨fs, a, -, -⟩ := dI_o I k2 e (Nat.eq_of_beq_eq_true k1)
      exact ⟨_, fs, a, hI_r I a k0⟩
    · cases k
  · unfold tkL at k
    split at k
    · rename_i q e
      simp only [Bool.and_eq_true, Bool.not_eq_true', Nat.blt_eq] at k
      obtain ⟨⟨⟨k1, k2⟩, k3⟩, k4⟩ := k
      have h0 : q.1 ≠ 0 := fun z => by rw [z] at k1; cases k1
      obtain ⟨x, e1, e2⟩ := dH_cell I.1 (I.1.2.2.2 c k4) e
      have e3 := Nat.eq_of_beq_eq_true k2
      have e4 := Nat.eq_of_beq_eq_true k3
      unfold tyA
      unfold dC at e2
      split at e2
      · exact absurd ‹_› h0
      · obtain ⟨g, rfl, -⟩ := e2; rw [e1]; simp only [e3, e4]
      · rename_i h2
        obtain ⟨g, rfl, -⟩ := e2; rw [e1]
        have : q.2.1 = 1 := by
          have z : (cRT.all (fun t => !(Nat.beq t.1 2) || Nat.beq t.2.1 1)) = true := by decide +kernel
          have := List.all_eq_true.mp z q (List.mem_of_getElem? e)
          rw [h2] at this
          exact Nat.eq_of_beq_eq_true (by simpa using this)
        simp only [← e3, this, e4]
      · obtain ⟨g, rfl, -⟩ := e2; rw [e1]; simp only [e3, e4]
      · exact e2.elim
    · cases k
theorem wS_arr {h : aH} {o t n : Nat} {s : Nat} {a a' : (Nat → Int32) ⊕ (Nat → Int64) ⊕ (Nat → UInt32) ⊕ (Nat → UInt64) ⊕ (Nat → Option Nat)} (S : wS h) (c : h.1[o]? = some (.inl (t, n, a))) : wS (h.1.set o (.inl (t, n, a')), s) := by
  have hne : ∀ q ci fs, h.1[q]? = some (.inr (ci, fs)) → o ≠ q := by
    intro q ci fs e z
    rw [z, e] at c
    cases c
  refine ⟨fun q ci fs i v e ev => ?_, fun c' i q k => ?_, fun c' t' n' k => ?_⟩
  · by_cases z : o = q
    · subst z
      rw [set_eq' c] at e
      cases e
    · rw [set_ne' z] at e
      exact S.1 q ci fs i v e ev
  · obtain ⟨ci, fs, e1, e2⟩ := S.2.1 c' i q k
    exact ⟨ci, fs, (set_ne' (hne _ _ _ e1)).trans e1, e2⟩
  · have := S.2.2 c' t' n' k
    by_cases z : o = c'
    · subst z
      unfold tyA at this ⊢
      rw [c] at this
      rw [set_eq' c]
      exact this
    · unfold tyA at this ⊢
      rw [set_ne' z]
      exact this
theorem vw_arr {h : aH} {o t n s : Nat} {a a' : (Nat → Int32) ⊕ (Nat → Int64) ⊕ (Nat → UInt32) ⊕ (Nat → UInt64) ⊕ (Nat → Option Nat)} {J B : Int} (c : h.1[o]? = some (.inl (t, n, a))) (hJ : 0 ≤ J) (e : ∀ k : Nat, vA a' k = if k = J.toNat then B else vA a k) : vw (h.1.set o (.inl (t, n, a')), s) = up (vw h) o J B := by
  funext c' j'
  unfold up
  by_cases z : c' = o
  · subst z
    unfold vw
    rw [set_eq' c, c]
    by_cases q : j' < 0
    · rw [if_pos q, if_pos q, if_neg (by omega)]
    · rw [if_neg q, if_neg q]
      dsimp only
      rw [e]
      by_cases y : j' = J
      · rw [if_pos (by rw [y]), if_pos ⟨rfl, y⟩]
      · rw [if_neg (by omega), if_neg (fun w => y w.2)]
  · rw [if_neg (fun w => z w.1)]
    exact vw_eq (set_ne' (fun w => z w.symm)) j'
theorem wS_obj {h : aH} {o ci b s : Nat} {fs : List Value} {v : Value} (S : wS h) (c : h.1[o]? = some (.inr (ci, fs))) (hv : aok (zY ci b) v = true) (hn : ∀ q, tkR o b q = false) : wS (h.1.set o (.inr (ci, fs.set b v)), s) := by
  refine ⟨fun q ci' fs' i v' e ev => ?_, fun c' i q k => ?_, fun c' t' n' k => ?_⟩
  · by_cases z : o = q
    · subst z
      rw [set_eq' c] at e
      cases e
      rw [List.getElem?_set] at ev
      by_cases y : b = i
      · subst y
        rw [if_pos rfl] at ev
        split at ev
        · cases ev; exact hv
        · cases ev
      · rw [if_neg y] at ev
        exact S.1 _ _ _ _ _ c ev
    · rw [set_ne' z] at e
      exact S.1 q ci' fs' i v' e ev
  · obtain ⟨ci', fs', e1, e2⟩ := S.2.1 c' i q k
    by_cases z : o = c'
    · subst z
      rw [c] at e1
      cases e1
      have y : b ≠ i := fun y => by rw [← y, hn] at k; cases k
      exact ⟨ci, fs.set b v, set_eq' c, by rw [List.getElem?_set, if_neg y]; exact e2⟩
    · exact ⟨ci', fs', (set_ne' z).trans e1, e2⟩
  · have := S.2.2 c' t' n' k
    by_cases z : o = c'
    · subst z
      unfold tyA at this
      rw [c] at this
      cases this
    · unfold tyA at this ⊢
      rw [set_ne' z]
      exact this
theorem vw_obj {h : aH} {o ci b s : Nat} {fs : List Value} {v : Value} (c : h.1[o]? = some (.inr (ci, fs))) (hb : b < fs.length) : vw (h.1.set o (.inr (ci, fs.set b v)), s) = up (vw h) o (b : Nat) (vV v) := by
  funext c' j'
  unfold up
  by_cases z : c' = o
  · subst z
    unfold vw
    rw [set_eq' c, c]
    by_cases q : j' < 0
    · rw [if_pos q, if_pos q, if_neg (by omega)]
    · rw [if_neg q, if_neg q]
      dsimp only
      rw [List.getElem?_set]
      by_cases y : j' = (b : Nat)
      · subst y
        rw [Int.toNat_natCast, if_pos rfl, if_pos hb, if_pos ⟨rfl, rfl⟩]
      · rw [if_neg (by omega), if_neg (fun w => y w.2)]
  · rw [if_neg (fun w => z w.1)]
    exact vw_eq (set_ne' (fun w => z w.symm)) j'
end
section
-- ===== an instruction a row, of runs that come to something (by program) =====
def qI (P : Int → aH → Prop) (v : Option Value) (h : aH) : Prop := ∃ x : Int32, v = some (.int x) ∧ P x.toInt h
def qJ (P : Int → aH → Prop) (v : Option Value) (h : aH) : Prop := ∃ x : Int64, v = some (.long x) ∧ P x.toInt h
def qN (P : aH → Prop) (v : Option Value) (h : aH) : Prop := v = none ∧ P h
def qR (P : Nat → aH → Prop) (v : Option Value) (h : aH) : Prop := ∃ q : Nat, v = some (.ref q) ∧ P q h
section PT
variable {n : Nat} {X : aX} {M : aM} {Q : Option Value → aH → Prop} {pc pc' len a b : Nat} {l l' : aL} {st st' r : List Value} {h h' : aH} {A B : Int}
theorem pt_z : Pt 0 X M pc l st h Q := by
  intro m hm d v h2 e
  obtain rfl : m = 0 := by omega
  unfold arun at e
  cases e
theorem pt_d (k : Pt (n + 1) X M pc l st h Q) : Pt n X M pc l st h Q := fun m hm => k m (by omega)
theorem pt_q {Q' : Option Value → aH → Prop} (k : Pt n X M pc l st h Q') (hq : ∀ v h', Q' v h' → Q v h') : Pt n X M pc l st h Q := fun m hm d v h2 e => hq v h2 (k m hm d v h2 e)
theorem pt_s (k : ∀ m, m ≤ n → ∀ d v h', arun X (m + 1) d M pc l st h = some (v, h') → Q v h') : Pt (n + 1) X M pc l st h Q := by
  intro m hm d v h2 e
  cases m with
  | zero => unfold arun at e; cases e
  | succ m => exact k m (by omega) d v h2 e
theorem pt_1 (hs : ∀ n d, arun X (n + 1) d M pc l st h = arun X n d M pc' l' st' h') (k : Pt n X M pc' l' st' h' Q) : Pt (n + 1) X M pc l st h Q := pt_s fun m hm d v h2 e => k m hm d v h2 ((hs m d).symm.trans e)
theorem pt_iconst {z : Int} (hf : aF pc M.2.2.2.2.2.2.2 = some (pc, (.iconst z), len, a, b)) (k : ∀ x : Int32, x.toInt = z → Pt n X M (pc + 1) l (.int x :: r) h Q) (h1 : (-128 : Int) ≤ z := by decide) (h2 : z ≤ 127 := by decide) : Pt (n + 1) X M pc l r h Q := pt_1 (fun n d => r_iconst hf rfl) (k _ (toInt_ic h1 h2))
theorem pt_bipush {z : Int} (hf : aF pc M.2.2.2.2.2.2.2 = some (pc, (.bipush z), len, a, b)) (k : ∀ x : Int32, x.toInt = z → Pt n X M (pc + 2) l (.int x :: r) h Q) (h1 : (-128 : Int) ≤ z := by decide) (h2 : z ≤ 127 := by decide) : Pt (n + 1) X M pc l r h Q := pt_1 (fun n d => r_bipush hf rfl) (k _ (toInt_b h1 h2))
theorem pt_sipush {z : Int} (hf : aF pc M.2.2.2.2.2.2.2 = some (pc, (.sipush z), len, a, b)) (k : ∀ x : Int32, x.toInt = z → Pt n X M (pc + 3) l (.int x :: r) h Q) (h1 : (-32768 : Int) ≤ z := by decide) (h2 : z ≤ 32767 := by decide) : Pt (n + 1) X M pc l r h Q := pt_1 (fun n d => r_sipush hf rfl) (k _ (toInt_s h1 h2))
theorem pt_ldc {z : Nat} {c : Int} (hf : aF pc M.2.2.2.2.2.2.2 = some (pc, (.ldc z), len, a, b)) (hc : c31 a = c) (k : ∀ x : Int32, x.toInt = c → Pt n X M (pc + 2) l (.int x :: r) h Q) (h1 : Nat.beq a 4294967296 = false := by decide) (h2 : a < 4294967296 := by decide) : Pt (n + 1) X M pc l r h Q := pt_1 (fun n d => r_ldc hf rfl h1) (k _ ((iz_of _ h2).trans hc))
theorem pt_ldc_w {z : Nat} {c : Int} (hf : aF pc M.2.2.2.2.2.2.2 = some (pc, (.ldc_w z), len, a, b)) (hc : c31 a = c) (k : ∀ x : Int32, x.toInt = c → Pt n X M (pc + 3) l (.int x :: r) h Q) (h2 : a < 4294967296 := by decide) : Pt (n + 1) X M pc l r h Q := pt_1 (fun n d => r_ldcw hf rfl) (k _ ((iz_of _ h2).trans hc))
theorem pt_ldc2_w {z : Nat} {c : Int} (hf : aF pc M.2.2.2.2.2.2.2 = some (pc, (.ldc2_w z), len, a, b)) (hc : c63 a = c) (k : ∀ x : Int64, x.toInt = c → Pt n X M (pc + 3) l (.long x :: r) h Q) (h2 : a < 18446744073709551616 := by decide) : Pt (n + 1) X M pc l r h Q := pt_1 (fun n d => r_ldc2 hf rfl) (k _ ((jz_of _ h2).trans hc))
theorem pt_lconst {z : Fin 2} {c : Int} (hf : aF pc M.2.2.2.2.2.2.2 = some (pc, (.lconst z), len, a, b)) (hc : ((z : Nat) : Int) = c) (k : ∀ x : Int64, x.toInt = c → Pt n X M (pc + 1) l (.long x :: r) h Q) : Pt (n + 1) X M pc l r h Q := pt_1 (fun n d => r_lconst hf rfl) (k _ (by
  subst hc
  match z with
  | 0 => rfl
  | 1 => rfl))
theorem pt_iadd {x y : Int32} (hf : aF pc M.2.2.2.2.2.2.2 = some (pc, .iadd, len, a, b)) (ha : x.toInt = A) (hb : y.toInt = B) (k : ∀ z : Int32, z.toInt = w32 (A + B) → Pt n X M (pc + 1) l (.int z :: r) h Q) : Pt (n + 1) X M pc l (.int y :: .int x :: r) h Q := pt_1 (fun n d => r_iadd hf rfl) (k _ (by rw [t_add, ha, hb]))
theorem pt_isub {x y : Int32} (hf : aF pc M.2.2.2.2.2.2.2 = some (pc, .isub, len, a, b)) (ha : x.toInt = A) (hb : y.toInt = B) (k : ∀ z : Int32, z.toInt = w32 (A - B) → Pt n X M (pc + 1) l (.int z :: r) h Q) : Pt (n + 1) X M pc l (.int y :: .int x :: r) h Q := pt_1 (fun n d => r_isub hf rfl) (k _ (by rw [t_sub, ha, hb]))
theorem pt_imul {x y : Int32} (hf : aF pc M.2.2.2.2.2.2.2 = some (pc, .imul, len, a, b)) (ha : x.toInt = A) (hb : y.toInt = B) (k : ∀ z : Int32, z.toInt = w32 (A * B) → Pt n X M (pc + 1) l (.int z :: r) h Q) : Pt (n + 1) X M pc l (.int y :: .int x :: r) h Q := pt_1 (fun n d => r_imul hf rfl) (k _ (by rw [t_mul, ha, hb]))
theorem pt_iand {x y : Int32} (hf : aF pc M.2.2.2.2.2.2.2 = some (pc, .iand, len, a, b)) (ha : x.toInt = A) (hb : y.toInt = B) (k : ∀ z : Int32, z.toInt = bAnd A B → Pt n X M (pc + 1) l (.int z :: r) h Q) : Pt (n + 1) X M pc l (.int y :: .int x :: r) h Q := pt_1 (fun n d => r_iand hf rfl) (k _ (by subst ha; subst hb; unfold bAnd; rw [oI, oI]))
theorem pt_ior {x y : Int32} (hf : aF pc M.2.2.2.2.2.2.2 = some (pc, .ior, len, a, b)) (ha : x.toInt = A) (hb : y.toInt = B) (k : ∀ z : Int32, z.toInt = bOr A B → Pt n X M (pc + 1) l (.int z :: r) h Q) : Pt (n + 1) X M pc l (.int y :: .int x :: r) h Q := pt_1 (fun n d => r_ior hf rfl) (k _ (by subst ha; subst hb; unfold bOr; rw [oI, oI]))
theorem pt_ixor {x y : Int32} (hf : aF pc M.2.2.2.2.2.2.2 = some (pc, .ixor, len, a, b)) (ha : x.toInt = A) (hb : y.toInt = B) (k : ∀ z : Int32, z.toInt = bXor A B → Pt n X M (pc + 1) l (.int z :: r) h Q) : Pt (n + 1) X M pc l (.int y :: .int x :: r) h Q := pt_1 (fun n d => r_ixor hf rfl) (k _ (by subst ha; subst hb; unfold bXor; rw [oI, oI]))
theorem pt_ishl {x y : Int32} (hf : aF pc M.2.2.2.2.2.2.2 = some (pc, .ishl, len, a, b)) (ha : x.toInt = A) (hb : y.toInt = B) (k : ∀ z : Int32, z.toInt = bShl A B → Pt n X M (pc + 1) l (.int z :: r) h Q) : Pt (n + 1) X M pc l (.int y :: .int x :: r) h Q := pt_1 (fun n d => r_ishl hf rfl) (k _ (by subst ha; subst hb; unfold bShl; rw [oI, oI]))
theorem pt_ishr {x y : Int32} (hf : aF pc M.2.2.2.2.2.2.2 = some (pc, .ishr, len, a, b)) (ha : x.toInt = A) (hb : y.toInt = B) (k : ∀ z : Int32, z.toInt = bShr A B → Pt n X M (pc + 1) l (.int z :: r) h Q) : Pt (n + 1) X M pc l (.int y :: .int x :: r) h Q := pt_1 (fun n d => r_ishr hf rfl) (k _ (by subst ha; subst hb; unfold bShr; rw [oI, oI]))
theorem pt_iushr {x y : Int32} (hf : aF pc M.2.2.2.2.2.2.2 = some (pc, .iushr, len, a, b)) (ha : x.toInt = A) (hb : y.toInt = B) (k : ∀ z : Int32, z.toInt = bUshr A B → Pt n X M (pc + 1) l (.int z :: r) h Q) : Pt (n + 1) X M pc l (.int y :: .int x :: r) h Q := pt_1 (fun n d => r_iushr hf rfl) (k _ (by subst ha; subst hb; unfold bUshr; rw [oI, oI]))
theorem pt_ladd {x y : Int64} (hf : aF pc M.2.2.2.2.2.2.2 = some (pc, .ladd, len, a, b)) (ha : x.toInt = A) (hb : y.toInt = B) (k : ∀ z : Int64, z.toInt = w64 (A + B) → Pt n X M (pc + 1) l (.long z :: r) h Q) : Pt (n + 1) X M pc l (.long y :: .long x :: r) h Q := pt_1 (fun n d => r_ladd hf rfl) (k _ (by rw [u_add, ha, hb]))
theorem pt_lsub {x y : Int64} (hf : aF pc M.2.2.2.2.2.2.2 = some (pc, .lsub, len, a, b)) (ha : x.toInt = A) (hb : y.toInt = B) (k : ∀ z : Int64, z.toInt = w64 (A - B) → Pt n X M (pc + 1) l (.long z :: r) h Q) : Pt (n + 1) X M pc l (.long y :: .long x :: r) h Q := pt_1 (fun n d => r_lsub hf rfl) (k _ (by rw [u_sub, ha, hb]))
theorem pt_lmul {x y : Int64} (hf : aF pc M.2.2.2.2.2.2.2 = some (pc, .lmul, len, a, b)) (ha : x.toInt = A) (hb : y.toInt = B) (k : ∀ z : Int64, z.toInt = w64 (A * B) → Pt n X M (pc + 1) l (.long z :: r) h Q) : Pt (n + 1) X M pc l (.long y :: .long x :: r) h Q := pt_1 (fun n d => r_lmul hf rfl) (k _ (by rw [u_mul, ha, hb]))
theorem pt_idiv {x y : Int32} (hf : aF pc M.2.2.2.2.2.2.2 = some (pc, .idiv, len, a, b)) (ha : x.toInt = A) (hb : y.toInt = B) (k : ∀ z : Int32, z.toInt = iDiv A B → Pt n X M (pc + 1) l (.int z :: r) h Q) : Pt (n + 1) X M pc l (.int y :: .int x :: r) h Q := pt_s fun m hm d v h2 e => by
  rw [arun_p hf rfl] at e
  simp only [aX1, tII] at e
  split at e
  · cases e
  · exact k _ (by subst ha; subst hb; unfold iDiv; simp only [oI]) m hm d v h2 e
theorem pt_irem {x y : Int32} (hf : aF pc M.2.2.2.2.2.2.2 = some (pc, .irem, len, a, b)) (ha : x.toInt = A) (hb : y.toInt = B) (k : ∀ z : Int32, z.toInt = iRem A B → Pt n X M (pc + 1) l (.int z :: r) h Q) : Pt (n + 1) X M pc l (.int y :: .int x :: r) h Q := pt_s fun m hm d v h2 e => by
  rw [arun_p hf rfl] at e
  simp only [aX1, tII] at e
  split at e
  · cases e
  · exact k _ (by subst ha; subst hb; unfold iRem; simp only [oI]) m hm d v h2 e
theorem pt_ldiv {x y : Int64} (hf : aF pc M.2.2.2.2.2.2.2 = some (pc, .ldiv, len, a, b)) (ha : x.toInt = A) (hb : y.toInt = B) (k : ∀ z : Int64, z.toInt = jDiv A B → Pt n X M (pc + 1) l (.long z :: r) h Q) : Pt (n + 1) X M pc l (.long y :: .long x :: r) h Q := pt_s fun m hm d v h2 e => by
  rw [arun_p hf rfl] at e
  simp only [aX1, tJJ] at e
  split at e
  · cases e
  · exact k _ (by subst ha; subst hb; unfold jDiv; simp only [oJ]) m hm d v h2 e
theorem pt_lrem {x y : Int64} (hf : aF pc M.2.2.2.2.2.2.2 = some (pc, .lrem, len, a, b)) (ha : x.toInt = A) (hb : y.toInt = B) (k : ∀ z : Int64, z.toInt = jRem A B → Pt n X M (pc + 1) l (.long z :: r) h Q) : Pt (n + 1) X M pc l (.long y :: .long x :: r) h Q := pt_s fun m hm d v h2 e => by
  rw [arun_p hf rfl] at e
  simp only [aX1, tJJ] at e
  split at e
  · cases e
  · exact k _ (by subst ha; subst hb; unfold jRem; simp only [oJ]) m hm d v h2 e
theorem pt_ineg {x : Int32} (hf : aF pc M.2.2.2.2.2.2.2 = some (pc, .ineg, len, a, b)) (ha : x.toInt = A) (k : ∀ z : Int32, z.toInt = w32 (-A) → Pt n X M (pc + 1) l (.int z :: r) h Q) : Pt (n + 1) X M pc l (.int x :: r) h Q := pt_1 (fun n d => r_ineg hf rfl) (k _ (by rw [t_neg, ha]))
theorem pt_i2l {x : Int32} (hf : aF pc M.2.2.2.2.2.2.2 = some (pc, .i2l, len, a, b)) (ha : x.toInt = A) (k : ∀ z : Int64, z.toInt = A → Pt n X M (pc + 1) l (.long z :: r) h Q) : Pt (n + 1) X M pc l (.int x :: r) h Q := pt_1 (fun n d => r_i2l hf rfl) (k _ (by rw [Int32.toInt_toInt64, ha]))
theorem pt_l2i {x : Int64} (hf : aF pc M.2.2.2.2.2.2.2 = some (pc, .l2i, len, a, b)) (ha : x.toInt = A) (k : ∀ z : Int32, z.toInt = w32 A → Pt n X M (pc + 1) l (.int z :: r) h Q) : Pt (n + 1) X M pc l (.long x :: r) h Q := pt_1 (fun n d => r_l2i hf rfl) (k _ (by rw [Int64.toInt_toInt32, w32_b, ha]))
def bChr (a : Int) : Int := ((Int32.ofInt a).toUInt32 % 65536).toInt32.toInt
theorem pt_i2c {x : Int32} (hf : aF pc M.2.2.2.2.2.2.2 = some (pc, .i2c, len, a, b)) (ha : x.toInt = A) (k : ∀ z : Int32, z.toInt = bChr A → Pt n X M (pc + 1) l (.int z :: r) h Q) : Pt (n + 1) X M pc l (.int x :: r) h Q := pt_1 (fun n d => r_i2c hf rfl) (k _ (by subst ha; unfold bChr; rw [oI]))
theorem pt_iinc {z : Nat} {c : Int} {x : Int32} (hf : aF pc M.2.2.2.2.2.2.2 = some (pc, (.iinc z c), len, a, b)) (hg : aG l z = some (.int x)) (ha : x.toInt = A) (k : ∀ (v : Int32), v.toInt = w32 (A + c) → Pt n X M (pc + 3) (aS1 l z (.int v)) r h Q) (h3 : -32768 ≤ c := by decide) (h4 : c ≤ 32767 := by decide) : Pt (n + 1) X M pc l r h Q := pt_1 (fun n d => r_iinc hf hg rfl rfl) (k _ (by rw [t_add, toInt_c h3 h4, ha]))
theorem pt_icmp {c : Jvm.ClassFile.Cond} {off : Int} {x y : Int32} (hf : aF pc M.2.2.2.2.2.2.2 = some (pc, (.if_icmp c off), len, a, b)) (ha : x.toInt = A) (hb : y.toInt = B) (k1 : dBr c A B = true → Pt n X M a l r h Q) (k2 : dBr c A B = false → Pt n X M (pc + 3) l r h Q) : Pt (n + 1) X M pc l (.int y :: .int x :: r) h Q := by
  subst ha
  subst hb
  cases e : dBr c x.toInt y.toInt with
  | true => exact pt_1 (fun n d => by rw [r_cmp hf, e]; rfl) (k1 e)
  | false => exact pt_1 (fun n d => by rw [r_cmp hf, e]; rfl) (k2 e)
theorem pt_if {c : Jvm.ClassFile.Cond} {off : Int} {x : Int32} (hf : aF pc M.2.2.2.2.2.2.2 = some (pc, (.ifCond c off), len, a, b)) (ha : x.toInt = A) (k1 : dBr c A 0 = true → Pt n X M a l r h Q) (k2 : dBr c A 0 = false → Pt n X M (pc + 3) l r h Q) : Pt (n + 1) X M pc l (.int x :: r) h Q := by
  subst ha
  cases e : dBr c x.toInt 0 with
  | true => exact pt_1 (fun n d => by rw [r_cond hf, e]; rfl) (k1 e)
  | false => exact pt_1 (fun n d => by rw [r_cond hf, e]; rfl) (k2 e)
theorem pt_icmp_eq {off : Int} {x y : Int32} (hf : aF pc M.2.2.2.2.2.2.2 = some (pc, (.if_icmp .eq off), len, a, b)) (ha : x.toInt = A) (hb : y.toInt = B) (k1 : A = B → Pt n X M a l r h Q) (k2 : A ≠ B → Pt n X M (pc + 3) l r h Q) : Pt (n + 1) X M pc l (.int y :: .int x :: r) h Q := pt_icmp hf ha hb (fun e => k1 (dBr_t (c := .eq) e)) (fun e => k2 (dBr_f (c := .eq) e))
theorem pt_if_eq {off : Int} {x : Int32} (hf : aF pc M.2.2.2.2.2.2.2 = some (pc, (.ifCond .eq off), len, a, b)) (ha : x.toInt = A) (k1 : A = 0 → Pt n X M a l r h Q) (k2 : A ≠ 0 → Pt n X M (pc + 3) l r h Q) : Pt (n + 1) X M pc l (.int x :: r) h Q := pt_if hf ha (fun e => k1 (dBr_t (c := .eq) e)) (fun e => k2 (dBr_f (c := .eq) e))
theorem pt_lcmp_eq {off : Int} {len2 a2 b2 : Nat} {x y : Int64} (hf : aF pc M.2.2.2.2.2.2.2 = some (pc, .lcmp, len, a, b)) (hg : aF (pc + 1) M.2.2.2.2.2.2.2 = some (pc + 1, (.ifCond .eq off), len2, a2, b2)) (ha : x.toInt = A) (hb : y.toInt = B) (k1 : A = B → Pt n X M a2 l r h Q) (k2 : A ≠ B → Pt n X M (pc + 1 + 3) l r h Q) : Pt (n + 1) X M pc l (.long y :: .long x :: r) h Q := pt_1 (fun n d => r_lcmp hf rfl) (pt_d (pt_if hg rfl (fun e => k1 (by subst ha; subst hb; exact dBr_t (c := .eq) (by rw [← dBr_lcmp]; exact e))) (fun e => k2 (by subst ha; subst hb; exact dBr_f (c := .eq) (by rw [← dBr_lcmp]; exact e)))))
theorem pt_icmp_ne {off : Int} {x y : Int32} (hf : aF pc M.2.2.2.2.2.2.2 = some (pc, (.if_icmp .ne off), len, a, b)) (ha : x.toInt = A) (hb : y.toInt = B) (k1 : A ≠ B → Pt n X M a l r h Q) (k2 : A = B → Pt n X M (pc + 3) l r h Q) : Pt (n + 1) X M pc l (.int y :: .int x :: r) h Q := pt_icmp hf ha hb (fun e => k1 (dBr_t (c := .ne) e)) (fun e => k2 (dBr_f (c := .ne) e))
theorem pt_if_ne {off : Int} {x : Int32} (hf : aF pc M.2.2.2.2.2.2.2 = some (pc, (.ifCond .ne off), len, a, b)) (ha : x.toInt = A) (k1 : A ≠ 0 → Pt n X M a l r h Q) (k2 : A = 0 → Pt n X M (pc + 3) l r h Q) : Pt (n + 1) X M pc l (.int x :: r) h Q := pt_if hf ha (fun e => k1 (dBr_t (c := .ne) e)) (fun e => k2 (dBr_f (c := .ne) e))
theorem pt_lcmp_ne {off : Int} {len2 a2 b2 : Nat} {x y : Int64} (hf : aF pc M.2.2.2.2.2.2.2 = some (pc, .lcmp, len, a, b)) (hg : aF (pc + 1) M.2.2.2.2.2.2.2 = some (pc + 1, (.ifCond .ne off), len2, a2, b2)) (ha : x.toInt = A) (hb : y.toInt = B) (k1 : A ≠ B → Pt n X M a2 l r h Q) (k2 : A = B → Pt n X M (pc + 1 + 3) l r h Q) : Pt (n + 1) X M pc l (.long y :: .long x :: r) h Q := pt_1 (fun n d => r_lcmp hf rfl) (pt_d (pt_if hg rfl (fun e => k1 (by subst ha; subst hb; exact dBr_t (c := .ne) (by rw [← dBr_lcmp]; exact e))) (fun e => k2 (by subst ha; subst hb; exact dBr_f (c := .ne) (by rw [← dBr_lcmp]; exact e)))))
theorem pt_icmp_lt {off : Int} {x y : Int32} (hf : aF pc M.2.2.2.2.2.2.2 = some (pc, (.if_icmp .lt off), len, a, b)) (ha : x.toInt = A) (hb : y.toInt = B) (k1 : A < B → Pt n X M a l r h Q) (k2 : B ≤ A → Pt n X M (pc + 3) l r h Q) : Pt (n + 1) X M pc l (.int y :: .int x :: r) h Q := pt_icmp hf ha hb (fun e => k1 (dBr_t (c := .lt) e)) (fun e => k2 (dBr_f (c := .lt) e))
theorem pt_if_lt {off : Int} {x : Int32} (hf : aF pc M.2.2.2.2.2.2.2 = some (pc, (.ifCond .lt off), len, a, b)) (ha : x.toInt = A) (k1 : A < 0 → Pt n X M a l r h Q) (k2 : 0 ≤ A → Pt n X M (pc + 3) l r h Q) : Pt (n + 1) X M pc l (.int x :: r) h Q := pt_if hf ha (fun e => k1 (dBr_t (c := .lt) e)) (fun e => k2 (dBr_f (c := .lt) e))
theorem pt_icmp_ge {off : Int} {x y : Int32} (hf : aF pc M.2.2.2.2.2.2.2 = some (pc, (.if_icmp .ge off), len, a, b)) (ha : x.toInt = A) (hb : y.toInt = B) (k1 : B ≤ A → Pt n X M a l r h Q) (k2 : A < B → Pt n X M (pc + 3) l r h Q) : Pt (n + 1) X M pc l (.int y :: .int x :: r) h Q := pt_icmp hf ha hb (fun e => k1 (dBr_t (c := .ge) e)) (fun e => k2 (dBr_f (c := .ge) e))
theorem pt_if_ge {off : Int} {x : Int32} (hf : aF pc M.2.2.2.2.2.2.2 = some (pc, (.ifCond .ge off), len, a, b)) (ha : x.toInt = A) (k1 : 0 ≤ A → Pt n X M a l r h Q) (k2 : A < 0 → Pt n X M (pc + 3) l r h Q) : Pt (n + 1) X M pc l (.int x :: r) h Q := pt_if hf ha (fun e => k1 (dBr_t (c := .ge) e)) (fun e => k2 (dBr_f (c := .ge) e))
theorem pt_lcmp_ge {off : Int} {len2 a2 b2 : Nat} {x y : Int64} (hf : aF pc M.2.2.2.2.2.2.2 = some (pc, .lcmp, len, a, b)) (hg : aF (pc + 1) M.2.2.2.2.2.2.2 = some (pc + 1, (.ifCond .ge off), len2, a2, b2)) (ha : x.toInt = A) (hb : y.toInt = B) (k1 : B ≤ A → Pt n X M a2 l r h Q) (k2 : A < B → Pt n X M (pc + 1 + 3) l r h Q) : Pt (n + 1) X M pc l (.long y :: .long x :: r) h Q := pt_1 (fun n d => r_lcmp hf rfl) (pt_d (pt_if hg rfl (fun e => k1 (by subst ha; subst hb; exact dBr_t (c := .ge) (by rw [← dBr_lcmp]; exact e))) (fun e => k2 (by subst ha; subst hb; exact dBr_f (c := .ge) (by rw [← dBr_lcmp]; exact e)))))
theorem pt_icmp_gt {off : Int} {x y : Int32} (hf : aF pc M.2.2.2.2.2.2.2 = some (pc, (.if_icmp .gt off), len, a, b)) (ha : x.toInt = A) (hb : y.toInt = B) (k1 : B < A → Pt n X M a l r h Q) (k2 : A ≤ B → Pt n X M (pc + 3) l r h Q) : Pt (n + 1) X M pc l (.int y :: .int x :: r) h Q := pt_icmp hf ha hb (fun e => k1 (dBr_t (c := .gt) e)) (fun e => k2 (dBr_f (c := .gt) e))
theorem pt_lcmp_gt {off : Int} {len2 a2 b2 : Nat} {x y : Int64} (hf : aF pc M.2.2.2.2.2.2.2 = some (pc, .lcmp, len, a, b)) (hg : aF (pc + 1) M.2.2.2.2.2.2.2 = some (pc + 1, (.ifCond .gt off), len2, a2, b2)) (ha : x.toInt = A) (hb : y.toInt = B) (k1 : B < A → Pt n X M a2 l r h Q) (k2 : A ≤ B → Pt n X M (pc + 1 + 3) l r h Q) : Pt (n + 1) X M pc l (.long y :: .long x :: r) h Q := pt_1 (fun n d => r_lcmp hf rfl) (pt_d (pt_if hg rfl (fun e => k1 (by subst ha; subst hb; exact dBr_t (c := .gt) (by rw [← dBr_lcmp]; exact e))) (fun e => k2 (by subst ha; subst hb; exact dBr_f (c := .gt) (by rw [← dBr_lcmp]; exact e)))))
theorem pt_icmp_le {off : Int} {x y : Int32} (hf : aF pc M.2.2.2.2.2.2.2 = some (pc, (.if_icmp .le off), len, a, b)) (ha : x.toInt = A) (hb : y.toInt = B) (k1 : A ≤ B → Pt n X M a l r h Q) (k2 : B < A → Pt n X M (pc + 3) l r h Q) : Pt (n + 1) X M pc l (.int y :: .int x :: r) h Q := pt_icmp hf ha hb (fun e => k1 (dBr_t (c := .le) e)) (fun e => k2 (dBr_f (c := .le) e))
theorem pt_if_le {off : Int} {x : Int32} (hf : aF pc M.2.2.2.2.2.2.2 = some (pc, (.ifCond .le off), len, a, b)) (ha : x.toInt = A) (k1 : A ≤ 0 → Pt n X M a l r h Q) (k2 : 0 < A → Pt n X M (pc + 3) l r h Q) : Pt (n + 1) X M pc l (.int x :: r) h Q := pt_if hf ha (fun e => k1 (dBr_t (c := .le) e)) (fun e => k2 (dBr_f (c := .le) e))
theorem pt_lcmp_le {off : Int} {len2 a2 b2 : Nat} {x y : Int64} (hf : aF pc M.2.2.2.2.2.2.2 = some (pc, .lcmp, len, a, b)) (hg : aF (pc + 1) M.2.2.2.2.2.2.2 = some (pc + 1, (.ifCond .le off), len2, a2, b2)) (ha : x.toInt = A) (hb : y.toInt = B) (k1 : A ≤ B → Pt n X M a2 l r h Q) (k2 : B < A → Pt n X M (pc + 1 + 3) l r h Q) : Pt (n + 1) X M pc l (.long y :: .long x :: r) h Q := pt_1 (fun n d => r_lcmp hf rfl) (pt_d (pt_if hg rfl (fun e => k1 (by subst ha; subst hb; exact dBr_t (c := .le) (by rw [← dBr_lcmp]; exact e))) (fun e => k2 (by subst ha; subst hb; exact dBr_f (c := .le) (by rw [← dBr_lcmp]; exact e)))))
theorem pt_ifB_eq {off : Int} {x : Int32} {C : Prop} (hf : aF pc M.2.2.2.2.2.2.2 = some (pc, (.ifCond .eq off), len, a, b)) (ha : x.toInt = bI C) (k1 : ¬ C → Pt n X M a l r h Q) (k2 : C → Pt n X M (pc + 3) l r h Q) : Pt (n + 1) X M pc l (.int x :: r) h Q := pt_if_eq hf ha (fun e => k1 (bI_0.mp e)) (fun e => k2 (Classical.byContradiction (fun q => e (bI_0.mpr q))))
theorem pt_ifB_ne {off : Int} {x : Int32} {C : Prop} (hf : aF pc M.2.2.2.2.2.2.2 = some (pc, (.ifCond .ne off), len, a, b)) (ha : x.toInt = bI C) (k1 : C → Pt n X M a l r h Q) (k2 : ¬ C → Pt n X M (pc + 3) l r h Q) : Pt (n + 1) X M pc l (.int x :: r) h Q := pt_if_ne hf ha (fun e => k1 (Classical.byContradiction (fun q => e (bI_0.mpr q)))) (fun e => k2 (bI_0.mp e))
def Pa (n : Nat) (X : aX) (M : aM) (pc : Nat) (l : aL) (r : List Value) (h : aH) (Q : Option Value → aH → Prop) (x : Int32) (dd lo : Int) (os : List Int) : Prop := ∀ m, m ≤ n → ∀ d v h', asw x (fun q => arun X m d M ((pc : Int) + q).toNat l r h) dd lo os = some (v, h') → Q v h'
theorem pa_0 {x : Int32} {dd lo : Int} {p : Nat} (k : Pt n X M p l r h Q) (hp : ((pc : Int) + dd).toNat = p := by rfl) : Pa n X M pc l r h Q x dd lo [] := fun m hm d v h2 e => k m hm d v h2 (by subst hp; exact e)
theorem pa_c {x : Int32} {dd lo lo' o : Int} {os : List Int} {p : Nat} (ha : x.toInt = A) (k1 : A = lo → Pt n X M p l r h Q) (k2 : A ≠ lo → Pa n X M pc l r h Q x dd lo' os) (hp : ((pc : Int) + o).toNat = p := by rfl) (hl : lo + 1 = lo' := by rfl) (h1 : -2147483648 ≤ lo := by decide) (h2 : lo ≤ 2147483647 := by decide) : Pa n X M pc l r h Q x dd lo (o :: os) := fun m hm d v h3 e => by
  have el : (Int32.ofInt lo).toInt = lo := Int32.toInt_ofInt_of_le (by omega) (by omega)
  unfold asw at e
  split at e
  · rename_i q
    subst hp
    exact k1 (by rw [← ha, q, el]) m hm d v h3 e
  · rename_i q
    subst hl
    exact k2 (fun z => q (b_i.mpr (by rw [el, ha, z]))) m hm d v h3 e
theorem pt_tsw {x : Int32} {dd lo hi : Int} {os : Array Int} (hf : aF pc M.2.2.2.2.2.2.2 = some (pc, (.tableswitch dd lo hi os), len, a, b)) (k : Pa n X M pc l r h Q x dd lo os.toList) : Pt (n + 1) X M pc l (.int x :: r) h Q := pt_s fun m hm d v h2 e => k m hm d v h2 ((r_tsw hf).symm.trans e)
def Pb (n : Nat) (X : aX) (M : aM) (pc : Nat) (l : aL) (r : List Value) (h : aH) (Q : Option Value → aH → Prop) (x : Int32) (dd : Int) (os : List (Int × Int)) : Prop := ∀ m, m ≤ n → ∀ d v h', alw x (fun q => arun X m d M ((pc : Int) + q).toNat l r h) dd os = some (v, h') → Q v h'
theorem pb_0 {x : Int32} {dd : Int} {p : Nat} (k : Pt n X M p l r h Q) (hp : ((pc : Int) + dd).toNat = p := by rfl) : Pb n X M pc l r h Q x dd [] := fun m hm d v h2 e => k m hm d v h2 (by subst hp; exact e)
theorem pb_c {x : Int32} {dd lo o : Int} {os : List (Int × Int)} {p : Nat} (ha : x.toInt = A) (k1 : A = lo → Pt n X M p l r h Q) (k2 : A ≠ lo → Pb n X M pc l r h Q x dd os) (hp : ((pc : Int) + o).toNat = p := by rfl) (h1 : -2147483648 ≤ lo := by decide) (h2 : lo ≤ 2147483647 := by decide) : Pb n X M pc l r h Q x dd ((lo, o) :: os) := fun m hm d v h3 e => by
  have el : (Int32.ofInt lo).toInt = lo := Int32.toInt_ofInt_of_le (by omega) (by omega)
  unfold alw at e
  split at e
  · rename_i q
    subst hp
    exact k1 (by rw [← ha, q, el]) m hm d v h3 e
  · rename_i q
    exact k2 (fun z => q (b_i.mpr (by rw [el, ha, z]))) m hm d v h3 e
theorem pt_lsw {x : Int32} {dd : Int} {ps : Array (Int × Int)} (hf : aF pc M.2.2.2.2.2.2.2 = some (pc, (.lookupswitch dd ps), len, a, b)) (k : Pb n X M pc l r h Q x dd ps.toList) : Pt (n + 1) X M pc l (.int x :: r) h Q := pt_s fun m hm d v h2 e => k m hm d v h2 ((r_lsw hf).symm.trans e)
theorem i_get {ix o m d : Nat} {z : aR} (hf : aF pc M.2.2.2.2.2.2.2 = some (pc, (.getfield ix), len, a, b)) (e : arun X (m + 1) d M pc l (.ref o :: r) h = some z) : ∃ (fs : List Value) (v : Value), h.1[o]? = some (.inr (a, fs)) ∧ fs[b]? = some v ∧ arun X m d M (pc + 3) l (v :: r) h = some z := by
  rw [arun_p hf rfl] at e
  simp only [aX1, aobj] at e
  split at e
  · rename_i ci fs hc
    cases hb : Nat.beq ci a with
    | false => simp only [hb, cond_false] at e; cases e
    | true =>
      simp only [hb, cond_true] at e
      rw [Nat.eq_of_beq_eq_true hb] at hc
      split at e
      · rename_i v hv
        exact ⟨fs, v, hc, hv, e⟩
      · cases e
  · cases e
def iY (a b : Nat) : Bool := match zY a b with
  | .int => true
  | .boolean => true
  | _ => false
def rY (a b : Nat) : Bool := match zY a b with
  | .object _ => true
  | .array _ => true
  | _ => false
theorem iY_v {v : Value} (h : iY a b = true) (k : aok (zY a b) v = true) : ∃ x : Int32, v = .int x := by
  unfold iY at h
  split at h
  · rename_i e
    rw [e] at k
    cases v <;> first | exact ⟨_, rfl⟩ | cases k
  · rename_i e
    rw [e] at k
    cases v <;> first | exact ⟨_, rfl⟩ | cases k
  · cases h
theorem rY_v {v : Value} (h : rY a b = true) (k : aok (zY a b) v = true) : v = .null ∨ ∃ x : Nat, v = .ref x := by
  unfold rY at h
  split at h
  · rename_i e
    rw [e] at k
    cases v <;> first | exact Or.inl rfl | exact Or.inr ⟨_, rfl⟩ | cases k
  · rename_i e
    rw [e] at k
    cases v <;> first | exact Or.inl rfl | exact Or.inr ⟨_, rfl⟩ | cases k
  · cases h
theorem pt_getI {ix o : Nat} (hf : aF pc M.2.2.2.2.2.2.2 = some (pc, (.getfield ix), len, a, b)) (S : wS h) (k : ∀ x : Int32, x.toInt = vw h o B → Pt n X M (pc + 3) l (.int x :: r) h Q) (hB : ((b : Nat) : Int) = B := by rfl) (hy : iY a b = true := by decide +kernel) : Pt (n + 1) X M pc l (.ref o :: r) h Q := pt_s fun m hm d v h2 e => by
  obtain ⟨fs, v1, e1, e2, e3⟩ := i_get hf e
  obtain ⟨x, rfl⟩ := iY_v hy (S.1 _ _ _ _ _ e1 e2)
  exact k x (by rw [← hB, vw_o e1 e2]; rfl) m hm d v h2 e3
theorem pt_getR {ix o q : Nat} (hf : aF pc M.2.2.2.2.2.2.2 = some (pc, (.getfield ix), len, a, b)) (S : wS h) (tk : tkR o b q = true) (k : Pt n X M (pc + 3) l (.ref q :: r) h Q) : Pt (n + 1) X M pc l (.ref o :: r) h Q := pt_s fun m hm d v h2 e => by
  obtain ⟨fs, v1, e1, e2, e3⟩ := i_get hf e
  obtain ⟨ci, fs', c1, c2⟩ := S.2.1 _ _ _ tk
  rw [e1] at c1
  cases c1
  rw [e2] at c2
  cases c2
  exact k m hm d v h2 e3
theorem pt_getD {ix o : Nat} (hf : aF pc M.2.2.2.2.2.2.2 = some (pc, (.getfield ix), len, a, b)) (S : wS h) (k0 : vw h o B = -1 → Pt n X M (pc + 3) l (.null :: r) h Q) (k : ∀ q : Nat, (q : Int) = vw h o B → Pt n X M (pc + 3) l (.ref q :: r) h Q) (hB : ((b : Nat) : Int) = B := by rfl) (hy : rY a b = true := by decide +kernel) : Pt (n + 1) X M pc l (.ref o :: r) h Q := pt_s fun m hm d v h2 e => by
  obtain ⟨fs, v1, e1, e2, e3⟩ := i_get hf e
  rcases rY_v hy (S.1 _ _ _ _ _ e1 e2) with rfl | ⟨x, rfl⟩
  · exact k0 (by rw [← hB, vw_o e1 e2]; rfl) m hm d v h2 e3
  · exact k x (by rw [← hB, vw_o e1 e2]; rfl) m hm d v h2 e3
theorem i_put {ix o m d : Nat} {z : aR} {x : Value} (hf : aF pc M.2.2.2.2.2.2.2 = some (pc, (.putfield ix), len, a, b)) (e : arun X (m + 1) d M pc l (x :: .ref o :: r) h = some z) : ∃ (fs : List Value), h.1[o]? = some (.inr (a, fs)) ∧ aok (zY a b) x = true ∧ b < fs.length ∧ arun X m d M (pc + 3) l r (h.1.set o (.inr (a, fs.set b x)), h.2) = some z := by
  rw [arun_p hf rfl] at e
  simp only [aX1, aobj] at e
  split at e
  · rename_i ci fs hc
    cases hb : Nat.beq ci a with
    | false => simp only [hb, cond_false] at e; cases e
    | true =>
      simp only [hb, cond_true] at e
      rw [Nat.eq_of_beq_eq_true hb] at hc
      cases hq : ((!(zT a b).2.2.2 || Nat.beq M.2.2.2.2.2.2.1 2 && Nat.beq M.1 a) && aok (zY a b) x && Nat.blt b fs.length) with
      | false => rw [hq] at e; cases e
      | true =>
        rw [hq] at e
        simp only [cond_true] at e
        simp only [Bool.and_eq_true, Nat.blt_eq] at hq
        exact ⟨fs, hc, hq.1.2, hq.2, e⟩
  · cases e
theorem pt_putI {ix o : Nat} {x : Int32} (hf : aF pc M.2.2.2.2.2.2.2 = some (pc, (.putfield ix), len, a, b)) (S : wS h) (ha : x.toInt = A) (k : ∀ h', wS h' → vw h' = up (vw h) o B A → Pt n X M (pc + 3) l r h' Q) (hB : ((b : Nat) : Int) = B := by rfl) (tn : tkN o b = true := by decide +kernel) : Pt (n + 1) X M pc l (.int x :: .ref o :: r) h Q := pt_s fun m hm d v h2 e => by
  obtain ⟨fs, e1, e2, e3, e4⟩ := i_put hf e
  exact k _ (wS_obj S e1 e2 (tkN_R tn)) (by rw [vw_obj e1 e3, ← hB, ← ha]; rfl) m hm d v h2 e4
theorem ix_in {j : Int32} {N : Nat} (h : ¬ (j < 0 ∨ N ≤ j.toNatClampNeg)) : 0 ≤ j.toInt ∧ j.toInt < (N : Int) := by
  rw [Int32.lt_iff_toInt_lt, i_zero, ← Int32.toNat_toInt] at h
  omega
theorem tk_n {o t N t' N' : Nat} {y : (Nat → Int32) ⊕ (Nat → Int64) ⊕ (Nat → UInt32) ⊕ (Nat → UInt64) ⊕ (Nat → Option Nat)} (S : wS h) (tk : tkL o t N = true) (c : h.1[o]? = some (.inl (t', N', y))) : t' = t ∧ N' = N := by
  have := S.2.2 _ _ _ tk
  unfold tyA at this
  rw [c] at this
  cases this
  exact ⟨rfl, rfl⟩
theorem i_iald {o m d : Nat} {j : Int32} {z : aR} (hf : aF pc M.2.2.2.2.2.2.2 = some (pc, .iaload, len, a, b)) (e : arun X (m + 1) d M pc l (.int j :: .ref o :: r) h = some z) : ∃ (t N : Nat) (g : Nat → Int32), h.1[o]? = some (.inl (t, N, .inl g)) ∧ 0 ≤ j.toInt ∧ j.toInt < (N : Int) ∧ arun X m d M (pc + 1) l (.int (g j.toInt.toNat) :: r) h = some z := by
  rw [arun_p hf rfl] at e
  simp only [aX1, aarI] at e
  split at e
  · rename_i t N g hc
    cases ht : Nat.beq t 0 with
    | false => simp only [ht, cond_false] at e; cases e
    | true =>
      simp only [ht, cond_true] at e
      split at e
      · cases e
      · rename_i hj
        obtain ⟨q1, q2⟩ := ix_in hj
        rw [← Int32.toNat_toInt] at e
        exact ⟨t, N, g, hc, q1, q2, e⟩
  · cases e
theorem pt_iald {o N : Nat} {N' : Int} {j : Int32} (hf : aF pc M.2.2.2.2.2.2.2 = some (pc, .iaload, len, a, b)) (S : wS h) (tk : tkL o 0 N = true) (ha : j.toInt = A) (k : ∀ x : Int32, 0 ≤ A → A < N' → x.toInt = vw h o A → Pt n X M (pc + 1) l (.int x :: r) h Q) (hN : ((N : Nat) : Int) = N' := by rfl) : Pt (n + 1) X M pc l (.int j :: .ref o :: r) h Q := pt_s fun m hm d v h2 e => by
  obtain ⟨t, N0, g, e1, e2, e3, e4⟩ := i_iald hf e
  obtain ⟨-, rfl⟩ := tk_n S tk e1
  subst ha
  exact k _ e2 (by omega) (by rw [vw_a e1 e2]; rfl) m hm d v h2 e4
theorem pt_ialdD {o : Nat} {j : Int32} (hf : aF pc M.2.2.2.2.2.2.2 = some (pc, .iaload, len, a, b)) (ha : j.toInt = A) (k : ∀ x : Int32, 0 ≤ A → x.toInt = vw h o A → Pt n X M (pc + 1) l (.int x :: r) h Q) : Pt (n + 1) X M pc l (.int j :: .ref o :: r) h Q := pt_s fun m hm d v h2 e => by
  obtain ⟨t, N0, g, e1, e2, e3, e4⟩ := i_iald hf e
  subst ha
  exact k _ e2 (by rw [vw_a e1 e2]; rfl) m hm d v h2 e4
theorem i_bald {o m d : Nat} {j : Int32} {z : aR} (hf : aF pc M.2.2.2.2.2.2.2 = some (pc, .baload, len, a, b)) (e : arun X (m + 1) d M pc l (.int j :: .ref o :: r) h = some z) : ∃ (t N : Nat) (g : Nat → Int32), h.1[o]? = some (.inl (t, N, .inl g)) ∧ 0 ≤ j.toInt ∧ j.toInt < (N : Int) ∧ arun X m d M (pc + 1) l (.int (g j.toInt.toNat) :: r) h = some z := by
  rw [arun_p hf rfl] at e
  simp only [aX1, aarI] at e
  split at e
  · rename_i t N g hc
    cases ht : (Nat.beq t 2 || Nat.beq t 3) with
    | false => simp only [ht, cond_false] at e; cases e
    | true =>
      simp only [ht, cond_true] at e
      split at e
      · cases e
      · rename_i hj
        obtain ⟨q1, q2⟩ := ix_in hj
        rw [← Int32.toNat_toInt] at e
        exact ⟨t, N, g, hc, q1, q2, e⟩
  · cases e
theorem pt_zald {o N : Nat} {N' : Int} {j : Int32} (hf : aF pc M.2.2.2.2.2.2.2 = some (pc, .baload, len, a, b)) (S : wS h) (tk : tkL o 2 N = true) (ha : j.toInt = A) (k : ∀ x : Int32, 0 ≤ A → A < N' → x.toInt = vw h o A → Pt n X M (pc + 1) l (.int x :: r) h Q) (hN : ((N : Nat) : Int) = N' := by rfl) : Pt (n + 1) X M pc l (.int j :: .ref o :: r) h Q := pt_s fun m hm d v h2 e => by
  obtain ⟨t, N0, g, e1, e2, e3, e4⟩ := i_bald hf e
  obtain ⟨-, rfl⟩ := tk_n S tk e1
  subst ha
  exact k _ e2 (by omega) (by rw [vw_a e1 e2]; rfl) m hm d v h2 e4
theorem pt_bald {o N : Nat} {N' : Int} {j : Int32} (hf : aF pc M.2.2.2.2.2.2.2 = some (pc, .baload, len, a, b)) (S : wS h) (tk : tkL o 3 N = true) (ha : j.toInt = A) (k : ∀ x : Int32, 0 ≤ A → A < N' → x.toInt = vw h o A → Pt n X M (pc + 1) l (.int x :: r) h Q) (hN : ((N : Nat) : Int) = N' := by rfl) : Pt (n + 1) X M pc l (.int j :: .ref o :: r) h Q := pt_s fun m hm d v h2 e => by
  obtain ⟨t, N0, g, e1, e2, e3, e4⟩ := i_bald hf e
  obtain ⟨-, rfl⟩ := tk_n S tk e1
  subst ha
  exact k _ e2 (by omega) (by rw [vw_a e1 e2]; rfl) m hm d v h2 e4
theorem i_lald {o m d : Nat} {j : Int32} {z : aR} (hf : aF pc M.2.2.2.2.2.2.2 = some (pc, .laload, len, a, b)) (e : arun X (m + 1) d M pc l (.int j :: .ref o :: r) h = some z) : ∃ (t N : Nat) (g : Nat → Int64), h.1[o]? = some (.inl (t, N, .inr (.inl g))) ∧ 0 ≤ j.toInt ∧ j.toInt < (N : Int) ∧ arun X m d M (pc + 1) l (.long (g j.toInt.toNat) :: r) h = some z := by
  rw [arun_p hf rfl] at e
  simp only [aX1, aarJ] at e
  split at e
  · rename_i N g hc
    split at e
    · cases e
    · rename_i hj
      obtain ⟨q1, q2⟩ := ix_in hj
      rw [← Int32.toNat_toInt] at e
      exact ⟨1, N, g, hc, q1, q2, e⟩
  · cases e
theorem pt_lald {o N : Nat} {N' : Int} {j : Int32} (hf : aF pc M.2.2.2.2.2.2.2 = some (pc, .laload, len, a, b)) (S : wS h) (tk : tkL o 1 N = true) (ha : j.toInt = A) (k : ∀ x : Int64, 0 ≤ A → A < N' → x.toInt = vw h o A → Pt n X M (pc + 1) l (.long x :: r) h Q) (hN : ((N : Nat) : Int) = N' := by rfl) : Pt (n + 1) X M pc l (.int j :: .ref o :: r) h Q := pt_s fun m hm d v h2 e => by
  obtain ⟨t, N0, g, e1, e2, e3, e4⟩ := i_lald hf e
  obtain ⟨-, rfl⟩ := tk_n S tk e1
  subst ha
  exact k _ e2 (by omega) (by rw [vw_a e1 e2]; rfl) m hm d v h2 e4
theorem i_iast {o m d : Nat} {j x : Int32} {z : aR} (hf : aF pc M.2.2.2.2.2.2.2 = some (pc, .iastore, len, a, b)) (e : arun X (m + 1) d M pc l (.int x :: .int j :: .ref o :: r) h = some z) : ∃ (N : Nat) (g : Nat → Int32), h.1[o]? = some (.inl (0, N, .inl g)) ∧ 0 ≤ j.toInt ∧ j.toInt < (N : Int) ∧ arun X m d M (pc + 1) l r (h.1.set o (.inl (0, N, .inl (upd g j.toInt.toNat x))), h.2) = some z := by
  rw [arun_p hf rfl] at e
  simp only [aX1, aarI] at e
  split at e
  · rename_i t N g hc
    cases ht : Nat.beq t 0 with
    | false => simp only [ht, cond_false] at e; cases e
    | true =>
      simp only [ht, cond_true] at e
      rw [Nat.eq_of_beq_eq_true ht] at hc
      split at e
      · cases e
      · rename_i hj
        obtain ⟨q1, q2⟩ := ix_in hj
        rw [← Int32.toNat_toInt] at e
        exact ⟨N, g, hc, q1, q2, e⟩
  · cases e
theorem vA_upd {g : Nat → Int32} {j x : Int32} {A B : Int} (ha : j.toInt = A) (hb : x.toInt = B) : ∀ k : Nat, vA (.inl (upd g j.toInt.toNat x)) k = if k = A.toNat then B else vA (.inl g) k := by
  subst ha
  subst hb
  intro k
  unfold vA upd
  dsimp only
  split
  · rfl
  · rfl
theorem pt_iast {o N : Nat} {N' : Int} {j x : Int32} (hf : aF pc M.2.2.2.2.2.2.2 = some (pc, .iastore, len, a, b)) (S : wS h) (tk : tkL o 0 N = true) (ha : j.toInt = A) (hb : x.toInt = B) (k : ∀ h', wS h' → 0 ≤ A → A < N' → vw h' = up (vw h) o A B → Pt n X M (pc + 1) l r h' Q) (hN : ((N : Nat) : Int) = N' := by rfl) : Pt (n + 1) X M pc l (.int x :: .int j :: .ref o :: r) h Q := pt_s fun m hm d v h2 e => by
  obtain ⟨N0, g, e1, e2, e3, e4⟩ := i_iast hf e
  obtain ⟨-, rfl⟩ := tk_n S tk e1
  exact k _ (wS_arr S e1) (by omega) (by omega) (vw_arr e1 (by omega) (vA_upd ha hb)) m hm d v h2 e4
theorem i_bast {o m d : Nat} {j x : Int32} {z : aR} (hf : aF pc M.2.2.2.2.2.2.2 = some (pc, .bastore, len, a, b)) (e : arun X (m + 1) d M pc l (.int x :: .int j :: .ref o :: r) h = some z) : (∃ (N : Nat) (g : Nat → Int32), h.1[o]? = some (.inl (2, N, .inl g)) ∧ 0 ≤ j.toInt ∧ j.toInt < (N : Int) ∧ arun X m d M (pc + 1) l r (h.1.set o (.inl (2, N, .inl (upd g j.toInt.toNat (x &&& 1)))), h.2) = some z) ∨ (∃ (N : Nat) (g : Nat → Int32), h.1[o]? = some (.inl (3, N, .inl g)) ∧ 0 ≤ j.toInt ∧ j.toInt < (N : Int) ∧ arun X m d M (pc + 1) l r (h.1.set o (.inl (3, N, .inl (upd g j.toInt.toNat x.toInt8.toInt32))), h.2) = some z) := by
  rw [arun_p hf rfl] at e
  simp only [aX1, aarI] at e
  split at e
  · rename_i t N g hc
    split at e
    · split at e
      · cases e
      · rename_i hj
        obtain ⟨q1, q2⟩ := ix_in hj
        rw [← Int32.toNat_toInt] at e
        exact Or.inl ⟨N, g, hc, q1, q2, e⟩
    · split at e
      · cases e
      · rename_i hj
        obtain ⟨q1, q2⟩ := ix_in hj
        rw [← Int32.toNat_toInt] at e
        exact Or.inr ⟨N, g, hc, q1, q2, e⟩
    · cases e
  · cases e
theorem pt_zast {o N : Nat} {N' : Int} {j x : Int32} (hf : aF pc M.2.2.2.2.2.2.2 = some (pc, .bastore, len, a, b)) (S : wS h) (tk : tkL o 2 N = true) (ha : j.toInt = A) (hb : x.toInt = B) (k : ∀ h', wS h' → 0 ≤ A → A < N' → vw h' = up (vw h) o A (bAnd B 1) → Pt n X M (pc + 1) l r h' Q) (hN : ((N : Nat) : Int) = N' := by rfl) : Pt (n + 1) X M pc l (.int x :: .int j :: .ref o :: r) h Q := pt_s fun m hm d v h2 e => by
  rcases i_bast hf e with ⟨N0, g, e1, e2, e3, e4⟩ | ⟨N0, g, e1, e2, e3, e4⟩
  · obtain ⟨-, rfl⟩ := tk_n S tk e1
    exact k _ (wS_arr S e1) (by omega) (by omega) (vw_arr e1 (by omega) (vA_upd ha (by subst hb; unfold bAnd; rw [oI]; rfl))) m hm d v h2 e4
  · obtain ⟨q, -⟩ := tk_n S tk e1
    omega
theorem i_last {o m d : Nat} {j : Int32} {x : Int64} {z : aR} (hf : aF pc M.2.2.2.2.2.2.2 = some (pc, .lastore, len, a, b)) (e : arun X (m + 1) d M pc l (.long x :: .int j :: .ref o :: r) h = some z) : ∃ (N : Nat) (g : Nat → Int64), h.1[o]? = some (.inl (1, N, .inr (.inl g))) ∧ 0 ≤ j.toInt ∧ j.toInt < (N : Int) ∧ arun X m d M (pc + 1) l r (h.1.set o (.inl (1, N, .inr (.inl (vp_updL g j.toInt.toNat x)))), h.2) = some z := by
  rw [arun_p hf rfl] at e
  simp only [aX1, aarJ] at e
  split at e
  · rename_i N g hc
    split at e
    · cases e
    · rename_i hj
      obtain ⟨q1, q2⟩ := ix_in hj
      rw [← Int32.toNat_toInt] at e
      exact ⟨N, g, hc, q1, q2, e⟩
  · cases e
theorem pt_alen {o t N : Nat} {N' : Int} (hf : aF pc M.2.2.2.2.2.2.2 = some (pc, .arraylength, len, a, b)) (S : wS h) (tk : tkL o t N = true) (k : ∀ x : Int32, x.toInt = N' → Pt n X M (pc + 1) l (.int x :: r) h Q) (hN : ((N : Nat) : Int) = N' := by rfl) (hb : N < 2147483648 := by decide) : Pt (n + 1) X M pc l (.ref o :: r) h Q := pt_s fun m hm d v h2 e => by
  have en : (Int32.ofNat N).toInt = N' := by rw [← hN]; exact Int32.toInt_ofNat_of_lt (by omega)
  rw [arun_p hf rfl] at e
  simp only [aX1] at e
  split at e
  · rename_i N0 y hc
    obtain ⟨-, rfl⟩ := tk_n S tk hc
    exact k _ en m hm d v h2 e
  · rename_i N0 y hc
    obtain ⟨-, rfl⟩ := tk_n S tk hc
    exact k _ en m hm d v h2 e
  · cases e
theorem pt_iret {x : Int32} (hf : aF pc M.2.2.2.2.2.2.2 = some (pc, .ireturn, len, a, b)) (k : Q (some (.int x)) h) : Pt (n + 1) X M pc l [.int x] h Q := pt_s fun m hm d v h2 e => by
  unfold arun at e
  simp only [hf] at e
  unfold aretI at e
  split at e
  · cases e; exact k
  · split at e
    · cases e; exact k
    · cases e
  · cases e
theorem pt_lret {x : Int64} (hf : aF pc M.2.2.2.2.2.2.2 = some (pc, .lreturn, len, a, b)) (k : Q (some (.long x)) h) : Pt (n + 1) X M pc l [.long x] h Q := pt_s fun m hm d v h2 e => by
  unfold arun at e
  simp only [hf] at e
  split at e
  · rename_i q _
    cases q
    cases e; exact k
  · cases e
theorem pt_aret {x : Nat} (hf : aF pc M.2.2.2.2.2.2.2 = some (pc, .areturn, len, a, b)) (k : Q (some (.ref x)) h) : Pt (n + 1) X M pc l [.ref x] h Q := pt_s fun m hm d v h2 e => by
  unfold arun at e
  simp only [hf] at e
  split at e
  · rename_i q _
    cases q
    cases e; exact k
  · cases e
theorem pt_vret (hf : aF pc M.2.2.2.2.2.2.2 = some (pc, .return_, len, a, b)) (k : Q none h) : Pt (n + 1) X M pc l [] h Q := pt_s fun m hm d v h2 e => by
  unfold arun at e
  simp only [hf] at e
  split at e
  · cases e; exact k
  · cases e
theorem i_back {d : Nat} {callee : Nat → Option aR} {kk : List Value → aH → Option aR} {z : aR} (e : aback d r callee kk = some z) : ∃ (d' : Nat) (v : Option Value) (h1 : aH), d = d' + 1 ∧ callee d' = some (v, h1) ∧ kk (v.toList ++ r) h1 = some z := by
  unfold aback at e
  split at e
  · cases e
  · rename_i d'
    cases hb : Nat.ble (aws r) 8 with
    | false => simp only [hb, cond_false] at e; cases e
    | true =>
      simp only [hb, cond_true] at e
      split at e
      · rename_i q hq
        exact ⟨d', q.1, q.2, rfl, hq, e⟩
      · cases e
theorem pt_stat {ix : Nat} {Y : aM} {as : List Value} {L1 : aL} {Qc : Option Value → aH → Prop} (hf : aF pc M.2.2.2.2.2.2.2 = some (pc, (.invokestatic ix), len, a, b)) (ha : (Nat.beq a 1002 || Nat.ble 1010 a) = false) (hY : zmt[a]? = some Y) (hk : Y.2.2.2.2.2.2.1 = 1) (hst : st = as.reverse ++ r) (hn : as.length = Y.2.2.2.2.2.1) (hL : aE Y.2.2.2.1 as = L1) (c : Pt n X Y 0 L1 [] h Qc) (k : ∀ v h1, Qc v h1 → Pt n X M (pc + 3) l (v.toList ++ r) h1 Q) : Pt (n + 1) X M pc l st h Q := pt_s fun m hm d v h2 e => by
  unfold arun at e
  simp only [hf] at e
  subst hst
  subst hL
  obtain ⟨ha1, ha2⟩ := Bool.or_eq_false_iff.mp ha
  simp only [ha1, ha2, cond_false, hY, show Nat.beq Y.2.2.2.2.2.2.1 1 = true from by rw [hk]; rfl, cond_true, acut_eq hn, aent] at e
  cases hw : Nat.ble (aws as) Y.2.2.2.1 with
  | false => simp only [hw, cond_false] at e; cases e
  | true =>
    simp only [hw, cond_true] at e
    obtain ⟨d', v1, h1, -, e1, e2⟩ := i_back e
    exact k v1 h1 (c m hm d' v1 h1 e1) m hm d v h2 e2
theorem pt_virt {ix o : Nat} {Y : aM} {as : List Value} {L1 : aL} {Qc : Option Value → aH → Prop} (hf : aF pc M.2.2.2.2.2.2.2 = some (pc, (.invokevirtual ix), len, a, b)) (ha : Nat.beq a 1001 = false) (hY : zmt[a]? = some Y) (hk : Y.2.2.2.2.2.2.1 = 0) (hst : st = as.reverse ++ .ref o :: r) (hn : as.length = Y.2.2.2.2.2.1) (hL : aE Y.2.2.2.1 (.ref o :: as) = L1) (c : Pt n X Y 0 L1 [] h Qc) (k : ∀ v h1, Qc v h1 → Pt n X M (pc + 3) l (v.toList ++ r) h1 Q) : Pt (n + 1) X M pc l st h Q := pt_s fun m hm d v h2 e => by
  unfold arun at e
  simp only [hf] at e
  subst hst
  subst hL
  simp only [ha, cond_false, hY, show Nat.beq Y.2.2.2.2.2.2.1 0 = true from by rw [hk]; rfl, cond_true, acut_eq hn, aobj, aent] at e
  split at e
  · rename_i ci fs hc
    cases hb : Nat.beq ci Y.1 with
    | false => simp only [hb, cond_false] at e; cases e
    | true =>
      simp only [hb, cond_true] at e
      cases hw : Nat.ble (aws (.ref o :: as)) Y.2.2.2.1 with
      | false => simp only [hw, cond_false] at e; cases e
      | true =>
        simp only [hw, cond_true] at e
        obtain ⟨d', v1, h1, -, e1, e2⟩ := i_back e
        exact k v1 h1 (c m hm d' v1 h1 e1) m hm d v h2 e2
  · cases e
theorem kqP {E : Int} (k : ∀ x : Int32, x.toInt = E → Pt n X M pc l (.int x :: r) h Q) : ∀ v h1, qI (fun y h' => h' = h ∧ y = E) v h1 → Pt n X M pc l (v.toList ++ r) h1 Q := by
  rintro v h1 ⟨x, rfl, rfl, e⟩
  exact k x e
theorem kqPJ {E : Int} (k : ∀ x : Int64, x.toInt = E → Pt n X M pc l (.long x :: r) h Q) : ∀ v h1, qJ (fun y h' => h' = h ∧ y = E) v h1 → Pt n X M pc l (v.toList ++ r) h1 Q := by
  rintro v h1 ⟨x, rfl, rfl, e⟩
  exact k x e
theorem kqI {P : Int → aH → Prop} (k : ∀ (x : Int32) (y : Int) (h1 : aH), x.toInt = y → P y h1 → Pt n X M pc l (.int x :: r) h1 Q) : ∀ v h1, qI P v h1 → Pt n X M pc l (v.toList ++ r) h1 Q := by
  rintro v h1 ⟨x, rfl, e⟩
  exact k x _ h1 rfl e
theorem kqJ {P : Int → aH → Prop} (k : ∀ (x : Int64) (y : Int) (h1 : aH), x.toInt = y → P y h1 → Pt n X M pc l (.long x :: r) h1 Q) : ∀ v h1, qJ P v h1 → Pt n X M pc l (v.toList ++ r) h1 Q := by
  rintro v h1 ⟨x, rfl, e⟩
  exact k x _ h1 rfl e
theorem kqN {P : aH → Prop} (k : ∀ (h1 : aH), P h1 → Pt n X M pc l r h1 Q) : ∀ v h1, qN P v h1 → Pt n X M pc l (v.toList ++ r) h1 Q := by
  rintro v h1 ⟨rfl, e⟩
  exact k h1 e
theorem kqR {P : Nat → aH → Prop} (k : ∀ (q : Nat) (h1 : aH), P q h1 → Pt n X M pc l (.ref q :: r) h1 Q) : ∀ v h1, qR P v h1 → Pt n X M pc l (v.toList ++ r) h1 Q := by
  rintro v h1 ⟨x, rfl, e⟩
  exact k x h1 e
theorem pt_max {ix : Nat} {x y : Int32} (hf : aF pc M.2.2.2.2.2.2.2 = some (pc, (.invokestatic ix), len, a, b)) (ha1 : a = 1010) (ha : x.toInt = A) (hb : y.toInt = B) (k : ∀ z : Int32, z.toInt = max A B → Pt n X M (pc + 3) l (.int z :: r) h Q) : Pt (n + 1) X M pc l (.int y :: .int x :: r) h Q := pt_s fun m hm d v h2 e => by
  have ev : (if x < y then y else x).toInt = max A B := by
    subst ha
    subst hb
    split
    · rename_i q; rw [Int32.lt_iff_toInt_lt] at q; omega
    · rename_i q; rw [Int32.lt_iff_toInt_lt] at q; omega
  unfold arun at e
  simp only [hf] at e
  subst ha1
  simp only [show Nat.beq 1010 1002 = false from rfl, cond_false, show Nat.ble 1010 1010 = true from rfl, cond_true] at e
  cases d with
  | zero => unfold amath at e; cases e
  | succ d =>
    simp only [amath, tII, tJJ] at e
    cases hb2 : Nat.ble (aws r) 8 with
    | false => simp only [hb2, cond_false] at e; cases e
    | true =>
      simp only [hb2, cond_true] at e
      exact k _ ev m hm _ v h2 e
theorem pt_min {ix : Nat} {x y : Int32} (hf : aF pc M.2.2.2.2.2.2.2 = some (pc, (.invokestatic ix), len, a, b)) (ha1 : a = 1011) (ha : x.toInt = A) (hb : y.toInt = B) (k : ∀ z : Int32, z.toInt = min A B → Pt n X M (pc + 3) l (.int z :: r) h Q) : Pt (n + 1) X M pc l (.int y :: .int x :: r) h Q := pt_s fun m hm d v h2 e => by
  have ev : (if y < x then y else x).toInt = min A B := by
    subst ha
    subst hb
    split
    · rename_i q; rw [Int32.lt_iff_toInt_lt] at q; omega
    · rename_i q; rw [Int32.lt_iff_toInt_lt] at q; omega
  unfold arun at e
  simp only [hf] at e
  subst ha1
  simp only [show Nat.beq 1011 1002 = false from rfl, cond_false, show Nat.ble 1010 1011 = true from rfl, cond_true] at e
  cases d with
  | zero => unfold amath at e; cases e
  | succ d =>
    simp only [amath, tII, tJJ] at e
    cases hb2 : Nat.ble (aws r) 8 with
    | false => simp only [hb2, cond_false] at e; cases e
    | true =>
      simp only [hb2, cond_true] at e
      exact k _ ev m hm _ v h2 e
theorem pt_lmax {ix : Nat} {x y : Int64} (hf : aF pc M.2.2.2.2.2.2.2 = some (pc, (.invokestatic ix), len, a, b)) (ha1 : a = 1013) (ha : x.toInt = A) (hb : y.toInt = B) (k : ∀ z : Int64, z.toInt = max A B → Pt n X M (pc + 3) l (.long z :: r) h Q) : Pt (n + 1) X M pc l (.long y :: .long x :: r) h Q := pt_s fun m hm d v h2 e => by
  have ev : (if y < x then x else y).toInt = max A B := by
    subst ha
    subst hb
    split
    · rename_i q; rw [Int64.lt_iff_toInt_lt] at q; omega
    · rename_i q; rw [Int64.lt_iff_toInt_lt] at q; omega
  unfold arun at e
  simp only [hf] at e
  subst ha1
  simp only [show Nat.beq 1013 1002 = false from rfl, cond_false, show Nat.ble 1010 1013 = true from rfl, cond_true] at e
  cases d with
  | zero => unfold amath at e; cases e
  | succ d =>
    simp only [amath, tII, tJJ] at e
    cases hb2 : Nat.ble (aws r) 8 with
    | false => simp only [hb2, cond_false] at e; cases e
    | true =>
      simp only [hb2, cond_true] at e
      exact k _ ev m hm _ v h2 e
theorem pt_lmin {ix : Nat} {x y : Int64} (hf : aF pc M.2.2.2.2.2.2.2 = some (pc, (.invokestatic ix), len, a, b)) (ha1 : a = 1014) (ha : x.toInt = A) (hb : y.toInt = B) (k : ∀ z : Int64, z.toInt = min A B → Pt n X M (pc + 3) l (.long z :: r) h Q) : Pt (n + 1) X M pc l (.long y :: .long x :: r) h Q := pt_s fun m hm d v h2 e => by
  have ev : (if y < x then y else x).toInt = min A B := by
    subst ha
    subst hb
    split
    · rename_i q; rw [Int64.lt_iff_toInt_lt] at q; omega
    · rename_i q; rw [Int64.lt_iff_toInt_lt] at q; omega
  unfold arun at e
  simp only [hf] at e
  subst ha1
  simp only [show Nat.beq 1014 1002 = false from rfl, cond_false, show Nat.ble 1010 1014 = true from rfl, cond_true] at e
  cases d with
  | zero => unfold amath at e; cases e
  | succ d =>
    simp only [amath, tII, tJJ] at e
    cases hb2 : Nat.ble (aws r) 8 with
    | false => simp only [hb2, cond_false] at e; cases e
    | true =>
      simp only [hb2, cond_true] at e
      exact k _ ev m hm _ v h2 e
theorem pt_abs {ix : Nat} {x : Int32} (hf : aF pc M.2.2.2.2.2.2.2 = some (pc, (.invokestatic ix), len, a, b)) (ha1 : a = 1012) (ha : x.toInt = A) (k : ∀ z : Int32, z.toInt = iAbs A → Pt n X M (pc + 3) l (.int z :: r) h Q) : Pt (n + 1) X M pc l (.int x :: r) h Q := pt_s fun m hm d v h2 e => by
  have ev : (if 0 ≤ x then x else 0 - x).toInt = iAbs A := by
    subst ha
    unfold iAbs
    split
    · rename_i q; rw [Int32.le_iff_toInt_le, i_zero] at q; rw [if_pos q]
    · rename_i q; rw [Int32.le_iff_toInt_le, i_zero] at q; rw [if_neg q, t_sub, i_zero, Int.zero_sub]
  unfold arun at e
  simp only [hf] at e
  subst ha1
  simp only [show Nat.beq 1012 1002 = false from rfl, cond_false, show Nat.ble 1010 1012 = true from rfl, cond_true] at e
  cases d with
  | zero => unfold amath at e; cases e
  | succ d =>
    simp only [amath, tI] at e
    cases hb2 : Nat.ble (aws r) 8 with
    | false => simp only [hb2, cond_false] at e; cases e
    | true =>
      simp only [hb2, cond_true] at e
      exact k _ ev m hm _ v h2 e
theorem pt_ix {ix : Nat} {x : Int32} (hf : aF pc M.2.2.2.2.2.2.2 = some (pc, (.invokevirtual ix), len, a, b)) (ha1 : a = 1001) (ha : x.toInt = A) (k : ∀ z : Int32, z.toInt = iIx A → Pt n X M (pc + 3) l (.int z :: r) h Q) : Pt (n + 1) X M pc l (.int x :: .retAddr 2 :: r) h Q := pt_s fun m hm d v h2 e => by
  unfold arun at e
  simp only [hf] at e
  subst ha1
  simp only [show Nat.beq 1001 1001 = true from rfl, cond_true, aixof] at e
  split at e
  · rename_i d' c r' hd hs
    cases hs
    cases hb2 : Nat.ble (aws r) 8 with
    | false => simp only [hb2, cond_false] at e; cases e
    | true =>
      simp only [hb2, cond_true] at e
      exact k _ (by subst ha; unfold iIx; rw [oI]) m hm _ v h2 e
  · cases e
end PT
end

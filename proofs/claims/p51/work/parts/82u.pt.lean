-- ===== 82u.pt: 3 texts =====
section
-- ===== what a run comes to, if it comes to anything; the heap as numbers =====
def Pt (n : Nat) (X : aX) (M : aM) (pc : Nat) (l : aL) (st : List Value) (h : aH) (Q : Option Value → aH → Prop) : Prop := ∀ m, m ≤ n → ∀ d v h', arun X m d M pc l st h = some (v, h') → Q v h'
abbrev vS : Type := Nat → Int → Int
def vV (v : Value) : Int := match v with
  | .int x => x.toInt
  | .long x => x.toInt
  | .ref q => (q : Int)
  | .null => -1
  | _ => 0
def vA (a : (Nat → Int32) ⊕ (Nat → Int64) ⊕ (Nat → UInt32) ⊕ (Nat → UInt64) ⊕ (Nat → Option Nat)) (j : Nat) : Int := match a with
  | .inl g => (g j).toInt
  | .inr (.inl g) => (g j).toInt
  | .inr (.inr (.inr (.inr g))) => (match g j with
    | some q => (q : Int)
    | none => -1)
  | _ => 0
def vw (h : aH) : vS := fun c j => if j < 0 then 0 else match h.1[c]? with
  | some (.inl (_, _, a)) => vA a j.toNat
  | some (.inr (_, fs)) => (match fs[j.toNat]? with
    | some v => vV v
    | none => 0)
  | none => 0
def up (V : vS) (c : Nat) (j v : Int) : vS := fun c' j' => if c' = c ∧ j' = j then v else V c' j'
def w32 (z : Int) : Int := (z + 2147483648) % 4294967296 - 2147483648
def w16 (z : Int) : Int := (z + 32768) % 65536 - 32768
def w8 (z : Int) : Int := (z + 128) % 256 - 128
def bAnd (a b : Int) : Int := (Int32.ofInt a &&& Int32.ofInt b).toInt
def bOr (a b : Int) : Int := (Int32.ofInt a ||| Int32.ofInt b).toInt
def bXor (a b : Int) : Int := (Int32.ofInt a ^^^ Int32.ofInt b).toInt
def bShl (a b : Int) : Int := (Int32.ofInt a <<< (Int32.ofInt b &&& 31)).toInt
def iDiv (a b : Int) : Int := (Int32.ofInt a / Int32.ofInt b).toInt
def iRem (a b : Int) : Int := (Int32.ofInt a - Int32.ofInt a / Int32.ofInt b * Int32.ofInt b).toInt
def iAbs (a : Int) : Int := if 0 ≤ a then a else w32 (-a)
noncomputable def bI (p : Prop) : Int := @ite Int p (Classical.propDecidable p) 1 0
theorem bI_t {p : Prop} (h : p) : bI p = 1 := by unfold bI; rw [if_pos h]
theorem bI_f {p : Prop} (h : ¬ p) : bI p = 0 := by unfold bI; rw [if_neg h]
theorem bI_0 {p : Prop} : bI p = 0 ↔ ¬ p := by
  constructor
  · intro e h
    rw [bI_t h] at e; cases e
  · exact bI_f
theorem bI_c {p q : Prop} (h : p ↔ q) : bI p = bI q := by
  by_cases c : p
  · rw [bI_t c, bI_t (h.mp c)]
  · rw [bI_f c, bI_f (fun d => c (h.mpr d))]
-- numbers that wrap
theorem w32_b (z : Int) : z.bmod (2 ^ 32) = w32 z := by
  unfold w32
  have e : z.bmod (2 ^ 32) = z.bmod 4294967296 := rfl
  rw [e, Int.bmod_def]
  split <;> omega
theorem w32_id {z : Int} (h1 : -2147483648 ≤ z) (h2 : z ≤ 2147483647) : w32 z = z := by unfold w32; omega
theorem oI (x : Int32) : Int32.ofInt x.toInt = x := Int32.ofInt_toInt x
theorem t_add (x y : Int32) : (x + y).toInt = w32 (x.toInt + y.toInt) := by rw [Int32.toInt_add, w32_b]
theorem t_sub (x y : Int32) : (x - y).toInt = w32 (x.toInt - y.toInt) := by rw [Int32.toInt_sub, w32_b]
theorem t_mul (x y : Int32) : (x * y).toInt = w32 (x.toInt * y.toInt) := by rw [Int32.toInt_mul, w32_b]
theorem t_neg (x : Int32) : (-x).toInt = w32 (-x.toInt) := by rw [Int32.toInt_neg, w32_b]
theorem iRem_pos {a b : Int} (ha : 0 ≤ a) (ha2 : a ≤ 2147483647) (hb : 1 ≤ b) (hb2 : b ≤ 2147483647) : iRem a b = a % b := by
  unfold iRem
  have e1 : (Int32.ofInt a).toInt = a := Int32.toInt_ofInt_of_le (by omega) (by omega)
  have e2 : (Int32.ofInt b).toInt = b := Int32.toInt_ofInt_of_le (by omega) (by omega)
  rw [i_rem (by omega), e1, e2, Int.tmod_eq_emod_of_nonneg ha]
-- the heap as numbers
theorem up_s (V : vS) (c : Nat) (j v : Int) : up V c j v c j = v := if_pos ⟨rfl, rfl⟩
theorem up_c {V : vS} {c c' : Nat} {j j' v : Int} (h : c' ≠ c) : up V c j v c' j' = V c' j' := if_neg (fun q => h q.1)
theorem up_j {V : vS} {c c' : Nat} {j j' v : Int} (h : j' ≠ j) : up V c j v c' j' = V c' j' := if_neg (fun q => h q.2)
theorem up_p {V : vS} {c : Nat} {j j' v : Int} : up V c j v c j' = if j' = j then v else V c j' := by
  unfold up
  by_cases q : j' = j
  · rw [if_pos ⟨rfl, q⟩, if_pos q]
  · rw [if_neg (fun r => q r.2), if_neg q]
theorem vw_a {h : aH} {c t n : Nat} {a : (Nat → Int32) ⊕ (Nat → Int64) ⊕ (Nat → UInt32) ⊕ (Nat → UInt64) ⊕ (Nat → Option Nat)} {j : Int} (e : h.1[c]? = some (.inl (t, n, a))) (hj : 0 ≤ j) : vw h c j = vA a j.toNat := by
  unfold vw
  rw [if_neg (by omega), e]
theorem vw_o {h : aH} {c ci : Nat} {fs : List Value} {i : Nat} {v : Value} (e : h.1[c]? = some (.inr (ci, fs))) (hv : fs[i]? = some v) : vw h c (i : Nat) = vV v := by
  unfold vw
  rw [if_neg (by omega), e]
  simp only [Int.toNat_natCast, hv]
theorem vw_eq {h h' : aH} {c : Nat} (e : h'.1[c]? = h.1[c]?) (j : Int) : vw h' c j = vw h c j := by
  unfold vw
  rw [e]
theorem vw_dG {W : List (Nat × Nat)} {σ σ1 : List Nat} {h h1 : aH} (H : dH σ h) (G : dG W σ h σ1 h1) {r : Nat} (hr : r < 146) {t : cRt} (ht : cRT[r]? = some t) (j : Int) (hW : (t.1 = 0 → cWn W r j.toNat = false) ∧ (t.1 ≠ 0 → cWn W r 0 = false)) : vw h1 r j = vw h r j := by
  obtain ⟨c, e, k⟩ := dH_cell H (H.2.2.2 r hr) ht
  obtain ⟨c1, a1, a2⟩ := G.2.1 r r _ (H.2.2.2 r hr) e
  by_cases h0 : t.1 = 0
  · obtain ⟨fs, rfl, -, -⟩ := dC_0 k h0
    obtain ⟨fs1, rfl, a3⟩ := a2.2 _ fs rfl
    unfold vw
    rw [e, a1]
    simp only [a3 _ (hW.1 h0)]
  · have : ∃ x, c = .inl x := by
      unfold dC at k
      split at k
      · exact absurd ‹_› h0
      · obtain ⟨g, rfl, -⟩ := k; exact ⟨_, rfl⟩
      · obtain ⟨g, rfl, -⟩ := k; exact ⟨_, rfl⟩
      · obtain ⟨g, rfl, -⟩ := k; exact ⟨_, rfl⟩
      · exact k.elim
    obtain ⟨x, rfl⟩ := this
    rw [a2.1 x rfl (hW.2 h0)] at a1
    exact vw_eq (a1.trans e.symm) j
def tyA (h : aH) (c : Nat) : Option (Nat × Nat) := match h.1[c]? with
  | some (.inl (t, n, _)) => some (t, n)
  | _ => none
def tkL (c t n : Nat) : Bool := match cRT[c]? with
  | some q => !(Nat.beq q.1 0) && Nat.beq q.2.1 t && Nat.beq q.2.2.1 n && Nat.blt c 146
  | none => false
def tkN (o b : Nat) : Bool := match cRT[o]? with
  | some t => (match t.2.2.2.2.2[b]? with
    | some ty => !(Nat.beq ty.1 1)
    | none => true)
  | none => true
theorem tkN_R {o b : Nat} (h : tkN o b = true) (q : Nat) : tkR o b q = false := by
  unfold tkN at h
  unfold tkR
  split
  · rename_i t e
    simp only [e] at h
    split
    · rename_i ty ety
      simp only [ety] at h
      cases k : Nat.beq ty.1 1 with
      | true => rw [k] at h; cases h
      | false => simp
    · simp
  · rfl
def wS (h : aH) : Prop := (∀ (q ci : Nat) (fs : List Value) (i : Nat) (v : Value), h.1[q]? = some (.inr (ci, fs)) → fs[i]? = some v → aok (zY ci i) v = true) ∧ (∀ c i q : Nat, tkR c i q = true → ∃ (ci : Nat) (fs : List Value), h.1[c]? = some (.inr (ci, fs)) ∧ fs[i]? = some (.ref q)) ∧ (∀ c t n : Nat, tkL c t n = true → tyA h c = some (t, n))
def fY (ci i : Nat) (ty : Nat × Int × Int) : Bool := match ty.1, zY ci i with
  | 0, .int => true
  | 0, .boolean => ceI ty.2.1 0 && ceI ty.2.2 1
  | 1, .object _ => true
  | 1, .array _ => true
  | 4, .array _ => true
  | _, _ => false
def fYs (ci : Nat) : Nat → List (Nat × Int × Int) → Bool
  | _, [] => true
  | i, ty :: r => fY ci i ty && fYs ci (i + 1) r
def fYt : List cRt → Bool
  | [] => true
  | t :: r => (!(Nat.beq t.1 0) || fYs t.2.1 0 t.2.2.2.2.2) && fYt r
theorem fYt_0 : fYt cRT = true := by decide +kernel
theorem fYs_i {ci : Nat} : ∀ {k : Nat} {L : List (Nat × Int × Int)}, fYs ci k L = true → ∀ (i : Nat) (ty : Nat × Int × Int), L[i]? = some ty → fY ci (k + i) ty = true
  | _, [], _, i, ty, e => by simp at e
  | k, t :: r, h, 0, ty, e => by
    unfold fYs at h
    rw [Bool.and_eq_true] at h
    simp only [List.getElem?_cons_zero, Option.some.injEq] at e
    subst e
    exact h.1
  | k, t :: r, h, i + 1, ty, e => by
    unfold fYs at h
    rw [Bool.and_eq_true] at h
    rw [List.getElem?_cons_succ] at e
    rw [show k + (i + 1) = (k + 1) + i by omega]
    exact fYs_i h.2 i ty e
theorem fYt_i : ∀ {L : List cRt}, fYt L = true → ∀ (r : Nat) (t : cRt), L[r]? = some t → t.1 = 0 → fYs t.2.1 0 t.2.2.2.2.2 = true
  | [], _, r, t, e, _ => by simp at e
  | u :: L, h, 0, t, e, h0 => by
    unfold fYt at h
    rw [Bool.and_eq_true] at h
    simp only [List.getElem?_cons_zero, Option.some.injEq] at e
    subst e
    have := h.1
    rw [h0] at this
    simpa using this
  | u :: L, h, r + 1, t, e, h0 => by
    unfold fYt at h
    rw [Bool.and_eq_true] at h
    rw [List.getElem?_cons_succ] at e
    exact fYt_i h.2 r t e h0
theorem fY_ok {σ : List Nat} {ci i : Nat} {ty : Nat × Int × Int} {v : Value} (h : fY ci i ty = true) (k : dT σ ty v) : aok (zY ci i) v = true := by
  unfold fY at h
  unfold dT at k
  split at h
  · rename_i e1 e2
    rw [e1] at k
    obtain ⟨x, rfl, -, -⟩ := k
    rw [e2]; rfl
  · rename_i e1 e2
    rw [e1] at k
    obtain ⟨x, rfl, k1, k2⟩ := k
    rw [e2]
    simp only [Bool.and_eq_true, ceI_i] at h
    have : x.toInt = 0 ∨ x.toInt = 1 := by omega
    rcases this with q | q
    · rw [b_i.mpr (show x.toInt = (0 : Int32).toInt from q)]; rfl
    · rw [b_i.mpr (show x.toInt = (1 : Int32).toInt from q)]; rfl
  · rename_i e1 e2
    rw [e1] at k
    obtain ⟨q, rfl, -⟩ := k
    rw [e2]; rfl
  · rename_i e1 e2
    rw [e1] at k
    obtain ⟨q, rfl, -⟩ := k
    rw [e2]; rfl
  · rename_i e1 e2
    rw [e1] at k
    rcases k with rfl | rfl
    · rw [e2]; rfl
    · rw [e2]; rfl
  · cases h
theorem wS_dI {σ : List Nat} {h : aH} (I : dI σ h) : wS h := by
  refine ⟨fun q ci fs i v e ev => ?_, fun c i q k => ?_, fun c t n k => ?_⟩
  · obtain ⟨H1, H2, -, -⟩ := I.1
    have hq : q < σ.length := by rw [H1]; exact (List.getElem?_eq_some_iff.mp e).1
    obtain ⟨t, c, e1, e2, e3⟩ := H2 q σ[q] (List.getElem?_eq_getElem hq)
    rw [e] at e2
    cases e2
    by_cases h0 : t.1 = 0
    · obtain ⟨fs', c1, c2, c3⟩ := dC_0 e3 h0
      cases c1
      have hi : i < t.2.2.2.2.2.length := by rw [← c2]; exact (List.getElem?_eq_some_iff.mp ev).1
      obtain ⟨v', d1, d2⟩ := c3 i _ (List.getElem?_eq_getElem hi)
      rw [ev] at d1
      cases d1
      have := fYs_i (fYt_i fYt_0 _ _ e1 h0) i _ (List.getElem?_eq_getElem hi)
      rw [Nat.zero_add] at this
      exact fY_ok this d2
    · unfold dC at e3
      split at e3
      · exact absurd ‹_› h0
      · obtain ⟨g, e4, -⟩ := e3; cases e4
      · obtain ⟨g, e4, -⟩ := e3; cases e4
      · obtain ⟨g, e4, -⟩ := e3; cases e4
      · exact e3.elim
  · have k0 := k
    unfold tkR at k
    split at k
    · rename_i t e
      rw [Bool.and_eq_true, Bool.and_eq_true, Nat.blt_eq] at k
      obtain ⟨⟨k1, k2⟩, k3⟩ := k
      obtain ⟨fs, a, -, -⟩ := dI_o I k2 e (Nat.eq_of_beq_eq_true k1)
      exact ⟨_, fs, a, hI_r I a k0⟩
    · cases k
  · unfold tkL at k
    split at k
    · rename_i q e
      simp only [Bool.and_eq_true, Bool.not_eq_true', Nat.blt_eq] at k
      obtain ⟨⟨⟨k1, k2⟩, k3⟩, k4⟩ := k
      have h0 : q.1 ≠ 0 := fun z => by rw [z] at k1; cases k1
      obtain ⟨x, e1, e2⟩ := dH_cell I.1 (I.1.2.2.2 c k4) e
      have e3 := Nat.eq_of_beq_eq_true k2
      have e4 := Nat.eq_of_beq_eq_true k3
      unfold tyA
      unfold dC at e2
      split at e2
      · exact absurd ‹_› h0
      · obtain ⟨g, rfl, -⟩ := e2; rw [e1]; simp only [e3, e4]
      · rename_i h2
        obtain ⟨g, rfl, -⟩ := e2; rw [e1]
        have : q.2.1 = 1 := by
          have z : (cRT.all (fun t => !(Nat.beq t.1 2) || Nat.beq t.2.1 1)) = true := by decide +kernel
          have := List.all_eq_true.mp z q (List.mem_of_getElem? e)
          rw [h2] at this
          exact Nat.eq_of_beq_eq_true (by simpa using this)
        simp only [← e3, this, e4]
      · obtain ⟨g, rfl, -⟩ := e2; rw [e1]; simp only [e3, e4]
      · exact e2.elim
    · cases k
theorem wS_arr {h : aH} {o t n : Nat} {s : Nat} {a a' : (Nat → Int32) ⊕ (Nat → Int64) ⊕ (Nat → UInt32) ⊕ (Nat → UInt64) ⊕ (Nat → Option Nat)} (S : wS h) (c : h.1[o]? = some (.inl (t, n, a))) : wS (h.1.set o (.inl (t, n, a')), s) := by
  have hne : ∀ q ci fs, h.1[q]? = some (.inr (ci, fs)) → o ≠ q := by
    intro q ci fs e z
    rw [z, e] at c
    cases c
  refine ⟨fun q ci fs i v e ev => ?_, fun c' i q k => ?_, fun c' t' n' k => ?_⟩
  · by_cases z : o = q
    · subst z
      rw [set_eq' c] at e
      cases e
    · rw [set_ne' z] at e
      exact S.1 q ci fs i v e ev
  · obtain ⟨ci, fs, e1, e2⟩ := S.2.1 c' i q k
    exact ⟨ci, fs, (set_ne' (hne _ _ _ e1)).trans e1, e2⟩
  · have := S.2.2 c' t' n' k
    by_cases z : o = c'
    · subst z
      unfold tyA at this ⊢
      rw [c] at this
      rw [set_eq' c]
      exact this
    · unfold tyA at this ⊢
      rw [set_ne' z]
      exact this
theorem vw_arr {h : aH} {o t n s : Nat} {a a' : (Nat → Int32) ⊕ (Nat → Int64) ⊕ (Nat → UInt32) ⊕ (Nat → UInt64) ⊕ (Nat → Option Nat)} {J B : Int} (c : h.1[o]? = some (.inl (t, n, a))) (hJ : 0 ≤ J) (e : ∀ k : Nat, vA a' k = if k = J.toNat then B else vA a k) : vw (h.1.set o (.inl (t, n, a')), s) = up (vw h) o J B := by
  funext c' j'
  unfold up
  by_cases z : c' = o
  · subst z
    unfold vw
    rw [set_eq' c, c]
    by_cases q : j' < 0
    · rw [if_pos q, if_pos q, if_neg (by omega)]
    · rw [if_neg q, if_neg q]
      dsimp only
      rw [e]
      by_cases y : j' = J
      · rw [if_pos (by rw [y]), if_pos ⟨rfl, y⟩]
      · rw [if_neg (by omega), if_neg (fun w => y w.2)]
  · rw [if_neg (fun w => z w.1)]
    exact vw_eq (set_ne' (fun w => z w.symm)) j'
theorem wS_obj {h : aH} {o ci b s : Nat} {fs : List Value} {v : Value} (S : wS h) (c : h.1[o]? = some (.inr (ci, fs))) (hv : aok (zY ci b) v = true) (hn : ∀ q, tkR o b q = false) : wS (h.1.set o (.inr (ci, fs.set b v)), s) := by
  refine ⟨fun q ci' fs' i v' e ev => ?_, fun c' i q k => ?_, fun c' t' n' k => ?_⟩
  · by_cases z : o = q
    · subst z
      rw [set_eq' c] at e
      cases e
      rw [List.getElem?_set] at ev
      by_cases y : b = i
      · subst y
        rw [if_pos rfl] at ev
        split at ev
        · cases ev; exact hv
        · cases ev
      · rw [if_neg y] at ev
        exact S.1 _ _ _ _ _ c ev
    · rw [set_ne' z] at e
      exact S.1 q ci' fs' i v' e ev
  · obtain ⟨ci', fs', e1, e2⟩ := S.2.1 c' i q k
    by_cases z : o = c'
    · subst z
      rw [c] at e1
      cases e1
      have y : b ≠ i := fun y => by rw [← y, hn] at k; cases k
      exact ⟨ci, fs.set b v, set_eq' c, by rw [List.getElem?_set, if_neg y]; exact e2⟩
    · exact ⟨ci', fs', (set_ne' z).trans e1, e2⟩
  · have := S.2.2 c' t' n' k
    by_cases z : o = c'
    · subst z
      unfold tyA at this
      rw [c] at this
      cases this
    · unfold tyA at this ⊢
      rw [set_ne' z]
      exact this
theorem vw_obj {h : aH} {o ci b s : Nat} {fs : List Value} {v : Value} (c : h.1[o]? = some (.inr (ci, fs))) (hb : b < fs.length) : vw (h.1.set o (.inr (ci, fs.set b v)), s) = up (vw h) o (b : Nat) (vV v) := by
  funext c' j'
  unfold up
  by_cases z : c' = o
  · subst z
    unfold vw
    rw [set_eq' c, c]
    by_cases q : j' < 0
    · rw [if_pos q, if_pos q, if_neg (by omega)]
    · rw [if_neg q, if_neg q]
      dsimp only
      rw [List.getElem?_set]
      by_cases y : j' = (b : Nat)
      · subst y
        rw [Int.toNat_natCast, if_pos rfl, if_pos hb, if_pos ⟨rfl, rfl⟩]
      · rw [if_neg (by omega), if_neg (fun w => y w.2)]
  · rw [if_neg (fun w => z w.1)]
    exact vw_eq (set_ne' (fun w => z w.symm)) j'
end
section
-- ===== an instruction a row, of runs that come to something (by program) =====
def qI (P : Int → aH → Prop) (v : Option Value) (h : aH) : Prop := ∃ x : Int32, v = some (.int x) ∧ P x.toInt h
def qJ (P : Int → aH → Prop) (v : Option Value) (h : aH) : Prop := ∃ x : Int64, v = some (.long x) ∧ P x.toInt h
def qN (P : aH → Prop) (v : Option Value) (h : aH) : Prop := v = none ∧ P h
def cpy (V : vS) (o1 : Nat) (A : Int) (o2 : Nat) (B C : Int) : vS := fun c j => if c = o2 ∧ B ≤ j ∧ j < B + C then V o1 (A + (j - B)) else V c j
theorem cpy_c {V : vS} {o1 o2 c : Nat} {A B C j : Int} (h : c ≠ o2) : cpy V o1 A o2 B C c j = V c j := if_neg (fun q => h q.1)
section PT
variable {n : Nat} {X : aX} {M : aM} {Q : Option Value → aH → Prop} {pc pc' len a b : Nat} {l l' : aL} {st st' r : List Value} {h h' : aH} {A B : Int}
theorem pt_z : Pt 0 X M pc l st h Q := by
  intro m hm d v h2 e
  obtain rfl : m = 0 := by omega
  unfold arun at e
  cases e
theorem pt_d (k : Pt (n + 1) X M pc l st h Q) : Pt n X M pc l st h Q := fun m hm => k m (by omega)
theorem pt_q {Q' : Option Value → aH → Prop} (k : Pt n X M pc l st h Q') (hq : ∀ v h', Q' v h' → Q v h') : Pt n X M pc l st h Q := fun m hm d v h2 e => hq v h2 (k m hm d v h2 e)
theorem pt_s (k : ∀ m, m ≤ n → ∀ d v h', arun X (m + 1) d M pc l st h = some (v, h') → Q v h') : Pt (n + 1) X M pc l st h Q := by
  intro m hm d v h2 e
  cases m with
  | zero => unfold arun at e; cases e
  | succ m => exact k m (by omega) d v h2 e
theorem pt_1 (hs : ∀ n d, arun X (n + 1) d M pc l st h = arun X n d M pc' l' st' h') (k : Pt n X M pc' l' st' h' Q) : Pt (n + 1) X M pc l st h Q := pt_s fun m hm d v h2 e => k m hm d v h2 ((hs m d).symm.trans e)
theorem pt_iconst {z : Int} (hf : aF pc M.2.2.2.2.2.2.2 = some (pc, (.iconst z), len, a, b)) (k : ∀ x : Int32, x.toInt = z → Pt n X M (pc + 1) l (.int x :: r) h Q) (h1 : (-128 : Int) ≤ z := by decide) (h2 : z ≤ 127 := by decide) : Pt (n + 1) X M pc l r h Q := pt_1 (fun n d => r_iconst hf rfl) (k _ (toInt_ic h1 h2))
theorem pt_bipush {z : Int} (hf : aF pc M.2.2.2.2.2.2.2 = some (pc, (.bipush z), len, a, b)) (k : ∀ x : Int32, x.toInt = z → Pt n X M (pc + 2) l (.int x :: r) h Q) (h1 : (-128 : Int) ≤ z := by decide) (h2 : z ≤ 127 := by decide) : Pt (n + 1) X M pc l r h Q := pt_1 (fun n d => r_bipush hf rfl) (k _ (toInt_b h1 h2))
theorem pt_sipush {z : Int} (hf : aF pc M.2.2.2.2.2.2.2 = some (pc, (.sipush z), len, a, b)) (k : ∀ x : Int32, x.toInt = z → Pt n X M (pc + 3) l (.int x :: r) h Q) (h1 : (-32768 : Int) ≤ z := by decide) (h2 : z ≤ 32767 := by decide) : Pt (n + 1) X M pc l r h Q := pt_1 (fun n d => r_sipush hf rfl) (k _ (toInt_s h1 h2))
theorem pt_ldc {z : Nat} {c : Int} (hf : aF pc M.2.2.2.2.2.2.2 = some (pc, (.ldc z), len, a, b)) (hc : c31 a = c) (k : ∀ x : Int32, x.toInt = c → Pt n X M (pc + 2) l (.int x :: r) h Q) (h1 : Nat.beq a 4294967296 = false := by decide) (h2 : a < 4294967296 := by decide) : Pt (n + 1) X M pc l r h Q := pt_1 (fun n d => r_ldc hf rfl h1) (k _ ((iz_of _ h2).trans hc))
theorem pt_lconst {z : Fin 2} {c : Int} (hf : aF pc M.2.2.2.2.2.2.2 = some (pc, (.lconst z), len, a, b)) (hc : ((z : Nat) : Int) = c) (k : ∀ x : Int64, x.toInt = c → Pt n X M (pc + 1) l (.long x :: r) h Q) : Pt (n + 1) X M pc l r h Q := pt_1 (fun n d => r_lconst hf rfl) (k _ (by
  subst hc
  match z with
  | 0 => rfl
  | 1 => rfl))
theorem pt_iadd {x y : Int32} (hf : aF pc M.2.2.2.2.2.2.2 = some (pc, .iadd, len, a, b)) (ha : x.toInt = A) (hb : y.toInt = B) (k : ∀ z : Int32, z.toInt = w32 (A + B) → Pt n X M (pc + 1) l (.int z :: r) h Q) : Pt (n + 1) X M pc l (.int y :: .int x :: r) h Q := pt_1 (fun n d => r_iadd hf rfl) (k _ (by rw [t_add, ha, hb]))
theorem pt_isub {x y : Int32} (hf : aF pc M.2.2.2.2.2.2.2 = some (pc, .isub, len, a, b)) (ha : x.toInt = A) (hb : y.toInt = B) (k : ∀ z : Int32, z.toInt = w32 (A - B) → Pt n X M (pc + 1) l (.int z :: r) h Q) : Pt (n + 1) X M pc l (.int y :: .int x :: r) h Q := pt_1 (fun n d => r_isub hf rfl) (k _ (by rw [t_sub, ha, hb]))
theorem pt_imul {x y : Int32} (hf : aF pc M.2.2.2.2.2.2.2 = some (pc, .imul, len, a, b)) (ha : x.toInt = A) (hb : y.toInt = B) (k : ∀ z : Int32, z.toInt = w32 (A * B) → Pt n X M (pc + 1) l (.int z :: r) h Q) : Pt (n + 1) X M pc l (.int y :: .int x :: r) h Q := pt_1 (fun n d => r_imul hf rfl) (k _ (by rw [t_mul, ha, hb]))
theorem pt_iand {x y : Int32} (hf : aF pc M.2.2.2.2.2.2.2 = some (pc, .iand, len, a, b)) (ha : x.toInt = A) (hb : y.toInt = B) (k : ∀ z : Int32, z.toInt = bAnd A B → Pt n X M (pc + 1) l (.int z :: r) h Q) : Pt (n + 1) X M pc l (.int y :: .int x :: r) h Q := pt_1 (fun n d => r_iand hf rfl) (k _ (by subst ha; subst hb; unfold bAnd; rw [oI, oI]))
theorem pt_ior {x y : Int32} (hf : aF pc M.2.2.2.2.2.2.2 = some (pc, .ior, len, a, b)) (ha : x.toInt = A) (hb : y.toInt = B) (k : ∀ z : Int32, z.toInt = bOr A B → Pt n X M (pc + 1) l (.int z :: r) h Q) : Pt (n + 1) X M pc l (.int y :: .int x :: r) h Q := pt_1 (fun n d => r_ior hf rfl) (k _ (by subst ha; subst hb; unfold bOr; rw [oI, oI]))
theorem pt_ixor {x y : Int32} (hf : aF pc M.2.2.2.2.2.2.2 = some (pc, .ixor, len, a, b)) (ha : x.toInt = A) (hb : y.toInt = B) (k : ∀ z : Int32, z.toInt = bXor A B → Pt n X M (pc + 1) l (.int z :: r) h Q) : Pt (n + 1) X M pc l (.int y :: .int x :: r) h Q := pt_1 (fun n d => r_ixor hf rfl) (k _ (by subst ha; subst hb; unfold bXor; rw [oI, oI]))
theorem pt_ishl {x y : Int32} (hf : aF pc M.2.2.2.2.2.2.2 = some (pc, .ishl, len, a, b)) (ha : x.toInt = A) (hb : y.toInt = B) (k : ∀ z : Int32, z.toInt = bShl A B → Pt n X M (pc + 1) l (.int z :: r) h Q) : Pt (n + 1) X M pc l (.int y :: .int x :: r) h Q := pt_1 (fun n d => r_ishl hf rfl) (k _ (by subst ha; subst hb; unfold bShl; rw [oI, oI]))
theorem pt_idiv {x y : Int32} (hf : aF pc M.2.2.2.2.2.2.2 = some (pc, .idiv, len, a, b)) (ha : x.toInt = A) (hb : y.toInt = B) (k : ∀ z : Int32, z.toInt = iDiv A B → Pt n X M (pc + 1) l (.int z :: r) h Q) : Pt (n + 1) X M pc l (.int y :: .int x :: r) h Q := pt_s fun m hm d v h2 e => by
  rw [arun_p hf rfl] at e
  simp only [aX1, tII] at e
  split at e
  · cases e
  · exact k _ (by subst ha; subst hb; unfold iDiv; simp only [oI]) m hm d v h2 e
theorem pt_irem {x y : Int32} (hf : aF pc M.2.2.2.2.2.2.2 = some (pc, .irem, len, a, b)) (ha : x.toInt = A) (hb : y.toInt = B) (k : ∀ z : Int32, z.toInt = iRem A B → Pt n X M (pc + 1) l (.int z :: r) h Q) : Pt (n + 1) X M pc l (.int y :: .int x :: r) h Q := pt_s fun m hm d v h2 e => by
  rw [arun_p hf rfl] at e
  simp only [aX1, tII] at e
  split at e
  · cases e
  · exact k _ (by subst ha; subst hb; unfold iRem; simp only [oI]) m hm d v h2 e
theorem pt_ineg {x : Int32} (hf : aF pc M.2.2.2.2.2.2.2 = some (pc, .ineg, len, a, b)) (ha : x.toInt = A) (k : ∀ z : Int32, z.toInt = w32 (-A) → Pt n X M (pc + 1) l (.int z :: r) h Q) : Pt (n + 1) X M pc l (.int x :: r) h Q := pt_1 (fun n d => r_ineg hf rfl) (k _ (by rw [t_neg, ha]))
theorem pt_i2l {x : Int32} (hf : aF pc M.2.2.2.2.2.2.2 = some (pc, .i2l, len, a, b)) (ha : x.toInt = A) (k : ∀ z : Int64, z.toInt = A → Pt n X M (pc + 1) l (.long z :: r) h Q) : Pt (n + 1) X M pc l (.int x :: r) h Q := pt_1 (fun n d => r_i2l hf rfl) (k _ (by rw [Int32.toInt_toInt64, ha]))
theorem pt_l2i {x : Int64} (hf : aF pc M.2.2.2.2.2.2.2 = some (pc, .l2i, len, a, b)) (ha : x.toInt = A) (k : ∀ z : Int32, z.toInt = w32 A → Pt n X M (pc + 1) l (.int z :: r) h Q) : Pt (n + 1) X M pc l (.long x :: r) h Q := pt_1 (fun n d => r_l2i hf rfl) (k _ (by rw [Int64.toInt_toInt32, w32_b, ha]))
theorem w8_b (z : Int) : z.bmod (2 ^ 8) = w8 z := by
  unfold w8
  have e : z.bmod (2 ^ 8) = z.bmod 256 := rfl
  rw [e, Int.bmod_def]
  split <;> omega
theorem w16_b (z : Int) : z.bmod (2 ^ 16) = w16 z := by
  unfold w16
  have e : z.bmod (2 ^ 16) = z.bmod 65536 := rfl
  rw [e, Int.bmod_def]
  split <;> omega
theorem pt_i2b {x : Int32} (hf : aF pc M.2.2.2.2.2.2.2 = some (pc, .i2b, len, a, b)) (ha : x.toInt = A) (k : ∀ z : Int32, z.toInt = w8 A → Pt n X M (pc + 1) l (.int z :: r) h Q) : Pt (n + 1) X M pc l (.int x :: r) h Q := pt_1 (fun n d => r_i2b hf rfl) (k _ (by subst ha; rw [Int8.toInt_toInt32, Int32.toInt_toInt8, w8_b]))
theorem pt_i2s {x : Int32} (hf : aF pc M.2.2.2.2.2.2.2 = some (pc, .i2s, len, a, b)) (ha : x.toInt = A) (k : ∀ z : Int32, z.toInt = w16 A → Pt n X M (pc + 1) l (.int z :: r) h Q) : Pt (n + 1) X M pc l (.int x :: r) h Q := pt_1 (fun n d => r_i2s hf rfl) (k _ (by subst ha; rw [Int16.toInt_toInt32, Int32.toInt_toInt16, w16_b]))
theorem pt_iinc {z : Nat} {c : Int} {x : Int32} (hf : aF pc M.2.2.2.2.2.2.2 = some (pc, (.iinc z c), len, a, b)) (hg : aG l z = some (.int x)) (ha : x.toInt = A) (k : ∀ (v : Int32), v.toInt = w32 (A + c) → Pt n X M (pc + 3) (aS1 l z (.int v)) r h Q) (h3 : -32768 ≤ c := by decide) (h4 : c ≤ 32767 := by decide) : Pt (n + 1) X M pc l r h Q := pt_1 (fun n d => r_iinc hf hg rfl rfl) (k _ (by rw [t_add, toInt_c h3 h4, ha]))
theorem pt_icmp {c : Jvm.ClassFile.Cond} {off : Int} {x y : Int32} (hf : aF pc M.2.2.2.2.2.2.2 = some (pc, (.if_icmp c off), len, a, b)) (ha : x.toInt = A) (hb : y.toInt = B) (k1 : dBr c A B = true → Pt n X M a l r h Q) (k2 : dBr c A B = false → Pt n X M (pc + 3) l r h Q) : Pt (n + 1) X M pc l (.int y :: .int x :: r) h Q := by
  subst ha
  subst hb
  cases e : dBr c x.toInt y.toInt with
  | true => exact pt_1 (fun n d => by rw [r_cmp hf, e]; rfl) (k1 e)
  | false => exact pt_1 (fun n d => by rw [r_cmp hf, e]; rfl) (k2 e)
theorem pt_if {c : Jvm.ClassFile.Cond} {off : Int} {x : Int32} (hf : aF pc M.2.2.2.2.2.2.2 = some (pc, (.ifCond c off), len, a, b)) (ha : x.toInt = A) (k1 : dBr c A 0 = true → Pt n X M a l r h Q) (k2 : dBr c A 0 = false → Pt n X M (pc + 3) l r h Q) : Pt (n + 1) X M pc l (.int x :: r) h Q := by
  subst ha
  cases e : dBr c x.toInt 0 with
  | true => exact pt_1 (fun n d => by rw [r_cond hf, e]; rfl) (k1 e)
  | false => exact pt_1 (fun n d => by rw [r_cond hf, e]; rfl) (k2 e)
theorem pt_icmp_eq {off : Int} {x y : Int32} (hf : aF pc M.2.2.2.2.2.2.2 = some (pc, (.if_icmp .eq off), len, a, b)) (ha : x.toInt = A) (hb : y.toInt = B) (k1 : A = B → Pt n X M a l r h Q) (k2 : A ≠ B → Pt n X M (pc + 3) l r h Q) : Pt (n + 1) X M pc l (.int y :: .int x :: r) h Q := pt_icmp hf ha hb (fun e => k1 (dBr_t (c := .eq) e)) (fun e => k2 (dBr_f (c := .eq) e))
theorem pt_if_eq {off : Int} {x : Int32} (hf : aF pc M.2.2.2.2.2.2.2 = some (pc, (.ifCond .eq off), len, a, b)) (ha : x.toInt = A) (k1 : A = 0 → Pt n X M a l r h Q) (k2 : A ≠ 0 → Pt n X M (pc + 3) l r h Q) : Pt (n + 1) X M pc l (.int x :: r) h Q := pt_if hf ha (fun e => k1 (dBr_t (c := .eq) e)) (fun e => k2 (dBr_f (c := .eq) e))
theorem pt_lcmp_eq {off : Int} {len2 a2 b2 : Nat} {x y : Int64} (hf : aF pc M.2.2.2.2.2.2.2 = some (pc, .lcmp, len, a, b)) (hg : aF (pc + 1) M.2.2.2.2.2.2.2 = some (pc + 1, (.ifCond .eq off), len2, a2, b2)) (ha : x.toInt = A) (hb : y.toInt = B) (k1 : A = B → Pt n X M a2 l r h Q) (k2 : A ≠ B → Pt n X M (pc + 1 + 3) l r h Q) : Pt (n + 1) X M pc l (.long y :: .long x :: r) h Q := pt_1 (fun n d => r_lcmp hf rfl) (pt_d (pt_if hg rfl (fun e => k1 (by subst ha; subst hb; exact dBr_t (c := .eq) (by rw [← dBr_lcmp]; exact e))) (fun e => k2 (by subst ha; subst hb; exact dBr_f (c := .eq) (by rw [← dBr_lcmp]; exact e)))))
theorem pt_icmp_ne {off : Int} {x y : Int32} (hf : aF pc M.2.2.2.2.2.2.2 = some (pc, (.if_icmp .ne off), len, a, b)) (ha : x.toInt = A) (hb : y.toInt = B) (k1 : A ≠ B → Pt n X M a l r h Q) (k2 : A = B → Pt n X M (pc + 3) l r h Q) : Pt (n + 1) X M pc l (.int y :: .int x :: r) h Q := pt_icmp hf ha hb (fun e => k1 (dBr_t (c := .ne) e)) (fun e => k2 (dBr_f (c := .ne) e))
theorem pt_if_ne {off : Int} {x : Int32} (hf : aF pc M.2.2.2.2.2.2.2 = some (pc, (.ifCond .ne off), len, a, b)) (ha : x.toInt = A) (k1 : A ≠ 0 → Pt n X M a l r h Q) (k2 : A = 0 → Pt n X M (pc + 3) l r h Q) : Pt (n + 1) X M pc l (.int x :: r) h Q := pt_if hf ha (fun e => k1 (dBr_t (c := .ne) e)) (fun e => k2 (dBr_f (c := .ne) e))
theorem pt_icmp_lt {off : Int} {x y : Int32} (hf : aF pc M.2.2.2.2.2.2.2 = some (pc, (.if_icmp .lt off), len, a, b)) (ha : x.toInt = A) (hb : y.toInt = B) (k1 : A < B → Pt n X M a l r h Q) (k2 : B ≤ A → Pt n X M (pc + 3) l r h Q) : Pt (n + 1) X M pc l (.int y :: .int x :: r) h Q := pt_icmp hf ha hb (fun e => k1 (dBr_t (c := .lt) e)) (fun e => k2 (dBr_f (c := .lt) e))
theorem pt_if_lt {off : Int} {x : Int32} (hf : aF pc M.2.2.2.2.2.2.2 = some (pc, (.ifCond .lt off), len, a, b)) (ha : x.toInt = A) (k1 : A < 0 → Pt n X M a l r h Q) (k2 : 0 ≤ A → Pt n X M (pc + 3) l r h Q) : Pt (n + 1) X M pc l (.int x :: r) h Q := pt_if hf ha (fun e => k1 (dBr_t (c := .lt) e)) (fun e => k2 (dBr_f (c := .lt) e))
theorem pt_icmp_ge {off : Int} {x y : Int32} (hf : aF pc M.2.2.2.2.2.2.2 = some (pc, (.if_icmp .ge off), len, a, b)) (ha : x.toInt = A) (hb : y.toInt = B) (k1 : B ≤ A → Pt n X M a l r h Q) (k2 : A < B → Pt n X M (pc + 3) l r h Q) : Pt (n + 1) X M pc l (.int y :: .int x :: r) h Q := pt_icmp hf ha hb (fun e => k1 (dBr_t (c := .ge) e)) (fun e => k2 (dBr_f (c := .ge) e))
theorem pt_if_ge {off : Int} {x : Int32} (hf : aF pc M.2.2.2.2.2.2.2 = some (pc, (.ifCond .ge off), len, a, b)) (ha : x.toInt = A) (k1 : 0 ≤ A → Pt n X M a l r h Q) (k2 : A < 0 → Pt n X M (pc + 3) l r h Q) : Pt (n + 1) X M pc l (.int x :: r) h Q := pt_if hf ha (fun e => k1 (dBr_t (c := .ge) e)) (fun e => k2 (dBr_f (c := .ge) e))
theorem pt_lcmp_ge {off : Int} {len2 a2 b2 : Nat} {x y : Int64} (hf : aF pc M.2.2.2.2.2.2.2 = some (pc, .lcmp, len, a, b)) (hg : aF (pc + 1) M.2.2.2.2.2.2.2 = some (pc + 1, (.ifCond .ge off), len2, a2, b2)) (ha : x.toInt = A) (hb : y.toInt = B) (k1 : B ≤ A → Pt n X M a2 l r h Q) (k2 : A < B → Pt n X M (pc + 1 + 3) l r h Q) : Pt (n + 1) X M pc l (.long y :: .long x :: r) h Q := pt_1 (fun n d => r_lcmp hf rfl) (pt_d (pt_if hg rfl (fun e => k1 (by subst ha; subst hb; exact dBr_t (c := .ge) (by rw [← dBr_lcmp]; exact e))) (fun e => k2 (by subst ha; subst hb; exact dBr_f (c := .ge) (by rw [← dBr_lcmp]; exact e)))))
theorem pt_icmp_gt {off : Int} {x y : Int32} (hf : aF pc M.2.2.2.2.2.2.2 = some (pc, (.if_icmp .gt off), len, a, b)) (ha : x.toInt = A) (hb : y.toInt = B) (k1 : B < A → Pt n X M a l r h Q) (k2 : A ≤ B → Pt n X M (pc + 3) l r h Q) : Pt (n + 1) X M pc l (.int y :: .int x :: r) h Q := pt_icmp hf ha hb (fun e => k1 (dBr_t (c := .gt) e)) (fun e => k2 (dBr_f (c := .gt) e))
theorem pt_lcmp_gt {off : Int} {len2 a2 b2 : Nat} {x y : Int64} (hf : aF pc M.2.2.2.2.2.2.2 = some (pc, .lcmp, len, a, b)) (hg : aF (pc + 1) M.2.2.2.2.2.2.2 = some (pc + 1, (.ifCond .gt off), len2, a2, b2)) (ha : x.toInt = A) (hb : y.toInt = B) (k1 : B < A → Pt n X M a2 l r h Q) (k2 : A ≤ B → Pt n X M (pc + 1 + 3) l r h Q) : Pt (n + 1) X M pc l (.long y :: .long x :: r) h Q := pt_1 (fun n d => r_lcmp hf rfl) (pt_d (pt_if hg rfl (fun e => k1 (by subst ha; subst hb; exact dBr_t (c := .gt) (by rw [← dBr_lcmp]; exact e))) (fun e => k2 (by subst ha; subst hb; exact dBr_f (c := .gt) (by rw [← dBr_lcmp]; exact e)))))
theorem pt_icmp_le {off : Int} {x y : Int32} (hf : aF pc M.2.2.2.2.2.2.2 = some (pc, (.if_icmp .le off), len, a, b)) (ha : x.toInt = A) (hb : y.toInt = B) (k1 : A ≤ B → Pt n X M a l r h Q) (k2 : B < A → Pt n X M (pc + 3) l r h Q) : Pt (n + 1) X M pc l (.int y :: .int x :: r) h Q := pt_icmp hf ha hb (fun e => k1 (dBr_t (c := .le) e)) (fun e => k2 (dBr_f (c := .le) e))
theorem pt_if_le {off : Int} {x : Int32} (hf : aF pc M.2.2.2.2.2.2.2 = some (pc, (.ifCond .le off), len, a, b)) (ha : x.toInt = A) (k1 : A ≤ 0 → Pt n X M a l r h Q) (k2 : 0 < A → Pt n X M (pc + 3) l r h Q) : Pt (n + 1) X M pc l (.int x :: r) h Q := pt_if hf ha (fun e => k1 (dBr_t (c := .le) e)) (fun e => k2 (dBr_f (c := .le) e))
theorem pt_ifB_eq {off : Int} {x : Int32} {C : Prop} (hf : aF pc M.2.2.2.2.2.2.2 = some (pc, (.ifCond .eq off), len, a, b)) (ha : x.toInt = bI C) (k1 : ¬ C → Pt n X M a l r h Q) (k2 : C → Pt n X M (pc + 3) l r h Q) : Pt (n + 1) X M pc l (.int x :: r) h Q := pt_if_eq hf ha (fun e => k1 (bI_0.mp e)) (fun e => k2 (Classical.byContradiction (fun q => e (bI_0.mpr q))))
theorem pt_ifB_ne {off : Int} {x : Int32} {C : Prop} (hf : aF pc M.2.2.2.2.2.2.2 = some (pc, (.ifCond .ne off), len, a, b)) (ha : x.toInt = bI C) (k1 : C → Pt n X M a l r h Q) (k2 : ¬ C → Pt n X M (pc + 3) l r h Q) : Pt (n + 1) X M pc l (.int x :: r) h Q := pt_if_ne hf ha (fun e => k1 (Classical.byContradiction (fun q => e (bI_0.mpr q)))) (fun e => k2 (bI_0.mp e))
def Pa (n : Nat) (X : aX) (M : aM) (pc : Nat) (l : aL) (r : List Value) (h : aH) (Q : Option Value → aH → Prop) (x : Int32) (dd lo : Int) (os : List Int) : Prop := ∀ m, m ≤ n → ∀ d v h', asw x (fun q => arun X m d M ((pc : Int) + q).toNat l r h) dd lo os = some (v, h') → Q v h'
theorem pa_0 {x : Int32} {dd lo : Int} {p : Nat} (k : Pt n X M p l r h Q) (hp : ((pc : Int) + dd).toNat = p := by rfl) : Pa n X M pc l r h Q x dd lo [] := fun m hm d v h2 e => k m hm d v h2 (by subst hp; exact e)
theorem pa_c {x : Int32} {dd lo lo' o : Int} {os : List Int} {p : Nat} (ha : x.toInt = A) (k1 : A = lo → Pt n X M p l r h Q) (k2 : A ≠ lo → Pa n X M pc l r h Q x dd lo' os) (hp : ((pc : Int) + o).toNat = p := by rfl) (hl : lo + 1 = lo' := by rfl) (h1 : -2147483648 ≤ lo := by decide) (h2 : lo ≤ 2147483647 := by decide) : Pa n X M pc l r h Q x dd lo (o :: os) := fun m hm d v h3 e => by
  have el : (Int32.ofInt lo).toInt = lo := Int32.toInt_ofInt_of_le (by omega) (by omega)
  unfold asw at e
  split at e
  · rename_i q
    subst hp
    exact k1 (by rw [← ha, q, el]) m hm d v h3 e
  · rename_i q
    subst hl
    exact k2 (fun z => q (b_i.mpr (by rw [el, ha, z]))) m hm d v h3 e
theorem pt_tsw {x : Int32} {dd lo hi : Int} {os : Array Int} (hf : aF pc M.2.2.2.2.2.2.2 = some (pc, (.tableswitch dd lo hi os), len, a, b)) (k : Pa n X M pc l r h Q x dd lo os.toList) : Pt (n + 1) X M pc l (.int x :: r) h Q := pt_s fun m hm d v h2 e => k m hm d v h2 ((r_tsw hf).symm.trans e)
def Pb (n : Nat) (X : aX) (M : aM) (pc : Nat) (l : aL) (r : List Value) (h : aH) (Q : Option Value → aH → Prop) (x : Int32) (dd : Int) (os : List (Int × Int)) : Prop := ∀ m, m ≤ n → ∀ d v h', alw x (fun q => arun X m d M ((pc : Int) + q).toNat l r h) dd os = some (v, h') → Q v h'
theorem i_get {ix o m d : Nat} {z : aR} (hf : aF pc M.2.2.2.2.2.2.2 = some (pc, (.getfield ix), len, a, b)) (e : arun X (m + 1) d M pc l (.ref o :: r) h = some z) : ∃ (fs : List Value) (v : Value), h.1[o]? = some (.inr (a, fs)) ∧ fs[b]? = some v ∧ arun X m d M (pc + 3) l (v :: r) h = some z := by
  rw [arun_p hf rfl] at e
  simp only [aX1, aobj] at e
  split at e
  · rename_i ci fs hc
    cases hb : Nat.beq ci a with
    | false => simp only [hb, cond_false] at e; cases e
    | true =>
      simp only [hb, cond_true] at e
      rw [Nat.eq_of_beq_eq_true hb] at hc
      split at e
      · rename_i v hv
        exact ⟨fs, v, hc, hv, e⟩
      · cases e
  · cases e
def iY (a b : Nat) : Bool := match zY a b with
  | .int => true
  | .boolean => true
  | _ => false
theorem iY_v {v : Value} (h : iY a b = true) (k : aok (zY a b) v = true) : ∃ x : Int32, v = .int x := by
  unfold iY at h
  split at h
  · rename_i e
    rw [e] at k
    cases v <;> first | exact ⟨_, rfl⟩ | cases k
  · rename_i e
    rw [e] at k
    cases v <;> first | exact ⟨_, rfl⟩ | cases k
  · cases h
theorem pt_getI {ix o : Nat} (hf : aF pc M.2.2.2.2.2.2.2 = some (pc, (.getfield ix), len, a, b)) (S : wS h) (k : ∀ x : Int32, x.toInt = vw h o B → Pt n X M (pc + 3) l (.int x :: r) h Q) (hB : ((b : Nat) : Int) = B := by rfl) (hy : iY a b = true := by decide +kernel) : Pt (n + 1) X M pc l (.ref o :: r) h Q := pt_s fun m hm d v h2 e => by
  obtain ⟨fs, v1, e1, e2, e3⟩ := i_get hf e
  obtain ⟨x, rfl⟩ := iY_v hy (S.1 _ _ _ _ _ e1 e2)
  exact k x (by rw [← hB, vw_o e1 e2]; rfl) m hm d v h2 e3
theorem pt_getR {ix o q : Nat} (hf : aF pc M.2.2.2.2.2.2.2 = some (pc, (.getfield ix), len, a, b)) (S : wS h) (tk : tkR o b q = true) (k : Pt n X M (pc + 3) l (.ref q :: r) h Q) : Pt (n + 1) X M pc l (.ref o :: r) h Q := pt_s fun m hm d v h2 e => by
  obtain ⟨fs, v1, e1, e2, e3⟩ := i_get hf e
  obtain ⟨ci, fs', c1, c2⟩ := S.2.1 _ _ _ tk
  rw [e1] at c1
  cases c1
  rw [e2] at c2
  cases c2
  exact k m hm d v h2 e3
theorem i_put {ix o m d : Nat} {z : aR} {x : Value} (hf : aF pc M.2.2.2.2.2.2.2 = some (pc, (.putfield ix), len, a, b)) (e : arun X (m + 1) d M pc l (x :: .ref o :: r) h = some z) : ∃ (fs : List Value), h.1[o]? = some (.inr (a, fs)) ∧ aok (zY a b) x = true ∧ b < fs.length ∧ arun X m d M (pc + 3) l r (h.1.set o (.inr (a, fs.set b x)), h.2) = some z := by
  rw [arun_p hf rfl] at e
  simp only [aX1, aobj] at e
  split at e
  · rename_i ci fs hc
    cases hb : Nat.beq ci a with
    | false => simp only [hb, cond_false] at e; cases e
    | true =>
      simp only [hb, cond_true] at e
      rw [Nat.eq_of_beq_eq_true hb] at hc
      cases hq : ((!(zT a b).2.2.2 || Nat.beq M.2.2.2.2.2.2.1 2 && Nat.beq M.1 a) && aok (zY a b) x && Nat.blt b fs.length) with
      | false => rw [hq] at e; cases e
      | true =>
        rw [hq] at e
        simp only [cond_true] at e
        simp only [Bool.and_eq_true, Nat.blt_eq] at hq
        exact ⟨fs, hc, hq.1.2, hq.2, e⟩
  · cases e
theorem pt_putI {ix o : Nat} {x : Int32} (hf : aF pc M.2.2.2.2.2.2.2 = some (pc, (.putfield ix), len, a, b)) (S : wS h) (ha : x.toInt = A) (k : ∀ h', wS h' → vw h' = up (vw h) o B A → Pt n X M (pc + 3) l r h' Q) (hB : ((b : Nat) : Int) = B := by rfl) (tn : tkN o b = true := by decide +kernel) : Pt (n + 1) X M pc l (.int x :: .ref o :: r) h Q := pt_s fun m hm d v h2 e => by
  obtain ⟨fs, e1, e2, e3, e4⟩ := i_put hf e
  exact k _ (wS_obj S e1 e2 (tkN_R tn)) (by rw [vw_obj e1 e3, ← hB, ← ha]; rfl) m hm d v h2 e4
theorem ix_in {j : Int32} {N : Nat} (h : ¬ (j < 0 ∨ N ≤ j.toNatClampNeg)) : 0 ≤ j.toInt ∧ j.toInt < (N : Int) := by
  rw [Int32.lt_iff_toInt_lt, i_zero, ← Int32.toNat_toInt] at h
  omega
theorem tk_n {o t N t' N' : Nat} {y : (Nat → Int32) ⊕ (Nat → Int64) ⊕ (Nat → UInt32) ⊕ (Nat → UInt64) ⊕ (Nat → Option Nat)} (S : wS h) (tk : tkL o t N = true) (c : h.1[o]? = some (.inl (t', N', y))) : t' = t ∧ N' = N := by
  have := S.2.2 _ _ _ tk
  unfold tyA at this
  rw [c] at this
  cases this
  exact ⟨rfl, rfl⟩
theorem i_iald {o m d : Nat} {j : Int32} {z : aR} (hf : aF pc M.2.2.2.2.2.2.2 = some (pc, .iaload, len, a, b)) (e : arun X (m + 1) d M pc l (.int j :: .ref o :: r) h = some z) : ∃ (t N : Nat) (g : Nat → Int32), h.1[o]? = some (.inl (t, N, .inl g)) ∧ 0 ≤ j.toInt ∧ j.toInt < (N : Int) ∧ arun X m d M (pc + 1) l (.int (g j.toInt.toNat) :: r) h = some z := by
  rw [arun_p hf rfl] at e
  simp only [aX1, aarI] at e
  split at e
  · rename_i t N g hc
    cases ht : Nat.beq t 0 with
    | false => simp only [ht, cond_false] at e; cases e
    | true =>
      simp only [ht, cond_true] at e
      split at e
      · cases e
      · rename_i hj
        obtain ⟨q1, q2⟩ := ix_in hj
        rw [← Int32.toNat_toInt] at e
        exact ⟨t, N, g, hc, q1, q2, e⟩
  · cases e
theorem pt_iald {o N : Nat} {N' : Int} {j : Int32} (hf : aF pc M.2.2.2.2.2.2.2 = some (pc, .iaload, len, a, b)) (S : wS h) (tk : tkL o 0 N = true) (ha : j.toInt = A) (k : ∀ x : Int32, 0 ≤ A → A < N' → x.toInt = vw h o A → Pt n X M (pc + 1) l (.int x :: r) h Q) (hN : ((N : Nat) : Int) = N' := by rfl) : Pt (n + 1) X M pc l (.int j :: .ref o :: r) h Q := pt_s fun m hm d v h2 e => by
  obtain ⟨t, N0, g, e1, e2, e3, e4⟩ := i_iald hf e
  obtain ⟨-, rfl⟩ := tk_n S tk e1
  subst ha
  exact k _ e2 (by omega) (by rw [vw_a e1 e2]; rfl) m hm d v h2 e4
theorem i_lald {o m d : Nat} {j : Int32} {z : aR} (hf : aF pc M.2.2.2.2.2.2.2 = some (pc, .laload, len, a, b)) (e : arun X (m + 1) d M pc l (.int j :: .ref o :: r) h = some z) : ∃ (t N : Nat) (g : Nat → Int64), h.1[o]? = some (.inl (t, N, .inr (.inl g))) ∧ 0 ≤ j.toInt ∧ j.toInt < (N : Int) ∧ arun X m d M (pc + 1) l (.long (g j.toInt.toNat) :: r) h = some z := by
  rw [arun_p hf rfl] at e
  simp only [aX1, aarJ] at e
  split at e
  · rename_i N g hc
    split at e
    · cases e
    · rename_i hj
      obtain ⟨q1, q2⟩ := ix_in hj
      rw [← Int32.toNat_toInt] at e
      exact ⟨1, N, g, hc, q1, q2, e⟩
  · cases e
theorem pt_lald {o N : Nat} {N' : Int} {j : Int32} (hf : aF pc M.2.2.2.2.2.2.2 = some (pc, .laload, len, a, b)) (S : wS h) (tk : tkL o 1 N = true) (ha : j.toInt = A) (k : ∀ x : Int64, 0 ≤ A → A < N' → x.toInt = vw h o A → Pt n X M (pc + 1) l (.long x :: r) h Q) (hN : ((N : Nat) : Int) = N' := by rfl) : Pt (n + 1) X M pc l (.int j :: .ref o :: r) h Q := pt_s fun m hm d v h2 e => by
  obtain ⟨t, N0, g, e1, e2, e3, e4⟩ := i_lald hf e
  obtain ⟨-, rfl⟩ := tk_n S tk e1
  subst ha
  exact k _ e2 (by omega) (by rw [vw_a e1 e2]; rfl) m hm d v h2 e4
theorem i_iast {o m d : Nat} {j x : Int32} {z : aR} (hf : aF pc M.2.2.2.2.2.2.2 = some (pc, .iastore, len, a, b)) (e : arun X (m + 1) d M pc l (.int x :: .int j :: .ref o :: r) h = some z) : ∃ (N : Nat) (g : Nat → Int32), h.1[o]? = some (.inl (0, N, .inl g)) ∧ 0 ≤ j.toInt ∧ j.toInt < (N : Int) ∧ arun X m d M (pc + 1) l r (h.1.set o (.inl (0, N, .inl (upd g j.toInt.toNat x))), h.2) = some z := by
  rw [arun_p hf rfl] at e
  simp only [aX1, aarI] at e
  split at e
  · rename_i t N g hc
    cases ht : Nat.beq t 0 with
    | false => simp only [ht, cond_false] at e; cases e
    | true =>
      simp only [ht, cond_true] at e
      rw [Nat.eq_of_beq_eq_true ht] at hc
      split at e
      · cases e
      · rename_i hj
        obtain ⟨q1, q2⟩ := ix_in hj
        rw [← Int32.toNat_toInt] at e
        exact ⟨N, g, hc, q1, q2, e⟩
  · cases e
theorem vA_upd {g : Nat → Int32} {j x : Int32} {A B : Int} (ha : j.toInt = A) (hb : x.toInt = B) : ∀ k : Nat, vA (.inl (upd g j.toInt.toNat x)) k = if k = A.toNat then B else vA (.inl g) k := by
  subst ha
  subst hb
  intro k
  unfold vA upd
  dsimp only
  split
  · rfl
  · rfl
theorem pt_iast {o N : Nat} {N' : Int} {j x : Int32} (hf : aF pc M.2.2.2.2.2.2.2 = some (pc, .iastore, len, a, b)) (S : wS h) (tk : tkL o 0 N = true) (ha : j.toInt = A) (hb : x.toInt = B) (k : ∀ h', wS h' → 0 ≤ A → A < N' → vw h' = up (vw h) o A B → Pt n X M (pc + 1) l r h' Q) (hN : ((N : Nat) : Int) = N' := by rfl) : Pt (n + 1) X M pc l (.int x :: .int j :: .ref o :: r) h Q := pt_s fun m hm d v h2 e => by
  obtain ⟨N0, g, e1, e2, e3, e4⟩ := i_iast hf e
  obtain ⟨-, rfl⟩ := tk_n S tk e1
  exact k _ (wS_arr S e1) (by omega) (by omega) (vw_arr e1 (by omega) (vA_upd ha hb)) m hm d v h2 e4
theorem i_last {o m d : Nat} {j : Int32} {x : Int64} {z : aR} (hf : aF pc M.2.2.2.2.2.2.2 = some (pc, .lastore, len, a, b)) (e : arun X (m + 1) d M pc l (.long x :: .int j :: .ref o :: r) h = some z) : ∃ (N : Nat) (g : Nat → Int64), h.1[o]? = some (.inl (1, N, .inr (.inl g))) ∧ 0 ≤ j.toInt ∧ j.toInt < (N : Int) ∧ arun X m d M (pc + 1) l r (h.1.set o (.inl (1, N, .inr (.inl (vp_updL g j.toInt.toNat x)))), h.2) = some z := by
  rw [arun_p hf rfl] at e
  simp only [aX1, aarJ] at e
  split at e
  · rename_i N g hc
    split at e
    · cases e
    · rename_i hj
      obtain ⟨q1, q2⟩ := ix_in hj
      rw [← Int32.toNat_toInt] at e
      exact ⟨N, g, hc, q1, q2, e⟩
  · cases e
theorem pt_last {o N : Nat} {N' : Int} {j : Int32} {x : Int64} (hf : aF pc M.2.2.2.2.2.2.2 = some (pc, .lastore, len, a, b)) (S : wS h) (tk : tkL o 1 N = true) (ha : j.toInt = A) (hb : x.toInt = B) (k : ∀ h', wS h' → 0 ≤ A → A < N' → vw h' = up (vw h) o A B → Pt n X M (pc + 1) l r h' Q) (hN : ((N : Nat) : Int) = N' := by rfl) : Pt (n + 1) X M pc l (.long x :: .int j :: .ref o :: r) h Q := pt_s fun m hm d v h2 e => by
  obtain ⟨N0, g, e1, e2, e3, e4⟩ := i_last hf e
  obtain ⟨-, rfl⟩ := tk_n S tk e1
  exact k _ (wS_arr S e1) (by omega) (by omega) (vw_arr e1 (by omega) (by
    subst ha
    subst hb
    intro k
    unfold vA vp_updL
    dsimp only
    split
    · rfl
    · rfl)) m hm d v h2 e4
theorem pt_alen {o t N : Nat} {N' : Int} (hf : aF pc M.2.2.2.2.2.2.2 = some (pc, .arraylength, len, a, b)) (S : wS h) (tk : tkL o t N = true) (k : ∀ x : Int32, x.toInt = N' → Pt n X M (pc + 1) l (.int x :: r) h Q) (hN : ((N : Nat) : Int) = N' := by rfl) (hb : N < 2147483648 := by decide) : Pt (n + 1) X M pc l (.ref o :: r) h Q := pt_s fun m hm d v h2 e => by
  have en : (Int32.ofNat N).toInt = N' := by rw [← hN]; exact Int32.toInt_ofNat_of_lt (by omega)
  rw [arun_p hf rfl] at e
  simp only [aX1] at e
  split at e
  · rename_i N0 y hc
    obtain ⟨-, rfl⟩ := tk_n S tk hc
    exact k _ en m hm d v h2 e
  · rename_i N0 y hc
    obtain ⟨-, rfl⟩ := tk_n S tk hc
    exact k _ en m hm d v h2 e
  · cases e
theorem pt_xald {x : Nat} {j : Int32} {N : Nat} {N' : Int} {g : Nat → Int32} (hf : aF pc M.2.2.2.2.2.2.2 = some (pc, .iaload, len, a, b)) (hX : X x = some (N, g)) (ha : j.toInt = A) (k : ∀ y : Int32, 0 ≤ A → A < N' → y.toInt = (g A.toNat).toInt → Pt n X M (pc + 1) l (.int y :: r) h Q) (hN : ((N : Nat) : Int) = N' := by rfl) : Pt (n + 1) X M pc l (.int j :: .retAddr x :: r) h Q := pt_s fun m hm d v h2 e => by
  rw [arun_p hf rfl] at e
  simp only [aX1, hX] at e
  split at e
  · cases e
  · rename_i hj
    obtain ⟨q1, q2⟩ := ix_in hj
    rw [← Int32.toNat_toInt] at e
    subst ha
    exact k _ q1 (by omega) rfl m hm d v h2 e
theorem pt_iret {x : Int32} (hf : aF pc M.2.2.2.2.2.2.2 = some (pc, .ireturn, len, a, b)) (k : Q (some (.int x)) h) : Pt (n + 1) X M pc l [.int x] h Q := pt_s fun m hm d v h2 e => by
  unfold arun at e
  simp only [hf] at e
  unfold aretI at e
  split at e
  · cases e; exact k
  · split at e
    · cases e; exact k
    · cases e
  · cases e
theorem pt_lret {x : Int64} (hf : aF pc M.2.2.2.2.2.2.2 = some (pc, .lreturn, len, a, b)) (k : Q (some (.long x)) h) : Pt (n + 1) X M pc l [.long x] h Q := pt_s fun m hm d v h2 e => by
  unfold arun at e
  simp only [hf] at e
  split at e
  · rename_i q _
    cases q
    cases e; exact k
  · cases e
theorem pt_vret (hf : aF pc M.2.2.2.2.2.2.2 = some (pc, .return_, len, a, b)) (k : Q none h) : Pt (n + 1) X M pc l [] h Q := pt_s fun m hm d v h2 e => by
  unfold arun at e
  simp only [hf] at e
  split at e
  · cases e; exact k
  · cases e
theorem i_back {d : Nat} {callee : Nat → Option aR} {kk : List Value → aH → Option aR} {z : aR} (e : aback d r callee kk = some z) : ∃ (d' : Nat) (v : Option Value) (h1 : aH), d = d' + 1 ∧ callee d' = some (v, h1) ∧ kk (v.toList ++ r) h1 = some z := by
  unfold aback at e
  split at e
  · cases e
  · rename_i d'
    cases hb : Nat.ble (aws r) 8 with
    | false => simp only [hb, cond_false] at e; cases e
    | true =>
      simp only [hb, cond_true] at e
      split at e
      · rename_i q hq
        exact ⟨d', q.1, q.2, rfl, hq, e⟩
      · cases e
theorem pt_stat {ix : Nat} {Y : aM} {as : List Value} {L1 : aL} {Qc : Option Value → aH → Prop} (hf : aF pc M.2.2.2.2.2.2.2 = some (pc, (.invokestatic ix), len, a, b)) (ha : (Nat.beq a 1002 || Nat.ble 1010 a) = false) (hY : zmt[a]? = some Y) (hk : Y.2.2.2.2.2.2.1 = 1) (hst : st = as.reverse ++ r) (hn : as.length = Y.2.2.2.2.2.1) (hL : aE Y.2.2.2.1 as = L1) (c : Pt n X Y 0 L1 [] h Qc) (k : ∀ v h1, Qc v h1 → Pt n X M (pc + 3) l (v.toList ++ r) h1 Q) : Pt (n + 1) X M pc l st h Q := pt_s fun m hm d v h2 e => by
  unfold arun at e
  simp only [hf] at e
  subst hst
  subst hL
  obtain ⟨ha1, ha2⟩ := Bool.or_eq_false_iff.mp ha
  simp only [ha1, ha2, cond_false, hY, show Nat.beq Y.2.2.2.2.2.2.1 1 = true from by rw [hk]; rfl, cond_true, acut_eq hn, aent] at e
  cases hw : Nat.ble (aws as) Y.2.2.2.1 with
  | false => simp only [hw, cond_false] at e; cases e
  | true =>
    simp only [hw, cond_true] at e
    obtain ⟨d', v1, h1, -, e1, e2⟩ := i_back e
    exact k v1 h1 (c m hm d' v1 h1 e1) m hm d v h2 e2
theorem pt_virt {ix o : Nat} {Y : aM} {as : List Value} {L1 : aL} {Qc : Option Value → aH → Prop} (hf : aF pc M.2.2.2.2.2.2.2 = some (pc, (.invokevirtual ix), len, a, b)) (ha : Nat.beq a 1001 = false) (hY : zmt[a]? = some Y) (hk : Y.2.2.2.2.2.2.1 = 0) (hst : st = as.reverse ++ .ref o :: r) (hn : as.length = Y.2.2.2.2.2.1) (hL : aE Y.2.2.2.1 (.ref o :: as) = L1) (c : Pt n X Y 0 L1 [] h Qc) (k : ∀ v h1, Qc v h1 → Pt n X M (pc + 3) l (v.toList ++ r) h1 Q) : Pt (n + 1) X M pc l st h Q := pt_s fun m hm d v h2 e => by
  unfold arun at e
  simp only [hf] at e
  subst hst
  subst hL
  simp only [ha, cond_false, hY, show Nat.beq Y.2.2.2.2.2.2.1 0 = true from by rw [hk]; rfl, cond_true, acut_eq hn, aobj, aent] at e
  split at e
  · rename_i ci fs hc
    cases hb : Nat.beq ci Y.1 with
    | false => simp only [hb, cond_false] at e; cases e
    | true =>
      simp only [hb, cond_true] at e
      cases hw : Nat.ble (aws (.ref o :: as)) Y.2.2.2.1 with
      | false => simp only [hw, cond_false] at e; cases e
      | true =>
        simp only [hw, cond_true] at e
        obtain ⟨d', v1, h1, -, e1, e2⟩ := i_back e
        exact k v1 h1 (c m hm d' v1 h1 e1) m hm d v h2 e2
  · cases e
theorem kqP {E : Int} (k : ∀ x : Int32, x.toInt = E → Pt n X M pc l (.int x :: r) h Q) : ∀ v h1, qI (fun y h' => h' = h ∧ y = E) v h1 → Pt n X M pc l (v.toList ++ r) h1 Q := by
  rintro v h1 ⟨x, rfl, rfl, e⟩
  exact k x e
theorem kqPJ {E : Int} (k : ∀ x : Int64, x.toInt = E → Pt n X M pc l (.long x :: r) h Q) : ∀ v h1, qJ (fun y h' => h' = h ∧ y = E) v h1 → Pt n X M pc l (v.toList ++ r) h1 Q := by
  rintro v h1 ⟨x, rfl, rfl, e⟩
  exact k x e
theorem kqI {P : Int → aH → Prop} (k : ∀ (x : Int32) (y : Int) (h1 : aH), x.toInt = y → P y h1 → Pt n X M pc l (.int x :: r) h1 Q) : ∀ v h1, qI P v h1 → Pt n X M pc l (v.toList ++ r) h1 Q := by
  rintro v h1 ⟨x, rfl, e⟩
  exact k x _ h1 rfl e
theorem kqN {P : aH → Prop} (k : ∀ (h1 : aH), P h1 → Pt n X M pc l r h1 Q) : ∀ v h1, qN P v h1 → Pt n X M pc l (v.toList ++ r) h1 Q := by
  rintro v h1 ⟨rfl, e⟩
  exact k h1 e
theorem kqPN (k : Pt n X M pc l r h Q) : ∀ v h1, qN (fun h' => h' = h) v h1 → Pt n X M pc l (v.toList ++ r) h1 Q := by
  rintro v h1 ⟨rfl, rfl⟩
  exact k
theorem pt_none (hf : aF pc M.2.2.2.2.2.2.2 = none) : Pt n X M pc l st h Q := fun m hm d v h2 e => by
  cases m with
  | zero => unfold arun at e; cases e
  | succ m =>
    unfold arun at e
    simp only [hf] at e
    cases e
theorem pt_max {ix : Nat} {x y : Int32} (hf : aF pc M.2.2.2.2.2.2.2 = some (pc, (.invokestatic ix), len, a, b)) (ha1 : a = 1010) (ha : x.toInt = A) (hb : y.toInt = B) (k : ∀ z : Int32, z.toInt = max A B → Pt n X M (pc + 3) l (.int z :: r) h Q) : Pt (n + 1) X M pc l (.int y :: .int x :: r) h Q := pt_s fun m hm d v h2 e => by
  have ev : (if x < y then y else x).toInt = max A B := by
    subst ha
    subst hb
    split
    · rename_i q; rw [Int32.lt_iff_toInt_lt] at q; omega
    · rename_i q; rw [Int32.lt_iff_toInt_lt] at q; omega
  unfold arun at e
  simp only [hf] at e
  subst ha1
  simp only [show Nat.beq 1010 1002 = false from rfl, cond_false, show Nat.ble 1010 1010 = true from rfl, cond_true] at e
  cases d with
  | zero => unfold amath at e; cases e
  | succ d =>
    simp only [amath, tII, tJJ] at e
    cases hb2 : Nat.ble (aws r) 8 with
    | false => simp only [hb2, cond_false] at e; cases e
    | true =>
      simp only [hb2, cond_true] at e
      exact k _ ev m hm _ v h2 e
theorem pt_min {ix : Nat} {x y : Int32} (hf : aF pc M.2.2.2.2.2.2.2 = some (pc, (.invokestatic ix), len, a, b)) (ha1 : a = 1011) (ha : x.toInt = A) (hb : y.toInt = B) (k : ∀ z : Int32, z.toInt = min A B → Pt n X M (pc + 3) l (.int z :: r) h Q) : Pt (n + 1) X M pc l (.int y :: .int x :: r) h Q := pt_s fun m hm d v h2 e => by
  have ev : (if y < x then y else x).toInt = min A B := by
    subst ha
    subst hb
    split
    · rename_i q; rw [Int32.lt_iff_toInt_lt] at q; omega
    · rename_i q; rw [Int32.lt_iff_toInt_lt] at q; omega
  unfold arun at e
  simp only [hf] at e
  subst ha1
  simp only [show Nat.beq 1011 1002 = false from rfl, cond_false, show Nat.ble 1010 1011 = true from rfl, cond_true] at e
  cases d with
  | zero => unfold amath at e; cases e
  | succ d =>
    simp only [amath, tII, tJJ] at e
    cases hb2 : Nat.ble (aws r) 8 with
    | false => simp only [hb2, cond_false] at e; cases e
    | true =>
      simp only [hb2, cond_true] at e
      exact k _ ev m hm _ v h2 e
theorem pt_abs {ix : Nat} {x : Int32} (hf : aF pc M.2.2.2.2.2.2.2 = some (pc, (.invokestatic ix), len, a, b)) (ha1 : a = 1012) (ha : x.toInt = A) (k : ∀ z : Int32, z.toInt = iAbs A → Pt n X M (pc + 3) l (.int z :: r) h Q) : Pt (n + 1) X M pc l (.int x :: r) h Q := pt_s fun m hm d v h2 e => by
  have ev : (if 0 ≤ x then x else 0 - x).toInt = iAbs A := by
    subst ha
    unfold iAbs
    split
    · rename_i q; rw [Int32.le_iff_toInt_le, i_zero] at q; rw [if_pos q]
    · rename_i q; rw [Int32.le_iff_toInt_le, i_zero] at q; rw [if_neg q, t_sub, i_zero, Int.zero_sub]
  unfold arun at e
  simp only [hf] at e
  subst ha1
  simp only [show Nat.beq 1012 1002 = false from rfl, cond_false, show Nat.ble 1010 1012 = true from rfl, cond_true] at e
  cases d with
  | zero => unfold amath at e; cases e
  | succ d =>
    simp only [amath, tI] at e
    cases hb2 : Nat.ble (aws r) 8 with
    | false => simp only [hb2, cond_false] at e; cases e
    | true =>
      simp only [hb2, cond_true] at e
      exact k _ ev m hm _ v h2 e
theorem pt_copy {ix o1 o2 : Nat} {x y z : Int32} {C : Int} (hf : aF pc M.2.2.2.2.2.2.2 = some (pc, (.invokestatic ix), len, a, b)) (ha1 : a = 1002) (S : wS h) (ha : x.toInt = A) (hb : y.toInt = B) (hc : z.toInt = C) (k : ∀ h', wS h' → 0 ≤ A → 0 ≤ B → 0 ≤ C → vw h' = cpy (vw h) o1 A o2 B C → Pt n X M (pc + 3) l r h' Q) : Pt (n + 1) X M pc l (.int z :: .int y :: .ref o2 :: .int x :: .ref o1 :: r) h Q := pt_s fun m hm d v h2 e => by
  have key : ∀ {t n0 n1 : Nat} {α : (Nat → Int32) ⊕ (Nat → Int64) ⊕ (Nat → UInt32) ⊕ (Nat → UInt64) ⊕ (Nat → Option Nat)} {β γ : (Nat → Int32) ⊕ (Nat → Int64) ⊕ (Nat → UInt32) ⊕ (Nat → UInt64) ⊕ (Nat → Option Nat)}, h.1[o1]? = some (.inl (t, n0, α)) → h.1[o2]? = some (.inl (t, n1, β)) → 0 ≤ A → 0 ≤ B → 0 ≤ C → (∀ k : Nat, vA γ k = if B.toNat ≤ k ∧ k < B.toNat + C.toNat then vA α (A.toNat + (k - B.toNat)) else vA β k) → vw (h.1.set o2 (.inl (t, n1, γ)), h.2) = cpy (vw h) o1 A o2 B C := by
    intro t n0 n1 α β γ c1 c2 p1 p2 p3 hv
    funext c' j'
    unfold cpy
    by_cases q : c' = o2
    · subst q
      by_cases q2 : j' < 0
      · rw [if_neg (by omega)]
        unfold vw
        rw [if_pos q2, if_pos q2]
      · rw [vw_a (set_eq' c2) (by omega), hv]
        by_cases q3 : B ≤ j' ∧ j' < B + C
        · rw [if_pos ⟨by omega, by omega⟩, if_pos ⟨rfl, q3.1, q3.2⟩, vw_a c1 (by omega)]
          congr 1
          omega
        · rw [if_neg (by omega), if_neg (fun w => q3 w.2), vw_a c2 (by omega)]
    · rw [if_neg (fun w => q w.1)]
      exact vw_eq (set_ne' (fun w => q w.symm)) j'
  unfold arun at e
  simp only [hf] at e
  subst ha1
  simp only [show Nat.beq 1002 1002 = true from rfl, cond_true] at e
  cases d with
  | zero => unfold acopy at e; cases e
  | succ d =>
    simp only [acopy] at e
    cases hb2 : Nat.ble (aws r) 8 with
    | false => simp only [hb2, cond_false] at e; cases e
    | true =>
      simp only [hb2, cond_true] at e
      have gen : ∀ (u w s n0 n1 : Nat), u = u → ¬ (x < 0 ∨ y < 0 ∨ z < 0 ∨ n0 < x.toNatClampNeg + z.toNatClampNeg ∨ n1 < y.toNatClampNeg + z.toNatClampNeg) → (0 ≤ A ∧ 0 ≤ B ∧ 0 ≤ C ∧ x.toNatClampNeg = A.toNat ∧ y.toNatClampNeg = B.toNat ∧ z.toNatClampNeg = C.toNat) := by
        intro u w s n0 n1 _ hq
        rw [Int32.lt_iff_toInt_lt, Int32.lt_iff_toInt_lt, Int32.lt_iff_toInt_lt, i_zero] at hq
        subst ha
        subst hb
        subst hc
        refine ⟨by omega, by omega, by omega, ?_, ?_, ?_⟩ <;> rw [← Int32.toNat_toInt]
      split at e
      · rename_i n0 f n1 g c1 c2
        split at e
        · cases e
        · rename_i hq
          obtain ⟨p1, p2, p3, p4, p5, p6⟩ := gen 0 0 0 n0 n1 rfl hq
          cases hft : afit f x.toNatClampNeg z.toNatClampNeg with
          | false => simp only [hft, cond_false] at e; cases e
          | true =>
            simp only [hft, cond_true] at e
            rw [p4, p5, p6] at e
            exact k _ (wS_arr S c2) p1 p2 p3 (key c1 c2 p1 p2 p3 (fun k => by unfold vA va_cpy; dsimp only; split <;> rfl)) m hm _ v h2 e
      · rename_i n0 f n1 g c1 c2
        split at e
        · cases e
        · rename_i hq
          obtain ⟨p1, p2, p3, p4, p5, p6⟩ := gen 0 0 0 n0 n1 rfl hq
          rw [p4, p5, p6] at e
          exact k _ (wS_arr S c2) p1 p2 p3 (key c1 c2 p1 p2 p3 (fun k => by unfold vA va_cpy; dsimp only; split <;> rfl)) m hm _ v h2 e
      · rename_i n0 f n1 g c1 c2
        split at e
        · cases e
        · rename_i hq
          obtain ⟨p1, p2, p3, p4, p5, p6⟩ := gen 0 0 0 n0 n1 rfl hq
          rw [p4, p5, p6] at e
          exact k _ (wS_arr S c2) p1 p2 p3 (key c1 c2 p1 p2 p3 (fun k => by unfold vA va_cpy; dsimp only; split <;> rfl)) m hm _ v h2 e
      · cases e
end PT
end
section
-- ===== leaves of both sides: what they answer =====
theorem tl_2 : tkL 2 0 150 = true := by decide +kernel
theorem tl_3 : tkL 3 0 150 = true := by decide +kernel
theorem tl_73 : tkL 73 0 150 = true := by decide +kernel
theorem tl_8 : tkL 8 0 3600 = true := by decide +kernel
theorem tr_1_7 : tkR 1 7 2 = true := by decide +kernel
theorem tr_1_8 : tkR 1 8 3 = true := by decide +kernel
theorem tr_72_3 : tkR 72 3 73 = true := by decide +kernel
theorem tr_1_13 : tkR 1 13 8 = true := by decide +kernel
theorem gx137_0 : aF 0 zM137.2.2.2.2.2.2.2 = some (0, (.iload_n 1), 1, 0, 0) := by decide +kernel
theorem gx137_1 : aF 1 zM137.2.2.2.2.2.2.2 = some (1, (.iload_n 0), 1, 0, 0) := by decide +kernel
theorem gx137_2 : aF 2 zM137.2.2.2.2.2.2.2 = some (2, (.if_icmp .gt 12), 3, 14, 0) := by decide +kernel
theorem gx137_14 : aF 14 zM137.2.2.2.2.2.2.2 = some (14, (.iconst 0), 1, 0, 0) := by decide +kernel
theorem gx137_15 : aF 15 zM137.2.2.2.2.2.2.2 = some (15, .ireturn, 1, 0, 0) := by decide +kernel
theorem gx137_5 : aF 5 zM137.2.2.2.2.2.2.2 = some (5, (.iload_n 0), 1, 0, 0) := by decide +kernel
theorem gx137_6 : aF 6 zM137.2.2.2.2.2.2.2 = some (6, (.iload_n 2), 1, 0, 0) := by decide +kernel
theorem gx137_7 : aF 7 zM137.2.2.2.2.2.2.2 = some (7, (.if_icmp .gt 7), 3, 14, 0) := by decide +kernel
theorem gx137_10 : aF 10 zM137.2.2.2.2.2.2.2 = some (10, (.iconst 1), 1, 0, 0) := by decide +kernel
theorem gx137_11 : aF 11 zM137.2.2.2.2.2.2.2 = some (11, (.goto 4), 3, 15, 0) := by decide +kernel
theorem gx196_0 : aF 0 zM196.2.2.2.2.2.2.2 = some (0, (.iload_n 0), 1, 0, 0) := by decide +kernel
theorem gx196_1 : aF 1 zM196.2.2.2.2.2.2.2 = some (1, (.iload_n 1), 1, 0, 0) := by decide +kernel
theorem gx196_2 : aF 2 zM196.2.2.2.2.2.2.2 = some (2, (.if_icmp .lt 12), 3, 14, 0) := by decide +kernel
theorem gx196_14 : aF 14 zM196.2.2.2.2.2.2.2 = some (14, (.iconst 0), 1, 0, 0) := by decide +kernel
theorem gx196_15 : aF 15 zM196.2.2.2.2.2.2.2 = some (15, .ireturn, 1, 0, 0) := by decide +kernel
theorem gx196_5 : aF 5 zM196.2.2.2.2.2.2.2 = some (5, (.iload_n 0), 1, 0, 0) := by decide +kernel
theorem gx196_6 : aF 6 zM196.2.2.2.2.2.2.2 = some (6, (.iload_n 2), 1, 0, 0) := by decide +kernel
theorem gx196_7 : aF 7 zM196.2.2.2.2.2.2.2 = some (7, (.if_icmp .gt 7), 3, 14, 0) := by decide +kernel
theorem gx196_10 : aF 10 zM196.2.2.2.2.2.2.2 = some (10, (.iconst 1), 1, 0, 0) := by decide +kernel
theorem gx196_11 : aF 11 zM196.2.2.2.2.2.2.2 = some (11, (.goto 4), 3, 15, 0) := by decide +kernel
theorem gx140_0 : aF 0 zM140.2.2.2.2.2.2.2 = some (0, (.iload_n 0), 1, 0, 0) := by decide +kernel
theorem gx140_1 : aF 1 zM140.2.2.2.2.2.2.2 = some (1, (.iconst 0), 1, 0, 0) := by decide +kernel
theorem gx140_2 : aF 2 zM140.2.2.2.2.2.2.2 = some (2, (.iconst 3), 1, 0, 0) := by decide +kernel
theorem gx140_3 : aF 3 zM140.2.2.2.2.2.2.2 = some (3, (.invokestatic 85), 3, 137, 0) := by decide +kernel
theorem gx140_6 : aF 6 zM140.2.2.2.2.2.2.2 = some (6, .ireturn, 1, 0, 0) := by decide +kernel
theorem gx142_0 : aF 0 zM142.2.2.2.2.2.2.2 = some (0, (.iload_n 0), 1, 0, 0) := by decide +kernel
theorem gx142_1 : aF 1 zM142.2.2.2.2.2.2.2 = some (1, (.iconst 0), 1, 0, 0) := by decide +kernel
theorem gx142_2 : aF 2 zM142.2.2.2.2.2.2.2 = some (2, (.iconst 5), 1, 0, 0) := by decide +kernel
theorem gx142_3 : aF 3 zM142.2.2.2.2.2.2.2 = some (3, (.invokestatic 85), 3, 137, 0) := by decide +kernel
theorem gx142_6 : aF 6 zM142.2.2.2.2.2.2.2 = some (6, .ireturn, 1, 0, 0) := by decide +kernel
theorem gx206_0 : aF 0 zM206.2.2.2.2.2.2.2 = some (0, (.iload_n 0), 1, 0, 0) := by decide +kernel
theorem gx206_1 : aF 1 zM206.2.2.2.2.2.2.2 = some (1, (.iconst 0), 1, 0, 0) := by decide +kernel
theorem gx206_2 : aF 2 zM206.2.2.2.2.2.2.2 = some (2, (.iconst 3), 1, 0, 0) := by decide +kernel
theorem gx206_3 : aF 3 zM206.2.2.2.2.2.2.2 = some (3, (.invokestatic 258), 3, 196, 0) := by decide +kernel
theorem gx206_6 : aF 6 zM206.2.2.2.2.2.2.2 = some (6, .ireturn, 1, 0, 0) := by decide +kernel
theorem gx318_0 : aF 0 zM318.2.2.2.2.2.2.2 = some (0, (.iload_n 0), 1, 0, 0) := by decide +kernel
theorem gx318_1 : aF 1 zM318.2.2.2.2.2.2.2 = some (1, (.iconst 0), 1, 0, 0) := by decide +kernel
theorem gx318_2 : aF 2 zM318.2.2.2.2.2.2.2 = some (2, (.iconst 5), 1, 0, 0) := by decide +kernel
theorem gx318_3 : aF 3 zM318.2.2.2.2.2.2.2 = some (3, (.invokestatic 258), 3, 196, 0) := by decide +kernel
theorem gx318_6 : aF 6 zM318.2.2.2.2.2.2.2 = some (6, .ireturn, 1, 0, 0) := by decide +kernel
theorem gx71_0 : aF 0 zM71.2.2.2.2.2.2.2 = some (0, (.iload_n 0), 1, 0, 0) := by decide +kernel
theorem gx71_1 : aF 1 zM71.2.2.2.2.2.2.2 = some (1, (.iconst 1), 1, 0, 0) := by decide +kernel
theorem gx71_2 : aF 2 zM71.2.2.2.2.2.2.2 = some (2, (.iconst 3), 1, 0, 0) := by decide +kernel
theorem gx71_3 : aF 3 zM71.2.2.2.2.2.2.2 = some (3, (.invokestatic 45), 3, 137, 0) := by decide +kernel
theorem gx71_6 : aF 6 zM71.2.2.2.2.2.2.2 = some (6, (.ifCond .ne 9), 3, 15, 0) := by decide +kernel
theorem gx71_15 : aF 15 zM71.2.2.2.2.2.2.2 = some (15, (.iconst 1), 1, 0, 0) := by decide +kernel
theorem gx71_16 : aF 16 zM71.2.2.2.2.2.2.2 = some (16, (.goto 4), 3, 20, 0) := by decide +kernel
theorem gx71_20 : aF 20 zM71.2.2.2.2.2.2.2 = some (20, .ireturn, 1, 0, 0) := by decide +kernel
theorem gx71_9 : aF 9 zM71.2.2.2.2.2.2.2 = some (9, (.iload_n 0), 1, 0, 0) := by decide +kernel
theorem gx71_10 : aF 10 zM71.2.2.2.2.2.2.2 = some (10, (.bipush 7), 2, 0, 0) := by decide +kernel
theorem gx71_12 : aF 12 zM71.2.2.2.2.2.2.2 = some (12, (.if_icmp .ne 7), 3, 19, 0) := by decide +kernel
theorem gx71_19 : aF 19 zM71.2.2.2.2.2.2.2 = some (19, (.iconst 0), 1, 0, 0) := by decide +kernel
theorem gx73_0 : aF 0 zM73.2.2.2.2.2.2.2 = some (0, (.aload_n 0), 1, 0, 0) := by decide +kernel
theorem gx73_1 : aF 1 zM73.2.2.2.2.2.2.2 = some (1, (.getfield 52), 3, 6, 1) := by decide +kernel
theorem gx73_4 : aF 4 zM73.2.2.2.2.2.2.2 = some (4, (.sipush 150), 3, 0, 0) := by decide +kernel
theorem gx73_7 : aF 7 zM73.2.2.2.2.2.2.2 = some (7, (.if_icmp .lt 7), 3, 14, 0) := by decide +kernel
theorem gx73_14 : aF 14 zM73.2.2.2.2.2.2.2 = some (14, (.iconst 0), 1, 0, 0) := by decide +kernel
theorem gx73_15 : aF 15 zM73.2.2.2.2.2.2.2 = some (15, .ireturn, 1, 0, 0) := by decide +kernel
theorem gx73_10 : aF 10 zM73.2.2.2.2.2.2.2 = some (10, (.iconst 1), 1, 0, 0) := by decide +kernel
theorem gx73_11 : aF 11 zM73.2.2.2.2.2.2.2 = some (11, (.goto 4), 3, 15, 0) := by decide +kernel
theorem gx74_0 : aF 0 zM74.2.2.2.2.2.2.2 = some (0, (.iload_n 1), 1, 0, 0) := by decide +kernel
theorem gx74_1 : aF 1 zM74.2.2.2.2.2.2.2 = some (1, (.iconst 0), 1, 0, 0) := by decide +kernel
theorem gx74_2 : aF 2 zM74.2.2.2.2.2.2.2 = some (2, (.aload_n 0), 1, 0, 0) := by decide +kernel
theorem gx74_3 : aF 3 zM74.2.2.2.2.2.2.2 = some (3, (.getfield 52), 3, 6, 1) := by decide +kernel
theorem gx74_6 : aF 6 zM74.2.2.2.2.2.2.2 = some (6, (.iconst 1), 1, 0, 0) := by decide +kernel
theorem gx74_7 : aF 7 zM74.2.2.2.2.2.2.2 = some (7, .isub, 1, 0, 0) := by decide +kernel
theorem gx74_8 : aF 8 zM74.2.2.2.2.2.2.2 = some (8, (.invokestatic 45), 3, 137, 0) := by decide +kernel
theorem gx74_11 : aF 11 zM74.2.2.2.2.2.2.2 = some (11, .ireturn, 1, 0, 0) := by decide +kernel
theorem gx75_0 : aF 0 zM75.2.2.2.2.2.2.2 = some (0, (.aload_n 0), 1, 0, 0) := by decide +kernel
theorem gx75_1 : aF 1 zM75.2.2.2.2.2.2.2 = some (1, (.iload_n 1), 1, 0, 0) := by decide +kernel
theorem gx75_2 : aF 2 zM75.2.2.2.2.2.2.2 = some (2, (.invokevirtual 56), 3, 74, 0) := by decide +kernel
theorem gx75_5 : aF 5 zM75.2.2.2.2.2.2.2 = some (5, (.ifCond .eq 19), 3, 24, 0) := by decide +kernel
theorem gx75_24 : aF 24 zM75.2.2.2.2.2.2.2 = some (24, (.iconst 0), 1, 0, 0) := by decide +kernel
theorem gx75_25 : aF 25 zM75.2.2.2.2.2.2.2 = some (25, .ireturn, 1, 0, 0) := by decide +kernel
theorem gx75_8 : aF 8 zM75.2.2.2.2.2.2.2 = some (8, (.aload_n 0), 1, 0, 0) := by decide +kernel
theorem gx75_9 : aF 9 zM75.2.2.2.2.2.2.2 = some (9, (.getfield 9), 3, 6, 7) := by decide +kernel
theorem gx75_12 : aF 12 zM75.2.2.2.2.2.2.2 = some (12, (.iload_n 1), 1, 0, 0) := by decide +kernel
theorem gx75_13 : aF 13 zM75.2.2.2.2.2.2.2 = some (13, .iaload, 1, 0, 0) := by decide +kernel
theorem gx75_14 : aF 14 zM75.2.2.2.2.2.2.2 = some (14, (.invokestatic 60), 3, 71, 0) := by decide +kernel
theorem gx75_17 : aF 17 zM75.2.2.2.2.2.2.2 = some (17, (.ifCond .eq 7), 3, 24, 0) := by decide +kernel
theorem gx75_20 : aF 20 zM75.2.2.2.2.2.2.2 = some (20, (.iconst 1), 1, 0, 0) := by decide +kernel
theorem gx75_21 : aF 21 zM75.2.2.2.2.2.2.2 = some (21, (.goto 4), 3, 25, 0) := by decide +kernel
theorem gx77_0 : aF 0 zM77.2.2.2.2.2.2.2 = some (0, (.aload_n 0), 1, 0, 0) := by decide +kernel
theorem gx77_1 : aF 1 zM77.2.2.2.2.2.2.2 = some (1, (.iload_n 1), 1, 0, 0) := by decide +kernel
theorem gx77_2 : aF 2 zM77.2.2.2.2.2.2.2 = some (2, (.invokevirtual 56), 3, 74, 0) := by decide +kernel
theorem gx77_5 : aF 5 zM77.2.2.2.2.2.2.2 = some (5, (.ifCond .eq 21), 3, 26, 0) := by decide +kernel
theorem gx77_26 : aF 26 zM77.2.2.2.2.2.2.2 = some (26, (.iconst 0), 1, 0, 0) := by decide +kernel
theorem gx77_27 : aF 27 zM77.2.2.2.2.2.2.2 = some (27, .ireturn, 1, 0, 0) := by decide +kernel
theorem gx77_8 : aF 8 zM77.2.2.2.2.2.2.2 = some (8, (.aload_n 0), 1, 0, 0) := by decide +kernel
theorem gx77_9 : aF 9 zM77.2.2.2.2.2.2.2 = some (9, (.getfield 9), 3, 6, 7) := by decide +kernel
theorem gx77_12 : aF 12 zM77.2.2.2.2.2.2.2 = some (12, (.iload_n 1), 1, 0, 0) := by decide +kernel
theorem gx77_13 : aF 13 zM77.2.2.2.2.2.2.2 = some (13, .iaload, 1, 0, 0) := by decide +kernel
theorem gx77_14 : aF 14 zM77.2.2.2.2.2.2.2 = some (14, (.iconst 4), 1, 0, 0) := by decide +kernel
theorem gx77_15 : aF 15 zM77.2.2.2.2.2.2.2 = some (15, (.iconst 5), 1, 0, 0) := by decide +kernel
theorem gx77_16 : aF 16 zM77.2.2.2.2.2.2.2 = some (16, (.invokestatic 45), 3, 137, 0) := by decide +kernel
theorem gx77_19 : aF 19 zM77.2.2.2.2.2.2.2 = some (19, (.ifCond .eq 7), 3, 26, 0) := by decide +kernel
theorem gx77_22 : aF 22 zM77.2.2.2.2.2.2.2 = some (22, (.iconst 1), 1, 0, 0) := by decide +kernel
theorem gx77_23 : aF 23 zM77.2.2.2.2.2.2.2 = some (23, (.goto 4), 3, 27, 0) := by decide +kernel
theorem gx200_0 : aF 0 zM200.2.2.2.2.2.2.2 = some (0, (.iload_n 1), 1, 0, 0) := by decide +kernel
theorem gx200_1 : aF 1 zM200.2.2.2.2.2.2.2 = some (1, (.iconst 0), 1, 0, 0) := by decide +kernel
theorem gx200_2 : aF 2 zM200.2.2.2.2.2.2.2 = some (2, (.aload_n 0), 1, 0, 0) := by decide +kernel
theorem gx200_3 : aF 3 zM200.2.2.2.2.2.2.2 = some (3, (.getfield 265), 3, 12, 2) := by decide +kernel
theorem gx200_6 : aF 6 zM200.2.2.2.2.2.2.2 = some (6, (.iconst 1), 1, 0, 0) := by decide +kernel
theorem gx200_7 : aF 7 zM200.2.2.2.2.2.2.2 = some (7, .isub, 1, 0, 0) := by decide +kernel
theorem gx200_8 : aF 8 zM200.2.2.2.2.2.2.2 = some (8, (.invokestatic 258), 3, 196, 0) := by decide +kernel
theorem gx200_11 : aF 11 zM200.2.2.2.2.2.2.2 = some (11, .ireturn, 1, 0, 0) := by decide +kernel
theorem gx201_0 : aF 0 zM201.2.2.2.2.2.2.2 = some (0, (.iload_n 1), 1, 0, 0) := by decide +kernel
theorem gx201_1 : aF 1 zM201.2.2.2.2.2.2.2 = some (1, (.ifCond .eq 8), 3, 9, 0) := by decide +kernel
theorem gx201_9 : aF 9 zM201.2.2.2.2.2.2.2 = some (9, (.iconst 1), 1, 0, 0) := by decide +kernel
theorem gx201_10 : aF 10 zM201.2.2.2.2.2.2.2 = some (10, .ireturn, 1, 0, 0) := by decide +kernel
theorem gx201_4 : aF 4 zM201.2.2.2.2.2.2.2 = some (4, (.iload_n 0), 1, 0, 0) := by decide +kernel
theorem gx201_5 : aF 5 zM201.2.2.2.2.2.2.2 = some (5, (.iload_n 1), 1, 0, 0) := by decide +kernel
theorem gx201_6 : aF 6 zM201.2.2.2.2.2.2.2 = some (6, (.if_icmp .ne 5), 3, 11, 0) := by decide +kernel
theorem gx201_11 : aF 11 zM201.2.2.2.2.2.2.2 = some (11, (.iload_n 1), 1, 0, 0) := by decide +kernel
theorem gx201_12 : aF 12 zM201.2.2.2.2.2.2.2 = some (12, (.iconst 1), 1, 0, 0) := by decide +kernel
theorem gx201_13 : aF 13 zM201.2.2.2.2.2.2.2 = some (13, (.if_icmp .ne 25), 3, 38, 0) := by decide +kernel
theorem gx201_38 : aF 38 zM201.2.2.2.2.2.2.2 = some (38, (.iload_n 1), 1, 0, 0) := by decide +kernel
theorem gx201_39 : aF 39 zM201.2.2.2.2.2.2.2 = some (39, (.iconst 2), 1, 0, 0) := by decide +kernel
theorem gx201_40 : aF 40 zM201.2.2.2.2.2.2.2 = some (40, (.if_icmp .ne 15), 3, 55, 0) := by decide +kernel
theorem gx201_55 : aF 55 zM201.2.2.2.2.2.2.2 = some (55, (.iload_n 1), 1, 0, 0) := by decide +kernel
theorem gx201_56 : aF 56 zM201.2.2.2.2.2.2.2 = some (56, (.iconst 4), 1, 0, 0) := by decide +kernel
theorem gx201_57 : aF 57 zM201.2.2.2.2.2.2.2 = some (57, (.if_icmp .ne 12), 3, 69, 0) := by decide +kernel
theorem gx201_69 : aF 69 zM201.2.2.2.2.2.2.2 = some (69, (.iconst 0), 1, 0, 0) := by decide +kernel
theorem gx201_70 : aF 70 zM201.2.2.2.2.2.2.2 = some (70, .ireturn, 1, 0, 0) := by decide +kernel
theorem gx201_60 : aF 60 zM201.2.2.2.2.2.2.2 = some (60, (.iload_n 0), 1, 0, 0) := by decide +kernel
theorem gx201_61 : aF 61 zM201.2.2.2.2.2.2.2 = some (61, (.iconst 5), 1, 0, 0) := by decide +kernel
theorem gx201_62 : aF 62 zM201.2.2.2.2.2.2.2 = some (62, (.if_icmp .ne 7), 3, 69, 0) := by decide +kernel
theorem gx201_65 : aF 65 zM201.2.2.2.2.2.2.2 = some (65, (.iconst 1), 1, 0, 0) := by decide +kernel
theorem gx201_66 : aF 66 zM201.2.2.2.2.2.2.2 = some (66, (.goto 4), 3, 70, 0) := by decide +kernel
theorem gx201_43 : aF 43 zM201.2.2.2.2.2.2.2 = some (43, (.iload_n 0), 1, 0, 0) := by decide +kernel
theorem gx201_44 : aF 44 zM201.2.2.2.2.2.2.2 = some (44, (.bipush 7), 2, 0, 0) := by decide +kernel
theorem gx201_46 : aF 46 zM201.2.2.2.2.2.2.2 = some (46, (.if_icmp .ne 7), 3, 53, 0) := by decide +kernel
theorem gx201_53 : aF 53 zM201.2.2.2.2.2.2.2 = some (53, (.iconst 0), 1, 0, 0) := by decide +kernel
theorem gx201_54 : aF 54 zM201.2.2.2.2.2.2.2 = some (54, .ireturn, 1, 0, 0) := by decide +kernel
theorem gx201_49 : aF 49 zM201.2.2.2.2.2.2.2 = some (49, (.iconst 1), 1, 0, 0) := by decide +kernel
theorem gx201_50 : aF 50 zM201.2.2.2.2.2.2.2 = some (50, (.goto 4), 3, 54, 0) := by decide +kernel
theorem gx201_16 : aF 16 zM201.2.2.2.2.2.2.2 = some (16, (.iload_n 0), 1, 0, 0) := by decide +kernel
theorem gx201_17 : aF 17 zM201.2.2.2.2.2.2.2 = some (17, (.iconst 2), 1, 0, 0) := by decide +kernel
theorem gx201_18 : aF 18 zM201.2.2.2.2.2.2.2 = some (18, (.if_icmp .eq 14), 3, 32, 0) := by decide +kernel
theorem gx201_32 : aF 32 zM201.2.2.2.2.2.2.2 = some (32, (.iconst 1), 1, 0, 0) := by decide +kernel
theorem gx201_33 : aF 33 zM201.2.2.2.2.2.2.2 = some (33, (.goto 4), 3, 37, 0) := by decide +kernel
theorem gx201_37 : aF 37 zM201.2.2.2.2.2.2.2 = some (37, .ireturn, 1, 0, 0) := by decide +kernel
theorem gx201_21 : aF 21 zM201.2.2.2.2.2.2.2 = some (21, (.iload_n 0), 1, 0, 0) := by decide +kernel
theorem gx201_22 : aF 22 zM201.2.2.2.2.2.2.2 = some (22, (.iconst 3), 1, 0, 0) := by decide +kernel
theorem gx201_23 : aF 23 zM201.2.2.2.2.2.2.2 = some (23, (.if_icmp .eq 9), 3, 32, 0) := by decide +kernel
theorem gx201_26 : aF 26 zM201.2.2.2.2.2.2.2 = some (26, (.iload_n 0), 1, 0, 0) := by decide +kernel
theorem gx201_27 : aF 27 zM201.2.2.2.2.2.2.2 = some (27, (.bipush 7), 2, 0, 0) := by decide +kernel
theorem gx201_29 : aF 29 zM201.2.2.2.2.2.2.2 = some (29, (.if_icmp .ne 7), 3, 36, 0) := by decide +kernel
theorem gx201_36 : aF 36 zM201.2.2.2.2.2.2.2 = some (36, (.iconst 0), 1, 0, 0) := by decide +kernel
theorem gx202_0 : aF 0 zM202.2.2.2.2.2.2.2 = some (0, (.aload_n 0), 1, 0, 0) := by decide +kernel
theorem gx202_1 : aF 1 zM202.2.2.2.2.2.2.2 = some (1, (.iload_n 1), 1, 0, 0) := by decide +kernel
theorem gx202_2 : aF 2 zM202.2.2.2.2.2.2.2 = some (2, (.invokevirtual 268), 3, 200, 0) := by decide +kernel
theorem gx202_5 : aF 5 zM202.2.2.2.2.2.2.2 = some (5, (.ifCond .eq 20), 3, 25, 0) := by decide +kernel
theorem gx202_25 : aF 25 zM202.2.2.2.2.2.2.2 = some (25, (.iconst 0), 1, 0, 0) := by decide +kernel
theorem gx202_26 : aF 26 zM202.2.2.2.2.2.2.2 = some (26, .ireturn, 1, 0, 0) := by decide +kernel
theorem gx202_8 : aF 8 zM202.2.2.2.2.2.2.2 = some (8, (.aload_n 0), 1, 0, 0) := by decide +kernel
theorem gx202_9 : aF 9 zM202.2.2.2.2.2.2.2 = some (9, (.getfield 7), 3, 12, 3) := by decide +kernel
theorem gx202_12 : aF 12 zM202.2.2.2.2.2.2.2 = some (12, (.iload_n 1), 1, 0, 0) := by decide +kernel
theorem gx202_13 : aF 13 zM202.2.2.2.2.2.2.2 = some (13, .iaload, 1, 0, 0) := by decide +kernel
theorem gx202_14 : aF 14 zM202.2.2.2.2.2.2.2 = some (14, (.iconst 1), 1, 0, 0) := by decide +kernel
theorem gx202_15 : aF 15 zM202.2.2.2.2.2.2.2 = some (15, (.invokestatic 272), 3, 201, 0) := by decide +kernel
theorem gx202_18 : aF 18 zM202.2.2.2.2.2.2.2 = some (18, (.ifCond .eq 7), 3, 25, 0) := by decide +kernel
theorem gx202_21 : aF 21 zM202.2.2.2.2.2.2.2 = some (21, (.iconst 1), 1, 0, 0) := by decide +kernel
theorem gx202_22 : aF 22 zM202.2.2.2.2.2.2.2 = some (22, (.goto 4), 3, 26, 0) := by decide +kernel
theorem gx203_0 : aF 0 zM203.2.2.2.2.2.2.2 = some (0, (.aload_n 0), 1, 0, 0) := by decide +kernel
theorem gx203_1 : aF 1 zM203.2.2.2.2.2.2.2 = some (1, (.iload_n 1), 1, 0, 0) := by decide +kernel
theorem gx203_2 : aF 2 zM203.2.2.2.2.2.2.2 = some (2, (.invokevirtual 268), 3, 200, 0) := by decide +kernel
theorem gx203_5 : aF 5 zM203.2.2.2.2.2.2.2 = some (5, (.ifCond .eq 20), 3, 25, 0) := by decide +kernel
theorem gx203_25 : aF 25 zM203.2.2.2.2.2.2.2 = some (25, (.iconst 0), 1, 0, 0) := by decide +kernel
theorem gx203_26 : aF 26 zM203.2.2.2.2.2.2.2 = some (26, .ireturn, 1, 0, 0) := by decide +kernel
theorem gx203_8 : aF 8 zM203.2.2.2.2.2.2.2 = some (8, (.aload_n 0), 1, 0, 0) := by decide +kernel
theorem gx203_9 : aF 9 zM203.2.2.2.2.2.2.2 = some (9, (.getfield 7), 3, 12, 3) := by decide +kernel
theorem gx203_12 : aF 12 zM203.2.2.2.2.2.2.2 = some (12, (.iload_n 1), 1, 0, 0) := by decide +kernel
theorem gx203_13 : aF 13 zM203.2.2.2.2.2.2.2 = some (13, .iaload, 1, 0, 0) := by decide +kernel
theorem gx203_14 : aF 14 zM203.2.2.2.2.2.2.2 = some (14, (.iconst 4), 1, 0, 0) := by decide +kernel
theorem gx203_15 : aF 15 zM203.2.2.2.2.2.2.2 = some (15, (.invokestatic 272), 3, 201, 0) := by decide +kernel
theorem gx203_18 : aF 18 zM203.2.2.2.2.2.2.2 = some (18, (.ifCond .eq 7), 3, 25, 0) := by decide +kernel
theorem gx203_21 : aF 21 zM203.2.2.2.2.2.2.2 = some (21, (.iconst 1), 1, 0, 0) := by decide +kernel
theorem gx203_22 : aF 22 zM203.2.2.2.2.2.2.2 = some (22, (.goto 4), 3, 26, 0) := by decide +kernel
theorem gx211_0 : aF 0 zM211.2.2.2.2.2.2.2 = some (0, (.iload_n 0), 1, 0, 0) := by decide +kernel
theorem gx211_1 : aF 1 zM211.2.2.2.2.2.2.2 = some (1, (.iload_n 1), 1, 0, 0) := by decide +kernel
theorem gx211_2 : aF 2 zM211.2.2.2.2.2.2.2 = some (2, (.if_icmp .ge 7), 3, 9, 0) := by decide +kernel
theorem gx211_9 : aF 9 zM211.2.2.2.2.2.2.2 = some (9, (.iload_n 1), 1, 0, 0) := by decide +kernel
theorem gx211_10 : aF 10 zM211.2.2.2.2.2.2.2 = some (10, .ireturn, 1, 0, 0) := by decide +kernel
theorem gx211_5 : aF 5 zM211.2.2.2.2.2.2.2 = some (5, (.iload_n 0), 1, 0, 0) := by decide +kernel
theorem gx211_6 : aF 6 zM211.2.2.2.2.2.2.2 = some (6, (.goto 4), 3, 10, 0) := by decide +kernel
theorem gx212_0 : aF 0 zM212.2.2.2.2.2.2.2 = some (0, (.iload_n 0), 1, 0, 0) := by decide +kernel
theorem gx212_1 : aF 1 zM212.2.2.2.2.2.2.2 = some (1, (.iload_n 1), 1, 0, 0) := by decide +kernel
theorem gx212_2 : aF 2 zM212.2.2.2.2.2.2.2 = some (2, (.if_icmp .le 7), 3, 9, 0) := by decide +kernel
theorem gx212_9 : aF 9 zM212.2.2.2.2.2.2.2 = some (9, (.iload_n 1), 1, 0, 0) := by decide +kernel
theorem gx212_10 : aF 10 zM212.2.2.2.2.2.2.2 = some (10, .ireturn, 1, 0, 0) := by decide +kernel
theorem gx212_5 : aF 5 zM212.2.2.2.2.2.2.2 = some (5, (.iload_n 0), 1, 0, 0) := by decide +kernel
theorem gx212_6 : aF 6 zM212.2.2.2.2.2.2.2 = some (6, (.goto 4), 3, 10, 0) := by decide +kernel
theorem d137_0 {n : Nat} {X : aX} {h : aH} {P : Int → aH → Prop} {x0 x1 x2 : Int32} {a0 a1 a2 : Int} (S : wS h) (z0 : x0.toInt = a0) (z1 : x1.toInt = a1) (z2 : x2.toInt = a2) (H : ((a0 < a1 → P 0 h) ∧ (a1 ≤ a0 → ((a2 < a0 → P 0 h) ∧ (a0 ≤ a2 → P 1 h))))) : Pt (n + 1) X zM137 0 [some (.int x0), some (.int x1), some (.int x2)] [] h (qI P) := by
  refine pt_1 (fun n d => r_iloadn gx137_0 rfl) ?_
  refine pt_d (pt_1 (fun n d => r_iloadn gx137_1 rfl) ?_)
  refine pt_d (pt_icmp_gt gx137_2 z1 z0 (fun e1 => ?_) (fun e1 => ?_))
  · have H := H.1 e1
    refine pt_d (pt_iconst gx137_14 (fun v2 h2 => ?_))
    exact pt_d (pt_iret gx137_15 ⟨_, rfl, by rw [h2]; exact H⟩)
  · have H := H.2 e1
    refine pt_d (pt_1 (fun n d => r_iloadn gx137_5 rfl) ?_)
    refine pt_d (pt_1 (fun n d => r_iloadn gx137_6 rfl) ?_)
    refine pt_d (pt_icmp_gt gx137_7 z0 z2 (fun e3 => ?_) (fun e3 => ?_))
    · have H := H.1 e3
      refine pt_d (pt_iconst gx137_14 (fun v4 h4 => ?_))
      exact pt_d (pt_iret gx137_15 ⟨_, rfl, by rw [h4]; exact H⟩)
    · have H := H.2 e3
      refine pt_d (pt_iconst gx137_10 (fun v5 h5 => ?_))
      refine pt_d (pt_1 (fun n d => r_goto gx137_11) ?_)
      exact pt_d (pt_iret gx137_15 ⟨_, rfl, by rw [h5]; exact H⟩)
theorem c_137 {n : Nat} {X : aX} {h : aH} {x0 x1 x2 : Int32} {a0 a1 a2 : Int} (S : wS h) (z0 : x0.toInt = a0) (z1 : x1.toInt = a1) (z2 : x2.toInt = a2) : Pt n X zM137 0 [some (.int x0), some (.int x1), some (.int x2)] [] h (qI (fun y h' => h' = h ∧ y = bI (a1 ≤ a0 ∧ a0 ≤ a2))) := by
  refine pt_d (d137_0 S z0 z1 z2 ?_)
  repeat' (first | (refine And.intro ?_ ?_) | intro _)
  all_goals first
    | rfl
    | exact (bI_t (by omega)).symm
    | exact (bI_f (by omega)).symm
    | exact bI_c (by omega)
    | omega
theorem d196_0 {n : Nat} {X : aX} {h : aH} {P : Int → aH → Prop} {x0 x1 x2 : Int32} {a0 a1 a2 : Int} (S : wS h) (z0 : x0.toInt = a0) (z1 : x1.toInt = a1) (z2 : x2.toInt = a2) (H : ((a0 < a1 → P 0 h) ∧ (a1 ≤ a0 → ((a2 < a0 → P 0 h) ∧ (a0 ≤ a2 → P 1 h))))) : Pt (n + 1) X zM196 0 [some (.int x0), some (.int x1), some (.int x2)] [] h (qI P) := by
  refine pt_1 (fun n d => r_iloadn gx196_0 rfl) ?_
  refine pt_d (pt_1 (fun n d => r_iloadn gx196_1 rfl) ?_)
  refine pt_d (pt_icmp_lt gx196_2 z0 z1 (fun e1 => ?_) (fun e1 => ?_))
  · have H := H.1 e1
    refine pt_d (pt_iconst gx196_14 (fun v2 h2 => ?_))
    exact pt_d (pt_iret gx196_15 ⟨_, rfl, by rw [h2]; exact H⟩)
  · have H := H.2 e1
    refine pt_d (pt_1 (fun n d => r_iloadn gx196_5 rfl) ?_)
    refine pt_d (pt_1 (fun n d => r_iloadn gx196_6 rfl) ?_)
    refine pt_d (pt_icmp_gt gx196_7 z0 z2 (fun e3 => ?_) (fun e3 => ?_))
    · have H := H.1 e3
      refine pt_d (pt_iconst gx196_14 (fun v4 h4 => ?_))
      exact pt_d (pt_iret gx196_15 ⟨_, rfl, by rw [h4]; exact H⟩)
    · have H := H.2 e3
      refine pt_d (pt_iconst gx196_10 (fun v5 h5 => ?_))
      refine pt_d (pt_1 (fun n d => r_goto gx196_11) ?_)
      exact pt_d (pt_iret gx196_15 ⟨_, rfl, by rw [h5]; exact H⟩)
theorem c_196 {n : Nat} {X : aX} {h : aH} {x0 x1 x2 : Int32} {a0 a1 a2 : Int} (S : wS h) (z0 : x0.toInt = a0) (z1 : x1.toInt = a1) (z2 : x2.toInt = a2) : Pt n X zM196 0 [some (.int x0), some (.int x1), some (.int x2)] [] h (qI (fun y h' => h' = h ∧ y = bI (a1 ≤ a0 ∧ a0 ≤ a2))) := by
  refine pt_d (d196_0 S z0 z1 z2 ?_)
  repeat' (first | (refine And.intro ?_ ?_) | intro _)
  all_goals first
    | rfl
    | exact (bI_t (by omega)).symm
    | exact (bI_f (by omega)).symm
    | exact bI_c (by omega)
    | omega
def cBody (V : vS) (b : Int) : Prop := 0 ≤ b ∧ b ≤ w32 (V 1 1 - 1)
def mBody (V : vS) (b : Int) : Prop := 0 ≤ b ∧ b ≤ w32 (V 72 2 - 1)
def kFarm (k : Int) : Prop := (1 ≤ k ∧ k ≤ 3) ∨ k = 7
def uF (k a : Int) : Prop := a = 0 ∨ k = a ∨ (a = 1 ∧ (k = 2 ∨ k = 3 ∨ k = 7)) ∨ (a = 2 ∧ k = 7) ∨ (a = 4 ∧ k = 5)
def cFarm (V : vS) (b : Int) : Prop := cBody V b ∧ kFarm (V 2 b)
def cField (V : vS) (b : Int) : Prop := cBody V b ∧ 4 ≤ V 2 b ∧ V 2 b ≤ 5
def mFarm (V : vS) (b : Int) : Prop := mBody V b ∧ uF (V 73 b) 1
def mField (V : vS) (b : Int) : Prop := mBody V b ∧ uF (V 73 b) 4
theorem d140_0 {n : Nat} {X : aX} {h : aH} {P : Int → aH → Prop} {x0 : Int32} {a0 : Int} (S : wS h) (z0 : x0.toInt = a0) (H : P (bI (0 ≤ a0 ∧ a0 ≤ 3)) h) : Pt (n + 1) X zM140 0 [some (.int x0)] [] h (qI P) := by
  refine pt_1 (fun n d => r_iloadn gx140_0 rfl) ?_
  refine pt_d (pt_iconst gx140_1 (fun v1 h1 => ?_))
  refine pt_d (pt_iconst gx140_2 (fun v2 h2 => ?_))
  refine pt_d (pt_stat (as := [.int x0, .int v1, .int v2]) (r := []) gx140_3 rfl (show zmt[137]? = some zM137 from rfl) rfl rfl rfl rfl (c_137 S z0 h1 h2) (kqP (fun v3 h3 => ?_)))
  show Pt _ _ _ 6 _ [.int v3] _ _
  exact pt_d (pt_iret gx140_6 ⟨_, rfl, by rw [h3]; exact H⟩)
theorem c_140 {n : Nat} {X : aX} {h : aH} {x0 : Int32} {a0 : Int} (S : wS h) (z0 : x0.toInt = a0) : Pt n X zM140 0 [some (.int x0)] [] h (qI (fun y h' => h' = h ∧ y = bI (0 ≤ a0 ∧ a0 ≤ 3))) := by
  refine pt_d (d140_0 S z0 ?_)
  repeat' (first | (refine And.intro ?_ ?_) | intro _)
  all_goals first
    | rfl
    | exact (bI_t (by omega)).symm
    | exact (bI_f (by omega)).symm
    | exact bI_c (by omega)
    | omega
theorem d142_0 {n : Nat} {X : aX} {h : aH} {P : Int → aH → Prop} {x0 : Int32} {a0 : Int} (S : wS h) (z0 : x0.toInt = a0) (H : P (bI (0 ≤ a0 ∧ a0 ≤ 5)) h) : Pt (n + 1) X zM142 0 [some (.int x0)] [] h (qI P) := by
  refine pt_1 (fun n d => r_iloadn gx142_0 rfl) ?_
  refine pt_d (pt_iconst gx142_1 (fun v1 h1 => ?_))
  refine pt_d (pt_iconst gx142_2 (fun v2 h2 => ?_))
  refine pt_d (pt_stat (as := [.int x0, .int v1, .int v2]) (r := []) gx142_3 rfl (show zmt[137]? = some zM137 from rfl) rfl rfl rfl rfl (c_137 S z0 h1 h2) (kqP (fun v3 h3 => ?_)))
  show Pt _ _ _ 6 _ [.int v3] _ _
  exact pt_d (pt_iret gx142_6 ⟨_, rfl, by rw [h3]; exact H⟩)
theorem c_142 {n : Nat} {X : aX} {h : aH} {x0 : Int32} {a0 : Int} (S : wS h) (z0 : x0.toInt = a0) : Pt n X zM142 0 [some (.int x0)] [] h (qI (fun y h' => h' = h ∧ y = bI (0 ≤ a0 ∧ a0 ≤ 5))) := by
  refine pt_d (d142_0 S z0 ?_)
  repeat' (first | (refine And.intro ?_ ?_) | intro _)
  all_goals first
    | rfl
    | exact (bI_t (by omega)).symm
    | exact (bI_f (by omega)).symm
    | exact bI_c (by omega)
    | omega
theorem d206_0 {n : Nat} {X : aX} {h : aH} {P : Int → aH → Prop} {x0 : Int32} {a0 : Int} (S : wS h) (z0 : x0.toInt = a0) (H : P (bI (0 ≤ a0 ∧ a0 ≤ 3)) h) : Pt (n + 1) X zM206 0 [some (.int x0)] [] h (qI P) := by
  refine pt_1 (fun n d => r_iloadn gx206_0 rfl) ?_
  refine pt_d (pt_iconst gx206_1 (fun v1 h1 => ?_))
  refine pt_d (pt_iconst gx206_2 (fun v2 h2 => ?_))
  refine pt_d (pt_stat (as := [.int x0, .int v1, .int v2]) (r := []) gx206_3 rfl (show zmt[196]? = some zM196 from rfl) rfl rfl rfl rfl (c_196 S z0 h1 h2) (kqP (fun v3 h3 => ?_)))
  show Pt _ _ _ 6 _ [.int v3] _ _
  exact pt_d (pt_iret gx206_6 ⟨_, rfl, by rw [h3]; exact H⟩)
theorem c_206 {n : Nat} {X : aX} {h : aH} {x0 : Int32} {a0 : Int} (S : wS h) (z0 : x0.toInt = a0) : Pt n X zM206 0 [some (.int x0)] [] h (qI (fun y h' => h' = h ∧ y = bI (0 ≤ a0 ∧ a0 ≤ 3))) := by
  refine pt_d (d206_0 S z0 ?_)
  repeat' (first | (refine And.intro ?_ ?_) | intro _)
  all_goals first
    | rfl
    | exact (bI_t (by omega)).symm
    | exact (bI_f (by omega)).symm
    | exact bI_c (by omega)
    | omega
theorem d318_0 {n : Nat} {X : aX} {h : aH} {P : Int → aH → Prop} {x0 : Int32} {a0 : Int} (S : wS h) (z0 : x0.toInt = a0) (H : P (bI (0 ≤ a0 ∧ a0 ≤ 5)) h) : Pt (n + 1) X zM318 0 [some (.int x0)] [] h (qI P) := by
  refine pt_1 (fun n d => r_iloadn gx318_0 rfl) ?_
  refine pt_d (pt_iconst gx318_1 (fun v1 h1 => ?_))
  refine pt_d (pt_iconst gx318_2 (fun v2 h2 => ?_))
  refine pt_d (pt_stat (as := [.int x0, .int v1, .int v2]) (r := []) gx318_3 rfl (show zmt[196]? = some zM196 from rfl) rfl rfl rfl rfl (c_196 S z0 h1 h2) (kqP (fun v3 h3 => ?_)))
  show Pt _ _ _ 6 _ [.int v3] _ _
  exact pt_d (pt_iret gx318_6 ⟨_, rfl, by rw [h3]; exact H⟩)
theorem c_318 {n : Nat} {X : aX} {h : aH} {x0 : Int32} {a0 : Int} (S : wS h) (z0 : x0.toInt = a0) : Pt n X zM318 0 [some (.int x0)] [] h (qI (fun y h' => h' = h ∧ y = bI (0 ≤ a0 ∧ a0 ≤ 5))) := by
  refine pt_d (d318_0 S z0 ?_)
  repeat' (first | (refine And.intro ?_ ?_) | intro _)
  all_goals first
    | rfl
    | exact (bI_t (by omega)).symm
    | exact (bI_f (by omega)).symm
    | exact bI_c (by omega)
    | omega
theorem d71_0 {n : Nat} {X : aX} {h : aH} {P : Int → aH → Prop} {x0 : Int32} {a0 : Int} (S : wS h) (z0 : x0.toInt = a0) (H : (((1 ≤ a0 ∧ a0 ≤ 3) → P 1 h) ∧ (¬ (1 ≤ a0 ∧ a0 ≤ 3) → ((a0 ≠ 7 → P 0 h) ∧ (a0 = 7 → P 1 h))))) : Pt (n + 1) X zM71 0 [some (.int x0)] [] h (qI P) := by
  refine pt_1 (fun n d => r_iloadn gx71_0 rfl) ?_
  refine pt_d (pt_iconst gx71_1 (fun v1 h1 => ?_))
  refine pt_d (pt_iconst gx71_2 (fun v2 h2 => ?_))
  refine pt_d (pt_stat (as := [.int x0, .int v1, .int v2]) (r := []) gx71_3 rfl (show zmt[137]? = some zM137 from rfl) rfl rfl rfl rfl (c_137 S z0 h1 h2) (kqP (fun v3 h3 => ?_)))
  show Pt _ _ _ 6 _ [.int v3] _ _
  refine pt_d (pt_ifB_ne gx71_6 h3 (fun e4 => ?_) (fun e4 => ?_))
  · have H := H.1 e4
    refine pt_d (pt_iconst gx71_15 (fun v5 h5 => ?_))
    refine pt_d (pt_1 (fun n d => r_goto gx71_16) ?_)
    exact pt_d (pt_iret gx71_20 ⟨_, rfl, by rw [h5]; exact H⟩)
  · have H := H.2 e4
    refine pt_d (pt_1 (fun n d => r_iloadn gx71_9 rfl) ?_)
    refine pt_d (pt_bipush gx71_10 (fun v6 h6 => ?_))
    refine pt_d (pt_icmp_ne gx71_12 z0 h6 (fun e7 => ?_) (fun e7 => ?_))
    · have H := H.1 e7
      refine pt_d (pt_iconst gx71_19 (fun v8 h8 => ?_))
      exact pt_d (pt_iret gx71_20 ⟨_, rfl, by rw [h8]; exact H⟩)
    · have H := H.2 e7
      refine pt_d (pt_iconst gx71_15 (fun v9 h9 => ?_))
      refine pt_d (pt_1 (fun n d => r_goto gx71_16) ?_)
      exact pt_d (pt_iret gx71_20 ⟨_, rfl, by rw [h9]; exact H⟩)
theorem c_71 {n : Nat} {X : aX} {h : aH} {x0 : Int32} {a0 : Int} (S : wS h) (z0 : x0.toInt = a0) : Pt n X zM71 0 [some (.int x0)] [] h (qI (fun y h' => h' = h ∧ y = bI (kFarm a0))) := by
  refine pt_d (d71_0 S z0 ?_)
  repeat' (first | (refine And.intro ?_ ?_) | intro _)
  all_goals first
    | rfl
    | exact (bI_t (by omega)).symm
    | exact (bI_f (by omega)).symm
    | exact bI_c (by omega)
    | exact (bI_t (by simp only [kFarm, uF] at *; omega)).symm
    | exact (bI_f (by simp only [kFarm, uF] at *; omega)).symm
    | exact bI_c (by simp only [kFarm, uF] at *; omega)
    | exact bI_c (by grind)
    | exact (bI_t (by grind)).symm
    | exact (bI_f (by grind)).symm
    | omega
theorem d73_0 {n : Nat} {X : aX} {h : aH} {P : Int → aH → Prop} (S : wS h) (H : ((vw h 1 1 < 150 → P 0 h) ∧ (150 ≤ vw h 1 1 → P 1 h))) : Pt (n + 1) X zM73 0 [some (.ref 1)] [] h (qI P) := by
  refine pt_1 (fun n d => r_aloadn gx73_0 rfl) ?_
  refine pt_d (pt_getI (B := 1) gx73_1 S (fun v1 h1 => ?_))
  refine pt_d (pt_sipush gx73_4 (fun v2 h2 => ?_))
  refine pt_d (pt_icmp_lt gx73_7 h1 h2 (fun e3 => ?_) (fun e3 => ?_))
  · have H := H.1 e3
    refine pt_d (pt_iconst gx73_14 (fun v4 h4 => ?_))
    exact pt_d (pt_iret gx73_15 ⟨_, rfl, by rw [h4]; exact H⟩)
  · have H := H.2 e3
    refine pt_d (pt_iconst gx73_10 (fun v5 h5 => ?_))
    refine pt_d (pt_1 (fun n d => r_goto gx73_11) ?_)
    exact pt_d (pt_iret gx73_15 ⟨_, rfl, by rw [h5]; exact H⟩)
theorem c_73 {n : Nat} {X : aX} {h : aH} (S : wS h) : Pt n X zM73 0 [some (.ref 1)] [] h (qI (fun y h' => h' = h ∧ y = bI (150 ≤ (vw h) 1 1))) := by
  refine pt_d (d73_0 S  ?_)
  repeat' (first | (refine And.intro ?_ ?_) | intro _)
  all_goals first
    | rfl
    | exact (bI_t (by omega)).symm
    | exact (bI_f (by omega)).symm
    | exact bI_c (by omega)
    | omega
theorem d74_0 {n : Nat} {X : aX} {h : aH} {P : Int → aH → Prop} {x1 : Int32} {a1 : Int} (S : wS h) (z1 : x1.toInt = a1) (H : P (bI (0 ≤ a1 ∧ a1 ≤ (w32 ((vw h 1 1) - 1)))) h) : Pt (n + 1) X zM74 0 [some (.ref 1), some (.int x1)] [] h (qI P) := by
  refine pt_1 (fun n d => r_iloadn gx74_0 rfl) ?_
  refine pt_d (pt_iconst gx74_1 (fun v1 h1 => ?_))
  refine pt_d (pt_1 (fun n d => r_aloadn gx74_2 rfl) ?_)
  refine pt_d (pt_getI (B := 1) gx74_3 S (fun v2 h2 => ?_))
  refine pt_d (pt_iconst gx74_6 (fun v3 h3 => ?_))
  refine pt_d (pt_isub gx74_7 h2 h3 (fun v4 h4 => ?_))
  refine pt_d (pt_stat (as := [.int x1, .int v1, .int v4]) (r := []) gx74_8 rfl (show zmt[137]? = some zM137 from rfl) rfl rfl rfl rfl (c_137 S z1 h1 h4) (kqP (fun v5 h5 => ?_)))
  show Pt _ _ _ 11 _ [.int v5] _ _
  exact pt_d (pt_iret gx74_11 ⟨_, rfl, by rw [h5]; exact H⟩)
theorem c_74 {n : Nat} {X : aX} {h : aH} {x1 : Int32} {a1 : Int} (S : wS h) (z1 : x1.toInt = a1) : Pt n X zM74 0 [some (.ref 1), some (.int x1)] [] h (qI (fun y h' => h' = h ∧ y = bI (cBody (vw h) a1))) := by
  refine pt_d (d74_0 S z1 ?_)
  repeat' (first | (refine And.intro ?_ ?_) | intro _)
  all_goals first
    | rfl
    | exact (bI_t (by omega)).symm
    | exact (bI_f (by omega)).symm
    | exact bI_c (by omega)
    | omega
theorem d75_0 {n : Nat} {X : aX} {h : aH} {P : Int → aH → Prop} {x1 : Int32} {a1 : Int} (S : wS h) (z1 : x1.toInt = a1) (H : ((¬ (cBody (vw h) a1) → P 0 h) ∧ ((cBody (vw h) a1) → (0 ≤ a1 → a1 < 150 → ((¬ (kFarm (vw h 2 a1)) → P 0 h) ∧ ((kFarm (vw h 2 a1)) → P 1 h)))))) : Pt (n + 1) X zM75 0 [some (.ref 1), some (.int x1)] [] h (qI P) := by
  refine pt_1 (fun n d => r_aloadn gx75_0 rfl) ?_
  refine pt_d (pt_1 (fun n d => r_iloadn gx75_1 rfl) ?_)
  refine pt_d (pt_virt (as := [.int x1]) (r := []) gx75_2 rfl (show zmt[74]? = some zM74 from rfl) rfl rfl rfl rfl (c_74 S z1) (kqP (fun v1 h1 => ?_)))
  show Pt _ _ _ 5 _ [.int v1] _ _
  refine pt_d (pt_ifB_eq gx75_5 h1 (fun e2 => ?_) (fun e2 => ?_))
  · have H := H.1 e2
    refine pt_d (pt_iconst gx75_24 (fun v3 h3 => ?_))
    exact pt_d (pt_iret gx75_25 ⟨_, rfl, by rw [h3]; exact H⟩)
  · have H := H.2 e2
    refine pt_d (pt_1 (fun n d => r_aloadn gx75_8 rfl) ?_)
    refine pt_d (pt_getR gx75_9 S tr_1_7 ?_)
    refine pt_d (pt_1 (fun n d => r_iloadn gx75_12 rfl) ?_)
    refine pt_d (pt_iald (N' := 150) gx75_13 S tl_2 z1 (fun v5 p5 q5 h5 => ?_))
    have H := H p5 q5
    refine pt_d (pt_stat (as := [.int v5]) (r := []) gx75_14 rfl (show zmt[71]? = some zM71 from rfl) rfl rfl rfl rfl (c_71 S h5) (kqP (fun v6 h6 => ?_)))
    show Pt _ _ _ 17 _ [.int v6] _ _
    refine pt_d (pt_ifB_eq gx75_17 h6 (fun e7 => ?_) (fun e7 => ?_))
    · have H := H.1 e7
      refine pt_d (pt_iconst gx75_24 (fun v8 h8 => ?_))
      exact pt_d (pt_iret gx75_25 ⟨_, rfl, by rw [h8]; exact H⟩)
    · have H := H.2 e7
      refine pt_d (pt_iconst gx75_20 (fun v9 h9 => ?_))
      refine pt_d (pt_1 (fun n d => r_goto gx75_21) ?_)
      exact pt_d (pt_iret gx75_25 ⟨_, rfl, by rw [h9]; exact H⟩)
theorem c_75 {n : Nat} {X : aX} {h : aH} {x1 : Int32} {a1 : Int} (S : wS h) (z1 : x1.toInt = a1) : Pt n X zM75 0 [some (.ref 1), some (.int x1)] [] h (qI (fun y h' => h' = h ∧ y = bI (cFarm (vw h) a1))) := by
  refine pt_d (d75_0 S z1 ?_)
  repeat' (first | (refine And.intro ?_ ?_) | intro _)
  all_goals first
    | rfl
    | exact (bI_t (by omega)).symm
    | exact (bI_f (by omega)).symm
    | exact bI_c (by omega)
    | exact (bI_t (by simp only [kFarm, uF] at *; omega)).symm
    | exact (bI_f (by simp only [kFarm, uF] at *; omega)).symm
    | exact bI_c (by simp only [kFarm, uF] at *; omega)
    | exact bI_c (by unfold cFarm; grind)
    | exact (bI_t (by unfold cFarm; grind)).symm
    | exact (bI_f (by unfold cFarm; grind)).symm
    | omega
theorem d77_0 {n : Nat} {X : aX} {h : aH} {P : Int → aH → Prop} {x1 : Int32} {a1 : Int} (S : wS h) (z1 : x1.toInt = a1) (H : ((¬ (cBody (vw h) a1) → P 0 h) ∧ ((cBody (vw h) a1) → (0 ≤ a1 → a1 < 150 → ((¬ (4 ≤ (vw h 2 a1) ∧ (vw h 2 a1) ≤ 5) → P 0 h) ∧ ((4 ≤ (vw h 2 a1) ∧ (vw h 2 a1) ≤ 5) → P 1 h)))))) : Pt (n + 1) X zM77 0 [some (.ref 1), some (.int x1)] [] h (qI P) := by
  refine pt_1 (fun n d => r_aloadn gx77_0 rfl) ?_
  refine pt_d (pt_1 (fun n d => r_iloadn gx77_1 rfl) ?_)
  refine pt_d (pt_virt (as := [.int x1]) (r := []) gx77_2 rfl (show zmt[74]? = some zM74 from rfl) rfl rfl rfl rfl (c_74 S z1) (kqP (fun v1 h1 => ?_)))
  show Pt _ _ _ 5 _ [.int v1] _ _
  refine pt_d (pt_ifB_eq gx77_5 h1 (fun e2 => ?_) (fun e2 => ?_))
  · have H := H.1 e2
    refine pt_d (pt_iconst gx77_26 (fun v3 h3 => ?_))
    exact pt_d (pt_iret gx77_27 ⟨_, rfl, by rw [h3]; exact H⟩)
  · have H := H.2 e2
    refine pt_d (pt_1 (fun n d => r_aloadn gx77_8 rfl) ?_)
    refine pt_d (pt_getR gx77_9 S tr_1_7 ?_)
    refine pt_d (pt_1 (fun n d => r_iloadn gx77_12 rfl) ?_)
    refine pt_d (pt_iald (N' := 150) gx77_13 S tl_2 z1 (fun v5 p5 q5 h5 => ?_))
    have H := H p5 q5
    refine pt_d (pt_iconst gx77_14 (fun v6 h6 => ?_))
    refine pt_d (pt_iconst gx77_15 (fun v7 h7 => ?_))
    refine pt_d (pt_stat (as := [.int v5, .int v6, .int v7]) (r := []) gx77_16 rfl (show zmt[137]? = some zM137 from rfl) rfl rfl rfl rfl (c_137 S h5 h6 h7) (kqP (fun v8 h8 => ?_)))
    show Pt _ _ _ 19 _ [.int v8] _ _
    refine pt_d (pt_ifB_eq gx77_19 h8 (fun e9 => ?_) (fun e9 => ?_))
    · have H := H.1 e9
      refine pt_d (pt_iconst gx77_26 (fun v10 h10 => ?_))
      exact pt_d (pt_iret gx77_27 ⟨_, rfl, by rw [h10]; exact H⟩)
    · have H := H.2 e9
      refine pt_d (pt_iconst gx77_22 (fun v11 h11 => ?_))
      refine pt_d (pt_1 (fun n d => r_goto gx77_23) ?_)
      exact pt_d (pt_iret gx77_27 ⟨_, rfl, by rw [h11]; exact H⟩)
theorem c_77 {n : Nat} {X : aX} {h : aH} {x1 : Int32} {a1 : Int} (S : wS h) (z1 : x1.toInt = a1) : Pt n X zM77 0 [some (.ref 1), some (.int x1)] [] h (qI (fun y h' => h' = h ∧ y = bI (cField (vw h) a1))) := by
  refine pt_d (d77_0 S z1 ?_)
  repeat' (first | (refine And.intro ?_ ?_) | intro _)
  all_goals first
    | rfl
    | exact (bI_t (by omega)).symm
    | exact (bI_f (by omega)).symm
    | exact bI_c (by omega)
    | exact (bI_t (by simp only [kFarm, uF] at *; omega)).symm
    | exact (bI_f (by simp only [kFarm, uF] at *; omega)).symm
    | exact bI_c (by simp only [kFarm, uF] at *; omega)
    | exact bI_c (by unfold cField; grind)
    | exact (bI_t (by unfold cField; grind)).symm
    | exact (bI_f (by unfold cField; grind)).symm
    | omega
theorem d200_0 {n : Nat} {X : aX} {h : aH} {P : Int → aH → Prop} {x1 : Int32} {a1 : Int} (S : wS h) (z1 : x1.toInt = a1) (H : P (bI (0 ≤ a1 ∧ a1 ≤ (w32 ((vw h 72 2) - 1)))) h) : Pt (n + 1) X zM200 0 [some (.ref 72), some (.int x1)] [] h (qI P) := by
  refine pt_1 (fun n d => r_iloadn gx200_0 rfl) ?_
  refine pt_d (pt_iconst gx200_1 (fun v1 h1 => ?_))
  refine pt_d (pt_1 (fun n d => r_aloadn gx200_2 rfl) ?_)
  refine pt_d (pt_getI (B := 2) gx200_3 S (fun v2 h2 => ?_))
  refine pt_d (pt_iconst gx200_6 (fun v3 h3 => ?_))
  refine pt_d (pt_isub gx200_7 h2 h3 (fun v4 h4 => ?_))
  refine pt_d (pt_stat (as := [.int x1, .int v1, .int v4]) (r := []) gx200_8 rfl (show zmt[196]? = some zM196 from rfl) rfl rfl rfl rfl (c_196 S z1 h1 h4) (kqP (fun v5 h5 => ?_)))
  show Pt _ _ _ 11 _ [.int v5] _ _
  exact pt_d (pt_iret gx200_11 ⟨_, rfl, by rw [h5]; exact H⟩)
theorem c_200 {n : Nat} {X : aX} {h : aH} {x1 : Int32} {a1 : Int} (S : wS h) (z1 : x1.toInt = a1) : Pt n X zM200 0 [some (.ref 72), some (.int x1)] [] h (qI (fun y h' => h' = h ∧ y = bI (mBody (vw h) a1))) := by
  refine pt_d (d200_0 S z1 ?_)
  repeat' (first | (refine And.intro ?_ ?_) | intro _)
  all_goals first
    | rfl
    | exact (bI_t (by omega)).symm
    | exact (bI_f (by omega)).symm
    | exact bI_c (by omega)
    | omega
theorem d201_0 {n : Nat} {X : aX} {h : aH} {P : Int → aH → Prop} {x0 x1 : Int32} {a0 a1 : Int} (S : wS h) (z0 : x0.toInt = a0) (z1 : x1.toInt = a1) (H : ((a1 = 0 → P 1 h) ∧ (a1 ≠ 0 → ((a0 ≠ a1 → ((a1 ≠ 1 → ((a1 ≠ 2 → ((a1 ≠ 4 → P 0 h) ∧ (a1 = 4 → ((a0 ≠ 5 → P 0 h) ∧ (a0 = 5 → P 1 h))))) ∧ (a1 = 2 → ((a0 ≠ 7 → P 0 h) ∧ (a0 = 7 → P 1 h))))) ∧ (a1 = 1 → ((a0 = 2 → P 1 h) ∧ (a0 ≠ 2 → ((a0 = 3 → P 1 h) ∧ (a0 ≠ 3 → ((a0 ≠ 7 → P 0 h) ∧ (a0 = 7 → P 1 h))))))))) ∧ (a0 = a1 → P 1 h))))) : Pt (n + 1) X zM201 0 [some (.int x0), some (.int x1)] [] h (qI P) := by
  refine pt_1 (fun n d => r_iloadn gx201_0 rfl) ?_
  refine pt_d (pt_if_eq gx201_1 z1 (fun e1 => ?_) (fun e1 => ?_))
  · have H := H.1 e1
    refine pt_d (pt_iconst gx201_9 (fun v2 h2 => ?_))
    exact pt_d (pt_iret gx201_10 ⟨_, rfl, by rw [h2]; exact H⟩)
  · have H := H.2 e1
    refine pt_d (pt_1 (fun n d => r_iloadn gx201_4 rfl) ?_)
    refine pt_d (pt_1 (fun n d => r_iloadn gx201_5 rfl) ?_)
    refine pt_d (pt_icmp_ne gx201_6 z0 z1 (fun e3 => ?_) (fun e3 => ?_))
    · have H := H.1 e3
      refine pt_d (pt_1 (fun n d => r_iloadn gx201_11 rfl) ?_)
      refine pt_d (pt_iconst gx201_12 (fun v4 h4 => ?_))
      refine pt_d (pt_icmp_ne gx201_13 z1 h4 (fun e5 => ?_) (fun e5 => ?_))
      · have H := H.1 e5
        refine pt_d (pt_1 (fun n d => r_iloadn gx201_38 rfl) ?_)
        refine pt_d (pt_iconst gx201_39 (fun v6 h6 => ?_))
        refine pt_d (pt_icmp_ne gx201_40 z1 h6 (fun e7 => ?_) (fun e7 => ?_))
        · have H := H.1 e7
          refine pt_d (pt_1 (fun n d => r_iloadn gx201_55 rfl) ?_)
          refine pt_d (pt_iconst gx201_56 (fun v8 h8 => ?_))
          refine pt_d (pt_icmp_ne gx201_57 z1 h8 (fun e9 => ?_) (fun e9 => ?_))
          · have H := H.1 e9
            refine pt_d (pt_iconst gx201_69 (fun v10 h10 => ?_))
            exact pt_d (pt_iret gx201_70 ⟨_, rfl, by rw [h10]; exact H⟩)
          · have H := H.2 e9
            refine pt_d (pt_1 (fun n d => r_iloadn gx201_60 rfl) ?_)
            refine pt_d (pt_iconst gx201_61 (fun v11 h11 => ?_))
            refine pt_d (pt_icmp_ne gx201_62 z0 h11 (fun e12 => ?_) (fun e12 => ?_))
            · have H := H.1 e12
              refine pt_d (pt_iconst gx201_69 (fun v13 h13 => ?_))
              exact pt_d (pt_iret gx201_70 ⟨_, rfl, by rw [h13]; exact H⟩)
            · have H := H.2 e12
              refine pt_d (pt_iconst gx201_65 (fun v14 h14 => ?_))
              refine pt_d (pt_1 (fun n d => r_goto gx201_66) ?_)
              exact pt_d (pt_iret gx201_70 ⟨_, rfl, by rw [h14]; exact H⟩)
        · have H := H.2 e7
          refine pt_d (pt_1 (fun n d => r_iloadn gx201_43 rfl) ?_)
          refine pt_d (pt_bipush gx201_44 (fun v15 h15 => ?_))
          refine pt_d (pt_icmp_ne gx201_46 z0 h15 (fun e16 => ?_) (fun e16 => ?_))
          · have H := H.1 e16
            refine pt_d (pt_iconst gx201_53 (fun v17 h17 => ?_))
            exact pt_d (pt_iret gx201_54 ⟨_, rfl, by rw [h17]; exact H⟩)
          · have H := H.2 e16
            refine pt_d (pt_iconst gx201_49 (fun v18 h18 => ?_))
            refine pt_d (pt_1 (fun n d => r_goto gx201_50) ?_)
            exact pt_d (pt_iret gx201_54 ⟨_, rfl, by rw [h18]; exact H⟩)
      · have H := H.2 e5
        refine pt_d (pt_1 (fun n d => r_iloadn gx201_16 rfl) ?_)
        refine pt_d (pt_iconst gx201_17 (fun v19 h19 => ?_))
        refine pt_d (pt_icmp_eq gx201_18 z0 h19 (fun e20 => ?_) (fun e20 => ?_))
        · have H := H.1 e20
          refine pt_d (pt_iconst gx201_32 (fun v21 h21 => ?_))
          refine pt_d (pt_1 (fun n d => r_goto gx201_33) ?_)
          exact pt_d (pt_iret gx201_37 ⟨_, rfl, by rw [h21]; exact H⟩)
        · have H := H.2 e20
          refine pt_d (pt_1 (fun n d => r_iloadn gx201_21 rfl) ?_)
          refine pt_d (pt_iconst gx201_22 (fun v22 h22 => ?_))
          refine pt_d (pt_icmp_eq gx201_23 z0 h22 (fun e23 => ?_) (fun e23 => ?_))
          · have H := H.1 e23
            refine pt_d (pt_iconst gx201_32 (fun v24 h24 => ?_))
            refine pt_d (pt_1 (fun n d => r_goto gx201_33) ?_)
            exact pt_d (pt_iret gx201_37 ⟨_, rfl, by rw [h24]; exact H⟩)
          · have H := H.2 e23
            refine pt_d (pt_1 (fun n d => r_iloadn gx201_26 rfl) ?_)
            refine pt_d (pt_bipush gx201_27 (fun v25 h25 => ?_))
            refine pt_d (pt_icmp_ne gx201_29 z0 h25 (fun e26 => ?_) (fun e26 => ?_))
            · have H := H.1 e26
              refine pt_d (pt_iconst gx201_36 (fun v27 h27 => ?_))
              exact pt_d (pt_iret gx201_37 ⟨_, rfl, by rw [h27]; exact H⟩)
            · have H := H.2 e26
              refine pt_d (pt_iconst gx201_32 (fun v28 h28 => ?_))
              refine pt_d (pt_1 (fun n d => r_goto gx201_33) ?_)
              exact pt_d (pt_iret gx201_37 ⟨_, rfl, by rw [h28]; exact H⟩)
    · have H := H.2 e3
      refine pt_d (pt_iconst gx201_9 (fun v29 h29 => ?_))
      exact pt_d (pt_iret gx201_10 ⟨_, rfl, by rw [h29]; exact H⟩)
theorem c_201 {n : Nat} {X : aX} {h : aH} {x0 x1 : Int32} {a0 a1 : Int} (S : wS h) (z0 : x0.toInt = a0) (z1 : x1.toInt = a1) : Pt n X zM201 0 [some (.int x0), some (.int x1)] [] h (qI (fun y h' => h' = h ∧ y = bI (uF a0 a1))) := by
  refine pt_d (d201_0 S z0 z1 ?_)
  repeat' (first | (refine And.intro ?_ ?_) | intro _)
  all_goals first
    | rfl
    | exact (bI_t (by omega)).symm
    | exact (bI_f (by omega)).symm
    | exact bI_c (by omega)
    | exact (bI_t (by simp only [kFarm, uF] at *; omega)).symm
    | exact (bI_f (by simp only [kFarm, uF] at *; omega)).symm
    | exact bI_c (by simp only [kFarm, uF] at *; omega)
    | exact bI_c (by grind)
    | exact (bI_t (by grind)).symm
    | exact (bI_f (by grind)).symm
    | omega
theorem d202_0 {n : Nat} {X : aX} {h : aH} {P : Int → aH → Prop} {x1 : Int32} {a1 : Int} (S : wS h) (z1 : x1.toInt = a1) (H : ((¬ (mBody (vw h) a1) → P 0 h) ∧ ((mBody (vw h) a1) → (0 ≤ a1 → a1 < 150 → ((¬ (uF (vw h 73 a1) 1) → P 0 h) ∧ ((uF (vw h 73 a1) 1) → P 1 h)))))) : Pt (n + 1) X zM202 0 [some (.ref 72), some (.int x1)] [] h (qI P) := by
  refine pt_1 (fun n d => r_aloadn gx202_0 rfl) ?_
  refine pt_d (pt_1 (fun n d => r_iloadn gx202_1 rfl) ?_)
  refine pt_d (pt_virt (as := [.int x1]) (r := []) gx202_2 rfl (show zmt[200]? = some zM200 from rfl) rfl rfl rfl rfl (c_200 S z1) (kqP (fun v1 h1 => ?_)))
  show Pt _ _ _ 5 _ [.int v1] _ _
  refine pt_d (pt_ifB_eq gx202_5 h1 (fun e2 => ?_) (fun e2 => ?_))
  · have H := H.1 e2
    refine pt_d (pt_iconst gx202_25 (fun v3 h3 => ?_))
    exact pt_d (pt_iret gx202_26 ⟨_, rfl, by rw [h3]; exact H⟩)
  · have H := H.2 e2
    refine pt_d (pt_1 (fun n d => r_aloadn gx202_8 rfl) ?_)
    refine pt_d (pt_getR gx202_9 S tr_72_3 ?_)
    refine pt_d (pt_1 (fun n d => r_iloadn gx202_12 rfl) ?_)
    refine pt_d (pt_iald (N' := 150) gx202_13 S tl_73 z1 (fun v5 p5 q5 h5 => ?_))
    have H := H p5 q5
    refine pt_d (pt_iconst gx202_14 (fun v6 h6 => ?_))
    refine pt_d (pt_stat (as := [.int v5, .int v6]) (r := []) gx202_15 rfl (show zmt[201]? = some zM201 from rfl) rfl rfl rfl rfl (c_201 S h5 h6) (kqP (fun v7 h7 => ?_)))
    show Pt _ _ _ 18 _ [.int v7] _ _
    refine pt_d (pt_ifB_eq gx202_18 h7 (fun e8 => ?_) (fun e8 => ?_))
    · have H := H.1 e8
      refine pt_d (pt_iconst gx202_25 (fun v9 h9 => ?_))
      exact pt_d (pt_iret gx202_26 ⟨_, rfl, by rw [h9]; exact H⟩)
    · have H := H.2 e8
      refine pt_d (pt_iconst gx202_21 (fun v10 h10 => ?_))
      refine pt_d (pt_1 (fun n d => r_goto gx202_22) ?_)
      exact pt_d (pt_iret gx202_26 ⟨_, rfl, by rw [h10]; exact H⟩)
theorem c_202 {n : Nat} {X : aX} {h : aH} {x1 : Int32} {a1 : Int} (S : wS h) (z1 : x1.toInt = a1) : Pt n X zM202 0 [some (.ref 72), some (.int x1)] [] h (qI (fun y h' => h' = h ∧ y = bI (mFarm (vw h) a1))) := by
  refine pt_d (d202_0 S z1 ?_)
  repeat' (first | (refine And.intro ?_ ?_) | intro _)
  all_goals first
    | rfl
    | exact (bI_t (by omega)).symm
    | exact (bI_f (by omega)).symm
    | exact bI_c (by omega)
    | exact (bI_t (by simp only [kFarm, uF] at *; omega)).symm
    | exact (bI_f (by simp only [kFarm, uF] at *; omega)).symm
    | exact bI_c (by simp only [kFarm, uF] at *; omega)
    | exact bI_c (by unfold mFarm; grind)
    | exact (bI_t (by unfold mFarm; grind)).symm
    | exact (bI_f (by unfold mFarm; grind)).symm
    | omega
theorem d203_0 {n : Nat} {X : aX} {h : aH} {P : Int → aH → Prop} {x1 : Int32} {a1 : Int} (S : wS h) (z1 : x1.toInt = a1) (H : ((¬ (mBody (vw h) a1) → P 0 h) ∧ ((mBody (vw h) a1) → (0 ≤ a1 → a1 < 150 → ((¬ (uF (vw h 73 a1) 4) → P 0 h) ∧ ((uF (vw h 73 a1) 4) → P 1 h)))))) : Pt (n + 1) X zM203 0 [some (.ref 72), some (.int x1)] [] h (qI P) := by
  refine pt_1 (fun n d => r_aloadn gx203_0 rfl) ?_
  refine pt_d (pt_1 (fun n d => r_iloadn gx203_1 rfl) ?_)
  refine pt_d (pt_virt (as := [.int x1]) (r := []) gx203_2 rfl (show zmt[200]? = some zM200 from rfl) rfl rfl rfl rfl (c_200 S z1) (kqP (fun v1 h1 => ?_)))
  show Pt _ _ _ 5 _ [.int v1] _ _
  refine pt_d (pt_ifB_eq gx203_5 h1 (fun e2 => ?_) (fun e2 => ?_))
  · have H := H.1 e2
    refine pt_d (pt_iconst gx203_25 (fun v3 h3 => ?_))
    exact pt_d (pt_iret gx203_26 ⟨_, rfl, by rw [h3]; exact H⟩)
  · have H := H.2 e2
    refine pt_d (pt_1 (fun n d => r_aloadn gx203_8 rfl) ?_)
    refine pt_d (pt_getR gx203_9 S tr_72_3 ?_)
    refine pt_d (pt_1 (fun n d => r_iloadn gx203_12 rfl) ?_)
    refine pt_d (pt_iald (N' := 150) gx203_13 S tl_73 z1 (fun v5 p5 q5 h5 => ?_))
    have H := H p5 q5
    refine pt_d (pt_iconst gx203_14 (fun v6 h6 => ?_))
    refine pt_d (pt_stat (as := [.int v5, .int v6]) (r := []) gx203_15 rfl (show zmt[201]? = some zM201 from rfl) rfl rfl rfl rfl (c_201 S h5 h6) (kqP (fun v7 h7 => ?_)))
    show Pt _ _ _ 18 _ [.int v7] _ _
    refine pt_d (pt_ifB_eq gx203_18 h7 (fun e8 => ?_) (fun e8 => ?_))
    · have H := H.1 e8
      refine pt_d (pt_iconst gx203_25 (fun v9 h9 => ?_))
      exact pt_d (pt_iret gx203_26 ⟨_, rfl, by rw [h9]; exact H⟩)
    · have H := H.2 e8
      refine pt_d (pt_iconst gx203_21 (fun v10 h10 => ?_))
      refine pt_d (pt_1 (fun n d => r_goto gx203_22) ?_)
      exact pt_d (pt_iret gx203_26 ⟨_, rfl, by rw [h10]; exact H⟩)
theorem c_203 {n : Nat} {X : aX} {h : aH} {x1 : Int32} {a1 : Int} (S : wS h) (z1 : x1.toInt = a1) : Pt n X zM203 0 [some (.ref 72), some (.int x1)] [] h (qI (fun y h' => h' = h ∧ y = bI (mField (vw h) a1))) := by
  refine pt_d (d203_0 S z1 ?_)
  repeat' (first | (refine And.intro ?_ ?_) | intro _)
  all_goals first
    | rfl
    | exact (bI_t (by omega)).symm
    | exact (bI_f (by omega)).symm
    | exact bI_c (by omega)
    | exact (bI_t (by simp only [kFarm, uF] at *; omega)).symm
    | exact (bI_f (by simp only [kFarm, uF] at *; omega)).symm
    | exact bI_c (by simp only [kFarm, uF] at *; omega)
    | exact bI_c (by unfold mField; grind)
    | exact (bI_t (by unfold mField; grind)).symm
    | exact (bI_f (by unfold mField; grind)).symm
    | omega
theorem d211_0 {n : Nat} {X : aX} {h : aH} {P : Int → aH → Prop} {x0 x1 : Int32} {a0 a1 : Int} (S : wS h) (z0 : x0.toInt = a0) (z1 : x1.toInt = a1) (H : ((a1 ≤ a0 → P a1 h) ∧ (a0 < a1 → P a0 h))) : Pt (n + 1) X zM211 0 [some (.int x0), some (.int x1)] [] h (qI P) := by
  refine pt_1 (fun n d => r_iloadn gx211_0 rfl) ?_
  refine pt_d (pt_1 (fun n d => r_iloadn gx211_1 rfl) ?_)
  refine pt_d (pt_icmp_ge gx211_2 z0 z1 (fun e1 => ?_) (fun e1 => ?_))
  · have H := H.1 e1
    refine pt_d (pt_1 (fun n d => r_iloadn gx211_9 rfl) ?_)
    exact pt_d (pt_iret gx211_10 ⟨_, rfl, by rw [z1]; exact H⟩)
  · have H := H.2 e1
    refine pt_d (pt_1 (fun n d => r_iloadn gx211_5 rfl) ?_)
    refine pt_d (pt_1 (fun n d => r_goto gx211_6) ?_)
    exact pt_d (pt_iret gx211_10 ⟨_, rfl, by rw [z0]; exact H⟩)
theorem c_211 {n : Nat} {X : aX} {h : aH} {x0 x1 : Int32} {a0 a1 : Int} (S : wS h) (z0 : x0.toInt = a0) (z1 : x1.toInt = a1) : Pt n X zM211 0 [some (.int x0), some (.int x1)] [] h (qI (fun y h' => h' = h ∧ y = min a0 a1)) := by
  refine pt_d (d211_0 S z0 z1 ?_)
  repeat' (first | (refine And.intro ?_ ?_) | intro _)
  all_goals first
    | rfl
    | exact (bI_t (by omega)).symm
    | exact (bI_f (by omega)).symm
    | exact bI_c (by omega)
    | omega
theorem d212_0 {n : Nat} {X : aX} {h : aH} {P : Int → aH → Prop} {x0 x1 : Int32} {a0 a1 : Int} (S : wS h) (z0 : x0.toInt = a0) (z1 : x1.toInt = a1) (H : ((a0 ≤ a1 → P a1 h) ∧ (a1 < a0 → P a0 h))) : Pt (n + 1) X zM212 0 [some (.int x0), some (.int x1)] [] h (qI P) := by
  refine pt_1 (fun n d => r_iloadn gx212_0 rfl) ?_
  refine pt_d (pt_1 (fun n d => r_iloadn gx212_1 rfl) ?_)
  refine pt_d (pt_icmp_le gx212_2 z0 z1 (fun e1 => ?_) (fun e1 => ?_))
  · have H := H.1 e1
    refine pt_d (pt_1 (fun n d => r_iloadn gx212_9 rfl) ?_)
    exact pt_d (pt_iret gx212_10 ⟨_, rfl, by rw [z1]; exact H⟩)
  · have H := H.2 e1
    refine pt_d (pt_1 (fun n d => r_iloadn gx212_5 rfl) ?_)
    refine pt_d (pt_1 (fun n d => r_goto gx212_6) ?_)
    exact pt_d (pt_iret gx212_10 ⟨_, rfl, by rw [z0]; exact H⟩)
theorem c_212 {n : Nat} {X : aX} {h : aH} {x0 x1 : Int32} {a0 a1 : Int} (S : wS h) (z0 : x0.toInt = a0) (z1 : x1.toInt = a1) : Pt n X zM212 0 [some (.int x0), some (.int x1)] [] h (qI (fun y h' => h' = h ∧ y = max a0 a1)) := by
  refine pt_d (d212_0 S z0 z1 ?_)
  repeat' (first | (refine And.intro ?_ ?_) | intro _)
  all_goals first
    | rfl
    | exact (bI_t (by omega)).symm
    | exact (bI_f (by omega)).symm
    | exact bI_c (by omega)
    | omega
end

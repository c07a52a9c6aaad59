-- ===== by hand: what a run comes to, backwards =====
def Wp (X : aX) (D : Nat) (M : aM) (Q : Option Value → aH → Prop) (pc : Nat) (l : aL) (st : List Value) (h : aH) : Prop := ∃ (N : Nat) (v : Option Value) (h' : aH), Q v h' ∧ ∀ n d, arun X (n + N) (d + D) M pc l st h = some (v, h')
section WP
variable {X : aX} {D : Nat} {M : aM} {Q : Option Value → aH → Prop} {pc pc' len a b : Nat} {l l' : aL} {st st' r : List Value} {h h' : aH}
theorem wp1 (hs : ∀ n d, arun X (n + 1) (d + D) M pc l st h = arun X n (d + D) M pc' l' st' h') (k : Wp X D M Q pc' l' st' h') : Wp X D M Q pc l st h := by
  obtain ⟨N, v, h2, a1, a2⟩ := k
  exact ⟨N + 1, v, h2, a1, fun n d => by rw [show n + (N + 1) = (n + N) + 1 by omega, hs]; exact a2 n d⟩
theorem wp_end {v : Option Value} (hs : ∀ n d, arun X (n + 1) (d + D) M pc l st h = some (v, h)) (hq : Q v h) : Wp X D M Q pc l st h := ⟨1, v, h, hq, hs⟩
theorem wp_call {Y : aM} {l1 : aL} {h1 : aH} {lv N : Nat} {v : Option Value} (hs : ∀ n d, arun X n d Y 0 l1 [] h = some (v, h1) → arun X (n + 1) (d + 1) M pc l st h = arun X n (d + 1) M pc' l' st' h1) (hd : lv + 1 ≤ D) (hr : ∀ n d, arun X (n + N) (d + lv) Y 0 l1 [] h = some (v, h1)) (k : Wp X D M Q pc' l' st' h1) : Wp X D M Q pc l st h := by
  obtain ⟨N2, v2, h2, a1, a2⟩ := k
  obtain ⟨δ, hδ⟩ : ∃ δ, D = (δ + lv) + 1 := ⟨D - lv - 1, by omega⟩
  refine ⟨N2 + N + 1, v2, h2, a1, fun n d => ?_⟩
  have q := a2 (n + N) d
  rw [hδ] at q ⊢
  rw [show n + (N2 + N + 1) = (n + N2 + N) + 1 by omega, show d + (δ + lv + 1) = (d + δ + lv) + 1 by omega]
  rw [show n + N + N2 = n + N2 + N by omega, show d + (δ + lv + 1) = (d + δ + lv) + 1 by omega] at q
  rw [hs _ _ (hr (n + N2) (d + δ))]
  exact q
theorem wp_icmp {c : Jvm.ClassFile.Cond} {off : Int} {x y : Int32} (hf : aF pc M.2.2.2.2.2.2.2 = some (pc, (.if_icmp c off), len, a, b)) (k1 : dBr c x.toInt y.toInt = true → Wp X D M Q a l r h) (k2 : dBr c x.toInt y.toInt = false → Wp X D M Q (pc + 3) l r h) : Wp X D M Q pc l (.int y :: .int x :: r) h := by
  cases e : dBr c x.toInt y.toInt with
  | true => exact wp1 (fun n d => by rw [r_cmp hf, e]; rfl) (k1 e)
  | false => exact wp1 (fun n d => by rw [r_cmp hf, e]; rfl) (k2 e)
theorem wp_if {c : Jvm.ClassFile.Cond} {off : Int} {x : Int32} (hf : aF pc M.2.2.2.2.2.2.2 = some (pc, (.ifCond c off), len, a, b)) (k1 : dBr c x.toInt 0 = true → Wp X D M Q a l r h) (k2 : dBr c x.toInt 0 = false → Wp X D M Q (pc + 3) l r h) : Wp X D M Q pc l (.int x :: r) h := by
  cases e : dBr c x.toInt 0 with
  | true => exact wp1 (fun n d => by rw [r_cond hf, e]; rfl) (k1 e)
  | false => exact wp1 (fun n d => by rw [r_cond hf, e]; rfl) (k2 e)
theorem wp_le (hm : ∀ v h, Q v h → Q v h) (k : Wp X D M Q pc l st h) : Wp X D M Q pc l st h := k
end WP
theorem wp_mono {X : aX} {D : Nat} {M : aM} {Q Q' : Option Value → aH → Prop} {pc : Nat} {l : aL} {st : List Value} {h : aH} (hm : ∀ v h, Q v h → Q' v h) (k : Wp X D M Q pc l st h) : Wp X D M Q' pc l st h := by
  obtain ⟨N, v, h2, a1, a2⟩ := k
  exact ⟨N, v, h2, hm _ _ a1, a2⟩
-- locals: a store behind a local of which nothing is known
theorem aS1_u (p s : aL) (u w : Option Value) (v : Value) : ∃ u', aS1 (p ++ u :: w :: s) (p.length + 1) v = p ++ u' :: some v :: s := by
  have e1 : ∀ x : Option Value, (p ++ x :: w :: s).set (p.length + 1) (some v) = p ++ x :: some v :: s := by
    intro x
    rw [List.set_append_right _ _ (by omega), show p.length + 1 - p.length = 1 by omega]
    rfl
  have e2 : (p ++ u :: w :: s).set p.length none = p ++ none :: w :: s := by
    rw [List.set_append_right _ _ (by omega), Nat.sub_self]
    rfl
  unfold aS1 aclr
  dsimp only
  split
  · exact ⟨none, by rw [e2]; exact e1 none⟩
  · exact ⟨none, by rw [e2]; exact e1 none⟩
  · exact ⟨u, e1 u⟩
-- what a well-typed heap holds
theorem dI_o {σ : List Nat} {h : aH} (I : dI σ h) {r : Nat} {t : cRt} (hr : r < 146) (ht : cRT[r]? = some t) (h0 : t.1 = 0) : ∃ fs : List Value, h.1[r]? = some (.inr (t.2.1, fs)) ∧ fs.length = t.2.2.2.2.2.length ∧ ∀ (i : Nat) (ty : Nat × Int × Int), t.2.2.2.2.2[i]? = some ty → ∃ v, fs[i]? = some v ∧ dT σ ty v := by
  obtain ⟨c, d1, d2⟩ := dH_cell I.1 (I.1.2.2.2 r hr) ht
  obtain ⟨fs, rfl, f2, f3⟩ := dC_0 d2 h0
  exact ⟨fs, d1, f2, f3⟩
theorem dI_a {σ : List Nat} {h : aH} (I : dI σ h) {r : Nat} {t : cRt} (hr : r < 146) (ht : cRT[r]? = some t) (h0 : t.1 = 1) : ∃ g : Nat → Int32, h.1[r]? = some (.inl (t.2.1, t.2.2.1, .inl g)) ∧ ∀ j, j < t.2.2.1 → t.2.2.2.1 ≤ (g j).toInt ∧ (g j).toInt ≤ t.2.2.2.2.1 := by
  obtain ⟨c, d1, d2⟩ := dH_cell I.1 (I.1.2.2.2 r hr) ht
  obtain ⟨g, rfl, f2⟩ := dC_1 d2 h0
  exact ⟨g, d1, f2⟩
theorem dI_j {σ : List Nat} {h : aH} (I : dI σ h) {r : Nat} {t : cRt} (hr : r < 146) (ht : cRT[r]? = some t) (h0 : t.1 = 2) : ∃ g : Nat → Int64, h.1[r]? = some (.inl (1, t.2.2.1, .inr (.inl g))) ∧ ∀ j, j < t.2.2.1 → t.2.2.2.1 ≤ (g j).toInt ∧ (g j).toInt ≤ t.2.2.2.2.1 := by
  obtain ⟨c, d1, d2⟩ := dH_cell I.1 (I.1.2.2.2 r hr) ht
  obtain ⟨g, rfl, f2⟩ := dC_2 d2 h0
  exact ⟨g, d1, f2⟩
/-- an int of an object's field -/
theorem dT_i {σ : List Nat} {ty : Nat × Int × Int} {v : Value} (h : dT σ ty v) (e : ty.1 = 0) : ∃ x : Int32, v = .int x ∧ ty.2.1 ≤ x.toInt ∧ x.toInt ≤ ty.2.2 := by
  unfold dT at h; rw [e] at h; exact h
/-- a reference to a cell of the two objects -/
theorem dT_r {σ : List Nat} {h : aH} (H : dH σ h) {ty : Nat × Int × Int} {v : Value} (k : dT σ ty v) (e : ty.1 = 1) (hr : ty.2.1.toNat < 146) : v = .ref ty.2.1.toNat := by
  unfold dT at k
  rw [e] at k
  obtain ⟨q, rfl, hq⟩ := k
  rw [H.2.2.1 q _ hq hr]
-- a contract's locals
theorem dL_i {ρ : List Int} {rh : List Nat} {L : List cW} {l : aL} (h : dL ρ rh L l) {i p : Nat} {o : Int} (e : L[i]? = some (1, p, o)) : ∃ (x : Int32) (y : Int), l[i]? = some (some (.int x)) ∧ ρ[p]? = some y ∧ x.toInt = y + o := by
  rcases h.2 i _ e with q | ⟨v, q1, x, y, rfl, q2, q3⟩
  · cases q
  · exact ⟨x, y, aG_get.mp q1, q2, q3⟩
theorem dL_r {ρ : List Int} {rh : List Nat} {L : List cW} {l : aL} (h : dL ρ rh L l) {i c : Nat} {o : Int} (e : L[i]? = some (3, c, o)) (hc : c < 146) : l[i]? = some (some (.ref c)) := by
  rcases h.2 i _ e with q | ⟨v, q1, q, rfl, q2⟩
  · cases q
  · rcases q2 with ⟨-, rfl⟩ | ⟨q2, -⟩
    · exact aG_get.mp q1
    · dsimp only at q2; omega
/-- the end of a run by hand -/
def hQ (C : cC) (σ : List Nat) (h : aH) (v : Option Value) (h' : aH) : Prop := ∃ σ' : List Nat, dI σ' h' ∧ dG C.2.2.1 σ h σ' h' ∧ ∃ P, P ∈ C.2.2.2.2.1 ∧ dPost P σ' h' v
theorem hEnd {X : aX} {C : cC} {M : aM} {pc : Nat} {l : aL} {sv : List Value} {σ : List Nat} {h : aH} (k : Wp X C.2.1 M (hQ C σ h) pc l sv h) : dEnd X C M pc l sv σ h := by
  obtain ⟨N, v, h', ⟨σ', a1, a2, a3⟩, r⟩ := k
  exact ⟨N, v, h', σ', r, a1, a2, a3⟩
/-- a post that says nothing but an int between two -/
theorem post_i {σ : List Nat} {h : aH} {x : Int32} {lo hi : Int} (H : dH σ h) (h1 : lo ≤ x.toInt) (h2 : x.toInt ≤ hi) : dPost ([], [(1, 1, 0)], ([(0, 0), (lo, hi)], [], [], [], [], [], [])) σ h (some (.int x)) := by
  refine ⟨[0, x.toInt], [], ⟨⟨rfl, rfl, fun p y q e1 e2 => ?_⟩, fun t ht => (by cases ht), fun t ht => (by cases ht), ⟨rfl, fun i r e => (by simp at e)⟩, fun t ht => (by cases ht), fun t ht => (by cases ht), fun t ht => (by cases ht)⟩, ⟨x, x.toInt, rfl, rfl, by show _ = _ + 0; omega⟩, trivial⟩
  match p, e1, e2 with
  | 0, e1, e2 => cases e1; cases e2; exact ⟨by decide, by decide⟩
  | 1, e1, e2 => cases e1; cases e2; exact ⟨h1, h2⟩
  | p + 2, e1, _ => simp at e1
theorem post_j {σ : List Nat} {h : aH} {x : Int64} {lo hi : Int} (H : dH σ h) (h1 : lo ≤ x.toInt) (h2 : x.toInt ≤ hi) : dPost ([], [(2, 1, 0)], ([(0, 0), (lo, hi)], [], [], [], [], [], [])) σ h (some (.long x)) := by
  refine ⟨[0, x.toInt], [], ⟨⟨rfl, rfl, fun p y q e1 e2 => ?_⟩, fun t ht => (by cases ht), fun t ht => (by cases ht), ⟨rfl, fun i r e => (by simp at e)⟩, fun t ht => (by cases ht), fun t ht => (by cases ht), fun t ht => (by cases ht)⟩, ⟨x, x.toInt, rfl, rfl, by show _ = _ + 0; omega⟩, trivial⟩
  match p, e1, e2 with
  | 0, e1, e2 => cases e1; cases e2; exact ⟨by decide, by decide⟩
  | 1, e1, e2 => cases e1; cases e2; exact ⟨h1, h2⟩
  | p + 2, e1, _ => simp at e1
-- the table's words, by the kernel
def tkO (r ci : Nat) : Bool := match cRT[r]? with
  | some t => Nat.beq t.1 0 && Nat.beq t.2.1 ci && Nat.blt r 146
  | none => false
def tkI (r k : Nat) (lo hi : Int) : Bool := match cRT[r]? with
  | some t => Nat.beq t.1 0 && Nat.blt r 146 && (match t.2.2.2.2.2[k]? with
    | some ty => Nat.beq ty.1 0 && ceI ty.2.1 lo && ceI ty.2.2 hi
    | none => false)
  | none => false
def tkR (r k q : Nat) : Bool := match cRT[r]? with
  | some t => Nat.beq t.1 0 && Nat.blt r 146 && (match t.2.2.2.2.2[k]? with
    | some ty => Nat.beq ty.1 1 && ceI ty.2.1 q && Nat.blt q 146
    | none => false)
  | none => false
def tkA (r a n : Nat) (lo hi : Int) : Bool := match cRT[r]? with
  | some t => Nat.beq t.1 1 && Nat.blt r 146 && Nat.beq t.2.1 a && Nat.beq t.2.2.1 n && ceI t.2.2.2.1 lo && ceI t.2.2.2.2.1 hi
  | none => false
def tkJ (r n : Nat) (lo hi : Int) : Bool := match cRT[r]? with
  | some t => Nat.beq t.1 2 && Nat.blt r 146 && Nat.beq t.2.2.1 n && ceI t.2.2.2.1 lo && ceI t.2.2.2.2.1 hi
  | none => false
theorem hI_o {σ : List Nat} {h : aH} (I : dI σ h) {r ci : Nat} (k : tkO r ci = true) : ∃ fs : List Value, h.1[r]? = some (.inr (ci, fs)) := by
  unfold tkO at k
  split at k
  · rename_i t e
    simp only [Bool.and_eq_true, Nat.blt_eq] at k
    obtain ⟨⟨k1, k2⟩, k3⟩ := k
    obtain ⟨fs, a, -, -⟩ := dI_o I k3 e (Nat.eq_of_beq_eq_true k1)
    rw [Nat.eq_of_beq_eq_true k2] at a
    exact ⟨fs, a⟩
  · cases k
theorem hI_i {σ : List Nat} {h : aH} (I : dI σ h) {r ci f : Nat} {lo hi : Int} {fs : List Value} (c : h.1[r]? = some (.inr (ci, fs))) (k : tkI r f lo hi = true) : ∃ x : Int32, fs[f]? = some (.int x) ∧ lo ≤ x.toInt ∧ x.toInt ≤ hi := by
  unfold tkI at k
  split at k
  · rename_i t e
    rw [Bool.and_eq_true, Bool.and_eq_true, Nat.blt_eq] at k
    obtain ⟨⟨k1, k2⟩, k3⟩ := k
    obtain ⟨fs', a, -, a3⟩ := dI_o I k2 e (Nat.eq_of_beq_eq_true k1)
    rw [c] at a
    cases a
    split at k3
    · rename_i ty ety
      simp only [Bool.and_eq_true, ceI_i] at k3
      obtain ⟨v, b1, b2⟩ := a3 _ _ ety
      obtain ⟨x, rfl, b3, b4⟩ := dT_i b2 (Nat.eq_of_beq_eq_true k3.1.1)
      exact ⟨x, b1, by omega, by omega⟩
    · cases k3
  · cases k
theorem hI_r {σ : List Nat} {h : aH} (I : dI σ h) {r ci f q : Nat} {fs : List Value} (c : h.1[r]? = some (.inr (ci, fs))) (k : tkR r f q = true) : fs[f]? = some (.ref q) := by
  unfold tkR at k
  split at k
  · rename_i t e
    rw [Bool.and_eq_true, Bool.and_eq_true, Nat.blt_eq] at k
    obtain ⟨⟨k1, k2⟩, k3⟩ := k
    obtain ⟨fs', a, -, a3⟩ := dI_o I k2 e (Nat.eq_of_beq_eq_true k1)
    rw [c] at a
    cases a
    split at k3
    · rename_i ty ety
      simp only [Bool.and_eq_true, ceI_i, Nat.blt_eq] at k3
      obtain ⟨⟨k4, k5⟩, k6⟩ := k3
      obtain ⟨v, b1, b2⟩ := a3 _ _ ety
      have hq : ty.2.1.toNat = q := by omega
      have := dT_r I.1 b2 (Nat.eq_of_beq_eq_true k4) (by omega)
      rw [b1, this, hq]
    · cases k3
  · cases k
theorem hI_a {σ : List Nat} {h : aH} (I : dI σ h) {r a n : Nat} {lo hi : Int} (k : tkA r a n lo hi = true) : ∃ g : Nat → Int32, h.1[r]? = some (.inl (a, n, .inl g)) ∧ ∀ j, j < n → lo ≤ (g j).toInt ∧ (g j).toInt ≤ hi := by
  unfold tkA at k
  split at k
  · rename_i t e
    simp only [Bool.and_eq_true, Nat.blt_eq, ceI_i] at k
    obtain ⟨⟨⟨⟨⟨k1, k2⟩, k3⟩, k4⟩, k5⟩, k6⟩ := k
    obtain ⟨g, a1, a2⟩ := dI_a I k2 e (Nat.eq_of_beq_eq_true k1)
    rw [Nat.eq_of_beq_eq_true k3, Nat.eq_of_beq_eq_true k4] at a1
    rw [Nat.eq_of_beq_eq_true k4, k5, k6] at a2
    exact ⟨g, a1, a2⟩
  · cases k
theorem hI_j {σ : List Nat} {h : aH} (I : dI σ h) {r n : Nat} {lo hi : Int} (k : tkJ r n lo hi = true) : ∃ g : Nat → Int64, h.1[r]? = some (.inl (1, n, .inr (.inl g))) ∧ ∀ j, j < n → lo ≤ (g j).toInt ∧ (g j).toInt ≤ hi := by
  unfold tkJ at k
  split at k
  · rename_i t e
    simp only [Bool.and_eq_true, Nat.blt_eq, ceI_i] at k
    obtain ⟨⟨⟨⟨k1, k2⟩, k4⟩, k5⟩, k6⟩ := k
    obtain ⟨g, a1, a2⟩ := dI_j I k2 e (Nat.eq_of_beq_eq_true k1)
    rw [Nat.eq_of_beq_eq_true k4] at a1
    rw [Nat.eq_of_beq_eq_true k4, k5, k6] at a2
    exact ⟨g, a1, a2⟩
  · cases k

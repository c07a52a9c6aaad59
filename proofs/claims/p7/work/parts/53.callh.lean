-- ===== by hand: a call of a contract =====
theorem dK_v {σ : List Nat} {h : aH} {ρ : List Int} {V : cV} (k : kV ρ V) : dK σ h ρ [] (V, [], [], [], [], [], []) :=
  ⟨k, fun t ht => (by cases ht), fun t ht => (by cases ht), ⟨rfl, fun i r e => (by simp at e)⟩, fun t ht => (by cases ht), fun t ht => (by cases ht), fun t ht => (by cases ht)⟩
def kB : List Int → cV → Prop
  | [], [] => True
  | y :: ys, q :: qs => (q.1 ≤ y ∧ y ≤ q.2) ∧ kB ys qs
  | _, _ => False
theorem kB_len : ∀ (ρ : List Int) (V : cV), kB ρ V → ρ.length = V.length
  | [], [], _ => rfl
  | [], _ :: _, h => h.elim
  | _ :: _, [], h => h.elim
  | _ :: ys, _ :: qs, h => by rw [List.length_cons, List.length_cons, kB_len ys qs h.2]
theorem kB_at : ∀ (ρ : List Int) (V : cV), kB ρ V → ∀ (p : Nat) (y : Int) (q : Int × Int), ρ[p]? = some y → V[p]? = some q → q.1 ≤ y ∧ y ≤ q.2
  | [], _, _, p, y, q, e, _ => by simp at e
  | _ :: _, [], h, _, _, _, _, _ => h.elim
  | y :: ys, q :: qs, h, 0, _, _, e1, e2 => by cases e1; cases e2; exact h.1
  | y :: ys, q :: qs, h, p + 1, y', q', e1, e2 => kB_at ys qs h.2 p y' q' e1 e2
theorem kV_of {ρ : List Int} {V : cV} (h0 : ρ[0]? = some 0) (h : kB ρ V) : kV ρ V := ⟨kB_len ρ V h, h0, kB_at ρ V h⟩
def lB (ρ : List Int) : List cW → aL → Prop
  | [], [] => True
  | w :: ws, v :: vs => (w.1 = 0 ∨ ∃ u, v = some u ∧ dW ρ [] w u) ∧ lB ρ ws vs
  | _, _ => False
theorem lB_len {ρ : List Int} : ∀ (L : List cW) (l : aL), lB ρ L l → l.length = L.length
  | [], [], _ => rfl
  | [], _ :: _, h => h.elim
  | _ :: _, [], h => h.elim
  | _ :: ws, _ :: vs, h => by rw [List.length_cons, List.length_cons, lB_len ws vs h.2]
theorem lB_at {ρ : List Int} : ∀ (L : List cW) (l : aL), lB ρ L l → ∀ (i : Nat) (w : cW), L[i]? = some w → w.1 = 0 ∨ ∃ v, aG l i = some v ∧ dW ρ [] w v
  | [], _, _, i, w, e => by simp at e
  | _ :: _, [], h, _, _, _ => h.elim
  | w :: ws, v :: vs, h, 0, _, e => by
    cases e
    rcases h.1 with q | ⟨u, rfl, q⟩
    · exact Or.inl q
    · exact Or.inr ⟨u, aG_get.mpr rfl, q⟩
  | w :: ws, v :: vs, h, i + 1, w', e => by
    rcases lB_at ws vs h.2 i w' e with q | ⟨u, q1, q2⟩
    · exact Or.inl q
    · exact Or.inr ⟨u, aG_get.mpr (by have := aG_get.mp q1; simpa using this), q2⟩
theorem dL_of {ρ : List Int} {L : List cW} {l : aL} (h : lB ρ L l) : dL ρ [] L l := ⟨lB_len L l h, lB_at L l h⟩
theorem lw_i {ρ : List Int} {p : Nat} {x : Int32} (e : ρ[p]? = some x.toInt) : (1 : Nat) = 0 ∨ ∃ u, some (Value.int x) = some u ∧ dW ρ [] (1, p, 0) u := Or.inr ⟨_, rfl, x, x.toInt, rfl, e, by show _ = _ + 0; omega⟩
theorem lw_j {ρ : List Int} {p : Nat} {x : Int64} (e : ρ[p]? = some x.toInt) : (2 : Nat) = 0 ∨ ∃ u, some (Value.long x) = some u ∧ dW ρ [] (2, p, 0) u := Or.inr ⟨_, rfl, x, x.toInt, rfl, e, by show _ = _ + 0; omega⟩
theorem lw_r {ρ : List Int} {c : Nat} (hc : c < 146) : (3 : Nat) = 0 ∨ ∃ u, some (Value.ref c) = some u ∧ dW ρ [] (3, c, 0) u := Or.inr ⟨_, rfl, c, rfl, Or.inl ⟨hc, rfl⟩⟩
theorem lw_0 {ρ : List Int} {p : Nat} {o : Int} {v : Option Value} : (0 : Nat) = 0 ∨ ∃ u, v = some u ∧ dW ρ [] (0, p, o) u := Or.inl rfl
section WG
variable {X : aX} {D : Nat} {M : aM} {Q : Option Value → aH → Prop} {pc pc' len a b : Nat} {l l' : aL} {st r : List Value} {h : aH}
theorem wp_good {C : cC} {Y : aM} (G : dGood X C) (hY : zmt[C.1]? = some Y) {σ : List Nat} (I : dI σ h) {ρ : List Int} {l1 : aL} (K : dK σ h ρ [] C.2.2.2.1.2.2) (L : dL ρ [] C.2.2.2.1.1 l1)
    (hs : ∀ (n d : Nat) (v : Option Value) (h1 : aH), arun X n d Y 0 l1 [] h = some (v, h1) → arun X (n + 1) (d + 1) M pc l st h = arun X n (d + 1) M pc' l' (v.toList ++ r) h1) (hd : C.2.1 + 1 ≤ D)
    (k : ∀ (v : Option Value) (h1 : aH) (σ1 : List Nat), dI σ1 h1 → dG C.2.2.1 σ h σ1 h1 → (∃ P, P ∈ C.2.2.2.2.1 ∧ dPost P σ1 h1 v) → Wp X D M Q pc' l' (v.toList ++ r) h1) : Wp X D M Q pc l st h := by
  obtain ⟨N, v, h1, σ1, e1, e2, e3, e4⟩ := G Y hY l1 h σ ρ [] I K L
  exact wp_call (fun n d e => hs n d v h1 e) hd e1 (k v h1 σ1 e2 e3 e4)
/-- a callee walked by hand -/
theorem wp_in {Y : aM} {lv : Nat} {l1 : aL} {Q' : Option Value → aH → Prop} (k1 : Wp X lv Y Q' 0 l1 [] h) (hs : ∀ (n d : Nat) (v : Option Value) (h1 : aH), arun X n d Y 0 l1 [] h = some (v, h1) → arun X (n + 1) (d + 1) M pc l st h = arun X n (d + 1) M pc' l' (v.toList ++ r) h1) (hd : lv + 1 ≤ D)
    (k : ∀ (v : Option Value) (h1 : aH), Q' v h1 → Wp X D M Q pc' l' (v.toList ++ r) h1) : Wp X D M Q pc l st h := by
  obtain ⟨N, v, h1, q, e1⟩ := k1
  exact wp_call (fun n d e => hs n d v h1 e) hd e1 (k v h1 q)
end WG
/-- what a post says -/
theorem rpost_i {σ : List Nat} {h : aH} {v : Option Value} {lo hi : Int} {Ps : List cT} (hP : ∃ P, P ∈ Ps ∧ dPost P σ h v) (e : Ps = [([], [(1, 1, 0)], ([(0, 0), (lo, hi)], [], [], [], [], [], []))]) : ∃ x : Int32, v = some (.int x) ∧ lo ≤ x.toInt ∧ x.toInt ≤ hi := by
  subst e
  obtain ⟨P, hm, ρ, rh, k, s⟩ := hP
  cases List.mem_singleton.mp hm
  cases v with
  | none => exact s.elim
  | some v =>
    obtain ⟨⟨x, y, rfl, e1, e2⟩, -⟩ := s
    have := k.1.2.2 1 y (lo, hi) e1 rfl
    dsimp only at this e2
    exact ⟨x, rfl, by omega, by omega⟩
theorem rpost_0 {σ : List Nat} {h : aH} {v : Option Value} {K : cK} {Ps : List cT} (hP : ∃ P, P ∈ Ps ∧ dPost P σ h v) (e : Ps = [([], [], K)]) : v = none := by
  subst e
  obtain ⟨P, hm, ρ, rh, k, s⟩ := hP
  cases List.mem_singleton.mp hm
  cases v with
  | none => rfl
  | some v => exact s.elim
/-- what a call leaves as it was -/
theorem dG_o {W : List (Nat × Nat)} {σ σ1 : List Nat} {h h1 : aH} (H : dH σ h) (G : dG W σ h σ1 h1) {r ci : Nat} {fs : List Value} (c : h.1[r]? = some (.inr (ci, fs))) (hr : r < 146) : ∃ fs1 : List Value, h1.1[r]? = some (.inr (ci, fs1)) ∧ ∀ i, cWn W r i = false → fs1[i]? = fs[i]? := by
  obtain ⟨c1, a1, a2⟩ := G.2.1 r r _ (H.2.2.2 r hr) c
  obtain ⟨fs1, rfl, a3⟩ := a2.2 ci fs rfl
  exact ⟨fs1, a1, a3⟩
theorem dG_a {W : List (Nat × Nat)} {σ σ1 : List Nat} {h h1 : aH} (H : dH σ h) (G : dG W σ h σ1 h1) {r : Nat} {x : Nat × vp_A} (c : h.1[r]? = some (.inl x)) (hr : r < 146) (hW : cWn W r 0 = false) : h1.1[r]? = some (.inl x) := by
  obtain ⟨c1, a1, a2⟩ := G.2.1 r r _ (H.2.2.2 r hr) c
  rw [a2.1 x rfl hW] at a1
  exact a1

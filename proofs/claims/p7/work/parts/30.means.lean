-- ===== what abstract states mean =====
def dT (σ : List Nat) (ty : Nat × Int × Int) (v : Value) : Prop := match ty.1 with
  | 0 => ∃ x : Int32, v = .int x ∧ ty.2.1 ≤ x.toInt ∧ x.toInt ≤ ty.2.2
  | 1 => ∃ q : Nat, v = .ref q ∧ σ[q]? = some ty.2.1.toNat
  | 4 => v = .ref ty.2.1.toNat ∨ v = .ref ty.2.2.toNat
  | _ => False
def dC (σ : List Nat) (t : cRt) (c : aC) : Prop := match t.1 with
  | 0 => ∃ fs : List Value, c = .inr (t.2.1, fs) ∧ fs.length = t.2.2.2.2.2.length ∧ ∀ (i : Nat) (ty : Nat × Int × Int), t.2.2.2.2.2[i]? = some ty → ∃ v, fs[i]? = some v ∧ dT σ ty v
  | 1 => ∃ g, c = .inl (t.2.1, t.2.2.1, .inl g) ∧ ∀ j, j < t.2.2.1 → t.2.2.2.1 ≤ (g j).toInt ∧ (g j).toInt ≤ t.2.2.2.2.1
  | 2 => ∃ g, c = .inl (1, t.2.2.1, .inr (.inl g)) ∧ ∀ j, j < t.2.2.1 → t.2.2.2.1 ≤ (g j).toInt ∧ (g j).toInt ≤ t.2.2.2.2.1
  | 3 => ∃ g : Nat → Option Nat, c = .inl (t.2.1, t.2.2.1, .inr (.inr (.inr (.inr g)))) ∧ ∀ (j q : Nat), g j = some q → σ[q]? = some t.2.2.2.1.toNat
  | _ => False
def dH (σ : List Nat) (h : aH) : Prop := σ.length = h.1.length ∧ (∀ (q r : Nat), σ[q]? = some r → ∃ t c, cRT[r]? = some t ∧ h.1[q]? = some c ∧ dC σ t c) ∧ (∀ (q r : Nat), σ[q]? = some r → r < 146 → q = r) ∧ (∀ r : Nat, r < 146 → σ[r]? = some r)
-- the shelves' law and the texts' law
def dJ2 (h : aH) : Prop := ∃ gs gh : Nat → Int32, h.1[69]? = some (.inl (0, 6, .inl gs)) ∧ h.1[70]? = some (.inl (0, 6, .inl gh)) ∧ ∀ j, j < 6 → 0 ≤ (gs j).toInt → (gs j).toInt ≤ 4 → (gh j).toInt ≤ 60
def wfS (ga gw : Nat → Int32) (t a b : Nat) : Prop := a ≤ b ∧ b ≤ 170 ∧ ∃ H : Nat → Nat, H a = 0 ∧ ∀ k, a ≤ k → k < b →
  ((ga (170 * t + k) = 1 ∧ H (k + 1) = H k + 1) ∨ (ga (170 * t + k) = 2 ∧ 0 ≤ (gw (170 * t + k)).toInt ∧ (gw (170 * t + k)).toInt ≤ 12 ∧ H (k + 1) = H k + 1) ∨
    ((ga (170 * t + k) = 3 ∨ ga (170 * t + k) = 4) ∧ 1 ≤ H k ∧ H (k + 1) = H k) ∨
    (¬ ga (170 * t + k) = 1 ∧ ¬ ga (170 * t + k) = 2 ∧ ¬ ga (170 * t + k) = 3 ∧ ¬ ga (170 * t + k) = 4 ∧ 2 ≤ H k ∧ H (k + 1) + 1 = H k))
def wft (ga gw gt gl gm : Nat → Int32) (x : Int32) : Prop := ∀ t : Nat, (t : Int) < x.toInt → 0 ≤ (gm t).toInt ∧ (gm t).toInt ≤ 90 ∧ ∀ i : Nat, (i : Int) < (gm t).toInt →
  ∃ a e l : Nat, (i = 0 → a = 0) ∧ (∀ j, i = j + 1 → (gl (90 * t + j)).toInt = a) ∧ (gt (90 * t + i)).toInt = e ∧ (gl (90 * t + i)).toInt = l ∧ wfS ga gw t a e ∧ wfS ga gw t e l
def dJ3 (h : aH) : Prop := ∃ (ga gw gt gl gm : Nat → Int32) (fs : List Value) (x : Int32), h.1[122]? = some (.inl (0, 2890, .inl ga)) ∧ h.1[123]? = some (.inl (0, 2890, .inl gw)) ∧ h.1[120]? = some (.inl (0, 1530, .inl gt)) ∧ h.1[121]? = some (.inl (0, 1530, .inl gl)) ∧ h.1[119]? = some (.inl (0, 17, .inl gm)) ∧ h.1[72]? = some (.inr (12, fs)) ∧ fs[55]? = some (.int x) ∧ wft ga gw gt gl gm x
def dI (σ : List Nat) (h : aH) : Prop := dH σ h ∧ dJ2 h ∧ dJ3 h
-- what a run leaves as it was
def dFr (W : List (Nat × Nat)) (r : Nat) (c0 c : aC) : Prop := (∀ x, c0 = .inl x → cWn W r 0 = false → c = c0) ∧ (∀ (ci : Nat) (fs0 : List Value), c0 = .inr (ci, fs0) → ∃ fs : List Value, c = .inr (ci, fs) ∧ ∀ i : Nat, cWn W r i = false → fs[i]? = fs0[i]?)
def dNul (h : aH) (q n : Nat) : Nat := match h.1[q]? with
  | some (.inl (_, _, .inr (.inr (.inr (.inr g))))) => ((List.range n).filter (fun j => (g j).isNone)).length
  | _ => 0
def dPh (h : aH) : Nat := h.1.length + h.2 + 3000 * dNul h 42 10 + 61 * dNul h 65 150
def dG (W : List (Nat × Nat)) (σ0 : List Nat) (h0 : aH) (σ : List Nat) (h : aH) : Prop := (∀ (q r : Nat), σ0[q]? = some r → σ[q]? = some r) ∧ (∀ (q r : Nat) (c0 : aC), σ0[q]? = some r → h0.1[q]? = some c0 → ∃ c, h.1[q]? = some c ∧ dFr W r c0 c) ∧ dPh h ≤ dPh h0
-- values, locals, stacks
def dR (rh : List Nat) (c q : Nat) : Prop := (c < 146 ∧ q = c) ∨ (1000 ≤ c ∧ rh[c - 1000]? = some q)
def dW (ρ : List Int) (rh : List Nat) (w : cW) (v : Value) : Prop := match w.1 with
  | 1 => ∃ (x : Int32) (y : Int), v = .int x ∧ ρ[w.2.1]? = some y ∧ x.toInt = y + w.2.2
  | 2 => ∃ (x : Int64) (y : Int), v = .long x ∧ ρ[w.2.1]? = some y ∧ x.toInt = y + w.2.2
  | 3 => ∃ q, v = .ref q ∧ dR rh w.2.1 q
  | 4 => v = .null
  | 5 => v = .retAddr w.2.1
  | 6 => v = .null ∨ ∃ q, v = .ref q ∧ dR rh w.2.1 q
  | 7 => v = .retAddr 2
  | _ => False
def dS (ρ : List Int) (rh : List Nat) : List cW → List Value → Prop
  | [], [] => True
  | w :: r, v :: s => dW ρ rh w v ∧ dS ρ rh r s
  | _, _ => False
def dL (ρ : List Int) (rh : List Nat) (L : List cW) (l : aL) : Prop := l.length = L.length ∧ ∀ (i : Nat) (w : cW), L[i]? = some w → w.1 = 0 ∨ ∃ v, aG l i = some v ∧ dW ρ rh w v
def kV (ρ : List Int) (V : cV) : Prop := ρ.length = V.length ∧ ρ[0]? = some 0 ∧ ∀ (p : Nat) (y : Int) (q : Int × Int), ρ[p]? = some y → V[p]? = some q → q.1 ≤ y ∧ y ≤ q.2
def kD (ρ : List Int) (D : cD) : Prop := ∀ t, t ∈ D → ∃ y z, ρ[t.1]? = some y ∧ ρ[t.2.1]? = some z ∧ y - z ≤ t.2.2
def kN (ρ : List Int) (N : List (Nat × Int)) : Prop := ∀ t, t ∈ N → ∃ y, ρ[t.1]? = some y ∧ y + t.2 ≠ 0
def kR (σ rh R : List Nat) : Prop := rh.length = R.length ∧ ∀ (i r : Nat), R[i]? = some r → ∃ q : Nat, rh[i]? = some q ∧ σ[q]? = some r
def kF (h : aH) (ρ : List Int) (rh : List Nat) (F : cF) : Prop := ∀ t, t ∈ F → ∃ (q ci : Nat) (fs : List Value) (v : Value), dR rh t.1 q ∧ h.1[q]? = some (.inr (ci, fs)) ∧ fs[t.2.1]? = some v ∧ dW ρ rh t.2.2 v
def kE (ρ : List Int) (E : List (Nat × Nat × Nat)) : Prop := ∀ t, t ∈ E → ∃ x y, ρ[t.1]? = some x ∧ ρ[t.2.1]? = some y ∧ ρ[t.2.2]? = some (x + y)
def kA (h : aH) (ρ : List Int) (rh : List Nat) (A : cAf) : Prop := ∀ t, t ∈ A → ∃ (q ty n : Nat) (g : Nat → Int32) (j y : Int), dR rh t.1 q ∧ h.1[q]? = some (.inl (ty, n, .inl g)) ∧ ρ[t.2.1]? = some j ∧ 0 ≤ j + t.2.2.1 ∧ ρ[t.2.2.2.1]? = some y ∧ (g (j + t.2.2.1).toNat).toInt = y + t.2.2.2.2
def dK (σ : List Nat) (h : aH) (ρ : List Int) (rh : List Nat) (K : cK) : Prop := kV ρ K.1 ∧ kD ρ K.2.1 ∧ kN ρ K.2.2.1 ∧ kR σ rh K.2.2.2.1 ∧ kF h ρ rh K.2.2.2.2.1 ∧ kE ρ K.2.2.2.2.2.1 ∧ kA h ρ rh K.2.2.2.2.2.2
def dX {α : Type} (ρ ρ' : List α) : Prop := ∀ (p : Nat) (y : α), ρ[p]? = some y → ρ'[p]? = some y
def dRv (ρ : List Int) : List (Int × Nat) → Int → Prop
  | [], z => z = 0
  | t :: r, z => ∃ y w, ρ[t.2]? = some y ∧ dRv ρ r w ∧ z = t.1 * y + w
-- ===== small facts =====
theorem cle_i {a b : Int} : cle a b = true ↔ a ≤ b := by
  unfold cle
  split
  · rename_i n e
    have e : b - a = (n : Int) := e
    constructor
    · intro _; omega
    · intro _; rfl
  · rename_i n e
    constructor
    · intro c; cases c
    · intro c; omega
theorem ceI_i {a b : Int} : ceI a b = true ↔ a = b := by
  unfold ceI
  rw [Bool.and_eq_true, cle_i, cle_i]
  omega
theorem cmn_le {a b : Int} : cmn a b ≤ a ∧ cmn a b ≤ b := by
  unfold cmn
  cases q : cle a b with
  | true => rw [cle_i] at q; simp only [cond_true]; omega
  | false =>
    have : ¬ a ≤ b := fun c => by rw [← cle_i, q] at c; cases c
    simp only [cond_false]; omega
theorem cmn_or {a b : Int} : cmn a b = a ∨ cmn a b = b := by
  unfold cmn
  cases cle a b
  · exact Or.inr rfl
  · exact Or.inl rfl
theorem cmx_le {a b : Int} : a ≤ cmx a b ∧ b ≤ cmx a b := by
  unfold cmx
  cases q : cle a b with
  | true => rw [cle_i] at q; simp only [cond_true]; omega
  | false =>
    have : ¬ a ≤ b := fun c => by rw [← cle_i, q] at c; cases c
    simp only [cond_false]; omega
theorem cmx_or {a b : Int} : cmx a b = a ∨ cmx a b = b := by
  unfold cmx
  cases cle a b
  · exact Or.inl rfl
  · exact Or.inr rfl
theorem dX_refl {α : Type} (ρ : List α) : dX ρ ρ := fun _ _ h => h
theorem dX_trans {α : Type} {a b c : List α} (h : dX a b) (g : dX b c) : dX a c := fun p y e => g p y (h p y e)
theorem dX_app {α : Type} (a b : List α) : dX a (a ++ b) := fun p y h => by
  rw [List.getElem?_append_left (List.getElem?_eq_some_iff.mp h).1]
  exact h
theorem dR_mono {rh rh' : List Nat} (hx : dX rh rh') {c q : Nat} (h : dR rh c q) : dR rh' c q := by
  rcases h with h | ⟨h, g⟩
  · exact Or.inl h
  · exact Or.inr ⟨h, hx _ _ g⟩
theorem dW_mono {ρ ρ' : List Int} {rh rh' : List Nat} (hx : dX ρ ρ') (hr : dX rh rh') {w : cW} {v : Value} (h : dW ρ rh w v) : dW ρ' rh' w v := by
  unfold dW at h ⊢
  split at h
  · obtain ⟨x, y, h1, h2, h3⟩ := h; exact ⟨x, y, h1, hx _ _ h2, h3⟩
  · obtain ⟨x, y, h1, h2, h3⟩ := h; exact ⟨x, y, h1, hx _ _ h2, h3⟩
  · obtain ⟨q, h1, h2⟩ := h; exact ⟨q, h1, dR_mono hr h2⟩
  · exact h
  · exact h
  · rcases h with h | ⟨q, h1, h2⟩
    · exact Or.inl h
    · exact Or.inr ⟨q, h1, dR_mono hr h2⟩
  · exact h
  · exact h
theorem dS_mono {ρ ρ' : List Int} {rh rh' : List Nat} (hx : dX ρ ρ') (hr : dX rh rh') : ∀ {w : List cW} {v : List Value}, dS ρ rh w v → dS ρ' rh' w v
  | [], [], _ => trivial
  | _ :: _, _ :: _, h => ⟨dW_mono hx hr h.1, dS_mono hx hr h.2⟩
  | [], _ :: _, h => h.elim
  | _ :: _, [], h => h.elim
theorem dL_mono {ρ ρ' : List Int} {rh rh' : List Nat} (hx : dX ρ ρ') (hr : dX rh rh') {L : List cW} {l : aL} (h : dL ρ rh L l) : dL ρ' rh' L l :=
  ⟨h.1, fun i w e => (h.2 i w e).imp id (fun ⟨v, a, b⟩ => ⟨v, a, dW_mono hx hr b⟩)⟩
theorem kD_mono {ρ ρ' : List Int} (hx : dX ρ ρ') {D : cD} (h : kD ρ D) : kD ρ' D := fun t ht => by
  obtain ⟨y, z, a, b, c⟩ := h t ht; exact ⟨y, z, hx _ _ a, hx _ _ b, c⟩
theorem kN_mono {ρ ρ' : List Int} (hx : dX ρ ρ') {N : List (Nat × Int)} (h : kN ρ N) : kN ρ' N := fun t ht => by
  obtain ⟨y, a, b⟩ := h t ht; exact ⟨y, hx _ _ a, b⟩
theorem kF_mono {h : aH} {ρ ρ' : List Int} {rh rh' : List Nat} (hx : dX ρ ρ') (hr : dX rh rh') {F : cF} (k : kF h ρ rh F) : kF h ρ' rh' F := fun t ht => by
  obtain ⟨q, ci, fs, v, a, b, c, d⟩ := k t ht; exact ⟨q, ci, fs, v, dR_mono hr a, b, c, dW_mono hx hr d⟩
theorem kE_mono {ρ ρ' : List Int} (hx : dX ρ ρ') {E : List (Nat × Nat × Nat)} (h : kE ρ E) : kE ρ' E := fun t ht => by
  obtain ⟨x, y, a, b, c⟩ := h t ht; exact ⟨x, y, hx _ _ a, hx _ _ b, hx _ _ c⟩
theorem kA_mono {h : aH} {ρ ρ' : List Int} {rh rh' : List Nat} (hx : dX ρ ρ') (hr : dX rh rh') {A : cAf} (k : kA h ρ rh A) : kA h ρ' rh' A := fun t ht => by
  obtain ⟨q, ty, n, g, j, y, a, b, c, d, e, f⟩ := k t ht; exact ⟨q, ty, n, g, j, y, dR_mono hr a, b, hx _ _ c, d, hx _ _ e, f⟩
theorem dRv_mono {ρ ρ' : List Int} (hx : dX ρ ρ') : ∀ {l : List (Int × Nat)} {z : Int}, dRv ρ l z → dRv ρ' l z
  | [], _, h => h
  | _ :: _, _, ⟨y, w, a, b, c⟩ => ⟨y, w, hx _ _ a, dRv_mono hx b, c⟩
theorem dRv_uniq {ρ : List Int} : ∀ {l : List (Int × Nat)} {z z' : Int}, dRv ρ l z → dRv ρ l z' → z = z'
  | [], _, _, h, g => h.trans g.symm
  | _ :: _, _, _, ⟨y, w, a, b, c⟩, ⟨y', w', a', b', c'⟩ => by
    rw [a] at a'; cases a'; rw [c, c', dRv_uniq b b']
theorem kV_new {ρ : List Int} {V : cV} {l u z : Int} (h : kV ρ V) (h1 : l ≤ z) (h2 : z ≤ u) : kV (ρ ++ [z]) (V ++ [(l, u)]) := by
  obtain ⟨a, b, c⟩ := h
  refine ⟨by simp [a], dX_app _ _ _ _ b, fun p y q e1 e2 => ?_⟩
  rcases Nat.lt_or_ge p ρ.length with hp | hp
  · rw [List.getElem?_append_left hp] at e1
    rw [List.getElem?_append_left (by omega)] at e2
    exact c p y q e1 e2
  · rw [List.getElem?_append_right hp] at e1
    rw [List.getElem?_append_right (by omega)] at e2
    have hz : p - ρ.length = 0 := by
      rcases Nat.eq_zero_or_pos (p - ρ.length) with g | g
      · exact g
      · rw [List.getElem?_eq_none (by simp; omega)] at e1; cases e1
    rw [hz] at e1
    rw [show p - V.length = 0 by omega] at e2
    simp only [List.getElem?_cons_zero, Option.some.injEq] at e1 e2
    subst e1; subst e2
    exact ⟨h1, h2⟩
theorem kV_last {ρ : List Int} {V : cV} (h : kV ρ V) (z : Int) : (ρ ++ [z])[V.length]? = some z := by
  rw [← h.1]; simp
theorem dK_new {σ : List Nat} {h : aH} {ρ : List Int} {rh : List Nat} {K : cK} {l u z : Int} (k : dK σ h ρ rh K) (h1 : l ≤ z) (h2 : z ≤ u) : dK σ h (ρ ++ [z]) rh (K.1 ++ [(l, u)], K.2) :=
  ⟨kV_new k.1 h1 h2, kD_mono (dX_app _ _) k.2.1, kN_mono (dX_app _ _) k.2.2.1, k.2.2.2.1, kF_mono (dX_app _ _) (dX_refl _) k.2.2.2.2.1, kE_mono (dX_app _ _) k.2.2.2.2.2.1, kA_mono (dX_app _ _) (dX_refl _) k.2.2.2.2.2.2⟩
theorem cV0_s {ρ : List Int} {V : cV} {p : Nat} {y : Int} (h : kV ρ V) (e : ρ[p]? = some y) : (cV0 V p).1 ≤ y ∧ y ≤ (cV0 V p).2 := by
  unfold cV0
  have hp : p < V.length := by rw [← h.1]; exact (List.getElem?_eq_some_iff.mp e).1
  have : V[p]? = some V[p] := List.getElem?_eq_getElem hp
  rw [this]
  exact h.2.2 p y _ e this
theorem foldr_ub {α : Type} {f : α → Int → Int} {y : Int} : ∀ {l : List α} {b : Int}, (∀ t, t ∈ l → ∀ m, y ≤ m → y ≤ f t m) → y ≤ b → y ≤ l.foldr f b
  | [], _, _, h => h
  | t :: l, b, hf, h => hf t List.mem_cons_self _ (foldr_ub (fun t ht => hf t (List.mem_cons_of_mem _ ht)) h)
theorem foldr_lb {α : Type} {f : α → Int → Int} {y : Int} : ∀ {l : List α} {b : Int}, (∀ t, t ∈ l → ∀ m, m ≤ y → f t m ≤ y) → b ≤ y → l.foldr f b ≤ y
  | [], _, _, h => h
  | t :: l, b, hf, h => hf t List.mem_cons_self _ (foldr_lb (fun t ht => hf t (List.mem_cons_of_mem _ ht)) h)
theorem cub_s {σ : List Nat} {h : aH} {ρ : List Int} {rh : List Nat} {K : cK} (k : dK σ h ρ rh K) {p : Nat} {y : Int} (e : ρ[p]? = some y) : y ≤ cub K p := by
  unfold cub
  have m0 : ∀ {a b : Int}, y ≤ a → y ≤ b → y ≤ cmn a b := fun h g => by rcases cmn_or (a := _) (b := _) with q | q <;> rw [q] <;> assumption
  refine foldr_ub (fun t ht m hm => ?_) (foldr_ub (fun t ht m hm => ?_) (cV0_s k.1 e).2)
  · obtain ⟨a, b, ha, hb, hc⟩ := k.2.2.2.2.2.1 t ht
    have g1 := cV0_s k.1 ha
    have g2 := cV0_s k.1 hb
    have g3 := cV0_s k.1 hc
    cases q : Nat.beq t.1 p with
    | true =>
      have q := Nat.eq_of_beq_eq_true q
      subst q
      rw [ha] at e; cases e
      simp only [cond_true]
      exact m0 hm (by omega)
    | false =>
      simp only [cond_false]
      cases q2 : Nat.beq t.2.1 p with
      | true =>
        have q2 := Nat.eq_of_beq_eq_true q2
        subst q2
        rw [hb] at e; cases e
        simp only [cond_true]
        exact m0 hm (by omega)
      | false => simp only [cond_false]; exact hm
  · obtain ⟨a, b, ha, hb, hc⟩ := k.2.1 t ht
    have g2 := cV0_s k.1 hb
    cases q : Nat.beq t.1 p with
    | true =>
      have q := Nat.eq_of_beq_eq_true q
      subst q
      rw [ha] at e; cases e
      simp only [cond_true]
      exact m0 hm (by omega)
    | false => simp only [cond_false]; exact hm
theorem clb_s {σ : List Nat} {h : aH} {ρ : List Int} {rh : List Nat} {K : cK} (k : dK σ h ρ rh K) {p : Nat} {y : Int} (e : ρ[p]? = some y) : clb K p ≤ y := by
  unfold clb
  have m0 : ∀ {a b : Int}, a ≤ y → b ≤ y → cmx a b ≤ y := fun h g => by rcases cmx_or (a := _) (b := _) with q | q <;> rw [q] <;> assumption
  refine foldr_lb (fun t ht m hm => ?_) (cV0_s k.1 e).1
  obtain ⟨a, b, ha, hb, hc⟩ := k.2.1 t ht
  have g2 := cV0_s k.1 ha
  cases q : Nat.beq t.2.1 p with
  | true =>
    have q := Nat.eq_of_beq_eq_true q
    subst q
    rw [hb] at e; cases e
    simp only [cond_true]
    exact m0 hm (by omega)
  | false => simp only [cond_false]; exact hm
theorem cdf_s {σ : List Nat} {h : aH} {ρ : List Int} {rh : List Nat} {K : cK} (k : dK σ h ρ rh K) {p q : Nat} {c y z : Int} (e : ρ[p]? = some y) (f : ρ[q]? = some z) (g : cdf K p q c = true) : y - z ≤ c := by
  unfold cdf at g
  rw [Bool.or_eq_true, Bool.or_eq_true, Bool.and_eq_true, cle_i, cle_i] at g
  rcases g with (⟨g1, g2⟩ | g) | g
  · have := Nat.eq_of_beq_eq_true g1
    subst this
    rw [e] at f; cases f
    omega
  · have := cub_s k e
    have := clb_s k f
    omega
  · obtain ⟨t, ht, g⟩ := List.any_eq_true.mp g
    rw [Bool.and_eq_true, Bool.and_eq_true, cle_i] at g
    obtain ⟨⟨g1, g2⟩, g3⟩ := g
    obtain ⟨a, b, ha, hb, hc⟩ := k.2.1 t ht
    rw [Nat.eq_of_beq_eq_true g1, e] at ha
    rw [Nat.eq_of_beq_eq_true g2, f] at hb
    cases ha; cases hb
    omega
theorem cnz_s {σ : List Nat} {h : aH} {ρ : List Int} {rh : List Nat} {K : cK} (k : dK σ h ρ rh K) {p : Nat} {o y : Int} (e : ρ[p]? = some y) (g : cnz K p o = true) : y + o ≠ 0 := by
  unfold cnz at g
  rw [Bool.or_eq_true, Bool.or_eq_true, cle_i, cle_i] at g
  rcases g with (g | g) | g
  · have := clb_s k e; omega
  · have := cub_s k e; omega
  · obtain ⟨t, ht, g⟩ := List.any_eq_true.mp g
    rw [Bool.and_eq_true, ceI_i] at g
    obtain ⟨a, ha, hb⟩ := k.2.2.1 t ht
    rw [Nat.eq_of_beq_eq_true g.1, e] at ha
    cases ha
    rw [← g.2]; exact hb

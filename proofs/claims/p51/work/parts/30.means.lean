-- ===== 30.means: 5 texts =====
section
-- ===== what abstract states mean =====
def dT (σ : List Nat) (ty : Nat × Int × Int) (v : Value) : Prop := match ty.1 with
  | 0 => ∃ x : Int32, v = .int x ∧ ty.2.1 ≤ x.toInt ∧ x.toInt ≤ ty.2.2
  | 1 => ∃ q : Nat, v = .ref q ∧ σ[q]? = some ty.2.1.toNat
  | 4 => v = .ref ty.2.1.toNat ∨ v = .ref ty.2.2.toNat
  | _ => False
def dC (σ : List Nat) (t : cRt) (c : aC) : Prop := match t.1 with
  | 0 => ∃ fs : List Value, c = .inr (t.2.1, fs) ∧ fs.length = t.2.2.2.2.2.length ∧ ∀ (i : Nat) (ty : Nat × Int × Int), t.2.2.2.2.2[i]? = some ty → ∃ v, fs[i]? = some v ∧ dT σ ty v
  | 1 => ∃ g, c = .inl (t.2.1, t.2.2.1, .inl g) ∧ ∀ j, j < t.2.2.1 → t.2.2.2.1 ≤ (g j).toInt ∧ (g j).toInt ≤ t.2.2.2.2.1
  | 2 => ∃ g, c = .inl (1, t.2.2.1, .inr (.inl g)) ∧ ∀ j, j < t.2.2.1 → t.2.2.2.1 ≤ (g j).toInt ∧ (g j).toInt ≤ t.2.2.2.2.1
  | 3 => ∃ g : Nat → Option Nat, c = .inl (t.2.1, t.2.2.1, .inr (.inr (.inr (.inr g)))) ∧ ∀ (j q : Nat), g j = some q → σ[q]? = some t.2.2.2.1.toNat
  | _ => False
def dH (σ : List Nat) (h : aH) : Prop := σ.length = h.1.length ∧ (∀ (q r : Nat), σ[q]? = some r → ∃ t c, cRT[r]? = some t ∧ h.1[q]? = some c ∧ dC σ t c) ∧ (∀ (q r : Nat), σ[q]? = some r → r < 146 → q = r) ∧ (∀ r : Nat, r < 146 → σ[r]? = some r)
-- the shelves' law and the texts' law
def dJ2 (h : aH) : Prop := ∃ gs gh : Nat → Int32, h.1[69]? = some (.inl (0, 6, .inl gs)) ∧ h.1[70]? = some (.inl (0, 6, .inl gh)) ∧ ∀ j, j < 6 → 0 ≤ (gs j).toInt → (gs j).toInt ≤ 4 → (gh j).toInt ≤ 60
def wfS (ga gw : Nat → Int32) (t a b : Nat) : Prop := a ≤ b ∧ b ≤ 170 ∧ ∃ H : Nat → Nat, H a = 0 ∧ ∀ k, a ≤ k → k < b →
  ((ga (170 * t + k) = 1 ∧ H (k + 1) = H k + 1) ∨ (ga (170 * t + k) = 2 ∧ 0 ≤ (gw (170 * t + k)).toInt ∧ (gw (170 * t + k)).toInt ≤ 12 ∧ H (k + 1) = H k + 1) ∨
    ((ga (170 * t + k) = 3 ∨ ga (170 * t + k) = 4) ∧ 1 ≤ H k ∧ H (k + 1) = H k) ∨
    (¬ ga (170 * t + k) = 1 ∧ ¬ ga (170 * t + k) = 2 ∧ ¬ ga (170 * t + k) = 3 ∧ ¬ ga (170 * t + k) = 4 ∧ 2 ≤ H k ∧ H (k + 1) + 1 = H k))
def wft (ga gw gt gl gm : Nat → Int32) (x : Int32) : Prop := ∀ t : Nat, (t : Int) < x.toInt → 0 ≤ (gm t).toInt ∧ (gm t).toInt ≤ 90 ∧ ∀ i : Nat, (i : Int) < (gm t).toInt →
  ∃ a e l : Nat, (i = 0 → a = 0) ∧ (∀ j, i = j + 1 → (gl (90 * t + j)).toInt = a) ∧ (gt (90 * t + i)).toInt = e ∧ (gl (90 * t + i)).toInt = l ∧ wfS ga gw t a e ∧ wfS ga gw t e l
def dJ3 (h : aH) : Prop := ∃ (ga gw gt gl gm : Nat → Int32) (fs : List Value) (x : Int32), h.1[122]? = some (.inl (0, 2890, .inl ga)) ∧ h.1[123]? = some (.inl (0, 2890, .inl gw)) ∧ h.1[120]? = some (.inl (0, 1530, .inl gt)) ∧ h.1[121]? = some (.inl (0, 1530, .inl gl)) ∧ h.1[119]? = some (.inl (0, 17, .inl gm)) ∧ h.1[72]? = some (.inr (12, fs)) ∧ fs[55]? = some (.int x) ∧ wft ga gw gt gl gm x
def dI (σ : List Nat) (h : aH) : Prop := dH σ h ∧ dJ2 h ∧ dJ3 h
-- what a run leaves as it was
def dFr (W : List (Nat × Nat)) (r : Nat) (c0 c : aC) : Prop := (∀ x, c0 = .inl x → cWn W r 0 = false → c = c0) ∧ (∀ (ci : Nat) (fs0 : List Value), c0 = .inr (ci, fs0) → ∃ fs : List Value, c = .inr (ci, fs) ∧ ∀ i : Nat, cWn W r i = false → fs[i]? = fs0[i]?)
def dNul (h : aH) (q n : Nat) : Nat := match h.1[q]? with
  | some (.inl (_, _, .inr (.inr (.inr (.inr g))))) => ((List.range n).filter (fun j => (g j).isNone)).length
  | _ => 0
def dPh (h : aH) : Nat := h.1.length + h.2 + 3000 * dNul h 42 10 + 61 * dNul h 65 150
def dG (W : List (Nat × Nat)) (σ0 : List Nat) (h0 : aH) (σ : List Nat) (h : aH) : Prop := (∀ (q r : Nat), σ0[q]? = some r → σ[q]? = some r) ∧ (∀ (q r : Nat) (c0 : aC), σ0[q]? = some r → h0.1[q]? = some c0 → ∃ c, h.1[q]? = some c ∧ dFr W r c0 c) ∧ dPh h ≤ dPh h0
-- values, locals, stacks
def dR (rh : List Nat) (c q : Nat) : Prop := (c < 146 ∧ q = c) ∨ (1000 ≤ c ∧ rh[c - 1000]? = some q)
def dW (ρ : List Int) (rh : List Nat) (w : cW) (v : Value) : Prop := match w.1 with
  | 1 => ∃ (x : Int32) (y : Int), v = .int x ∧ ρ[w.2.1]? = some y ∧ x.toInt = y + w.2.2
  | 2 => ∃ (x : Int64) (y : Int), v = .long x ∧ ρ[w.2.1]? = some y ∧ x.toInt = y + w.2.2
  | 3 => ∃ q, v = .ref q ∧ dR rh w.2.1 q
  | 4 => v = .null
  | 5 => v = .retAddr w.2.1
  | 6 => v = .null ∨ ∃ q, v = .ref q ∧ dR rh w.2.1 q
  | 7 => v = .retAddr 2
  | _ => False
def dS (ρ : List Int) (rh : List Nat) : List cW → List Value → Prop
  | [], [] => True
  | w :: r, v :: s => dW ρ rh w v ∧ dS ρ rh r s
  | _, _ => False
def dL (ρ : List Int) (rh : List Nat) (L : List cW) (l : aL) : Prop := l.length = L.length ∧ ∀ (i : Nat) (w : cW), L[i]? = some w → w.1 = 0 ∨ ∃ v, aG l i = some v ∧ dW ρ rh w v
def kV (ρ : List Int) (V : cV) : Prop := ρ.length = V.length ∧ ρ[0]? = some 0 ∧ ∀ (p : Nat) (y : Int) (q : Int × Int), ρ[p]? = some y → V[p]? = some q → q.1 ≤ y ∧ y ≤ q.2
def kD (ρ : List Int) (D : cD) : Prop := ∀ t, t ∈ D → ∃ y z, ρ[t.1]? = some y ∧ ρ[t.2.1]? = some z ∧ y - z ≤ t.2.2
def kN (ρ : List Int) (N : List (Nat × Int)) : Prop := ∀ t, t ∈ N → ∃ y, ρ[t.1]? = some y ∧ y + t.2 ≠ 0
def kR (σ rh R : List Nat) : Prop := rh.length = R.length ∧ ∀ (i r : Nat), R[i]? = some r → ∃ q : Nat, rh[i]? = some q ∧ σ[q]? = some r
def kF (h : aH) (ρ : List Int) (rh : List Nat) (F : cF) : Prop := ∀ t, t ∈ F → ∃ (q ci : Nat) (fs : List Value) (v : Value), dR rh t.1 q ∧ h.1[q]? = some (.inr (ci, fs)) ∧ fs[t.2.1]? = some v ∧ dW ρ rh t.2.2 v
def kE (ρ : List Int) (E : List (Nat × Nat × Nat)) : Prop := ∀ t, t ∈ E → ∃ x y, ρ[t.1]? = some x ∧ ρ[t.2.1]? = some y ∧ ρ[t.2.2]? = some (x + y)
def kA (h : aH) (ρ : List Int) (rh : List Nat) (A : cAf) : Prop := ∀ t, t ∈ A → ∃ (q ty n : Nat) (g : Nat → Int32) (j y : Int), dR rh t.1 q ∧ h.1[q]? = some (.inl (ty, n, .inl g)) ∧ ρ[t.2.1]? = some j ∧ 0 ≤ j + t.2.2.1 ∧ ρ[t.2.2.2.1]? = some y ∧ (g (j + t.2.2.1).toNat).toInt = y + t.2.2.2.2
def dK (σ : List Nat) (h : aH) (ρ : List Int) (rh : List Nat) (K : cK) : Prop := kV ρ K.1 ∧ kD ρ K.2.1 ∧ kN ρ K.2.2.1 ∧ kR σ rh K.2.2.2.1 ∧ kF h ρ rh K.2.2.2.2.1 ∧ kE ρ K.2.2.2.2.2.1 ∧ kA h ρ rh K.2.2.2.2.2.2
def dX {α : Type} (ρ ρ' : List α) : Prop := ∀ (p : Nat) (y : α), ρ[p]? = some y → ρ'[p]? = some y
def dRv (ρ : List Int) : List (Int × Nat) → Int → Prop
  | [], z => z = 0
  | t :: r, z => ∃ y w, ρ[t.2]? = some y ∧ dRv ρ r w ∧ z = t.1 * y + w
-- ===== small facts =====
theorem cle_i {a b : Int} : cle a b = true ↔ a ≤ b := by
  unfold cle
  split
  · rename_i n e
    have e : b - a = (n : Int) := e
    constructor
    · intro _; omega
    · intro _; rfl
  · rename_i n e
    constructor
    · intro c; cases c
    · intro c; omega
theorem ceI_i {a b : Int} : ceI a b = true ↔ a = b := by
  unfold ceI
  rw [Bool.and_eq_true, cle_i, cle_i]
  omega
theorem cmn_le {a b : Int} : cmn a b ≤ a ∧ cmn a b ≤ b := by
  unfold cmn
  cases q : cle a b with
  | true => rw [cle_i] at q; simp only [cond_true]; omega
  | false =>
    have : ¬ a ≤ b := fun c => by rw [← cle_i, q] at c; cases c
    simp only [cond_false]; omega
theorem cmn_or {a b : Int} : cmn a b = a ∨ cmn a b = b := by
  unfold cmn
  cases cle a b
  · exact Or.inr rfl
  · exact Or.inl rfl
theorem cmx_le {a b : Int} : a ≤ cmx a b ∧ b ≤ cmx a b := by
  unfold cmx
  cases q : cle a b with
  | true => rw [cle_i] at q; simp only [cond_true]; omega
  | false =>
    have : ¬ a ≤ b := fun c => by rw [← cle_i, q] at c; cases c
    simp only [cond_false]; omega
theorem cmx_or {a b : Int} : cmx a b = a ∨ cmx a b = b := by
  unfold cmx
  cases cle a b
  · exact Or.inl rfl
  · exact Or.inr rfl
theorem dX_refl {α : Type} (ρ : List α) : dX ρ ρ := fun _ _ h => h
theorem dX_trans {α : Type} {a b c : List α} (h : dX a b) (g : dX b c) : dX a c := fun p y e => g p y (h p y e)
theorem dX_app {α : Type} (a b : List α) : dX a (a ++ b) := fun p y h => by
  rw [List.getElem?_append_left (List.getElem?_eq_some_iff.mp h).1]
  exact h
theorem dR_mono {rh rh' : List Nat} (hx : dX rh rh') {c q : Nat} (h : dR rh c q) : dR rh' c q := by
  rcases h with h | ⟨h, g⟩
  · exact Or.inl h
  · exact Or.inr ⟨h, hx _ _ g⟩
theorem dW_mono {ρ ρ' : List Int} {rh rh' : List Nat} (hx : dX ρ ρ') (hr : dX rh rh') {w : cW} {v : Value} (h : dW ρ rh w v) : dW ρ' rh' w v := by
  unfold dW at h ⊢
  split at h
  · obtain ⟨x, y, h1, h2, h3⟩ := h; exact ⟨x, y, h1, hx _ _ h2, h3⟩
  · obtain ⟨x, y, h1, h2, h3⟩ := h; exact ⟨x, y, h1, hx _ _ h2, h3⟩
  · obtain ⟨q, h1, h2⟩ := h; exact ⟨q, h1, dR_mono hr h2⟩
  · exact h
  · exact h
  · rcases h with h | ⟨q, h1, h2⟩
    · exact Or.inl h
    · exact Or.inr ⟨q, h1, dR_mono hr h2⟩
  · exact h
  · exact h
theorem dS_mono {ρ ρ' : List Int} {rh rh' : List Nat} (hx : dX ρ ρ') (hr : dX rh rh') : ∀ {w : List cW} {v : List Value}, dS ρ rh w v → dS ρ' rh' w v
  | [], [], _ => trivial
  | _ :: _, _ :: _, h => ⟨dW_mono hx hr h.1, dS_mono hx hr h.2⟩
  | [], _ :: _, h => h.elim
  | _ :: _, [], h => h.elim
theorem dL_mono {ρ ρ' : List Int} {rh rh' : List Nat} (hx : dX ρ ρ') (hr : dX rh rh') {L : List cW} {l : aL} (h : dL ρ rh L l) : dL ρ' rh' L l :=
  ⟨h.1, fun i w e => (h.2 i w e).imp id (fun ⟨v, a, b⟩ => ⟨v, a, dW_mono hx hr b⟩)⟩
theorem kD_mono {ρ ρ' : List Int} (hx : dX ρ ρ') {D : cD} (h : kD ρ D) : kD ρ' D := fun t ht => by
  obtain ⟨y, z, a, b, c⟩ := h t ht; exact ⟨y, z, hx _ _ a, hx _ _ b, c⟩
theorem kN_mono {ρ ρ' : List Int} (hx : dX ρ ρ') {N : List (Nat × Int)} (h : kN ρ N) : kN ρ' N := fun t ht => by
  obtain ⟨y, a, b⟩ := h t ht; exact ⟨y, hx _ _ a, b⟩
theorem kF_mono {h : aH} {ρ ρ' : List Int} {rh rh' : List Nat} (hx : dX ρ ρ') (hr : dX rh rh') {F : cF} (k : kF h ρ rh F) : kF h ρ' rh' F := fun t ht => by
  obtain ⟨q, ci, fs, v, a, b, c, d⟩ := k t ht; exact ⟨q, ci, fs, v, dR_mono hr a, b, c, dW_mono hx hr d⟩
theorem kE_mono {ρ ρ' : List Int} (hx : dX ρ ρ') {E : List (Nat × Nat × Nat)} (h : kE ρ E) : kE ρ' E := fun t ht => by
  obtain ⟨x, y, a, b, c⟩ := h t ht; exact ⟨x, y, hx _ _ a, hx _ _ b, hx _ _ c⟩
theorem kA_mono {h : aH} {ρ ρ' : List Int} {rh rh' : List Nat} (hx : dX ρ ρ') (hr : dX rh rh') {A : cAf} (k : kA h ρ rh A) : kA h ρ' rh' A := fun t ht => by
  obtain ⟨q, ty, n, g, j, y, a, b, c, d, e, f⟩ := k t ht; exact ⟨q, ty, n, g, j, y, dR_mono hr a, b, hx _ _ c, d, hx _ _ e, f⟩
theorem dRv_mono {ρ ρ' : List Int} (hx : dX ρ ρ') : ∀ {l : List (Int × Nat)} {z : Int}, dRv ρ l z → dRv ρ' l z
  | [], _, h => h
  | _ :: _, _, ⟨y, w, a, b, c⟩ => ⟨y, w, hx _ _ a, dRv_mono hx b, c⟩
theorem kV_new {ρ : List Int} {V : cV} {l u z : Int} (h : kV ρ V) (h1 : l ≤ z) (h2 : z ≤ u) : kV (ρ ++ [z]) (V ++ [(l, u)]) := by
  obtain ⟨a, b, c⟩ := h
  refine ⟨by simp [a], dX_app _ _ _ _ b, fun p y q e1 e2 => ?_⟩
  rcases Nat.lt_or_ge p ρ.length with hp | hp
  · rw [List.getElem?_append_left hp] at e1
    rw [List.getElem?_append_left (by omega)] at e2
    exact c p y q e1 e2
  · rw [List.getElem?_append_right hp] at e1
    rw [List.getElem?_append_right (by omega)] at e2
    have hz : p - ρ.length = 0 := by
      rcases Nat.eq_zero_or_pos (p - ρ.length) with g | g
      · exact g
      · rw [List.getElem?_eq_none (by simp; omega)] at e1; cases e1
    rw [hz] at e1
    rw [show p - V.length = 0 by omega] at e2
    simp only [List.getElem?_cons_zero, Option.some.injEq] at e1 e2
    subst e1; subst e2
    exact ⟨h1, h2⟩
theorem kV_last {ρ : List Int} {V : cV} (h : kV ρ V) (z : Int) : (ρ ++ [z])[V.length]? = some z := by
  rw [← h.1]; simp
theorem dK_new {σ : List Nat} {h : aH} {ρ : List Int} {rh : List Nat} {K : cK} {l u z : Int} (k : dK σ h ρ rh K) (h1 : l ≤ z) (h2 : z ≤ u) : dK σ h (ρ ++ [z]) rh (K.1 ++ [(l, u)], K.2) :=
  ⟨kV_new k.1 h1 h2, kD_mono (dX_app _ _) k.2.1, kN_mono (dX_app _ _) k.2.2.1, k.2.2.2.1, kF_mono (dX_app _ _) (dX_refl _) k.2.2.2.2.1, kE_mono (dX_app _ _) k.2.2.2.2.2.1, kA_mono (dX_app _ _) (dX_refl _) k.2.2.2.2.2.2⟩
theorem cV0_s {ρ : List Int} {V : cV} {p : Nat} {y : Int} (h : kV ρ V) (e : ρ[p]? = some y) : (cV0 V p).1 ≤ y ∧ y ≤ (cV0 V p).2 := by
  unfold cV0
  have hp : p < V.length := by rw [← h.1]; exact (List.getElem?_eq_some_iff.mp e).1
  have : V[p]? = some V[p] := List.getElem?_eq_getElem hp
  rw [this]
  exact h.2.2 p y _ e this
theorem foldr_ub {α : Type} {f : α → Int → Int} {y : Int} : ∀ {l : List α} {b : Int}, (∀ t, t ∈ l → ∀ m, y ≤ m → y ≤ f t m) → y ≤ b → y ≤ l.foldr f b
  | [], _, _, h => h
  | t :: l, b, hf, h => hf t List.mem_cons_self _ (foldr_ub (fun t ht => hf t (List.mem_cons_of_mem _ ht)) h)
theorem foldr_lb {α : Type} {f : α → Int → Int} {y : Int} : ∀ {l : List α} {b : Int}, (∀ t, t ∈ l → ∀ m, m ≤ y → f t m ≤ y) → b ≤ y → l.foldr f b ≤ y
  | [], _, _, h => h
  | t :: l, b, hf, h => hf t List.mem_cons_self _ (foldr_lb (fun t ht => hf t (List.mem_cons_of_mem _ ht)) h)
theorem cub_s {σ : List Nat} {h : aH} {ρ : List Int} {rh : List Nat} {K : cK} (k : dK σ h ρ rh K) {p : Nat} {y : Int} (e : ρ[p]? = some y) : y ≤ cub K p := by
  unfold cub
  have m0 : ∀ {a b : Int}, y ≤ a → y ≤ b → y ≤ cmn a b := fun h g => by rcases cmn_or (a := _) (b := _) with q | q <;> rw [q] <;> assumption
  refine foldr_ub (fun t ht m hm => ?_) (foldr_ub (fun t ht m hm => ?_) (cV0_s k.1 e).2)
  · obtain ⟨a, b, ha, hb, hc⟩ := k.2.2.2.2.2.1 t ht
    have g1 := cV0_s k.1 ha
    have g2 := cV0_s k.1 hb
    have g3 := cV0_s k.1 hc
    cases q : Nat.beq t.1 p with
    | true =>
      have q := Nat.eq_of_beq_eq_true q
      subst q
      rw [ha] at e; cases e
      simp only [cond_true]
      exact m0 hm (by omega)
    | false =>
      simp only [cond_false]
      cases q2 : Nat.beq t.2.1 p with
      | true =>
        have q2 := Nat.eq_of_beq_eq_true q2
        subst q2
        rw [hb] at e; cases e
        simp only [cond_true]
        exact m0 hm (by omega)
      | false => simp only [cond_false]; exact hm
  · obtain ⟨a, b, ha, hb, hc⟩ := k.2.1 t ht
    have g2 := cV0_s k.1 hb
    cases q : Nat.beq t.1 p with
    | true =>
      have q := Nat.eq_of_beq_eq_true q
      subst q
      rw [ha] at e; cases e
      simp only [cond_true]
      exact m0 hm (by omega)
    | false => simp only [cond_false]; exact hm
theorem clb_s {σ : List Nat} {h : aH} {ρ : List Int} {rh : List Nat} {K : cK} (k : dK σ h ρ rh K) {p : Nat} {y : Int} (e : ρ[p]? = some y) : clb K p ≤ y := by
  unfold clb
  have m0 : ∀ {a b : Int}, a ≤ y → b ≤ y → cmx a b ≤ y := fun h g => by rcases cmx_or (a := _) (b := _) with q | q <;> rw [q] <;> assumption
  refine foldr_lb (fun t ht m hm => ?_) (cV0_s k.1 e).1
  obtain ⟨a, b, ha, hb, hc⟩ := k.2.1 t ht
  have g2 := cV0_s k.1 ha
  cases q : Nat.beq t.2.1 p with
  | true =>
    have q := Nat.eq_of_beq_eq_true q
    subst q
    rw [hb] at e; cases e
    simp only [cond_true]
    exact m0 hm (by omega)
  | false => simp only [cond_false]; exact hm
theorem cdf_s {σ : List Nat} {h : aH} {ρ : List Int} {rh : List Nat} {K : cK} (k : dK σ h ρ rh K) {p q : Nat} {c y z : Int} (e : ρ[p]? = some y) (f : ρ[q]? = some z) (g : cdf K p q c = true) : y - z ≤ c := by
  unfold cdf at g
  rw [Bool.or_eq_true, Bool.or_eq_true, Bool.and_eq_true, cle_i, cle_i] at g
  rcases g with (⟨g1, g2⟩ | g) | g
  · have := Nat.eq_of_beq_eq_true g1
    subst this
    rw [e] at f; cases f
    omega
  · have := cub_s k e
    have := clb_s k f
    omega
  · obtain ⟨t, ht, g⟩ := List.any_eq_true.mp g
    rw [Bool.and_eq_true, Bool.and_eq_true, cle_i] at g
    obtain ⟨⟨g1, g2⟩, g3⟩ := g
    obtain ⟨a, b, ha, hb, hc⟩ := k.2.1 t ht
    rw [Nat.eq_of_beq_eq_true g1, e] at ha
    rw [Nat.eq_of_beq_eq_true g2, f] at hb
    cases ha; cases hb
    omega
theorem cnz_s {σ : List Nat} {h : aH} {ρ : List Int} {rh : List Nat} {K : cK} (k : dK σ h ρ rh K) {p : Nat} {o y : Int} (e : ρ[p]? = some y) (g : cnz K p o = true) : y + o ≠ 0 := by
  unfold cnz at g
  rw [Bool.or_eq_true, Bool.or_eq_true, cle_i, cle_i] at g
  rcases g with (g | g) | g
  · have := clb_s k e; omega
  · have := cub_s k e; omega
  · obtain ⟨t, ht, g⟩ := List.any_eq_true.mp g
    rw [Bool.and_eq_true, ceI_i] at g
    obtain ⟨a, ha, hb⟩ := k.2.2.1 t ht
    rw [Nat.eq_of_beq_eq_true g.1, e] at ha
    cases ha
    rw [← g.2]; exact hb
end
section
-- ===== narrowing, branches, sums =====
theorem kV_set {ρ : List Int} {V : cV} {p : Nat} {y l u : Int} (h : kV ρ V) (e : ρ[p]? = some y) (h1 : l ≤ y) (h2 : y ≤ u) : kV ρ (V.set p (l, u)) := by
  refine ⟨by rw [List.length_set]; exact h.1, h.2.1, fun i x q e1 e2 => ?_⟩
  rw [List.getElem?_set] at e2
  split at e2
  · rename_i hi
    subst hi
    rw [e] at e1; cases e1
    split at e2
    · cases e2; exact ⟨h1, h2⟩
    · cases e2
  · exact h.2.2 i x q e1 e2
theorem cnle_s {σ : List Nat} {h : aH} {ρ : List Int} {rh : List Nat} {K : cK} (k : dK σ h ρ rh K) {p q : Nat} {o r y z : Int} (e : ρ[p]? = some y) (f : ρ[q]? = some z) (g : y + o ≤ z + r) : ∃ K1, cnle K p o q r = some K1 ∧ dK σ h ρ rh K1 := by
  unfold cnle
  cases hpq : Nat.beq p q with
  | true =>
    have := Nat.eq_of_beq_eq_true hpq
    subst this
    rw [e] at f; cases f
    rw [show cle o r = true by rw [cle_i]; omega]
    exact ⟨K, rfl, k⟩
  | false =>
    simp only [cond_false]
    have u1 := cub_s k e
    have u2 := cub_s k f
    have l1 := clb_s k e
    have l2 := clb_s k f
    have a1 : y ≤ cmn (cub K p) (cub K q + (r - o)) := by rcases cmn_or (a := cub K p) (b := cub K q + (r - o)) with w | w <;> rw [w] <;> omega
    have a2 : cmx (clb K q) (clb K p - (r - o)) ≤ z := by rcases cmx_or (a := clb K q) (b := clb K p - (r - o)) with w | w <;> rw [w] <;> omega
    have c1 : cle (clb K p) (cmn (cub K p) (cub K q + (r - o))) = true := by rw [cle_i]; omega
    have c2 : cle (cmx (clb K q) (clb K p - (r - o))) (cub K q) = true := by rw [cle_i]; omega
    rw [c1, c2]
    refine ⟨_, rfl, ?_, ?_, k.2.2⟩
    · exact kV_set (kV_set k.1 e (cV0_s k.1 e).1 a1) f a2 (cV0_s k.1 f).2
    · show kD ρ (bif Nat.beq p 0 || Nat.beq q 0 then K.2.1 else (p, q, r - o) :: K.2.1)
      cases (Nat.beq p 0 || Nat.beq q 0) with
      | true => exact k.2.1
      | false =>
        intro t ht
        rcases List.mem_cons.mp ht with rfl | ht
        · exact ⟨y, z, e, f, by show y - z ≤ r - o; omega⟩
        · exact k.2.1 t ht
theorem cnec_s {σ : List Nat} {h : aH} {ρ : List Int} {rh : List Nat} {K : cK} (k : dK σ h ρ rh K) {p : Nat} {c y : Int} (e : ρ[p]? = some y) (g : y ≠ c) : ∃ K1, cnec K p c = some K1 ∧ dK σ h ρ rh K1 := by
  unfold cnec
  have u1 := cub_s k e
  have l1 := clb_s k e
  have a1 : (bif ceI (clb K p) c then clb K p + 1 else clb K p) ≤ y := by
    cases w : ceI (clb K p) c with
    | true => rw [ceI_i] at w; simp only [cond_true]; omega
    | false => simp only [cond_false]; omega
  have a2 : y ≤ (bif ceI (cub K p) c then cub K p - 1 else cub K p) := by
    cases w : ceI (cub K p) c with
    | true => rw [ceI_i] at w; simp only [cond_true]; omega
    | false => simp only [cond_false]; omega
  have c1 : cle (bif ceI (clb K p) c then clb K p + 1 else clb K p) (bif ceI (cub K p) c then cub K p - 1 else cub K p) = true := by rw [cle_i]; omega
  dsimp only
  rw [c1]
  refine ⟨_, rfl, kV_set k.1 e a1 a2, k.2.1, ?_, k.2.2.2⟩
  show kN ρ (bif ceI (clb K p) c || ceI (cub K p) c then K.2.2.1 else (p, -c) :: K.2.2.1)
  cases (ceI (clb K p) c || ceI (cub K p) c) with
  | true => exact k.2.2.1
  | false =>
    intro t ht
    rcases List.mem_cons.mp ht with rfl | ht
    · exact ⟨y, e, by show y + -c ≠ 0; omega⟩
    · exact k.2.2.1 t ht
theorem cnne_s {σ : List Nat} {h : aH} {ρ : List Int} {rh : List Nat} {K : cK} (k : dK σ h ρ rh K) {p q : Nat} {o r y z : Int} (e : ρ[p]? = some y) (f : ρ[q]? = some z) (g : y + o ≠ z + r) : ∃ K1, cnne K p o q r = some K1 ∧ dK σ h ρ rh K1 := by
  unfold cnne
  cases hpq : Nat.beq p q with
  | true =>
    have := Nat.eq_of_beq_eq_true hpq
    subst this
    rw [e] at f; cases f
    cases w : ceI o r with
    | true => rw [ceI_i] at w; omega
    | false => exact ⟨K, rfl, k⟩
  | false =>
    simp only [cond_false]
    have u1 := cub_s k e
    have u2 := cub_s k f
    have l1 := clb_s k e
    have l2 := clb_s k f
    cases w : ceI (clb K q) (cub K q) with
    | true =>
      rw [ceI_i] at w
      simp only [cond_true]
      exact cnec_s k e (by omega)
    | false =>
      simp only [cond_false]
      cases w : ceI (clb K p) (cub K p) with
      | true =>
        rw [ceI_i] at w
        simp only [cond_true]
        exact cnec_s k f (by omega)
      | false => exact ⟨K, rfl, k⟩
theorem cneq_s {σ : List Nat} {h : aH} {ρ : List Int} {rh : List Nat} {K : cK} (k : dK σ h ρ rh K) {p q : Nat} {o r y z : Int} (e : ρ[p]? = some y) (f : ρ[q]? = some z) (g : y + o = z + r) : ∃ K1, cneq K p o q r = some K1 ∧ dK σ h ρ rh K1 := by
  unfold cneq
  obtain ⟨K1, e1, k1⟩ := cnle_s k e f (by omega : y + o ≤ z + r)
  rw [e1]
  exact cnle_s k1 f e (by omega)
def dSub (a b : List cEx) : Prop := ∀ e, e ∈ a → e ∈ b
theorem dSub_refl (a : List cEx) : dSub a a := fun _ h => h
theorem dSub_trans {a b c : List cEx} (h : dSub a b) (g : dSub b c) : dSub a c := fun e m => g e (h e m)
theorem cap_s {a b : Option (List cEx)} {es : List cEx} (h : cap a b = some es) : ∃ x y, a = some x ∧ b = some y ∧ dSub x es ∧ dSub y es := by
  unfold cap at h
  split at h
  · split at h
    · cases h
      exact ⟨_, _, rfl, rfl, fun e m => List.mem_append_left _ m, fun e m => List.mem_append_right _ m⟩
    · cases h
  · cases h
def dBr (c : Jvm.ClassFile.Cond) (a b : Int) : Bool := match c with
  | .eq => ceI a b
  | .ne => !ceI a b
  | .lt => cle (a + 1) b
  | .ge => cle b a
  | .gt => cle (b + 1) a
  | .le => cle a b
theorem cbr_s {a : Option cK} {k : cK → Option (List cEx)} {K1 : cK} {x : List cEx} (h : cbr a k = some x) (e : a = some K1) : k K1 = some x := by
  subst e; exact h
theorem ccmp_s {σ : List Nat} {h : aH} {ρ : List Int} {rh : List Nat} {K : cK} (k : dK σ h ρ rh K) {p q : Nat} {o r y z : Int} (e : ρ[p]? = some y) (f : ρ[q]? = some z) {c : Jvm.ClassFile.Cond} {k1 k2 : cK → Option (List cEx)} {es : List cEx} (hc : ccmp c K p o q r k1 k2 = some es) :
    (dBr c (y + o) (z + r) = true → ∃ K1 x, k1 K1 = some x ∧ dSub x es ∧ dK σ h ρ rh K1) ∧ (dBr c (y + o) (z + r) = false → ∃ K1 x, k2 K1 = some x ∧ dSub x es ∧ dK σ h ρ rh K1) := by
  have nle : ∀ {a b : Int}, cle a b = false → b + 1 ≤ a := fun {a b} q => by
    have : ¬ a ≤ b := fun c => by rw [← cle_i, q] at c; cases c
    omega
  have nle' : ∀ {a b : Int}, cle (a + 1) b = false → b ≤ a := fun {a b} q => by have := nle q; omega
  have neI : ∀ {a b : Int}, ceI a b = false → a ≠ b := fun {a b} q c => by rw [← ceI_i, q] at c; cases c
  unfold ccmp at hc
  cases c <;> dsimp only at hc <;> obtain ⟨x1, x2, a1, a2, s1, s2⟩ := cap_s hc <;> unfold dBr <;> dsimp only <;> refine ⟨fun g => ?_, fun g => ?_⟩
  · obtain ⟨K1, w, d⟩ := cneq_s k e f (ceI_i.mp g); exact ⟨K1, _, cbr_s a1 w, s1, d⟩
  · obtain ⟨K1, w, d⟩ := cnne_s k e f (neI g); exact ⟨K1, _, cbr_s a2 w, s2, d⟩
  · obtain ⟨K1, w, d⟩ := cnne_s k e f (neI (by simpa using g)); exact ⟨K1, _, cbr_s a1 w, s1, d⟩
  · obtain ⟨K1, w, d⟩ := cneq_s k e f (ceI_i.mp (by simpa using g)); exact ⟨K1, _, cbr_s a2 w, s2, d⟩
  · obtain ⟨K1, w, d⟩ := cnle_s k e f (o := o + 1) (r := r) (by have := cle_i.mp g; omega); exact ⟨K1, _, cbr_s a1 w, s1, d⟩
  · obtain ⟨K1, w, d⟩ := cnle_s k f e (o := r) (r := o) (nle' g); exact ⟨K1, _, cbr_s a2 w, s2, d⟩
  · obtain ⟨K1, w, d⟩ := cnle_s k f e (o := r) (r := o) (cle_i.mp g); exact ⟨K1, _, cbr_s a1 w, s1, d⟩
  · obtain ⟨K1, w, d⟩ := cnle_s k e f (o := o + 1) (r := r) (by have := nle g; omega); exact ⟨K1, _, cbr_s a2 w, s2, d⟩
  · obtain ⟨K1, w, d⟩ := cnle_s k f e (o := r + 1) (r := o) (by have := cle_i.mp g; omega); exact ⟨K1, _, cbr_s a1 w, s1, d⟩
  · obtain ⟨K1, w, d⟩ := cnle_s k e f (o := o) (r := r) (nle' g); exact ⟨K1, _, cbr_s a2 w, s2, d⟩
  · obtain ⟨K1, w, d⟩ := cnle_s k e f (o := o) (r := r) (cle_i.mp g); exact ⟨K1, _, cbr_s a1 w, s1, d⟩
  · obtain ⟨K1, w, d⟩ := cnle_s k f e (o := r + 1) (r := o) (by have := nle g; omega); exact ⟨K1, _, cbr_s a2 w, s2, d⟩
theorem cin_s {M l u : Int} (h : cin M l u = true) : -M ≤ l ∧ u ≤ M - 1 := by
  unfold cin at h
  rw [Bool.and_eq_true, cle_i, cle_i] at h
  exact h
def dNm (σ : List Nat) (h : aH) (ρ : List Int) (rh : List Nat) (k : cK → Nat → Int → Option (List cEx)) (es : List cEx) (v : Int) : Prop :=
  ∃ K' z x ρ' y, k K' z x = some es ∧ dK σ h ρ' rh K' ∧ dX ρ ρ' ∧ ρ'[z]? = some y ∧ v = y + x
theorem dNm_new {σ : List Nat} {h : aH} {ρ : List Int} {rh : List Nat} {K : cK} (k : dK σ h ρ rh K) {l u v : Int} {f : cK → Nat → Int → Option (List cEx)} {es : List cEx} (h1 : l ≤ v) (h2 : v ≤ u) (e : f (cnew K l u) K.1.length 0 = some es) : dNm σ h ρ rh f es v :=
  ⟨_, _, _, ρ ++ [v], v, e, dK_new k h1 h2, dX_app _ _, kV_last k.1 v, by omega⟩
theorem cadd_s {σ : List Nat} {h : aH} {ρ : List Int} {rh : List Nat} {K : cK} (k : dK σ h ρ rh K) {p q : Nat} {o r y z M v : Int} (e : ρ[p]? = some y) (f : ρ[q]? = some z) {g : cK → Nat → Int → Option (List cEx)} {es : List cEx} (hc : cadd M K p o q r g = some es) (hv1 : -M ≤ v) (hv2 : v ≤ M - 1) (hv : -M ≤ y + o + (z + r) → y + o + (z + r) ≤ M - 1 → v = y + o + (z + r)) : dNm σ h ρ rh g es v := by
  have u1 := cub_s k e
  have u2 := cub_s k f
  have l1 := clb_s k e
  have l2 := clb_s k f
  unfold cadd at hc
  cases w : cin M (clb K p + o + (clb K q + r)) (cub K p + o + (cub K q + r)) with
  | false => rw [w] at hc; exact dNm_new k hv1 hv2 hc
  | true =>
    rw [w] at hc
    obtain ⟨w1, w2⟩ := cin_s w
    have hv := hv (by omega) (by omega)
    simp only [cond_true] at hc
    cases w0 : Nat.beq q 0 with
    | true =>
      rw [w0] at hc
      simp only [cond_true] at hc
      have := Nat.eq_of_beq_eq_true w0
      subst this
      rw [k.1.2.1] at f
      cases f
      exact ⟨K, p, _, ρ, y, hc, k, dX_refl _, e, by omega⟩
    | false =>
      rw [w0] at hc
      simp only [cond_false] at hc
      split at hc
      · rename_i t ht
        have hm := List.mem_of_find?_eq_some ht
        have hp := List.find?_some ht
        simp only [Bool.and_eq_true] at hp
        have e1 := Nat.eq_of_beq_eq_true hp.1
        have e2 := Nat.eq_of_beq_eq_true hp.2
        obtain ⟨a, b, ha, hb, hz⟩ := k.2.2.2.2.2.1 t hm
        rw [e1, e] at ha; cases ha
        rw [e2, f] at hb; cases hb
        have u3 := cub_s k hz
        have l3 := clb_s k hz
        refine ⟨_, _, _, ρ, y + z, hc, ⟨kV_set k.1 hz ?_ ?_, k.2⟩, dX_refl _, hz, by omega⟩
        · rcases cmx_or (a := clb K t.2.2) (b := clb K p + clb K q) with w | w <;> rw [w] <;> omega
        · rcases cmn_or (a := cub K t.2.2) (b := cub K p + cub K q) with w | w <;> rw [w] <;> omega
      · have k' := dK_new (z := y + z) (l := clb K p + clb K q) (u := cub K p + cub K q) k (by omega) (by omega)
        refine ⟨_, _, _, ρ ++ [y + z], y + z, hc, ⟨k'.1, k'.2.1, k'.2.2.1, k'.2.2.2.1, k'.2.2.2.2.1, ?_, k'.2.2.2.2.2.2⟩, dX_app _ _, kV_last k.1 _, by omega⟩
        intro t ht
        rcases List.mem_cons.mp ht with rfl | ht
        · exact ⟨y, z, dX_app _ _ _ _ e, dX_app _ _ _ _ f, kV_last k.1 _⟩
        · exact k'.2.2.2.2.2.1 t ht
theorem cadd'_s {σ : List Nat} {h : aH} {ρ : List Int} {rh : List Nat} {K : cK} (k : dK σ h ρ rh K) {p q : Nat} {o r y z M v : Int} (e : ρ[p]? = some y) (f : ρ[q]? = some z) {g : cK → Nat → Int → Option (List cEx)} {es : List cEx} (hc : cadd' M K p o q r g = some es) (hv1 : -M ≤ v) (hv2 : v ≤ M - 1) (hv : -M ≤ y + o + (z + r) → y + o + (z + r) ≤ M - 1 → v = y + o + (z + r)) : dNm σ h ρ rh g es v := by
  unfold cadd' at hc
  cases w : Nat.beq p 0 with
  | true =>
    rw [w] at hc
    exact cadd_s k f e hc hv1 hv2 (fun a b => by have := hv (by omega) (by omega); omega)
  | false =>
    rw [w] at hc
    exact cadd_s k e f hc hv1 hv2 hv
theorem csub_s {σ : List Nat} {h : aH} {ρ : List Int} {rh : List Nat} {K : cK} (k : dK σ h ρ rh K) {p q : Nat} {o r y z M v : Int} (e : ρ[p]? = some y) (f : ρ[q]? = some z) {g : cK → Nat → Int → Option (List cEx)} {es : List cEx} (hc : csub M K p o q r g = some es) (hv1 : -M ≤ v) (hv2 : v ≤ M - 1) (hv : -M ≤ y + o - (z + r) → y + o - (z + r) ≤ M - 1 → v = y + o - (z + r)) : dNm σ h ρ rh g es v := by
  have u1 := cub_s k e
  have u2 := cub_s k f
  have l1 := clb_s k e
  have l2 := clb_s k f
  unfold csub at hc
  cases w : (Nat.beq p q && cin M (o - r) (o - r)) with
  | true =>
    rw [w] at hc
    simp only [cond_true] at hc
    rw [Bool.and_eq_true] at w
    have := Nat.eq_of_beq_eq_true w.1
    subst this
    rw [e] at f; cases f
    obtain ⟨w1, w2⟩ := cin_s w.2
    have hv := hv (by omega) (by omega)
    exact ⟨K, 0, _, ρ, 0, hc, k, dX_refl _, k.1.2.1, by omega⟩
  | false =>
    rw [w] at hc
    simp only [cond_false] at hc
    cases w : cin M (clb K p + o - (cub K q + r)) (cub K p + o - (clb K q + r)) with
    | false => rw [w] at hc; exact dNm_new k hv1 hv2 hc
    | true =>
      rw [w] at hc
      obtain ⟨w1, w2⟩ := cin_s w
      have hv := hv (by omega) (by omega)
      simp only [cond_true] at hc
      cases w0 : Nat.beq q 0 with
      | true =>
        rw [w0] at hc
        have := Nat.eq_of_beq_eq_true w0
        subst this
        rw [k.1.2.1] at f
        cases f
        exact ⟨K, p, _, ρ, y, hc, k, dX_refl _, e, by omega⟩
      | false => rw [w0] at hc; exact dNm_new k (by omega) (by omega) hc
end
section
-- ===== what a run of the checker says of a run of the machine =====
theorem dFr_refl (W : List (Nat × Nat)) (r : Nat) (c : aC) : dFr W r c c := ⟨fun _ _ _ => rfl, fun ci fs h => ⟨fs, h, fun _ _ => rfl⟩⟩
theorem dFr_trans {W : List (Nat × Nat)} {r : Nat} {a b c : aC} (h : dFr W r a b) (g : dFr W r b c) : dFr W r a c := by
  refine ⟨fun x e w => ?_, fun ci fs e => ?_⟩
  · have h1 := h.1 x e w
    subst h1
    exact g.1 x e w
  · obtain ⟨f1, e1, k1⟩ := h.2 ci fs e
    obtain ⟨f2, e2, k2⟩ := g.2 ci f1 e1
    exact ⟨f2, e2, fun i w => (k2 i w).trans (k1 i w)⟩
theorem dFr_W {W W' : List (Nat × Nat)} (hw : ∀ r i, cWn W' r i = false → cWn W r i = false) {r : Nat} {a b : aC} (h : dFr W r a b) : dFr W' r a b :=
  ⟨fun x e w => h.1 x e (hw _ _ w), fun ci fs e => by
    obtain ⟨f, e1, k⟩ := h.2 ci fs e
    exact ⟨f, e1, fun i w => k i (hw _ _ w)⟩⟩
theorem dG_refl (W : List (Nat × Nat)) (σ : List Nat) (h : aH) : dG W σ h σ h := ⟨fun _ _ e => e, fun _ r c _ e => ⟨c, e, dFr_refl W r c⟩, Nat.le_refl _⟩
theorem dG_trans {W : List (Nat × Nat)} {s0 s1 s2 : List Nat} {h0 h1 h2 : aH} (a : dG W s0 h0 s1 h1) (b : dG W s1 h1 s2 h2) : dG W s0 h0 s2 h2 := by
  refine ⟨fun q r e => b.1 q r (a.1 q r e), fun q r c e f => ?_, Nat.le_trans b.2.2 a.2.2⟩
  obtain ⟨c1, e1, f1⟩ := a.2.1 q r c e f
  obtain ⟨c2, e2, f2⟩ := b.2.1 q r c1 (a.1 q r e) e1
  exact ⟨c2, e2, dFr_trans f1 f2⟩
theorem dG_W {W W' : List (Nat × Nat)} (hw : ∀ r i, cWn W' r i = false → cWn W r i = false) {s0 s1 : List Nat} {h0 h1 : aH} (a : dG W s0 h0 s1 h1) : dG W' s0 h0 s1 h1 :=
  ⟨a.1, fun q r c e f => by
    obtain ⟨c1, e1, f1⟩ := a.2.1 q r c e f
    exact ⟨c1, e1, dFr_W hw f1⟩, a.2.2⟩
theorem cWn_sub {W W' : List (Nat × Nat)} (h : W.all (fun w => cWn W' w.1 w.2) = true) (r i : Nat) (g : cWn W' r i = false) : cWn W r i = false := by
  cases e : cWn W r i with
  | false => rfl
  | true =>
    unfold cWn at e
    obtain ⟨t, ht, e⟩ := List.any_eq_true.mp e
    rw [Bool.and_eq_true] at e
    have h1 := List.all_eq_true.mp h t ht
    rw [Nat.eq_of_beq_eq_true e.1, Nat.eq_of_beq_eq_true e.2, g] at h1
    cases h1
def dRes (X : aX) (Q : cQ) (zs : Int) (lv : Nat) (top : Bool) (M : aM) (pc : Nat) (l : aL) (sv : List Value) (h : aH) (σ : List Nat) (ρ : List Int) (rh : List Nat) (es : List cEx) : Prop :=
  (∃ (N : Nat) (e : cEx) (v : Option Value) (h' : aH) (σ' : List Nat) (ρ' : List Int) (rh' : List Nat), e ∈ es ∧ (∀ n d, arun X (n + N) (d + lv) M pc l sv h = some (v, h')) ∧ dI σ' h' ∧ dG Q.2.2.2.1 σ h σ' h' ∧ dK σ' h' ρ' rh' e.2 ∧ dS ρ' rh' e.1 v.toList ∧ dX ρ ρ' ∧ dX rh rh') ∨
  (top = true ∧ ∃ (N E : Nat) (c : Nat × cT × cRk) (l' : aL) (sv' : List Value) (h' : aH) (σ' : List Nat) (ρ' : List Int) (rh' : List Nat), c ∈ Q.2.2.2.2.1 ∧ (∀ n d, arun X (n + E + N) (d + lv) M pc l sv h = arun X (n + E) (d + lv) M c.1 l' sv' h') ∧ dI σ' h' ∧ dG Q.2.2.2.1 σ h σ' h' ∧ dK σ' h' ρ' rh' c.2.1.2.2 ∧ dL ρ' rh' c.2.1.1 l' ∧ dS ρ' rh' c.2.1.2.1 sv' ∧ (Q.2.2.2.2.2 ≠ none → ∃ w, dRv ρ' c.2.2.2 (w - c.2.2.1) ∧ w < zs))
theorem dRes_step {X : aX} {Q : cQ} {zs : Int} {lv : Nat} {top : Bool} {M : aM} {pc pc' : Nat} {l l' : aL} {sv sv' : List Value} {h h1 : aH} {σ σ1 : List Nat} {ρ ρ1 : List Int} {rh rh1 : List Nat} {es es1 : List cEx} (m e : Nat)
    (hs : ∀ n d, arun X (n + e + m) (d + lv) M pc l sv h = arun X (n + e) (d + lv) M pc' l' sv' h1) (hG : dG Q.2.2.2.1 σ h σ1 h1) (hx : dX ρ ρ1) (hr : dX rh rh1) (hsub : dSub es1 es) (R : dRes X Q zs lv top M pc' l' sv' h1 σ1 ρ1 rh1 es1) : dRes X Q zs lv top M pc l sv h σ ρ rh es := by
  rcases R with ⟨N, e1, v, h', σ', ρ', rh', a1, a2, a3, a4, a5, a6, a7, a8⟩ | ⟨ht, N, E, c, l2, sv2, h', σ', ρ', rh', a1, a2, a3, a4, a5, a6, a7, a8⟩
  · refine Or.inl ⟨N + e + m, e1, v, h', σ', ρ', rh', hsub _ a1, fun n d => ?_, a3, dG_trans hG a4, a5, a6, dX_trans hx a7, dX_trans hr a8⟩
    rw [show n + (N + e + m) = (n + N) + e + m by omega, hs, show n + N + e = n + e + N by omega]
    exact a2 (n + e) d
  · refine Or.inr ⟨ht, N + m, E + e, c, l2, sv2, h', σ', ρ', rh', a1, fun n d => ?_, a3, dG_trans hG a4, a5, a6, a7, a8⟩
    rw [show n + (E + e) + (N + m) = (n + E + N) + e + m by omega, hs, show n + E + N + e = (n + e) + E + N by omega, a2 (n + e) d, show n + e + E = n + (E + e) by omega]
theorem dRes_sub {X : aX} {Q : cQ} {zs : Int} {lv : Nat} {top : Bool} {M : aM} {pc : Nat} {l : aL} {sv : List Value} {h : aH} {σ : List Nat} {ρ : List Int} {rh : List Nat} {es es1 : List cEx} (hsub : dSub es1 es) (R : dRes X Q zs lv top M pc l sv h σ ρ rh es1) : dRes X Q zs lv top M pc l sv h σ ρ rh es :=
  dRes_step 0 0 (fun _ _ => rfl) (dG_refl _ _ _) (dX_refl _) (dX_refl _) hsub R
def dRk (Q : cQ) (zs : Int) (ρ : List Int) : Prop := ∀ s, Q.2.2.2.2.2 = some s → dRv ρ s.2 (zs - s.1)
def dSnd (X : aX) (Q : cQ) (zs : Int) (lv : Nat) (top : Bool) (M : aM) (k : Nat → List cW → List cW → cK → Option (List cEx)) : Prop :=
  ∀ pc L st K es, k pc L st K = some es → ∀ l sv h σ ρ rh, dI σ h → dK σ h ρ rh K → dL ρ rh L l → dS ρ rh st sv → dRk Q zs ρ → dRes X Q zs lv top M pc l sv h σ ρ rh es
theorem dRk_mono {Q : cQ} {zs : Int} {ρ ρ' : List Int} (hx : dX ρ ρ') (h : dRk Q zs ρ) : dRk Q zs ρ' := fun s e => dRv_mono hx (h s e)
theorem dgo {X : aX} {Q : cQ} {zs : Int} {lv : Nat} {top : Bool} {M : aM} {k : Nat → List cW → List cW → cK → Option (List cEx)} (hk : dSnd X Q zs lv top M k) {pc pc' : Nat} {L' st' : List cW} {K' : cK} {l l' : aL} {sv sv' : List Value} {h : aH} {σ : List Nat} {ρ ρ' : List Int} {rh rh' : List Nat} {es es1 : List cEx}
    (he : k pc' L' st' K' = some es1) (hs : ∀ n d, arun X (n + 1) (d + lv) M pc l sv h = arun X n (d + lv) M pc' l' sv' h) (hI : dI σ h) (hK : dK σ h ρ' rh' K') (hx : dX ρ ρ') (hr : dX rh rh') (hL : dL ρ' rh' L' l') (hS : dS ρ' rh' st' sv') (hrk : dRk Q zs ρ) (hsub : dSub es1 es) : dRes X Q zs lv top M pc l sv h σ ρ rh es :=
  dRes_step 1 0 hs (dG_refl _ _ _) hx hr hsub (hk _ _ _ _ _ he _ _ _ _ _ _ hI hK hL hS (dRk_mono hx hrk))
theorem dS_cons {ρ : List Int} {rh : List Nat} {w : cW} {r : List cW} {sv : List Value} (h : dS ρ rh (w :: r) sv) : ∃ v s, sv = v :: s ∧ dW ρ rh w v ∧ dS ρ rh r s := by
  cases sv with
  | nil => exact h.elim
  | cons v s => exact ⟨v, s, rfl, h.1, h.2⟩
theorem dS_nil {ρ : List Int} {rh : List Nat} {sv : List Value} (h : dS ρ rh [] sv) : sv = [] := by
  cases sv with
  | nil => rfl
  | cons v s => exact h.elim
theorem cpI_s {st : List cW} {f : Nat → Int → List cW → Option (List cEx)} {es : List cEx} (h : cpI st f = some es) {ρ : List Int} {rh : List Nat} {sv : List Value} (hS : dS ρ rh st sv) :
    ∃ p o r, ∃ (x : Int32) (y : Int) (s : List Value), st = (1, p, o) :: r ∧ f p o r = some es ∧ sv = .int x :: s ∧ ρ[p]? = some y ∧ x.toInt = y + o ∧ dS ρ rh r s := by
  unfold cpI at h
  split at h
  · obtain ⟨v, s, rfl, ⟨x, y, rfl, h1, h2⟩, h3⟩ := dS_cons hS
    exact ⟨_, _, _, x, y, s, rfl, h, rfl, h1, h2, h3⟩
  · cases h
theorem cpII_s {st : List cW} {f : Nat → Int → Nat → Int → List cW → Option (List cEx)} {es : List cEx} (h : cpII st f = some es) {ρ : List Int} {rh : List Nat} {sv : List Value} (hS : dS ρ rh st sv) :
    ∃ p o q s r, ∃ (x x' : Int32) (y y' : Int) (t : List Value), st = (1, q, s) :: (1, p, o) :: r ∧ f p o q s r = some es ∧ sv = .int x' :: .int x :: t ∧ ρ[p]? = some y ∧ x.toInt = y + o ∧ ρ[q]? = some y' ∧ x'.toInt = y' + s ∧ dS ρ rh r t := by
  unfold cpII at h
  split at h
  · obtain ⟨v, s, rfl, ⟨x', y', rfl, h1, h2⟩, h3⟩ := dS_cons hS
    obtain ⟨v, s, rfl, ⟨x, y, rfl, h4, h5⟩, h6⟩ := dS_cons h3
    exact ⟨_, _, _, _, _, x, x', y, y', s, rfl, h, rfl, h4, h5, h1, h2, h6⟩
  · cases h
theorem cpJ_s {st : List cW} {f : Nat → Int → List cW → Option (List cEx)} {es : List cEx} (h : cpJ st f = some es) {ρ : List Int} {rh : List Nat} {sv : List Value} (hS : dS ρ rh st sv) :
    ∃ p o r, ∃ (x : Int64) (y : Int) (s : List Value), st = (2, p, o) :: r ∧ f p o r = some es ∧ sv = .long x :: s ∧ ρ[p]? = some y ∧ x.toInt = y + o ∧ dS ρ rh r s := by
  unfold cpJ at h
  split at h
  · obtain ⟨v, s, rfl, ⟨x, y, rfl, h1, h2⟩, h3⟩ := dS_cons hS
    exact ⟨_, _, _, x, y, s, rfl, h, rfl, h1, h2, h3⟩
  · cases h
theorem cpJJ_s {st : List cW} {f : Nat → Int → Nat → Int → List cW → Option (List cEx)} {es : List cEx} (h : cpJJ st f = some es) {ρ : List Int} {rh : List Nat} {sv : List Value} (hS : dS ρ rh st sv) :
    ∃ p o q s r, ∃ (x x' : Int64) (y y' : Int) (t : List Value), st = (2, q, s) :: (2, p, o) :: r ∧ f p o q s r = some es ∧ sv = .long x' :: .long x :: t ∧ ρ[p]? = some y ∧ x.toInt = y + o ∧ ρ[q]? = some y' ∧ x'.toInt = y' + s ∧ dS ρ rh r t := by
  unfold cpJJ at h
  split at h
  · obtain ⟨v, s, rfl, ⟨x', y', rfl, h1, h2⟩, h3⟩ := dS_cons hS
    obtain ⟨v, s, rfl, ⟨x, y, rfl, h4, h5⟩, h6⟩ := dS_cons h3
    exact ⟨_, _, _, _, _, x, x', y, y', s, rfl, h, rfl, h4, h5, h1, h2, h6⟩
  · cases h
theorem cit_s {b : Bool} {x : Option (List cEx)} {es : List cEx} (h : cit b x = some es) : b = true ∧ x = some es := by
  unfold cit at h
  cases b with
  | true => exact ⟨rfl, h⟩
  | false => cases h
theorem cfr_s {K : cK} {q : Int × Int} {f : cK → Nat → Option (List cEx)} {es : List cEx} (h : cfr K q f = some es) {σ : List Nat} {hh : aH} {ρ : List Int} {rh : List Nat} (k : dK σ hh ρ rh K) {v : Int} (h1 : q.1 ≤ v) (h2 : v ≤ q.2) :
    ∃ K', f K' K.1.length = some es ∧ dK σ hh (ρ ++ [v]) rh K' ∧ (ρ ++ [v])[K.1.length]? = some v :=
  ⟨_, h, dK_new k h1 h2, kV_last k.1 v⟩
theorem clo_s {σ : List Nat} {h : aH} {ρ : List Int} {rh : List Nat} {K : cK} (k : dK σ h ρ rh K) {p : Nat} {o y : Int} (e : ρ[p]? = some y) : clo K p o ≤ y + o ∧ y + o ≤ chi K p o := by
  have := cub_s k e
  have := clb_s k e
  unfold clo chi
  omega
-- locals
theorem aG_get {l : aL} {i : Nat} {v : Value} : aG l i = some v ↔ l[i]? = some (some v) := by
  unfold aG
  constructor
  · intro h
    split at h
    · rename_i v' e; cases h; exact e
    · cases h
  · intro h; rw [h]
theorem dL_get {ρ : List Int} {rh : List Nat} {L : List cW} {l : aL} (h : dL ρ rh L l) {z g : Nat} (hg : (cG L z).1 = g) (g0 : g ≠ 0) : ∃ v, aG l z = some v ∧ dW ρ rh (cG L z) v := by
  unfold cG at hg ⊢
  cases e : L[z]? with
  | none => rw [e] at hg; exact absurd hg.symm g0
  | some w =>
    rw [e] at hg
    rcases h.2 z w e with q | q
    · exact absurd (hg.symm.trans q) g0
    · exact q
theorem dL_none {ρ : List Int} {rh : List Nat} {L : List cW} {l : aL} (h : dL ρ rh L l) (i : Nat) (x : Option Value) : dL ρ rh (L.set i (0, 0, 0)) (l.set i x) := by
  refine ⟨by rw [List.length_set, List.length_set]; exact h.1, fun j w e => ?_⟩
  rw [List.getElem?_set] at e
  split at e
  · split at e
    · cases e; exact Or.inl rfl
    · cases e
  · rename_i hn
    rcases h.2 j w e with q | ⟨v, q1, q2⟩
    · exact Or.inl q
    · refine Or.inr ⟨v, ?_, q2⟩
      rw [aG_get] at q1 ⊢
      rw [List.getElem?_set, if_neg hn]
      exact q1
theorem dL_unk {ρ : List Int} {rh : List Nat} {L : List cW} {l : aL} (h : dL ρ rh L l) (i : Nat) : dL ρ rh (L.set i (0, 0, 0)) l := by
  refine ⟨by rw [List.length_set]; exact h.1, fun j w e => ?_⟩
  rw [List.getElem?_set] at e
  split at e
  · split at e
    · cases e; exact Or.inl rfl
    · cases e
  · exact h.2 j w e
theorem dL_set {ρ : List Int} {rh : List Nat} {L : List cW} {l : aL} (h : dL ρ rh L l) (i : Nat) {w : cW} {v : Value} (hw : dW ρ rh w v) : dL ρ rh (L.set i w) (l.set i (some v)) := by
  refine ⟨by rw [List.length_set, List.length_set]; exact h.1, fun j w' e => ?_⟩
  rw [List.getElem?_set] at e
  split at e
  · rename_i hi
    subst hi
    split at e
    · rename_i hl
      cases e
      refine Or.inr ⟨v, ?_, hw⟩
      rw [aG_get, List.getElem?_set, if_pos rfl, if_pos (by rw [h.1]; exact hl)]
    · cases e
  · rename_i hn
    rcases h.2 j w' e with q | ⟨v', q1, q2⟩
    · exact Or.inl q
    · refine Or.inr ⟨v', ?_, q2⟩
      rw [aG_get] at q1 ⊢
      rw [List.getElem?_set, if_neg hn]
      exact q1
theorem dL_clr {ρ : List Int} {rh : List Nat} {L : List cW} {l : aL} (h : dL ρ rh L l) (i : Nat) : dL ρ rh (cclr L i) (aclr l i) := by
  cases i with
  | zero => exact h
  | succ j =>
    unfold cclr aclr
    dsimp only
    cases e : Nat.beq (cG L j).1 2 with
    | true =>
      simp only [cond_true]
      split
      · exact dL_none h _ _
      · exact dL_none h _ _
      · exact dL_unk h _
    | false =>
      simp only [cond_false]
      have hn : (cG L j).1 ≠ 2 := fun c => by rw [c] at e; cases e
      have key : ∀ x : Value, l[j]? = some (some x) → (∀ p, dW ρ rh p x → p.1 = 2 ∨ False) → dL ρ rh L (l.set j none) := by
        intro x hx hp
        refine ⟨by rw [List.length_set]; exact h.1, fun i w e => ?_⟩
        rcases h.2 i w e with q | ⟨v, q1, q2⟩
        · exact Or.inl q
        · by_cases hij : j = i
          · subst hij
            rw [aG_get, hx] at q1
            cases q1
            have hc : cG L j = w := by unfold cG; rw [e]
            rcases hp w q2 with c | c
            · exact absurd (hc ▸ c) hn
            · exact c.elim
          · refine Or.inr ⟨v, ?_, q2⟩
            rw [aG_get] at q1 ⊢
            rw [List.getElem?_set, if_neg hij]
            exact q1
      have two : ∀ (p : cW) (x : Int64), dW ρ rh p (.long x) → p.1 = 2 ∨ False := by
        intro p x hp
        unfold dW at hp
        split at hp
        · obtain ⟨_, _, c, _⟩ := hp; cases c
        · rename_i c; exact Or.inl c
        · obtain ⟨_, c, _⟩ := hp; cases c
        · cases hp
        · cases hp
        · rcases hp with c | ⟨_, c, _⟩ <;> cases c
        · cases hp
        · exact hp.elim
      split
      · rename_i x hx
        exact key _ hx (fun p hp => two p x hp)
      · rename_i x hx
        refine key _ hx (fun p hp => ?_)
        unfold dW at hp
        split at hp
        · obtain ⟨_, _, c, _⟩ := hp; cases c
        · obtain ⟨_, _, c, _⟩ := hp; cases c
        · obtain ⟨_, c, _⟩ := hp; cases c
        · cases hp
        · cases hp
        · rcases hp with c | ⟨_, c, _⟩ <;> cases c
        · cases hp
        · exact hp.elim
      · exact h
theorem dL_S1 {ρ : List Int} {rh : List Nat} {L : List cW} {l : aL} (h : dL ρ rh L l) (i : Nat) {w : cW} {v : Value} (hw : dW ρ rh w v) : dL ρ rh (cS1 L i w) (aS1 l i v) := dL_set (dL_clr h i) i hw
theorem dL_S2 {ρ : List Int} {rh : List Nat} {L : List cW} {l : aL} (h : dL ρ rh L l) (i : Nat) {w : cW} {v : Value} (hw : dW ρ rh w v) : dL ρ rh (cS2 L i w) (aS2 l i v) := dL_none (dL_set (dL_clr h i) i hw) _ _
theorem dL_blt {ρ : List Int} {rh : List Nat} {L : List cW} {l : aL} (h : dL ρ rh L l) {z : Nat} (e : Nat.blt z L.length = true) : Nat.blt z l.length = true := by rw [h.1]; exact e
end
section
-- ===== ints as numbers =====
theorem bm32 {z : Int} (h1 : -2147483648 ≤ z) (h2 : z ≤ 2147483647) : z.bmod (2 ^ 32) = z := Int.bmod_eq_of_le (by omega) (by omega)
theorem bm64 {z : Int} (h1 : -9223372036854775808 ≤ z) (h2 : z ≤ 9223372036854775807) : z.bmod (2 ^ 64) = z := Int.bmod_eq_of_le (by omega) (by omega)
theorem iR (x : Int32) : -2147483648 ≤ x.toInt ∧ x.toInt ≤ 2147483647 := by have := x.le_toInt; have := x.toInt_lt; omega
theorem jR (x : Int64) : -9223372036854775808 ≤ x.toInt ∧ x.toInt ≤ 9223372036854775807 := by have := x.le_toInt; have := x.toInt_lt; omega
theorem mul_lo {a b x y m : Int} (h1 : a ≤ x) (h2 : x ≤ b) (g1 : m ≤ a * y) (g2 : m ≤ b * y) : m ≤ x * y := by
  rcases Int.le_total 0 y with q | q
  · exact Int.le_trans g1 (Int.mul_le_mul_of_nonneg_right h1 q)
  · exact Int.le_trans g2 (Int.mul_le_mul_of_nonpos_right h2 q)
theorem mul_hi {a b x y m : Int} (h1 : a ≤ x) (h2 : x ≤ b) (g1 : a * y ≤ m) (g2 : b * y ≤ m) : x * y ≤ m := by
  rcases Int.le_total 0 y with q | q
  · exact Int.le_trans (Int.mul_le_mul_of_nonneg_right h2 q) g2
  · exact Int.le_trans (Int.mul_le_mul_of_nonpos_right h1 q) g1
theorem cmulr_s {a b c d x y : Int} (h1 : a ≤ x) (h2 : x ≤ b) (h3 : c ≤ y) (h4 : y ≤ d) : (cmulr a b c d).1 ≤ x * y ∧ x * y ≤ (cmulr a b c d).2 := by
  unfold cmulr
  dsimp only
  have n1 := cmn_le (a := a * c) (b := a * d)
  have n2 := cmn_le (a := b * c) (b := b * d)
  have n3 := cmn_le (a := cmn (a * c) (a * d)) (b := cmn (b * c) (b * d))
  have x1 := cmx_le (a := a * c) (b := a * d)
  have x2 := cmx_le (a := b * c) (b := b * d)
  have x3 := cmx_le (a := cmx (a * c) (a * d)) (b := cmx (b * c) (b * d))
  constructor
  · refine mul_lo h1 h2 ?_ ?_
    · rw [Int.mul_comm a y]; refine mul_lo h3 h4 ?_ ?_
      · rw [Int.mul_comm c a]; omega
      · rw [Int.mul_comm d a]; omega
    · rw [Int.mul_comm b y]; refine mul_lo h3 h4 ?_ ?_
      · rw [Int.mul_comm c b]; omega
      · rw [Int.mul_comm d b]; omega
  · refine mul_hi h1 h2 ?_ ?_
    · rw [Int.mul_comm]; refine mul_hi h3 h4 ?_ ?_
      · rw [Int.mul_comm]; omega
      · rw [Int.mul_comm]; omega
    · rw [Int.mul_comm]; refine mul_hi h3 h4 ?_ ?_
      · rw [Int.mul_comm]; omega
      · rw [Int.mul_comm]; omega
theorem cfit_s {M l u v w : Int} (h1 : -M ≤ v) (h2 : v ≤ M - 1) (h3 : l ≤ w) (h4 : w ≤ u) (h5 : -M ≤ w → w ≤ M - 1 → v = w) : (cfit M l u).1 ≤ v ∧ v ≤ (cfit M l u).2 := by
  unfold cfit
  cases e : cin M l u with
  | true =>
    have := cin_s e
    have := h5 (by omega) (by omega)
    simp only [cond_true]
    omega
  | false => exact ⟨h1, h2⟩
theorem tdiv_b {x y : Int} (hy : 1 ≤ y) : (0 ≤ x → 0 ≤ x.tdiv y ∧ x.tdiv y ≤ x) ∧ (x ≤ 0 → x ≤ x.tdiv y ∧ x.tdiv y ≤ 0) := by
  constructor
  · intro hx
    rw [Int.tdiv_eq_ediv_of_nonneg hx]
    exact ⟨Int.ediv_nonneg hx (by omega), Int.ediv_le_self _ hx⟩
  · intro hx
    obtain ⟨z, rfl⟩ : ∃ z, x = -z := ⟨-x, by omega⟩
    rw [Int.neg_tdiv, Int.tdiv_eq_ediv_of_nonneg (by omega)]
    have := Int.ediv_nonneg (a := z) (b := y) (by omega) (by omega)
    have := Int.ediv_le_self y (a := z) (by omega)
    omega
theorem ediv_mono2 {x b y c : Int} (h0 : 0 ≤ x) (h1 : x ≤ b) (hc : 1 ≤ c) (h2 : c ≤ y) : x / y ≤ b / c := by
  refine Int.le_trans ?_ (Int.ediv_le_ediv (by omega) h1)
  rw [Int.le_ediv_iff_mul_le (by omega)]
  have h3 := Int.ediv_mul_le x (b := y) (by omega)
  have h4 := Int.ediv_nonneg (a := x) (b := y) h0 (by omega)
  exact Int.le_trans (Int.mul_le_mul_of_nonneg_left h2 h4) h3
theorem cdivr_s {M a b c d x y v : Int} (hM : 0 < M) (h1 : a ≤ x) (h2 : x ≤ b) (h3 : c ≤ y) (hx1 : -M ≤ x) (hx2 : x ≤ M - 1) (hv1 : -M ≤ v) (hv2 : v ≤ M - 1) (hv : -M ≤ x.tdiv y → x.tdiv y ≤ M - 1 → v = x.tdiv y) : (cdivr M a b c d).1 ≤ v ∧ v ≤ (cdivr M a b c d).2 := by
  unfold cdivr
  cases e : cle 1 c with
  | false => exact ⟨hv1, hv2⟩
  | true =>
    rw [cle_i] at e
    simp only [cond_true]
    have tb := tdiv_b (x := x) (y := y) (by omega)
    rcases Int.le_total 0 x with q | q
    · have t1 := tb.1 q
      have hv := hv (by omega) (by omega)
      have t2 : x.tdiv y ≤ b / c := by rw [Int.tdiv_eq_ediv_of_nonneg q]; exact ediv_mono2 q h2 e h3
      constructor
      · cases e2 : cle 0 a with
        | true => simp only [cond_true]; omega
        | false =>
          simp only [cond_false]
          have : ¬ 0 ≤ a := fun c => by rw [← cle_i, e2] at c; cases c
          have := Int.ediv_nonneg (a := -a) (b := c) (by omega) (by omega)
          omega
      · rw [show cle 0 b = true by rw [cle_i]; omega]
        simp only [cond_true]
        omega
    · have t1 := tb.2 q
      have hv := hv (by omega) (by omega)
      constructor
      · cases e2 : cle 0 a with
        | true =>
          rw [cle_i] at e2
          simp only [cond_true]
          have : x = 0 := by omega
          subst this
          simp only [Int.zero_tdiv] at hv
          omega
        | false =>
          simp only [cond_false]
          have : ¬ 0 ≤ a := fun c => by rw [← cle_i, e2] at c; cases c
          obtain ⟨z, rfl⟩ : ∃ z, x = -z := ⟨-x, by omega⟩
          rw [Int.neg_tdiv, Int.tdiv_eq_ediv_of_nonneg (by omega)] at hv
          have := ediv_mono2 (x := z) (b := -a) (y := y) (c := c) (by omega) (by omega) e h3
          omega
      · cases e2 : cle 0 b with
        | true =>
          rw [cle_i] at e2
          simp only [cond_true]
          have := Int.ediv_nonneg (a := b) (b := c) (by omega) (by omega)
          omega
        | false => simp only [cond_false]; omega
theorem cremr_s {M a b c d x y v : Int} (h1 : a ≤ x) (h2 : x ≤ b) (h3 : c ≤ y) (h4 : y ≤ d) (hv1 : -M ≤ v) (hv2 : v ≤ M - 1) (hv : v = x.tmod y) : (cremr M a b c d).1 ≤ v ∧ v ≤ (cremr M a b c d).2 := by
  unfold cremr
  cases e : cle 1 c with
  | false => exact ⟨hv1, hv2⟩
  | true =>
    rw [cle_i] at e
    simp only [cond_true]
    have key : ∀ z : Int, 0 ≤ z → 0 ≤ z.tmod y ∧ z.tmod y < y ∧ z.tmod y ≤ z := by
      intro z hz
      rw [Int.tmod_eq_emod_of_nonneg hz]
      refine ⟨Int.emod_nonneg _ (by omega), Int.emod_lt_of_pos _ (by omega), ?_⟩
      have h5 := Int.ediv_nonneg (a := z) (b := y) hz (by omega)
      have h6 := Int.mul_nonneg (show 0 ≤ y by omega) h5
      have h7 := Int.mul_ediv_add_emod z y
      omega
    rcases Int.le_total 0 x with q | q
    · have := key x q
      constructor
      · cases e2 : cle 0 a with
        | true => simp only [cond_true]; omega
        | false => simp only [cond_false]; omega
      · cases e2 : cle 0 a with
        | true => simp only [cond_true]; rcases cmn_or (a := b) (b := d - 1) with w | w <;> rw [w] <;> omega
        | false => simp only [cond_false]; omega
    · obtain ⟨z, rfl⟩ : ∃ z, x = -z := ⟨-x, by omega⟩
      rw [Int.neg_tmod] at hv
      have := key z (by omega)
      constructor
      · cases e2 : cle 0 a with
        | true =>
          rw [cle_i] at e2
          simp only [cond_true]
          have : z = 0 := by omega
          subst this
          omega
        | false => simp only [cond_false]; omega
      · cases e2 : cle 0 a with
        | true =>
          rw [cle_i] at e2
          simp only [cond_true]
          have : z = 0 := by omega
          subst this
          rcases cmn_or (a := b) (b := d - 1) with w | w <;> rw [w] <;> omega
        | false => simp only [cond_false]; omega
theorem i_div {x y : Int32} : (-2147483648 ≤ x.toInt.tdiv y.toInt → x.toInt.tdiv y.toInt ≤ 2147483647 → (x / y).toInt = x.toInt.tdiv y.toInt) := fun h1 h2 => by
  rw [Int32.toInt_div, bm32 h1 h2]
theorem j_div {x y : Int64} : (-9223372036854775808 ≤ x.toInt.tdiv y.toInt → x.toInt.tdiv y.toInt ≤ 9223372036854775807 → (x / y).toInt = x.toInt.tdiv y.toInt) := fun h1 h2 => by
  rw [Int64.toInt_div, bm64 h1 h2]
theorem i_rem {x y : Int32} (hy : y.toInt ≠ 0) : (x - x / y * y).toInt = x.toInt.tmod y.toInt := by
  have hd : x.toInt - x.toInt.tdiv y.toInt * y.toInt = x.toInt.tmod y.toInt := by
    have := Int.mul_tdiv_add_tmod x.toInt y.toInt
    rw [Int.mul_comm] at this
    omega
  have hr : -2147483648 ≤ x.toInt.tmod y.toInt ∧ x.toInt.tmod y.toInt ≤ 2147483647 := by
    rw [← Int32.toInt_mod]; exact iR _
  rw [Int32.toInt_sub, Int32.toInt_mul, Int32.toInt_div, Int.bmod_mul_bmod, Int.sub_bmod_bmod, hd, bm32 hr.1 hr.2]
theorem j_rem {x y : Int64} (hy : y.toInt ≠ 0) : (x - x / y * y).toInt = x.toInt.tmod y.toInt := by
  have hd : x.toInt - x.toInt.tdiv y.toInt * y.toInt = x.toInt.tmod y.toInt := by
    have := Int.mul_tdiv_add_tmod x.toInt y.toInt
    rw [Int.mul_comm] at this
    omega
  have hr : -9223372036854775808 ≤ x.toInt.tmod y.toInt ∧ x.toInt.tmod y.toInt ≤ 9223372036854775807 := by
    rw [← Int64.toInt_mod]; exact jR _
  rw [Int64.toInt_sub, Int64.toInt_mul, Int64.toInt_div, Int.bmod_mul_bmod, Int.sub_bmod_bmod, hd, bm64 hr.1 hr.2]
theorem i_nn {x : Int32} (h : 0 ≤ x.toInt) : x.toInt = (x.toBitVec.toNat : Int) ∧ x.toBitVec.toNat < 2147483648 := by
  have e : x.toBitVec.toInt = x.toInt := rfl
  rw [BitVec.toInt_eq_toNat_cond] at e
  have := x.toBitVec.isLt
  split at e <;> omega
theorem i_nat {x : Int32} (h : x.toBitVec.toNat < 2147483648) : x.toInt = (x.toBitVec.toNat : Int) := by
  have e : x.toBitVec.toInt = x.toInt := rfl
  rw [BitVec.toInt_eq_toNat_cond] at e
  split at e <;> omega
theorem i_and {x y : Int32} (h : 0 ≤ y.toInt) : 0 ≤ (x &&& y).toInt ∧ (x &&& y).toInt ≤ y.toInt := by
  obtain ⟨h1, h2⟩ := i_nn h
  have e : (x &&& y).toBitVec.toNat = x.toBitVec.toNat &&& y.toBitVec.toNat := by
    rw [Int32.toBitVec_and, BitVec.toNat_and]
  have l : (x &&& y).toBitVec.toNat ≤ y.toBitVec.toNat := by rw [e]; exact Nat.and_le_right
  rw [i_nat (x := x &&& y) (by omega), h1]
  omega
theorem i_and' {x y : Int32} (h : 0 ≤ x.toInt) : 0 ≤ (x &&& y).toInt ∧ (x &&& y).toInt ≤ x.toInt := by
  rw [Int32.and_comm]
  exact i_and h
theorem candr_s {a b c d : Int} {x y : Int32} (h1 : a ≤ x.toInt) (h2 : x.toInt ≤ b) (h3 : c ≤ y.toInt) (h4 : y.toInt ≤ d) : (candr a b c d).1 ≤ (x &&& y).toInt ∧ (x &&& y).toInt ≤ (candr a b c d).2 := by
  unfold candr
  have hR := iR (x &&& y)
  cases e1 : cle 0 a with
  | true =>
    rw [cle_i] at e1
    have q1 := i_and' (x := x) (y := y) (by omega)
    cases e2 : cle 0 c with
    | true =>
      rw [cle_i] at e2
      have q2 := i_and (x := x) (y := y) (by omega)
      simp only [Bool.and_self, cond_true]
      rcases cmn_or (a := b) (b := d) with w | w <;> rw [w] <;> omega
    | false => simp only [Bool.and_false, cond_false, cond_true]; omega
  | false =>
    cases e2 : cle 0 c with
    | true =>
      rw [cle_i] at e2
      have q2 := i_and (x := x) (y := y) (by omega)
      simp only [Bool.and_true, cond_false, cond_true]; omega
    | false =>
      simp only [Bool.and_self, cond_false]
      unfold cM32
      omega
theorem i_ushr {x y : Int32} (h1 : 1 ≤ y.toInt) (h2 : y.toInt ≤ 31) : 0 ≤ (x.toUInt32 >>> (y.toUInt32 &&& Int32.toUInt32 31)).toInt32.toInt := by
  obtain ⟨h3, h4⟩ := i_nn (x := y) (by omega)
  have e : (x.toUInt32 >>> (y.toUInt32 &&& Int32.toUInt32 31)).toNat < 2147483648 := by
    rw [UInt32.toNat_shiftRight]
    have e1 : (y.toUInt32 &&& Int32.toUInt32 31).toNat % 32 = y.toBitVec.toNat := by
      rw [UInt32.toNat_and]
      have : y.toUInt32.toNat = y.toBitVec.toNat := rfl
      rw [this, show (Int32.toUInt32 31).toNat = 31 from rfl, show (31 : Nat) = 2 ^ 5 - 1 from rfl, Nat.and_two_pow_sub_one_eq_mod]
      omega
    rw [e1, Nat.shiftRight_eq_div_pow]
    have h5 := x.toUInt32.toNat_lt
    refine Nat.lt_of_le_of_lt (Nat.div_le_div_left (c := 2) (Nat.le_self_pow (n := y.toBitVec.toNat) (by omega) 2) (by decide)) ?_
    omega
  rw [i_nat (x := (x.toUInt32 >>> (y.toUInt32 &&& Int32.toUInt32 31)).toInt32) e]
  omega
theorem b_i {a b : Int32} : (a = b) ↔ a.toInt = b.toInt := Int32.toInt_inj.symm
theorem dBr_t {c : Jvm.ClassFile.Cond} {a b : Int} (h : dBr c a b = true) : (match c with
  | .eq => a = b
  | .ne => a ≠ b
  | .lt => a < b
  | .ge => b ≤ a
  | .gt => b < a
  | .le => a ≤ b) := by
  unfold dBr at h
  cases c <;> dsimp only at h ⊢
  · exact ceI_i.mp h
  · intro q; rw [← ceI_i] at q; rw [q] at h; cases h
  · have := cle_i.mp h; omega
  · exact cle_i.mp h
  · have := cle_i.mp h; omega
  · exact cle_i.mp h
theorem dBr_f {c : Jvm.ClassFile.Cond} {a b : Int} (h : dBr c a b = false) : (match c with
  | .eq => a ≠ b
  | .ne => a = b
  | .lt => b ≤ a
  | .ge => a < b
  | .gt => a ≤ b
  | .le => b < a) := by
  have nle : ∀ {a b : Int}, cle a b = false → b < a := fun {a b} q => by
    have : ¬ a ≤ b := fun c => by rw [← cle_i, q] at c; cases c
    omega
  unfold dBr at h
  cases c <;> dsimp only at h ⊢
  · intro q; rw [← ceI_i] at q; rw [q] at h; cases h
  · exact ceI_i.mp (by simpa using h)
  · have := nle h; omega
  · exact nle h
  · have := nle h; omega
  · exact nle h
theorem r_cmp {X : aX} {n d pc len a b : Nat} {M : aM} {L : aL} {r : List Value} {h : aH} {c : Jvm.ClassFile.Cond} {off : Int} {x y : Int32} (hf : aF pc M.2.2.2.2.2.2.2 = some (pc, (.if_icmp c off), len, a, b)) : arun X (n + 1) d M pc L (.int y :: .int x :: r) h = bif dBr c x.toInt y.toInt then arun X n d M a L r h else arun X n d M (pc + 3) L r h := by
  rw [arun_p hf rfl]
  cases e : dBr c x.toInt y.toInt with
  | true =>
    have := dBr_t e
    cases c <;> dsimp only at this <;> simp only [aX1, tII, cond_true]
    · rw [if_pos (b_i.mpr this)]
    · rw [if_neg (fun q => this (b_i.mp q))]
    · rw [if_pos (Int32.lt_iff_toInt_lt.mpr this)]
    · rw [if_pos (Int32.le_iff_toInt_le.mpr this)]
    · rw [if_pos (Int32.lt_iff_toInt_lt.mpr this)]
    · rw [if_pos (Int32.le_iff_toInt_le.mpr this)]
  | false =>
    have := dBr_f e
    cases c <;> dsimp only at this <;> simp only [aX1, tII, cond_false]
    · rw [if_neg (fun q => this (b_i.mp q))]
    · rw [if_pos (b_i.mpr this)]
    · rw [if_neg (fun q => by have := Int32.lt_iff_toInt_lt.mp q; omega)]
    · rw [if_neg (fun q => by have := Int32.le_iff_toInt_le.mp q; omega)]
    · rw [if_neg (fun q => by have := Int32.lt_iff_toInt_lt.mp q; omega)]
    · rw [if_neg (fun q => by have := Int32.le_iff_toInt_le.mp q; omega)]
theorem i_zero : (0 : Int32).toInt = 0 := rfl
theorem r_cond {X : aX} {n d pc len a b : Nat} {M : aM} {L : aL} {r : List Value} {h : aH} {c : Jvm.ClassFile.Cond} {off : Int} {x : Int32} (hf : aF pc M.2.2.2.2.2.2.2 = some (pc, (.ifCond c off), len, a, b)) : arun X (n + 1) d M pc L (.int x :: r) h = bif dBr c x.toInt 0 then arun X n d M a L r h else arun X n d M (pc + 3) L r h := by
  rw [arun_p hf rfl]
  cases e : dBr c x.toInt 0 with
  | true =>
    have := dBr_t e
    cases c <;> dsimp only at this <;> simp only [aX1, tI, cond_true]
    · rw [if_pos (b_i.mpr (by rw [i_zero]; exact this))]
    · rw [if_neg (fun q => this (by rw [b_i.mp q, i_zero]))]
    · rw [if_pos (Int32.lt_iff_toInt_lt.mpr (by rw [i_zero]; exact this))]
    · rw [if_pos (Int32.le_iff_toInt_le.mpr (by rw [i_zero]; exact this))]
    · rw [if_pos (Int32.lt_iff_toInt_lt.mpr (by rw [i_zero]; exact this))]
    · rw [if_pos (Int32.le_iff_toInt_le.mpr (by rw [i_zero]; exact this))]
  | false =>
    have := dBr_f e
    cases c <;> dsimp only at this <;> simp only [aX1, tI, cond_false]
    · rw [if_neg (fun q => this (by rw [b_i.mp q, i_zero]))]
    · rw [if_pos (b_i.mpr (by rw [i_zero]; exact this))]
    · rw [if_neg (fun q => by have := Int32.lt_iff_toInt_lt.mp q; rw [i_zero] at this; omega)]
    · rw [if_neg (fun q => by have := Int32.le_iff_toInt_le.mp q; rw [i_zero] at this; omega)]
    · rw [if_neg (fun q => by have := Int32.lt_iff_toInt_lt.mp q; rw [i_zero] at this; omega)]
    · rw [if_neg (fun q => by have := Int32.le_iff_toInt_le.mp q; rw [i_zero] at this; omega)]
theorem dBr_lcmp {c : Jvm.ClassFile.Cond} {x y : Int64} : dBr c (lg_cmp x y).toInt 0 = dBr c x.toInt y.toInt := by
  have h1 : x > y ↔ y.toInt < x.toInt := Int64.lt_iff_toInt_lt
  have h2 : x = y ↔ x.toInt = y.toInt := Int64.toInt_inj.symm
  have key : ((lg_cmp x y).toInt = 1 ∧ y.toInt < x.toInt) ∨ ((lg_cmp x y).toInt = 0 ∧ x.toInt = y.toInt) ∨ ((lg_cmp x y).toInt = -1 ∧ x.toInt < y.toInt) := by
    unfold lg_cmp
    by_cases q : x > y
    · rw [if_pos q]; exact Or.inl ⟨rfl, h1.mp q⟩
    · rw [if_neg q]
      by_cases q2 : x = y
      · rw [if_pos q2]; exact Or.inr (Or.inl ⟨rfl, h2.mp q2⟩)
      · rw [if_neg q2]
        refine Or.inr (Or.inr ⟨rfl, ?_⟩)
        have a : ¬ y.toInt < x.toInt := fun c => q (h1.mpr c)
        have b : ¬ x.toInt = y.toInt := fun c => q2 (h2.mpr c)
        omega
  have bo : ∀ {a b a' b' : Int}, (a = b ↔ a' = b') → (a < b ↔ a' < b') → dBr c a b = dBr c a' b' := by
    intro a b a' b' g1 g2
    have e1 : ceI a b = ceI a' b' := by rw [Bool.eq_iff_iff, ceI_i, ceI_i]; exact g1
    have e2 : cle (a + 1) b = cle (a' + 1) b' := by rw [Bool.eq_iff_iff, cle_i, cle_i]; omega
    have e3 : cle b a = cle b' a' := by rw [Bool.eq_iff_iff, cle_i, cle_i]; omega
    have e4 : cle (b + 1) a = cle (b' + 1) a' := by rw [Bool.eq_iff_iff, cle_i, cle_i]; omega
    have e5 : cle a b = cle a' b' := by rw [Bool.eq_iff_iff, cle_i, cle_i]; omega
    unfold dBr
    cases c <;> dsimp only <;> first | exact e1 | rw [e1] | exact e2 | exact e3 | exact e4 | exact e5
  rcases key with ⟨a, b⟩ | ⟨a, b⟩ | ⟨a, b⟩ <;> rw [a] <;> exact bo (by omega) (by omega)
end
section
-- ===== cells: loads and stores =====
theorem creg_s {σ : List Nat} {h : aH} {ρ : List Int} {rh : List Nat} {K : cK} (H : dH σ h) (k : dK σ h ρ rh K) {c r q : Nat} (e : creg K c = some r) (g : dR rh c q) : σ[q]? = some r := by
  unfold creg at e
  rcases g with ⟨g1, rfl⟩ | ⟨g1, g2⟩
  · rw [show Nat.blt q 146 = true by rw [Nat.blt_eq]; omega] at e
    simp only [cond_true, Option.some.injEq] at e
    subst e
    exact H.2.2.2 q g1
  · rw [show Nat.blt c 146 = false by rw [← Bool.not_eq_true, Nat.blt_eq]; omega, show Nat.blt c 1000 = false by rw [← Bool.not_eq_true, Nat.blt_eq]; omega] at e
    simp only [cond_false] at e
    obtain ⟨q', a, b⟩ := k.2.2.2.1.2 _ _ e
    rw [g2] at a
    cases a
    exact b
theorem creg_ex {σ : List Nat} {h : aH} {ρ : List Int} {rh : List Nat} {K : cK} (k : dK σ h ρ rh K) {c r : Nat} (e : creg K c = some r) : ∃ q, dR rh c q := by
  unfold creg at e
  cases h1 : Nat.blt c 146 with
  | true => exact ⟨c, Or.inl ⟨Nat.blt_eq.mp h1, rfl⟩⟩
  | false =>
    rw [h1] at e
    simp only [cond_false] at e
    cases h2 : Nat.blt c 1000 with
    | true => rw [h2] at e; cases e
    | false =>
      rw [h2] at e
      simp only [cond_false] at e
      have h2 : ¬ c < 1000 := fun q => by rw [← Nat.blt_eq, h2] at q; cases q
      obtain ⟨q', a, -⟩ := k.2.2.2.1.2 _ _ e
      exact ⟨q', Or.inr ⟨by omega, a⟩⟩
theorem cRg_s {K : cK} {c : Nat} {f : Nat → cRt → Option (List cEx)} {es : List cEx} (h : cRg K c f = some es) : ∃ r t, creg K c = some r ∧ cRT[r]? = some t ∧ f r t = some es := by
  unfold cRg at h
  split at h
  · rename_i r e
    split at h
    · rename_i t e2
      exact ⟨r, t, e, e2, h⟩
    · cases h
  · cases h
theorem dH_cell {σ : List Nat} {h : aH} (H : dH σ h) {q r : Nat} {t : cRt} (e : σ[q]? = some r) (ht : cRT[r]? = some t) : ∃ c, h.1[q]? = some c ∧ dC σ t c := by
  obtain ⟨t', c, a, b, d⟩ := H.2.1 q r e
  rw [ht] at a
  cases a
  exact ⟨c, b, d⟩
theorem dC_0 {σ : List Nat} {t : cRt} {c : aC} (h : dC σ t c) (e : t.1 = 0) : ∃ fs : List Value, c = .inr (t.2.1, fs) ∧ fs.length = t.2.2.2.2.2.length ∧ ∀ (i : Nat) (ty : Nat × Int × Int), t.2.2.2.2.2[i]? = some ty → ∃ v, fs[i]? = some v ∧ dT σ ty v := by
  unfold dC at h; rw [e] at h; exact h
theorem dC_1 {σ : List Nat} {t : cRt} {c : aC} (h : dC σ t c) (e : t.1 = 1) : ∃ g : Nat → Int32, c = .inl (t.2.1, t.2.2.1, .inl g) ∧ ∀ j, j < t.2.2.1 → t.2.2.2.1 ≤ (g j).toInt ∧ (g j).toInt ≤ t.2.2.2.2.1 := by
  unfold dC at h; rw [e] at h; exact h
theorem dC_2 {σ : List Nat} {t : cRt} {c : aC} (h : dC σ t c) (e : t.1 = 2) : ∃ g : Nat → Int64, c = .inl (1, t.2.2.1, .inr (.inl g)) ∧ ∀ j, j < t.2.2.1 → t.2.2.2.1 ≤ (g j).toInt ∧ (g j).toInt ≤ t.2.2.2.2.1 := by
  unfold dC at h; rw [e] at h; exact h
theorem dC_3 {σ : List Nat} {t : cRt} {c : aC} (h : dC σ t c) (e : t.1 = 3) : ∃ g : Nat → Option Nat, c = .inl (t.2.1, t.2.2.1, .inr (.inr (.inr (.inr g)))) ∧ ∀ (j q : Nat), g j = some q → σ[q]? = some t.2.2.2.1.toNat := by
  unfold dC at h; rw [e] at h; exact h
theorem cRT_at (r : Nat) (k : Nat) (h : (match cRT[r]? with
  | some t => Nat.beq t.1 k
  | none => false) = true) : ∃ t, cRT[r]? = some t ∧ t.1 = k := by
  split at h
  · rename_i t e; exact ⟨t, e, Nat.eq_of_beq_eq_true h⟩
  · cases h
theorem cRT_42 : ∃ t, cRT[42]? = some t ∧ t.1 = 3 := cRT_at 42 3 (by decide +kernel)
theorem cRT_65 : ∃ t, cRT[65]? = some t ∧ t.1 = 3 := cRT_at 65 3 (by decide +kernel)
theorem dJ_same {h h1 : aH} (h2 : dJ2 h) (h3 : dJ3 h) (e : ∀ k, k = 69 ∨ k = 70 ∨ k = 119 ∨ k = 120 ∨ k = 121 ∨ k = 122 ∨ k = 123 → h1.1[k]? = h.1[k]?) (f : ∀ fs : List Value, h.1[72]? = some (.inr (12, fs)) → ∃ fs' : List Value, h1.1[72]? = some (.inr (12, fs')) ∧ fs'[55]? = fs[55]?) : dJ2 h1 ∧ dJ3 h1 := by
  constructor
  · obtain ⟨gs, gh, a, b, c⟩ := h2
    exact ⟨gs, gh, by rw [e 69 (by omega)]; exact a, by rw [e 70 (by omega)]; exact b, c⟩
  · obtain ⟨ga, gw, gt, gl, gm, fs, x, a1, a2, a3, a4, a5, a6, a7, a8⟩ := h3
    obtain ⟨fs', b1, b2⟩ := f fs a6
    exact ⟨ga, gw, gt, gl, gm, fs', x, by rw [e 122 (by omega)]; exact a1, by rw [e 123 (by omega)]; exact a2, by rw [e 120 (by omega)]; exact a3, by rw [e 121 (by omega)]; exact a4, by rw [e 119 (by omega)]; exact a5, b1, by rw [b2]; exact a7, a8⟩
theorem cJs_arr {r b : Nat} (h : cJs r b = false) : ∀ k, k = 69 ∨ k = 70 ∨ k = 119 ∨ k = 120 ∨ k = 121 ∨ k = 122 ∨ k = 123 → r ≠ k := by
  intro k hk e
  subst e
  rcases hk with rfl | rfl | rfl | rfl | rfl | rfl | rfl <;> · simp [cJs] at h
theorem cJs_72 {b : Nat} (h : cJs 72 b = false) : b ≠ 55 := by
  intro e
  subst e
  simp [cJs] at h
theorem dNul_same {h h1 : aH} {q n : Nat} (e : h1.1[q]? = h.1[q]?) : dNul h1 q n = dNul h q n := by unfold dNul; rw [e]
theorem set_ne' {l : List aC} {o k : Nat} {c : aC} (h : o ≠ k) : (l.set o c)[k]? = l[k]? := by rw [List.getElem?_set, if_neg h]
theorem set_eq' {l : List aC} {o : Nat} {c c' : aC} (h : l[o]? = some c') : (l.set o c)[o]? = some c := by
  rw [List.getElem?_set, if_pos rfl, if_pos (List.getElem?_eq_some_iff.mp h).1]
theorem dH_set {σ : List Nat} {h : aH} (H : dH σ h) {o r : Nat} {t : cRt} {c : aC} {u : Nat} (e : σ[o]? = some r) (ht : cRT[r]? = some t) (hc : dC σ t c) : dH σ (h.1.set o c, u) := by
  refine ⟨by rw [List.length_set]; exact H.1, fun q r' e' => ?_, H.2.2.1, H.2.2.2⟩
  by_cases ho : o = q
  · subst ho
    rw [e] at e'
    cases e'
    obtain ⟨c0, d1, d2⟩ := dH_cell H e ht
    exact ⟨t, c, ht, set_eq' d1, hc⟩
  · obtain ⟨t', c', a, b, d⟩ := H.2.1 q r' e'
    exact ⟨t', c', a, (set_ne' ho).trans b, d⟩
theorem dG_set {W : List (Nat × Nat)} {σ : List Nat} {h : aH} (H : dH σ h) {o r : Nat} {t : cRt} {c c0 : aC} (e : σ[o]? = some r) (ht : cRT[r]? = some t) (h3 : t.1 ≠ 3) (hc0 : h.1[o]? = some c0) (hfr : dFr W r c0 c) : dG W σ h σ (h.1.set o c, h.2) := by
  refine ⟨fun _ _ g => g, fun q r' c1 e' f => ?_, ?_⟩
  · by_cases ho : o = q
    · subst ho
      rw [e] at e'; cases e'
      rw [hc0] at f; cases f
      exact ⟨c, set_eq' hc0, hfr⟩
    · exact ⟨c1, (set_ne' ho).trans f, dFr_refl _ _ _⟩
  · have ne : ∀ k, (∃ t', cRT[k]? = some t' ∧ t'.1 = 3) → k < 146 → o ≠ k := by
      rintro k ⟨t', h1, h2⟩ hk rfl
      rw [H.2.2.2 o hk] at e
      cases e
      rw [h1] at ht
      cases ht
      exact h3 h2
    have e1 : dNul (h.1.set o c, h.2) 42 10 = dNul h 42 10 := dNul_same (set_ne' (ne 42 cRT_42 (by decide)))
    have e2 : dNul (h.1.set o c, h.2) 65 150 = dNul h 65 150 := dNul_same (set_ne' (ne 65 cRT_65 (by decide)))
    unfold dPh
    rw [e1, e2, List.length_set]
    exact Nat.le_refl _
theorem dI_obj {W : List (Nat × Nat)} {σ : List Nat} {h : aH} (I : dI σ h) {o r b : Nat} {t : cRt} {fs : List Value} {ty : Nat × Int × Int} {v : Value} (e : σ[o]? = some r) (ht : cRT[r]? = some t) (h0 : t.1 = 0) (hc : h.1[o]? = some (.inr (t.2.1, fs))) (hty : t.2.2.2.2.2[b]? = some ty) (hv : dT σ ty v) (hJ : cJs r b = false) (hW : cWn W r b = true) :
    dI σ (h.1.set o (.inr (t.2.1, fs.set b v)), h.2) ∧ dG W σ h σ (h.1.set o (.inr (t.2.1, fs.set b v)), h.2) := by
  obtain ⟨c, d1, d2⟩ := dH_cell I.1 e ht
  rw [hc] at d1
  cases d1
  obtain ⟨fs', f1, f2, f3⟩ := dC_0 d2 h0
  cases f1
  have hb : b < fs.length := by rw [f2]; exact (List.getElem?_eq_some_iff.mp hty).1
  have hC : dC σ t (.inr (t.2.1, fs.set b v)) := by
    unfold dC
    rw [h0]
    refine ⟨_, rfl, by rw [List.length_set]; exact f2, fun i ty' e' => ?_⟩
    by_cases hi : b = i
    · subst hi
      rw [hty] at e'; cases e'
      exact ⟨v, by rw [List.getElem?_set, if_pos rfl, if_pos hb], hv⟩
    · obtain ⟨v', g1, g2⟩ := f3 i ty' e'
      exact ⟨v', by rw [List.getElem?_set, if_neg hi]; exact g1, g2⟩
  have ne : ∀ k, (∃ t', cRT[k]? = some t' ∧ t'.1 = 1) ∨ r ≠ k → k < 146 → o ≠ k := by
    rintro k (⟨t', h1, h2⟩ | hk') hk rfl
    · rw [I.1.2.2.2 o hk] at e
      cases e
      rw [h1] at ht; cases ht
      omega
    · rw [I.1.2.2.2 o hk] at e
      cases e
      exact hk' rfl
  refine ⟨⟨dH_set I.1 e ht hC, ?_⟩, dG_set I.1 e ht (by omega) hc ⟨(fun x q => by cases q), fun ci f0 q => ?_⟩⟩
  · refine dJ_same I.2.1 I.2.2 (fun k hk => set_ne' (ne k (Or.inr (cJs_arr hJ k hk)) (by omega))) (fun f h72 => ?_)
    by_cases ho : o = 72
    · subst ho
      rw [I.1.2.2.2 72 (by decide)] at e
      cases e
      rw [hc] at h72
      simp only [Option.some.injEq, Sum.inr.injEq, Prod.mk.injEq] at h72
      obtain ⟨h7, rfl⟩ := h72
      refine ⟨fs.set b v, by rw [← h7]; exact set_eq' hc, ?_⟩
      rw [List.getElem?_set, if_neg (cJs_72 hJ)]
    · exact ⟨f, (set_ne' ho).trans h72, rfl⟩
  · cases q
    refine ⟨_, rfl, fun i hi => ?_⟩
    rw [List.getElem?_set]
    split
    · rename_i q
      subst q
      rw [hW] at hi
      cases hi
    · rfl
theorem dI_arr {W : List (Nat × Nat)} {σ : List Nat} {h : aH} (I : dI σ h) {o r : Nat} {t : cRt} {c : aC} {x : Nat × vp_A} (e : σ[o]? = some r) (ht : cRT[r]? = some t) (h0 : t.1 = 1 ∨ t.1 = 2) (hc : h.1[o]? = some (.inl x)) (hC : dC σ t c) (hJ : cJs r 0 = false) (hW : cWn W r 0 = true) :
    dI σ (h.1.set o c, h.2) ∧ dG W σ h σ (h.1.set o c, h.2) := by
  have ne : ∀ k, r ≠ k → k < 146 → o ≠ k := by
    rintro k hk' hk rfl
    rw [I.1.2.2.2 o hk] at e
    cases e
    exact hk' rfl
  refine ⟨⟨dH_set I.1 e ht hC, ?_⟩, dG_set I.1 e ht (by omega) hc ⟨fun y q w => (by rw [hW] at w; cases w), fun ci f0 q => by cases q⟩⟩
  refine dJ_same I.2.1 I.2.2 (fun k hk => set_ne' (ne k (cJs_arr hJ k hk) (by omega))) (fun f h72 => ⟨f, (set_ne' ?_).trans h72, rfl⟩)
  rintro rfl
  rw [hc] at h72
  cases h72
theorem kA_filter {σ : List Nat} {h : aH} {ρ : List Int} {rh : List Nat} {K : cK} (H : dH σ h) (k : dK σ h ρ rh K) {o r : Nat} {c : aC} {u : Nat} (e : σ[o]? = some r) : kA (h.1.set o c, u) ρ rh (K.2.2.2.2.2.2.filter (fun t => !(match creg K t.1 with
    | some x => Nat.beq x r
    | none => true))) := by
  intro t ht
  obtain ⟨h1, h2⟩ := List.mem_filter.mp ht
  obtain ⟨q, ty, n, g, j, y, a, b, d⟩ := k.2.2.2.2.2.2 t h1
  refine ⟨q, ty, n, g, j, y, a, (set_ne' ?_).trans b, d⟩
  rintro rfl
  cases hx : creg K t.1 with
  | none => rw [hx] at h2; cases h2
  | some x =>
    rw [hx] at h2
    have := creg_s H k hx a
    rw [e] at this
    cases this
    simp at h2
theorem dK_arr {σ : List Nat} {h : aH} {ρ : List Int} {rh : List Nat} {K : cK} (H : dH σ h) (k : dK σ h ρ rh K) {o r : Nat} {c : aC} {x : Nat × vp_A} (e : σ[o]? = some r) (hc : h.1[o]? = some (.inl x)) {l : cAf} (hl : kA (h.1.set o c, h.2) ρ rh l) : dK σ (h.1.set o c, h.2) ρ rh (csA K r l) := by
  refine ⟨k.1, k.2.1, k.2.2.1, k.2.2.2.1, fun t ht => ?_, k.2.2.2.2.2.1, fun t ht => ?_⟩
  · obtain ⟨q, ci, fs, v, a, b, d⟩ := k.2.2.2.2.1 t ht
    refine ⟨q, ci, fs, v, a, (set_ne' ?_).trans b, d⟩
    rintro rfl
    rw [hc] at b
    cases b
  · rcases List.mem_append.mp ht with ht | ht
    · exact hl t ht
    · exact kA_filter H k e t ht
theorem dK_obj {σ : List Nat} {h : aH} {ρ : List Int} {rh : List Nat} {K : cK} (H : dH σ h) (k : dK σ h ρ rh K) {o r b ci : Nat} {c : Nat} {fs : List Value} {w : cW} {v : Value} (e : σ[o]? = some r) (hc : h.1[o]? = some (.inr (ci, fs))) (hb : b < fs.length) (hr : dR rh c o) (hw : dW ρ rh w v) : dK σ (h.1.set o (.inr (ci, fs.set b v)), h.2) ρ rh (csF K r b c w) := by
  refine ⟨k.1, k.2.1, k.2.2.1, k.2.2.2.1, fun t ht => ?_, k.2.2.2.2.2.1, fun t ht => ?_⟩
  · rcases List.mem_cons.mp ht with rfl | ht
    · exact ⟨o, ci, _, v, hr, set_eq' hc, by rw [List.getElem?_set, if_pos rfl, if_pos hb], hw⟩
    · obtain ⟨h1, h2⟩ := List.mem_filter.mp ht
      obtain ⟨q, ci', fs', v', a, b', d, f⟩ := k.2.2.2.2.1 t h1
      by_cases ho : o = q
      · subst ho
        rw [hc] at b'
        cases b'
        refine ⟨o, ci, _, v', a, set_eq' hc, ?_, f⟩
        rw [List.getElem?_set]
        split
        · rename_i hbt
          subst hbt
          rw [show Nat.beq t.2.1 t.2.1 = true from Nat.beq_refl _] at h2
          cases hx : creg K t.1 with
          | none => rw [hx] at h2; cases h2
          | some x =>
            rw [hx] at h2
            have := creg_s H k hx a
            rw [e] at this
            cases this
            simp at h2
        · exact d
      · exact ⟨q, ci', fs', v', a, (set_ne' ho).trans b', d, f⟩
  · obtain ⟨q, ty, n, g, j, y, a, b', d⟩ := k.2.2.2.2.2.2 t ht
    refine ⟨q, ty, n, g, j, y, a, (set_ne' ?_).trans b', d⟩
    rintro rfl
    rw [hc] at b'
    cases b'
theorem dK_obj0 {σ : List Nat} {h : aH} {ρ : List Int} {rh : List Nat} {K : cK} (k : dK σ h ρ rh K) {o b ci : Nat} {fs : List Value} {v : Value} (hc : h.1[o]? = some (.inr (ci, fs))) (hf : ∀ t ∈ K.2.2.2.2.1, ∀ q, dR rh t.1 q → t.2.1 = b → q ≠ o) : dK σ (h.1.set o (.inr (ci, fs.set b v)), h.2) ρ rh K := by
  refine ⟨k.1, k.2.1, k.2.2.1, k.2.2.2.1, fun t ht => ?_, k.2.2.2.2.2.1, fun t ht => ?_⟩
  · obtain ⟨q, ci', fs', v', a, b', d, f⟩ := k.2.2.2.2.1 t ht
    by_cases ho : o = q
    · subst ho
      rw [hc] at b'
      cases b'
      refine ⟨o, ci, _, v', a, set_eq' hc, ?_, f⟩
      rw [List.getElem?_set]
      split
      · rename_i hbt
        exact absurd rfl (hf t ht o a hbt.symm)
      · exact d
    · exact ⟨q, ci', fs', v', a, (set_ne' ho).trans b', d, f⟩
  · obtain ⟨q, ty, n, g, j, y, a, b', d⟩ := k.2.2.2.2.2.2 t ht
    refine ⟨q, ty, n, g, j, y, a, (set_ne' ?_).trans b', d⟩
    rintro rfl
    rw [hc] at b'
    cases b'
theorem cld_s {σ : List Nat} {h : aH} {ρ : List Int} {rh : List Nat} {K : cK} (H : dH σ h) (k : dK σ h ρ rh K) {c b q r : Nat} {t : cRt} {ty : Nat × Int × Int} {f : cK → cW → Option (List cEx)} {es : List cEx} (hc : cld K c b ty f = some es) (hr : dR rh c q) (e : creg K c = some r) (ht : cRT[r]? = some t) (h0 : t.1 = 0) (hty : t.2.2.2.2.2[b]? = some ty) :
    ∃ (K' : cK) (w : cW) (ρ' : List Int) (rh' : List Nat) (fs : List Value) (v : Value), f K' w = some es ∧ dK σ h ρ' rh' K' ∧ dX ρ ρ' ∧ dX rh rh' ∧ h.1[q]? = some (.inr (t.2.1, fs)) ∧ fs[b]? = some v ∧ dW ρ' rh' w v := by
  have hs := creg_s H k e hr
  obtain ⟨c0, d1, d2⟩ := dH_cell H hs ht
  obtain ⟨fs, f1, f2, f3⟩ := dC_0 d2 h0
  subst f1
  obtain ⟨v, v1, v2⟩ := f3 b ty hty
  unfold cld at hc
  split at hc
  · rename_i g hg
    have hm := List.mem_of_find?_eq_some hg
    have hp := List.find?_some hg
    simp only [Bool.and_eq_true] at hp
    obtain ⟨q', ci, fs', v', a, b', d, w⟩ := k.2.2.2.2.1 g hm
    rw [Nat.eq_of_beq_eq_true hp.1] at a
    have hq : q' = q := by
      rcases a with ⟨a1, rfl⟩ | ⟨a1, a2⟩ <;> rcases hr with ⟨b1, rfl⟩ | ⟨b1, b2⟩
      · rfl
      · omega
      · omega
      · rw [a2] at b2; cases b2; rfl
    subst hq
    rw [d1] at b'
    cases b'
    rw [Nat.eq_of_beq_eq_true hp.2, v1] at d
    cases d
    exact ⟨K, _, ρ, rh, _, _, hc, k, dX_refl _, dX_refl _, d1, v1, w⟩
  · split at hc
    · rename_i hk
      unfold dT at v2
      rw [hk] at v2
      obtain ⟨x, rfl, x1, x2⟩ := v2
      have k' := dK_new (z := x.toInt) k x1 x2
      have hw : dW (ρ ++ [x.toInt]) rh (1, K.1.length, 0) (.int x) := ⟨x, x.toInt, rfl, kV_last k.1 _, by show x.toInt = x.toInt + 0; omega⟩
      refine ⟨_, _, ρ ++ [x.toInt], rh, _, _, hc, ⟨k'.1, k'.2.1, k'.2.2.1, k'.2.2.2.1, fun u hu => ?_, k'.2.2.2.2.2⟩, dX_app _ _, dX_refl _, d1, v1, hw⟩
      rcases List.mem_cons.mp hu with rfl | hu
      · exact ⟨q, _, _, _, hr, d1, v1, hw⟩
      · exact k'.2.2.2.2.1 u hu
    · rename_i hk
      unfold dT at v2
      rw [hk] at v2
      obtain ⟨p, rfl, p1⟩ := v2
      cases hb : Nat.blt ty.2.1.toNat 146 with
      | true =>
        rw [hb] at hc
        have hb' := Nat.blt_eq.mp hb
        have := H.2.2.1 p _ p1 hb'
        subst this
        exact ⟨K, _, ρ, rh, _, _, hc, k, dX_refl _, dX_refl _, d1, v1, ⟨_, rfl, Or.inl ⟨hb', rfl⟩⟩⟩
      | false =>
        rw [hb] at hc
        have hw : dW ρ (rh ++ [p]) (3, 1000 + K.2.2.2.1.length, 0) (.ref p) := ⟨p, rfl, Or.inr ⟨by show 1000 ≤ 1000 + K.2.2.2.1.length; omega, by
          show (rh ++ [p])[1000 + K.2.2.2.1.length - 1000]? = some p
          rw [← k.2.2.2.1.1, show 1000 + rh.length - 1000 = rh.length by omega]
          simp⟩⟩
        refine ⟨_, _, ρ, rh ++ [p], _, _, hc, ⟨k.1, k.2.1, k.2.2.1, ⟨by simp [k.2.2.2.1.1], fun i r' e' => ?_⟩, fun u hu => ?_, k.2.2.2.2.2.1, kA_mono (dX_refl _) (dX_app _ _) k.2.2.2.2.2.2⟩, dX_refl _, dX_app _ _, d1, v1, hw⟩
        · dsimp only at e'
          rcases Nat.lt_or_ge i K.2.2.2.1.length with hi | hi
          · rw [List.getElem?_append_left hi] at e'
            obtain ⟨q', a, b'⟩ := k.2.2.2.1.2 i r' e'
            exact ⟨q', dX_app _ _ _ _ a, b'⟩
          · rw [List.getElem?_append_right hi] at e'
            have hz : i - K.2.2.2.1.length = 0 := by
              rcases Nat.eq_zero_or_pos (i - K.2.2.2.1.length) with g | g
              · exact g
              · rw [List.getElem?_eq_none (by simp; omega)] at e'; cases e'
            rw [hz] at e'
            simp only [List.getElem?_cons_zero, Option.some.injEq] at e'
            subst e'
            refine ⟨p, ?_, p1⟩
            rw [show i = rh.length by rw [k.2.2.2.1.1]; omega]
            simp
        · rcases List.mem_cons.mp hu with rfl | hu
          · exact ⟨q, _, _, _, dR_mono (dX_app _ _) hr, d1, v1, hw⟩
          · exact kF_mono (dX_refl _) (dX_app _ _) k.2.2.2.2.1 u hu
    · cases hc
theorem cix_s {σ : List Nat} {h : aH} {ρ : List Int} {rh : List Nat} {K : cK} (k : dK σ h ρ rh K) {p n : Nat} {o y : Int} {x : Int32} (e : ρ[p]? = some y) (hx : x.toInt = y + o) (g : cix K p o n = true) : ¬ (x < 0 ∨ n ≤ x.toNatClampNeg) ∧ x.toNatClampNeg = (y + o).toNat ∧ 0 ≤ y + o ∧ (y + o).toNat < n := by
  unfold cix at g
  rw [Bool.and_eq_true, cle_i, cle_i] at g
  have := cub_s k e
  have := clb_s k e
  have e1 : x.toNatClampNeg = (y + o).toNat := by rw [← Int32.toNat_toInt, hx]
  refine ⟨?_, e1, by omega, by omega⟩
  rintro (q | q)
  · rw [Int32.lt_iff_toInt_lt, i_zero] at q; omega
  · rw [e1] at q; omega
theorem cal_s {σ : List Nat} {h : aH} {ρ : List Int} {rh : List Nat} {K : cK} (I : dI σ h) (k : dK σ h ρ rh K) {c p q r ty n : Nat} {o j : Int} {t : cRt} {g : Nat → Int32} {f : cK → Nat → Int → Option (List cEx)} {es : List cEx} (hc : cal K c p o r t f = some es) (hr : dR rh c q) (e : creg K c = some r) (hg : h.1[q]? = some (.inl (ty, n, .inl g))) (hj : ρ[p]? = some j) (hj0 : 0 ≤ j + o) (hjn : (j + o).toNat < n)
    (hb : t.2.2.2.1 ≤ (g (j + o).toNat).toInt ∧ (g (j + o).toNat).toInt ≤ t.2.2.2.2.1) : dNm σ h ρ rh f es (g (j + o).toNat).toInt := by
  have same : ∀ {q' c'}, dR rh c' q' → c' = c → q' = q := by
    rintro q' c' a rfl
    rcases a with ⟨a1, rfl⟩ | ⟨a1, a2⟩ <;> rcases hr with ⟨b1, rfl⟩ | ⟨b1, b2⟩
    · rfl
    · omega
    · omega
    · rw [a2] at b2; cases b2; rfl
  unfold cal at hc
  split at hc
  · rename_i a ha
    have hm := List.mem_of_find?_eq_some ha
    have hp := List.find?_some ha
    simp only [Bool.and_eq_true, ceI_i] at hp
    obtain ⟨q', ty', n', g', j', y, a1, a2, a3, a4, a5, a6⟩ := k.2.2.2.2.2.2 a hm
    have := same a1 (Nat.eq_of_beq_eq_true hp.1.1)
    subst this
    rw [hg] at a2
    cases a2
    rw [Nat.eq_of_beq_eq_true hp.1.2, hj] at a3
    cases a3
    rw [hp.2] at a6
    exact ⟨K, _, _, ρ, y, hc, k, dX_refl _, a5, a6⟩
  · have hu : (g (j + o).toNat).toInt ≤ (bif Nat.beq r 70 && K.2.2.2.2.2.2.any (fun a => Nat.beq a.1 69 && Nat.beq a.2.1 p && ceI a.2.2.1 o && cle 0 (clb K a.2.2.2.1 + a.2.2.2.2) && cle (cub K a.2.2.2.1 + a.2.2.2.2) 4) then 60 else t.2.2.2.2.1) := by
      cases hs : (Nat.beq r 70 && K.2.2.2.2.2.2.any (fun a => Nat.beq a.1 69 && Nat.beq a.2.1 p && ceI a.2.2.1 o && cle 0 (clb K a.2.2.2.1 + a.2.2.2.2) && cle (cub K a.2.2.2.1 + a.2.2.2.2) 4)) with
      | false => exact hb.2
      | true =>
        simp only [cond_true]
        rw [Bool.and_eq_true] at hs
        have hr70 := Nat.eq_of_beq_eq_true hs.1
        subst hr70
        obtain ⟨a, hm, ha⟩ := List.any_eq_true.mp hs.2
        simp only [Bool.and_eq_true, ceI_i, cle_i] at ha
        obtain ⟨⟨⟨⟨b1, b2⟩, b3⟩, b4⟩, b5⟩ := ha
        obtain ⟨q', ty', n', g', j', y, a1, a2, a3, a4, a5, a6⟩ := k.2.2.2.2.2.2 a hm
        have q69 : q' = 69 := by
          rcases a1 with ⟨c1, rfl⟩ | ⟨c1, c2⟩
          · exact Nat.eq_of_beq_eq_true b1
          · have := Nat.eq_of_beq_eq_true b1; omega
        subst q69
        have q70 : q = 70 := I.1.2.2.1 q 70 (creg_s I.1 k e hr) (by decide)
        subst q70
        obtain ⟨gs, gh, s1, s2, s3⟩ := I.2.1
        rw [hg] at s2
        rw [a2] at s1
        cases s1
        cases s2
        rw [Nat.eq_of_beq_eq_true b2, hj] at a3
        cases a3
        rw [b3] at a6
        have u1 := cub_s k a5
        have l1 := clb_s k a5
        exact s3 _ hjn (by omega) (by omega)
    have k' := dK_new (z := (g (j + o).toNat).toInt) k hb.1 hu
    refine ⟨_, _, _, ρ ++ [(g (j + o).toNat).toInt], (g (j + o).toNat).toInt, hc, ⟨k'.1, k'.2.1, k'.2.2.1, k'.2.2.2.1, k'.2.2.2.2.1, k'.2.2.2.2.2.1, fun u hu => ?_⟩, dX_app _ _, kV_last k.1 _, by omega⟩
    rcases List.mem_cons.mp hu with rfl | hu
    · exact ⟨q, ty, n, g, j, _, hr, hg, dX_app _ _ _ _ hj, hj0, kV_last k.1 _, (Int.add_zero _).symm⟩
    · exact k'.2.2.2.2.2.2 u hu
end

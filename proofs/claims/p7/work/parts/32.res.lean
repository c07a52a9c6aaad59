-- ===== what a run of the checker says of a run of the machine =====
theorem dFr_refl (W : List (Nat × Nat)) (r : Nat) (c : aC) : dFr W r c c := ⟨fun _ _ _ => rfl, fun ci fs h => ⟨fs, h, fun _ _ => rfl⟩⟩
theorem dFr_trans {W : List (Nat × Nat)} {r : Nat} {a b c : aC} (h : dFr W r a b) (g : dFr W r b c) : dFr W r a c := by
  refine ⟨fun x e w => ?_, fun ci fs e => ?_⟩
  · have h1 := h.1 x e w
    subst h1
    exact g.1 x e w
  · obtain ⟨f1, e1, k1⟩ := h.2 ci fs e
    obtain ⟨f2, e2, k2⟩ := g.2 ci f1 e1
    exact ⟨f2, e2, fun i w => (k2 i w).trans (k1 i w)⟩
theorem dFr_W {W W' : List (Nat × Nat)} (hw : ∀ r i, cWn W' r i = false → cWn W r i = false) {r : Nat} {a b : aC} (h : dFr W r a b) : dFr W' r a b :=
  ⟨fun x e w => h.1 x e (hw _ _ w), fun ci fs e => by
    obtain ⟨f, e1, k⟩ := h.2 ci fs e
    exact ⟨f, e1, fun i w => k i (hw _ _ w)⟩⟩
theorem dG_refl (W : List (Nat × Nat)) (σ : List Nat) (h : aH) : dG W σ h σ h := ⟨fun _ _ e => e, fun _ r c _ e => ⟨c, e, dFr_refl W r c⟩, Nat.le_refl _⟩
theorem dG_trans {W : List (Nat × Nat)} {s0 s1 s2 : List Nat} {h0 h1 h2 : aH} (a : dG W s0 h0 s1 h1) (b : dG W s1 h1 s2 h2) : dG W s0 h0 s2 h2 := by
  refine ⟨fun q r e => b.1 q r (a.1 q r e), fun q r c e f => ?_, Nat.le_trans b.2.2 a.2.2⟩
  obtain ⟨c1, e1, f1⟩ := a.2.1 q r c e f
  obtain ⟨c2, e2, f2⟩ := b.2.1 q r c1 (a.1 q r e) e1
  exact ⟨c2, e2, dFr_trans f1 f2⟩
theorem dG_W {W W' : List (Nat × Nat)} (hw : ∀ r i, cWn W' r i = false → cWn W r i = false) {s0 s1 : List Nat} {h0 h1 : aH} (a : dG W s0 h0 s1 h1) : dG W' s0 h0 s1 h1 :=
  ⟨a.1, fun q r c e f => by
    obtain ⟨c1, e1, f1⟩ := a.2.1 q r c e f
    exact ⟨c1, e1, dFr_W hw f1⟩, a.2.2⟩
theorem cWn_sub {W W' : List (Nat × Nat)} (h : W.all (fun w => cWn W' w.1 w.2) = true) (r i : Nat) (g : cWn W' r i = false) : cWn W r i = false := by
  cases e : cWn W r i with
  | false => rfl
  | true =>
    unfold cWn at e
    obtain ⟨t, ht, e⟩ := List.any_eq_true.mp e
    rw [Bool.and_eq_true] at e
    have h1 := List.all_eq_true.mp h t ht
    rw [Nat.eq_of_beq_eq_true e.1, Nat.eq_of_beq_eq_true e.2, g] at h1
    cases h1
def dRes (X : aX) (Q : cQ) (zs : Int) (lv : Nat) (top : Bool) (M : aM) (pc : Nat) (l : aL) (sv : List Value) (h : aH) (σ : List Nat) (ρ : List Int) (rh : List Nat) (es : List cEx) : Prop :=
  (∃ (N : Nat) (e : cEx) (v : Option Value) (h' : aH) (σ' : List Nat) (ρ' : List Int) (rh' : List Nat), e ∈ es ∧ (∀ n d, arun X (n + N) (d + lv) M pc l sv h = some (v, h')) ∧ dI σ' h' ∧ dG Q.2.2.2.1 σ h σ' h' ∧ dK σ' h' ρ' rh' e.2 ∧ dS ρ' rh' e.1 v.toList ∧ dX ρ ρ' ∧ dX rh rh') ∨
  (top = true ∧ ∃ (N E : Nat) (c : Nat × cT × cRk) (l' : aL) (sv' : List Value) (h' : aH) (σ' : List Nat) (ρ' : List Int) (rh' : List Nat), c ∈ Q.2.2.2.2.1 ∧ (∀ n d, arun X (n + E + N) (d + lv) M pc l sv h = arun X (n + E) (d + lv) M c.1 l' sv' h') ∧ dI σ' h' ∧ dG Q.2.2.2.1 σ h σ' h' ∧ dK σ' h' ρ' rh' c.2.1.2.2 ∧ dL ρ' rh' c.2.1.1 l' ∧ dS ρ' rh' c.2.1.2.1 sv' ∧ (Q.2.2.2.2.2 ≠ none → ∃ w, dRv ρ' c.2.2.2 (w - c.2.2.1) ∧ w < zs))
theorem dRes_step {X : aX} {Q : cQ} {zs : Int} {lv : Nat} {top : Bool} {M : aM} {pc pc' : Nat} {l l' : aL} {sv sv' : List Value} {h h1 : aH} {σ σ1 : List Nat} {ρ ρ1 : List Int} {rh rh1 : List Nat} {es es1 : List cEx} (m e : Nat)
    (hs : ∀ n d, arun X (n + e + m) (d + lv) M pc l sv h = arun X (n + e) (d + lv) M pc' l' sv' h1) (hG : dG Q.2.2.2.1 σ h σ1 h1) (hx : dX ρ ρ1) (hr : dX rh rh1) (hsub : dSub es1 es) (R : dRes X Q zs lv top M pc' l' sv' h1 σ1 ρ1 rh1 es1) : dRes X Q zs lv top M pc l sv h σ ρ rh es := by
  rcases R with ⟨N, e1, v, h', σ', ρ', rh', a1, a2, a3, a4, a5, a6, a7, a8⟩ | ⟨ht, N, E, c, l2, sv2, h', σ', ρ', rh', a1, a2, a3, a4, a5, a6, a7, a8⟩
  · refine Or.inl ⟨N + e + m, e1, v, h', σ', ρ', rh', hsub _ a1, fun n d => ?_, a3, dG_trans hG a4, a5, a6, dX_trans hx a7, dX_trans hr a8⟩
    rw [show n + (N + e + m) = (n + N) + e + m by omega, hs, show n + N + e = n + e + N by omega]
    exact a2 (n + e) d
  · refine Or.inr ⟨ht, N + m, E + e, c, l2, sv2, h', σ', ρ', rh', a1, fun n d => ?_, a3, dG_trans hG a4, a5, a6, a7, a8⟩
    rw [show n + (E + e) + (N + m) = (n + E + N) + e + m by omega, hs, show n + E + N + e = (n + e) + E + N by omega, a2 (n + e) d, show n + e + E = n + (E + e) by omega]
theorem dRes_sub {X : aX} {Q : cQ} {zs : Int} {lv : Nat} {top : Bool} {M : aM} {pc : Nat} {l : aL} {sv : List Value} {h : aH} {σ : List Nat} {ρ : List Int} {rh : List Nat} {es es1 : List cEx} (hsub : dSub es1 es) (R : dRes X Q zs lv top M pc l sv h σ ρ rh es1) : dRes X Q zs lv top M pc l sv h σ ρ rh es :=
  dRes_step 0 0 (fun _ _ => rfl) (dG_refl _ _ _) (dX_refl _) (dX_refl _) hsub R
def dRk (Q : cQ) (zs : Int) (ρ : List Int) : Prop := ∀ s, Q.2.2.2.2.2 = some s → dRv ρ s.2 (zs - s.1)
def dSnd (X : aX) (Q : cQ) (zs : Int) (lv : Nat) (top : Bool) (M : aM) (k : Nat → List cW → List cW → cK → Option (List cEx)) : Prop :=
  ∀ pc L st K es, k pc L st K = some es → ∀ l sv h σ ρ rh, dI σ h → dK σ h ρ rh K → dL ρ rh L l → dS ρ rh st sv → dRk Q zs ρ → dRes X Q zs lv top M pc l sv h σ ρ rh es
theorem dRk_mono {Q : cQ} {zs : Int} {ρ ρ' : List Int} (hx : dX ρ ρ') (h : dRk Q zs ρ) : dRk Q zs ρ' := fun s e => dRv_mono hx (h s e)
/-- a step to pc', the heap as it was -/
theorem dgo {X : aX} {Q : cQ} {zs : Int} {lv : Nat} {top : Bool} {M : aM} {k : Nat → List cW → List cW → cK → Option (List cEx)} (hk : dSnd X Q zs lv top M k) {pc pc' : Nat} {L' st' : List cW} {K' : cK} {l l' : aL} {sv sv' : List Value} {h : aH} {σ : List Nat} {ρ ρ' : List Int} {rh rh' : List Nat} {es es1 : List cEx}
    (he : k pc' L' st' K' = some es1) (hs : ∀ n d, arun X (n + 1) (d + lv) M pc l sv h = arun X n (d + lv) M pc' l' sv' h) (hI : dI σ h) (hK : dK σ h ρ' rh' K') (hx : dX ρ ρ') (hr : dX rh rh') (hL : dL ρ' rh' L' l') (hS : dS ρ' rh' st' sv') (hrk : dRk Q zs ρ) (hsub : dSub es1 es) : dRes X Q zs lv top M pc l sv h σ ρ rh es :=
  dRes_step 1 0 hs (dG_refl _ _ _) hx hr hsub (hk _ _ _ _ _ he _ _ _ _ _ _ hI hK hL hS (dRk_mono hx hrk))
theorem dS_cons {ρ : List Int} {rh : List Nat} {w : cW} {r : List cW} {sv : List Value} (h : dS ρ rh (w :: r) sv) : ∃ v s, sv = v :: s ∧ dW ρ rh w v ∧ dS ρ rh r s := by
  cases sv with
  | nil => exact h.elim
  | cons v s => exact ⟨v, s, rfl, h.1, h.2⟩
theorem dS_nil {ρ : List Int} {rh : List Nat} {sv : List Value} (h : dS ρ rh [] sv) : sv = [] := by
  cases sv with
  | nil => rfl
  | cons v s => exact h.elim
theorem cpI_s {st : List cW} {f : Nat → Int → List cW → Option (List cEx)} {es : List cEx} (h : cpI st f = some es) {ρ : List Int} {rh : List Nat} {sv : List Value} (hS : dS ρ rh st sv) :
    ∃ p o r, ∃ (x : Int32) (y : Int) (s : List Value), st = (1, p, o) :: r ∧ f p o r = some es ∧ sv = .int x :: s ∧ ρ[p]? = some y ∧ x.toInt = y + o ∧ dS ρ rh r s := by
  unfold cpI at h
  split at h
  · obtain ⟨v, s, rfl, ⟨x, y, rfl, h1, h2⟩, h3⟩ := dS_cons hS
    exact ⟨_, _, _, x, y, s, rfl, h, rfl, h1, h2, h3⟩
  · cases h
theorem cpII_s {st : List cW} {f : Nat → Int → Nat → Int → List cW → Option (List cEx)} {es : List cEx} (h : cpII st f = some es) {ρ : List Int} {rh : List Nat} {sv : List Value} (hS : dS ρ rh st sv) :
    ∃ p o q s r, ∃ (x x' : Int32) (y y' : Int) (t : List Value), st = (1, q, s) :: (1, p, o) :: r ∧ f p o q s r = some es ∧ sv = .int x' :: .int x :: t ∧ ρ[p]? = some y ∧ x.toInt = y + o ∧ ρ[q]? = some y' ∧ x'.toInt = y' + s ∧ dS ρ rh r t := by
  unfold cpII at h
  split at h
  · obtain ⟨v, s, rfl, ⟨x', y', rfl, h1, h2⟩, h3⟩ := dS_cons hS
    obtain ⟨v, s, rfl, ⟨x, y, rfl, h4, h5⟩, h6⟩ := dS_cons h3
    exact ⟨_, _, _, _, _, x, x', y, y', s, rfl, h, rfl, h4, h5, h1, h2, h6⟩
  · cases h
theorem cpJ_s {st : List cW} {f : Nat → Int → List cW → Option (List cEx)} {es : List cEx} (h : cpJ st f = some es) {ρ : List Int} {rh : List Nat} {sv : List Value} (hS : dS ρ rh st sv) :
    ∃ p o r, ∃ (x : Int64) (y : Int) (s : List Value), st = (2, p, o) :: r ∧ f p o r = some es ∧ sv = .long x :: s ∧ ρ[p]? = some y ∧ x.toInt = y + o ∧ dS ρ rh r s := by
  unfold cpJ at h
  split at h
  · obtain ⟨v, s, rfl, ⟨x, y, rfl, h1, h2⟩, h3⟩ := dS_cons hS
    exact ⟨_, _, _, x, y, s, rfl, h, rfl, h1, h2, h3⟩
  · cases h
theorem cpJJ_s {st : List cW} {f : Nat → Int → Nat → Int → List cW → Option (List cEx)} {es : List cEx} (h : cpJJ st f = some es) {ρ : List Int} {rh : List Nat} {sv : List Value} (hS : dS ρ rh st sv) :
    ∃ p o q s r, ∃ (x x' : Int64) (y y' : Int) (t : List Value), st = (2, q, s) :: (2, p, o) :: r ∧ f p o q s r = some es ∧ sv = .long x' :: .long x :: t ∧ ρ[p]? = some y ∧ x.toInt = y + o ∧ ρ[q]? = some y' ∧ x'.toInt = y' + s ∧ dS ρ rh r t := by
  unfold cpJJ at h
  split at h
  · obtain ⟨v, s, rfl, ⟨x', y', rfl, h1, h2⟩, h3⟩ := dS_cons hS
    obtain ⟨v, s, rfl, ⟨x, y, rfl, h4, h5⟩, h6⟩ := dS_cons h3
    exact ⟨_, _, _, _, _, x, x', y, y', s, rfl, h, rfl, h4, h5, h1, h2, h6⟩
  · cases h
theorem cit_s {b : Bool} {x : Option (List cEx)} {es : List cEx} (h : cit b x = some es) : b = true ∧ x = some es := by
  unfold cit at h
  cases b with
  | true => exact ⟨rfl, h⟩
  | false => cases h
theorem cfr_s {K : cK} {q : Int × Int} {f : cK → Nat → Option (List cEx)} {es : List cEx} (h : cfr K q f = some es) {σ : List Nat} {hh : aH} {ρ : List Int} {rh : List Nat} (k : dK σ hh ρ rh K) {v : Int} (h1 : q.1 ≤ v) (h2 : v ≤ q.2) :
    ∃ K', f K' K.1.length = some es ∧ dK σ hh (ρ ++ [v]) rh K' ∧ (ρ ++ [v])[K.1.length]? = some v :=
  ⟨_, h, dK_new k h1 h2, kV_last k.1 v⟩
theorem clo_s {σ : List Nat} {h : aH} {ρ : List Int} {rh : List Nat} {K : cK} (k : dK σ h ρ rh K) {p : Nat} {o y : Int} (e : ρ[p]? = some y) : clo K p o ≤ y + o ∧ y + o ≤ chi K p o := by
  have := cub_s k e
  have := clb_s k e
  unfold clo chi
  omega
-- locals
theorem aG_get {l : aL} {i : Nat} {v : Value} : aG l i = some v ↔ l[i]? = some (some v) := by
  unfold aG
  constructor
  · intro h
    split at h
    · rename_i v' e; cases h; exact e
    · cases h
  · intro h; rw [h]
theorem dL_get {ρ : List Int} {rh : List Nat} {L : List cW} {l : aL} (h : dL ρ rh L l) {z g : Nat} (hg : (cG L z).1 = g) (g0 : g ≠ 0) : ∃ v, aG l z = some v ∧ dW ρ rh (cG L z) v := by
  unfold cG at hg ⊢
  cases e : L[z]? with
  | none => rw [e] at hg; exact absurd hg.symm g0
  | some w =>
    rw [e] at hg
    rcases h.2 z w e with q | q
    · exact absurd (hg.symm.trans q) g0
    · exact q
theorem dL_none {ρ : List Int} {rh : List Nat} {L : List cW} {l : aL} (h : dL ρ rh L l) (i : Nat) (x : Option Value) : dL ρ rh (L.set i (0, 0, 0)) (l.set i x) := by
  refine ⟨by rw [List.length_set, List.length_set]; exact h.1, fun j w e => ?_⟩
  rw [List.getElem?_set] at e
  split at e
  · split at e
    · cases e; exact Or.inl rfl
    · cases e
  · rename_i hn
    rcases h.2 j w e with q | ⟨v, q1, q2⟩
    · exact Or.inl q
    · refine Or.inr ⟨v, ?_, q2⟩
      rw [aG_get] at q1 ⊢
      rw [List.getElem?_set, if_neg hn]
      exact q1
theorem dL_unk {ρ : List Int} {rh : List Nat} {L : List cW} {l : aL} (h : dL ρ rh L l) (i : Nat) : dL ρ rh (L.set i (0, 0, 0)) l := by
  refine ⟨by rw [List.length_set]; exact h.1, fun j w e => ?_⟩
  rw [List.getElem?_set] at e
  split at e
  · split at e
    · cases e; exact Or.inl rfl
    · cases e
  · exact h.2 j w e
theorem dL_set {ρ : List Int} {rh : List Nat} {L : List cW} {l : aL} (h : dL ρ rh L l) (i : Nat) {w : cW} {v : Value} (hw : dW ρ rh w v) : dL ρ rh (L.set i w) (l.set i (some v)) := by
  refine ⟨by rw [List.length_set, List.length_set]; exact h.1, fun j w' e => ?_⟩
  rw [List.getElem?_set] at e
  split at e
  · rename_i hi
    subst hi
    split at e
    · rename_i hl
      cases e
      refine Or.inr ⟨v, ?_, hw⟩
      rw [aG_get, List.getElem?_set, if_pos rfl, if_pos (by rw [h.1]; exact hl)]
    · cases e
  · rename_i hn
    rcases h.2 j w' e with q | ⟨v', q1, q2⟩
    · exact Or.inl q
    · refine Or.inr ⟨v', ?_, q2⟩
      rw [aG_get] at q1 ⊢
      rw [List.getElem?_set, if_neg hn]
      exact q1
theorem dL_clr {ρ : List Int} {rh : List Nat} {L : List cW} {l : aL} (h : dL ρ rh L l) (i : Nat) : dL ρ rh (cclr L i) (aclr l i) := by
  cases i with
  | zero => exact h
  | succ j =>
    unfold cclr aclr
    dsimp only
    cases e : Nat.beq (cG L j).1 2 with
    | true =>
      simp only [cond_true]
      split
      · exact dL_none h _ _
      · exact dL_none h _ _
      · exact dL_unk h _
    | false =>
      simp only [cond_false]
      have hn : (cG L j).1 ≠ 2 := fun c => by rw [c] at e; cases e
      have key : ∀ x : Value, l[j]? = some (some x) → (∀ p, dW ρ rh p x → p.1 = 2 ∨ False) → dL ρ rh L (l.set j none) := by
        intro x hx hp
        refine ⟨by rw [List.length_set]; exact h.1, fun i w e => ?_⟩
        rcases h.2 i w e with q | ⟨v, q1, q2⟩
        · exact Or.inl q
        · by_cases hij : j = i
          · subst hij
            rw [aG_get, hx] at q1
            cases q1
            have hc : cG L j = w := by unfold cG; rw [e]
            rcases hp w q2 with c | c
            · exact absurd (hc ▸ c) hn
            · exact c.elim
          · refine Or.inr ⟨v, ?_, q2⟩
            rw [aG_get] at q1 ⊢
            rw [List.getElem?_set, if_neg hij]
            exact q1
      have two : ∀ (p : cW) (x : Int64), dW ρ rh p (.long x) → p.1 = 2 ∨ False := by
        intro p x hp
        unfold dW at hp
        split at hp
        · obtain ⟨_, _, c, _⟩ := hp; cases c
        · rename_i c; exact Or.inl c
        · obtain ⟨_, c, _⟩ := hp; cases c
        · cases hp
        · cases hp
        · rcases hp with c | ⟨_, c, _⟩ <;> cases c
        · cases hp
        · exact hp.elim
      split
      · rename_i x hx
        exact key _ hx (fun p hp => two p x hp)
      · rename_i x hx
        refine key _ hx (fun p hp => ?_)
        unfold dW at hp
        split at hp
        · obtain ⟨_, _, c, _⟩ := hp; cases c
        · obtain ⟨_, _, c, _⟩ := hp; cases c
        · obtain ⟨_, c, _⟩ := hp; cases c
        · cases hp
        · cases hp
        · rcases hp with c | ⟨_, c, _⟩ <;> cases c
        · cases hp
        · exact hp.elim
      · exact h
theorem dL_S1 {ρ : List Int} {rh : List Nat} {L : List cW} {l : aL} (h : dL ρ rh L l) (i : Nat) {w : cW} {v : Value} (hw : dW ρ rh w v) : dL ρ rh (cS1 L i w) (aS1 l i v) := dL_set (dL_clr h i) i hw
theorem dL_S2 {ρ : List Int} {rh : List Nat} {L : List cW} {l : aL} (h : dL ρ rh L l) (i : Nat) {w : cW} {v : Value} (hw : dW ρ rh w v) : dL ρ rh (cS2 L i w) (aS2 l i v) := dL_none (dL_set (dL_clr h i) i hw) _ _
theorem dL_blt {ρ : List Int} {rh : List Nat} {L : List cW} {l : aL} (h : dL ρ rh L l) {z : Nat} (e : Nat.blt z L.length = true) : Nat.blt z l.length = true := by rw [h.1]; exact e

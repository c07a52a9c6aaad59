-- ===== calls, cuts, runs =====
theorem csv_s {ρ ρP : List Int} {V V' : cV} (h : kV ρ V) (hP : kV ρP V') {p : Nat} {y : Int} (e : ρP[p]? = some y) : (ρ ++ ρP.tail)[csv V.length p]? = some y := by
  unfold csv
  cases hp : Nat.beq p 0 with
  | true =>
    have := Nat.eq_of_beq_eq_true hp
    subst this
    rw [hP.2.1] at e
    cases e
    exact dX_app _ _ _ _ h.2.1
  | false =>
    have hp0 : p ≠ 0 := fun c => by rw [c] at hp; cases hp
    simp only [cond_false]
    rw [List.getElem?_append_right (by rw [h.1]; omega), h.1, show V.length + p - 1 - V.length = p - 1 by omega, List.getElem?_tail, show p - 1 + 1 = p by omega]
    exact e
theorem csc_s {rh rhP : List Nat} {n c q : Nat} (hn : rh.length = n) (h : dR rhP c q) : dR (rh ++ rhP) (csc n c) q := by
  unfold csc
  rcases h with ⟨h1, h2⟩ | ⟨h1, h2⟩
  · rw [show Nat.blt c 1000 = true by rw [Nat.blt_eq]; omega]
    exact Or.inl ⟨h1, h2⟩
  · rw [show Nat.blt c 1000 = false by rw [← Bool.not_eq_true, Nat.blt_eq]; omega]
    refine Or.inr ⟨by simp only [cond_false]; omega, ?_⟩
    simp only [cond_false]
    rw [List.getElem?_append_right (by omega), hn, show c + n - 1000 - n = c - 1000 by omega]
    exact h2
theorem csw_s {ρ ρP : List Int} {V V' : cV} {rh rhP : List Nat} {n : Nat} (h : kV ρ V) (hP : kV ρP V') (hn : rh.length = n) {w : cW} {v : Value} (hw : dW ρP rhP w v) : dW (ρ ++ ρP.tail) (rh ++ rhP) (csw V.length n w) v := by
  unfold dW at hw
  unfold csw
  split at hw
  · rename_i e; rw [e]; obtain ⟨x, y, rfl, a, b⟩ := hw; exact ⟨x, y, rfl, csv_s h hP a, b⟩
  · rename_i e; rw [e]; obtain ⟨x, y, rfl, a, b⟩ := hw; exact ⟨x, y, rfl, csv_s h hP a, b⟩
  · rename_i e; rw [e]; obtain ⟨q, rfl, a⟩ := hw; exact ⟨q, rfl, csc_s hn a⟩
  · rename_i e; rw [e]; show dW (ρ ++ ρP.tail) (rh ++ rhP) w v; unfold dW; rw [e]; exact hw
  · rename_i e; rw [e]; show dW (ρ ++ ρP.tail) (rh ++ rhP) w v; unfold dW; rw [e]; exact hw
  · rename_i e; rw [e]
    rcases hw with rfl | ⟨q, rfl, a⟩
    · exact Or.inl rfl
    · exact Or.inr ⟨q, rfl, csc_s hn a⟩
  · rename_i e; rw [e]; show dW (ρ ++ ρP.tail) (rh ++ rhP) w v; unfold dW; rw [e]; exact hw
  · exact hw.elim
theorem csS_s {ρ ρP : List Int} {V V' : cV} {rh rhP : List Nat} {n : Nat} (h : kV ρ V) (hP : kV ρP V') (hn : rh.length = n) : ∀ {ws : List cW} {vs : List Value}, dS ρP rhP ws vs → dS (ρ ++ ρP.tail) (rh ++ rhP) (ws.map (csw V.length n)) vs
  | [], [], _ => trivial
  | _ :: _, _ :: _, g => ⟨csw_s h hP hn g.1, csS_s h hP hn g.2⟩
  | [], _ :: _, g => g.elim
  | _ :: _, [], g => g.elim
theorem caft_s {σ σ' : List Nat} {h h' : aH} {ρ ρP : List Int} {rh rhP : List Nat} {K P : cK} {W : List (Nat × Nat)} (H : dH σ h) (k : dK σ h ρ rh K) (G : dG W σ h σ' h') (kP : dK σ' h' ρP rhP P) : dK σ' h' (ρ ++ ρP.tail) (rh ++ rhP) (caft K P W) := by
  have hn := k.2.2.2.1.1
  have sv : ∀ {p : Nat} {y : Int}, ρP[p]? = some y → (ρ ++ ρP.tail)[csv K.1.length p]? = some y := fun e => csv_s k.1 kP.1 e
  have cki_d : ∀ {c f : Nat}, cki K W c f = true → ∃ r, creg K c = some r ∧ cWn W r f = false := by
    intro c f e
    unfold cki at e
    split at e
    · rename_i r er
      refine ⟨r, er, ?_⟩
      cases q : cWn W r f with
      | false => rfl
      | true => rw [q] at e; cases e
    · cases e
  refine ⟨⟨?_, dX_app _ _ _ _ k.1.2.1, fun p y q e1 e2 => ?_⟩, fun t ht => ?_, fun t ht => ?_, ⟨?_, fun i r e => ?_⟩, fun t ht => ?_, kE_mono (dX_app _ _) k.2.2.2.2.2.1, fun t ht => ?_⟩
  · show (ρ ++ ρP.tail).length = (K.1 ++ P.1.tail).length
    rw [List.length_append, List.length_append, List.length_tail, List.length_tail, k.1.1, kP.1.1]
  · have e2 : (K.1 ++ P.1.tail)[p]? = some q := e2
    rcases Nat.lt_or_ge p ρ.length with hp | hp
    · rw [List.getElem?_append_left hp] at e1
      rw [List.getElem?_append_left (by rw [← k.1.1]; exact hp)] at e2
      exact k.1.2.2 p y q e1 e2
    · rw [List.getElem?_append_right hp, List.getElem?_tail] at e1
      rw [List.getElem?_append_right (by rw [← k.1.1]; exact hp), List.getElem?_tail, ← k.1.1] at e2
      exact kP.1.2.2 _ y q e1 e2
  · rcases List.mem_append.mp ht with ht | ht
    · obtain ⟨u, hu, rfl⟩ := List.mem_map.mp ht
      obtain ⟨y, z, a, b, c⟩ := kP.2.1 u hu
      exact ⟨y, z, sv a, sv b, c⟩
    · exact kD_mono (dX_app _ _) k.2.1 t ht
  · rcases List.mem_append.mp ht with ht | ht
    · obtain ⟨u, hu, rfl⟩ := List.mem_map.mp ht
      obtain ⟨y, a, b⟩ := kP.2.2.1 u hu
      exact ⟨y, sv a, b⟩
    · exact kN_mono (dX_app _ _) k.2.2.1 t ht
  · show (rh ++ rhP).length = (K.2.2.2.1 ++ P.2.2.2.1).length
    rw [List.length_append, List.length_append, k.2.2.2.1.1, kP.2.2.2.1.1]
  · have e : (K.2.2.2.1 ++ P.2.2.2.1)[i]? = some r := e
    rcases Nat.lt_or_ge i rh.length with hp | hp
    · rw [List.getElem?_append_left (by rw [← hn]; exact hp)] at e
      obtain ⟨q, a, b⟩ := k.2.2.2.1.2 i r e
      exact ⟨q, dX_app _ _ _ _ a, G.1 _ _ b⟩
    · rw [List.getElem?_append_right (by rw [← hn]; exact hp), ← hn] at e
      obtain ⟨q, a, b⟩ := kP.2.2.2.1.2 _ r e
      exact ⟨q, by rw [List.getElem?_append_right hp]; exact a, b⟩
  · rcases List.mem_append.mp ht with ht | ht
    · obtain ⟨u, hu, rfl⟩ := List.mem_map.mp ht
      obtain ⟨q, ci, fs, v, a, b, c, d⟩ := kP.2.2.2.2.1 u hu
      exact ⟨q, ci, fs, v, csc_s hn a, b, c, csw_s k.1 kP.1 hn d⟩
    · obtain ⟨h1, h2⟩ := List.mem_filter.mp ht
      obtain ⟨r, er, hw⟩ := cki_d h2
      obtain ⟨q, ci, fs, v, a, b, c, d⟩ := k.2.2.2.2.1 t h1
      obtain ⟨c', g1, g2⟩ := G.2.1 q r _ (creg_s H k er a) b
      obtain ⟨fs', rfl, g3⟩ := g2.2 ci fs rfl
      exact ⟨q, ci, fs', v, dR_mono (dX_app _ _) a, g1, by rw [g3 _ hw]; exact c, dW_mono (dX_app _ _) (dX_app _ _) d⟩
  · obtain ⟨h1, h2⟩ := List.mem_filter.mp ht
    obtain ⟨r, er, hw⟩ := cki_d h2
    obtain ⟨q, ty, n, g, j, y, a, b, c, d, e, f⟩ := k.2.2.2.2.2.2 t h1
    obtain ⟨c', g1, g2⟩ := G.2.1 q r _ (creg_s H k er a) b
    have g3 := g2.1 _ rfl hw
    subst g3
    exact ⟨q, ty, n, g, j, y, dR_mono (dX_app _ _) a, g1, dX_app _ _ _ _ c, d, dX_app _ _ _ _ e, f⟩
-- what a contract says
def dPost (P : cT) (σ : List Nat) (h : aH) (v : Option Value) : Prop := ∃ (ρ : List Int) (rh : List Nat), dK σ h ρ rh P.2.2 ∧ dS ρ rh P.2.1 v.toList
def dEnd (X : aX) (C : cC) (M : aM) (pc : Nat) (l : aL) (sv : List Value) (σ : List Nat) (h : aH) : Prop :=
  ∃ (N : Nat) (v : Option Value) (h' : aH) (σ' : List Nat), (∀ n d, arun X (n + N) (d + C.2.1) M pc l sv h = some (v, h')) ∧ dI σ' h' ∧ dG C.2.2.1 σ h σ' h' ∧ ∃ P, P ∈ C.2.2.2.2.1 ∧ dPost P σ' h' v
def dGood (X : aX) (C : cC) : Prop := ∀ M, zmt[C.1]? = some M → ∀ l h σ ρ rh, dI σ h → dK σ h ρ rh C.2.2.2.1.2.2 → dL ρ rh C.2.2.2.1.1 l → dEnd X C M 0 l [] σ h
-- sums of terms
def evL (ρ : List Int) : List (Int × Nat) → Int
  | [] => 0
  | t :: r => t.1 * (ρ[t.2]?).getD 0 + evL ρ r
theorem evL_cons (ρ : List Int) (t : Int × Nat) (r : List (Int × Nat)) : evL ρ (t :: r) = t.1 * (ρ[t.2]?).getD 0 + evL ρ r := rfl
theorem evL_rv {ρ : List Int} : ∀ {l : List (Int × Nat)} {z : Int}, dRv ρ l z → evL ρ l = z
  | [], _, h => h.symm
  | t :: r, z, ⟨y, w, a, b, c⟩ => by
    rw [evL_cons, a, evL_rv b, c]
    rfl
theorem evL_of {ρ : List Int} : ∀ {l : List (Int × Nat)}, (∀ t, t ∈ l → ∃ y, ρ[t.2]? = some y) → dRv ρ l (evL ρ l)
  | [], _ => rfl
  | t :: r, h => by
    obtain ⟨y, hy⟩ := h t List.mem_cons_self
    exact ⟨y, evL ρ r, hy, evL_of (fun u hu => h u (List.mem_cons_of_mem _ hu)), by rw [evL_cons, hy]; rfl⟩
theorem cub_g {σ : List Nat} {h : aH} {ρ : List Int} {rh : List Nat} {K : cK} (k : dK σ h ρ rh K) (p : Nat) : (ρ[p]?).getD 0 ≤ cub K p := by
  cases e : ρ[p]? with
  | some y => exact cub_s k e
  | none =>
    simp only [Option.getD_none]
    unfold cub
    refine foldr_ub (fun t ht m hm => ?_) (foldr_ub (fun t ht m hm => ?_) ?_)
    · obtain ⟨a, b, ha, hb, hc⟩ := k.2.2.2.2.2.1 t ht
      cases q : Nat.beq t.1 p with
      | true => rw [Nat.eq_of_beq_eq_true q, e] at ha; cases ha
      | false =>
        simp only [cond_false]
        cases q2 : Nat.beq t.2.1 p with
        | true => rw [Nat.eq_of_beq_eq_true q2, e] at hb; cases hb
        | false => exact hm
    · obtain ⟨a, b, ha, hb, hc⟩ := k.2.1 t ht
      cases q : Nat.beq t.1 p with
      | true => rw [Nat.eq_of_beq_eq_true q, e] at ha; cases ha
      | false => exact hm
    · unfold cV0
      rw [List.getElem?_eq_none (by rw [← k.1.1]; exact List.getElem?_eq_none_iff.mp e)]
      decide
theorem clb_g {σ : List Nat} {h : aH} {ρ : List Int} {rh : List Nat} {K : cK} (k : dK σ h ρ rh K) (p : Nat) : clb K p ≤ (ρ[p]?).getD 0 := by
  cases e : ρ[p]? with
  | some y => exact clb_s k e
  | none =>
    simp only [Option.getD_none]
    unfold clb
    refine foldr_lb (fun t ht m hm => ?_) ?_
    · obtain ⟨a, b, ha, hb, hc⟩ := k.2.1 t ht
      cases q : Nat.beq t.2.1 p with
      | true => rw [Nat.eq_of_beq_eq_true q, e] at hb; cases hb
      | false => exact hm
    · unfold cV0
      rw [List.getElem?_eq_none (by rw [← k.1.1]; exact List.getElem?_eq_none_iff.mp e)]
      decide
theorem clin_s {σ : List Nat} {h : aH} {ρ : List Int} {rh : List Nat} {K : cK} (k : dK σ h ρ rh K) : ∀ l : List (Int × Nat), evL ρ l ≤ clin K l
  | [] => Int.le_refl _
  | t :: r => by
    have ih := clin_s k r
    have u := cub_g k t.2
    have l := clb_g k t.2
    rw [evL_cons]
    unfold clin
    refine Int.add_le_add ?_ ih
    cases q : cle 0 t.1 with
    | true => rw [cle_i] at q; exact Int.mul_le_mul_of_nonneg_left u q
    | false =>
      have : ¬ 0 ≤ t.1 := fun c => by rw [← cle_i, q] at c; cases c
      exact Int.mul_le_mul_of_nonpos_left (by omega) l
theorem cins_s {ρ : List Int} (a : Int) (p : Nat) : ∀ l : List (Int × Nat), evL ρ (cins a p l) = a * (ρ[p]?).getD 0 + evL ρ l
  | [] => rfl
  | t :: r => by
    unfold cins
    cases q : Nat.beq t.2 p with
    | true =>
      simp only [cond_true]
      rw [evL_cons, evL_cons, Nat.eq_of_beq_eq_true q]
      dsimp only
      rw [Int.add_mul]
      omega
    | false =>
      simp only [cond_false]
      rw [evL_cons, evL_cons, cins_s a p r]
      omega
theorem cmrg_s {ρ : List Int} : ∀ (l m : List (Int × Nat)), evL ρ (cmrg l m) = evL ρ l + evL ρ m
  | [], m => by
    show evL ρ m = 0 + evL ρ m
    omega
  | t :: r, m => by
    have : cmrg (t :: r) m = cins t.1 t.2 (cmrg r m) := rfl
    rw [this, cins_s, cmrg_s r m, evL_cons]
    omega
theorem cnz'_s {ρ : List Int} (h0 : ρ[0]? = some 0) : ∀ l : List (Int × Nat), evL ρ (cnz' l) = evL ρ l
  | [] => rfl
  | t :: r => by
    have ih := cnz'_s h0 r
    have e : cnz' (t :: r) = if (!(ceI t.1 0) && !(Nat.beq t.2 0)) = true then t :: cnz' r else cnz' r := by
      unfold cnz'
      rw [List.filter_cons]
    rw [e, evL_cons]
    cases q1 : ceI t.1 0 with
    | true =>
      rw [if_neg (by simp), ih, ceI_i.mp q1, Int.zero_mul]
      omega
    | false =>
      cases q2 : Nat.beq t.2 0 with
      | true =>
        rw [if_neg (by simp), ih, Nat.eq_of_beq_eq_true q2, h0]
        show _ = t.1 * 0 + _
        rw [Int.mul_zero]
        omega
      | false => rw [if_pos (by rfl), evL_cons, ih]
theorem cdfB_s {σ : List Nat} {h : aH} {ρ : List Int} {rh : List Nat} {K : cK} (k : dK σ h ρ rh K) (p q : Nat) : (ρ[p]?).getD 0 - (ρ[q]?).getD 0 ≤ cdfB K p q := by
  unfold cdfB
  have u := cub_g k p
  have l := clb_g k q
  refine foldr_ub (fun t ht m hm => ?_) (by omega)
  cases c : (Nat.beq t.1 p && Nat.beq t.2.1 q) with
  | false => exact hm
  | true =>
    rw [Bool.and_eq_true] at c
    obtain ⟨a, b, ha, hb, hc⟩ := k.2.1 t ht
    rw [Nat.eq_of_beq_eq_true c.1] at ha
    rw [Nat.eq_of_beq_eq_true c.2] at hb
    simp only [cond_true]
    rw [ha, hb] at hm ⊢
    simp only [Option.getD_some] at hm ⊢
    rcases cmn_or (a := m) (b := t.2.2) with w | w <;> rw [w] <;> omega
theorem club_s {σ : List Nat} {h : aH} {ρ : List Int} {rh : List Nat} {K : cK} (k : dK σ h ρ rh K) (l : List (Int × Nat)) : evL ρ l ≤ club K l := by
  unfold club
  split
  · rename_i a p b q
    cases c : ceI (a + b) 0 with
    | false => exact clin_s k _
    | true =>
      rw [ceI_i] at c
      have hb : b = -a := by omega
      subst hb
      simp only [cond_true]
      have e : evL ρ [(a, p), (-a, q)] = a * ((ρ[p]?).getD 0 - (ρ[q]?).getD 0) := by
        rw [evL_cons, evL_cons]
        show a * (ρ[p]?).getD 0 + (-a * (ρ[q]?).getD 0 + 0) = _
        rw [Int.mul_sub, Int.neg_mul]
        omega
      rw [e]
      cases w : cle 0 a with
      | true =>
        rw [cle_i] at w
        exact Int.mul_le_mul_of_nonneg_left (cdfB_s k p q) w
      | false =>
        have : ¬ 0 ≤ a := fun c => by rw [← cle_i, w] at c; cases c
        have e2 : a * ((ρ[p]?).getD 0 - (ρ[q]?).getD 0) = -a * ((ρ[q]?).getD 0 - (ρ[p]?).getD 0) := by
          rw [Int.neg_mul, ← Int.mul_neg]
          congr 1
          omega
        rw [e2]
        exact Int.mul_le_mul_of_nonneg_left (cdfB_s k q p) (by omega)
  · exact clin_s k _
theorem crk_s {σ : List Nat} {h : aH} {ρ : List Int} {rh : List Nat} {K : cK} (k : dK σ h ρ rh K) {mu : List (Nat × Int)} (hm : dMu ρ mu) {s t : cRk} (g : crk K mu s t = true) {zs : Int} (hs : dRv ρ s.2 (zs - s.1)) : ∃ w, dRv (dRT ρ mu) t.2 (w - t.1) ∧ w < zs := by
  unfold crk at g
  rw [Bool.and_eq_true, cle_i] at g
  obtain ⟨g1, g2⟩ := g
  have ex : ∀ u, u ∈ t.2 → ∃ m y, mu[u.2]? = some m ∧ ρ[m.1]? = some y := by
    intro u hu
    have := List.all_eq_true.mp g1 u hu
    rw [Nat.blt_eq] at this
    have em : mu[u.2]? = some (mu[u.2]'this) := List.getElem?_eq_getElem this
    obtain ⟨y, hy⟩ := hm _ _ em
    exact ⟨_, y, em, hy⟩
  have hv : dRv (dRT ρ mu) t.2 (evL (dRT ρ mu) t.2) := evL_of (fun u hu => by
    obtain ⟨m, y, a, b⟩ := ex u hu
    exact ⟨_, dRT_get a b⟩)
  refine ⟨t.1 + evL (dRT ρ mu) t.2, by rw [show t.1 + evL (dRT ρ mu) t.2 - t.1 = evL (dRT ρ mu) t.2 by omega]; exact hv, ?_⟩
  have hzs := evL_rv hs
  have key : ∀ (l : List (Int × Nat)) (c : Int), (∀ u, u ∈ l → ∃ m y, mu[u.2]? = some m ∧ ρ[m.1]? = some y) →
      evL (dRT ρ mu) l + c = evL ρ ((l.map (fun z => (z.1, cmu mu z.2))).map (fun z => (z.1, z.2.1))) + (l.map (fun z => (z.1, cmu mu z.2))).foldr (fun z m => z.1 * z.2.2 + m) c := by
    intro l c
    induction l with
    | nil => intro _; show (0 : Int) + c = 0 + c; rfl
    | cons u r ih =>
      intro hu
      have ih := ih (fun v hv => hu v (List.mem_cons_of_mem _ hv))
      obtain ⟨m, y, a, b⟩ := hu u List.mem_cons_self
      have cm : cmu mu u.2 = m := by unfold cmu; rw [a]
      simp only [List.map_cons, List.foldr_cons, evL_cons, cm, b, dRT_get a b, Option.getD_some]
      rw [Int.mul_add]
      omega
  have k1 := key t.2 (t.1 - s.1) ex
  have k2 := club_s k (cnz' (cmrg ((t.2.map (fun z => (z.1, cmu mu z.2))).map (fun z => (z.1, z.2.1))) (cmrg (s.2.map (fun z => (-z.1, z.2))) [])))
  rw [cnz'_s k.1.2.1, cmrg_s, cmrg_s] at k2
  have k3 : ∀ l : List (Int × Nat), evL ρ (l.map (fun z => (-z.1, z.2))) = -evL ρ l := by
    intro l
    induction l with
    | nil => rfl
    | cons u r ih =>
      simp only [List.map_cons, evL_cons, ih, Int.neg_mul]
      omega
  rw [k3] at k2
  have k4 : evL ρ ([] : List (Int × Nat)) = 0 := rfl
  omega

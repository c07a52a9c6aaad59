-- ===== a contract that the checker takes holds =====
theorem cpst_s {posts : List cT} {es : List cEx} (g : cpst posts es = true) {e : cEx} (he : e ∈ es) {σ : List Nat} {h : aH} {ρ : List Int} {rh : List Nat} {v : Option Value} (H : dH σ h) (k : dK σ h ρ rh e.2) (hS : dS ρ rh e.1 v.toList) : ∃ P, P ∈ posts ∧ dPost P σ h v := by
  unfold cpst at g
  obtain ⟨P, hP, g⟩ := List.any_eq_true.mp (List.all_eq_true.mp g e he)
  cases hc : cent P [] e.1 e.2 (fun _ _ _ => some ()) with
  | none => rw [hc] at g; cases g
  | some x =>
    obtain ⟨K', mu, nu, ρ', e1, e2, e3, e4⟩ := cent_s H k hc
    obtain ⟨a1, -, a3, -⟩ := cver_s H e2 e4 (L := []) (l := []) ⟨rfl, fun i w q => by simp at q⟩ (dS_mono e3 (dX_refl _) hS)
    exact ⟨P, hP, _, _, a1, a3⟩
theorem dEnd_of {X : aX} {C : cC} {M : aM} {pc pc' : Nat} {l l' : aL} {sv sv' : List Value} {σ σ' : List Nat} {h h' : aH} {N E : Nat} (hr : ∀ n d, arun X (n + E + N) (d + C.2.1) M pc l sv h = arun X (n + E) (d + C.2.1) M pc' l' sv' h') (hG : dG C.2.2.1 σ h σ' h') (e : dEnd X C M pc' l' sv' σ' h') : dEnd X C M pc l sv σ h := by
  obtain ⟨N2, v, h2, σ2, a1, a2, a3, a4⟩ := e
  refine ⟨N2 + E + N, v, h2, σ2, fun n d => ?_, a2, dG_trans hG a3, a4⟩
  rw [show n + (N2 + E + N) = (n + N2) + E + N by omega, hr, show n + N2 + E = (n + E) + N2 by omega]
  exact a1 _ _
theorem cchk_s {X : aX} {CT : List cC} {CM : List (List Nat)} {n k : Nat} (hX : X 0 = some (8, zab)) (hCM : ∀ (a : Nat) (js : List Nat), CM[a]? = some js → ∀ j, j ∈ js → ∀ C, CT[j]? = some C → C.1 = a) (HG : ∀ j, j < k → ∀ C, CT[j]? = some C → dGood X C) (g : cchk CT CM n k = true) : ∀ C, CT[k]? = some C → dGood X C := by
  intro C hC M hM
  unfold cchk at g
  rw [hC] at g
  dsimp only at g
  rw [Bool.and_eq_true, Bool.and_eq_true] at g
  obtain ⟨⟨g1, g2⟩, g3⟩ := g
  -- a segment from a cut
  have seg : ∀ (r : Nat) (c : Nat × cT × cRk), c ∈ C.2.2.2.2.2 → ∀ (l : aL) (sv : List Value) (h : aH) (σ : List Nat) (ρ : List Int) (rh : List Nat) (w : Int), dI σ h → dK σ h ρ rh c.2.1.2.2 → dL ρ rh c.2.1.1 l → dS ρ rh c.2.1.2.1 sv → dRv ρ c.2.2.2 (w - c.2.2.1) → w < r → dEnd X C M c.1 l sv σ h := by
    intro r
    induction r with
    | zero =>
      intro c hc l sv h σ ρ rh w hI hK hL hS hw hr
      exfalso
      have := List.all_eq_true.mp g3 c hc
      rw [Bool.and_eq_true] at this
      have h1 := this.1
      unfold crk0 at h1
      rw [Bool.and_eq_true, cle_i] at h1
      have h1 := h1.1
      have h2 := clin_s hK (c.2.2.2.map (fun z => (-z.1, z.2)))
      have h3 : evL ρ (c.2.2.2.map (fun z => (-z.1, z.2))) = -evL ρ c.2.2.2 := by
        generalize c.2.2.2 = q
        induction q with
        | nil => rfl
        | cons u r ih =>
          simp only [List.map_cons, evL_cons, ih, Int.neg_mul]
          omega
      have h4 := evL_rv hw
      omega
    | succ r ih =>
      intro c hc l sv h σ ρ rh w hI hK hL hS hw hr
      have := List.all_eq_true.mp g3 c hc
      rw [Bool.and_eq_true] at this
      have h1 := this.2
      unfold cseg at h1
      rw [hM] at h1
      dsimp only at h1
      split at h1
      · rename_i es he
        have R := cx_s (zs := w) hX (Q := (CT, CM, k, C.2.2.1, C.2.2.2.2.2, some c.2.2)) HG hCM n C.2.1 true M _ _ _ _ _ he _ _ _ _ _ _ hI hK hL hS (fun s hs => by
          simp only [Option.some.injEq] at hs
          subst hs
          exact hw)
        rcases R with ⟨N, e, v, h', σ', ρ', rh', a1, a2, a3, a4, a5, a6, a7, a8⟩ | ⟨-, N, E, c', l', sv', h', σ', ρ', rh', a1, a2, a3, a4, a5, a6, a7, a8⟩
        · exact ⟨N, v, h', σ', a2, a3, a4, cpst_s h1 a1 a3.1 a5 a6⟩
        · obtain ⟨w', b1, b2⟩ := a8 (by simp)
          exact dEnd_of a2 a4 (ih c' a1 l' sv' h' σ' ρ' rh' w' a3 a5 a6 a7 b1 (by omega))
      · cases h1
  intro l h σ ρ rh hI hK hL
  unfold cseg at g1
  rw [hM] at g1
  dsimp only at g1
  split at g1
  · rename_i es he
    have h0 : C.2.2.2.1.2.1 = [] := List.length_eq_zero_iff.mp (Nat.eq_of_beq_eq_true g2)
    have R := cx_s (zs := 0) hX (Q := (CT, CM, k, C.2.2.1, C.2.2.2.2.2, none)) HG hCM n C.2.1 true M _ _ _ _ _ he _ [] _ _ _ _ hI hK hL (by rw [h0]; trivial) (fun s hs => by cases hs)
    rcases R with ⟨N, e, v, h', σ', ρ', rh', a1, a2, a3, a4, a5, a6, a7, a8⟩ | ⟨-, N, E, c', l', sv', h', σ', ρ', rh', a1, a2, a3, a4, a5, a6, a7, a8⟩
    · exact ⟨N, v, h', σ', a2, a3, a4, cpst_s g1 a1 a3.1 a5 a6⟩
    · have hrt : ∀ u, u ∈ c'.2.2.2 → ∃ y, ρ'[u.2]? = some y := by
        have := List.all_eq_true.mp g3 c' a1
        rw [Bool.and_eq_true] at this
        have h1 := this.1
        unfold crk0 at h1
        rw [Bool.and_eq_true] at h1
        intro u hu
        have h2 := List.all_eq_true.mp h1.2 u hu
        rw [Nat.blt_eq, ← a5.1.1] at h2
        exact ⟨_, List.getElem?_eq_getElem h2⟩
      have hv := evL_of hrt
      exact dEnd_of a2 a4 (seg ((c'.2.2.1 + evL ρ' c'.2.2.2).toNat + 1) c' a1 l' sv' h' σ' ρ' rh' (c'.2.2.1 + evL ρ' c'.2.2.2) a3 a5 a6 a7 (by rw [show c'.2.2.1 + evL ρ' c'.2.2.2 - c'.2.2.1 = evL ρ' c'.2.2.2 by omega]; exact hv) (by omega))
  · cases g1

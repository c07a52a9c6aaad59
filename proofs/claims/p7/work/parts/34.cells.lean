-- ===== cells: loads and stores =====
theorem creg_s {σ : List Nat} {h : aH} {ρ : List Int} {rh : List Nat} {K : cK} (H : dH σ h) (k : dK σ h ρ rh K) {c r q : Nat} (e : creg K c = some r) (g : dR rh c q) : σ[q]? = some r := by
  unfold creg at e
  rcases g with ⟨g1, rfl⟩ | ⟨g1, g2⟩
  · rw [show Nat.blt q 146 = true by rw [Nat.blt_eq]; omega] at e
    simp only [cond_true, Option.some.injEq] at e
    subst e
    exact H.2.2.2 q g1
  · rw [show Nat.blt c 146 = false by rw [← Bool.not_eq_true, Nat.blt_eq]; omega, show Nat.blt c 1000 = false by rw [← Bool.not_eq_true, Nat.blt_eq]; omega] at e
    simp only [cond_false] at e
    obtain ⟨q', a, b⟩ := k.2.2.2.1.2 _ _ e
    rw [g2] at a
    cases a
    exact b
theorem creg_ex {σ : List Nat} {h : aH} {ρ : List Int} {rh : List Nat} {K : cK} (k : dK σ h ρ rh K) {c r : Nat} (e : creg K c = some r) : ∃ q, dR rh c q := by
  unfold creg at e
  cases h1 : Nat.blt c 146 with
  | true => exact ⟨c, Or.inl ⟨Nat.blt_eq.mp h1, rfl⟩⟩
  | false =>
    rw [h1] at e
    simp only [cond_false] at e
    cases h2 : Nat.blt c 1000 with
    | true => rw [h2] at e; cases e
    | false =>
      rw [h2] at e
      simp only [cond_false] at e
      have h2 : ¬ c < 1000 := fun q => by rw [← Nat.blt_eq, h2] at q; cases q
      obtain ⟨q', a, -⟩ := k.2.2.2.1.2 _ _ e
      exact ⟨q', Or.inr ⟨by omega, a⟩⟩
theorem cRg_s {K : cK} {c : Nat} {f : Nat → cRt → Option (List cEx)} {es : List cEx} (h : cRg K c f = some es) : ∃ r t, creg K c = some r ∧ cRT[r]? = some t ∧ f r t = some es := by
  unfold cRg at h
  split at h
  · rename_i r e
    split at h
    · rename_i t e2
      exact ⟨r, t, e, e2, h⟩
    · cases h
  · cases h
theorem dH_cell {σ : List Nat} {h : aH} (H : dH σ h) {q r : Nat} {t : cRt} (e : σ[q]? = some r) (ht : cRT[r]? = some t) : ∃ c, h.1[q]? = some c ∧ dC σ t c := by
  obtain ⟨t', c, a, b, d⟩ := H.2.1 q r e
  rw [ht] at a
  cases a
  exact ⟨c, b, d⟩
theorem dC_0 {σ : List Nat} {t : cRt} {c : aC} (h : dC σ t c) (e : t.1 = 0) : ∃ fs : List Value, c = .inr (t.2.1, fs) ∧ fs.length = t.2.2.2.2.2.length ∧ ∀ (i : Nat) (ty : Nat × Int × Int), t.2.2.2.2.2[i]? = some ty → ∃ v, fs[i]? = some v ∧ dT σ ty v := by
  unfold dC at h; rw [e] at h; exact h
theorem dC_1 {σ : List Nat} {t : cRt} {c : aC} (h : dC σ t c) (e : t.1 = 1) : ∃ g : Nat → Int32, c = .inl (t.2.1, t.2.2.1, .inl g) ∧ ∀ j, j < t.2.2.1 → t.2.2.2.1 ≤ (g j).toInt ∧ (g j).toInt ≤ t.2.2.2.2.1 := by
  unfold dC at h; rw [e] at h; exact h
theorem dC_2 {σ : List Nat} {t : cRt} {c : aC} (h : dC σ t c) (e : t.1 = 2) : ∃ g : Nat → Int64, c = .inl (1, t.2.2.1, .inr (.inl g)) ∧ ∀ j, j < t.2.2.1 → t.2.2.2.1 ≤ (g j).toInt ∧ (g j).toInt ≤ t.2.2.2.2.1 := by
  unfold dC at h; rw [e] at h; exact h
theorem dC_3 {σ : List Nat} {t : cRt} {c : aC} (h : dC σ t c) (e : t.1 = 3) : ∃ g : Nat → Option Nat, c = .inl (t.2.1, t.2.2.1, .inr (.inr (.inr (.inr g)))) ∧ ∀ (j q : Nat), g j = some q → σ[q]? = some t.2.2.2.1.toNat := by
  unfold dC at h; rw [e] at h; exact h
theorem cRT_at (r : Nat) (k : Nat) (h : (match cRT[r]? with
  | some t => Nat.beq t.1 k
  | none => false) = true) : ∃ t, cRT[r]? = some t ∧ t.1 = k := by
  split at h
  · rename_i t e; exact ⟨t, e, Nat.eq_of_beq_eq_true h⟩
  · cases h
theorem cRT_42 : ∃ t, cRT[42]? = some t ∧ t.1 = 3 := cRT_at 42 3 (by decide +kernel)
theorem cRT_65 : ∃ t, cRT[65]? = some t ∧ t.1 = 3 := cRT_at 65 3 (by decide +kernel)
theorem cRT_69 : ∃ t, cRT[69]? = some t ∧ t.1 = 1 := cRT_at 69 1 (by decide +kernel)
theorem cRT_70 : ∃ t, cRT[70]? = some t ∧ t.1 = 1 := cRT_at 70 1 (by decide +kernel)
theorem cRT_72 : ∃ t, cRT[72]? = some t ∧ t.1 = 0 := cRT_at 72 0 (by decide +kernel)
/-- the laws of shelves and texts hold of a heap that is the same where they look -/
theorem dJ_same {h h1 : aH} (h2 : dJ2 h) (h3 : dJ3 h) (e : ∀ k, k = 69 ∨ k = 70 ∨ k = 119 ∨ k = 120 ∨ k = 121 ∨ k = 122 ∨ k = 123 → h1.1[k]? = h.1[k]?) (f : ∀ fs : List Value, h.1[72]? = some (.inr (12, fs)) → ∃ fs' : List Value, h1.1[72]? = some (.inr (12, fs')) ∧ fs'[55]? = fs[55]?) : dJ2 h1 ∧ dJ3 h1 := by
  constructor
  · obtain ⟨gs, gh, a, b, c⟩ := h2
    exact ⟨gs, gh, by rw [e 69 (by omega)]; exact a, by rw [e 70 (by omega)]; exact b, c⟩
  · obtain ⟨ga, gw, gt, gl, gm, fs, x, a1, a2, a3, a4, a5, a6, a7, a8⟩ := h3
    obtain ⟨fs', b1, b2⟩ := f fs a6
    exact ⟨ga, gw, gt, gl, gm, fs', x, by rw [e 122 (by omega)]; exact a1, by rw [e 123 (by omega)]; exact a2, by rw [e 120 (by omega)]; exact a3, by rw [e 121 (by omega)]; exact a4, by rw [e 119 (by omega)]; exact a5, b1, by rw [b2]; exact a7, a8⟩
theorem cJs_arr {r b : Nat} (h : cJs r b = false) : ∀ k, k = 69 ∨ k = 70 ∨ k = 119 ∨ k = 120 ∨ k = 121 ∨ k = 122 ∨ k = 123 → r ≠ k := by
  intro k hk e
  subst e
  rcases hk with rfl | rfl | rfl | rfl | rfl | rfl | rfl <;> · simp [cJs] at h
theorem cJs_72 {b : Nat} (h : cJs 72 b = false) : b ≠ 55 := by
  intro e
  subst e
  simp [cJs] at h
theorem dNul_same {h h1 : aH} {q n : Nat} (e : h1.1[q]? = h.1[q]?) : dNul h1 q n = dNul h q n := by unfold dNul; rw [e]
theorem set_ne' {l : List aC} {o k : Nat} {c : aC} (h : o ≠ k) : (l.set o c)[k]? = l[k]? := by rw [List.getElem?_set, if_neg h]
theorem set_eq' {l : List aC} {o : Nat} {c c' : aC} (h : l[o]? = some c') : (l.set o c)[o]? = some c := by
  rw [List.getElem?_set, if_pos rfl, if_pos (List.getElem?_eq_some_iff.mp h).1]
/-- a cell is set: what stands if it fits its region -/
theorem dH_set {σ : List Nat} {h : aH} (H : dH σ h) {o r : Nat} {t : cRt} {c : aC} {u : Nat} (e : σ[o]? = some r) (ht : cRT[r]? = some t) (hc : dC σ t c) : dH σ (h.1.set o c, u) := by
  refine ⟨by rw [List.length_set]; exact H.1, fun q r' e' => ?_, H.2.2.1, H.2.2.2⟩
  by_cases ho : o = q
  · subst ho
    rw [e] at e'
    cases e'
    obtain ⟨c0, d1, d2⟩ := dH_cell H e ht
    exact ⟨t, c, ht, set_eq' d1, hc⟩
  · obtain ⟨t', c', a, b, d⟩ := H.2.1 q r' e'
    exact ⟨t', c', a, (set_ne' ho).trans b, d⟩
theorem dG_set {W : List (Nat × Nat)} {σ : List Nat} {h : aH} (H : dH σ h) {o r : Nat} {t : cRt} {c c0 : aC} (e : σ[o]? = some r) (ht : cRT[r]? = some t) (h3 : t.1 ≠ 3) (hc0 : h.1[o]? = some c0) (hfr : dFr W r c0 c) : dG W σ h σ (h.1.set o c, h.2) := by
  refine ⟨fun _ _ g => g, fun q r' c1 e' f => ?_, ?_⟩
  · by_cases ho : o = q
    · subst ho
      rw [e] at e'; cases e'
      rw [hc0] at f; cases f
      exact ⟨c, set_eq' hc0, hfr⟩
    · exact ⟨c1, (set_ne' ho).trans f, dFr_refl _ _ _⟩
  · have ne : ∀ k, (∃ t', cRT[k]? = some t' ∧ t'.1 = 3) → k < 146 → o ≠ k := by
      rintro k ⟨t', h1, h2⟩ hk rfl
      rw [H.2.2.2 o hk] at e
      cases e
      rw [h1] at ht
      cases ht
      exact h3 h2
    have e1 : dNul (h.1.set o c, h.2) 42 10 = dNul h 42 10 := dNul_same (set_ne' (ne 42 cRT_42 (by decide)))
    have e2 : dNul (h.1.set o c, h.2) 65 150 = dNul h 65 150 := dNul_same (set_ne' (ne 65 cRT_65 (by decide)))
    unfold dPh
    rw [e1, e2, List.length_set]
    exact Nat.le_refl _
theorem dI_obj {W : List (Nat × Nat)} {σ : List Nat} {h : aH} (I : dI σ h) {o r b : Nat} {t : cRt} {fs : List Value} {ty : Nat × Int × Int} {v : Value} (e : σ[o]? = some r) (ht : cRT[r]? = some t) (h0 : t.1 = 0) (hc : h.1[o]? = some (.inr (t.2.1, fs))) (hty : t.2.2.2.2.2[b]? = some ty) (hv : dT σ ty v) (hJ : cJs r b = false) (hW : cWn W r b = true) :
    dI σ (h.1.set o (.inr (t.2.1, fs.set b v)), h.2) ∧ dG W σ h σ (h.1.set o (.inr (t.2.1, fs.set b v)), h.2) := by
  obtain ⟨c, d1, d2⟩ := dH_cell I.1 e ht
  rw [hc] at d1
  cases d1
  obtain ⟨fs', f1, f2, f3⟩ := dC_0 d2 h0
  cases f1
  have hb : b < fs.length := by rw [f2]; exact (List.getElem?_eq_some_iff.mp hty).1
  have hC : dC σ t (.inr (t.2.1, fs.set b v)) := by
    unfold dC
    rw [h0]
    refine ⟨_, rfl, by rw [List.length_set]; exact f2, fun i ty' e' => ?_⟩
    by_cases hi : b = i
    · subst hi
      rw [hty] at e'; cases e'
      exact ⟨v, by rw [List.getElem?_set, if_pos rfl, if_pos hb], hv⟩
    · obtain ⟨v', g1, g2⟩ := f3 i ty' e'
      exact ⟨v', by rw [List.getElem?_set, if_neg hi]; exact g1, g2⟩
  have ne : ∀ k, (∃ t', cRT[k]? = some t' ∧ t'.1 = 1) ∨ r ≠ k → k < 146 → o ≠ k := by
    rintro k (⟨t', h1, h2⟩ | hk') hk rfl
    · rw [I.1.2.2.2 o hk] at e
      cases e
      rw [h1] at ht; cases ht
      omega
    · rw [I.1.2.2.2 o hk] at e
      cases e
      exact hk' rfl
  refine ⟨⟨dH_set I.1 e ht hC, ?_⟩, dG_set I.1 e ht (by omega) hc ⟨(fun x q => by cases q), fun ci f0 q => ?_⟩⟩
  · refine dJ_same I.2.1 I.2.2 (fun k hk => set_ne' (ne k (Or.inr (cJs_arr hJ k hk)) (by omega))) (fun f h72 => ?_)
    by_cases ho : o = 72
    · subst ho
      rw [I.1.2.2.2 72 (by decide)] at e
      cases e
      rw [hc] at h72
      simp only [Option.some.injEq, Sum.inr.injEq, Prod.mk.injEq] at h72
      obtain ⟨h7, rfl⟩ := h72
      refine ⟨fs.set b v, by rw [← h7]; exact set_eq' hc, ?_⟩
      rw [List.getElem?_set, if_neg (cJs_72 hJ)]
    · exact ⟨f, (set_ne' ho).trans h72, rfl⟩
  · cases q
    refine ⟨_, rfl, fun i hi => ?_⟩
    rw [List.getElem?_set]
    split
    · rename_i q
      subst q
      rw [hW] at hi
      cases hi
    · rfl
theorem dI_arr {W : List (Nat × Nat)} {σ : List Nat} {h : aH} (I : dI σ h) {o r : Nat} {t : cRt} {c : aC} {x : Nat × vp_A} (e : σ[o]? = some r) (ht : cRT[r]? = some t) (h0 : t.1 = 1 ∨ t.1 = 2) (hc : h.1[o]? = some (.inl x)) (hC : dC σ t c) (hJ : cJs r 0 = false) (hW : cWn W r 0 = true) :
    dI σ (h.1.set o c, h.2) ∧ dG W σ h σ (h.1.set o c, h.2) := by
  have ne : ∀ k, r ≠ k → k < 146 → o ≠ k := by
    rintro k hk' hk rfl
    rw [I.1.2.2.2 o hk] at e
    cases e
    exact hk' rfl
  refine ⟨⟨dH_set I.1 e ht hC, ?_⟩, dG_set I.1 e ht (by omega) hc ⟨fun y q w => (by rw [hW] at w; cases w), fun ci f0 q => by cases q⟩⟩
  refine dJ_same I.2.1 I.2.2 (fun k hk => set_ne' (ne k (cJs_arr hJ k hk) (by omega))) (fun f h72 => ⟨f, (set_ne' ?_).trans h72, rfl⟩)
  rintro rfl
  rw [hc] at h72
  cases h72
/-- facts over a heap whose cell o is set -/
theorem kA_filter {σ : List Nat} {h : aH} {ρ : List Int} {rh : List Nat} {K : cK} (H : dH σ h) (k : dK σ h ρ rh K) {o r : Nat} {c : aC} {u : Nat} (e : σ[o]? = some r) : kA (h.1.set o c, u) ρ rh (K.2.2.2.2.2.2.filter (fun t => !(match creg K t.1 with
    | some x => Nat.beq x r
    | none => true))) := by
  intro t ht
  obtain ⟨h1, h2⟩ := List.mem_filter.mp ht
  obtain ⟨q, ty, n, g, j, y, a, b, d⟩ := k.2.2.2.2.2.2 t h1
  refine ⟨q, ty, n, g, j, y, a, (set_ne' ?_).trans b, d⟩
  rintro rfl
  cases hx : creg K t.1 with
  | none => rw [hx] at h2; cases h2
  | some x =>
    rw [hx] at h2
    have := creg_s H k hx a
    rw [e] at this
    cases this
    simp at h2
theorem dK_arr {σ : List Nat} {h : aH} {ρ : List Int} {rh : List Nat} {K : cK} (H : dH σ h) (k : dK σ h ρ rh K) {o r : Nat} {c : aC} {x : Nat × vp_A} (e : σ[o]? = some r) (hc : h.1[o]? = some (.inl x)) {l : cAf} (hl : kA (h.1.set o c, h.2) ρ rh l) : dK σ (h.1.set o c, h.2) ρ rh (csA K r l) := by
  refine ⟨k.1, k.2.1, k.2.2.1, k.2.2.2.1, fun t ht => ?_, k.2.2.2.2.2.1, fun t ht => ?_⟩
  · obtain ⟨q, ci, fs, v, a, b, d⟩ := k.2.2.2.2.1 t ht
    refine ⟨q, ci, fs, v, a, (set_ne' ?_).trans b, d⟩
    rintro rfl
    rw [hc] at b
    cases b
  · rcases List.mem_append.mp ht with ht | ht
    · exact hl t ht
    · exact kA_filter H k e t ht
theorem dK_obj {σ : List Nat} {h : aH} {ρ : List Int} {rh : List Nat} {K : cK} (H : dH σ h) (k : dK σ h ρ rh K) {o r b ci : Nat} {c : Nat} {fs : List Value} {w : cW} {v : Value} (e : σ[o]? = some r) (hc : h.1[o]? = some (.inr (ci, fs))) (hb : b < fs.length) (hr : dR rh c o) (hw : dW ρ rh w v) : dK σ (h.1.set o (.inr (ci, fs.set b v)), h.2) ρ rh (csF K r b c w) := by
  refine ⟨k.1, k.2.1, k.2.2.1, k.2.2.2.1, fun t ht => ?_, k.2.2.2.2.2.1, fun t ht => ?_⟩
  · rcases List.mem_cons.mp ht with rfl | ht
    · exact ⟨o, ci, _, v, hr, set_eq' hc, by rw [List.getElem?_set, if_pos rfl, if_pos hb], hw⟩
    · obtain ⟨h1, h2⟩ := List.mem_filter.mp ht
      obtain ⟨q, ci', fs', v', a, b', d, f⟩ := k.2.2.2.2.1 t h1
      by_cases ho : o = q
      · subst ho
        rw [hc] at b'
        cases b'
        refine ⟨o, ci, _, v', a, set_eq' hc, ?_, f⟩
        rw [List.getElem?_set]
        split
        · rename_i hbt
          subst hbt
          rw [show Nat.beq t.2.1 t.2.1 = true from Nat.beq_refl _] at h2
          cases hx : creg K t.1 with
          | none => rw [hx] at h2; cases h2
          | some x =>
            rw [hx] at h2
            have := creg_s H k hx a
            rw [e] at this
            cases this
            simp at h2
        · exact d
      · exact ⟨q, ci', fs', v', a, (set_ne' ho).trans b', d, f⟩
  · obtain ⟨q, ty, n, g, j, y, a, b', d⟩ := k.2.2.2.2.2.2 t ht
    refine ⟨q, ty, n, g, j, y, a, (set_ne' ?_).trans b', d⟩
    rintro rfl
    rw [hc] at b'
    cases b'
theorem dK_obj0 {σ : List Nat} {h : aH} {ρ : List Int} {rh : List Nat} {K : cK} (k : dK σ h ρ rh K) {o b ci : Nat} {fs : List Value} {v : Value} (hc : h.1[o]? = some (.inr (ci, fs))) (hf : ∀ t ∈ K.2.2.2.2.1, ∀ q, dR rh t.1 q → t.2.1 = b → q ≠ o) : dK σ (h.1.set o (.inr (ci, fs.set b v)), h.2) ρ rh K := by
  refine ⟨k.1, k.2.1, k.2.2.1, k.2.2.2.1, fun t ht => ?_, k.2.2.2.2.2.1, fun t ht => ?_⟩
  · obtain ⟨q, ci', fs', v', a, b', d, f⟩ := k.2.2.2.2.1 t ht
    by_cases ho : o = q
    · subst ho
      rw [hc] at b'
      cases b'
      refine ⟨o, ci, _, v', a, set_eq' hc, ?_, f⟩
      rw [List.getElem?_set]
      split
      · rename_i hbt
        exact absurd rfl (hf t ht o a hbt.symm)
      · exact d
    · exact ⟨q, ci', fs', v', a, (set_ne' ho).trans b', d, f⟩
  · obtain ⟨q, ty, n, g, j, y, a, b', d⟩ := k.2.2.2.2.2.2 t ht
    refine ⟨q, ty, n, g, j, y, a, (set_ne' ?_).trans b', d⟩
    rintro rfl
    rw [hc] at b'
    cases b'
/-- a field's value -/
theorem cld_s {σ : List Nat} {h : aH} {ρ : List Int} {rh : List Nat} {K : cK} (H : dH σ h) (k : dK σ h ρ rh K) {c b q r : Nat} {t : cRt} {ty : Nat × Int × Int} {f : cK → cW → Option (List cEx)} {es : List cEx} (hc : cld K c b ty f = some es) (hr : dR rh c q) (e : creg K c = some r) (ht : cRT[r]? = some t) (h0 : t.1 = 0) (hty : t.2.2.2.2.2[b]? = some ty) :
    ∃ (K' : cK) (w : cW) (ρ' : List Int) (rh' : List Nat) (fs : List Value) (v : Value), f K' w = some es ∧ dK σ h ρ' rh' K' ∧ dX ρ ρ' ∧ dX rh rh' ∧ h.1[q]? = some (.inr (t.2.1, fs)) ∧ fs[b]? = some v ∧ dW ρ' rh' w v := by
  have hs := creg_s H k e hr
  obtain ⟨c0, d1, d2⟩ := dH_cell H hs ht
  obtain ⟨fs, f1, f2, f3⟩ := dC_0 d2 h0
  subst f1
  obtain ⟨v, v1, v2⟩ := f3 b ty hty
  unfold cld at hc
  split at hc
  · rename_i g hg
    have hm := List.mem_of_find?_eq_some hg
    have hp := List.find?_some hg
    simp only [Bool.and_eq_true] at hp
    obtain ⟨q', ci, fs', v', a, b', d, w⟩ := k.2.2.2.2.1 g hm
    rw [Nat.eq_of_beq_eq_true hp.1] at a
    have hq : q' = q := by
      rcases a with ⟨a1, rfl⟩ | ⟨a1, a2⟩ <;> rcases hr with ⟨b1, rfl⟩ | ⟨b1, b2⟩
      · rfl
      · omega
      · omega
      · rw [a2] at b2; cases b2; rfl
    subst hq
    rw [d1] at b'
    cases b'
    rw [Nat.eq_of_beq_eq_true hp.2, v1] at d
    cases d
    exact ⟨K, _, ρ, rh, _, _, hc, k, dX_refl _, dX_refl _, d1, v1, w⟩
  · split at hc
    · rename_i hk
      unfold dT at v2
      rw [hk] at v2
      obtain ⟨x, rfl, x1, x2⟩ := v2
      have k' := dK_new (z := x.toInt) k x1 x2
      have hw : dW (ρ ++ [x.toInt]) rh (1, K.1.length, 0) (.int x) := ⟨x, x.toInt, rfl, kV_last k.1 _, by show x.toInt = x.toInt + 0; omega⟩
      refine ⟨_, _, ρ ++ [x.toInt], rh, _, _, hc, ⟨k'.1, k'.2.1, k'.2.2.1, k'.2.2.2.1, fun u hu => ?_, k'.2.2.2.2.2⟩, dX_app _ _, dX_refl _, d1, v1, hw⟩
      rcases List.mem_cons.mp hu with rfl | hu
      · exact ⟨q, _, _, _, hr, d1, v1, hw⟩
      · exact k'.2.2.2.2.1 u hu
    · rename_i hk
      unfold dT at v2
      rw [hk] at v2
      obtain ⟨p, rfl, p1⟩ := v2
      cases hb : Nat.blt ty.2.1.toNat 146 with
      | true =>
        rw [hb] at hc
        have hb' := Nat.blt_eq.mp hb
        have := H.2.2.1 p _ p1 hb'
        subst this
        exact ⟨K, _, ρ, rh, _, _, hc, k, dX_refl _, dX_refl _, d1, v1, ⟨_, rfl, Or.inl ⟨hb', rfl⟩⟩⟩
      | false =>
        rw [hb] at hc
        have hw : dW ρ (rh ++ [p]) (3, 1000 + K.2.2.2.1.length, 0) (.ref p) := ⟨p, rfl, Or.inr ⟨by show 1000 ≤ 1000 + K.2.2.2.1.length; omega, by
          show (rh ++ [p])[1000 + K.2.2.2.1.length - 1000]? = some p
          rw [← k.2.2.2.1.1, show 1000 + rh.length - 1000 = rh.length by omega]
          simp⟩⟩
        refine ⟨_, _, ρ, rh ++ [p], _, _, hc, ⟨k.1, k.2.1, k.2.2.1, ⟨by simp [k.2.2.2.1.1], fun i r' e' => ?_⟩, fun u hu => ?_, k.2.2.2.2.2.1, kA_mono (dX_refl _) (dX_app _ _) k.2.2.2.2.2.2⟩, dX_refl _, dX_app _ _, d1, v1, hw⟩
        · dsimp only at e'
          rcases Nat.lt_or_ge i K.2.2.2.1.length with hi | hi
          · rw [List.getElem?_append_left hi] at e'
            obtain ⟨q', a, b'⟩ := k.2.2.2.1.2 i r' e'
            exact ⟨q', dX_app _ _ _ _ a, b'⟩
          · rw [List.getElem?_append_right hi] at e'
            have hz : i - K.2.2.2.1.length = 0 := by
              rcases Nat.eq_zero_or_pos (i - K.2.2.2.1.length) with g | g
              · exact g
              · rw [List.getElem?_eq_none (by simp; omega)] at e'; cases e'
            rw [hz] at e'
            simp only [List.getElem?_cons_zero, Option.some.injEq] at e'
            subst e'
            refine ⟨p, ?_, p1⟩
            rw [show i = rh.length by rw [k.2.2.2.1.1]; omega]
            simp
        · rcases List.mem_cons.mp hu with rfl | hu
          · exact ⟨q, _, _, _, dR_mono (dX_app _ _) hr, d1, v1, hw⟩
          · exact kF_mono (dX_refl _) (dX_app _ _) k.2.2.2.2.1 u hu
    · cases hc
theorem cix_s {σ : List Nat} {h : aH} {ρ : List Int} {rh : List Nat} {K : cK} (k : dK σ h ρ rh K) {p n : Nat} {o y : Int} {x : Int32} (e : ρ[p]? = some y) (hx : x.toInt = y + o) (g : cix K p o n = true) : ¬ (x < 0 ∨ n ≤ x.toNatClampNeg) ∧ x.toNatClampNeg = (y + o).toNat ∧ 0 ≤ y + o ∧ (y + o).toNat < n := by
  unfold cix at g
  rw [Bool.and_eq_true, cle_i, cle_i] at g
  have := cub_s k e
  have := clb_s k e
  have e1 : x.toNatClampNeg = (y + o).toNat := by rw [← Int32.toNat_toInt, hx]
  refine ⟨?_, e1, by omega, by omega⟩
  rintro (q | q)
  · rw [Int32.lt_iff_toInt_lt, i_zero] at q; omega
  · rw [e1] at q; omega
/-- an element's value -/
theorem cal_s {σ : List Nat} {h : aH} {ρ : List Int} {rh : List Nat} {K : cK} (I : dI σ h) (k : dK σ h ρ rh K) {c p q r ty n : Nat} {o j : Int} {t : cRt} {g : Nat → Int32} {f : cK → Nat → Int → Option (List cEx)} {es : List cEx} (hc : cal K c p o r t f = some es) (hr : dR rh c q) (e : creg K c = some r) (hg : h.1[q]? = some (.inl (ty, n, .inl g))) (hj : ρ[p]? = some j) (hj0 : 0 ≤ j + o) (hjn : (j + o).toNat < n)
    (hb : t.2.2.2.1 ≤ (g (j + o).toNat).toInt ∧ (g (j + o).toNat).toInt ≤ t.2.2.2.2.1) : dNm σ h ρ rh f es (g (j + o).toNat).toInt := by
  have same : ∀ {q' c'}, dR rh c' q' → c' = c → q' = q := by
    rintro q' c' a rfl
    rcases a with ⟨a1, rfl⟩ | ⟨a1, a2⟩ <;> rcases hr with ⟨b1, rfl⟩ | ⟨b1, b2⟩
    · rfl
    · omega
    · omega
    · rw [a2] at b2; cases b2; rfl
  unfold cal at hc
  split at hc
  · rename_i a ha
    have hm := List.mem_of_find?_eq_some ha
    have hp := List.find?_some ha
    simp only [Bool.and_eq_true, ceI_i] at hp
    obtain ⟨q', ty', n', g', j', y, a1, a2, a3, a4, a5, a6⟩ := k.2.2.2.2.2.2 a hm
    have := same a1 (Nat.eq_of_beq_eq_true hp.1.1)
    subst this
    rw [hg] at a2
    cases a2
    rw [Nat.eq_of_beq_eq_true hp.1.2, hj] at a3
    cases a3
    rw [hp.2] at a6
    exact ⟨K, _, _, ρ, y, hc, k, dX_refl _, a5, a6⟩
  · have hu : (g (j + o).toNat).toInt ≤ (bif Nat.beq r 70 && K.2.2.2.2.2.2.any (fun a => Nat.beq a.1 69 && Nat.beq a.2.1 p && ceI a.2.2.1 o && cle 0 (clb K a.2.2.2.1 + a.2.2.2.2) && cle (cub K a.2.2.2.1 + a.2.2.2.2) 4) then 60 else t.2.2.2.2.1) := by
      cases hs : (Nat.beq r 70 && K.2.2.2.2.2.2.any (fun a => Nat.beq a.1 69 && Nat.beq a.2.1 p && ceI a.2.2.1 o && cle 0 (clb K a.2.2.2.1 + a.2.2.2.2) && cle (cub K a.2.2.2.1 + a.2.2.2.2) 4)) with
      | false => exact hb.2
      | true =>
        simp only [cond_true]
        rw [Bool.and_eq_true] at hs
        have hr70 := Nat.eq_of_beq_eq_true hs.1
        subst hr70
        obtain ⟨a, hm, ha⟩ := List.any_eq_true.mp hs.2
        simp only [Bool.and_eq_true, ceI_i, cle_i] at ha
        obtain ⟨⟨⟨⟨b1, b2⟩, b3⟩, b4⟩, b5⟩ := ha
        obtain ⟨q', ty', n', g', j', y, a1, a2, a3, a4, a5, a6⟩ := k.2.2.2.2.2.2 a hm
        have q69 : q' = 69 := by
          rcases a1 with ⟨c1, rfl⟩ | ⟨c1, c2⟩
          · exact Nat.eq_of_beq_eq_true b1
          · have := Nat.eq_of_beq_eq_true b1; omega
        subst q69
        have q70 : q = 70 := I.1.2.2.1 q 70 (creg_s I.1 k e hr) (by decide)
        subst q70
        obtain ⟨gs, gh, s1, s2, s3⟩ := I.2.1
        rw [hg] at s2
        rw [a2] at s1
        cases s1
        cases s2
        rw [Nat.eq_of_beq_eq_true b2, hj] at a3
        cases a3
        rw [b3] at a6
        have u1 := cub_s k a5
        have l1 := clb_s k a5
        exact s3 _ hjn (by omega) (by omega)
    have k' := dK_new (z := (g (j + o).toNat).toInt) k hb.1 hu
    refine ⟨_, _, _, ρ ++ [(g (j + o).toNat).toInt], (g (j + o).toNat).toInt, hc, ⟨k'.1, k'.2.1, k'.2.2.1, k'.2.2.2.1, k'.2.2.2.2.1, k'.2.2.2.2.2.1, fun u hu => ?_⟩, dX_app _ _, kV_last k.1 _, by omega⟩
    rcases List.mem_cons.mp hu with rfl | hu
    · exact ⟨q, ty, n, g, j, _, hr, hg, dX_app _ _ _ _ hj, hj0, kV_last k.1 _, (Int.add_zero _).symm⟩
    · exact k'.2.2.2.2.2.2 u hu

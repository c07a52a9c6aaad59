-- ===== 40.run: 2 texts =====
section
-- ===== the checker is right =====
theorem ccut_s {X : aX} {Q : cQ} {zs : Int} {lv : Nat} {M : aM} {pc : Nat} {L st : List cW} {K : cK} {es : List cEx} (e : ccut Q pc L st K = some (some es)) {l : aL} {sv : List Value} {h : aH} {σ : List Nat} {ρ : List Int} {rh : List Nat} (hI : dI σ h) (hK : dK σ h ρ rh K) (hL : dL ρ rh L l) (hS : dS ρ rh st sv) (hrk : dRk Q zs ρ) : dRes X Q zs lv true M pc l sv h σ ρ rh es := by
  unfold ccut at e
  split at e
  · cases e
  · rename_i c hc
    have hm := List.mem_of_find?_eq_some hc
    have hp0 := List.find?_some hc
    have hp := Nat.eq_of_beq_eq_true hp0
    simp only [Option.some.injEq] at e
    obtain ⟨K', mu, nu, ρ', e1, e2, e3, e4⟩ := cent_s hI.1 hK e
    obtain ⟨a1, a2, a3, a4⟩ := cver_s hI.1 e2 e4 (dL_mono e3 (dX_refl _) hL) (dS_mono e3 (dX_refl _) hS)
    refine Or.inr ⟨rfl, 0, 0, c, l, sv, h, σ, _, _, hm, fun n d => by rw [hp], hI, dG_refl _ _ _, a1, a2, a3, fun hn => ?_⟩
    cases hs : Q.2.2.2.2.2 with
    | none => exact absurd hs hn
    | some s =>
      rw [hs] at e1
      dsimp only at e1
      cases hr : crk K' mu s c.2.2 with
      | false => rw [hr] at e1; cases e1
      | true => exact crk_s e2 a4 hr (dRv_mono e3 (hrk s hs))
theorem cgo_s {X : aX} {Q : cQ} {zs : Int} {lv : Nat} {top : Bool} {M : aM} {k : Nat → List cW → List cW → cK → Option (List cEx)} (hk : dSnd X Q zs lv top M k) : dSnd X Q zs lv top M (fun pc L st K => cgo Q top pc L st K (k pc L st K)) := by
  intro pc L st K es e l sv h σ ρ rh hI hK hL hS hrk
  dsimp only at e
  unfold cgo at e
  cases top with
  | false => exact hk _ _ _ _ _ e _ _ _ _ _ _ hI hK hL hS hrk
  | true =>
    simp only [cond_true] at e
    split at e
    · exact hk _ _ _ _ _ e _ _ _ _ _ _ hI hK hL hS hrk
    · rename_i x hx
      subst e
      exact ccut_s hx hI hK hL hS hrk
theorem call'_s {K : cK} {W : List (Nat × Nat)} {k : List cW → cK → Option (List cEx)} : ∀ {posts : List cT} {es : List cEx}, call' K W k posts = some es → ∀ P, P ∈ posts → ∃ x, k (P.2.1.map (csw K.1.length K.2.2.2.1.length)) (caft K P.2.2 W) = some x ∧ dSub x es
  | P :: r, es, e, P', hP => by
    have e : cap (k (P.2.1.map (csw K.1.length K.2.2.2.1.length)) (caft K P.2.2 W)) (call' K W k r) = some es := e
    obtain ⟨x, y, a, b, c, d⟩ := cap_s e
    rcases List.mem_cons.mp hP with rfl | hP
    · exact ⟨x, a, c⟩
    · obtain ⟨z, p, q⟩ := call'_s b P' hP
      exact ⟨z, p, dSub_trans q d⟩
theorem cexs_s {k : List cW → cK → Option (List cEx)} : ∀ {l : List cEx} {es : List cEx}, cexs k l = some es → ∀ e, e ∈ l → ∃ x, k e.1 e.2 = some x ∧ dSub x es
  | e0 :: r, es, h, e, he => by
    have h : cap (k e0.1 e0.2) (cexs k r) = some es := h
    obtain ⟨x, y, a, b, c, d⟩ := cap_s h
    rcases List.mem_cons.mp he with rfl | he
    · exact ⟨x, a, c⟩
    · obtain ⟨z, p, q⟩ := cexs_s b e he
      exact ⟨z, p, dSub_trans q d⟩
theorem ctry_s {X : aX} {Q : cQ} {zs : Int} {lv lv' : Nat} {top : Bool} {M Y : aM} {a pc : Nat} (HG : ∀ j, j < Q.2.2.1 → ∀ C, Q.1[j]? = some C → dGood X C) (hY : zmt[a]? = some Y)
    {L : List cW} {K : cK} {l1 : aL} {kk : List cW → cK → Option (List cEx)} {h : aH} {σ : List Nat} {ρ : List Int} {rh : List Nat} {l : aL} {sv : List Value}
    (hI : dI σ h) (hK : dK σ h ρ rh K) (hL : dL ρ rh L l1)
    (hgo : ∀ (rt : List cW) (K' : cK) (es : List cEx), kk rt K' = some es → ∀ (v : Option Value) (h' : aH) (σ' : List Nat) (ρ' : List Int) (rh' : List Nat) (N : Nat), dI σ' h' → dG Q.2.2.2.1 σ h σ' h' → dK σ' h' ρ' rh' K' → dS ρ' rh' rt v.toList → dX ρ ρ' → dX rh rh' → (∀ n d, arun X (n + N) (d + lv') Y 0 l1 [] h = some (v, h')) → dRes X Q zs lv top M pc l sv h σ ρ rh es) :
    ∀ {js : List Nat} {es : List cEx}, (∀ j, j ∈ js → ∀ C, Q.1[j]? = some C → C.1 = a) → ctry Q lv' L K kk js = some es → dRes X Q zs lv top M pc l sv h σ ρ rh es
  | [], es, _, e => by cases e
  | j :: r, es, hj, e => by
    have ih := fun e => ctry_s HG hY hI hK hL hgo (js := r) (es := es) (fun j hjr => hj j (List.mem_cons_of_mem _ hjr)) e
    unfold ctry at e
    split at e
    · rename_i C hC
      cases hb : (Nat.blt j Q.2.2.1 && Nat.ble C.2.1 lv' && C.2.2.1.all (fun w => cWn Q.2.2.2.1 w.1 w.2)) with
      | false => rw [hb] at e; exact ih e
      | true =>
        rw [hb] at e
        simp only [cond_true] at e
        rw [Bool.and_eq_true, Bool.and_eq_true, Nat.blt_eq, Nat.ble_eq] at hb
        obtain ⟨⟨b1, b2⟩, b3⟩ := hb
        cases hce : cent C.2.2.2.1 L [] K (fun K' _ _ => call' K' C.2.2.1 kk C.2.2.2.2.1) with
        | none => rw [hce] at e; exact ih e
        | some x =>
          rw [hce] at e
          simp only [Option.some.injEq] at e
          subst e
          obtain ⟨K', mu, nu, ρ', e1, e2, e3, e4⟩ := cent_s hI.1 hK hce
          obtain ⟨a1, a2, a3, a4⟩ := cver_s hI.1 e2 e4 (dL_mono e3 (dX_refl _) hL) (sv := []) trivial
          obtain ⟨N, v, h', σ', r1, r2, r3, P, hP, ρP, rhP, p1, p2⟩ := HG j b1 C hC Y (by rw [hj j List.mem_cons_self C hC]; exact hY) l1 h σ _ _ hI a1 a2
          obtain ⟨y, y1, y2⟩ := call'_s e1 P hP
          obtain ⟨δ, hδ⟩ : ∃ δ, lv' = δ + C.2.1 := ⟨lv' - C.2.1, by omega⟩
          refine dRes_sub y2 (hgo _ _ _ y1 v h' σ' _ _ N r2 (dG_W (cWn_sub b3) r3) (caft_s hI.1 e2 r3 p1) (csS_s e2.1 p1.1 e2.2.2.2.1.1 p2) (dX_trans e3 (dX_app _ _)) (dX_app _ _) (fun n d => ?_))
          rw [hδ, ← Nat.add_assoc]
          exact r1 n (d + δ)
    · cases e
theorem cws_app : ∀ (a b : List cW), cws (a ++ b) = cws a + cws b
  | [], b => by show cws b = 0 + cws b; omega
  | w :: r, b => by
    show (bif Nat.beq w.1 2 then 2 else 1) + cws (r ++ b) = ((bif Nat.beq w.1 2 then 2 else 1) + cws r) + cws b
    rw [cws_app r b]
    omega
theorem cws_rev : ∀ (a : List cW), cws a.reverse = cws a
  | [] => rfl
  | w :: r => by
    rw [List.reverse_cons, cws_app, cws_rev r]
    show cws r + ((bif Nat.beq w.1 2 then 2 else 1) + 0) = (bif Nat.beq w.1 2 then 2 else 1) + cws r
    omega
section XC
variable {X : aX} {Q : cQ} {zs : Int} {lv : Nat} {top : Bool} {M : aM} {k : Nat → List cW → List cW → cK → Option (List cEx)} {pc len a b : Nat} {L st : List cW} {K : cK} {es : List cEx} {l : aL} {sv : List Value} {h : aH} {σ : List Nat} {ρ : List Int} {rh : List Nat}
theorem m_math {ix : Nat} (hk : dSnd X Q zs (lv + 1) top M k) (hf : aF pc M.2.2.2.2.2.2.2 = some (pc, .invokestatic ix, len, a, b)) (hI : dI σ h) (hK : dK σ h ρ rh K) (hL : dL ρ rh L l) (hS : dS ρ rh st sv) (hrk : dRk Q zs ρ) (e : cmath a K st (fun st' K' => k (pc + 3) L st' K') = some es) : dRes X Q zs (lv + 1) top M pc l sv h σ ρ rh es := by
  unfold cmath at e
  split at e
  · obtain ⟨p, o, q, s, r, x, x', y, y', t, rfl, he, rfl, e1, e2, e3, e4, hS⟩ := cpII_s e hS
    obtain ⟨h8, he⟩ := cit_s he
    have b1 := clo_s (o := o) hK e1
    have b2 := clo_s (o := s) hK e3
    have hv : (if x < x' then x' else x).toInt = cmx x.toInt x'.toInt ∨ ((if x < x' then x' else x).toInt = x.toInt ∧ x'.toInt ≤ x.toInt) ∨ ((if x < x' then x' else x).toInt = x'.toInt ∧ x.toInt ≤ x'.toInt) := by
      by_cases q : x < x'
      · rw [if_pos q]; rw [Int32.lt_iff_toInt_lt] at q; exact Or.inr (Or.inr ⟨rfl, by omega⟩)
      · rw [if_neg q]; rw [Int32.lt_iff_toInt_lt] at q; exact Or.inr (Or.inl ⟨rfl, by omega⟩)
    have m1 := cmx_le (a := clo K p o) (b := clo K q s)
    have m1o := cmx_or (a := clo K p o) (b := clo K q s)
    have m2 := cmx_le (a := chi K p o) (b := chi K q s)
    have m3 := cmx_le (a := x.toInt) (b := x'.toInt)
    have m3o := cmx_or (a := x.toInt) (b := x'.toInt)
    obtain ⟨K', he, hK', e5⟩ := cfr_s he hK (v := (if x < x' then x' else x).toInt) (by dsimp only; omega) (by dsimp only; omega)
    exact dgo hk he (fun n d => r_m1010 (d := d + lv) hf rfl (by rw [cws_s hS]; exact h8) rfl) hI hK' (dX_app _ _) (dX_refl _) (dL_mono (dX_app _ _) (dX_refl _) hL) ⟨w_i e5 (by omega), dS_mono (dX_app _ _) (dX_refl _) hS⟩ hrk (dSub_refl _)
  · obtain ⟨p, o, q, s, r, x, x', y, y', t, rfl, he, rfl, e1, e2, e3, e4, hS⟩ := cpII_s e hS
    obtain ⟨h8, he⟩ := cit_s he
    have b1 := clo_s (o := o) hK e1
    have b2 := clo_s (o := s) hK e3
    have hv : ((if x' < x then x' else x).toInt = x.toInt ∧ x.toInt ≤ x'.toInt) ∨ ((if x' < x then x' else x).toInt = x'.toInt ∧ x'.toInt ≤ x.toInt) := by
      by_cases q : x' < x
      · rw [if_pos q]; rw [Int32.lt_iff_toInt_lt] at q; exact Or.inr ⟨rfl, by omega⟩
      · rw [if_neg q]; rw [Int32.lt_iff_toInt_lt] at q; exact Or.inl ⟨rfl, by omega⟩
    have m1 := cmn_le (a := clo K p o) (b := clo K q s)
    have m2 := cmn_le (a := chi K p o) (b := chi K q s)
    have m2o := cmn_or (a := chi K p o) (b := chi K q s)
    obtain ⟨K', he, hK', e5⟩ := cfr_s he hK (v := (if x' < x then x' else x).toInt) (by dsimp only; omega) (by dsimp only; omega)
    exact dgo hk he (fun n d => r_m1011 (d := d + lv) hf rfl (by rw [cws_s hS]; exact h8) rfl) hI hK' (dX_app _ _) (dX_refl _) (dL_mono (dX_app _ _) (dX_refl _) hL) ⟨w_i e5 (by omega), dS_mono (dX_app _ _) (dX_refl _) hS⟩ hrk (dSub_refl _)
  · obtain ⟨p, o, r, x, y, t, rfl, he, rfl, e1, e2, hS⟩ := cpI_s e hS
    obtain ⟨h8, he⟩ := cit_s he
    have b1 := clo_s (o := o) hK e1
    cases hc : cle 0 (clo K p o) with
    | true =>
      rw [hc] at he
      rw [cle_i] at hc
      have q : 0 ≤ x := by rw [Int32.le_iff_toInt_le, i_zero]; omega
      exact dgo hk he (fun n d => r_m1012 (d := d + lv) hf rfl (by rw [cws_s hS]; exact h8) (if_pos q)) hI hK (dX_refl _) (dX_refl _) hL ⟨w_i e1 e2, hS⟩ hrk (dSub_refl _)
    | false =>
      rw [hc] at he
      simp only [cond_false] at he
      have hR := iR (if 0 ≤ x then x else 0 - x)
      obtain ⟨K', he, hK', e5⟩ := cfr_s he hK (v := (if 0 ≤ x then x else 0 - x).toInt) (by dsimp only; unfold cM32; omega) (by dsimp only; unfold cM32; omega)
      exact dgo hk he (fun n d => r_m1012 (d := d + lv) hf rfl (by rw [cws_s hS]; exact h8) rfl) hI hK' (dX_app _ _) (dX_refl _) (dL_mono (dX_app _ _) (dX_refl _) hL) ⟨w_i e5 (by omega), dS_mono (dX_app _ _) (dX_refl _) hS⟩ hrk (dSub_refl _)
  · obtain ⟨p, o, q, s, r, x, x', y, y', t, rfl, he, rfl, e1, e2, e3, e4, hS⟩ := cpJJ_s e hS
    obtain ⟨h8, he⟩ := cit_s he
    have b1 := clo_s (o := o) hK e1
    have b2 := clo_s (o := s) hK e3
    have hv : ((if x' < x then x else x').toInt = x.toInt ∧ x'.toInt ≤ x.toInt) ∨ ((if x' < x then x else x').toInt = x'.toInt ∧ x.toInt ≤ x'.toInt) := by
      by_cases q : x' < x
      · rw [if_pos q]; rw [Int64.lt_iff_toInt_lt] at q; exact Or.inl ⟨rfl, by omega⟩
      · rw [if_neg q]; rw [Int64.lt_iff_toInt_lt] at q; exact Or.inr ⟨rfl, by omega⟩
    have m1 := cmx_le (a := clo K p o) (b := clo K q s)
    have m1o := cmx_or (a := clo K p o) (b := clo K q s)
    have m2 := cmx_le (a := chi K p o) (b := chi K q s)
    obtain ⟨K', he, hK', e5⟩ := cfr_s he hK (v := (if x' < x then x else x').toInt) (by dsimp only; omega) (by dsimp only; omega)
    exact dgo hk he (fun n d => r_m1013 (d := d + lv) hf rfl (by rw [cws_s hS]; exact h8) rfl) hI hK' (dX_app _ _) (dX_refl _) (dL_mono (dX_app _ _) (dX_refl _) hL) ⟨w_j e5 (by omega), dS_mono (dX_app _ _) (dX_refl _) hS⟩ hrk (dSub_refl _)
  · obtain ⟨p, o, q, s, r, x, x', y, y', t, rfl, he, rfl, e1, e2, e3, e4, hS⟩ := cpJJ_s e hS
    obtain ⟨h8, he⟩ := cit_s he
    have b1 := clo_s (o := o) hK e1
    have b2 := clo_s (o := s) hK e3
    have hv : ((if x' < x then x' else x).toInt = x.toInt ∧ x.toInt ≤ x'.toInt) ∨ ((if x' < x then x' else x).toInt = x'.toInt ∧ x'.toInt ≤ x.toInt) := by
      by_cases q : x' < x
      · rw [if_pos q]; rw [Int64.lt_iff_toInt_lt] at q; exact Or.inr ⟨rfl, by omega⟩
      · rw [if_neg q]; rw [Int64.lt_iff_toInt_lt] at q; exact Or.inl ⟨rfl, by omega⟩
    have m1 := cmn_le (a := clo K p o) (b := clo K q s)
    have m2 := cmn_le (a := chi K p o) (b := chi K q s)
    have m2o := cmn_or (a := chi K p o) (b := chi K q s)
    obtain ⟨K', he, hK', e5⟩ := cfr_s he hK (v := (if x' < x then x' else x).toInt) (by dsimp only; omega) (by dsimp only; omega)
    exact dgo hk he (fun n d => r_m1014 (d := d + lv) hf rfl (by rw [cws_s hS]; exact h8) rfl) hI hK' (dX_app _ _) (dX_refl _) (dL_mono (dX_app _ _) (dX_refl _) hL) ⟨w_j e5 (by omega), dS_mono (dX_app _ _) (dX_refl _) hS⟩ hrk (dSub_refl _)
  · cases e
theorem m_copy {ix : Nat} (hk : dSnd X Q zs (lv + 1) top M k) (hf : aF pc M.2.2.2.2.2.2.2 = some (pc, .invokestatic ix, len, a, b)) (ha : a = 1002) (hI : dI σ h) (hK : dK σ h ρ rh K) (hL : dL ρ rh L l) (hS : dS ρ rh st sv) (hrk : dRk Q zs ρ) (e : ccopy Q.2.2.2.1 K st (fun st' K' => k (pc + 3) L st' K') = some es) : dRes X Q zs (lv + 1) top M pc l sv h σ ρ rh es := by
  unfold ccopy at e
  revert hS
  split at e
  · intro hS
    obtain ⟨_, s1, rfl, ⟨xn, yn, rfl, n1, n2⟩, hT1⟩ := dS_cons hS
    obtain ⟨_, s1, rfl, ⟨xd, yd, rfl, d1, d2⟩, hT2⟩ := dS_cons hT1
    obtain ⟨_, s1, rfl, ⟨q, rfl, hq⟩, hT3⟩ := dS_cons hT2
    obtain ⟨_, s1, rfl, ⟨xs, ys, rfl, s2, s3⟩, hT4⟩ := dS_cons hT3
    obtain ⟨_, s1, rfl, ⟨q0, rfl, hq0⟩, hT5⟩ := dS_cons hT4
    obtain ⟨h8, e⟩ := cit_s e
    obtain ⟨g0, t0, hg0, ht0, e⟩ := cRg_s e
    obtain ⟨g, t, hg, ht, e⟩ := cRg_s e
    obtain ⟨hc, he⟩ := cit_s e
    rw [Bool.and_eq_true, Bool.and_eq_true, Bool.and_eq_true, Bool.and_eq_true, Bool.and_eq_true, Bool.and_eq_true, Bool.and_eq_true, Bool.and_eq_true, Bool.and_eq_true, Bool.not_eq_true', cle_i, cle_i, cle_i, cle_i, cle_i, cle_i, cle_i] at hc
    obtain ⟨⟨⟨⟨⟨⟨⟨⟨⟨hty, c1⟩, c2⟩, c3⟩, c4⟩, c5⟩, c6⟩, c7⟩, hW⟩, hJ⟩ := hc
    dsimp only at n1 n2 d1 d2 s2 s3
    have bn := clo_i hK n1 n2
    have bd := clo_i hK d1 d2
    have bs := clo_i hK s2 s3
    have hs0 := creg_s hI.1 hK hg0 hq0
    have hs := creg_s hI.1 hK hg hq
    obtain ⟨x0, u0, v0⟩ := dH_cell hI.1 hs0 ht0
    obtain ⟨x1, u1, v1⟩ := dH_cell hI.1 hs ht
    have en : xn.toNatClampNeg = xn.toInt.toNat := (Int32.toNat_toInt xn).symm
    have ed : xd.toNatClampNeg = xd.toInt.toNat := (Int32.toNat_toInt xd).symm
    have es' : xs.toNatClampNeg = xs.toInt.toNat := (Int32.toNat_toInt xs).symm
    have hQ : ¬ (xs < 0 ∨ xd < 0 ∨ xn < 0 ∨ t0.2.2.1 < xs.toNatClampNeg + xn.toNatClampNeg ∨ t.2.2.1 < xd.toNatClampNeg + xn.toNatClampNeg) := by
      rw [Int32.lt_iff_toInt_lt, Int32.lt_iff_toInt_lt, Int32.lt_iff_toInt_lt, i_zero, en, ed, es']
      omega
    have hsrc : ∀ i, i < xn.toNatClampNeg → xs.toNatClampNeg + i < t0.2.2.1 := by
      intro i hi
      rw [en] at hi
      rw [es']
      omega
    rw [Bool.or_eq_true, Bool.or_eq_true] at hty
    rcases hty with (hty | hty) | hty
    · rw [Bool.and_eq_true] at hty
      have k0 := Nat.eq_of_beq_eq_true hty.1
      have k1 := Nat.eq_of_beq_eq_true hty.2
      obtain ⟨f, rfl, f2⟩ := dC_2 v0 k0
      obtain ⟨f', rfl, f2'⟩ := dC_2 v1 k1
      have hC : dC σ t (.inl (1, t.2.2.1, .inr (.inl (va_cpy f f' xs.toNatClampNeg xd.toNatClampNeg xn.toNatClampNeg)))) := by
        unfold dC
        rw [k1]
        refine ⟨_, rfl, fun i hi => ?_⟩
        unfold va_cpy
        split
        · rename_i hw
          have := f2 _ (hsrc (i - xd.toNatClampNeg) (by omega))
          omega
        · exact f2' i hi
      obtain ⟨hI', hG'⟩ := dI_arr (W := Q.2.2.2.1) hI hs ht (Or.inr k1) u1 hC hJ hW
      exact dgoH hk he (fun n d => r_cp1 (d := d + lv) hf ha u0 u1 hQ (by rw [cws_s hT5]; exact h8) rfl) hI' hG' (dK_arr hI.1 hK hs u1 (fun u hu => by cases hu)) hL hT5 hrk
    · rw [Bool.and_eq_true, Bool.and_eq_true, Bool.and_eq_true, Bool.and_eq_true, Bool.and_eq_true, cle_i, cle_i] at hty
      obtain ⟨⟨⟨⟨⟨k0, k1⟩, k2⟩, k3⟩, k4⟩, k5⟩ := hty
      have k0 := Nat.eq_of_beq_eq_true k0
      have k1 := Nat.eq_of_beq_eq_true k1
      obtain ⟨f, rfl, f2⟩ := dC_1 v0 k0
      obtain ⟨f', rfl, f2'⟩ := dC_1 v1 k1
      have u0' := u0
      have u1' := u1
      rw [Nat.eq_of_beq_eq_true k2] at u0'
      rw [Nat.eq_of_beq_eq_true k3] at u1'
      have hC : dC σ t (.inl (3, t.2.2.1, .inl (va_cpy f f' xs.toNatClampNeg xd.toNatClampNeg xn.toNatClampNeg))) := by
        unfold dC
        rw [k1, Nat.eq_of_beq_eq_true k3]
        refine ⟨_, rfl, fun i hi => ?_⟩
        unfold va_cpy
        split
        · rename_i hw
          have := f2 _ (hsrc (i - xd.toNatClampNeg) (by omega))
          omega
        · exact f2' i hi
      obtain ⟨hI', hG'⟩ := dI_arr (W := Q.2.2.2.1) hI hs ht (Or.inl k1) u1 hC hJ hW
      refine dgoH hk he (fun n d => r_cp3 (d := d + lv) hf ha u0' u1' hQ ?_ (by rw [cws_s hT5]; exact h8) rfl) hI' hG' (dK_arr hI.1 hK hs u1 (fun u hu => by cases hu)) hL hT5 hrk
      unfold afit
      refine List.all_eq_true.mpr (fun i hi => ?_)
      have := f2 _ (hsrc i (List.mem_range.mp hi))
      have q1 : (-128 : Int32) ≤ f (xs.toNatClampNeg + i) := by rw [Int32.le_iff_toInt_le]; have : (-128 : Int32).toInt = -128 := rfl; omega
      have q2 : f (xs.toNatClampNeg + i) ≤ (127 : Int32) := by rw [Int32.le_iff_toInt_le]; have : (127 : Int32).toInt = 127 := rfl; omega
      show (decide ((-128 : Int32) ≤ f (xs.toNatClampNeg + i)) && decide (f (xs.toNatClampNeg + i) ≤ (127 : Int32))) = true
      rw [decide_eq_true q1, decide_eq_true q2]
      rfl
    · rw [Bool.and_eq_true, Bool.and_eq_true, Bool.and_eq_true] at hty
      obtain ⟨⟨⟨k0, k1⟩, k2⟩, k3⟩ := hty
      have k0 := Nat.eq_of_beq_eq_true k0
      have k1 := Nat.eq_of_beq_eq_true k1
      obtain ⟨f, rfl, f2⟩ := dC_1 v0 k0
      obtain ⟨f', rfl, f2'⟩ := dC_1 v1 k1
      have u0' := u0
      have u1' := u1
      rw [Nat.eq_of_beq_eq_true k2] at u0'
      rw [Nat.eq_of_beq_eq_true k3] at u1'
      have hC : dC σ t (.inl (0, t.2.2.1, .inl (va_cpy f f' xs.toNatClampNeg xd.toNatClampNeg xn.toNatClampNeg))) := by
        unfold dC
        rw [k1, Nat.eq_of_beq_eq_true k3]
        refine ⟨_, rfl, fun i hi => ?_⟩
        unfold va_cpy
        split
        · rename_i hw
          have := f2 _ (hsrc (i - xd.toNatClampNeg) (by omega))
          omega
        · exact f2' i hi
      obtain ⟨hI', hG'⟩ := dI_arr (W := Q.2.2.2.1) hI hs ht (Or.inl k1) u1 hC hJ hW
      exact dgoH hk he (fun n d => r_cp0 (d := d + lv) hf ha u0' u1' hQ (by rw [cws_s hT5]; exact h8) rfl) hI' hG' (dK_arr hI.1 hK hs u1 (fun u hu => by cases hu)) hL hT5 hrk
  · cases e
theorem zIx_b (c : Int32) : -1 ≤ (zIx c).toInt ∧ (zIx c).toInt ≤ 12 := by
  have key : ∀ (l : List Int32) (n : Nat), n + l.length ≤ 13 → -1 ≤ (zIxF c n l).toInt ∧ (zIxF c n l).toInt ≤ 12 := by
    intro l
    induction l with
    | nil => intro n _; show -1 ≤ (-1 : Int32).toInt ∧ (-1 : Int32).toInt ≤ 12; decide
    | cons x r ih =>
      intro n hn
      unfold zIxF
      simp only [List.length_cons] at hn
      split
      · rw [Int32.toInt_ofNat_of_lt (by omega)]; omega
      · exact ih (n + 1) (by omega)
  exact key zNS 0 (by decide)
theorem m_ix {ix : Nat} (hk : dSnd X Q zs (lv + 1) top M k) (hf : aF pc M.2.2.2.2.2.2.2 = some (pc, .invokevirtual ix, len, a, b)) (ha : a = 1001) (hI : dI σ h) (hK : dK σ h ρ rh K) (hL : dL ρ rh L l) (hS : dS ρ rh st sv) (hrk : dRk Q zs ρ) (e : cixo lv K st (fun st' K' => k (pc + 3) L st' K') = some es) : dRes X Q zs (lv + 1) top M pc l sv h σ ρ rh es := by
  unfold cixo at e
  revert hS
  split at e
  · intro hS
    obtain ⟨_, s1, rfl, ⟨x, y, rfl, e1, e2⟩, hT1⟩ := dS_cons hS
    obtain ⟨v, s2, rfl, hv, hT2⟩ := dS_cons hT1
    have hv : v = .retAddr 2 := hv
    subst hv
    obtain ⟨h8', e'⟩ := cit_s e
    obtain ⟨h4, h8⟩ := (Bool.and_eq_true _ _).mp h8'
    obtain ⟨w, rfl⟩ : ∃ w, lv = w + 4 := ⟨lv - 4, by have := Nat.le_of_ble_eq_true h4; omega⟩
    have hb := zIx_b x
    obtain ⟨K', he, hK', e5⟩ := cfr_s e' hK (v := (zIx x).toInt) hb.1 hb.2
    exact dgo hk he (fun n d => r_ix (d := d + w) hf ha (by rw [cws_s hT2]; exact h8) rfl) hI hK' (dX_app _ _) (dX_refl _) (dL_mono (dX_app _ _) (dX_refl _) hL) ⟨w_i e5 (by omega), dS_mono (dX_app _ _) (dX_refl _) hT2⟩ hrk (dSub_refl _)
  · cases e
end XC
theorem cretI_s {σ : List Nat} {h : aH} {ρ : List Int} {rh : List Nat} {K : cK} (k : dK σ h ρ rh K) {ret : Option FieldType} {p : Nat} {o y : Int} {x : Int32} (e : ρ[p]? = some y) (hx : x.toInt = y + o) (g : cretI ret K p o = true) : ret = some .int ∨ (ret = some .boolean ∧ (x = 0 ∨ x = 1)) := by
  unfold cretI at g
  split at g
  · exact Or.inl rfl
  · rw [Bool.and_eq_true, cle_i, cle_i] at g
    have b := clo_s (o := o) k e
    refine Or.inr ⟨rfl, ?_⟩
    rcases (show x.toInt = 0 ∨ x.toInt = 1 by omega) with q | q
    · exact Or.inl (b_i.mpr q)
    · exact Or.inr (b_i.mpr q)
  · cases g
theorem cx_s {X : aX} {Q : cQ} {zs : Int} (hX : X 0 = some (8, zab)) (HG : ∀ j, j < Q.2.2.1 → ∀ C, Q.1[j]? = some C → dGood X C) (hCM : ∀ (a : Nat) (js : List Nat), Q.2.1[a]? = some js → ∀ j, j ∈ js → ∀ C, Q.1[j]? = some C → C.1 = a) : ∀ n lv top M, dSnd X Q zs lv top M (cx Q n lv top M) := by
  intro n
  induction n with
  | zero => intro lv top M pc L st K es e; cases e
  | succ n ih =>
    intro lv top M pc L st K es e l sv h σ ρ rh hI hK hL hS hrk
    have go : ∀ lv top M, dSnd X Q zs lv top M (fun pc L st K => cgo Q top pc L st K (cx Q n lv top M pc L st K)) := fun lv top M => cgo_s (ih lv top M)
    unfold cx at e
    split at e
    · cases e
    · rename_i i hi
      obtain ⟨-, hpc⟩ := aF_some hi
      obtain ⟨pc', ins, len, a, b⟩ := i
      dsimp only at hpc
      subst hpc
      dsimp only at e
      split at e
      · -- ireturn
        revert hS
        split at e
        · intro hS
          obtain ⟨_, s, rfl, ⟨x, y, rfl, e1, e2⟩, hT1⟩ := dS_cons hS
          have := dS_nil hT1
          subst this
          obtain ⟨hc, e⟩ := cit_s e
          simp only [Option.some.injEq] at e
          subst e
          refine Or.inl ⟨1, _, some (.int x), h, σ, ρ, rh, List.mem_singleton.mpr rfl, fun n d => ?_, hI, dG_refl _ _ _, hK, ⟨w_i e1 e2, trivial⟩, dX_refl _, dX_refl _⟩
          rcases cretI_s hK e1 e2 hc with q | ⟨q, q2⟩
          · exact r_ireturn hi q
          · exact r_zreturn hi q q2
        · cases e
      · -- lreturn
        revert hS
        split at e
        · intro hS
          rename_i q
          obtain ⟨_, s, rfl, ⟨x, y, rfl, e1, e2⟩, hT1⟩ := dS_cons hS
          have := dS_nil hT1
          subst this
          simp only [Option.some.injEq] at e
          subst e
          exact Or.inl ⟨1, _, some (.long x), h, σ, ρ, rh, List.mem_singleton.mpr rfl, fun n d => r_lreturn hi (by assumption), hI, dG_refl _ _ _, hK, ⟨w_j e1 e2, trivial⟩, dX_refl _, dX_refl _⟩
        · cases e
      · -- return
        revert hS
        split at e
        · intro hS
          have := dS_nil hS
          subst this
          simp only [Option.some.injEq] at e
          subst e
          exact Or.inl ⟨1, _, none, h, σ, ρ, rh, List.mem_singleton.mpr rfl, fun n d => r_vreturn hi (by assumption), hI, dG_refl _ _ _, hK, trivial, dX_refl _, dX_refl _⟩
        · cases e
      · -- lcmp
        split at e
        · rename_i j hj
          obtain ⟨-, hpj⟩ := aF_some hj
          obtain ⟨pj, insj, lenj, aj, bj⟩ := j
          dsimp only at hpj
          subst hpj
          dsimp only at e
          split at e
          · obtain ⟨p, o, q, s, r, x, x', y, y', t, rfl, he, rfl, e1, e2, e3, e4, hS⟩ := cpJJ_s e hS
            have g := ccmp_s hK e1 e3 he
            rename_i c off _
            cases hb : dBr c x.toInt x'.toInt with
            | true =>
              obtain ⟨K1, x1, he, hs, hK1⟩ := g.1 (by rw [← e2, ← e4]; exact hb)
              refine dRes_step 2 0 (fun n d => ?_) (dG_refl _ _ _) (dX_refl _) (dX_refl _) hs (go lv top M _ _ _ _ _ he _ _ _ _ _ _ hI hK1 hL hS hrk)
              rw [show n + 0 + 2 = (n + 1) + 1 by omega, r_lcmp hi rfl, r_cond hj, dBr_lcmp, hb]
              rfl
            | false =>
              obtain ⟨K1, x1, he, hs, hK1⟩ := g.2 (by rw [← e2, ← e4]; exact hb)
              refine dRes_step 2 0 (fun n d => ?_) (dG_refl _ _ _) (dX_refl _) (dX_refl _) hs (go lv top M _ _ _ _ _ he _ _ _ _ _ _ hI hK1 hL hS hrk)
              rw [show n + 0 + 2 = (n + 1) + 1 by omega, r_lcmp hi rfl, r_cond hj, dBr_lcmp, hb]
              rfl
          · cases e
        · cases e
      · -- invokestatic
        cases lv with
        | zero => cases e
        | succ lv =>
          dsimp only at e
          cases h2 : Nat.beq a 1002 with
          | true =>
            rw [h2] at e
            simp only [cond_true] at e
            exact m_copy (go (lv + 1) top M) hi (Nat.eq_of_beq_eq_true h2) hI hK hL hS hrk e
          | false =>
            rw [h2] at e
            simp only [cond_false] at e
            cases h3 : Nat.ble 1010 a with
            | true =>
              rw [h3] at e
              simp only [cond_true] at e
              exact m_math (go (lv + 1) top M) hi hI hK hL hS hrk e
            | false =>
              rw [h3] at e
              simp only [cond_false] at e
              split at e
              · rename_i Y hY
                obtain ⟨hc, e⟩ := cit_s e
                simp only [Bool.and_eq_true, Nat.ble_eq] at hc
                obtain ⟨⟨⟨c1, c2⟩, c3⟩, c4⟩ := hc
                have c1 := Nat.eq_of_beq_eq_true c1
                obtain ⟨t1, t2⟩ := dS_take Y.2.2.2.2.2.1 hS
                have hst : sv = ((sv.take Y.2.2.2.2.2.1).reverse).reverse ++ sv.drop Y.2.2.2.2.2.1 := by rw [List.reverse_reverse, List.take_append_drop]
                have hn : ((sv.take Y.2.2.2.2.2.1).reverse).length = Y.2.2.2.2.2.1 := by
                  rw [List.length_reverse, List.length_take, dS_len hS]
                  omega
                have hr := dS_rev t1
                have hw : Nat.ble (aws (sv.take Y.2.2.2.2.2.1).reverse) Y.2.2.2.1 = true := by
                  rw [cws_s hr, Nat.ble_eq]
                  have : cws (st.take Y.2.2.2.2.2.1).reverse = cws (st.take Y.2.2.2.2.2.1) := cws_rev _
                  omega
                have h8 : Nat.ble (aws (sv.drop Y.2.2.2.2.2.1)) 8 = true := by rw [cws_s t2, Nat.ble_eq]; exact c4
                have fin : ∀ (rt : List cW) (K' : cK) (es' : List cEx), cgo Q top (pc' + 3) L (rt ++ st.drop Y.2.2.2.2.2.1) K' (cx Q n (lv + 1) top M (pc' + 3) L (rt ++ st.drop Y.2.2.2.2.2.1) K') = some es' → ∀ (v : Option Value) (h' : aH) (σ' : List Nat) (ρ' : List Int) (rh' : List Nat) (N : Nat), dI σ' h' → dG Q.2.2.2.1 σ h σ' h' → dK σ' h' ρ' rh' K' → dS ρ' rh' rt v.toList → dX ρ ρ' → dX rh rh' → (∀ n d, arun X (n + N) (d + lv) Y 0 (aE Y.2.2.2.1 (sv.take Y.2.2.2.2.2.1).reverse) [] h = some (v, h')) → dRes X Q zs (lv + 1) top M pc' l sv h σ ρ rh es' := by
                  intro rt K' es' he' v h' σ' ρ' rh' N i1 i2 i3 i4 i5 i6 i7
                  refine dRes_step 1 N (fun m d => ?_) i2 i5 i6 (dSub_refl _) (go (lv + 1) top M _ _ _ _ _ he' _ _ _ _ _ _ i1 i3 (dL_mono i5 i6 hL) (dS_app i4 (dS_mono i5 i6 t2)) (dRk_mono i5 hrk))
                  exact r_stat (d := d + lv) hi (by rw [h2, h3]; rfl) hY c1 hst hn hw h8 rfl (i7 m d)
                split at e
                · rename_i j js hjs
                  exact ctry_s HG hY hI hK (dL_entry _ hr) fin (hCM a _ hjs) e
                · split at e
                  · rename_i es0 he0
                    have R := ih lv false Y 0 _ _ _ _ he0 _ [] _ _ _ _ hI hK (dL_entry Y.2.2.2.1 hr) trivial hrk
                    rcases R with ⟨N, e1, v, h', σ', ρ', rh', a1, a2, a3, a4, a5, a6, a7, a8⟩ | ⟨ht, _⟩
                    · obtain ⟨x, x1, x2⟩ := cexs_s e e1 a1
                      exact dRes_sub x2 (fin _ _ _ x1 v h' σ' ρ' rh' N a3 a4 a5 a6 a7 a8 a2)
                    · cases ht
                  · cases e
              · cases e
      · -- invokevirtual
        cases lv with
        | zero => cases e
        | succ lv =>
          dsimp only at e
          cases h2 : Nat.beq a 1001 with
          | true =>
            rw [h2] at e
            simp only [cond_true] at e
            exact m_ix (go (lv + 1) top M) hi (Nat.eq_of_beq_eq_true h2) hI hK hL hS hrk e
          | false =>
            rw [h2] at e
            simp only [cond_false] at e
            split at e
            · rename_i Y hY
              obtain ⟨hc, e⟩ := cit_s e
              simp only [Bool.and_eq_true, Nat.ble_eq] at hc
              obtain ⟨c1, c2⟩ := hc
              have c1 := Nat.eq_of_beq_eq_true c1
              obtain ⟨t1, t2⟩ := dS_take Y.2.2.2.2.2.1 hS
              have hlen := dS_len hS
              have hst0 : sv = sv.take Y.2.2.2.2.2.1 ++ sv.drop Y.2.2.2.2.2.1 := (List.take_append_drop _ _).symm
              generalize hdr : st.drop Y.2.2.2.2.2.1 = dr at e t2
              revert t2
              split at e
              · rename_i c _ r
                intro t2
                obtain ⟨_, s, hs, ⟨q, rfl, hq⟩, hT1⟩ := dS_cons t2
                obtain ⟨g, t, hg, ht, e⟩ := cRg_s e
                obtain ⟨hc, e⟩ := cit_s e
                simp only [Bool.and_eq_true, Nat.ble_eq] at hc
                obtain ⟨⟨⟨d1, d2⟩, c3⟩, c4⟩ := hc
                have hsr := creg_s hI.1 hK hg hq
                obtain ⟨c0, u1, u2⟩ := dH_cell hI.1 hsr ht
                obtain ⟨fs, rfl, -, -⟩ := dC_0 u2 (Nat.eq_of_beq_eq_true d1)
                rw [Nat.eq_of_beq_eq_true d2] at u1
                have hst : sv = ((sv.take Y.2.2.2.2.2.1).reverse).reverse ++ .ref q :: s := by rw [List.reverse_reverse, ← hs]; exact hst0
                have hn : ((sv.take Y.2.2.2.2.2.1).reverse).length = Y.2.2.2.2.2.1 := by
                  rw [List.length_reverse, List.length_take, hlen]
                  omega
                have hr : dS ρ rh ((3, c, 0) :: (st.take Y.2.2.2.2.2.1).reverse) (.ref q :: (sv.take Y.2.2.2.2.2.1).reverse) := ⟨⟨q, rfl, hq⟩, dS_rev t1⟩
                have hw : Nat.ble (aws (.ref q :: (sv.take Y.2.2.2.2.2.1).reverse)) Y.2.2.2.1 = true := by
                  rw [cws_s hr, Nat.ble_eq]
                  have : cws (st.take Y.2.2.2.2.2.1).reverse = cws (st.take Y.2.2.2.2.2.1) := cws_rev _
                  show (bif Nat.beq 3 2 then 2 else 1) + cws (st.take Y.2.2.2.2.2.1).reverse ≤ _
                  rw [show Nat.beq 3 2 = false from rfl]
                  simp only [cond_false]
                  omega
                have h8 : Nat.ble (aws s) 8 = true := by rw [cws_s hT1, Nat.ble_eq]; exact c4
                have fin : ∀ (rt : List cW) (K' : cK) (es' : List cEx), cgo Q top (pc' + 3) L (rt ++ r) K' (cx Q n (lv + 1) top M (pc' + 3) L (rt ++ r) K') = some es' → ∀ (v : Option Value) (h' : aH) (σ' : List Nat) (ρ' : List Int) (rh' : List Nat) (N : Nat), dI σ' h' → dG Q.2.2.2.1 σ h σ' h' → dK σ' h' ρ' rh' K' → dS ρ' rh' rt v.toList → dX ρ ρ' → dX rh rh' → (∀ n d, arun X (n + N) (d + lv) Y 0 (aE Y.2.2.2.1 (.ref q :: (sv.take Y.2.2.2.2.2.1).reverse)) [] h = some (v, h')) → dRes X Q zs (lv + 1) top M pc' l sv h σ ρ rh es' := by
                  intro rt K' es' he' v h' σ' ρ' rh' N i1 i2 i3 i4 i5 i6 i7
                  refine dRes_step 1 N (fun m d => ?_) i2 i5 i6 (dSub_refl _) (go (lv + 1) top M _ _ _ _ _ he' _ _ _ _ _ _ i1 i3 (dL_mono i5 i6 hL) (dS_app i4 (dS_mono i5 i6 hT1)) (dRk_mono i5 hrk))
                  exact r_virt (d := d + lv) hi u1 hY c1 hst hn hw h8 rfl (i7 m d)
                split at e
                · rename_i j js hjs
                  exact ctry_s HG hY hI hK (dL_entry _ hr) fin (hCM a _ hjs) e
                · split at e
                  · rename_i es0 he0
                    have R := ih lv false Y 0 _ _ _ _ he0 _ [] _ _ _ _ hI hK (dL_entry Y.2.2.2.1 hr) trivial hrk
                    rcases R with ⟨N, e1, v, h', σ', ρ', rh', a1, a2, a3, a4, a5, a6, a7, a8⟩ | ⟨ht, _⟩
                    · obtain ⟨x, x1, x2⟩ := cexs_s e e1 a1
                      exact dRes_sub x2 (fin _ _ _ x1 v h' σ' ρ' rh' N a3 a4 a5 a6 a7 a8 a2)
                    · cases ht
                  · cases e
              · cases e
            · cases e
      · -- the others
        exact x_all hX (go lv top M) ins _ _ _ _ _ _ _ _ _ _ hI hK hL hS hrk hi e
end
section
-- ===== a contract that the checker takes holds =====
theorem cpst_s {posts : List cT} {es : List cEx} (g : cpst posts es = true) {e : cEx} (he : e ∈ es) {σ : List Nat} {h : aH} {ρ : List Int} {rh : List Nat} {v : Option Value} (H : dH σ h) (k : dK σ h ρ rh e.2) (hS : dS ρ rh e.1 v.toList) : ∃ P, P ∈ posts ∧ dPost P σ h v := by
  unfold cpst at g
  obtain ⟨P, hP, g⟩ := List.any_eq_true.mp (List.all_eq_true.mp g e he)
  cases hc : cent P [] e.1 e.2 (fun _ _ _ => some ()) with
  | none => rw [hc] at g; cases g
  | some x =>
    obtain ⟨K', mu, nu, ρ', e1, e2, e3, e4⟩ := cent_s H k hc
    obtain ⟨a1, -, a3, -⟩ := cver_s H e2 e4 (L := []) (l := []) ⟨rfl, fun i w q => by simp at q⟩ (dS_mono e3 (dX_refl _) hS)
    exact ⟨P, hP, _, _, a1, a3⟩
theorem dEnd_of {X : aX} {C : cC} {M : aM} {pc pc' : Nat} {l l' : aL} {sv sv' : List Value} {σ σ' : List Nat} {h h' : aH} {N E : Nat} (hr : ∀ n d, arun X (n + E + N) (d + C.2.1) M pc l sv h = arun X (n + E) (d + C.2.1) M pc' l' sv' h') (hG : dG C.2.2.1 σ h σ' h') (e : dEnd X C M pc' l' sv' σ' h') : dEnd X C M pc l sv σ h := by
  obtain ⟨N2, v, h2, σ2, a1, a2, a3, a4⟩ := e
  refine ⟨N2 + E + N, v, h2, σ2, fun n d => ?_, a2, dG_trans hG a3, a4⟩
  rw [show n + (N2 + E + N) = (n + N2) + E + N by omega, hr, show n + N2 + E = (n + E) + N2 by omega]
  exact a1 _ _
theorem cchk_s {X : aX} {CT : List cC} {CM : List (List Nat)} {n k : Nat} (hX : X 0 = some (8, zab)) (hCM : ∀ (a : Nat) (js : List Nat), CM[a]? = some js → ∀ j, j ∈ js → ∀ C, CT[j]? = some C → C.1 = a) (HG : ∀ j, j < k → ∀ C, CT[j]? = some C → dGood X C) (g : cchk CT CM n k = true) : ∀ C, CT[k]? = some C → dGood X C := by
  intro C hC M hM
  unfold cchk at g
  rw [hC] at g
  dsimp only at g
  rw [Bool.and_eq_true, Bool.and_eq_true] at g
  obtain ⟨⟨g1, g2⟩, g3⟩ := g
  -- a segment from a cut
  have seg : ∀ (r : Nat) (c : Nat × cT × cRk), c ∈ C.2.2.2.2.2 → ∀ (l : aL) (sv : List Value) (h : aH) (σ : List Nat) (ρ : List Int) (rh : List Nat) (w : Int), dI σ h → dK σ h ρ rh c.2.1.2.2 → dL ρ rh c.2.1.1 l → dS ρ rh c.2.1.2.1 sv → dRv ρ c.2.2.2 (w - c.2.2.1) → w < r → dEnd X C M c.1 l sv σ h := by
    intro r
    induction r with
    | zero =>
      intro c hc l sv h σ ρ rh w hI hK hL hS hw hr
      exfalso
      have := List.all_eq_true.mp g3 c hc
      rw [Bool.and_eq_true] at this
      have h1 := this.1
      unfold crk0 at h1
      rw [Bool.and_eq_true, cle_i] at h1
      have h1 := h1.1
      have h2 := clin_s hK (c.2.2.2.map (fun z => (-z.1, z.2)))
      have h3 : evL ρ (c.2.2.2.map (fun z => (-z.1, z.2))) = -evL ρ c.2.2.2 := by
        generalize c.2.2.2 = q
        induction q with
        | nil => rfl
        | cons u r ih =>
          simp only [List.map_cons, evL_cons, ih, Int.neg_mul]
          omega
      have h4 := evL_rv hw
      omega
    | succ r ih =>
      intro c hc l sv h σ ρ rh w hI hK hL hS hw hr
      have := List.all_eq_true.mp g3 c hc
      rw [Bool.and_eq_true] at this
      have h1 := this.2
      unfold cseg at h1
      rw [hM] at h1
      dsimp only at h1
      split at h1
      · rename_i es he
        have R := cx_s (zs := w) hX (Q := (CT, CM, k, C.2.2.1, C.2.2.2.2.2, some c.2.2)) HG hCM n C.2.1 true M _ _ _ _ _ he _ _ _ _ _ _ hI hK hL hS (fun s hs => by
          simp only [Option.some.injEq] at hs
          subst hs
          exact hw)
        rcases R with ⟨N, e, v, h', σ', ρ', rh', a1, a2, a3, a4, a5, a6, a7, a8⟩ | ⟨-, N, E, c', l', sv', h', σ', ρ', rh', a1, a2, a3, a4, a5, a6, a7, a8⟩
        · exact ⟨N, v, h', σ', a2, a3, a4, cpst_s h1 a1 a3.1 a5 a6⟩
        · obtain ⟨w', b1, b2⟩ := a8 (by simp)
          exact dEnd_of a2 a4 (ih c' a1 l' sv' h' σ' ρ' rh' w' a3 a5 a6 a7 b1 (by omega))
      · cases h1
  intro l h σ ρ rh hI hK hL
  unfold cseg at g1
  rw [hM] at g1
  dsimp only at g1
  split at g1
  · rename_i es he
    have h0 : C.2.2.2.1.2.1 = [] := List.length_eq_zero_iff.mp (Nat.eq_of_beq_eq_true g2)
    have R := cx_s (zs := 0) hX (Q := (CT, CM, k, C.2.2.1, C.2.2.2.2.2, none)) HG hCM n C.2.1 true M _ _ _ _ _ he _ [] _ _ _ _ hI hK hL (by rw [h0]; trivial) (fun s hs => by cases hs)
    rcases R with ⟨N, e, v, h', σ', ρ', rh', a1, a2, a3, a4, a5, a6, a7, a8⟩ | ⟨-, N, E, c', l', sv', h', σ', ρ', rh', a1, a2, a3, a4, a5, a6, a7, a8⟩
    · exact ⟨N, v, h', σ', a2, a3, a4, cpst_s g1 a1 a3.1 a5 a6⟩
    · have hrt : ∀ u, u ∈ c'.2.2.2 → ∃ y, ρ'[u.2]? = some y := by
        have := List.all_eq_true.mp g3 c' a1
        rw [Bool.and_eq_true] at this
        have h1 := this.1
        unfold crk0 at h1
        rw [Bool.and_eq_true] at h1
        intro u hu
        have h2 := List.all_eq_true.mp h1.2 u hu
        rw [Nat.blt_eq, ← a5.1.1] at h2
        exact ⟨_, List.getElem?_eq_getElem h2⟩
      have hv := evL_of hrt
      exact dEnd_of a2 a4 (seg ((c'.2.2.1 + evL ρ' c'.2.2.2).toNat + 1) c' a1 l' sv' h' σ' ρ' rh' (c'.2.2.1 + evL ρ' c'.2.2.2) a3 a5 a6 a7 (by rw [show c'.2.2.1 + evL ρ' c'.2.2.2 - c'.2.2.1 = evL ρ' c'.2.2.2 by omega]; exact hv) (by omega))
  · cases g1
end

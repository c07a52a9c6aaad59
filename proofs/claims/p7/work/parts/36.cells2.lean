-- ===== instructions that look at cells, switches =====
theorem clo_i {σ : List Nat} {h : aH} {ρ : List Int} {rh : List Nat} {K : cK} (k : dK σ h ρ rh K) {p : Nat} {o y x : Int} (e : ρ[p]? = some y) (hx : x = y + o) : clo K p o ≤ x ∧ x ≤ chi K p o := by
  rw [hx]
  exact clo_s k e
theorem dsw {x : Int32} {X : aX} {Q : cQ} {zs : Int} {lv : Nat} {top : Bool} {M : aM} {k : Nat → List cW → List cW → cK → Option (List cEx)} (hk : dSnd X Q zs lv top M k) {pc : Nat} {L r : List cW} {l : aL} {sv sr : List Value} {h : aH} {σ : List Nat} {ρ : List Int} {rh : List Nat} (hI : dI σ h) (hL : dL ρ rh L l) (hS : dS ρ rh r sr) (hrk : dRk Q zs ρ) {p : Nat} {o y : Int} (e1 : ρ[p]? = some y) (e2 : x.toInt = y + o) (d : Int) :
    ∀ (offs : List Int) (lo : Int) (K : cK) (es : List cEx), (∀ j : Nat, j < offs.length → -2147483648 ≤ lo + j ∧ lo + j ≤ 2147483647) → dK σ h ρ rh K → ctsw p o (fun a K' => k ((pc : Int) + a).toNat L r K') d lo offs K = some es →
      (∀ n dd, arun X (n + 1) (dd + lv) M pc l sv h = asw x (fun q => arun X n (dd + lv) M ((pc : Int) + q).toNat l sr h) d lo offs) → dRes X Q zs lv top M pc l sv h σ ρ rh es
  | [], lo, K, es, _, hK, hc, hs => dgo hk (show k ((pc : Int) + d).toNat L r K = some es from hc) (fun n dd => hs n dd) hI hK (dX_refl _) (dX_refl _) hL hS hrk (dSub_refl _)
  | a :: rest, lo, K, es, hin, hK, hc, hs => by
    have hc : cap (cbr (cneq K p o 0 lo) (fun K' => k ((pc : Int) + a).toNat L r K')) (cbr (cnne K p o 0 lo) (fun K' => ctsw p o (fun a K' => k ((pc : Int) + a).toNat L r K') d (lo + 1) rest K')) = some es := hc
    obtain ⟨x1, x2, a1, a2, s1, s2⟩ := cap_s hc
    have hl := hin 0 (by simp)
    have hlo : (Int32.ofInt lo).toInt = lo := Int32.toInt_ofInt_of_le (by omega) (by omega)
    by_cases q : x = Int32.ofInt lo
    · obtain ⟨K1, w, hK1⟩ := cneq_s (o := o) (r := lo) hK e1 (z0 hK) (by rw [q, hlo] at e2; omega)
      exact dgo hk (cbr_s a1 w) (fun n dd => by rw [hs, asw_t q]) hI hK1 (dX_refl _) (dX_refl _) hL hS hrk s1
    · obtain ⟨K1, w, hK1⟩ := cnne_s (o := o) (r := lo) hK e1 (z0 hK) (fun c => q (by rw [b_i, hlo]; omega))
      have R := dsw hk hI hL hS hrk e1 e2 d rest (lo + 1) K1 x2 (fun j hj => by have := hin (j + 1) (by simp; omega); omega) hK1 (cbr_s a2 w) (fun n dd => by rw [hs, asw_f q])
      exact dRes_sub s2 R
theorem dlw {x : Int32} {X : aX} {Q : cQ} {zs : Int} {lv : Nat} {top : Bool} {M : aM} {k : Nat → List cW → List cW → cK → Option (List cEx)} (hk : dSnd X Q zs lv top M k) {pc : Nat} {L r : List cW} {l : aL} {sv sr : List Value} {h : aH} {σ : List Nat} {ρ : List Int} {rh : List Nat} (hI : dI σ h) (hL : dL ρ rh L l) (hS : dS ρ rh r sr) (hrk : dRk Q zs ρ) {p : Nat} {o y : Int} (e1 : ρ[p]? = some y) (e2 : x.toInt = y + o) (d : Int) :
    ∀ (ps : List (Int × Int)) (K : cK) (es : List cEx), (∀ a, a ∈ ps → -2147483648 ≤ a.1 ∧ a.1 ≤ 2147483647) → dK σ h ρ rh K → clsw p o (fun a K' => k ((pc : Int) + a).toNat L r K') d ps K = some es →
      (∀ n dd, arun X (n + 1) (dd + lv) M pc l sv h = alw x (fun q => arun X n (dd + lv) M ((pc : Int) + q).toNat l sr h) d ps) → dRes X Q zs lv top M pc l sv h σ ρ rh es
  | [], K, es, _, hK, hc, hs => dgo hk (show k ((pc : Int) + d).toNat L r K = some es from hc) (fun n dd => hs n dd) hI hK (dX_refl _) (dX_refl _) hL hS hrk (dSub_refl _)
  | a :: rest, K, es, hin, hK, hc, hs => by
    have hc : cap (cbr (cneq K p o 0 a.1) (fun K' => k ((pc : Int) + a.2).toNat L r K')) (cbr (cnne K p o 0 a.1) (fun K' => clsw p o (fun a K' => k ((pc : Int) + a).toNat L r K') d rest K')) = some es := hc
    obtain ⟨x1, x2, a1, a2, s1, s2⟩ := cap_s hc
    have hl := hin a List.mem_cons_self
    have hlo : (Int32.ofInt a.1).toInt = a.1 := Int32.toInt_ofInt_of_le (by omega) (by omega)
    by_cases q : x = Int32.ofInt a.1
    · obtain ⟨K1, w, hK1⟩ := cneq_s (o := o) (r := a.1) hK e1 (z0 hK) (by rw [q, hlo] at e2; omega)
      exact dgo hk (cbr_s a1 w) (fun n dd => by rw [hs, alw_t q]) hI hK1 (dX_refl _) (dX_refl _) hL hS hrk s1
    · obtain ⟨K1, w, hK1⟩ := cnne_s (o := o) (r := a.1) hK e1 (z0 hK) (fun c => q (by rw [b_i, hlo]; omega))
      have R := dlw hk hI hL hS hrk e1 e2 d rest K1 x2 (fun b hb => hin b (List.mem_cons_of_mem _ hb)) hK1 (cbr_s a2 w) (fun n dd => by rw [hs, alw_f q])
      exact dRes_sub s2 R
section XH
variable {X : aX} {Q : cQ} {zs : Int} {lv : Nat} {top : Bool} {M : aM} {k : Nat → List cW → List cW → cK → Option (List cEx)} {pc len a b : Nat}
theorem x_ifnull {z : Int} (hk : dSnd X Q zs lv top M k) : dOk X Q zs lv top M k pc (.ifnull z) len a b := by
  intro L st K es l sv h σ ρ rh hI hK hL hS hrk hf he
  have he : (match (generalizing := false) st with
    | (3, _, _) :: r => k (pc + 3) L r K
    | (4, _, _) :: r => k a L r K
    | _ => none) = some es := he
  revert hS
  split at he
  · intro hS
    obtain ⟨v, s, rfl, ⟨q, rfl, -⟩, hT1⟩ := dS_cons hS
    exact dgo hk he (fun n d => r_ifnull_r hf) hI hK (dX_refl _) (dX_refl _) hL hT1 hrk (dSub_refl _)
  · intro hS
    obtain ⟨v, s, rfl, hw, hT1⟩ := dS_cons hS
    have hw : v = .null := hw
    subst hw
    exact dgo hk he (fun n d => r_ifnull_n hf) hI hK (dX_refl _) (dX_refl _) hL hT1 hrk (dSub_refl _)
  · cases he
theorem x_ifnonnull {z : Int} (hk : dSnd X Q zs lv top M k) : dOk X Q zs lv top M k pc (.ifnonnull z) len a b := by
  intro L st K es l sv h σ ρ rh hI hK hL hS hrk hf he
  have he : (match (generalizing := false) st with
    | (3, _, _) :: r => k a L r K
    | (4, _, _) :: r => k (pc + 3) L r K
    | _ => none) = some es := he
  revert hS
  split at he
  · intro hS
    obtain ⟨v, s, rfl, ⟨q, rfl, -⟩, hT1⟩ := dS_cons hS
    exact dgo hk he (fun n d => r_ifnonnull_r hf) hI hK (dX_refl _) (dX_refl _) hL hT1 hrk (dSub_refl _)
  · intro hS
    obtain ⟨v, s, rfl, hw, hT1⟩ := dS_cons hS
    have hw : v = .null := hw
    subst hw
    exact dgo hk he (fun n d => r_ifnonnull_n hf) hI hK (dX_refl _) (dX_refl _) hL hT1 hrk (dSub_refl _)
  · cases he
theorem x_tableswitch {dd lo hi : Int} {offs : Array Int} (hk : dSnd X Q zs lv top M k) : dOk X Q zs lv top M k pc (.tableswitch dd lo hi offs) len a b := by
  intro L st K es l sv h σ ρ rh hI hK hL hS hrk hf he
  obtain ⟨hc, he⟩ := cit_s (show cit (cle (-2147483648) lo && cle (lo + (offs.toList.length : Int)) 2147483647) (cpI st (fun p o r => ctsw p o (fun a K' => k ((pc : Int) + a).toNat L r K') dd lo offs.toList K)) = some es from he)
  rw [Bool.and_eq_true, cle_i, cle_i] at hc
  obtain ⟨p, o, r, x, y, t, rfl, he, rfl, e1, e2, hS⟩ := cpI_s (show cpI st (fun p o r => ctsw p o (fun a K' => k ((pc : Int) + a).toNat L r K') dd lo offs.toList K) = some es from he) hS
  exact dsw hk hI hL hS hrk e1 e2 dd offs.toList lo K es (fun j hj => by omega) hK he (fun n d => r_tsw hf)
theorem x_lookupswitch {dd : Int} {ps : Array (Int × Int)} (hk : dSnd X Q zs lv top M k) : dOk X Q zs lv top M k pc (.lookupswitch dd ps) len a b := by
  intro L st K es l sv h σ ρ rh hI hK hL hS hrk hf he
  obtain ⟨hc, he⟩ := cit_s (show cit (ps.toList.all (fun a => cle (-2147483648) a.1 && cle a.1 2147483647)) (cpI st (fun p o r => clsw p o (fun a K' => k ((pc : Int) + a).toNat L r K') dd ps.toList K)) = some es from he)
  have hin : ∀ a, a ∈ ps.toList → -2147483648 ≤ a.1 ∧ a.1 ≤ 2147483647 := fun a ha => by
    have := List.all_eq_true.mp hc a ha
    rw [Bool.and_eq_true, cle_i, cle_i] at this
    exact this
  obtain ⟨p, o, r, x, y, t, rfl, he, rfl, e1, e2, hS⟩ := cpI_s (show cpI st (fun p o r => clsw p o (fun a K' => k ((pc : Int) + a).toNat L r K') dd ps.toList K) = some es from he) hS
  exact dlw hk hI hL hS hrk e1 e2 dd ps.toList K es hin hK he (fun n d => r_lsw hf)
theorem x_getfield {z : Nat} (hk : dSnd X Q zs lv top M k) : dOk X Q zs lv top M k pc (.getfield z) len a b := by
  intro L st K es l sv h σ ρ rh hI hK hL hS hrk hf he
  have he : (match (generalizing := false) st with
    | (3, c, _) :: r => cRg K c fun _ t => cit (Nat.beq t.1 0 && Nat.beq t.2.1 a) (match t.2.2.2.2.2[b]? with
      | some ty => (match ty.1 with
        | 4 => cit (Nat.blt ty.2.1.toNat 146 && Nat.blt ty.2.2.toNat 146) (cap (k (pc + 3) L ((3, ty.2.1.toNat, 0) :: r) K) (k (pc + 3) L ((3, ty.2.2.toNat, 0) :: r) K))
        | _ => cld K c b ty fun K' w => k (pc + 3) L (w :: r) K')
      | none => none)
    | _ => none) = some es := he
  revert hS
  split at he
  · intro hS
    obtain ⟨v, s, rfl, ⟨q, rfl, hq⟩, hT1⟩ := dS_cons hS
    obtain ⟨g, t, hg, ht, he1⟩ := cRg_s he
    obtain ⟨hc, he2⟩ := cit_s he1
    clear he he1
    rw [Bool.and_eq_true] at hc
    have h0 := Nat.eq_of_beq_eq_true hc.1
    have ha := Nat.eq_of_beq_eq_true hc.2
    subst ha
    cases hty : t.2.2.2.2.2[b]? with
    | none => rw [hty] at he2; cases he2
    | some ty =>
      rw [hty] at he2
      have he : (match (generalizing := false) ty.1 with
        | 4 => cit (Nat.blt ty.2.1.toNat 146 && Nat.blt ty.2.2.toNat 146) (cap (k (pc + 3) L ((3, ty.2.1.toNat, 0) :: _) K) (k (pc + 3) L ((3, ty.2.2.toNat, 0) :: _) K))
        | _ => cld K _ b ty fun K' w => k (pc + 3) L (w :: _) K') = some es := he2
      clear he2
      split at he
      · rename_i h4
        obtain ⟨hb4, he⟩ := cit_s he
        rw [Bool.and_eq_true, Nat.blt_eq, Nat.blt_eq] at hb4
        obtain ⟨x1, x2, a1, a2, s1, s2⟩ := cap_s he
        have hs := creg_s hI.1 hK hg hq
        obtain ⟨c0, d1, d2⟩ := dH_cell hI.1 hs ht
        obtain ⟨fs, f1, f2, f3⟩ := dC_0 d2 h0
        subst f1
        obtain ⟨v, v1, v2⟩ := f3 b ty hty
        unfold dT at v2
        rw [h4] at v2
        rcases v2 with rfl | rfl
        · exact dgo hk a1 (fun n d => r_get hf d1 v1) hI hK (dX_refl _) (dX_refl _) hL ⟨⟨_, rfl, Or.inl ⟨hb4.1, rfl⟩⟩, hT1⟩ hrk s1
        · exact dgo hk a2 (fun n d => r_get hf d1 v1) hI hK (dX_refl _) (dX_refl _) hL ⟨⟨_, rfl, Or.inl ⟨hb4.2, rfl⟩⟩, hT1⟩ hrk s2
      · obtain ⟨K', w, ρ', rh', fs, v, he, hK', hx, hr, c1, c2, hw⟩ := cld_s hI.1 hK he hq hg ht h0 hty
        exact dgo hk he (fun n d => r_get hf c1 c2) hI hK' hx hr (dL_mono hx hr hL) ⟨hw, dS_mono hx hr hT1⟩ hrk (dSub_refl _)
  · cases he
/-- a step to pc', a cell set -/
theorem dgoH (hk : dSnd X Q zs lv top M k) {pc' : Nat} {L' st' : List cW} {K' : cK} {l l' : aL} {sv sv' : List Value} {h h1 : aH} {σ : List Nat} {ρ : List Int} {rh : List Nat} {es : List cEx}
    (he : k pc' L' st' K' = some es) (hs : ∀ n d, arun X (n + 1) (d + lv) M pc l sv h = arun X n (d + lv) M pc' l' sv' h1) (hI : dI σ h1) (hG : dG Q.2.2.2.1 σ h σ h1) (hK : dK σ h1 ρ rh K') (hL : dL ρ rh L' l') (hS : dS ρ rh st' sv') (hrk : dRk Q zs ρ) : dRes X Q zs lv top M pc l sv h σ ρ rh es :=
  dRes_step 1 0 hs hG (dX_refl _) (dX_refl _) (dSub_refl _) (hk _ _ _ _ _ he _ _ _ _ _ _ hI hK hL hS hrk)
theorem aok_of {t : FieldType} {x : Int32} (h : (match cisZ t with
    | 1 => true
    | 2 => cle 0 x.toInt && cle x.toInt 1
    | _ => false) = true) : aok t (.int x) = true := by
  cases t <;> first | rfl | (exact absurd (show false = true from h) (by decide)) | skip
  have h : (cle 0 x.toInt && cle x.toInt 1) = true := h
  rw [Bool.and_eq_true, cle_i, cle_i] at h
  have : x = 0 ∨ x = 1 := by
    rcases (show x.toInt = 0 ∨ x.toInt = 1 by omega) with q | q
    · exact Or.inl (b_i.mpr q)
    · exact Or.inr (b_i.mpr q)
  rcases this with rfl | rfl <;> rfl
theorem aok_ref {t : FieldType} {q : Nat} (h : Nat.beq (cisZ t) 3 = true) : aok t (.ref q) = true := by
  cases t <;> first | rfl | (cases h; done)
theorem x_putfield {z : Nat} (hk : dSnd X Q zs lv top M k) : dOk X Q zs lv top M k pc (.putfield z) len a b := by
  intro L st K es l sv h σ ρ rh hI hK hL hS hrk hf he
  have he : (match (generalizing := false) st with
    | v :: (3, c, _) :: r => cRg K c fun g t => cit (Nat.beq t.1 0 && Nat.beq t.2.1 a && !((zT a b).2.2.2) && cWn Q.2.2.2.1 g b && !(cJs g b)) (match t.2.2.2.2.2[b]? with
      | some ty => (match ty.1 with
        | 0 => cit (Nat.beq v.1 1 && cle ty.2.1 (clo K v.2.1 v.2.2) && cle (chi K v.2.1 v.2.2) ty.2.2 && (match cisZ (zY a b) with
          | 1 => true
          | 2 => cle 0 (clo K v.2.1 v.2.2) && cle (chi K v.2.1 v.2.2) 1
          | _ => false)) (k (pc + 3) L r (csF K g b c v))
        | 4 => cit (Nat.beq v.1 3 && (Nat.beq v.2.1 ty.2.1.toNat || Nat.beq v.2.1 ty.2.2.toNat) && Nat.blt v.2.1 146 && Nat.beq (cisZ (zY a b)) 3) (k (pc + 3) L r (K.1, K.2.1, K.2.2.1, K.2.2.2.1, K.2.2.2.2.1.filter (fun t => !(Nat.beq t.2.1 b)), K.2.2.2.2.2))
        | _ => none)
      | none => none)
    | _ => none) = some es := he
  revert hS
  split at he
  · intro hS
    rename_i v c _ r _
    obtain ⟨vv, s, rfl, hv, hT1⟩ := dS_cons hS
    obtain ⟨_, s, rfl, ⟨q, rfl, hq⟩, hT2⟩ := dS_cons hT1
    obtain ⟨g, t, hg, ht, he1⟩ := cRg_s he
    obtain ⟨hc, he2⟩ := cit_s he1
    clear he he1
    simp only [Bool.and_eq_true, Bool.not_eq_true'] at hc
    obtain ⟨⟨⟨⟨h0, ha⟩, hfin⟩, hW⟩, hJ⟩ := hc
    have h0 := Nat.eq_of_beq_eq_true h0
    have ha := Nat.eq_of_beq_eq_true ha
    subst ha
    have hs := creg_s hI.1 hK hg hq
    obtain ⟨c0, d1, d2⟩ := dH_cell hI.1 hs ht
    obtain ⟨fs, f1, f2, f3⟩ := dC_0 d2 h0
    subst f1
    cases hty : t.2.2.2.2.2[b]? with
    | none => rw [hty] at he2; cases he2
    | some ty =>
      rw [hty] at he2
      have hbl : b < fs.length := by rw [f2]; exact (List.getElem?_eq_some_iff.mp hty).1
      have he : (match (generalizing := false) ty.1 with
        | 0 => cit (Nat.beq v.1 1 && cle ty.2.1 (clo K v.2.1 v.2.2) && cle (chi K v.2.1 v.2.2) ty.2.2 && (match cisZ (zY t.2.1 b) with
          | 1 => true
          | 2 => cle 0 (clo K v.2.1 v.2.2) && cle (chi K v.2.1 v.2.2) 1
          | _ => false)) (k (pc + 3) L r (csF K g b c v))
        | 4 => cit (Nat.beq v.1 3 && (Nat.beq v.2.1 ty.2.1.toNat || Nat.beq v.2.1 ty.2.2.toNat) && Nat.blt v.2.1 146 && Nat.beq (cisZ (zY t.2.1 b)) 3) (k (pc + 3) L r (K.1, K.2.1, K.2.2.1, K.2.2.2.1, K.2.2.2.2.1.filter (fun t => !(Nat.beq t.2.1 b)), K.2.2.2.2.2))
        | _ => none) = some es := he2
      clear he2
      split at he
      · rename_i hk0
        obtain ⟨hc, he⟩ := cit_s he
        rw [Bool.and_eq_true, Bool.and_eq_true, Bool.and_eq_true, cle_i, cle_i] at hc
        obtain ⟨⟨⟨hv1, hlo⟩, hhi⟩, hz⟩ := hc
        have hv1 := Nat.eq_of_beq_eq_true hv1
        have hvw := hv
        unfold dW at hv
        rw [hv1] at hv
        obtain ⟨x, y, rfl, e1, e2⟩ := hv
        have b1 := clo_s (o := v.2.2) hK e1
        have hdT : dT σ ty (.int x) := by
          unfold dT
          rw [hk0]
          exact ⟨x, rfl, by omega, by omega⟩
        have hok : aok (zY t.2.1 b) (.int x) = true := by
          refine aok_of ?_
          split at hz
          · rfl
          · rw [Bool.and_eq_true, cle_i, cle_i] at hz ⊢
            omega
          · cases hz
        obtain ⟨hI', hG'⟩ := dI_obj (W := Q.2.2.2.1) hI hs ht h0 d1 hty hdT hJ hW
        exact dgoH hk he (fun n d => r_put hf d1 (by rw [hfin, hok, Nat.blt_eq.mpr hbl]; rfl) rfl) hI' hG' (dK_obj hI.1 hK hs d1 hbl hq hvw) hL hT2 hrk
      · rename_i hk0
        obtain ⟨hc, he⟩ := cit_s he
        rw [Bool.and_eq_true, Bool.and_eq_true, Bool.and_eq_true, Nat.blt_eq] at hc
        obtain ⟨⟨⟨hv1, hor⟩, h146⟩, hz⟩ := hc
        have hv1 := Nat.eq_of_beq_eq_true hv1
        unfold dW at hv
        rw [hv1] at hv
        obtain ⟨p, rfl, hp⟩ := hv
        have hp' : p = v.2.1 := by
          rcases hp with ⟨_, q⟩ | ⟨q, _⟩
          · exact q
          · omega
        subst hp'
        have hdT : dT σ ty (.ref v.2.1) := by
          unfold dT
          rw [hk0]
          rw [Bool.or_eq_true] at hor
          rcases hor with q | q
          · exact Or.inl (by rw [Nat.eq_of_beq_eq_true q])
          · exact Or.inr (by rw [Nat.eq_of_beq_eq_true q])
        obtain ⟨hI', hG'⟩ := dI_obj (W := Q.2.2.2.1) hI hs ht h0 d1 hty hdT hJ hW
        have hK' : dK σ h ρ rh (K.1, K.2.1, K.2.2.1, K.2.2.2.1, K.2.2.2.2.1.filter (fun t => !(Nat.beq t.2.1 b)), K.2.2.2.2.2) := ⟨hK.1, hK.2.1, hK.2.2.1, hK.2.2.2.1, fun u hu => hK.2.2.2.2.1 u (List.mem_filter.mp hu).1, hK.2.2.2.2.2⟩
        refine dgoH hk he (fun n d => r_put hf d1 (by rw [hfin, aok_ref hz, Nat.blt_eq.mpr hbl]; rfl) rfl) hI' hG' (dK_obj0 hK' d1 (fun u hu q' _ hb => ?_)) hL hT2 hrk
        have := (List.mem_filter.mp hu).2
        rw [hb, Nat.beq_refl] at this
        cases this
      · cases he
  · cases he
theorem x_arraylength (hk : dSnd X Q zs lv top M k) : dOk X Q zs lv top M k pc .arraylength len a b := by
  intro L st K es l sv h σ ρ rh hI hK hL hS hrk hf he
  have he : (match (generalizing := false) st with
    | (3, c, _) :: r => cRg K c fun _ t => cit (Nat.beq t.1 2 || (Nat.beq t.1 1 && Nat.beq t.2.1 0)) (cit (Nat.blt t.2.2.1 2147483648) (k (pc + 1) L ((1, 0, (t.2.2.1 : Int)) :: r) K))
    | _ => none) = some es := he
  revert hS
  split at he
  · intro hS
    obtain ⟨_, s, rfl, ⟨q, rfl, hq⟩, hT1⟩ := dS_cons hS
    obtain ⟨g, t, hg, ht, he⟩ := cRg_s he
    obtain ⟨hc, he⟩ := cit_s he
    obtain ⟨hn, he⟩ := cit_s he
    rw [Nat.blt_eq] at hn
    have hs := creg_s hI.1 hK hg hq
    obtain ⟨c0, d1, d2⟩ := dH_cell hI.1 hs ht
    have e : (Int32.ofNat t.2.2.1).toInt = 0 + (t.2.2.1 : Int) := by rw [Int32.toInt_ofNat_of_lt (by omega)]; omega
    rw [Bool.or_eq_true, Bool.and_eq_true] at hc
    rcases hc with hc | ⟨hc, hc2⟩
    · obtain ⟨f, rfl, -⟩ := dC_2 d2 (Nat.eq_of_beq_eq_true hc)
      exact dgo hk he (fun n d => r_alen1 hf d1 rfl) hI hK (dX_refl _) (dX_refl _) hL ⟨w_i (z0 hK) e, hT1⟩ hrk (dSub_refl _)
    · obtain ⟨f, rfl, -⟩ := dC_1 d2 (Nat.eq_of_beq_eq_true hc)
      rw [Nat.eq_of_beq_eq_true hc2] at d1
      exact dgo hk he (fun n d => r_alen hf d1 rfl) hI hK (dX_refl _) (dX_refl _) hL ⟨w_i (z0 hK) e, hT1⟩ hrk (dSub_refl _)
  · cases he
theorem x_iaload (hX : X 0 = some (8, zab)) (hk : dSnd X Q zs lv top M k) : dOk X Q zs lv top M k pc .iaload len a b := by
  intro L st K es l sv h σ ρ rh hI hK hL hS hrk hf he
  have he : (match (generalizing := false) st with
    | (1, p, o) :: (3, c, _) :: r => cRg K c fun g t => cit (Nat.beq t.1 1 && Nat.beq t.2.1 0 && cix K p o t.2.2.1) (cal K c p o g t fun K' q s => k (pc + 1) L ((1, q, s) :: r) K')
    | (1, p, o) :: (5, 0, _) :: r => cit (cix K p o 8) (cfr K (-1, 4) fun K' z => k (pc + 1) L ((1, z, 0) :: r) K')
    | _ => none) = some es := he
  revert hS
  split at he
  · intro hS
    obtain ⟨_, s, rfl, ⟨x, y, rfl, e1, e2⟩, hT1⟩ := dS_cons hS
    obtain ⟨_, s, rfl, ⟨q, rfl, hq⟩, hT2⟩ := dS_cons hT1
    obtain ⟨g, t, hg, ht, he⟩ := cRg_s he
    obtain ⟨hc, he⟩ := cit_s he
    rw [Bool.and_eq_true, Bool.and_eq_true] at hc
    have hs := creg_s hI.1 hK hg hq
    obtain ⟨c0, d1, d2⟩ := dH_cell hI.1 hs ht
    obtain ⟨f, rfl, f2⟩ := dC_1 d2 (Nat.eq_of_beq_eq_true hc.1.1)
    rw [Nat.eq_of_beq_eq_true hc.1.2] at d1
    obtain ⟨g1, g2, g3, g4⟩ := cix_s hK e1 e2 hc.2
    obtain ⟨K', z, u, ρ', w, he, hK', hx, e5, e6⟩ := cal_s hI hK he hq hg d1 e1 g3 g4 (f2 _ g4)
    exact dgo hk he (fun n d => r_iald hf d1 g1 (by rw [g2])) hI hK' hx (dX_refl _) (dL_mono hx (dX_refl _) hL) ⟨w_i e5 e6, dS_mono hx (dX_refl _) hT2⟩ hrk (dSub_refl _)
  · intro hS
    obtain ⟨_, s, rfl, ⟨x, y, rfl, e1, e2⟩, hT1⟩ := dS_cons hS
    obtain ⟨v, s, rfl, hv, hT2⟩ := dS_cons hT1
    have hv : v = .retAddr 0 := hv
    subst hv
    obtain ⟨hc, he⟩ := cit_s he
    obtain ⟨g1, g2, g3, g4⟩ := cix_s hK e1 e2 hc
    have hb : ∀ j : Nat, -1 ≤ (zab j).toInt ∧ (zab j).toInt ≤ 4 := by
      intro j
      unfold zab
      split <;> decide
    obtain ⟨K', he, hK', e5⟩ := cfr_s he hK (v := (zab x.toNatClampNeg).toInt) (hb _).1 (hb _).2
    exact dgo hk he (fun n d => r_xld hf hX g1 rfl) hI hK' (dX_app _ _) (dX_refl _) (dL_mono (dX_app _ _) (dX_refl _) hL) ⟨w_i e5 (by omega), dS_mono (dX_app _ _) (dX_refl _) hT2⟩ hrk (dSub_refl _)
  · cases he
theorem x_baload (hk : dSnd X Q zs lv top M k) : dOk X Q zs lv top M k pc .baload len a b := by
  intro L st K es l sv h σ ρ rh hI hK hL hS hrk hf he
  have he : (match (generalizing := false) st with
    | (1, p, o) :: (3, c, _) :: r => cRg K c fun g t => cit (Nat.beq t.1 1 && (Nat.beq t.2.1 2 || Nat.beq t.2.1 3) && cix K p o t.2.2.1) (cal K c p o g t fun K' q s => k (pc + 1) L ((1, q, s) :: r) K')
    | _ => none) = some es := he
  revert hS
  split at he
  · intro hS
    obtain ⟨_, s, rfl, ⟨x, y, rfl, e1, e2⟩, hT1⟩ := dS_cons hS
    obtain ⟨_, s, rfl, ⟨q, rfl, hq⟩, hT2⟩ := dS_cons hT1
    obtain ⟨g, t, hg, ht, he⟩ := cRg_s he
    obtain ⟨hc, he⟩ := cit_s he
    rw [Bool.and_eq_true, Bool.and_eq_true, Bool.or_eq_true] at hc
    have hs := creg_s hI.1 hK hg hq
    obtain ⟨c0, d1, d2⟩ := dH_cell hI.1 hs ht
    obtain ⟨f, rfl, f2⟩ := dC_1 d2 (Nat.eq_of_beq_eq_true hc.1.1)
    obtain ⟨g1, g2, g3, g4⟩ := cix_s hK e1 e2 hc.2
    obtain ⟨K', z, u, ρ', w, he, hK', hx, e5, e6⟩ := cal_s hI hK he hq hg d1 e1 g3 g4 (f2 _ g4)
    rcases hc.1.2 with h2 | h2 <;> rw [Nat.eq_of_beq_eq_true h2] at d1
    · exact dgo hk he (fun n d => r_zald hf d1 g1 (by rw [g2])) hI hK' hx (dX_refl _) (dL_mono hx (dX_refl _) hL) ⟨w_i e5 e6, dS_mono hx (dX_refl _) hT2⟩ hrk (dSub_refl _)
    · exact dgo hk he (fun n d => r_bald hf d1 g1 (by rw [g2])) hI hK' hx (dX_refl _) (dL_mono hx (dX_refl _) hL) ⟨w_i e5 e6, dS_mono hx (dX_refl _) hT2⟩ hrk (dSub_refl _)
  · cases he
theorem x_laload (hk : dSnd X Q zs lv top M k) : dOk X Q zs lv top M k pc .laload len a b := by
  intro L st K es l sv h σ ρ rh hI hK hL hS hrk hf he
  have he : (match (generalizing := false) st with
    | (1, p, o) :: (3, c, _) :: r => cRg K c fun _ t => cit (Nat.beq t.1 2 && cix K p o t.2.2.1) (cfr K (t.2.2.2.1, t.2.2.2.2.1) fun K' z => k (pc + 1) L ((2, z, 0) :: r) K')
    | _ => none) = some es := he
  revert hS
  split at he
  · intro hS
    obtain ⟨_, s, rfl, ⟨x, y, rfl, e1, e2⟩, hT1⟩ := dS_cons hS
    obtain ⟨_, s, rfl, ⟨q, rfl, hq⟩, hT2⟩ := dS_cons hT1
    obtain ⟨g, t, hg, ht, he⟩ := cRg_s he
    obtain ⟨hc, he⟩ := cit_s he
    rw [Bool.and_eq_true] at hc
    have hs := creg_s hI.1 hK hg hq
    obtain ⟨c0, d1, d2⟩ := dH_cell hI.1 hs ht
    obtain ⟨f, rfl, f2⟩ := dC_2 d2 (Nat.eq_of_beq_eq_true hc.1)
    obtain ⟨g1, g2, g3, g4⟩ := cix_s hK e1 e2 hc.2
    have hb := f2 _ g4
    rw [← g2] at hb
    obtain ⟨K', he, hK', e5⟩ := cfr_s he hK (v := (f x.toNatClampNeg).toInt) hb.1 hb.2
    exact dgo hk he (fun n d => r_lald hf d1 g1 rfl) hI hK' (dX_app _ _) (dX_refl _) (dL_mono (dX_app _ _) (dX_refl _) hL) ⟨w_j e5 (by omega), dS_mono (dX_app _ _) (dX_refl _) hT2⟩ hrk (dSub_refl _)
  · cases he
theorem x_aaload (hk : dSnd X Q zs lv top M k) : dOk X Q zs lv top M k pc .aaload len a b := by
  intro L st K es l sv h σ ρ rh hI hK hL hS hrk hf he
  have he : (match (generalizing := false) st with
    | (1, p, o) :: (3, c, _) :: r => cRg K c fun _ t => cit (Nat.beq t.1 3 && (Nat.beq t.2.1 4 || Nat.beq t.2.1 5) && cix K p o t.2.2.1) (cap (k (pc + 1) L ((4, 0, 0) :: r) K) (k (pc + 1) L ((3, 1000 + K.2.2.2.1.length, 0) :: r) (K.1, K.2.1, K.2.2.1, K.2.2.2.1 ++ [t.2.2.2.1.toNat], K.2.2.2.2)))
    | _ => none) = some es := he
  revert hS
  split at he
  · intro hS
    obtain ⟨_, s, rfl, ⟨x, y, rfl, e1, e2⟩, hT1⟩ := dS_cons hS
    obtain ⟨_, s, rfl, ⟨q, rfl, hq⟩, hT2⟩ := dS_cons hT1
    obtain ⟨g, t, hg, ht, he⟩ := cRg_s he
    obtain ⟨hc, he⟩ := cit_s he
    rw [Bool.and_eq_true, Bool.and_eq_true, Bool.or_eq_true] at hc
    have hs := creg_s hI.1 hK hg hq
    obtain ⟨c0, d1, d2⟩ := dH_cell hI.1 hs ht
    obtain ⟨f, rfl, f2⟩ := dC_3 d2 (Nat.eq_of_beq_eq_true hc.1.1)
    obtain ⟨g1, g2, g3, g4⟩ := cix_s hK e1 e2 hc.2
    obtain ⟨x1, x2, a1, a2, s1, s2⟩ := cap_s he
    have hs1 : ∀ n d, arun X (n + 1) (d + lv) M pc l (.int x :: .ref q :: s) h = arun X n (d + lv) M (pc + 1) l (arf (f x.toNatClampNeg) :: s) h := by
      intro n d
      rcases hc.1.2 with h2 | h2 <;> rw [Nat.eq_of_beq_eq_true h2] at d1
      · exact r_aald4 hf d1 g1 rfl
      · exact r_aald5 hf d1 g1 rfl
    cases hv : f x.toNatClampNeg with
    | none =>
      rw [hv] at hs1
      exact dgo hk a1 hs1 hI hK (dX_refl _) (dX_refl _) hL ⟨rfl, hT2⟩ hrk s1
    | some p =>
      rw [hv] at hs1
      have p1 := f2 _ _ hv
      have hw : dW ρ (rh ++ [p]) (3, 1000 + K.2.2.2.1.length, 0) (.ref p) := ⟨p, rfl, Or.inr ⟨by show 1000 ≤ 1000 + K.2.2.2.1.length; omega, by
          show (rh ++ [p])[1000 + K.2.2.2.1.length - 1000]? = some p
          rw [← hK.2.2.2.1.1, show 1000 + rh.length - 1000 = rh.length by omega]
          simp⟩⟩
      refine dgo hk a2 hs1 hI ⟨hK.1, hK.2.1, hK.2.2.1, ⟨by simp [hK.2.2.2.1.1], fun i r' e' => ?_⟩, kF_mono (dX_refl _) (dX_app _ _) hK.2.2.2.2.1, hK.2.2.2.2.2.1, kA_mono (dX_refl _) (dX_app _ _) hK.2.2.2.2.2.2⟩ (dX_refl _) (dX_app _ _) (dL_mono (dX_refl _) (dX_app _ _) hL) ⟨hw, dS_mono (dX_refl _) (dX_app _ _) hT2⟩ hrk s2
      dsimp only at e'
      rcases Nat.lt_or_ge i K.2.2.2.1.length with hi | hi
      · rw [List.getElem?_append_left hi] at e'
        obtain ⟨q', a, b'⟩ := hK.2.2.2.1.2 i r' e'
        exact ⟨q', dX_app _ _ _ _ a, b'⟩
      · rw [List.getElem?_append_right hi] at e'
        have hz : i - K.2.2.2.1.length = 0 := by
          rcases Nat.eq_zero_or_pos (i - K.2.2.2.1.length) with g | g
          · exact g
          · rw [List.getElem?_eq_none (by simp; omega)] at e'; cases e'
        rw [hz] at e'
        simp only [List.getElem?_cons_zero, Option.some.injEq] at e'
        subst e'
        refine ⟨p, ?_, p1⟩
        rw [show i = rh.length by rw [hK.2.2.2.1.1]; omega]
        simp
  · cases he
theorem upd_b {g : Nat → Int32} {n j : Nat} {x : Int32} {lo hi : Int} (h : ∀ i, i < n → lo ≤ (g i).toInt ∧ (g i).toInt ≤ hi) (h1 : lo ≤ x.toInt) (h2 : x.toInt ≤ hi) : ∀ i, i < n → lo ≤ (upd g j x i).toInt ∧ (upd g j x i).toInt ≤ hi := by
  intro i hi
  unfold upd
  split
  · exact ⟨h1, h2⟩
  · exact h i hi
theorem x_iastore (hk : dSnd X Q zs lv top M k) : dOk X Q zs lv top M k pc .iastore len a b := by
  intro L st K es l sv h σ ρ rh hI hK hL hS hrk hf he
  have he : (match (generalizing := false) st with
    | (1, q, s) :: (1, p, o) :: (3, c, _) :: r => cRg K c fun g t => cit (Nat.beq t.1 1 && Nat.beq t.2.1 0 && cix K p o t.2.2.1 && cWn Q.2.2.2.1 g 0 && !(cJs g 0) && cle t.2.2.2.1 (clo K q s) && cle (chi K q s) t.2.2.2.2.1) (k (pc + 1) L r (csA K g [(c, p, o, q, s)]))
    | _ => none) = some es := he
  revert hS
  split at he
  · intro hS
    obtain ⟨_, s1, rfl, ⟨x', y', rfl, e3, e4⟩, hT1⟩ := dS_cons hS
    obtain ⟨_, s1, rfl, ⟨x, y, rfl, e1, e2⟩, hT2⟩ := dS_cons hT1
    obtain ⟨_, s1, rfl, ⟨q, rfl, hq⟩, hT3⟩ := dS_cons hT2
    obtain ⟨g, t, hg, ht, he⟩ := cRg_s he
    obtain ⟨hc, he⟩ := cit_s he
    simp only [Bool.and_eq_true, Bool.not_eq_true', cle_i] at hc
    obtain ⟨⟨⟨⟨⟨⟨c1, c2⟩, c3⟩, hW⟩, hJ⟩, c4⟩, c5⟩ := hc
    have c1 := Nat.eq_of_beq_eq_true c1
    have hs := creg_s hI.1 hK hg hq
    obtain ⟨c0, d1, d2⟩ := dH_cell hI.1 hs ht
    obtain ⟨f, rfl, f2⟩ := dC_1 d2 c1
    have d1' := d1
    rw [Nat.eq_of_beq_eq_true c2] at d1'
    obtain ⟨g1, g2, g3, g4⟩ := cix_s hK e1 e2 c3
    dsimp only at e1 e2 e3 e4
    have b1 := clo_i hK e3 e4
    have hC : dC σ t (.inl (0, t.2.2.1, .inl (upd f x.toNatClampNeg x'))) := by
      unfold dC
      rw [c1, Nat.eq_of_beq_eq_true c2]
      exact ⟨_, rfl, upd_b f2 (by omega) (by omega)⟩
    obtain ⟨hI', hG'⟩ := dI_arr (W := Q.2.2.2.1) hI hs ht (Or.inl c1) d1 hC hJ hW
    refine dgoH hk he (fun n d => r_iast hf d1' g1 rfl) hI' hG' (dK_arr hI.1 hK hs d1 (fun u hu => ?_)) hL hT3 hrk
    simp only [List.mem_singleton] at hu
    subst hu
    refine ⟨q, 0, t.2.2.1, _, y, y', hq, set_eq' d1, e1, g3, e3, ?_⟩
    rw [g2]
    unfold upd
    rw [if_pos rfl]
    exact e4
  · cases he
theorem x_bastore (hk : dSnd X Q zs lv top M k) : dOk X Q zs lv top M k pc .bastore len a b := by
  intro L st K es l sv h σ ρ rh hI hK hL hS hrk hf he
  have he : (match (generalizing := false) st with
    | (1, q, s) :: (1, p, o) :: (3, c, _) :: r => cRg K c fun g t => cit (Nat.beq t.1 1 && cix K p o t.2.2.1 && cWn Q.2.2.2.1 g 0 && !(cJs g 0) && cle t.2.2.2.1 (clo K q s) && cle (chi K q s) t.2.2.2.2.1 && (match t.2.1 with
        | 2 => cle 0 (clo K q s) && cle (chi K q s) 1
        | 3 => cle (-128) (clo K q s) && cle (chi K q s) 127
        | _ => false)) (k (pc + 1) L r (csA K g (bif Nat.beq t.2.1 2 then [(c, p, o, q, s)] else [])))
    | _ => none) = some es := he
  revert hS
  split at he
  · intro hS
    obtain ⟨_, s1, rfl, ⟨x', y', rfl, e3, e4⟩, hT1⟩ := dS_cons hS
    obtain ⟨_, s1, rfl, ⟨x, y, rfl, e1, e2⟩, hT2⟩ := dS_cons hT1
    obtain ⟨_, s1, rfl, ⟨q, rfl, hq⟩, hT3⟩ := dS_cons hT2
    obtain ⟨g, t, hg, ht, he⟩ := cRg_s he
    obtain ⟨hc, he⟩ := cit_s he
    rw [Bool.and_eq_true, Bool.and_eq_true, Bool.and_eq_true, Bool.and_eq_true, Bool.and_eq_true, Bool.and_eq_true, Bool.not_eq_true', cle_i, cle_i] at hc
    obtain ⟨⟨⟨⟨⟨⟨c1, c3⟩, hW⟩, hJ⟩, c4⟩, c5⟩, c6⟩ := hc
    have c1 := Nat.eq_of_beq_eq_true c1
    have hs := creg_s hI.1 hK hg hq
    obtain ⟨c0, d1, d2⟩ := dH_cell hI.1 hs ht
    obtain ⟨f, rfl, f2⟩ := dC_1 d2 c1
    obtain ⟨g1, g2, g3, g4⟩ := cix_s hK e1 e2 c3
    dsimp only at e1 e2 e3 e4
    have b1 := clo_i hK e3 e4
    split at c6
    · rename_i ty
      rw [Bool.and_eq_true, cle_i, cle_i] at c6
      have d1' := d1
      rw [ty] at d1'
      have hx' : x' &&& 1 = x' := by
        rcases (show x'.toInt = 0 ∨ x'.toInt = 1 by omega) with w | w
        · rw [show x' = 0 from b_i.mpr w]; rfl
        · rw [show x' = 1 from b_i.mpr w]; rfl
      have hC : dC σ t (.inl (2, t.2.2.1, .inl (upd f x.toNatClampNeg (x' &&& 1)))) := by
        unfold dC
        rw [c1, ty]
        exact ⟨_, rfl, upd_b f2 (by rw [hx']; omega) (by rw [hx']; omega)⟩
      obtain ⟨hI', hG'⟩ := dI_arr (W := Q.2.2.2.1) hI hs ht (Or.inl c1) d1 hC hJ hW
      refine dgoH hk he (fun n d => r_zast hf d1' g1 rfl) hI' hG' (dK_arr hI.1 hK hs d1 (fun u hu => ?_)) hL hT3 hrk
      rw [ty] at hu
      simp only [Nat.beq_refl, cond_true, List.mem_singleton] at hu
      subst hu
      refine ⟨q, 2, t.2.2.1, _, y, y', hq, set_eq' d1, e1, g3, e3, ?_⟩
      rw [g2]
      unfold upd
      rw [if_pos rfl, hx']
      exact e4
    · rename_i ty
      rw [Bool.and_eq_true, cle_i, cle_i] at c6
      have d1' := d1
      rw [ty] at d1'
      have hx' : x'.toInt8.toInt32 = x' := by
        rw [b_i, Int8.toInt_toInt32, Int32.toInt_toInt8]
        exact Int.bmod_eq_of_le (by omega) (by omega)
      have hC : dC σ t (.inl (3, t.2.2.1, .inl (upd f x.toNatClampNeg x'.toInt8.toInt32))) := by
        unfold dC
        rw [c1, ty]
        exact ⟨_, rfl, upd_b f2 (by rw [hx']; omega) (by rw [hx']; omega)⟩
      obtain ⟨hI', hG'⟩ := dI_arr (W := Q.2.2.2.1) hI hs ht (Or.inl c1) d1 hC hJ hW
      refine dgoH hk he (fun n d => r_bast hf d1' g1 rfl) hI' hG' (dK_arr hI.1 hK hs d1 (fun u hu => ?_)) hL hT3 hrk
      rw [ty] at hu
      cases hu
    · cases c6
  · cases he
theorem x_lastore (hk : dSnd X Q zs lv top M k) : dOk X Q zs lv top M k pc .lastore len a b := by
  intro L st K es l sv h σ ρ rh hI hK hL hS hrk hf he
  have he : (match (generalizing := false) st with
    | (2, q, s) :: (1, p, o) :: (3, c, _) :: r => cRg K c fun g t => cit (Nat.beq t.1 2 && cix K p o t.2.2.1 && cWn Q.2.2.2.1 g 0 && !(cJs g 0) && cle t.2.2.2.1 (clo K q s) && cle (chi K q s) t.2.2.2.2.1) (k (pc + 1) L r (csA K g []))
    | _ => none) = some es := he
  revert hS
  split at he
  · intro hS
    obtain ⟨_, s1, rfl, ⟨x', y', rfl, e3, e4⟩, hT1⟩ := dS_cons hS
    obtain ⟨_, s1, rfl, ⟨x, y, rfl, e1, e2⟩, hT2⟩ := dS_cons hT1
    obtain ⟨_, s1, rfl, ⟨q, rfl, hq⟩, hT3⟩ := dS_cons hT2
    obtain ⟨g, t, hg, ht, he⟩ := cRg_s he
    obtain ⟨hc, he⟩ := cit_s he
    simp only [Bool.and_eq_true, Bool.not_eq_true', cle_i] at hc
    obtain ⟨⟨⟨⟨⟨c1, c3⟩, hW⟩, hJ⟩, c4⟩, c5⟩ := hc
    have c1 := Nat.eq_of_beq_eq_true c1
    have hs := creg_s hI.1 hK hg hq
    obtain ⟨c0, d1, d2⟩ := dH_cell hI.1 hs ht
    obtain ⟨f, rfl, f2⟩ := dC_2 d2 c1
    obtain ⟨g1, g2, g3, g4⟩ := cix_s hK e1 e2 c3
    dsimp only at e1 e2 e3 e4
    have b1 := clo_i hK e3 e4
    have hC : dC σ t (.inl (1, t.2.2.1, .inr (.inl (vp_updL f x.toNatClampNeg x')))) := by
      unfold dC
      rw [c1]
      refine ⟨_, rfl, fun i hi => ?_⟩
      unfold vp_updL
      split
      · omega
      · exact f2 i hi
    obtain ⟨hI', hG'⟩ := dI_arr (W := Q.2.2.2.1) hI hs ht (Or.inr c1) d1 hC hJ hW
    exact dgoH hk he (fun n d => r_last hf d1 g1 rfl) hI' hG' (dK_arr hI.1 hK hs d1 (fun u hu => by cases hu)) hL hT3 hrk
  · cases he
end XH

-- ===== an instruction of the checker, an instruction of the machine (by program) =====
def dOk (X : aX) (Q : cQ) (zs : Int) (lv : Nat) (top : Bool) (M : aM) (k : Nat → List cW → List cW → cK → Option (List cEx)) (pc : Nat) (ins : Instr) (len a b : Nat) : Prop :=
  ∀ (L st : List cW) (K : cK) (es : List cEx) (l : aL) (sv : List Value) (h : aH) (σ : List Nat) (ρ : List Int) (rh : List Nat), dI σ h → dK σ h ρ rh K → dL ρ rh L l → dS ρ rh st sv → dRk Q zs ρ →
    aF pc M.2.2.2.2.2.2.2 = some (pc, ins, len, a, b) → cX1 Q.2.2.2.1 k (pc, ins, len, a, b) L st K = some es → dRes X Q zs lv top M pc l sv h σ ρ rh es
theorem w_i {ρ : List Int} {rh : List Nat} {p : Nat} {o y : Int} {x : Int32} (e : ρ[p]? = some y) (h : x.toInt = y + o) : dW ρ rh (1, p, o) (.int x) := ⟨x, y, rfl, e, h⟩
theorem w_j {ρ : List Int} {rh : List Nat} {p : Nat} {o y : Int} {x : Int64} (e : ρ[p]? = some y) (h : x.toInt = y + o) : dW ρ rh (2, p, o) (.long x) := ⟨x, y, rfl, e, h⟩
theorem iz_of (n : Nat) (h : n < 4294967296) : (Int32.ofNat n).toInt = c31 n := by
  unfold c31
  rw [Int32.toInt_ofNat']
  cases q : Nat.blt n 2147483648 with
  | true =>
    rw [Nat.blt_eq] at q
    simp only [cond_true]
    exact Int.bmod_eq_of_le (by simp only [Int32.size]; omega) (by simp only [Int32.size]; omega)
  | false =>
    have q : ¬ n < 2147483648 := fun c => by rw [← Nat.blt_eq, q] at c; cases c
    simp only [cond_false]
    rw [Int.bmod_def]
    simp only [Int32.size]
    omega
theorem jz_of (n : Nat) (h : n < 18446744073709551616) : (Int64.ofNat n).toInt = c63 n := by
  unfold c63
  rw [Int64.toInt_ofNat']
  cases q : Nat.blt n 9223372036854775808 with
  | true =>
    rw [Nat.blt_eq] at q
    simp only [cond_true]
    exact Int.bmod_eq_of_le (by simp only [Int64.size]; omega) (by simp only [Int64.size]; omega)
  | false =>
    have q : ¬ n < 9223372036854775808 := fun c => by rw [← Nat.blt_eq, q] at c; cases c
    simp only [cond_false]
    rw [Int.bmod_def]
    simp only [Int64.size]
    omega
theorem toInt_ic {z : Int} (h1 : -128 ≤ z) (h2 : z ≤ 127) : (Int32.ofInt z).toInt = z := Int32.toInt_ofInt_of_le (by omega) (by omega)
theorem toInt_b {z : Int} (h1 : -128 ≤ z) (h2 : z ≤ 127) : (Int8.ofInt z).toInt32.toInt = z := by
  rw [Int8.toInt_toInt32]
  exact Int8.toInt_ofInt_of_le (by omega) (by omega)
theorem toInt_s {z : Int} (h1 : -32768 ≤ z) (h2 : z ≤ 32767) : (Int16.ofInt z).toInt32.toInt = z := by
  rw [Int16.toInt_toInt32]
  exact Int16.toInt_ofInt_of_le (by omega) (by omega)
theorem toInt_c {z : Int} (h1 : -32768 ≤ z) (h2 : z ≤ 32767) : (Int32.ofInt z).toInt = z := Int32.toInt_ofInt_of_le (by omega) (by omega)
theorem w_tag {ρ : List Int} {rh : List Nat} {w : cW} {v : Value} (h : dW ρ rh w v) (g : Nat.beq w.1 2 = false) : aok1 v = true := by
  unfold dW at h
  split at h
  · obtain ⟨_, _, rfl, _⟩ := h; rfl
  · rename_i e; rw [e] at g; cases g
  · obtain ⟨_, rfl, _⟩ := h; rfl
  · subst h; rfl
  · subst h; rfl
  · rcases h with rfl | ⟨_, rfl, _⟩ <;> rfl
  · subst h; rfl
  · exact h.elim
theorem z0 {σ : List Nat} {h : aH} {ρ : List Int} {rh : List Nat} {K : cK} (k : dK σ h ρ rh K) : ρ[0]? = some 0 := k.1.2.1
section XI
variable {X : aX} {Q : cQ} {zs : Int} {lv : Nat} {top : Bool} {M : aM} {k : Nat → List cW → List cW → cK → Option (List cEx)} {pc len a b : Nat}

theorem x_iconst {z : Int} (hk : dSnd X Q zs lv top M k) : dOk X Q zs lv top M k pc (.iconst z) len a b := by
  intro L st K es l sv h σ ρ rh hI hK hL hS hrk hf he
  obtain ⟨hb, he⟩ := cit_s (show cit (cle (-128) z && cle z 127) (k (pc + 1) L ((1, 0, z) :: st) K) = some es from he)
  rw [Bool.and_eq_true, cle_i, cle_i] at hb
  exact dgo hk he (fun n d => r_iconst hf rfl) hI hK (dX_refl _) (dX_refl _) hL ⟨w_i (z0 hK) (by rw [toInt_ic hb.1 hb.2]; omega), hS⟩ hrk (dSub_refl _)
theorem x_bipush {z : Int} (hk : dSnd X Q zs lv top M k) : dOk X Q zs lv top M k pc (.bipush z) len a b := by
  intro L st K es l sv h σ ρ rh hI hK hL hS hrk hf he
  obtain ⟨hb, he⟩ := cit_s (show cit (cle (-128) z && cle z 127) (k (pc + 2) L ((1, 0, z) :: st) K) = some es from he)
  rw [Bool.and_eq_true, cle_i, cle_i] at hb
  exact dgo hk he (fun n d => r_bipush hf rfl) hI hK (dX_refl _) (dX_refl _) hL ⟨w_i (z0 hK) (by rw [toInt_b hb.1 hb.2]; omega), hS⟩ hrk (dSub_refl _)
theorem x_sipush {z : Int} (hk : dSnd X Q zs lv top M k) : dOk X Q zs lv top M k pc (.sipush z) len a b := by
  intro L st K es l sv h σ ρ rh hI hK hL hS hrk hf he
  obtain ⟨hb, he⟩ := cit_s (show cit (cle (-32768) z && cle z 32767) (k (pc + 3) L ((1, 0, z) :: st) K) = some es from he)
  rw [Bool.and_eq_true, cle_i, cle_i] at hb
  exact dgo hk he (fun n d => r_sipush hf rfl) hI hK (dX_refl _) (dX_refl _) hL ⟨w_i (z0 hK) (by rw [toInt_s hb.1 hb.2]; omega), hS⟩ hrk (dSub_refl _)
theorem x_ldc {z : Nat} (hk : dSnd X Q zs lv top M k) : dOk X Q zs lv top M k pc (.ldc z) len a b := by
  intro L st K es l sv h σ ρ rh hI hK hL hS hrk hf he
  have he : (bif Nat.beq a 4294967296 then k (pc + 2) L ((7, 0, 0) :: st) K else cit (Nat.blt a 4294967296) (k (pc + 2) L ((1, 0, c31 a) :: st) K)) = some es := he
  cases hs : Nat.beq a 4294967296 with
  | true =>
    rw [hs] at he
    have := Nat.eq_of_beq_eq_true hs
    subst this
    exact dgo hk he (fun n d => r_ldcS hf) hI hK (dX_refl _) (dX_refl _) hL ⟨rfl, hS⟩ hrk (dSub_refl _)
  | false =>
    rw [hs] at he
    simp only [cond_false] at he
    obtain ⟨hb, he⟩ := cit_s he
    rw [Nat.blt_eq] at hb
    exact dgo hk he (fun n d => r_ldc hf rfl hs) hI hK (dX_refl _) (dX_refl _) hL ⟨w_i (z0 hK) (by rw [iz_of _ hb]; omega), hS⟩ hrk (dSub_refl _)
theorem x_ldc_w {z : Nat} (hk : dSnd X Q zs lv top M k) : dOk X Q zs lv top M k pc (.ldc_w z) len a b := by
  intro L st K es l sv h σ ρ rh hI hK hL hS hrk hf he
  obtain ⟨hb, he⟩ := cit_s (show cit (Nat.blt a 4294967296) (k (pc + 3) L ((1, 0, c31 a) :: st) K) = some es from he)
  rw [Nat.blt_eq] at hb
  exact dgo hk he (fun n d => r_ldcw hf rfl) hI hK (dX_refl _) (dX_refl _) hL ⟨w_i (z0 hK) (by rw [iz_of _ hb]; omega), hS⟩ hrk (dSub_refl _)
theorem x_ldc2_w {z : Nat} (hk : dSnd X Q zs lv top M k) : dOk X Q zs lv top M k pc (.ldc2_w z) len a b := by
  intro L st K es l sv h σ ρ rh hI hK hL hS hrk hf he
  obtain ⟨hb, he⟩ := cit_s (show cit (Nat.blt a 18446744073709551616) (k (pc + 3) L ((2, 0, c63 a) :: st) K) = some es from he)
  rw [Nat.blt_eq] at hb
  exact dgo hk he (fun n d => r_ldc2 hf rfl) hI hK (dX_refl _) (dX_refl _) hL ⟨w_j (z0 hK) (by rw [jz_of _ hb]; omega), hS⟩ hrk (dSub_refl _)
theorem x_lconst {z : Fin 2} (hk : dSnd X Q zs lv top M k) : dOk X Q zs lv top M k pc (.lconst z) len a b := by
  intro L st K es l sv h σ ρ rh hI hK hL hS hrk hf he
  have he : k (pc + 1) L ((2, 0, ((z : Nat) : Int)) :: st) K = some es := he
  exact dgo hk he (fun n d => r_lconst hf rfl) hI hK (dX_refl _) (dX_refl _) hL ⟨w_j (z0 hK) (by match z with
    | 0 => rfl
    | 1 => rfl), hS⟩ hrk (dSub_refl _)
theorem x_aconst_null (hk : dSnd X Q zs lv top M k) : dOk X Q zs lv top M k pc (.aconst_null) len a b := by
  intro L st K es l sv h σ ρ rh hI hK hL hS hrk hf he
  have he : k (pc + 1) L ((4, 0, 0) :: st) K = some es := he
  exact dgo hk he (fun n d => r_null hf) hI hK (dX_refl _) (dX_refl _) hL ⟨rfl, hS⟩ hrk (dSub_refl _)
theorem x_getstatic {z : Nat} (hk : dSnd X Q zs lv top M k) : dOk X Q zs lv top M k pc (.getstatic z) len a b := by
  intro L st K es l sv h σ ρ rh hI hK hL hS hrk hf he
  have he : k (pc + 3) L ((5, 0, 0) :: st) K = some es := he
  exact dgo hk he (fun n d => r_gets hf) hI hK (dX_refl _) (dX_refl _) hL ⟨rfl, hS⟩ hrk (dSub_refl _)
theorem x_iload_n {z : Fin 4} (hk : dSnd X Q zs lv top M k) : dOk X Q zs lv top M k pc (.iload_n z) len a b := by
  intro L st K es l sv h σ ρ rh hI hK hL hS hrk hf he
  have he : (bif Nat.beq (cG L z).1 1 then k (pc + 1) L (cG L z :: st) K else none) = some es := he
  cases hb : Nat.beq (cG L z).1 1 with
  | false => rw [hb] at he; cases he
  | true =>
    rw [hb] at he
    have ht := Nat.eq_of_beq_eq_true hb
    obtain ⟨v, hv, hw⟩ := dL_get hL ht (by decide)
    have hw' := hw
    unfold dW at hw'
    rw [ht] at hw'
    obtain ⟨x, y, rfl, -, -⟩ := hw'
    exact dgo hk he (fun n d => r_iloadn hf hv) hI hK (dX_refl _) (dX_refl _) hL ⟨hw, hS⟩ hrk (dSub_refl _)
theorem x_iload {z : Nat} (hk : dSnd X Q zs lv top M k) : dOk X Q zs lv top M k pc (.iload z) len a b := by
  intro L st K es l sv h σ ρ rh hI hK hL hS hrk hf he
  have he : (bif Nat.beq (cG L z).1 1 then k (pc + 2) L (cG L z :: st) K else none) = some es := he
  cases hb : Nat.beq (cG L z).1 1 with
  | false => rw [hb] at he; cases he
  | true =>
    rw [hb] at he
    have ht := Nat.eq_of_beq_eq_true hb
    obtain ⟨v, hv, hw⟩ := dL_get hL ht (by decide)
    have hw' := hw
    unfold dW at hw'
    rw [ht] at hw'
    obtain ⟨x, y, rfl, -, -⟩ := hw'
    exact dgo hk he (fun n d => r_iload hf hv) hI hK (dX_refl _) (dX_refl _) hL ⟨hw, hS⟩ hrk (dSub_refl _)
theorem x_lload_n {z : Fin 4} (hk : dSnd X Q zs lv top M k) : dOk X Q zs lv top M k pc (.lload_n z) len a b := by
  intro L st K es l sv h σ ρ rh hI hK hL hS hrk hf he
  have he : (bif Nat.beq (cG L z).1 2 then k (pc + 1) L (cG L z :: st) K else none) = some es := he
  cases hb : Nat.beq (cG L z).1 2 with
  | false => rw [hb] at he; cases he
  | true =>
    rw [hb] at he
    have ht := Nat.eq_of_beq_eq_true hb
    obtain ⟨v, hv, hw⟩ := dL_get hL ht (by decide)
    have hw' := hw
    unfold dW at hw'
    rw [ht] at hw'
    obtain ⟨x, y, rfl, -, -⟩ := hw'
    exact dgo hk he (fun n d => r_lloadn hf hv) hI hK (dX_refl _) (dX_refl _) hL ⟨hw, hS⟩ hrk (dSub_refl _)
theorem x_lload {z : Nat} (hk : dSnd X Q zs lv top M k) : dOk X Q zs lv top M k pc (.lload z) len a b := by
  intro L st K es l sv h σ ρ rh hI hK hL hS hrk hf he
  have he : (bif Nat.beq (cG L z).1 2 then k (pc + 2) L (cG L z :: st) K else none) = some es := he
  cases hb : Nat.beq (cG L z).1 2 with
  | false => rw [hb] at he; cases he
  | true =>
    rw [hb] at he
    have ht := Nat.eq_of_beq_eq_true hb
    obtain ⟨v, hv, hw⟩ := dL_get hL ht (by decide)
    have hw' := hw
    unfold dW at hw'
    rw [ht] at hw'
    obtain ⟨x, y, rfl, -, -⟩ := hw'
    exact dgo hk he (fun n d => r_lload hf hv) hI hK (dX_refl _) (dX_refl _) hL ⟨hw, hS⟩ hrk (dSub_refl _)
theorem x_aload_n {z : Fin 4} (hk : dSnd X Q zs lv top M k) : dOk X Q zs lv top M k pc (.aload_n z) len a b := by
  intro L st K es l sv h σ ρ rh hI hK hL hS hrk hf he
  have he : cldA L z (fun w => k (pc + 1) L (w :: st) K) = some es := he
  unfold cldA at he
  have key : (cG L z).1 = 3 ∨ (cG L z).1 = 4 ∨ (cG L z).1 = 5 ∨ (cG L z).1 = 6 → k (pc + 1) L (cG L z :: st) K = some es → dRes X Q zs lv top M pc l sv h σ ρ rh es := by
    intro ht he
    obtain ⟨v, hv, hw⟩ := dL_get hL (g := (cG L z).1) rfl (by omega)
    have hw' := hw
    unfold dW at hw'
    rcases ht with ht | ht | ht | ht <;> rw [ht] at hw'
    · obtain ⟨q, rfl, -⟩ := hw'
      exact dgo hk he (fun n d => r_aloadn hf hv) hI hK (dX_refl _) (dX_refl _) hL ⟨hw, hS⟩ hrk (dSub_refl _)
    · subst hw'
      exact dgo hk he (fun n d => r_aloadnN hf hv) hI hK (dX_refl _) (dX_refl _) hL ⟨hw, hS⟩ hrk (dSub_refl _)
    · subst hw'
      exact dgo hk he (fun n d => r_aloadnX hf hv) hI hK (dX_refl _) (dX_refl _) hL ⟨hw, hS⟩ hrk (dSub_refl _)
    · rcases hw' with rfl | ⟨q, rfl, -⟩
      · exact dgo hk he (fun n d => r_aloadnN hf hv) hI hK (dX_refl _) (dX_refl _) hL ⟨hw, hS⟩ hrk (dSub_refl _)
      · exact dgo hk he (fun n d => r_aloadn hf hv) hI hK (dX_refl _) (dX_refl _) hL ⟨hw, hS⟩ hrk (dSub_refl _)
  split at he
  · rename_i e; exact key (by omega) he
  · rename_i e; exact key (by omega) he
  · rename_i e; exact key (by omega) he
  · rename_i e; exact key (by omega) he
  · cases he
theorem x_aload {z : Nat} (hk : dSnd X Q zs lv top M k) : dOk X Q zs lv top M k pc (.aload z) len a b := by
  intro L st K es l sv h σ ρ rh hI hK hL hS hrk hf he
  have he : cldA L z (fun w => k (pc + 2) L (w :: st) K) = some es := he
  unfold cldA at he
  have key : (cG L z).1 = 3 ∨ (cG L z).1 = 4 ∨ (cG L z).1 = 5 ∨ (cG L z).1 = 6 → k (pc + 2) L (cG L z :: st) K = some es → dRes X Q zs lv top M pc l sv h σ ρ rh es := by
    intro ht he
    obtain ⟨v, hv, hw⟩ := dL_get hL (g := (cG L z).1) rfl (by omega)
    have hw' := hw
    unfold dW at hw'
    rcases ht with ht | ht | ht | ht <;> rw [ht] at hw'
    · obtain ⟨q, rfl, -⟩ := hw'
      exact dgo hk he (fun n d => r_aload hf hv) hI hK (dX_refl _) (dX_refl _) hL ⟨hw, hS⟩ hrk (dSub_refl _)
    · subst hw'
      exact dgo hk he (fun n d => r_aloadN hf hv) hI hK (dX_refl _) (dX_refl _) hL ⟨hw, hS⟩ hrk (dSub_refl _)
    · subst hw'
      exact dgo hk he (fun n d => r_aloadX hf hv) hI hK (dX_refl _) (dX_refl _) hL ⟨hw, hS⟩ hrk (dSub_refl _)
    · rcases hw' with rfl | ⟨q, rfl, -⟩
      · exact dgo hk he (fun n d => r_aloadN hf hv) hI hK (dX_refl _) (dX_refl _) hL ⟨hw, hS⟩ hrk (dSub_refl _)
      · exact dgo hk he (fun n d => r_aload hf hv) hI hK (dX_refl _) (dX_refl _) hL ⟨hw, hS⟩ hrk (dSub_refl _)
  split at he
  · rename_i e; exact key (by omega) he
  · rename_i e; exact key (by omega) he
  · rename_i e; exact key (by omega) he
  · rename_i e; exact key (by omega) he
  · cases he
theorem x_istore_n {z : Fin 4} (hk : dSnd X Q zs lv top M k) : dOk X Q zs lv top M k pc (.istore_n z) len a b := by
  intro L st K es l sv h σ ρ rh hI hK hL hS hrk hf he
  obtain ⟨p, o, r, x, y, s, rfl, he, rfl, e1, e2, hS⟩ := cpI_s (show cpI st (fun p o r => cit (Nat.blt z L.length) (k (pc + 1) (cS1 L z (1, p, o)) r K)) = some es from he) hS
  obtain ⟨hb, he⟩ := cit_s he
  exact dgo hk he (fun n d => r_istoren hf (dL_blt hL hb) rfl) hI hK (dX_refl _) (dX_refl _) (dL_S1 hL z (w_i e1 e2)) hS hrk (dSub_refl _)
theorem x_istore {z : Nat} (hk : dSnd X Q zs lv top M k) : dOk X Q zs lv top M k pc (.istore z) len a b := by
  intro L st K es l sv h σ ρ rh hI hK hL hS hrk hf he
  obtain ⟨p, o, r, x, y, s, rfl, he, rfl, e1, e2, hS⟩ := cpI_s (show cpI st (fun p o r => cit (Nat.blt z L.length) (k (pc + 2) (cS1 L z (1, p, o)) r K)) = some es from he) hS
  obtain ⟨hb, he⟩ := cit_s he
  exact dgo hk he (fun n d => r_istore hf (dL_blt hL hb) rfl) hI hK (dX_refl _) (dX_refl _) (dL_S1 hL z (w_i e1 e2)) hS hrk (dSub_refl _)
theorem x_lstore_n {z : Fin 4} (hk : dSnd X Q zs lv top M k) : dOk X Q zs lv top M k pc (.lstore_n z) len a b := by
  intro L st K es l sv h σ ρ rh hI hK hL hS hrk hf he
  obtain ⟨p, o, r, x, y, s, rfl, he, rfl, e1, e2, hS⟩ := cpJ_s (show cpJ st (fun p o r => cit (Nat.blt ((z : Nat) + 1) L.length) (k (pc + 1) (cS2 L z (2, p, o)) r K)) = some es from he) hS
  obtain ⟨hb, he⟩ := cit_s he
  exact dgo hk he (fun n d => r_lstoren hf (dL_blt hL hb) rfl) hI hK (dX_refl _) (dX_refl _) (dL_S2 hL z (w_j e1 e2)) hS hrk (dSub_refl _)
theorem x_lstore {z : Nat} (hk : dSnd X Q zs lv top M k) : dOk X Q zs lv top M k pc (.lstore z) len a b := by
  intro L st K es l sv h σ ρ rh hI hK hL hS hrk hf he
  obtain ⟨p, o, r, x, y, s, rfl, he, rfl, e1, e2, hS⟩ := cpJ_s (show cpJ st (fun p o r => cit (Nat.blt ((z : Nat) + 1) L.length) (k (pc + 2) (cS2 L z (2, p, o)) r K)) = some es from he) hS
  obtain ⟨hb, he⟩ := cit_s he
  exact dgo hk he (fun n d => r_lstore hf (dL_blt hL hb) rfl) hI hK (dX_refl _) (dX_refl _) (dL_S2 hL z (w_j e1 e2)) hS hrk (dSub_refl _)
theorem x_astore_n {z : Fin 4} (hk : dSnd X Q zs lv top M k) : dOk X Q zs lv top M k pc (.astore_n z) len a b := by
  intro L st K es l sv h σ ρ rh hI hK hL hS hrk hf he
  have he : cstA L st z (fun L' r => k (pc + 1) L' r K) = some es := he
  unfold cstA at he
  split at he
  · obtain ⟨hb, he⟩ := cit_s he
    obtain ⟨v, s, rfl, hw, hT⟩ := dS_cons hS
    have hw2 := hw
    obtain ⟨q, rfl, hq⟩ := hw
    exact dgo hk he (fun n d => r_astoren hf (dL_blt hL hb) rfl) hI hK (dX_refl _) (dX_refl _) (dL_S1 hL z ⟨q, rfl, hq⟩) hT hrk (dSub_refl _)
  · obtain ⟨hb, he⟩ := cit_s he
    obtain ⟨v, s, rfl, hw, hT⟩ := dS_cons hS
    have hw : v = .null := hw
    subst hw
    exact dgo hk he (fun n d => r_astorenN hf (dL_blt hL hb) rfl) hI hK (dX_refl _) (dX_refl _) (dL_S1 hL z (show dW ρ rh (4, 0, 0) .null from rfl)) hT hrk (dSub_refl _)
  · obtain ⟨hb, he⟩ := cit_s he
    obtain ⟨v, s, rfl, hw, hT⟩ := dS_cons hS
    have hw2 := hw
    rcases hw with rfl | ⟨q, rfl, hq⟩
    · exact dgo hk he (fun n d => r_astorenN hf (dL_blt hL hb) rfl) hI hK (dX_refl _) (dX_refl _) (dL_S1 hL z (Or.inl rfl)) hT hrk (dSub_refl _)
    · exact dgo hk he (fun n d => r_astoren hf (dL_blt hL hb) rfl) hI hK (dX_refl _) (dX_refl _) (dL_S1 hL z (Or.inr ⟨q, rfl, hq⟩)) hT hrk (dSub_refl _)
  · cases he
theorem x_astore {z : Nat} (hk : dSnd X Q zs lv top M k) : dOk X Q zs lv top M k pc (.astore z) len a b := by
  intro L st K es l sv h σ ρ rh hI hK hL hS hrk hf he
  have he : cstA L st z (fun L' r => k (pc + 2) L' r K) = some es := he
  unfold cstA at he
  split at he
  · obtain ⟨hb, he⟩ := cit_s he
    obtain ⟨v, s, rfl, hw, hT⟩ := dS_cons hS
    have hw2 := hw
    obtain ⟨q, rfl, hq⟩ := hw
    exact dgo hk he (fun n d => r_astore hf (dL_blt hL hb) rfl) hI hK (dX_refl _) (dX_refl _) (dL_S1 hL z ⟨q, rfl, hq⟩) hT hrk (dSub_refl _)
  · obtain ⟨hb, he⟩ := cit_s he
    obtain ⟨v, s, rfl, hw, hT⟩ := dS_cons hS
    have hw : v = .null := hw
    subst hw
    exact dgo hk he (fun n d => r_astoreN hf (dL_blt hL hb) rfl) hI hK (dX_refl _) (dX_refl _) (dL_S1 hL z (show dW ρ rh (4, 0, 0) .null from rfl)) hT hrk (dSub_refl _)
  · obtain ⟨hb, he⟩ := cit_s he
    obtain ⟨v, s, rfl, hw, hT⟩ := dS_cons hS
    have hw2 := hw
    rcases hw with rfl | ⟨q, rfl, hq⟩
    · exact dgo hk he (fun n d => r_astoreN hf (dL_blt hL hb) rfl) hI hK (dX_refl _) (dX_refl _) (dL_S1 hL z (Or.inl rfl)) hT hrk (dSub_refl _)
    · exact dgo hk he (fun n d => r_astore hf (dL_blt hL hb) rfl) hI hK (dX_refl _) (dX_refl _) (dL_S1 hL z (Or.inr ⟨q, rfl, hq⟩)) hT hrk (dSub_refl _)
  · cases he
theorem x_iinc {z : Nat} {c : Int} (hk : dSnd X Q zs lv top M k) : dOk X Q zs lv top M k pc (.iinc z c) len a b := by
  intro L st K es l sv h σ ρ rh hI hK hL hS hrk hf he
  have he : (bif Nat.beq (cG L z).1 1 then cit (cle (-32768) c && cle c 32767) (cadd' cM32 K (cG L z).2.1 (cG L z).2.2 0 c fun K' p o => k (pc + 3) (cS1 L z (1, p, o)) st K') else none) = some es := he
  cases hb : Nat.beq (cG L z).1 1 with
  | false => rw [hb] at he; cases he
  | true =>
    rw [hb] at he
    have ht := Nat.eq_of_beq_eq_true hb
    obtain ⟨v, hv, hw⟩ := dL_get hL ht (by decide)
    unfold dW at hw
    rw [ht] at hw
    obtain ⟨x, y, rfl, e1, e2⟩ := hw
    simp only [cond_true] at he
    obtain ⟨hc, he⟩ := cit_s he
    rw [Bool.and_eq_true, cle_i, cle_i] at hc
    have hR := iR (x + Int32.ofInt c)
    obtain ⟨K', p, o, ρ', w, he, hK', hx, e3, e4⟩ := cadd'_s (v := (x + Int32.ofInt c).toInt) hK e1 (z0 hK) he (by unfold cM32; omega) (by unfold cM32; omega) (by
      unfold cM32
      intro h1 h2
      rw [Int32.toInt_add, toInt_c hc.1 hc.2, bm32 (by omega) (by omega)]
      omega)
    exact dgo hk he (fun n d => r_iinc hf hv rfl rfl) hI hK' hx (dX_refl _) (dL_S1 (dL_mono hx (dX_refl _) hL) z (w_i e3 e4)) (dS_mono hx (dX_refl _) hS) hrk (dSub_refl _)
theorem x_iadd (hk : dSnd X Q zs lv top M k) : dOk X Q zs lv top M k pc (.iadd) len a b := by
  intro L st K es l sv h σ ρ rh hI hK hL hS hrk hf he
  obtain ⟨p, o, q, s, r, x, x', y, y', t, rfl, he, rfl, e1, e2, e3, e4, hS⟩ := cpII_s (show cpII st (fun p o q s r => cadd' cM32 K p o q s fun K' z x => k (pc + 1) L ((1, z, x) :: r) K') = some es from he) hS
  have hR := iR (x + x')
  obtain ⟨K', z, u, ρ', w, he, hK', hx, e5, e6⟩ := cadd'_s (v := (x + x').toInt) hK e1 e3 he (by unfold cM32; omega) (by unfold cM32; omega) (by
    unfold cM32
    intro h1 h2
    rw [Int32.toInt_add, bm32 (by omega) (by omega)]
    omega)
  exact dgo hk he (fun n d => r_iadd hf rfl) hI hK' hx (dX_refl _) (dL_mono hx (dX_refl _) hL) ⟨w_i e5 e6, dS_mono hx (dX_refl _) hS⟩ hrk (dSub_refl _)
theorem x_isub (hk : dSnd X Q zs lv top M k) : dOk X Q zs lv top M k pc (.isub) len a b := by
  intro L st K es l sv h σ ρ rh hI hK hL hS hrk hf he
  obtain ⟨p, o, q, s, r, x, x', y, y', t, rfl, he, rfl, e1, e2, e3, e4, hS⟩ := cpII_s (show cpII st (fun p o q s r => csub cM32 K p o q s fun K' z x => k (pc + 1) L ((1, z, x) :: r) K') = some es from he) hS
  have hR := iR (x - x')
  obtain ⟨K', z, u, ρ', w, he, hK', hx, e5, e6⟩ := csub_s (v := (x - x').toInt) hK e1 e3 he (by unfold cM32; omega) (by unfold cM32; omega) (by
    unfold cM32
    intro h1 h2
    rw [Int32.toInt_sub, bm32 (by omega) (by omega)]
    omega)
  exact dgo hk he (fun n d => r_isub hf rfl) hI hK' hx (dX_refl _) (dL_mono hx (dX_refl _) hL) ⟨w_i e5 e6, dS_mono hx (dX_refl _) hS⟩ hrk (dSub_refl _)
theorem x_ladd (hk : dSnd X Q zs lv top M k) : dOk X Q zs lv top M k pc (.ladd) len a b := by
  intro L st K es l sv h σ ρ rh hI hK hL hS hrk hf he
  obtain ⟨p, o, q, s, r, x, x', y, y', t, rfl, he, rfl, e1, e2, e3, e4, hS⟩ := cpJJ_s (show cpJJ st (fun p o q s r => cadd' cM64 K p o q s fun K' z x => k (pc + 1) L ((2, z, x) :: r) K') = some es from he) hS
  have hR := jR (x + x')
  obtain ⟨K', z, u, ρ', w, he, hK', hx, e5, e6⟩ := cadd'_s (v := (x + x').toInt) hK e1 e3 he (by unfold cM64; omega) (by unfold cM64; omega) (by
    unfold cM64
    intro h1 h2
    rw [Int64.toInt_add, bm64 (by omega) (by omega)]
    omega)
  exact dgo hk he (fun n d => r_ladd hf rfl) hI hK' hx (dX_refl _) (dL_mono hx (dX_refl _) hL) ⟨w_j e5 e6, dS_mono hx (dX_refl _) hS⟩ hrk (dSub_refl _)
theorem x_lsub (hk : dSnd X Q zs lv top M k) : dOk X Q zs lv top M k pc (.lsub) len a b := by
  intro L st K es l sv h σ ρ rh hI hK hL hS hrk hf he
  obtain ⟨p, o, q, s, r, x, x', y, y', t, rfl, he, rfl, e1, e2, e3, e4, hS⟩ := cpJJ_s (show cpJJ st (fun p o q s r => csub cM64 K p o q s fun K' z x => k (pc + 1) L ((2, z, x) :: r) K') = some es from he) hS
  have hR := jR (x - x')
  obtain ⟨K', z, u, ρ', w, he, hK', hx, e5, e6⟩ := csub_s (v := (x - x').toInt) hK e1 e3 he (by unfold cM64; omega) (by unfold cM64; omega) (by
    unfold cM64
    intro h1 h2
    rw [Int64.toInt_sub, bm64 (by omega) (by omega)]
    omega)
  exact dgo hk he (fun n d => r_lsub hf rfl) hI hK' hx (dX_refl _) (dL_mono hx (dX_refl _) hL) ⟨w_j e5 e6, dS_mono hx (dX_refl _) hS⟩ hrk (dSub_refl _)
theorem x_imul (hk : dSnd X Q zs lv top M k) : dOk X Q zs lv top M k pc (.imul) len a b := by
  intro L st K es l sv h σ ρ rh hI hK hL hS hrk hf he
  obtain ⟨p, o, q, s, r, x, x', y, y', t, rfl, he, rfl, e1, e2, e3, e4, hS⟩ := cpII_s (show cpII st (fun p o q s r => cfr K (let m := cmulr (clo K p o) (chi K p o) (clo K q s) (chi K q s); cfit cM32 m.1 m.2) fun K' z => k (pc + 1) L ((1, z, 0) :: r) K') = some es from he) hS
  have b1 := clo_s (o := o) hK e1
  have b2 := clo_s (o := s) hK e3
  have hR := iR (x * x')
  have hRx := iR x
  have hm := cmulr_s b1.1 b1.2 b2.1 b2.2
  have hb := cfit_s (M := cM32) (v := (x * x').toInt) (by unfold cM32; omega) (by unfold cM32; omega) hm.1 hm.2 (by
    unfold cM32
    intro h1 h2
    rw [Int32.toInt_mul, e2, e4, bm32 (by omega) (by omega)])
  obtain ⟨K', he, hK', e5⟩ := cfr_s he hK (v := (x * x').toInt) hb.1 hb.2
  exact dgo hk he (fun n d => r_imul hf rfl) hI hK' (dX_app _ _) (dX_refl _) (dL_mono (dX_app _ _) (dX_refl _) hL) ⟨w_i e5 (by omega), dS_mono (dX_app _ _) (dX_refl _) hS⟩ hrk (dSub_refl _)
theorem x_lmul (hk : dSnd X Q zs lv top M k) : dOk X Q zs lv top M k pc (.lmul) len a b := by
  intro L st K es l sv h σ ρ rh hI hK hL hS hrk hf he
  obtain ⟨p, o, q, s, r, x, x', y, y', t, rfl, he, rfl, e1, e2, e3, e4, hS⟩ := cpJJ_s (show cpJJ st (fun p o q s r => cfr K (let m := cmulr (clo K p o) (chi K p o) (clo K q s) (chi K q s); cfit cM64 m.1 m.2) fun K' z => k (pc + 1) L ((2, z, 0) :: r) K') = some es from he) hS
  have b1 := clo_s (o := o) hK e1
  have b2 := clo_s (o := s) hK e3
  have hR := jR (x * x')
  have hRx := jR x
  have hm := cmulr_s b1.1 b1.2 b2.1 b2.2
  have hb := cfit_s (M := cM64) (v := (x * x').toInt) (by unfold cM64; omega) (by unfold cM64; omega) hm.1 hm.2 (by
    unfold cM64
    intro h1 h2
    rw [Int64.toInt_mul, e2, e4, bm64 (by omega) (by omega)])
  obtain ⟨K', he, hK', e5⟩ := cfr_s he hK (v := (x * x').toInt) hb.1 hb.2
  exact dgo hk he (fun n d => r_lmul hf rfl) hI hK' (dX_app _ _) (dX_refl _) (dL_mono (dX_app _ _) (dX_refl _) hL) ⟨w_j e5 (by omega), dS_mono (dX_app _ _) (dX_refl _) hS⟩ hrk (dSub_refl _)
theorem x_ior (hk : dSnd X Q zs lv top M k) : dOk X Q zs lv top M k pc (.ior) len a b := by
  intro L st K es l sv h σ ρ rh hI hK hL hS hrk hf he
  obtain ⟨p, o, q, s, r, x, x', y, y', t, rfl, he, rfl, e1, e2, e3, e4, hS⟩ := cpII_s (show cpII st (fun p o q s r => cfr K (-cM32, cM32 - 1) fun K' z => k (pc + 1) L ((1, z, 0) :: r) K') = some es from he) hS
  have b1 := clo_s (o := o) hK e1
  have b2 := clo_s (o := s) hK e3
  have hR := iR (x ||| x')
  have hRx := iR x
  have hb : (-cM32, cM32 - 1).1 ≤ (x ||| x').toInt ∧ (x ||| x').toInt ≤ (-cM32, cM32 - 1).2 := by dsimp only; unfold cM32; omega
  obtain ⟨K', he, hK', e5⟩ := cfr_s he hK (v := (x ||| x').toInt) hb.1 hb.2
  exact dgo hk he (fun n d => r_ior hf rfl) hI hK' (dX_app _ _) (dX_refl _) (dL_mono (dX_app _ _) (dX_refl _) hL) ⟨w_i e5 (by omega), dS_mono (dX_app _ _) (dX_refl _) hS⟩ hrk (dSub_refl _)
theorem x_ixor (hk : dSnd X Q zs lv top M k) : dOk X Q zs lv top M k pc (.ixor) len a b := by
  intro L st K es l sv h σ ρ rh hI hK hL hS hrk hf he
  obtain ⟨p, o, q, s, r, x, x', y, y', t, rfl, he, rfl, e1, e2, e3, e4, hS⟩ := cpII_s (show cpII st (fun p o q s r => cfr K (-cM32, cM32 - 1) fun K' z => k (pc + 1) L ((1, z, 0) :: r) K') = some es from he) hS
  have b1 := clo_s (o := o) hK e1
  have b2 := clo_s (o := s) hK e3
  have hR := iR (x ^^^ x')
  have hRx := iR x
  have hb : (-cM32, cM32 - 1).1 ≤ (x ^^^ x').toInt ∧ (x ^^^ x').toInt ≤ (-cM32, cM32 - 1).2 := by dsimp only; unfold cM32; omega
  obtain ⟨K', he, hK', e5⟩ := cfr_s he hK (v := (x ^^^ x').toInt) hb.1 hb.2
  exact dgo hk he (fun n d => r_ixor hf rfl) hI hK' (dX_app _ _) (dX_refl _) (dL_mono (dX_app _ _) (dX_refl _) hL) ⟨w_i e5 (by omega), dS_mono (dX_app _ _) (dX_refl _) hS⟩ hrk (dSub_refl _)
theorem x_ishl (hk : dSnd X Q zs lv top M k) : dOk X Q zs lv top M k pc (.ishl) len a b := by
  intro L st K es l sv h σ ρ rh hI hK hL hS hrk hf he
  obtain ⟨p, o, q, s, r, x, x', y, y', t, rfl, he, rfl, e1, e2, e3, e4, hS⟩ := cpII_s (show cpII st (fun p o q s r => cfr K (-cM32, cM32 - 1) fun K' z => k (pc + 1) L ((1, z, 0) :: r) K') = some es from he) hS
  have b1 := clo_s (o := o) hK e1
  have b2 := clo_s (o := s) hK e3
  have hR := iR (x <<< (x' &&& 31))
  have hRx := iR x
  have hb : (-cM32, cM32 - 1).1 ≤ (x <<< (x' &&& 31)).toInt ∧ (x <<< (x' &&& 31)).toInt ≤ (-cM32, cM32 - 1).2 := by dsimp only; unfold cM32; omega
  obtain ⟨K', he, hK', e5⟩ := cfr_s he hK (v := (x <<< (x' &&& 31)).toInt) hb.1 hb.2
  exact dgo hk he (fun n d => r_ishl hf rfl) hI hK' (dX_app _ _) (dX_refl _) (dL_mono (dX_app _ _) (dX_refl _) hL) ⟨w_i e5 (by omega), dS_mono (dX_app _ _) (dX_refl _) hS⟩ hrk (dSub_refl _)
theorem x_ishr (hk : dSnd X Q zs lv top M k) : dOk X Q zs lv top M k pc (.ishr) len a b := by
  intro L st K es l sv h σ ρ rh hI hK hL hS hrk hf he
  obtain ⟨p, o, q, s, r, x, x', y, y', t, rfl, he, rfl, e1, e2, e3, e4, hS⟩ := cpII_s (show cpII st (fun p o q s r => cfr K (-cM32, cM32 - 1) fun K' z => k (pc + 1) L ((1, z, 0) :: r) K') = some es from he) hS
  have b1 := clo_s (o := o) hK e1
  have b2 := clo_s (o := s) hK e3
  have hR := iR (x >>> (x' &&& 31))
  have hRx := iR x
  have hb : (-cM32, cM32 - 1).1 ≤ (x >>> (x' &&& 31)).toInt ∧ (x >>> (x' &&& 31)).toInt ≤ (-cM32, cM32 - 1).2 := by dsimp only; unfold cM32; omega
  obtain ⟨K', he, hK', e5⟩ := cfr_s he hK (v := (x >>> (x' &&& 31)).toInt) hb.1 hb.2
  exact dgo hk he (fun n d => r_ishr hf rfl) hI hK' (dX_app _ _) (dX_refl _) (dL_mono (dX_app _ _) (dX_refl _) hL) ⟨w_i e5 (by omega), dS_mono (dX_app _ _) (dX_refl _) hS⟩ hrk (dSub_refl _)
theorem x_iushr (hk : dSnd X Q zs lv top M k) : dOk X Q zs lv top M k pc (.iushr) len a b := by
  intro L st K es l sv h σ ρ rh hI hK hL hS hrk hf he
  obtain ⟨p, o, q, s, r, x, x', y, y', t, rfl, he, rfl, e1, e2, e3, e4, hS⟩ := cpII_s (show cpII st (fun p o q s r => cfr K (bif cle 1 (clo K q s) && cle (chi K q s) 31 then (0, cM32 - 1) else (-cM32, cM32 - 1)) fun K' z => k (pc + 1) L ((1, z, 0) :: r) K') = some es from he) hS
  have b1 := clo_s (o := o) hK e1
  have b2 := clo_s (o := s) hK e3
  have hR := iR ((x.toUInt32 >>> (x'.toUInt32 &&& Int32.toUInt32 31)).toInt32)
  have hRx := iR x
  have hb : (bif cle 1 (clo K q s) && cle (chi K q s) 31 then ((0 : Int), cM32 - 1) else (-cM32, cM32 - 1)).1 ≤ ((x.toUInt32 >>> (x'.toUInt32 &&& Int32.toUInt32 31)).toInt32).toInt ∧ ((x.toUInt32 >>> (x'.toUInt32 &&& Int32.toUInt32 31)).toInt32).toInt ≤ (bif cle 1 (clo K q s) && cle (chi K q s) 31 then ((0 : Int), cM32 - 1) else (-cM32, cM32 - 1)).2 := by
    cases hc : (cle 1 (clo K q s) && cle (chi K q s) 31) with
    | true =>
      rw [Bool.and_eq_true, cle_i, cle_i] at hc
      have := i_ushr (x := x) (y := x') (by omega) (by omega)
      simp only [cond_true]; unfold cM32; omega
    | false => simp only [cond_false]; unfold cM32; omega
  obtain ⟨K', he, hK', e5⟩ := cfr_s he hK (v := ((x.toUInt32 >>> (x'.toUInt32 &&& Int32.toUInt32 31)).toInt32).toInt) hb.1 hb.2
  exact dgo hk he (fun n d => r_iushr hf rfl) hI hK' (dX_app _ _) (dX_refl _) (dL_mono (dX_app _ _) (dX_refl _) hL) ⟨w_i e5 (by omega), dS_mono (dX_app _ _) (dX_refl _) hS⟩ hrk (dSub_refl _)
theorem x_idiv (hk : dSnd X Q zs lv top M k) : dOk X Q zs lv top M k pc (.idiv) len a b := by
  intro L st K es l sv h σ ρ rh hI hK hL hS hrk hf he
  obtain ⟨p, o, q, s, r, x, x', y, y', t, rfl, he, rfl, e1, e2, e3, e4, hS⟩ := cpII_s (show cpII st (fun p o q s r => cit (cnz K q s) (cfr K (cdivr cM32 (clo K p o) (chi K p o) (clo K q s) (chi K q s)) fun K' z => k (pc + 1) L ((1, z, 0) :: r) K')) = some es from he) hS
  have b1 := clo_s (o := o) hK e1
  have b2 := clo_s (o := s) hK e3
  have hR := iR (x / x')
  have hRx := iR x
  obtain ⟨hnz, he⟩ := cit_s he
  have hnz := cnz_s hK e3 hnz
  have hb := cdivr_s (d := chi K q s) (M := cM32) (x := x.toInt) (y := x'.toInt) (v := (x / x').toInt) (by decide) (by rw [e2]; exact b1.1) (by rw [e2]; exact b1.2) (by rw [e4]; exact b2.1) (by unfold cM32; omega) (by unfold cM32; omega) (by unfold cM32; omega) (by unfold cM32; omega) (by
    unfold cM32
    intro h1 h2
    exact i_div (by omega) (by omega))
  obtain ⟨K', he, hK', e5⟩ := cfr_s he hK (v := (x / x').toInt) hb.1 hb.2
  exact dgo hk he (fun n d => r_idiv hf (fun c => hnz (by rw [← e4, c]; rfl)) rfl) hI hK' (dX_app _ _) (dX_refl _) (dL_mono (dX_app _ _) (dX_refl _) hL) ⟨w_i e5 (by omega), dS_mono (dX_app _ _) (dX_refl _) hS⟩ hrk (dSub_refl _)
theorem x_ldiv (hk : dSnd X Q zs lv top M k) : dOk X Q zs lv top M k pc (.ldiv) len a b := by
  intro L st K es l sv h σ ρ rh hI hK hL hS hrk hf he
  obtain ⟨p, o, q, s, r, x, x', y, y', t, rfl, he, rfl, e1, e2, e3, e4, hS⟩ := cpJJ_s (show cpJJ st (fun p o q s r => cit (cnz K q s) (cfr K (cdivr cM64 (clo K p o) (chi K p o) (clo K q s) (chi K q s)) fun K' z => k (pc + 1) L ((2, z, 0) :: r) K')) = some es from he) hS
  have b1 := clo_s (o := o) hK e1
  have b2 := clo_s (o := s) hK e3
  have hR := jR (x / x')
  have hRx := jR x
  obtain ⟨hnz, he⟩ := cit_s he
  have hnz := cnz_s hK e3 hnz
  have hb := cdivr_s (d := chi K q s) (M := cM64) (x := x.toInt) (y := x'.toInt) (v := (x / x').toInt) (by decide) (by rw [e2]; exact b1.1) (by rw [e2]; exact b1.2) (by rw [e4]; exact b2.1) (by unfold cM64; omega) (by unfold cM64; omega) (by unfold cM64; omega) (by unfold cM64; omega) (by
    unfold cM64
    intro h1 h2
    exact j_div (by omega) (by omega))
  obtain ⟨K', he, hK', e5⟩ := cfr_s he hK (v := (x / x').toInt) hb.1 hb.2
  exact dgo hk he (fun n d => r_ldiv hf (fun c => hnz (by rw [← e4, c]; rfl)) rfl) hI hK' (dX_app _ _) (dX_refl _) (dL_mono (dX_app _ _) (dX_refl _) hL) ⟨w_j e5 (by omega), dS_mono (dX_app _ _) (dX_refl _) hS⟩ hrk (dSub_refl _)
theorem x_irem (hk : dSnd X Q zs lv top M k) : dOk X Q zs lv top M k pc (.irem) len a b := by
  intro L st K es l sv h σ ρ rh hI hK hL hS hrk hf he
  obtain ⟨p, o, q, s, r, x, x', y, y', t, rfl, he, rfl, e1, e2, e3, e4, hS⟩ := cpII_s (show cpII st (fun p o q s r => cit (cnz K q s) (cfr K (cremr cM32 (clo K p o) (chi K p o) (clo K q s) (chi K q s)) fun K' z => k (pc + 1) L ((1, z, 0) :: r) K')) = some es from he) hS
  have b1 := clo_s (o := o) hK e1
  have b2 := clo_s (o := s) hK e3
  have hR := iR (x - x / x' * x')
  have hRx := iR x
  obtain ⟨hnz, he⟩ := cit_s he
  have hnz := cnz_s hK e3 hnz
  have hb := cremr_s (M := cM32) (x := x.toInt) (y := x'.toInt) (v := (x - x / x' * x').toInt) (by rw [e2]; exact b1.1) (by rw [e2]; exact b1.2) (by rw [e4]; exact b2.1) (by rw [e4]; exact b2.2) (by unfold cM32; omega) (by unfold cM32; omega) (i_rem (by rw [e4]; exact hnz))
  obtain ⟨K', he, hK', e5⟩ := cfr_s he hK (v := (x - x / x' * x').toInt) hb.1 hb.2
  exact dgo hk he (fun n d => r_irem hf (fun c => hnz (by rw [← e4, c]; rfl)) rfl) hI hK' (dX_app _ _) (dX_refl _) (dL_mono (dX_app _ _) (dX_refl _) hL) ⟨w_i e5 (by omega), dS_mono (dX_app _ _) (dX_refl _) hS⟩ hrk (dSub_refl _)
theorem x_lrem (hk : dSnd X Q zs lv top M k) : dOk X Q zs lv top M k pc (.lrem) len a b := by
  intro L st K es l sv h σ ρ rh hI hK hL hS hrk hf he
  obtain ⟨p, o, q, s, r, x, x', y, y', t, rfl, he, rfl, e1, e2, e3, e4, hS⟩ := cpJJ_s (show cpJJ st (fun p o q s r => cit (cnz K q s) (cfr K (cremr cM64 (clo K p o) (chi K p o) (clo K q s) (chi K q s)) fun K' z => k (pc + 1) L ((2, z, 0) :: r) K')) = some es from he) hS
  have b1 := clo_s (o := o) hK e1
  have b2 := clo_s (o := s) hK e3
  have hR := jR (x - x / x' * x')
  have hRx := jR x
  obtain ⟨hnz, he⟩ := cit_s he
  have hnz := cnz_s hK e3 hnz
  have hb := cremr_s (M := cM64) (x := x.toInt) (y := x'.toInt) (v := (x - x / x' * x').toInt) (by rw [e2]; exact b1.1) (by rw [e2]; exact b1.2) (by rw [e4]; exact b2.1) (by rw [e4]; exact b2.2) (by unfold cM64; omega) (by unfold cM64; omega) (j_rem (by rw [e4]; exact hnz))
  obtain ⟨K', he, hK', e5⟩ := cfr_s he hK (v := (x - x / x' * x').toInt) hb.1 hb.2
  exact dgo hk he (fun n d => r_lrem hf (fun c => hnz (by rw [← e4, c]; rfl)) rfl) hI hK' (dX_app _ _) (dX_refl _) (dL_mono (dX_app _ _) (dX_refl _) hL) ⟨w_j e5 (by omega), dS_mono (dX_app _ _) (dX_refl _) hS⟩ hrk (dSub_refl _)
theorem x_iand (hk : dSnd X Q zs lv top M k) : dOk X Q zs lv top M k pc (.iand) len a b := by
  intro L st K es l sv h σ ρ rh hI hK hL hS hrk hf he
  obtain ⟨p, o, q, s, r, x, x', y, y', t, rfl, he, rfl, e1, e2, e3, e4, hS⟩ := cpII_s (show cpII st (fun p o q s r => bif cle 0 (clo K p o) && cle 0 (clo K q s) then
      k (pc + 1) L ((1, K.1.length, 0) :: r) (K.1 ++ [(0, cmn (chi K p o) (chi K q s))], (bif Nat.beq p 0 then [] else [(K.1.length, p, o)]) ++ ((bif Nat.beq q 0 then [] else [(K.1.length, q, s)]) ++ K.2.1), K.2.2)
    else cfr K (candr (clo K p o) (chi K p o) (clo K q s) (chi K q s)) fun K' z => k (pc + 1) L ((1, z, 0) :: r) K') = some es from he) hS
  have b1 := clo_s (o := o) hK e1
  have b2 := clo_s (o := s) hK e3
  cases hc : (cle 0 (clo K p o) && cle 0 (clo K q s)) with
  | false =>
    rw [hc] at he
    simp only [cond_false] at he
    have hb := candr_s (x := x) (y := x') (by rw [e2]; exact b1.1) (by rw [e2]; exact b1.2) (by rw [e4]; exact b2.1) (by rw [e4]; exact b2.2)
    obtain ⟨K', he, hK', e5⟩ := cfr_s he hK (v := (x &&& x').toInt) hb.1 hb.2
    exact dgo hk he (fun n d => r_iand hf rfl) hI hK' (dX_app _ _) (dX_refl _) (dL_mono (dX_app _ _) (dX_refl _) hL) ⟨w_i e5 (by omega), dS_mono (dX_app _ _) (dX_refl _) hS⟩ hrk (dSub_refl _)
  | true =>
    rw [hc] at he
    simp only [cond_true] at he
    rw [Bool.and_eq_true, cle_i, cle_i] at hc
    have a1 := i_and (x := x) (y := x') (by omega)
    have a2 := i_and' (x := x) (y := x') (by omega)
    have hK' := dK_new (z := (x &&& x').toInt) (l := 0) (u := cmn (chi K p o) (chi K q s)) hK a1.1 (by rcases cmn_or (a := chi K p o) (b := chi K q s) with w | w <;> rw [w] <;> omega)
    have e5 := kV_last hK.1 (x &&& x').toInt
    refine dgo hk he (fun n d => r_iand hf rfl) hI ⟨hK'.1, fun u hu => ?_, hK'.2.2⟩ (dX_app _ _) (dX_refl _) (dL_mono (dX_app _ _) (dX_refl _) hL) ⟨w_i e5 (by omega), dS_mono (dX_app _ _) (dX_refl _) hS⟩ hrk (dSub_refl _)
    rcases List.mem_append.mp hu with hu | hu
    · cases hp : Nat.beq p 0 with
      | true => rw [hp] at hu; cases hu
      | false =>
        rw [hp] at hu
        simp only [cond_false, List.mem_singleton] at hu
        subst hu
        exact ⟨_, y, e5, dX_app _ _ _ _ e1, by show (x &&& x').toInt - y ≤ o; omega⟩
    · rcases List.mem_append.mp hu with hu | hu
      · cases hp : Nat.beq q 0 with
        | true => rw [hp] at hu; cases hu
        | false =>
          rw [hp] at hu
          simp only [cond_false, List.mem_singleton] at hu
          subst hu
          exact ⟨_, y', e5, dX_app _ _ _ _ e3, by show (x &&& x').toInt - y' ≤ s; omega⟩
      · exact hK'.2.1 u hu
theorem x_ineg (hk : dSnd X Q zs lv top M k) : dOk X Q zs lv top M k pc (.ineg) len a b := by
  intro L st K es l sv h σ ρ rh hI hK hL hS hrk hf he
  obtain ⟨p, o, r, x, y, t, rfl, he, rfl, e1, e2, hS⟩ := cpI_s (show cpI st (fun p o r => cfr K (cfit cM32 (-(chi K p o)) (-(clo K p o))) fun K' z => k (pc + 1) L ((1, z, 0) :: r) K') = some es from he) hS
  have b1 := clo_s (o := o) hK e1
  have hR := iR (-x)
  have hb := cfit_s (M := cM32) (v := (-x).toInt) (w := -x.toInt) (l := -(chi K p o)) (u := -(clo K p o)) (by unfold cM32; omega) (by unfold cM32; omega) (by omega) (by omega) (by
    unfold cM32
    intro h1 h2
    rw [Int32.toInt_neg, bm32 (by omega) (by omega)])
  obtain ⟨K', he, hK', e5⟩ := cfr_s he hK (v := (-x).toInt) hb.1 hb.2
  exact dgo hk he (fun n d => r_ineg hf rfl) hI hK' (dX_app _ _) (dX_refl _) (dL_mono (dX_app _ _) (dX_refl _) hL) ⟨w_i e5 (by omega), dS_mono (dX_app _ _) (dX_refl _) hS⟩ hrk (dSub_refl _)
theorem x_i2l (hk : dSnd X Q zs lv top M k) : dOk X Q zs lv top M k pc (.i2l) len a b := by
  intro L st K es l sv h σ ρ rh hI hK hL hS hrk hf he
  obtain ⟨p, o, r, x, y, t, rfl, he, rfl, e1, e2, hS⟩ := cpI_s (show cpI st (fun p o r => k (pc + 1) L ((2, p, o) :: r) K) = some es from he) hS
  exact dgo hk he (fun n d => r_i2l hf rfl) hI hK (dX_refl _) (dX_refl _) hL ⟨w_j e1 (by rw [Int32.toInt_toInt64]; exact e2), hS⟩ hrk (dSub_refl _)
theorem x_l2i (hk : dSnd X Q zs lv top M k) : dOk X Q zs lv top M k pc (.l2i) len a b := by
  intro L st K es l sv h σ ρ rh hI hK hL hS hrk hf he
  obtain ⟨p, o, r, x, y, t, rfl, he, rfl, e1, e2, hS⟩ := cpJ_s (show cpJ st (fun p o r => bif cin cM32 (clo K p o) (chi K p o) then k (pc + 1) L ((1, p, o) :: r) K else cfr K (-cM32, cM32 - 1) fun K' z => k (pc + 1) L ((1, z, 0) :: r) K') = some es from he) hS
  have b1 := clo_s (o := o) hK e1
  have hR := iR x.toInt32
  cases hc : cin cM32 (clo K p o) (chi K p o) with
  | true =>
    rw [hc] at he
    have hi := cin_s hc
    unfold cM32 at *
    exact dgo hk he (fun n d => r_l2i hf rfl) hI hK (dX_refl _) (dX_refl _) hL ⟨w_i e1 (by rw [Int64.toInt_toInt32, Int.bmod_eq_of_le (by omega) (by omega)]; exact e2), hS⟩ hrk (dSub_refl _)
  | false =>
    rw [hc] at he
    simp only [cond_false] at he
    obtain ⟨K', he, hK', e5⟩ := cfr_s he hK (v := (x.toInt32).toInt) (by dsimp only; unfold cM32; omega) (by dsimp only; unfold cM32; omega)
    exact dgo hk he (fun n d => r_l2i hf rfl) hI hK' (dX_app _ _) (dX_refl _) (dL_mono (dX_app _ _) (dX_refl _) hL) ⟨w_i e5 (by omega), dS_mono (dX_app _ _) (dX_refl _) hS⟩ hrk (dSub_refl _)
theorem x_i2b (hk : dSnd X Q zs lv top M k) : dOk X Q zs lv top M k pc (.i2b) len a b := by
  intro L st K es l sv h σ ρ rh hI hK hL hS hrk hf he
  obtain ⟨p, o, r, x, y, t, rfl, he, rfl, e1, e2, hS⟩ := cpI_s (show cpI st (fun p o r => bif cin 128 (clo K p o) (chi K p o) then k (pc + 1) L ((1, p, o) :: r) K else cfr K (-128, 127) fun K' z => k (pc + 1) L ((1, z, 0) :: r) K') = some es from he) hS
  have b1 := clo_s (o := o) hK e1
  have hR : -128 ≤ x.toInt8.toInt32.toInt ∧ x.toInt8.toInt32.toInt ≤ 127 := by rw [Int8.toInt_toInt32]; have := x.toInt8.le_toInt; have := x.toInt8.toInt_lt; omega
  cases hc : cin 128 (clo K p o) (chi K p o) with
  | true =>
    rw [hc] at he
    have hi := cin_s hc
    unfold cM32 at *
    exact dgo hk he (fun n d => r_i2b hf rfl) hI hK (dX_refl _) (dX_refl _) hL ⟨w_i e1 (by rw [Int8.toInt_toInt32, Int32.toInt_toInt8, Int.bmod_eq_of_le (by omega) (by omega)]; exact e2), hS⟩ hrk (dSub_refl _)
  | false =>
    rw [hc] at he
    simp only [cond_false] at he
    obtain ⟨K', he, hK', e5⟩ := cfr_s he hK (v := (x.toInt8.toInt32).toInt) (by dsimp only; omega) (by dsimp only; omega)
    exact dgo hk he (fun n d => r_i2b hf rfl) hI hK' (dX_app _ _) (dX_refl _) (dL_mono (dX_app _ _) (dX_refl _) hL) ⟨w_i e5 (by omega), dS_mono (dX_app _ _) (dX_refl _) hS⟩ hrk (dSub_refl _)
theorem x_i2s (hk : dSnd X Q zs lv top M k) : dOk X Q zs lv top M k pc (.i2s) len a b := by
  intro L st K es l sv h σ ρ rh hI hK hL hS hrk hf he
  obtain ⟨p, o, r, x, y, t, rfl, he, rfl, e1, e2, hS⟩ := cpI_s (show cpI st (fun p o r => bif cin 32768 (clo K p o) (chi K p o) then k (pc + 1) L ((1, p, o) :: r) K else cfr K (-32768, 32767) fun K' z => k (pc + 1) L ((1, z, 0) :: r) K') = some es from he) hS
  have b1 := clo_s (o := o) hK e1
  have hR : -32768 ≤ x.toInt16.toInt32.toInt ∧ x.toInt16.toInt32.toInt ≤ 32767 := by rw [Int16.toInt_toInt32]; have := x.toInt16.le_toInt; have := x.toInt16.toInt_lt; omega
  cases hc : cin 32768 (clo K p o) (chi K p o) with
  | true =>
    rw [hc] at he
    have hi := cin_s hc
    unfold cM32 at *
    exact dgo hk he (fun n d => r_i2s hf rfl) hI hK (dX_refl _) (dX_refl _) hL ⟨w_i e1 (by rw [Int16.toInt_toInt32, Int32.toInt_toInt16, Int.bmod_eq_of_le (by omega) (by omega)]; exact e2), hS⟩ hrk (dSub_refl _)
  | false =>
    rw [hc] at he
    simp only [cond_false] at he
    obtain ⟨K', he, hK', e5⟩ := cfr_s he hK (v := (x.toInt16.toInt32).toInt) (by dsimp only; omega) (by dsimp only; omega)
    exact dgo hk he (fun n d => r_i2s hf rfl) hI hK' (dX_app _ _) (dX_refl _) (dL_mono (dX_app _ _) (dX_refl _) hL) ⟨w_i e5 (by omega), dS_mono (dX_app _ _) (dX_refl _) hS⟩ hrk (dSub_refl _)
theorem i2c_b (x : Int32) : 0 ≤ ((x.toUInt32 % 65536).toInt32).toInt ∧ ((x.toUInt32 % 65536).toInt32).toInt ≤ 65535 ∧ (0 ≤ x.toInt → x.toInt ≤ 65535 → ((x.toUInt32 % 65536).toInt32).toInt = x.toInt) := by
  have e : ((x.toUInt32 % 65536).toInt32).toBitVec.toNat = x.toBitVec.toNat % 65536 := by
    show (x.toUInt32 % 65536).toNat = _
    rw [UInt32.toNat_mod]
    rfl
  have h := i_nat (x := (x.toUInt32 % 65536).toInt32) (by rw [e]; omega)
  rw [h, e]
  refine ⟨by omega, by omega, fun h1 h2 => ?_⟩
  obtain ⟨g1, g2⟩ := i_nn h1
  omega
theorem x_i2c (hk : dSnd X Q zs lv top M k) : dOk X Q zs lv top M k pc (.i2c) len a b := by
  intro L st K es l sv h σ ρ rh hI hK hL hS hrk hf he
  obtain ⟨p, o, r, x, y, t, rfl, he, rfl, e1, e2, hS⟩ := cpI_s (show cpI st (fun p o r => bif cle 0 (clo K p o) && cle (chi K p o) 65535 then k (pc + 1) L ((1, p, o) :: r) K else cfr K (0, 65535) fun K' z => k (pc + 1) L ((1, z, 0) :: r) K') = some es from he) hS
  have b1 := clo_s (o := o) hK e1
  have hR := i2c_b x
  cases hc : (cle 0 (clo K p o) && cle (chi K p o) 65535) with
  | true =>
    rw [hc] at he
    rw [Bool.and_eq_true, cle_i, cle_i] at hc
    exact dgo hk he (fun n d => r_i2c hf rfl) hI hK (dX_refl _) (dX_refl _) hL ⟨w_i e1 (by rw [hR.2.2 (by omega) (by omega)]; exact e2), hS⟩ hrk (dSub_refl _)
  | false =>
    rw [hc] at he
    simp only [cond_false] at he
    obtain ⟨K', he, hK', e5⟩ := cfr_s he hK (v := ((x.toUInt32 % 65536).toInt32).toInt) (by dsimp only; omega) (by dsimp only; omega)
    exact dgo hk he (fun n d => r_i2c hf rfl) hI hK' (dX_app _ _) (dX_refl _) (dL_mono (dX_app _ _) (dX_refl _) hL) ⟨w_i e5 (by omega), dS_mono (dX_app _ _) (dX_refl _) hS⟩ hrk (dSub_refl _)
theorem x_dup (hk : dSnd X Q zs lv top M k) : dOk X Q zs lv top M k pc (.dup) len a b := by
  intro L st K es l sv h σ ρ rh hI hK hL hS hrk hf he
  cases st with
  | nil => cases he
  | cons w r =>
    have he : (bif Nat.beq w.1 2 then none else k (pc + 1) L (w :: w :: r) K) = some es := he
    cases hb : Nat.beq w.1 2 with
    | true => rw [hb] at he; cases he
    | false =>
      rw [hb] at he
      obtain ⟨v, s, rfl, hw, hS⟩ := dS_cons hS
      exact dgo hk he (fun n d => r_dup hf (w_tag hw hb)) hI hK (dX_refl _) (dX_refl _) hL ⟨hw, hw, hS⟩ hrk (dSub_refl _)
theorem x_pop (hk : dSnd X Q zs lv top M k) : dOk X Q zs lv top M k pc (.pop) len a b := by
  intro L st K es l sv h σ ρ rh hI hK hL hS hrk hf he
  cases st with
  | nil => cases he
  | cons w r =>
    have he : (bif Nat.beq w.1 2 then none else k (pc + 1) L r K) = some es := he
    cases hb : Nat.beq w.1 2 with
    | true => rw [hb] at he; cases he
    | false =>
      rw [hb] at he
      obtain ⟨v, s, rfl, hw, hS⟩ := dS_cons hS
      exact dgo hk he (fun n d => r_pop hf (w_tag hw hb)) hI hK (dX_refl _) (dX_refl _) hL hS hrk (dSub_refl _)
theorem x_dup2 (hk : dSnd X Q zs lv top M k) : dOk X Q zs lv top M k pc (.dup2) len a b := by
  intro L st K es l sv h σ ρ rh hI hK hL hS hrk hf he
  match st, he, hS with
  | [], he, _ => cases he
  | [_], he, _ => cases he
  | v :: w :: r, he, hS =>
    have he : (bif Nat.beq v.1 2 || Nat.beq w.1 2 then none else k (pc + 1) L (v :: w :: v :: w :: r) K) = some es := he
    cases hb : (Nat.beq v.1 2 || Nat.beq w.1 2) with
    | true => rw [hb] at he; cases he
    | false =>
      rw [hb] at he
      rw [Bool.or_eq_false_iff] at hb
      obtain ⟨x, s, rfl, hw, hS⟩ := dS_cons hS
      obtain ⟨y, s, rfl, hw2, hS⟩ := dS_cons hS
      exact dgo hk he (fun n d => r_dup2 hf (by rw [w_tag hw hb.1, w_tag hw2 hb.2]; rfl)) hI hK (dX_refl _) (dX_refl _) hL ⟨hw, hw2, hw, hw2, hS⟩ hrk (dSub_refl _)
theorem x_goto {z : Int} (hk : dSnd X Q zs lv top M k) : dOk X Q zs lv top M k pc (.goto z) len a b := by
  intro L st K es l sv h σ ρ rh hI hK hL hS hrk hf he
  have he : k a L st K = some es := he
  exact dgo hk he (fun n d => r_goto hf) hI hK (dX_refl _) (dX_refl _) hL hS hrk (dSub_refl _)
theorem x_ifCond {c : Jvm.ClassFile.Cond} {z : Int} (hk : dSnd X Q zs lv top M k) : dOk X Q zs lv top M k pc (.ifCond c z) len a b := by
  intro L st K es l sv h σ ρ rh hI hK hL hS hrk hf he
  obtain ⟨p, o, r, x, y, t, rfl, he, rfl, e1, e2, hS⟩ := cpI_s (show cpI st (fun p o r => ccmp c K p o 0 0 (k a L r) (k (pc + 3) L r)) = some es from he) hS
  have g := ccmp_s hK e1 (z0 hK) he
  cases hb : dBr c x.toInt 0 with
  | true =>
    obtain ⟨K1, e, he, hs, hK1⟩ := g.1 (by rw [← e2]; exact hb)
    exact dgo hk he (fun n d => by rw [r_cond hf, hb]; rfl) hI hK1 (dX_refl _) (dX_refl _) hL hS hrk hs
  | false =>
    obtain ⟨K1, e, he, hs, hK1⟩ := g.2 (by rw [← e2]; exact hb)
    exact dgo hk he (fun n d => by rw [r_cond hf, hb]; rfl) hI hK1 (dX_refl _) (dX_refl _) hL hS hrk hs
theorem x_if_icmp {c : Jvm.ClassFile.Cond} {z : Int} (hk : dSnd X Q zs lv top M k) : dOk X Q zs lv top M k pc (.if_icmp c z) len a b := by
  intro L st K es l sv h σ ρ rh hI hK hL hS hrk hf he
  obtain ⟨p, o, q, s, r, x, x', y, y', t, rfl, he, rfl, e1, e2, e3, e4, hS⟩ := cpII_s (show cpII st (fun p o q s r => ccmp c K p o q s (k a L r) (k (pc + 3) L r)) = some es from he) hS
  have g := ccmp_s hK e1 e3 he
  cases hb : dBr c x.toInt x'.toInt with
  | true =>
    obtain ⟨K1, e, he, hs, hK1⟩ := g.1 (by rw [← e2, ← e4]; exact hb)
    exact dgo hk he (fun n d => by rw [r_cmp hf, hb]; rfl) hI hK1 (dX_refl _) (dX_refl _) hL hS hrk hs
  | false =>
    obtain ⟨K1, e, he, hs, hK1⟩ := g.2 (by rw [← e2, ← e4]; exact hb)
    exact dgo hk he (fun n d => by rw [r_cmp hf, hb]; rfl) hI hK1 (dX_refl _) (dX_refl _) hL hS hrk hs
end XI

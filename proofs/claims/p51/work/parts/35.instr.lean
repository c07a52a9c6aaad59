-- ===== 35.instr: 5 texts =====
section
-- ===== an instruction of the checker, an instruction of the machine (by program) =====
def dOk (X : aX) (Q : cQ) (zs : Int) (lv : Nat) (top : Bool) (M : aM) (k : Nat → List cW → List cW → cK → Option (List cEx)) (pc : Nat) (ins : Instr) (len a b : Nat) : Prop :=
  ∀ (L st : List cW) (K : cK) (es : List cEx) (l : aL) (sv : List Value) (h : aH) (σ : List Nat) (ρ : List Int) (rh : List Nat), dI σ h → dK σ h ρ rh K → dL ρ rh L l → dS ρ rh st sv → dRk Q zs ρ →
    aF pc M.2.2.2.2.2.2.2 = some (pc, ins, len, a, b) → cX1 Q.2.2.2.1 k (pc, ins, len, a, b) L st K = some es → dRes X Q zs lv top M pc l sv h σ ρ rh es
theorem w_i {ρ : List Int} {rh : List Nat} {p : Nat} {o y : Int} {x : Int32} (e : ρ[p]? = some y) (h : x.toInt = y + o) : dW ρ rh (1, p, o) (.int x) := ⟨x, y, rfl, e, h⟩
theorem w_j {ρ : List Int} {rh : List Nat} {p : Nat} {o y : Int} {x : Int64} (e : ρ[p]? = some y) (h : x.toInt = y + o) : dW ρ rh (2, p, o) (.long x) := ⟨x, y, rfl, e, h⟩
theorem iz_of (n : Nat) (h : n < 4294967296) : (Int32.ofNat n).toInt = c31 n := by
  unfold c31
  rw [Int32.toInt_ofNat']
  cases q : Nat.blt n 2147483648 with
  | true =>
    rw [Nat.blt_eq] at q
    simp only [cond_true]
    exact Int.bmod_eq_of_le (by simp only [Int32.size]; omega) (by simp only [Int32.size]; omega)
  | false =>
    have q : ¬ n < 2147483648 := fun c => by rw [← Nat.blt_eq, q] at c; cases c
    simp only [cond_false]
    rw [Int.bmod_def]
    simp only [Int32.size]
    omega
theorem jz_of (n : Nat) (h : n < 18446744073709551616) : (Int64.ofNat n).toInt = c63 n := by
  unfold c63
  rw [Int64.toInt_ofNat']
  cases q : Nat.blt n 9223372036854775808 with
  | true =>
    rw [Nat.blt_eq] at q
    simp only [cond_true]
    exact Int.bmod_eq_of_le (by simp only [Int64.size]; omega) (by simp only [Int64.size]; omega)
  | false =>
    have q : ¬ n < 9223372036854775808 := fun c => by rw [← Nat.blt_eq, q] at c; cases c
    simp only [cond_false]
    rw [Int.bmod_def]
    simp only [Int64.size]
    omega
theorem toInt_ic {z : Int} (h1 : -128 ≤ z) (h2 : z ≤ 127) : (Int32.ofInt z).toInt = z := Int32.toInt_ofInt_of_le (by omega) (by omega)
theorem toInt_b {z : Int} (h1 : -128 ≤ z) (h2 : z ≤ 127) : (Int8.ofInt z).toInt32.toInt = z := by
  rw [Int8.toInt_toInt32]
  exact Int8.toInt_ofInt_of_le (by omega) (by omega)
theorem toInt_s {z : Int} (h1 : -32768 ≤ z) (h2 : z ≤ 32767) : (Int16.ofInt z).toInt32.toInt = z := by
  rw [Int16.toInt_toInt32]
  exact Int16.toInt_ofInt_of_le (by omega) (by omega)
theorem toInt_c {z : Int} (h1 : -32768 ≤ z) (h2 : z ≤ 32767) : (Int32.ofInt z).toInt = z := Int32.toInt_ofInt_of_le (by omega) (by omega)
theorem w_tag {ρ : List Int} {rh : List Nat} {w : cW} {v : Value} (h : dW ρ rh w v) (g : Nat.beq w.1 2 = false) : aok1 v = true := by
  unfold dW at h
  split at h
  · obtain ⟨_, _, rfl, _⟩ := h; rfl
  · rename_i e; rw [e] at g; cases g
  · obtain ⟨_, rfl, _⟩ := h; rfl
  · subst h; rfl
  · subst h; rfl
  · rcases h with rfl | ⟨_, rfl, _⟩ <;> rfl
  · subst h; rfl
  · exact h.elim
theorem z0 {σ : List Nat} {h : aH} {ρ : List Int} {rh : List Nat} {K : cK} (k : dK σ h ρ rh K) : ρ[0]? = some 0 := k.1.2.1
section XI
variable {X : aX} {Q : cQ} {zs : Int} {lv : Nat} {top : Bool} {M : aM} {k : Nat → List cW → List cW → cK → Option (List cEx)} {pc len a b : Nat}

theorem x_iconst {z : Int} (hk : dSnd X Q zs lv top M k) : dOk X Q zs lv top M k pc (.iconst z) len a b := by
  intro L st K es l sv h σ ρ rh hI hK hL hS hrk hf he
  obtain ⟨hb, he⟩ := cit_s (show cit (cle (-128) z && cle z 127) (k (pc + 1) L ((1, 0, z) :: st) K) = some es from he)
  rw [Bool.and_eq_true, cle_i, cle_i] at hb
  exact dgo hk he (fun n d => r_iconst hf rfl) hI hK (dX_refl _) (dX_refl _) hL ⟨w_i (z0 hK) (by rw [toInt_ic hb.1 hb.2]; omega), hS⟩ hrk (dSub_refl _)
theorem x_bipush {z : Int} (hk : dSnd X Q zs lv top M k) : dOk X Q zs lv top M k pc (.bipush z) len a b := by
  intro L st K es l sv h σ ρ rh hI hK hL hS hrk hf he
  obtain ⟨hb, he⟩ := cit_s (show cit (cle (-128) z && cle z 127) (k (pc + 2) L ((1, 0, z) :: st) K) = some es from he)
  rw [Bool.and_eq_true, cle_i, cle_i] at hb
  exact dgo hk he (fun n d => r_bipush hf rfl) hI hK (dX_refl _) (dX_refl _) hL ⟨w_i (z0 hK) (by rw [toInt_b hb.1 hb.2]; omega), hS⟩ hrk (dSub_refl _)
theorem x_sipush {z : Int} (hk : dSnd X Q zs lv top M k) : dOk X Q zs lv top M k pc (.sipush z) len a b := by
  intro L st K es l sv h σ ρ rh hI hK hL hS hrk hf he
  obtain ⟨hb, he⟩ := cit_s (show cit (cle (-32768) z && cle z 32767) (k (pc + 3) L ((1, 0, z) :: st) K) = some es from he)
  rw [Bool.and_eq_true, cle_i, cle_i] at hb
  exact dgo hk he (fun n d => r_sipush hf rfl) hI hK (dX_refl _) (dX_refl _) hL ⟨w_i (z0 hK) (by rw [toInt_s hb.1 hb.2]; omega), hS⟩ hrk (dSub_refl _)
theorem x_ldc {z : Nat} (hk : dSnd X Q zs lv top M k) : dOk X Q zs lv top M k pc (.ldc z) len a b := by
  intro L st K es l sv h σ ρ rh hI hK hL hS hrk hf he
  have he : (bif Nat.beq a 4294967296 then k (pc + 2) L ((7, 0, 0) :: st) K else cit (Nat.blt a 4294967296) (k (pc + 2) L ((1, 0, c31 a) :: st) K)) = some es := he
  cases hs : Nat.beq a 4294967296 with
  | true =>
    rw [hs] at he
    have := Nat.eq_of_beq_eq_true hs
    subst this
    exact dgo hk he (fun n d => r_ldcS hf) hI hK (dX_refl _) (dX_refl _) hL ⟨rfl, hS⟩ hrk (dSub_refl _)
  | false =>
    rw [hs] at he
    simp only [cond_false] at he
    obtain ⟨hb, he⟩ := cit_s he
    rw [Nat.blt_eq] at hb
    exact dgo hk he (fun n d => r_ldc hf rfl hs) hI hK (dX_refl _) (dX_refl _) hL ⟨w_i (z0 hK) (by rw [iz_of _ hb]; omega), hS⟩ hrk (dSub_refl _)
theorem x_ldc_w {z : Nat} (hk : dSnd X Q zs lv top M k) : dOk X Q zs lv top M k pc (.ldc_w z) len a b := by
  intro L st K es l sv h σ ρ rh hI hK hL hS hrk hf he
  obtain ⟨hb, he⟩ := cit_s (show cit (Nat.blt a 4294967296) (k (pc + 3) L ((1, 0, c31 a) :: st) K) = some es from he)
  rw [Nat.blt_eq] at hb
  exact dgo hk he (fun n d => r_ldcw hf rfl) hI hK (dX_refl _) (dX_refl _) hL ⟨w_i (z0 hK) (by rw [iz_of _ hb]; omega), hS⟩ hrk (dSub_refl _)
theorem x_ldc2_w {z : Nat} (hk : dSnd X Q zs lv top M k) : dOk X Q zs lv top M k pc (.ldc2_w z) len a b := by
  intro L st K es l sv h σ ρ rh hI hK hL hS hrk hf he
  obtain ⟨hb, he⟩ := cit_s (show cit (Nat.blt a 18446744073709551616) (k (pc + 3) L ((2, 0, c63 a) :: st) K) = some es from he)
  rw [Nat.blt_eq] at hb
  exact dgo hk he (fun n d => r_ldc2 hf rfl) hI hK (dX_refl _) (dX_refl _) hL ⟨w_j (z0 hK) (by rw [jz_of _ hb]; omega), hS⟩ hrk (dSub_refl _)
theorem x_lconst {z : Fin 2} (hk : dSnd X Q zs lv top M k) : dOk X Q zs lv top M k pc (.lconst z) len a b := by
  intro L st K es l sv h σ ρ rh hI hK hL hS hrk hf he
  have he : k (pc + 1) L ((2, 0, ((z : Nat) : Int)) :: st) K = some es := he
  exact dgo hk he (fun n d => r_lconst hf rfl) hI hK (dX_refl _) (dX_refl _) hL ⟨w_j (z0 hK) (by match z with
    | 0 => rfl
    | 1 => rfl), hS⟩ hrk (dSub_refl _)
theorem x_aconst_null (hk : dSnd X Q zs lv top M k) : dOk X Q zs lv top M k pc (.aconst_null) len a b := by
  intro L st K es l sv h σ ρ rh hI hK hL hS hrk hf he
  have he : k (pc + 1) L ((4, 0, 0) :: st) K = some es := he
  exact dgo hk he (fun n d => r_null hf) hI hK (dX_refl _) (dX_refl _) hL ⟨rfl, hS⟩ hrk (dSub_refl _)
theorem x_getstatic {z : Nat} (hk : dSnd X Q zs lv top M k) : dOk X Q zs lv top M k pc (.getstatic z) len a b := by
  intro L st K es l sv h σ ρ rh hI hK hL hS hrk hf he
  have he : k (pc + 3) L ((5, 0, 0) :: st) K = some es := he
  exact dgo hk he (fun n d => r_gets hf) hI hK (dX_refl _) (dX_refl _) hL ⟨rfl, hS⟩ hrk (dSub_refl _)
theorem x_iload_n {z : Fin 4} (hk : dSnd X Q zs lv top M k) : dOk X Q zs lv top M k pc (.iload_n z) len a b := by
  intro L st K es l sv h σ ρ rh hI hK hL hS hrk hf he
  have he : (bif Nat.beq (cG L z).1 1 then k (pc + 1) L (cG L z :: st) K else none) = some es := he
  cases hb : Nat.beq (cG L z).1 1 with
  | false => rw [hb] at he; cases he
  | true =>
    rw [hb] at he
    have ht := Nat.eq_of_beq_eq_true hb
    obtain ⟨v, hv, hw⟩ := dL_get hL ht (by decide)
    have hw' := hw
    unfold dW at hw'
    rw [ht] at hw'
    obtain ⟨x, y, rfl, -, -⟩ := hw'
    exact dgo hk he (fun n d => r_iloadn hf hv) hI hK (dX_refl _) (dX_refl _) hL ⟨hw, hS⟩ hrk (dSub_refl _)
theorem x_iload {z : Nat} (hk : dSnd X Q zs lv top M k) : dOk X Q zs lv top M k pc (.iload z) len a b := by
  intro L st K es l sv h σ ρ rh hI hK hL hS hrk hf he
  have he : (bif Nat.beq (cG L z).1 1 then k (pc + 2) L (cG L z :: st) K else none) = some es := he
  cases hb : Nat.beq (cG L z).1 1 with
  | false => rw [hb] at he; cases he
  | true =>
    rw [hb] at he
    have ht := Nat.eq_of_beq_eq_true hb
    obtain ⟨v, hv, hw⟩ := dL_get hL ht (by decide)
    have hw' := hw
    unfold dW at hw'
    rw [ht] at hw'
    obtain ⟨x, y, rfl, -, -⟩ := hw'
    exact dgo hk he (fun n d => r_iload hf hv) hI hK (dX_refl _) (dX_refl _) hL ⟨hw, hS⟩ hrk (dSub_refl _)
theorem x_lload_n {z : Fin 4} (hk : dSnd X Q zs lv top M k) : dOk X Q zs lv top M k pc (.lload_n z) len a b := by
  intro L st K es l sv h σ ρ rh hI hK hL hS hrk hf he
  have he : (bif Nat.beq (cG L z).1 2 then k (pc + 1) L (cG L z :: st) K else none) = some es := he
  cases hb : Nat.beq (cG L z).1 2 with
  | false => rw [hb] at he; cases he
  | true =>
    rw [hb] at he
    have ht := Nat.eq_of_beq_eq_true hb
    obtain ⟨v, hv, hw⟩ := dL_get hL ht (by decide)
    have hw' := hw
    unfold dW at hw'
    rw [ht] at hw'
    obtain ⟨x, y, rfl, -, -⟩ := hw'
    exact dgo hk he (fun n d => r_lloadn hf hv) hI hK (dX_refl _) (dX_refl _) hL ⟨hw, hS⟩ hrk (dSub_refl _)
theorem x_lload {z : Nat} (hk : dSnd X Q zs lv top M k) : dOk X Q zs lv top M k pc (.lload z) len a b := by
  intro L st K es l sv h σ ρ rh hI hK hL hS hrk hf he
  have he : (bif Nat.beq (cG L z).1 2 then k (pc + 2) L (cG L z :: st) K else none) = some es := he
  cases hb : Nat.beq (cG L z).1 2 with
  | false => rw [hb] at he; cases he
  | true =>
    rw [hb] at he
    have ht := Nat.eq_of_beq_eq_true hb
    obtain ⟨v, hv, hw⟩ := dL_get hL ht (by decide)
    have hw' := hw
    unfold dW at hw'
    rw [ht] at hw'
    obtain ⟨x, y, rfl, -, -⟩ := hw'
    exact dgo hk he (fun n d => r_lload hf hv) hI hK (dX_refl _) (dX_refl _) hL ⟨hw, hS⟩ hrk (dSub_refl _)
theorem x_aload_n {z : Fin 4} (hk : dSnd X Q zs lv top M k) : dOk X Q zs lv top M k pc (.aload_n z) len a b := by
  intro L st K es l sv h σ ρ rh hI hK hL hS hrk hf he
  have he : cldA L z (fun w => k (pc + 1) L (w :: st) K) = some es := he
  unfold cldA at he
  have key : (cG L z).1 = 3 ∨ (cG L z).1 = 4 ∨ (cG L z).1 = 5 ∨ (cG L z).1 = 6 → k (pc + 1) L (cG L z :: st) K = some es → dRes X Q zs lv top M pc l sv h σ ρ rh es := by
    intro ht he
    obtain ⟨v, hv, hw⟩ := dL_get hL (g := (cG L z).1) rfl (by omega)
    have hw' := hw
    unfold dW at hw'
    rcases ht with ht | ht | ht | ht <;> rw [ht] at hw'
    · obtain ⟨q, rfl, -⟩ := hw'
      exact dgo hk he (fun n d => r_aloadn hf hv) hI hK (dX_refl _) (dX_refl _) hL ⟨hw, hS⟩ hrk (dSub_refl _)
    · subst hw'
      exact dgo hk he (fun n d => r_aloadnN hf hv) hI hK (dX_refl _) (dX_refl _) hL ⟨hw, hS⟩ hrk (dSub_refl _)
    · subst hw'
      exact dgo hk he (fun n d => r_aloadnX hf hv) hI hK (dX_refl _) (dX_refl _) hL ⟨hw, hS⟩ hrk (dSub_refl _)
    · rcases hw' with rfl | ⟨q, rfl, -⟩
      · exact dgo hk he (fun n d => r_aloadnN hf hv) hI hK (dX_refl _) (dX_refl _) hL ⟨hw, hS⟩ hrk (dSub_refl _)
      · exact dgo hk he (fun n d => r_aloadn hf hv) hI hK (dX_refl _) (dX_refl _) hL ⟨hw, hS⟩ hrk (dSub_refl _)
  split at he
  · rename_i e; exact key (by omega) he
  · rename_i e; exact key (by omega) he
  · rename_i e; exact key (by omega) he
  · rename_i e; exact key (by omega) he
  · cases he
theorem x_aload {z : Nat} (hk : dSnd X Q zs lv top M k) : dOk X Q zs lv top M k pc (.aload z) len a b := by
  intro L st K es l sv h σ ρ rh hI hK hL hS hrk hf he
  have he : cldA L z (fun w => k (pc + 2) L (w :: st) K) = some es := he
  unfold cldA at he
  have key : (cG L z).1 = 3 ∨ (cG L z).1 = 4 ∨ (cG L z).1 = 5 ∨ (cG L z).1 = 6 → k (pc + 2) L (cG L z :: st) K = some es → dRes X Q zs lv top M pc l sv h σ ρ rh es := by
    intro ht he
    obtain ⟨v, hv, hw⟩ := dL_get hL (g := (cG L z).1) rfl (by omega)
    have hw' := hw
    unfold dW at hw'
    rcases ht with ht | ht | ht | ht <;> rw [ht] at hw'
    · obtain ⟨q, rfl, -⟩ := hw'
      exact dgo hk he (fun n d => r_aload hf hv) hI hK (dX_refl _) (dX_refl _) hL ⟨hw, hS⟩ hrk (dSub_refl _)
    · subst hw'
      exact dgo hk he (fun n d => r_aloadN hf hv) hI hK (dX_refl _) (dX_refl _) hL ⟨hw, hS⟩ hrk (dSub_refl _)
    · subst hw'
      exact dgo hk he (fun n d => r_aloadX hf hv) hI hK (dX_refl _) (dX_refl _) hL ⟨hw, hS⟩ hrk (dSub_refl _)
    · rcases hw' with rfl | ⟨q, rfl, -⟩
      · exact dgo hk he (fun n d => r_aloadN hf hv) hI hK (dX_refl _) (dX_refl _) hL ⟨hw, hS⟩ hrk (dSub_refl _)
      · exact dgo hk he (fun n d => r_aload hf hv) hI hK (dX_refl _) (dX_refl _) hL ⟨hw, hS⟩ hrk (dSub_refl _)
  split at he
  · rename_i e; exact key (by omega) he
  · rename_i e; exact key (by omega) he
  · rename_i e; exact key (by omega) he
  · rename_i e; exact key (by omega) he
  · cases he
theorem x_istore_n {z : Fin 4} (hk : dSnd X Q zs lv top M k) : dOk X Q zs lv top M k pc (.istore_n z) len a b := by
  intro L st K es l sv h σ ρ rh hI hK hL hS hrk hf he
  obtain ⟨p, o, r, x, y, s, rfl, he, rfl, e1, e2, hS⟩ := cpI_s (show cpI st (fun p o r => cit (Nat.blt z L.length) (k (pc + 1) (cS1 L z (1, p, o)) r K)) = some es from he) hS
  obtain ⟨hb, he⟩ := cit_s he
  exact dgo hk he (fun n d => r_istoren hf (dL_blt hL hb) rfl) hI hK (dX_refl _) (dX_refl _) (dL_S1 hL z (w_i e1 e2)) hS hrk (dSub_refl _)
theorem x_istore {z : Nat} (hk : dSnd X Q zs lv top M k) : dOk X Q zs lv top M k pc (.istore z) len a b := by
  intro L st K es l sv h σ ρ rh hI hK hL hS hrk hf he
  obtain ⟨p, o, r, x, y, s, rfl, he, rfl, e1, e2, hS⟩ := cpI_s (show cpI st (fun p o r => cit (Nat.blt z L.length) (k (pc + 2) (cS1 L z (1, p, o)) r K)) = some es from he) hS
  obtain ⟨hb, he⟩ := cit_s he
  exact dgo hk he (fun n d => r_istore hf (dL_blt hL hb) rfl) hI hK (dX_refl _) (dX_refl _) (dL_S1 hL z (w_i e1 e2)) hS hrk (dSub_refl _)
theorem x_lstore_n {z : Fin 4} (hk : dSnd X Q zs lv top M k) : dOk X Q zs lv top M k pc (.lstore_n z) len a b := by
  intro L st K es l sv h σ ρ rh hI hK hL hS hrk hf he
  obtain ⟨p, o, r, x, y, s, rfl, he, rfl, e1, e2, hS⟩ := cpJ_s (show cpJ st (fun p o r => cit (Nat.blt ((z : Nat) + 1) L.length) (k (pc + 1) (cS2 L z (2, p, o)) r K)) = some es from he) hS
  obtain ⟨hb, he⟩ := cit_s he
  exact dgo hk he (fun n d => r_lstoren hf (dL_blt hL hb) rfl) hI hK (dX_refl _) (dX_refl _) (dL_S2 hL z (w_j e1 e2)) hS hrk (dSub_refl _)
theorem x_lstore {z : Nat} (hk : dSnd X Q zs lv top M k) : dOk X Q zs lv top M k pc (.lstore z) len a b := by
  intro L st K es l sv h σ ρ rh hI hK hL hS hrk hf he
  obtain ⟨p, o, r, x, y, s, rfl, he, rfl, e1, e2, hS⟩ := cpJ_s (show cpJ st (fun p o r => cit (Nat.blt ((z : Nat) + 1) L.length) (k (pc + 2) (cS2 L z (2, p, o)) r K)) = some es from he) hS
  obtain ⟨hb, he⟩ := cit_s he
  exact dgo hk he (fun n d => r_lstore hf (dL_blt hL hb) rfl) hI hK (dX_refl _) (dX_refl _) (dL_S2 hL z (w_j e1 e2)) hS hrk (dSub_refl _)
theorem x_astore_n {z : Fin 4} (hk : dSnd X Q zs lv top M k) : dOk X Q zs lv top M k pc (.astore_n z) len a b := by
  intro L st K es l sv h σ ρ rh hI hK hL hS hrk hf he
  have he : cstA L st z (fun L' r => k (pc + 1) L' r K) = some es := he
  unfold cstA at he
  split at he
  · obtain ⟨hb, he⟩ := cit_s he
    obtain ⟨v, s, rfl, hw, hT⟩ := dS_cons hS
    have hw2 := hw
    obtain ⟨q, rfl, hq⟩ := hw
    exact dgo hk he (fun n d => r_astoren hf (dL_blt hL hb) rfl) hI hK (dX_refl _) (dX_refl _) (dL_S1 hL z ⟨q, rfl, hq⟩) hT hrk (dSub_refl _)
  · obtain ⟨hb, he⟩ := cit_s he
    obtain ⟨v, s, rfl, hw, hT⟩ := dS_cons hS
    have hw : v = .null := hw
    subst hw
    exact dgo hk he (fun n d => r_astorenN hf (dL_blt hL hb) rfl) hI hK (dX_refl _) (dX_refl _) (dL_S1 hL z (show dW ρ rh (4, 0, 0) .null from rfl)) hT hrk (dSub_refl _)
  · obtain ⟨hb, he⟩ := cit_s he
    obtain ⟨v, s, rfl, hw, hT⟩ := dS_cons hS
    have hw2 := hw
    rcases hw with rfl | ⟨q, rfl, hq⟩
    · exact dgo hk he (fun n d => r_astorenN hf (dL_blt hL hb) rfl) hI hK (dX_refl _) (dX_refl _) (dL_S1 hL z (Or.inl rfl)) hT hrk (dSub_refl _)
    · exact dgo hk he (fun n d => r_astoren hf (dL_blt hL hb) rfl) hI hK (dX_refl _) (dX_refl _) (dL_S1 hL z (Or.inr ⟨q, rfl, hq⟩)) hT hrk (dSub_refl _)
  · cases he
theorem x_astore {z : Nat} (hk : dSnd X Q zs lv top M k) : dOk X Q zs lv top M k pc (.astore z) len a b := by
  intro L st K es l sv h σ ρ rh hI hK hL hS hrk hf he
  have he : cstA L st z (fun L' r => k (pc + 2) L' r K) = some es := he
  unfold cstA at he
  split at he
  · obtain ⟨hb, he⟩ := cit_s he
    obtain ⟨v, s, rfl, hw, hT⟩ := dS_cons hS
    have hw2 := hw
    obtain ⟨q, rfl, hq⟩ := hw
    exact dgo hk he (fun n d => r_astore hf (dL_blt hL hb) rfl) hI hK (dX_refl _) (dX_refl _) (dL_S1 hL z ⟨q, rfl, hq⟩) hT hrk (dSub_refl _)
  · obtain ⟨hb, he⟩ := cit_s he
    obtain ⟨v, s, rfl, hw, hT⟩ := dS_cons hS
    have hw : v = .null := hw
    subst hw
    exact dgo hk he (fun n d => r_astoreN hf (dL_blt hL hb) rfl) hI hK (dX_refl _) (dX_refl _) (dL_S1 hL z (show dW ρ rh (4, 0, 0) .null from rfl)) hT hrk (dSub_refl _)
  · obtain ⟨hb, he⟩ := cit_s he
    obtain ⟨v, s, rfl, hw, hT⟩ := dS_cons hS
    have hw2 := hw
    rcases hw with rfl | ⟨q, rfl, hq⟩
    · exact dgo hk he (fun n d => r_astoreN hf (dL_blt hL hb) rfl) hI hK (dX_refl _) (dX_refl _) (dL_S1 hL z (Or.inl rfl)) hT hrk (dSub_refl _)
    · exact dgo hk he (fun n d => r_astore hf (dL_blt hL hb) rfl) hI hK (dX_refl _) (dX_refl _) (dL_S1 hL z (Or.inr ⟨q, rfl, hq⟩)) hT hrk (dSub_refl _)
  · cases he
theorem x_iinc {z : Nat} {c : Int} (hk : dSnd X Q zs lv top M k) : dOk X Q zs lv top M k pc (.iinc z c) len a b := by
  intro L st K es l sv h σ ρ rh hI hK hL hS hrk hf he
  have he : (bif Nat.beq (cG L z).1 1 then cit (cle (-32768) c && cle c 32767) (cadd' cM32 K (cG L z).2.1 (cG L z).2.2 0 c fun K' p o => k (pc + 3) (cS1 L z (1, p, o)) st K') else none) = some es := he
  cases hb : Nat.beq (cG L z).1 1 with
  | false => rw [hb] at he; cases he
  | true =>
    rw [hb] at he
    have ht := Nat.eq_of_beq_eq_true hb
    obtain ⟨v, hv, hw⟩ := dL_get hL ht (by decide)
    unfold dW at hw
    rw [ht] at hw
    obtain ⟨x, y, rfl, e1, e2⟩ := hw
    simp only [cond_true] at he
    obtain ⟨hc, he⟩ := cit_s he
    rw [Bool.and_eq_true, cle_i, cle_i] at hc
    have hR := iR (x + Int32.ofInt c)
    obtain ⟨K', p, o, ρ', w, he, hK', hx, e3, e4⟩ := cadd'_s (v := (x + Int32.ofInt c).toInt) hK e1 (z0 hK) he (by unfold cM32; omega) (by unfold cM32; omega) (by
      unfold cM32
      intro h1 h2
      rw [Int32.toInt_add, toInt_c hc.1 hc.2, bm32 (by omega) (by omega)]
      omega)
    exact dgo hk he (fun n d => r_iinc hf hv rfl rfl) hI hK' hx (dX_refl _) (dL_S1 (dL_mono hx (dX_refl _) hL) z (w_i e3 e4)) (dS_mono hx (dX_refl _) hS) hrk (dSub_refl _)
theorem x_iadd (hk : dSnd X Q zs lv top M k) : dOk X Q zs lv top M k pc (.iadd) len a b := by
  intro L st K es l sv h σ ρ rh hI hK hL hS hrk hf he
  obtain ⟨p, o, q, s, r, x, x', y, y', t, rfl, he, rfl, e1, e2, e3, e4, hS⟩ := cpII_s (show cpII st (fun p o q s r => cadd' cM32 K p o q s fun K' z x => k (pc + 1) L ((1, z, x) :: r) K') = some es from he) hS
  have hR := iR (x + x')
  obtain ⟨K', z, u, ρ', w, he, hK', hx, e5, e6⟩ := cadd'_s (v := (x + x').toInt) hK e1 e3 he (by unfold cM32; omega) (by unfold cM32; omega) (by
    unfold cM32
    intro h1 h2
    rw [Int32.toInt_add, bm32 (by omega) (by omega)]
    omega)
  exact dgo hk he (fun n d => r_iadd hf rfl) hI hK' hx (dX_refl _) (dL_mono hx (dX_refl _) hL) ⟨w_i e5 e6, dS_mono hx (dX_refl _) hS⟩ hrk (dSub_refl _)
theorem x_isub (hk : dSnd X Q zs lv top M k) : dOk X Q zs lv top M k pc (.isub) len a b := by
  intro L st K es l sv h σ ρ rh hI hK hL hS hrk hf he
  obtain ⟨p, o, q, s, r, x, x', y, y', t, rfl, he, rfl, e1, e2, e3, e4, hS⟩ := cpII_s (show cpII st (fun p o q s r => csub cM32 K p o q s fun K' z x => k (pc + 1) L ((1, z, x) :: r) K') = some es from he) hS
  have hR := iR (x - x')
  obtain ⟨K', z, u, ρ', w, he, hK', hx, e5, e6⟩ := csub_s (v := (x - x').toInt) hK e1 e3 he (by unfold cM32; omega) (by unfold cM32; omega) (by
    unfold cM32
    intro h1 h2
    rw [Int32.toInt_sub, bm32 (by omega) (by omega)]
    omega)
  exact dgo hk he (fun n d => r_isub hf rfl) hI hK' hx (dX_refl _) (dL_mono hx (dX_refl _) hL) ⟨w_i e5 e6, dS_mono hx (dX_refl _) hS⟩ hrk (dSub_refl _)
theorem x_ladd (hk : dSnd X Q zs lv top M k) : dOk X Q zs lv top M k pc (.ladd) len a b := by
  intro L st K es l sv h σ ρ rh hI hK hL hS hrk hf he
  obtain ⟨p, o, q, s, r, x, x', y, y', t, rfl, he, rfl, e1, e2, e3, e4, hS⟩ := cpJJ_s (show cpJJ st (fun p o q s r => cadd' cM64 K p o q s fun K' z x => k (pc + 1) L ((2, z, x) :: r) K') = some es from he) hS
  have hR := jR (x + x')
  obtain ⟨K', z, u, ρ', w, he, hK', hx, e5, e6⟩ := cadd'_s (v := (x + x').toInt) hK e1 e3 he (by unfold cM64; omega) (by unfold cM64; omega) (by
    unfold cM64
    intro h1 h2
    rw [Int64.toInt_add, bm64 (by omega) (by omega)]
    omega)
  exact dgo hk he (fun n d => r_ladd hf rfl) hI hK' hx (dX_refl _) (dL_mono hx (dX_refl _) hL) ⟨w_j e5 e6, dS_mono hx (dX_refl _) hS⟩ hrk (dSub_refl _)
theorem x_lsub (hk : dSnd X Q zs lv top M k) : dOk X Q zs lv top M k pc (.lsub) len a b := by
  intro L st K es l sv h σ ρ rh hI hK hL hS hrk hf he
  obtain ⟨p, o, q, s, r, x, x', y, y', t, rfl, he, rfl, e1, e2, e3, e4, hS⟩ := cpJJ_s (show cpJJ st (fun p o q s r => csub cM64 K p o q s fun K' z x => k (pc + 1) L ((2, z, x) :: r) K') = some es from he) hS
  have hR := jR (x - x')
  obtain ⟨K', z, u, ρ', w, he, hK', hx, e5, e6⟩ := csub_s (v := (x - x').toInt) hK e1 e3 he (by unfold cM64; omega) (by unfold cM64; omega) (by
    unfold cM64
    intro h1 h2
    rw [Int64.toInt_sub, bm64 (by omega) (by omega)]
    omega)
  exact dgo hk he (fun n d => r_lsub hf rfl) hI hK' hx (dX_refl _) (dL_mono hx (dX_refl _) hL) ⟨w_j e5 e6, dS_mono hx (dX_refl _) hS⟩ hrk (dSub_refl _)
theorem x_imul (hk : dSnd X Q zs lv top M k) : dOk X Q zs lv top M k pc (.imul) len a b := by
  intro L st K es l sv h σ ρ rh hI hK hL hS hrk hf he
  obtain ⟨p, o, q, s, r, x, x', y, y', t, rfl, he, rfl, e1, e2, e3, e4, hS⟩ := cpII_s (show cpII st (fun p o q s r => cfr K (let m := cmulr (clo K p o) (chi K p o) (clo K q s) (chi K q s); cfit cM32 m.1 m.2) fun K' z => k (pc + 1) L ((1, z, 0) :: r) K') = some es from he) hS
  have b1 := clo_s (o := o) hK e1
  have b2 := clo_s (o := s) hK e3
  have hR := iR (x * x')
  have hRx := iR x
  have hm := cmulr_s b1.1 b1.2 b2.1 b2.2
  have hb := cfit_s (M := cM32) (v := (x * x').toInt) (by unfold cM32; omega) (by unfold cM32; omega) hm.1 hm.2 (by
    unfold cM32
    intro h1 h2
    rw [Int32.toInt_mul, e2, e4, bm32 (by omega) (by omega)])
  obtain ⟨K', he, hK', e5⟩ := cfr_s he hK (v := (x * x').toInt) hb.1 hb.2
  exact dgo hk he (fun n d => r_imul hf rfl) hI hK' (dX_app _ _) (dX_refl _) (dL_mono (dX_app _ _) (dX_refl _) hL) ⟨w_i e5 (by omega), dS_mono (dX_app _ _) (dX_refl _) hS⟩ hrk (dSub_refl _)
theorem x_lmul (hk : dSnd X Q zs lv top M k) : dOk X Q zs lv top M k pc (.lmul) len a b := by
  intro L st K es l sv h σ ρ rh hI hK hL hS hrk hf he
  obtain ⟨p, o, q, s, r, x, x', y, y', t, rfl, he, rfl, e1, e2, e3, e4, hS⟩ := cpJJ_s (show cpJJ st (fun p o q s r => cfr K (let m := cmulr (clo K p o) (chi K p o) (clo K q s) (chi K q s); cfit cM64 m.1 m.2) fun K' z => k (pc + 1) L ((2, z, 0) :: r) K') = some es from he) hS
  have b1 := clo_s (o := o) hK e1
  have b2 := clo_s (o := s) hK e3
  have hR := jR (x * x')
  have hRx := jR x
  have hm := cmulr_s b1.1 b1.2 b2.1 b2.2
  have hb := cfit_s (M := cM64) (v := (x * x').toInt) (by unfold cM64; omega) (by unfold cM64; omega) hm.1 hm.2 (by
    unfold cM64
    intro h1 h2
    rw [Int64.toInt_mul, e2, e4, bm64 (by omega) (by omega)])
  obtain ⟨K', he, hK', e5⟩ := cfr_s he hK (v := (x * x').toInt) hb.1 hb.2
  exact dgo hk he (fun n d => r_lmul hf rfl) hI hK' (dX_app _ _) (dX_refl _) (dL_mono (dX_app _ _) (dX_refl _) hL) ⟨w_j e5 (by omega), dS_mono (dX_app _ _) (dX_refl _) hS⟩ hrk (dSub_refl _)
theorem x_ior (hk : dSnd X Q zs lv top M k) : dOk X Q zs lv top M k pc (.ior) len a b := by
  intro L st K es l sv h σ ρ rh hI hK hL hS hrk hf he
  obtain ⟨p, o, q, s, r, x, x', y, y', t, rfl, he, rfl, e1, e2, e3, e4, hS⟩ := cpII_s (show cpII st (fun p o q s r => cfr K (-cM32, cM32 - 1) fun K' z => k (pc + 1) L ((1, z, 0) :: r) K') = some es from he) hS
  have b1 := clo_s (o := o) hK e1
  have b2 := clo_s (o := s) hK e3
  have hR := iR (x ||| x')
  have hRx := iR x
  have hb : (-cM32, cM32 - 1).1 ≤ (x ||| x').toInt ∧ (x ||| x').toInt ≤ (-cM32, cM32 - 1).2 := by dsimp only; unfold cM32; omega
  obtain ⟨K', he, hK', e5⟩ := cfr_s he hK (v := (x ||| x').toInt) hb.1 hb.2
  exact dgo hk he (fun n d => r_ior hf rfl) hI hK' (dX_app _ _) (dX_refl _) (dL_mono (dX_app _ _) (dX_refl _) hL) ⟨w_i e5 (by omega), dS_mono (dX_app _ _) (dX_refl _) hS⟩ hrk (dSub_refl _)
theorem x_ixor (hk : dSnd X Q zs lv top M k) : dOk X Q zs lv top M k pc (.ixor) len a b := by
  intro L st K es l sv h σ ρ rh hI hK hL hS hrk hf he
  obtain ⟨p, o, q, s, r, x, x', y, y', t, rfl, he, rfl, e1, e2, e3, e4, hS⟩ := cpII_s (show cpII st (fun p o q s r => cfr K (-cM32, cM32 - 1) fun K' z => k (pc + 1) L ((1, z, 0) :: r) K') = some es from he) hS
  have b1 := clo_s (o := o) hK e1
  have b2 := clo_s (o := s) hK e3
  have hR := iR (x ^^^ x')
  have hRx := iR x
  have hb : (-cM32, cM32 - 1).1 ≤ (x ^^^ x').toInt ∧ (x ^^^ x').toInt ≤ (-cM32, cM32 - 1).2 := by dsimp only; unfold cM32; omega
  obtain ⟨K', he, hK', e5⟩ := cfr_s he hK (v := (x ^^^ x').toInt) hb.1 hb.2
  exact dgo hk he (fun n d => r_ixor hf rfl) hI hK' (dX_app _ _) (dX_refl _) (dL_mono (dX_app _ _) (dX_refl _) hL) ⟨w_i e5 (by omega), dS_mono (dX_app _ _) (dX_refl _) hS⟩ hrk (dSub_refl _)
theorem x_ishl (hk : dSnd X Q zs lv top M k) : dOk X Q zs lv top M k pc (.ishl) len a b := by
  intro L st K es l sv h σ ρ rh hI hK hL hS hrk hf he
  obtain ⟨p, o, q, s, r, x, x', y, y', t, rfl, he, rfl, e1, e2, e3, e4, hS⟩ := cpII_s (show cpII st (fun p o q s r => cfr K (-cM32, cM32 - 1) fun K' z => k (pc + 1) L ((1, z, 0) :: r) K') = some es from he) hS
  have b1 := clo_s (o := o) hK e1
  have b2 := clo_s (o := s) hK e3
  have hR := iR (x <<< (x' &&& 31))
  have hRx := iR x
  have hb : (-cM32, cM32 - 1).1 ≤ (x <<< (x' &&& 31)).toInt ∧ (x <<< (x' &&& 31)).toInt ≤ (-cM32, cM32 - 1).2 := by dsimp only; unfold cM32; omega
  obtain ⟨K', he, hK', e5⟩ := cfr_s he hK (v := (x <<< (x' &&& 31)).toInt) hb.1 hb.2
  exact dgo hk he (fun n d => r_ishl hf rfl) hI hK' (dX_app _ _) (dX_refl _) (dL_mono (dX_app _ _) (dX_refl _) hL) ⟨w_i e5 (by omega), dS_mono (dX_app _ _) (dX_refl _) hS⟩ hrk (dSub_refl _)
theorem x_ishr (hk : dSnd X Q zs lv top M k) : dOk X Q zs lv top M k pc (.ishr) len a b := by
  intro L st K es l sv h σ ρ rh hI hK hL hS hrk hf he
  obtain ⟨p, o, q, s, r, x, x', y, y', t, rfl, he, rfl, e1, e2, e3, e4, hS⟩ := cpII_s (show cpII st (fun p o q s r => cfr K (-cM32, cM32 - 1) fun K' z => k (pc + 1) L ((1, z, 0) :: r) K') = some es from he) hS
  have b1 := clo_s (o := o) hK e1
  have b2 := clo_s (o := s) hK e3
  have hR := iR (x >>> (x' &&& 31))
  have hRx := iR x
  have hb : (-cM32, cM32 - 1).1 ≤ (x >>> (x' &&& 31)).toInt ∧ (x >>> (x' &&& 31)).toInt ≤ (-cM32, cM32 - 1).2 := by dsimp only; unfold cM32; omega
  obtain ⟨K', he, hK', e5⟩ := cfr_s he hK (v := (x >>> (x' &&& 31)).toInt) hb.1 hb.2
  exact dgo hk he (fun n d => r_ishr hf rfl) hI hK' (dX_app _ _) (dX_refl _) (dL_mono (dX_app _ _) (dX_refl _) hL) ⟨w_i e5 (by omega), dS_mono (dX_app _ _) (dX_refl _) hS⟩ hrk (dSub_refl _)
theorem x_iushr (hk : dSnd X Q zs lv top M k) : dOk X Q zs lv top M k pc (.iushr) len a b := by
  intro L st K es l sv h σ ρ rh hI hK hL hS hrk hf he
  obtain ⟨p, o, q, s, r, x, x', y, y', t, rfl, he, rfl, e1, e2, e3, e4, hS⟩ := cpII_s (show cpII st (fun p o q s r => cfr K (bif cle 1 (clo K q s) && cle (chi K q s) 31 then (0, cM32 - 1) else (-cM32, cM32 - 1)) fun K' z => k (pc + 1) L ((1, z, 0) :: r) K') = some es from he) hS
  have b1 := clo_s (o := o) hK e1
  have b2 := clo_s (o := s) hK e3
  have hR := iR ((x.toUInt32 >>> (x'.toUInt32 &&& Int32.toUInt32 31)).toInt32)
  have hRx := iR x
  have hb : (bif cle 1 (clo K q s) && cle (chi K q s) 31 then ((0 : Int), cM32 - 1) else (-cM32, cM32 - 1)).1 ≤ ((x.toUInt32 >>> (x'.toUInt32 &&& Int32.toUInt32 31)).toInt32).toInt ∧ ((x.toUInt32 >>> (x'.toUInt32 &&& Int32.toUInt32 31)).toInt32).toInt ≤ (bif cle 1 (clo K q s) && cle (chi K q s) 31 then ((0 : Int), cM32 - 1) else (-cM32, cM32 - 1)).2 := by
    cases hc : (cle 1 (clo K q s) && cle (chi K q s) 31) with
    | true =>
      rw [Bool.and_eq_true, cle_i, cle_i] at hc
      have := i_ushr (x := x) (y := x') (by omega) (by omega)
      simp only [cond_true]; unfold cM32; omega
    | false => simp only [cond_false]; unfold cM32; omega
  obtain ⟨K', he, hK', e5⟩ := cfr_s he hK (v := ((x.toUInt32 >>> (x'.toUInt32 &&& Int32.toUInt32 31)).toInt32).toInt) hb.1 hb.2
  exact dgo hk he (fun n d => r_iushr hf rfl) hI hK' (dX_app _ _) (dX_refl _) (dL_mono (dX_app _ _) (dX_refl _) hL) ⟨w_i e5 (by omega), dS_mono (dX_app _ _) (dX_refl _) hS⟩ hrk (dSub_refl _)
theorem x_idiv (hk : dSnd X Q zs lv top M k) : dOk X Q zs lv top M k pc (.idiv) len a b := by
  intro L st K es l sv h σ ρ rh hI hK hL hS hrk hf he
  obtain ⟨p, o, q, s, r, x, x', y, y', t, rfl, he, rfl, e1, e2, e3, e4, hS⟩ := cpII_s (show cpII st (fun p o q s r => cit (cnz K q s) (cfr K (cdivr cM32 (clo K p o) (chi K p o) (clo K q s) (chi K q s)) fun K' z => k (pc + 1) L ((1, z, 0) :: r) K')) = some es from he) hS
  have b1 := clo_s (o := o) hK e1
  have b2 := clo_s (o := s) hK e3
  have hR := iR (x / x')
  have hRx := iR x
  obtain ⟨hnz, he⟩ := cit_s he
  have hnz := cnz_s hK e3 hnz
  have hb := cdivr_s (d := chi K q s) (M := cM32) (x := x.toInt) (y := x'.toInt) (v := (x / x').toInt) (by decide) (by rw [e2]; exact b1.1) (by rw [e2]; exact b1.2) (by rw [e4]; exact b2.1) (by unfold cM32; omega) (by unfold cM32; omega) (by unfold cM32; omega) (by unfold cM32; omega) (by
    unfold cM32
    intro h1 h2
    exact i_div (by omega) (by omega))
  obtain ⟨K', he, hK', e5⟩ := cfr_s he hK (v := (x / x').toInt) hb.1 hb.2
  exact dgo hk he (fun n d => r_idiv hf (fun c => hnz (by rw [← e4, c]; rfl)) rfl) hI hK' (dX_app _ _) (dX_refl _) (dL_mono (dX_app _ _) (dX_refl _) hL) ⟨w_i e5 (by omega), dS_mono (dX_app _ _) (dX_refl _) hS⟩ hrk (dSub_refl _)
theorem x_ldiv (hk : dSnd X Q zs lv top M k) : dOk X Q zs lv top M k pc (.ldiv) len a b := by
  intro L st K es l sv h σ ρ rh hI hK hL hS hrk hf he
  obtain ⟨p, o, q, s, r, x, x', y, y', t, rfl, he, rfl, e1, e2, e3, e4, hS⟩ := cpJJ_s (show cpJJ st (fun p o q s r => cit (cnz K q s) (cfr K (cdivr cM64 (clo K p o) (chi K p o) (clo K q s) (chi K q s)) fun K' z => k (pc + 1) L ((2, z, 0) :: r) K')) = some es from he) hS
  have b1 := clo_s (o := o) hK e1
  have b2 := clo_s (o := s) hK e3
  have hR := jR (x / x')
  have hRx := jR x
  obtain ⟨hnz, he⟩ := cit_s he
  have hnz := cnz_s hK e3 hnz
  have hb := cdivr_s (d := chi K q s) (M := cM64) (x := x.toInt) (y := x'.toInt) (v := (x / x').toInt) (by decide) (by rw [e2]; exact b1.1) (by rw [e2]; exact b1.2) (by rw [e4]; exact b2.1) (by unfold cM64; omega) (by unfold cM64; omega) (by unfold cM64; omega) (by unfold cM64; omega) (by
    unfold cM64
    intro h1 h2
    exact j_div (by omega) (by omega))
  obtain ⟨K', he, hK', e5⟩ := cfr_s he hK (v := (x / x').toInt) hb.1 hb.2
  exact dgo hk he (fun n d => r_ldiv hf (fun c => hnz (by rw [← e4, c]; rfl)) rfl) hI hK' (dX_app _ _) (dX_refl _) (dL_mono (dX_app _ _) (dX_refl _) hL) ⟨w_j e5 (by omega), dS_mono (dX_app _ _) (dX_refl _) hS⟩ hrk (dSub_refl _)
theorem x_irem (hk : dSnd X Q zs lv top M k) : dOk X Q zs lv top M k pc (.irem) len a b := by
  intro L st K es l sv h σ ρ rh hI hK hL hS hrk hf he
  obtain ⟨p, o, q, s, r, x, x', y, y', t, rfl, he, rfl, e1, e2, e3, e4, hS⟩ := cpII_s (show cpII st (fun p o q s r => cit (cnz K q s) (cfr K (cremr cM32 (clo K p o) (chi K p o) (clo K q s) (chi K q s)) fun K' z => k (pc + 1) L ((1, z, 0) :: r) K')) = some es from he) hS
  have b1 := clo_s (o := o) hK e1
  have b2 := clo_s (o := s) hK e3
  have hR := iR (x - x / x' * x')
  have hRx := iR x
  obtain ⟨hnz, he⟩ := cit_s he
  have hnz := cnz_s hK e3 hnz
  have hb := cremr_s (M := cM32) (x := x.toInt) (y := x'.toInt) (v := (x - x / x' * x').toInt) (by rw [e2]; exact b1.1) (by rw [e2]; exact b1.2) (by rw [e4]; exact b2.1) (by rw [e4]; exact b2.2) (by unfold cM32; omega) (by unfold cM32; omega) (i_rem (by rw [e4]; exact hnz))
  obtain ⟨K', he, hK', e5⟩ := cfr_s he hK (v := (x - x / x' * x').toInt) hb.1 hb.2
  exact dgo hk he (fun n d => r_irem hf (fun c => hnz (by rw [← e4, c]; rfl)) rfl) hI hK' (dX_app _ _) (dX_refl _) (dL_mono (dX_app _ _) (dX_refl _) hL) ⟨w_i e5 (by omega), dS_mono (dX_app _ _) (dX_refl _) hS⟩ hrk (dSub_refl _)
theorem x_lrem (hk : dSnd X Q zs lv top M k) : dOk X Q zs lv top M k pc (.lrem) len a b := by
  intro L st K es l sv h σ ρ rh hI hK hL hS hrk hf he
  obtain ⟨p, o, q, s, r, x, x', y, y', t, rfl, he, rfl, e1, e2, e3, e4, hS⟩ := cpJJ_s (show cpJJ st (fun p o q s r => cit (cnz K q s) (cfr K (cremr cM64 (clo K p o) (chi K p o) (clo K q s) (chi K q s)) fun K' z => k (pc + 1) L ((2, z, 0) :: r) K')) = some es from he) hS
  have b1 := clo_s (o := o) hK e1
  have b2 := clo_s (o := s) hK e3
  have hR := jR (x - x / x' * x')
  have hRx := jR x
  obtain ⟨hnz, he⟩ := cit_s he
  have hnz := cnz_s hK e3 hnz
  have hb := cremr_s (M := cM64) (x := x.toInt) (y := x'.toInt) (v := (x - x / x' * x').toInt) (by rw [e2]; exact b1.1) (by rw [e2]; exact b1.2) (by rw [e4]; exact b2.1) (by rw [e4]; exact b2.2) (by unfold cM64; omega) (by unfold cM64; omega) (j_rem (by rw [e4]; exact hnz))
  obtain ⟨K', he, hK', e5⟩ := cfr_s he hK (v := (x - x / x' * x').toInt) hb.1 hb.2
  exact dgo hk he (fun n d => r_lrem hf (fun c => hnz (by rw [← e4, c]; rfl)) rfl) hI hK' (dX_app _ _) (dX_refl _) (dL_mono (dX_app _ _) (dX_refl _) hL) ⟨w_j e5 (by omega), dS_mono (dX_app _ _) (dX_refl _) hS⟩ hrk (dSub_refl _)
theorem x_iand (hk : dSnd X Q zs lv top M k) : dOk X Q zs lv top M k pc (.iand) len a b := by
  intro L st K es l sv h σ ρ rh hI hK hL hS hrk hf he
  obtain ⟨p, o, q, s, r, x, x', y, y', t, rfl, he, rfl, e1, e2, e3, e4, hS⟩ := cpII_s (show cpII st (fun p o q s r => bif cle 0 (clo K p o) && cle 0 (clo K q s) then
      k (pc + 1) L ((1, K.1.length, 0) :: r) (K.1 ++ [(0, cmn (chi K p o) (chi K q s))], (bif Nat.beq p 0 then [] else [(K.1.length, p, o)]) ++ ((bif Nat.beq q 0 then [] else [(K.1.length, q, s)]) ++ K.2.1), K.2.2)
    else cfr K (candr (clo K p o) (chi K p o) (clo K q s) (chi K q s)) fun K' z => k (pc + 1) L ((1, z, 0) :: r) K') = some es from he) hS
  have b1 := clo_s (o := o) hK e1
  have b2 := clo_s (o := s) hK e3
  cases hc : (cle 0 (clo K p o) && cle 0 (clo K q s)) with
  | false =>
    rw [hc] at he
    simp only [cond_false] at he
    have hb := candr_s (x := x) (y := x') (by rw [e2]; exact b1.1) (by rw [e2]; exact b1.2) (by rw [e4]; exact b2.1) (by rw [e4]; exact b2.2)
    obtain ⟨K', he, hK', e5⟩ := cfr_s he hK (v := (x &&& x').toInt) hb.1 hb.2
    exact dgo hk he (fun n d => r_iand hf rfl) hI hK' (dX_app _ _) (dX_refl _) (dL_mono (dX_app _ _) (dX_refl _) hL) ⟨w_i e5 (by omega), dS_mono (dX_app _ _) (dX_refl _) hS⟩ hrk (dSub_refl _)
  | true =>
    rw [hc] at he
    simp only [cond_true] at he
    rw [Bool.and_eq_true, cle_i, cle_i] at hc
    have a1 := i_and (x := x) (y := x') (by omega)
    have a2 := i_and' (x := x) (y := x') (by omega)
    have hK' := dK_new (z := (x &&& x').toInt) (l := 0) (u := cmn (chi K p o) (chi K q s)) hK a1.1 (by rcases cmn_or (a := chi K p o) (b := chi K q s) with w | w <;> rw [w] <;> omega)
    have e5 := kV_last hK.1 (x &&& x').toInt
    refine dgo hk he (fun n d => r_iand hf rfl) hI ⟨hK'.1, fun u hu => ?_, hK'.2.2⟩ (dX_app _ _) (dX_refl _) (dL_mono (dX_app _ _) (dX_refl _) hL) ⟨w_i e5 (by omega), dS_mono (dX_app _ _) (dX_refl _) hS⟩ hrk (dSub_refl _)
    rcases List.mem_append.mp hu with hu | hu
    · cases hp : Nat.beq p 0 with
      | true => rw [hp] at hu; cases hu
      | false =>
        rw [hp] at hu
        simp only [cond_false, List.mem_singleton] at hu
        subst hu
        exact ⟨_, y, e5, dX_app _ _ _ _ e1, by show (x &&& x').toInt - y ≤ o; omega⟩
    · rcases List.mem_append.mp hu with hu | hu
      · cases hp : Nat.beq q 0 with
        | true => rw [hp] at hu; cases hu
        | false =>
          rw [hp] at hu
          simp only [cond_false, List.mem_singleton] at hu
          subst hu
          exact ⟨_, y', e5, dX_app _ _ _ _ e3, by show (x &&& x').toInt - y' ≤ s; omega⟩
      · exact hK'.2.1 u hu
theorem x_ineg (hk : dSnd X Q zs lv top M k) : dOk X Q zs lv top M k pc (.ineg) len a b := by
  intro L st K es l sv h σ ρ rh hI hK hL hS hrk hf he
  obtain ⟨p, o, r, x, y, t, rfl, he, rfl, e1, e2, hS⟩ := cpI_s (show cpI st (fun p o r => cfr K (cfit cM32 (-(chi K p o)) (-(clo K p o))) fun K' z => k (pc + 1) L ((1, z, 0) :: r) K') = some es from he) hS
  have b1 := clo_s (o := o) hK e1
  have hR := iR (-x)
  have hb := cfit_s (M := cM32) (v := (-x).toInt) (w := -x.toInt) (l := -(chi K p o)) (u := -(clo K p o)) (by unfold cM32; omega) (by unfold cM32; omega) (by omega) (by omega) (by
    unfold cM32
    intro h1 h2
    rw [Int32.toInt_neg, bm32 (by omega) (by omega)])
  obtain ⟨K', he, hK', e5⟩ := cfr_s he hK (v := (-x).toInt) hb.1 hb.2
  exact dgo hk he (fun n d => r_ineg hf rfl) hI hK' (dX_app _ _) (dX_refl _) (dL_mono (dX_app _ _) (dX_refl _) hL) ⟨w_i e5 (by omega), dS_mono (dX_app _ _) (dX_refl _) hS⟩ hrk (dSub_refl _)
theorem x_i2l (hk : dSnd X Q zs lv top M k) : dOk X Q zs lv top M k pc (.i2l) len a b := by
  intro L st K es l sv h σ ρ rh hI hK hL hS hrk hf he
  obtain ⟨p, o, r, x, y, t, rfl, he, rfl, e1, e2, hS⟩ := cpI_s (show cpI st (fun p o r => k (pc + 1) L ((2, p, o) :: r) K) = some es from he) hS
  exact dgo hk he (fun n d => r_i2l hf rfl) hI hK (dX_refl _) (dX_refl _) hL ⟨w_j e1 (by rw [Int32.toInt_toInt64]; exact e2), hS⟩ hrk (dSub_refl _)
theorem x_l2i (hk : dSnd X Q zs lv top M k) : dOk X Q zs lv top M k pc (.l2i) len a b := by
  intro L st K es l sv h σ ρ rh hI hK hL hS hrk hf he
  obtain ⟨p, o, r, x, y, t, rfl, he, rfl, e1, e2, hS⟩ := cpJ_s (show cpJ st (fun p o r => bif cin cM32 (clo K p o) (chi K p o) then k (pc + 1) L ((1, p, o) :: r) K else cfr K (-cM32, cM32 - 1) fun K' z => k (pc + 1) L ((1, z, 0) :: r) K') = some es from he) hS
  have b1 := clo_s (o := o) hK e1
  have hR := iR x.toInt32
  cases hc : cin cM32 (clo K p o) (chi K p o) with
  | true =>
    rw [hc] at he
    have hi := cin_s hc
    unfold cM32 at *
    exact dgo hk he (fun n d => r_l2i hf rfl) hI hK (dX_refl _) (dX_refl _) hL ⟨w_i e1 (by rw [Int64.toInt_toInt32, Int.bmod_eq_of_le (by omega) (by omega)]; exact e2), hS⟩ hrk (dSub_refl _)
  | false =>
    rw [hc] at he
    simp only [cond_false] at he
    obtain ⟨K', he, hK', e5⟩ := cfr_s he hK (v := (x.toInt32).toInt) (by dsimp only; unfold cM32; omega) (by dsimp only; unfold cM32; omega)
    exact dgo hk he (fun n d => r_l2i hf rfl) hI hK' (dX_app _ _) (dX_refl _) (dL_mono (dX_app _ _) (dX_refl _) hL) ⟨w_i e5 (by omega), dS_mono (dX_app _ _) (dX_refl _) hS⟩ hrk (dSub_refl _)
theorem x_i2b (hk : dSnd X Q zs lv top M k) : dOk X Q zs lv top M k pc (.i2b) len a b := by
  intro L st K es l sv h σ ρ rh hI hK hL hS hrk hf he
  obtain ⟨p, o, r, x, y, t, rfl, he, rfl, e1, e2, hS⟩ := cpI_s (show cpI st (fun p o r => bif cin 128 (clo K p o) (chi K p o) then k (pc + 1) L ((1, p, o) :: r) K else cfr K (-128, 127) fun K' z => k (pc + 1) L ((1, z, 0) :: r) K') = some es from he) hS
  have b1 := clo_s (o := o) hK e1
  have hR : -128 ≤ x.toInt8.toInt32.toInt ∧ x.toInt8.toInt32.toInt ≤ 127 := by rw [Int8.toInt_toInt32]; have := x.toInt8.le_toInt; have := x.toInt8.toInt_lt; omega
  cases hc : cin 128 (clo K p o) (chi K p o) with
  | true =>
    rw [hc] at he
    have hi := cin_s hc
    unfold cM32 at *
    exact dgo hk he (fun n d => r_i2b hf rfl) hI hK (dX_refl _) (dX_refl _) hL ⟨w_i e1 (by rw [Int8.toInt_toInt32, Int32.toInt_toInt8, Int.bmod_eq_of_le (by omega) (by omega)]; exact e2), hS⟩ hrk (dSub_refl _)
  | false =>
    rw [hc] at he
    simp only [cond_false] at he
    obtain ⟨K', he, hK', e5⟩ := cfr_s he hK (v := (x.toInt8.toInt32).toInt) (by dsimp only; omega) (by dsimp only; omega)
    exact dgo hk he (fun n d => r_i2b hf rfl) hI hK' (dX_app _ _) (dX_refl _) (dL_mono (dX_app _ _) (dX_refl _) hL) ⟨w_i e5 (by omega), dS_mono (dX_app _ _) (dX_refl _) hS⟩ hrk (dSub_refl _)
theorem x_i2s (hk : dSnd X Q zs lv top M k) : dOk X Q zs lv top M k pc (.i2s) len a b := by
  intro L st K es l sv h σ ρ rh hI hK hL hS hrk hf he
  obtain ⟨p, o, r, x, y, t, rfl, he, rfl, e1, e2, hS⟩ := cpI_s (show cpI st (fun p o r => bif cin 32768 (clo K p o) (chi K p o) then k (pc + 1) L ((1, p, o) :: r) K else cfr K (-32768, 32767) fun K' z => k (pc + 1) L ((1, z, 0) :: r) K') = some es from he) hS
  have b1 := clo_s (o := o) hK e1
  have hR : -32768 ≤ x.toInt16.toInt32.toInt ∧ x.toInt16.toInt32.toInt ≤ 32767 := by rw [Int16.toInt_toInt32]; have := x.toInt16.le_toInt; have := x.toInt16.toInt_lt; omega
  cases hc : cin 32768 (clo K p o) (chi K p o) with
  | true =>
    rw [hc] at he
    have hi := cin_s hc
    unfold cM32 at *
    exact dgo hk he (fun n d => r_i2s hf rfl) hI hK (dX_refl _) (dX_refl _) hL ⟨w_i e1 (by rw [Int16.toInt_toInt32, Int32.toInt_toInt16, Int.bmod_eq_of_le (by omega) (by omega)]; exact e2), hS⟩ hrk (dSub_refl _)
  | false =>
    rw [hc] at he
    simp only [cond_false] at he
    obtain ⟨K', he, hK', e5⟩ := cfr_s he hK (v := (x.toInt16.toInt32).toInt) (by dsimp only; omega) (by dsimp only; omega)
    exact dgo hk he (fun n d => r_i2s hf rfl) hI hK' (dX_app _ _) (dX_refl _) (dL_mono (dX_app _ _) (dX_refl _) hL) ⟨w_i e5 (by omega), dS_mono (dX_app _ _) (dX_refl _) hS⟩ hrk (dSub_refl _)
theorem i2c_b (x : Int32) : 0 ≤ ((x.toUInt32 % 65536).toInt32).toInt ∧ ((x.toUInt32 % 65536).toInt32).toInt ≤ 65535 ∧ (0 ≤ x.toInt → x.toInt ≤ 65535 → ((x.toUInt32 % 65536).toInt32).toInt = x.toInt) := by
  have e : ((x.toUInt32 % 65536).toInt32).toBitVec.toNat = x.toBitVec.toNat % 65536 := by
    show (x.toUInt32 % 65536).toNat = _
    rw [UInt32.toNat_mod]
    rfl
  have h := i_nat (x := (x.toUInt32 % 65536).toInt32) (by rw [e]; omega)
  rw [h, e]
  refine ⟨by omega, by omega, fun h1 h2 => ?_⟩
  obtain ⟨g1, g2⟩ := i_nn h1
  omega
theorem x_i2c (hk : dSnd X Q zs lv top M k) : dOk X Q zs lv top M k pc (.i2c) len a b := by
  intro L st K es l sv h σ ρ rh hI hK hL hS hrk hf he
  obtain ⟨p, o, r, x, y, t, rfl, he, rfl, e1, e2, hS⟩ := cpI_s (show cpI st (fun p o r => bif cle 0 (clo K p o) && cle (chi K p o) 65535 then k (pc + 1) L ((1, p, o) :: r) K else cfr K (0, 65535) fun K' z => k (pc + 1) L ((1, z, 0) :: r) K') = some es from he) hS
  have b1 := clo_s (o := o) hK e1
  have hR := i2c_b x
  cases hc : (cle 0 (clo K p o) && cle (chi K p o) 65535) with
  | true =>
    rw [hc] at he
    rw [Bool.and_eq_true, cle_i, cle_i] at hc
    exact dgo hk he (fun n d => r_i2c hf rfl) hI hK (dX_refl _) (dX_refl _) hL ⟨w_i e1 (by rw [hR.2.2 (by omega) (by omega)]; exact e2), hS⟩ hrk (dSub_refl _)
  | false =>
    rw [hc] at he
    simp only [cond_false] at he
    obtain ⟨K', he, hK', e5⟩ := cfr_s he hK (v := ((x.toUInt32 % 65536).toInt32).toInt) (by dsimp only; omega) (by dsimp only; omega)
    exact dgo hk he (fun n d => r_i2c hf rfl) hI hK' (dX_app _ _) (dX_refl _) (dL_mono (dX_app _ _) (dX_refl _) hL) ⟨w_i e5 (by omega), dS_mono (dX_app _ _) (dX_refl _) hS⟩ hrk (dSub_refl _)
theorem x_dup (hk : dSnd X Q zs lv top M k) : dOk X Q zs lv top M k pc (.dup) len a b := by
  intro L st K es l sv h σ ρ rh hI hK hL hS hrk hf he
  cases st with
  | nil => cases he
  | cons w r =>
    have he : (bif Nat.beq w.1 2 then none else k (pc + 1) L (w :: w :: r) K) = some es := he
    cases hb : Nat.beq w.1 2 with
    | true => rw [hb] at he; cases he
    | false =>
      rw [hb] at he
      obtain ⟨v, s, rfl, hw, hS⟩ := dS_cons hS
      exact dgo hk he (fun n d => r_dup hf (w_tag hw hb)) hI hK (dX_refl _) (dX_refl _) hL ⟨hw, hw, hS⟩ hrk (dSub_refl _)
theorem x_pop (hk : dSnd X Q zs lv top M k) : dOk X Q zs lv top M k pc (.pop) len a b := by
  intro L st K es l sv h σ ρ rh hI hK hL hS hrk hf he
  cases st with
  | nil => cases he
  | cons w r =>
    have he : (bif Nat.beq w.1 2 then none else k (pc + 1) L r K) = some es := he
    cases hb : Nat.beq w.1 2 with
    | true => rw [hb] at he; cases he
    | false =>
      rw [hb] at he
      obtain ⟨v, s, rfl, hw, hS⟩ := dS_cons hS
      exact dgo hk he (fun n d => r_pop hf (w_tag hw hb)) hI hK (dX_refl _) (dX_refl _) hL hS hrk (dSub_refl _)
theorem x_dup2 (hk : dSnd X Q zs lv top M k) : dOk X Q zs lv top M k pc (.dup2) len a b := by
  intro L st K es l sv h σ ρ rh hI hK hL hS hrk hf he
  match st, he, hS with
  | [], he, _ => cases he
  | [_], he, _ => cases he
  | v :: w :: r, he, hS =>
    have he : (bif Nat.beq v.1 2 || Nat.beq w.1 2 then none else k (pc + 1) L (v :: w :: v :: w :: r) K) = some es := he
    cases hb : (Nat.beq v.1 2 || Nat.beq w.1 2) with
    | true => rw [hb] at he; cases he
    | false =>
      rw [hb] at he
      rw [Bool.or_eq_false_iff] at hb
      obtain ⟨x, s, rfl, hw, hS⟩ := dS_cons hS
      obtain ⟨y, s, rfl, hw2, hS⟩ := dS_cons hS
      exact dgo hk he (fun n d => r_dup2 hf (by rw [w_tag hw hb.1, w_tag hw2 hb.2]; rfl)) hI hK (dX_refl _) (dX_refl _) hL ⟨hw, hw2, hw, hw2, hS⟩ hrk (dSub_refl _)
theorem x_goto {z : Int} (hk : dSnd X Q zs lv top M k) : dOk X Q zs lv top M k pc (.goto z) len a b := by
  intro L st K es l sv h σ ρ rh hI hK hL hS hrk hf he
  have he : k a L st K = some es := he
  exact dgo hk he (fun n d => r_goto hf) hI hK (dX_refl _) (dX_refl _) hL hS hrk (dSub_refl _)
theorem x_ifCond {c : Jvm.ClassFile.Cond} {z : Int} (hk : dSnd X Q zs lv top M k) : dOk X Q zs lv top M k pc (.ifCond c z) len a b := by
  intro L st K es l sv h σ ρ rh hI hK hL hS hrk hf he
  obtain ⟨p, o, r, x, y, t, rfl, he, rfl, e1, e2, hS⟩ := cpI_s (show cpI st (fun p o r => ccmp c K p o 0 0 (k a L r) (k (pc + 3) L r)) = some es from he) hS
  have g := ccmp_s hK e1 (z0 hK) he
  cases hb : dBr c x.toInt 0 with
  | true =>
    obtain ⟨K1, e, he, hs, hK1⟩ := g.1 (by rw [← e2]; exact hb)
    exact dgo hk he (fun n d => by rw [r_cond hf, hb]; rfl) hI hK1 (dX_refl _) (dX_refl _) hL hS hrk hs
  | false =>
    obtain ⟨K1, e, he, hs, hK1⟩ := g.2 (by rw [← e2]; exact hb)
    exact dgo hk he (fun n d => by rw [r_cond hf, hb]; rfl) hI hK1 (dX_refl _) (dX_refl _) hL hS hrk hs
theorem x_if_icmp {c : Jvm.ClassFile.Cond} {z : Int} (hk : dSnd X Q zs lv top M k) : dOk X Q zs lv top M k pc (.if_icmp c z) len a b := by
  intro L st K es l sv h σ ρ rh hI hK hL hS hrk hf he
  obtain ⟨p, o, q, s, r, x, x', y, y', t, rfl, he, rfl, e1, e2, e3, e4, hS⟩ := cpII_s (show cpII st (fun p o q s r => ccmp c K p o q s (k a L r) (k (pc + 3) L r)) = some es from he) hS
  have g := ccmp_s hK e1 e3 he
  cases hb : dBr c x.toInt x'.toInt with
  | true =>
    obtain ⟨K1, e, he, hs, hK1⟩ := g.1 (by rw [← e2, ← e4]; exact hb)
    exact dgo hk he (fun n d => by rw [r_cmp hf, hb]; rfl) hI hK1 (dX_refl _) (dX_refl _) hL hS hrk hs
  | false =>
    obtain ⟨K1, e, he, hs, hK1⟩ := g.2 (by rw [← e2, ← e4]; exact hb)
    exact dgo hk he (fun n d => by rw [r_cmp hf, hb]; rfl) hI hK1 (dX_refl _) (dX_refl _) hL hS hrk hs
end XI
end
section
-- ===== instructions that look at cells, switches =====
theorem clo_i {σ : List Nat} {h : aH} {ρ : List Int} {rh : List Nat} {K : cK} (k : dK σ h ρ rh K) {p : Nat} {o y x : Int} (e : ρ[p]? = some y) (hx : x = y + o) : clo K p o ≤ x ∧ x ≤ chi K p o := by
  rw [hx]
  exact clo_s k e
theorem dsw {x : Int32} {X : aX} {Q : cQ} {zs : Int} {lv : Nat} {top : Bool} {M : aM} {k : Nat → List cW → List cW → cK → Option (List cEx)} (hk : dSnd X Q zs lv top M k) {pc : Nat} {L r : List cW} {l : aL} {sv sr : List Value} {h : aH} {σ : List Nat} {ρ : List Int} {rh : List Nat} (hI : dI σ h) (hL : dL ρ rh L l) (hS : dS ρ rh r sr) (hrk : dRk Q zs ρ) {p : Nat} {o y : Int} (e1 : ρ[p]? = some y) (e2 : x.toInt = y + o) (d : Int) :
    ∀ (offs : List Int) (lo : Int) (K : cK) (es : List cEx), (∀ j : Nat, j < offs.length → -2147483648 ≤ lo + j ∧ lo + j ≤ 2147483647) → dK σ h ρ rh K → ctsw p o (fun a K' => k ((pc : Int) + a).toNat L r K') d lo offs K = some es →
      (∀ n dd, arun X (n + 1) (dd + lv) M pc l sv h = asw x (fun q => arun X n (dd + lv) M ((pc : Int) + q).toNat l sr h) d lo offs) → dRes X Q zs lv top M pc l sv h σ ρ rh es
  | [], lo, K, es, _, hK, hc, hs => dgo hk (show k ((pc : Int) + d).toNat L r K = some es from hc) (fun n dd => hs n dd) hI hK (dX_refl _) (dX_refl _) hL hS hrk (dSub_refl _)
  | a :: rest, lo, K, es, hin, hK, hc, hs => by
    have hc : cap (cbr (cneq K p o 0 lo) (fun K' => k ((pc : Int) + a).toNat L r K')) (cbr (cnne K p o 0 lo) (fun K' => ctsw p o (fun a K' => k ((pc : Int) + a).toNat L r K') d (lo + 1) rest K')) = some es := hc
    obtain ⟨x1, x2, a1, a2, s1, s2⟩ := cap_s hc
    have hl := hin 0 (by simp)
    have hlo : (Int32.ofInt lo).toInt = lo := Int32.toInt_ofInt_of_le (by omega) (by omega)
    by_cases q : x = Int32.ofInt lo
    · obtain ⟨K1, w, hK1⟩ := cneq_s (o := o) (r := lo) hK e1 (z0 hK) (by rw [q, hlo] at e2; omega)
      exact dgo hk (cbr_s a1 w) (fun n dd => by rw [hs, asw_t q]) hI hK1 (dX_refl _) (dX_refl _) hL hS hrk s1
    · obtain ⟨K1, w, hK1⟩ := cnne_s (o := o) (r := lo) hK e1 (z0 hK) (fun c => q (by rw [b_i, hlo]; omega))
      have R := dsw hk hI hL hS hrk e1 e2 d rest (lo + 1) K1 x2 (fun j hj => by have := hin (j + 1) (by simp; omega); omega) hK1 (cbr_s a2 w) (fun n dd => by rw [hs, asw_f q])
      exact dRes_sub s2 R
theorem dlw {x : Int32} {X : aX} {Q : cQ} {zs : Int} {lv : Nat} {top : Bool} {M : aM} {k : Nat → List cW → List cW → cK → Option (List cEx)} (hk : dSnd X Q zs lv top M k) {pc : Nat} {L r : List cW} {l : aL} {sv sr : List Value} {h : aH} {σ : List Nat} {ρ : List Int} {rh : List Nat} (hI : dI σ h) (hL : dL ρ rh L l) (hS : dS ρ rh r sr) (hrk : dRk Q zs ρ) {p : Nat} {o y : Int} (e1 : ρ[p]? = some y) (e2 : x.toInt = y + o) (d : Int) :
    ∀ (ps : List (Int × Int)) (K : cK) (es : List cEx), (∀ a, a ∈ ps → -2147483648 ≤ a.1 ∧ a.1 ≤ 2147483647) → dK σ h ρ rh K → clsw p o (fun a K' => k ((pc : Int) + a).toNat L r K') d ps K = some es →
      (∀ n dd, arun X (n + 1) (dd + lv) M pc l sv h = alw x (fun q => arun X n (dd + lv) M ((pc : Int) + q).toNat l sr h) d ps) → dRes X Q zs lv top M pc l sv h σ ρ rh es
  | [], K, es, _, hK, hc, hs => dgo hk (show k ((pc : Int) + d).toNat L r K = some es from hc) (fun n dd => hs n dd) hI hK (dX_refl _) (dX_refl _) hL hS hrk (dSub_refl _)
  | a :: rest, K, es, hin, hK, hc, hs => by
    have hc : cap (cbr (cneq K p o 0 a.1) (fun K' => k ((pc : Int) + a.2).toNat L r K')) (cbr (cnne K p o 0 a.1) (fun K' => clsw p o (fun a K' => k ((pc : Int) + a).toNat L r K') d rest K')) = some es := hc
    obtain ⟨x1, x2, a1, a2, s1, s2⟩ := cap_s hc
    have hl := hin a List.mem_cons_self
    have hlo : (Int32.ofInt a.1).toInt = a.1 := Int32.toInt_ofInt_of_le (by omega) (by omega)
    by_cases q : x = Int32.ofInt a.1
    · obtain ⟨K1, w, hK1⟩ := cneq_s (o := o) (r := a.1) hK e1 (z0 hK) (by rw [q, hlo] at e2; omega)
      exact dgo hk (cbr_s a1 w) (fun n dd => by rw [hs, alw_t q]) hI hK1 (dX_refl _) (dX_refl _) hL hS hrk s1
    · obtain ⟨K1, w, hK1⟩ := cnne_s (o := o) (r := a.1) hK e1 (z0 hK) (fun c => q (by rw [b_i, hlo]; omega))
      have R := dlw hk hI hL hS hrk e1 e2 d rest K1 x2 (fun b hb => hin b (List.mem_cons_of_mem _ hb)) hK1 (cbr_s a2 w) (fun n dd => by rw [hs, alw_f q])
      exact dRes_sub s2 R
section XH
variable {X : aX} {Q : cQ} {zs : Int} {lv : Nat} {top : Bool} {M : aM} {k : Nat → List cW → List cW → cK → Option (List cEx)} {pc len a b : Nat}
theorem x_ifnull {z : Int} (hk : dSnd X Q zs lv top M k) : dOk X Q zs lv top M k pc (.ifnull z) len a b := by
  intro L st K es l sv h σ ρ rh hI hK hL hS hrk hf he
  have he : (match (generalizing := false) st with
    | (3, _, _) :: r => k (pc + 3) L r K
    | (4, _, _) :: r => k a L r K
    | _ => none) = some es := he
  revert hS
  split at he
  · intro hS
    obtain ⟨v, s, rfl, ⟨q, rfl, -⟩, hT1⟩ := dS_cons hS
    exact dgo hk he (fun n d => r_ifnull_r hf) hI hK (dX_refl _) (dX_refl _) hL hT1 hrk (dSub_refl _)
  · intro hS
    obtain ⟨v, s, rfl, hw, hT1⟩ := dS_cons hS
    have hw : v = .null := hw
    subst hw
    exact dgo hk he (fun n d => r_ifnull_n hf) hI hK (dX_refl _) (dX_refl _) hL hT1 hrk (dSub_refl _)
  · cases he
theorem x_ifnonnull {z : Int} (hk : dSnd X Q zs lv top M k) : dOk X Q zs lv top M k pc (.ifnonnull z) len a b := by
  intro L st K es l sv h σ ρ rh hI hK hL hS hrk hf he
  have he : (match (generalizing := false) st with
    | (3, _, _) :: r => k a L r K
    | (4, _, _) :: r => k (pc + 3) L r K
    | _ => none) = some es := he
  revert hS
  split at he
  · intro hS
    obtain ⟨v, s, rfl, ⟨q, rfl, -⟩, hT1⟩ := dS_cons hS
    exact dgo hk he (fun n d => r_ifnonnull_r hf) hI hK (dX_refl _) (dX_refl _) hL hT1 hrk (dSub_refl _)
  · intro hS
    obtain ⟨v, s, rfl, hw, hT1⟩ := dS_cons hS
    have hw : v = .null := hw
    subst hw
    exact dgo hk he (fun n d => r_ifnonnull_n hf) hI hK (dX_refl _) (dX_refl _) hL hT1 hrk (dSub_refl _)
  · cases he
theorem x_tableswitch {dd lo hi : Int} {offs : Array Int} (hk : dSnd X Q zs lv top M k) : dOk X Q zs lv top M k pc (.tableswitch dd lo hi offs) len a b := by
  intro L st K es l sv h σ ρ rh hI hK hL hS hrk hf he
  obtain ⟨hc, he⟩ := cit_s (show cit (cle (-2147483648) lo && cle (lo + (offs.toList.length : Int)) 2147483647) (cpI st (fun p o r => ctsw p o (fun a K' => k ((pc : Int) + a).toNat L r K') dd lo offs.toList K)) = some es from he)
  rw [Bool.and_eq_true, cle_i, cle_i] at hc
  obtain ⟨p, o, r, x, y, t, rfl, he, rfl, e1, e2, hS⟩ := cpI_s (show cpI st (fun p o r => ctsw p o (fun a K' => k ((pc : Int) + a).toNat L r K') dd lo offs.toList K) = some es from he) hS
  exact dsw hk hI hL hS hrk e1 e2 dd offs.toList lo K es (fun j hj => by omega) hK he (fun n d => r_tsw hf)
theorem x_lookupswitch {dd : Int} {ps : Array (Int × Int)} (hk : dSnd X Q zs lv top M k) : dOk X Q zs lv top M k pc (.lookupswitch dd ps) len a b := by
  intro L st K es l sv h σ ρ rh hI hK hL hS hrk hf he
  obtain ⟨hc, he⟩ := cit_s (show cit (ps.toList.all (fun a => cle (-2147483648) a.1 && cle a.1 2147483647)) (cpI st (fun p o r => clsw p o (fun a K' => k ((pc : Int) + a).toNat L r K') dd ps.toList K)) = some es from he)
  have hin : ∀ a, a ∈ ps.toList → -2147483648 ≤ a.1 ∧ a.1 ≤ 2147483647 := fun a ha => by
    have := List.all_eq_true.mp hc a ha
    rw [Bool.and_eq_true, cle_i, cle_i] at this
    exact this
  obtain ⟨p, o, r, x, y, t, rfl, he, rfl, e1, e2, hS⟩ := cpI_s (show cpI st (fun p o r => clsw p o (fun a K' => k ((pc : Int) + a).toNat L r K') dd ps.toList K) = some es from he) hS
  exact dlw hk hI hL hS hrk e1 e2 dd ps.toList K es hin hK he (fun n d => r_lsw hf)
theorem x_getfield {z : Nat} (hk : dSnd X Q zs lv top M k) : dOk X Q zs lv top M k pc (.getfield z) len a b := by
  intro L st K es l sv h σ ρ rh hI hK hL hS hrk hf he
  have he : (match (generalizing := false) st with
    | (3, c, _) :: r => cRg K c fun _ t => cit (Nat.beq t.1 0 && Nat.beq t.2.1 a) (match t.2.2.2.2.2[b]? with
      | some ty => (match ty.1 with
        | 4 => cit (Nat.blt ty.2.1.toNat 146 && Nat.blt ty.2.2.toNat 146) (cap (k (pc + 3) L ((3, ty.2.1.toNat, 0) :: r) K) (k (pc + 3) L ((3, ty.2.2.toNat, 0) :: r) K))
        | _ => cld K c b ty fun K' w => k (pc + 3) L (w :: r) K')
      | none => none)
    | _ => none) = some es := he
  revert hS
  split at he
  · intro hS
    obtain ⟨v, s, rfl, ⟨q, rfl, hq⟩, hT1⟩ := dS_cons hS
    obtain ⟨g, t, hg, ht, he1⟩ := cRg_s he
    obtain ⟨hc, he2⟩ := cit_s he1
    clear he he1
    rw [Bool.and_eq_true] at hc
    have h0 := Nat.eq_of_beq_eq_true hc.1
    have ha := Nat.eq_of_beq_eq_true hc.2
    subst ha
    cases hty : t.2.2.2.2.2[b]? with
    | none => rw [hty] at he2; cases he2
    | some ty =>
      rw [hty] at he2
      have he : (match (generalizing := false) ty.1 with
        | 4 => cit (Nat.blt ty.2.1.toNat 146 && Nat.blt ty.2.2.toNat 146) (cap (k (pc + 3) L ((3, ty.2.1.toNat, 0) :: _) K) (k (pc + 3) L ((3, ty.2.2.toNat, 0) :: _) K))
        | _ => cld K _ b ty fun K' w => k (pc + 3) L (w :: _) K') = some es := he2
      clear he2
      split at he
      · rename_i h4
        obtain ⟨hb4, he⟩ := cit_s he
        rw [Bool.and_eq_true, Nat.blt_eq, Nat.blt_eq] at hb4
        obtain ⟨x1, x2, a1, a2, s1, s2⟩ := cap_s he
        have hs := creg_s hI.1 hK hg hq
        obtain ⟨c0, d1, d2⟩ := dH_cell hI.1 hs ht
        obtain ⟨fs, f1, f2, f3⟩ := dC_0 d2 h0
        subst f1
        obtain ⟨v, v1, v2⟩ := f3 b ty hty
        unfold dT at v2
        rw [h4] at v2
        rcases v2 with rfl | rfl
        · exact dgo hk a1 (fun n d => r_get hf d1 v1) hI hK (dX_refl _) (dX_refl _) hL ⟨⟨_, rfl, Or.inl ⟨hb4.1, rfl⟩⟩, hT1⟩ hrk s1
        · exact dgo hk a2 (fun n d => r_get hf d1 v1) hI hK (dX_refl _) (dX_refl _) hL ⟨⟨_, rfl, Or.inl ⟨hb4.2, rfl⟩⟩, hT1⟩ hrk s2
      · obtain ⟨K', w, ρ', rh', fs, v, he, hK', hx, hr, c1, c2, hw⟩ := cld_s hI.1 hK he hq hg ht h0 hty
        exact dgo hk he (fun n d => r_get hf c1 c2) hI hK' hx hr (dL_mono hx hr hL) ⟨hw, dS_mono hx hr hT1⟩ hrk (dSub_refl _)
  · cases he
theorem dgoH (hk : dSnd X Q zs lv top M k) {pc' : Nat} {L' st' : List cW} {K' : cK} {l l' : aL} {sv sv' : List Value} {h h1 : aH} {σ : List Nat} {ρ : List Int} {rh : List Nat} {es : List cEx}
    (he : k pc' L' st' K' = some es) (hs : ∀ n d, arun X (n + 1) (d + lv) M pc l sv h = arun X n (d + lv) M pc' l' sv' h1) (hI : dI σ h1) (hG : dG Q.2.2.2.1 σ h σ h1) (hK : dK σ h1 ρ rh K') (hL : dL ρ rh L' l') (hS : dS ρ rh st' sv') (hrk : dRk Q zs ρ) : dRes X Q zs lv top M pc l sv h σ ρ rh es :=
  dRes_step 1 0 hs hG (dX_refl _) (dX_refl _) (dSub_refl _) (hk _ _ _ _ _ he _ _ _ _ _ _ hI hK hL hS hrk)
theorem aok_of {t : FieldType} {x : Int32} (h : (match cisZ t with
    | 1 => true
    | 2 => cle 0 x.toInt && cle x.toInt 1
    | _ => false) = true) : aok t (.int x) = true := by
  cases t <;> first | rfl | (exact absurd (show false = true from h) (by decide)) | skip
  have h : (cle 0 x.toInt && cle x.toInt 1) = true := h
  rw [Bool.and_eq_true, cle_i, cle_i] at h
  have : x = 0 ∨ x = 1 := by
    rcases (show x.toInt = 0 ∨ x.toInt = 1 by omega) with q | q
    · exact Or.inl (b_i.mpr q)
    · exact Or.inr (b_i.mpr q)
  rcases this with rfl | rfl <;> rfl
theorem aok_ref {t : FieldType} {q : Nat} (h : Nat.beq (cisZ t) 3 = true) : aok t (.ref q) = true := by
  cases t <;> first | rfl | (cases h; done)
theorem x_putfield {z : Nat} (hk : dSnd X Q zs lv top M k) : dOk X Q zs lv top M k pc (.putfield z) len a b := by
  intro L st K es l sv h σ ρ rh hI hK hL hS hrk hf he
  have he : (match (generalizing := false) st with
    | v :: (3, c, _) :: r => cRg K c fun g t => cit (Nat.beq t.1 0 && Nat.beq t.2.1 a && !((zT a b).2.2.2) && cWn Q.2.2.2.1 g b && !(cJs g b)) (match t.2.2.2.2.2[b]? with
      | some ty => (match ty.1 with
        | 0 => cit (Nat.beq v.1 1 && cle ty.2.1 (clo K v.2.1 v.2.2) && cle (chi K v.2.1 v.2.2) ty.2.2 && (match cisZ (zY a b) with
          | 1 => true
          | 2 => cle 0 (clo K v.2.1 v.2.2) && cle (chi K v.2.1 v.2.2) 1
          | _ => false)) (k (pc + 3) L r (csF K g b c v))
        | 4 => cit (Nat.beq v.1 3 && (Nat.beq v.2.1 ty.2.1.toNat || Nat.beq v.2.1 ty.2.2.toNat) && Nat.blt v.2.1 146 && Nat.beq (cisZ (zY a b)) 3) (k (pc + 3) L r (K.1, K.2.1, K.2.2.1, K.2.2.2.1, K.2.2.2.2.1.filter (fun t => !(Nat.beq t.2.1 b)), K.2.2.2.2.2))
        | _ => none)
      | none => none)
    | _ => none) = some es := he
  revert hS
  split at he
  · intro hS
    rename_i v c _ r _
    obtain ⟨vv, s, rfl, hv, hT1⟩ := dS_cons hS
    obtain ⟨_, s, rfl, ⟨q, rfl, hq⟩, hT2⟩ := dS_cons hT1
    obtain ⟨g, t, hg, ht, he1⟩ := cRg_s he
    obtain ⟨hc, he2⟩ := cit_s he1
    clear he he1
    simp only [Bool.and_eq_true, Bool.not_eq_true'] at hc
    obtain ⟨⟨⟨⟨h0, ha⟩, hfin⟩, hW⟩, hJ⟩ := hc
    have h0 := Nat.eq_of_beq_eq_true h0
    have ha := Nat.eq_of_beq_eq_true ha
    subst ha
    have hs := creg_s hI.1 hK hg hq
    obtain ⟨c0, d1, d2⟩ := dH_cell hI.1 hs ht
    obtain ⟨fs, f1, f2, f3⟩ := dC_0 d2 h0
    subst f1
    cases hty : t.2.2.2.2.2[b]? with
    | none => rw [hty] at he2; cases he2
    | some ty =>
      rw [hty] at he2
      have hbl : b < fs.length := by rw [f2]; exact (List.getElem?_eq_some_iff.mp hty).1
      have he : (match (generalizing := false) ty.1 with
        | 0 => cit (Nat.beq v.1 1 && cle ty.2.1 (clo K v.2.1 v.2.2) && cle (chi K v.2.1 v.2.2) ty.2.2 && (match cisZ (zY t.2.1 b) with
          | 1 => true
          | 2 => cle 0 (clo K v.2.1 v.2.2) && cle (chi K v.2.1 v.2.2) 1
          | _ => false)) (k (pc + 3) L r (csF K g b c v))
        | 4 => cit (Nat.beq v.1 3 && (Nat.beq v.2.1 ty.2.1.toNat || Nat.beq v.2.1 ty.2.2.toNat) && Nat.blt v.2.1 146 && Nat.beq (cisZ (zY t.2.1 b)) 3) (k (pc + 3) L r (K.1, K.2.1, K.2.2.1, K.2.2.2.1, K.2.2.2.2.1.filter (fun t => !(Nat.beq t.2.1 b)), K.2.2.2.2.2))
        | _ => none) = some es := he2
      clear he2
      split at he
      · rename_i hk0
        obtain ⟨hc, he⟩ := cit_s he
        rw [Bool.and_eq_true, Bool.and_eq_true, Bool.and_eq_true, cle_i, cle_i] at hc
        obtain ⟨⟨⟨hv1, hlo⟩, hhi⟩, hz⟩ := hc
        have hv1 := Nat.eq_of_beq_eq_true hv1
        have hvw := hv
        unfold dW at hv
        rw [hv1] at hv
        obtain ⟨x, y, rfl, e1, e2⟩ := hv
        have b1 := clo_s (o := v.2.2) hK e1
        have hdT : dT σ ty (.int x) := by
          unfold dT
          rw [hk0]
          exact ⟨x, rfl, by omega, by omega⟩
        have hok : aok (zY t.2.1 b) (.int x) = true := by
          refine aok_of ?_
          split at hz
          · rfl
          · rw [Bool.and_eq_true, cle_i, cle_i] at hz ⊢
            omega
          · cases hz
        obtain ⟨hI', hG'⟩ := dI_obj (W := Q.2.2.2.1) hI hs ht h0 d1 hty hdT hJ hW
        exact dgoH hk he (fun n d => r_put hf d1 (by rw [hfin, hok, Nat.blt_eq.mpr hbl]; rfl) rfl) hI' hG' (dK_obj hI.1 hK hs d1 hbl hq hvw) hL hT2 hrk
      · rename_i hk0
        obtain ⟨hc, he⟩ := cit_s he
        rw [Bool.and_eq_true, Bool.and_eq_true, Bool.and_eq_true, Nat.blt_eq] at hc
        obtain ⟨⟨⟨hv1, hor⟩, h146⟩, hz⟩ := hc
        have hv1 := Nat.eq_of_beq_eq_true hv1
        unfold dW at hv
        rw [hv1] at hv
        obtain ⟨p, rfl, hp⟩ := hv
        have hp' : p = v.2.1 := by
          rcases hp with ⟨_, q⟩ | ⟨q, _⟩
          · exact q
          · omega
        subst hp'
        have hdT : dT σ ty (.ref v.2.1) := by
          unfold dT
          rw [hk0]
          rw [Bool.or_eq_true] at hor
          rcases hor with q | q
          · exact Or.inl (by rw [Nat.eq_of_beq_eq_true q])
          · exact Or.inr (by rw [Nat.eq_of_beq_eq_true q])
        obtain ⟨hI', hG'⟩ := dI_obj (W := Q.2.2.2.1) hI hs ht h0 d1 hty hdT hJ hW
        have hK' : dK σ h ρ rh (K.1, K.2.1, K.2.2.1, K.2.2.2.1, K.2.2.2.2.1.filter (fun t => !(Nat.beq t.2.1 b)), K.2.2.2.2.2) := ⟨hK.1, hK.2.1, hK.2.2.1, hK.2.2.2.1, fun u hu => hK.2.2.2.2.1 u (List.mem_filter.mp hu).1, hK.2.2.2.2.2⟩
        refine dgoH hk he (fun n d => r_put hf d1 (by rw [hfin, aok_ref hz, Nat.blt_eq.mpr hbl]; rfl) rfl) hI' hG' (dK_obj0 hK' d1 (fun u hu q' _ hb => ?_)) hL hT2 hrk
        have := (List.mem_filter.mp hu).2
        rw [hb, Nat.beq_refl] at this
        cases this
      · cases he
  · cases he
theorem x_arraylength (hk : dSnd X Q zs lv top M k) : dOk X Q zs lv top M k pc .arraylength len a b := by
  intro L st K es l sv h σ ρ rh hI hK hL hS hrk hf he
  have he : (match (generalizing := false) st with
    | (3, c, _) :: r => cRg K c fun _ t => cit (Nat.beq t.1 2 || (Nat.beq t.1 1 && Nat.beq t.2.1 0)) (cit (Nat.blt t.2.2.1 2147483648) (k (pc + 1) L ((1, 0, (t.2.2.1 : Int)) :: r) K))
    | _ => none) = some es := he
  revert hS
  split at he
  · intro hS
    obtain ⟨_, s, rfl, ⟨q, rfl, hq⟩, hT1⟩ := dS_cons hS
    obtain ⟨g, t, hg, ht, he⟩ := cRg_s he
    obtain ⟨hc, he⟩ := cit_s he
    obtain ⟨hn, he⟩ := cit_s he
    rw [Nat.blt_eq] at hn
    have hs := creg_s hI.1 hK hg hq
    obtain ⟨c0, d1, d2⟩ := dH_cell hI.1 hs ht
    have e : (Int32.ofNat t.2.2.1).toInt = 0 + (t.2.2.1 : Int) := by rw [Int32.toInt_ofNat_of_lt (by omega)]; omega
    rw [Bool.or_eq_true, Bool.and_eq_true] at hc
    rcases hc with hc | ⟨hc, hc2⟩
    · obtain ⟨f, rfl, -⟩ := dC_2 d2 (Nat.eq_of_beq_eq_true hc)
      exact dgo hk he (fun n d => r_alen1 hf d1 rfl) hI hK (dX_refl _) (dX_refl _) hL ⟨w_i (z0 hK) e, hT1⟩ hrk (dSub_refl _)
    · obtain ⟨f, rfl, -⟩ := dC_1 d2 (Nat.eq_of_beq_eq_true hc)
      rw [Nat.eq_of_beq_eq_true hc2] at d1
      exact dgo hk he (fun n d => r_alen hf d1 rfl) hI hK (dX_refl _) (dX_refl _) hL ⟨w_i (z0 hK) e, hT1⟩ hrk (dSub_refl _)
  · cases he
theorem x_iaload (hX : X 0 = some (8, zab)) (hk : dSnd X Q zs lv top M k) : dOk X Q zs lv top M k pc .iaload len a b := by
  intro L st K es l sv h σ ρ rh hI hK hL hS hrk hf he
  have he : (match (generalizing := false) st with
    | (1, p, o) :: (3, c, _) :: r => cRg K c fun g t => cit (Nat.beq t.1 1 && Nat.beq t.2.1 0 && cix K p o t.2.2.1) (cal K c p o g t fun K' q s => k (pc + 1) L ((1, q, s) :: r) K')
    | (1, p, o) :: (5, 0, _) :: r => cit (cix K p o 8) (cfr K (-1, 4) fun K' z => k (pc + 1) L ((1, z, 0) :: r) K')
    | _ => none) = some es := he
  revert hS
  split at he
  · intro hS
    obtain ⟨_, s, rfl, ⟨x, y, rfl, e1, e2⟩, hT1⟩ := dS_cons hS
    obtain ⟨_, s, rfl, ⟨q, rfl, hq⟩, hT2⟩ := dS_cons hT1
    obtain ⟨g, t, hg, ht, he⟩ := cRg_s he
    obtain ⟨hc, he⟩ := cit_s he
    rw [Bool.and_eq_true, Bool.and_eq_true] at hc
    have hs := creg_s hI.1 hK hg hq
    obtain ⟨c0, d1, d2⟩ := dH_cell hI.1 hs ht
    obtain ⟨f, rfl, f2⟩ := dC_1 d2 (Nat.eq_of_beq_eq_true hc.1.1)
    rw [Nat.eq_of_beq_eq_true hc.1.2] at d1
    obtain ⟨g1, g2, g3, g4⟩ := cix_s hK e1 e2 hc.2
    obtain ⟨K', z, u, ρ', w, he, hK', hx, e5, e6⟩ := cal_s hI hK he hq hg d1 e1 g3 g4 (f2 _ g4)
    exact dgo hk he (fun n d => r_iald hf d1 g1 (by rw [g2])) hI hK' hx (dX_refl _) (dL_mono hx (dX_refl _) hL) ⟨w_i e5 e6, dS_mono hx (dX_refl _) hT2⟩ hrk (dSub_refl _)
  · intro hS
    obtain ⟨_, s, rfl, ⟨x, y, rfl, e1, e2⟩, hT1⟩ := dS_cons hS
    obtain ⟨v, s, rfl, hv, hT2⟩ := dS_cons hT1
    have hv : v = .retAddr 0 := hv
    subst hv
    obtain ⟨hc, he⟩ := cit_s he
    obtain ⟨g1, g2, g3, g4⟩ := cix_s hK e1 e2 hc
    have hb : ∀ j : Nat, -1 ≤ (zab j).toInt ∧ (zab j).toInt ≤ 4 := by
      intro j
      unfold zab
      split <;> decide
    obtain ⟨K', he, hK', e5⟩ := cfr_s he hK (v := (zab x.toNatClampNeg).toInt) (hb _).1 (hb _).2
    exact dgo hk he (fun n d => r_xld hf hX g1 rfl) hI hK' (dX_app _ _) (dX_refl _) (dL_mono (dX_app _ _) (dX_refl _) hL) ⟨w_i e5 (by omega), dS_mono (dX_app _ _) (dX_refl _) hT2⟩ hrk (dSub_refl _)
  · cases he
theorem x_baload (hk : dSnd X Q zs lv top M k) : dOk X Q zs lv top M k pc .baload len a b := by
  intro L st K es l sv h σ ρ rh hI hK hL hS hrk hf he
  have he : (match (generalizing := false) st with
    | (1, p, o) :: (3, c, _) :: r => cRg K c fun g t => cit (Nat.beq t.1 1 && (Nat.beq t.2.1 2 || Nat.beq t.2.1 3) && cix K p o t.2.2.1) (cal K c p o g t fun K' q s => k (pc + 1) L ((1, q, s) :: r) K')
    | _ => none) = some es := he
  revert hS
  split at he
  · intro hS
    obtain ⟨_, s, rfl, ⟨x, y, rfl, e1, e2⟩, hT1⟩ := dS_cons hS
    obtain ⟨_, s, rfl, ⟨q, rfl, hq⟩, hT2⟩ := dS_cons hT1
    obtain ⟨g, t, hg, ht, he⟩ := cRg_s he
    obtain ⟨hc, he⟩ := cit_s he
    rw [Bool.and_eq_true, Bool.and_eq_true, Bool.or_eq_true] at hc
    have hs := creg_s hI.1 hK hg hq
    obtain ⟨c0, d1, d2⟩ := dH_cell hI.1 hs ht
    obtain ⟨f, rfl, f2⟩ := dC_1 d2 (Nat.eq_of_beq_eq_true hc.1.1)
    obtain ⟨g1, g2, g3, g4⟩ := cix_s hK e1 e2 hc.2
    obtain ⟨K', z, u, ρ', w, he, hK', hx, e5, e6⟩ := cal_s hI hK he hq hg d1 e1 g3 g4 (f2 _ g4)
    rcases hc.1.2 with h2 | h2 <;> rw [Nat.eq_of_beq_eq_true h2] at d1
    · exact dgo hk he (fun n d => r_zald hf d1 g1 (by rw [g2])) hI hK' hx (dX_refl _) (dL_mono hx (dX_refl _) hL) ⟨w_i e5 e6, dS_mono hx (dX_refl _) hT2⟩ hrk (dSub_refl _)
    · exact dgo hk he (fun n d => r_bald hf d1 g1 (by rw [g2])) hI hK' hx (dX_refl _) (dL_mono hx (dX_refl _) hL) ⟨w_i e5 e6, dS_mono hx (dX_refl _) hT2⟩ hrk (dSub_refl _)
  · cases he
theorem x_laload (hk : dSnd X Q zs lv top M k) : dOk X Q zs lv top M k pc .laload len a b := by
  intro L st K es l sv h σ ρ rh hI hK hL hS hrk hf he
  have he : (match (generalizing := false) st with
    | (1, p, o) :: (3, c, _) :: r => cRg K c fun _ t => cit (Nat.beq t.1 2 && cix K p o t.2.2.1) (cfr K (t.2.2.2.1, t.2.2.2.2.1) fun K' z => k (pc + 1) L ((2, z, 0) :: r) K')
    | _ => none) = some es := he
  revert hS
  split at he
  · intro hS
    obtain ⟨_, s, rfl, ⟨x, y, rfl, e1, e2⟩, hT1⟩ := dS_cons hS
    obtain ⟨_, s, rfl, ⟨q, rfl, hq⟩, hT2⟩ := dS_cons hT1
    obtain ⟨g, t, hg, ht, he⟩ := cRg_s he
    obtain ⟨hc, he⟩ := cit_s he
    rw [Bool.and_eq_true] at hc
    have hs := creg_s hI.1 hK hg hq
    obtain ⟨c0, d1, d2⟩ := dH_cell hI.1 hs ht
    obtain ⟨f, rfl, f2⟩ := dC_2 d2 (Nat.eq_of_beq_eq_true hc.1)
    obtain ⟨g1, g2, g3, g4⟩ := cix_s hK e1 e2 hc.2
    have hb := f2 _ g4
    rw [← g2] at hb
    obtain ⟨K', he, hK', e5⟩ := cfr_s he hK (v := (f x.toNatClampNeg).toInt) hb.1 hb.2
    exact dgo hk he (fun n d => r_lald hf d1 g1 rfl) hI hK' (dX_app _ _) (dX_refl _) (dL_mono (dX_app _ _) (dX_refl _) hL) ⟨w_j e5 (by omega), dS_mono (dX_app _ _) (dX_refl _) hT2⟩ hrk (dSub_refl _)
  · cases he
theorem x_aaload (hk : dSnd X Q zs lv top M k) : dOk X Q zs lv top M k pc .aaload len a b := by
  intro L st K es l sv h σ ρ rh hI hK hL hS hrk hf he
  have he : (match (generalizing := false) st with
    | (1, p, o) :: (3, c, _) :: r => cRg K c fun _ t => cit (Nat.beq t.1 3 && (Nat.beq t.2.1 4 || Nat.beq t.2.1 5) && cix K p o t.2.2.1) (cap (k (pc + 1) L ((4, 0, 0) :: r) K) (k (pc + 1) L ((3, 1000 + K.2.2.2.1.length, 0) :: r) (K.1, K.2.1, K.2.2.1, K.2.2.2.1 ++ [t.2.2.2.1.toNat], K.2.2.2.2)))
    | _ => none) = some es := he
  revert hS
  split at he
  · intro hS
    obtain ⟨_, s, rfl, ⟨x, y, rfl, e1, e2⟩, hT1⟩ := dS_cons hS
    obtain ⟨_, s, rfl, ⟨q, rfl, hq⟩, hT2⟩ := dS_cons hT1
    obtain ⟨g, t, hg, ht, he⟩ := cRg_s he
    obtain ⟨hc, he⟩ := cit_s he
    rw [Bool.and_eq_true, Bool.and_eq_true, Bool.or_eq_true] at hc
    have hs := creg_s hI.1 hK hg hq
    obtain ⟨c0, d1, d2⟩ := dH_cell hI.1 hs ht
    obtain ⟨f, rfl, f2⟩ := dC_3 d2 (Nat.eq_of_beq_eq_true hc.1.1)
    obtain ⟨g1, g2, g3, g4⟩ := cix_s hK e1 e2 hc.2
    obtain ⟨x1, x2, a1, a2, s1, s2⟩ := cap_s he
    have hs1 : ∀ n d, arun X (n + 1) (d + lv) M pc l (.int x :: .ref q :: s) h = arun X n (d + lv) M (pc + 1) l (arf (f x.toNatClampNeg) :: s) h := by
      intro n d
      rcases hc.1.2 with h2 | h2 <;> rw [Nat.eq_of_beq_eq_true h2] at d1
      · exact r_aald4 hf d1 g1 rfl
      · exact r_aald5 hf d1 g1 rfl
    cases hv : f x.toNatClampNeg with
    | none =>
      rw [hv] at hs1
      exact dgo hk a1 hs1 hI hK (dX_refl _) (dX_refl _) hL ⟨rfl, hT2⟩ hrk s1
    | some p =>
      rw [hv] at hs1
      have p1 := f2 _ _ hv
      have hw : dW ρ (rh ++ [p]) (3, 1000 + K.2.2.2.1.length, 0) (.ref p) := ⟨p, rfl, Or.inr ⟨by show 1000 ≤ 1000 + K.2.2.2.1.length; omega, by
          show (rh ++ [p])[1000 + K.2.2.2.1.length - 1000]? = some p
          rw [← hK.2.2.2.1.1, show 1000 + rh.length - 1000 = rh.length by omega]
          simp⟩⟩
      refine dgo hk a2 hs1 hI ⟨hK.1, hK.2.1, hK.2.2.1, ⟨by simp [hK.2.2.2.1.1], fun i r' e' => ?_⟩, kF_mono (dX_refl _) (dX_app _ _) hK.2.2.2.2.1, hK.2.2.2.2.2.1, kA_mono (dX_refl _) (dX_app _ _) hK.2.2.2.2.2.2⟩ (dX_refl _) (dX_app _ _) (dL_mono (dX_refl _) (dX_app _ _) hL) ⟨hw, dS_mono (dX_refl _) (dX_app _ _) hT2⟩ hrk s2
      dsimp only at e'
      rcases Nat.lt_or_ge i K.2.2.2.1.length with hi | hi
      · rw [List.getElem?_append_left hi] at e'
        obtain ⟨q', a, b'⟩ := hK.2.2.2.1.2 i r' e'
        exact ⟨q', dX_app _ _ _ _ a, b'⟩
      · rw [List.getElem?_append_right hi] at e'
        have hz : i - K.2.2.2.1.length = 0 := by
          rcases Nat.eq_zero_or_pos (i - K.2.2.2.1.length) with g | g
          · exact g
          · rw [List.getElem?_eq_none (by simp; omega)] at e'; cases e'
        rw [hz] at e'
        simp only [List.getElem?_cons_zero, Option.some.injEq] at e'
        subst e'
        refine ⟨p, ?_, p1⟩
        rw [show i = rh.length by rw [hK.2.2.2.1.1]; omega]
        simp
  · cases he
theorem upd_b {g : Nat → Int32} {n j : Nat} {x : Int32} {lo hi : Int} (h : ∀ i, i < n → lo ≤ (g i).toInt ∧ (g i).toInt ≤ hi) (h1 : lo ≤ x.toInt) (h2 : x.toInt ≤ hi) : ∀ i, i < n → lo ≤ (upd g j x i).toInt ∧ (upd g j x i).toInt ≤ hi := by
  intro i hi
  unfold upd
  split
  · exact ⟨h1, h2⟩
  · exact h i hi
theorem x_iastore (hk : dSnd X Q zs lv top M k) : dOk X Q zs lv top M k pc .iastore len a b := by
  intro L st K es l sv h σ ρ rh hI hK hL hS hrk hf he
  have he : (match (generalizing := false) st with
    | (1, q, s) :: (1, p, o) :: (3, c, _) :: r => cRg K c fun g t => cit (Nat.beq t.1 1 && Nat.beq t.2.1 0 && cix K p o t.2.2.1 && cWn Q.2.2.2.1 g 0 && !(cJs g 0) && cle t.2.2.2.1 (clo K q s) && cle (chi K q s) t.2.2.2.2.1) (k (pc + 1) L r (csA K g [(c, p, o, q, s)]))
    | _ => none) = some es := he
  revert hS
  split at he
  · intro hS
    obtain ⟨_, s1, rfl, ⟨x', y', rfl, e3, e4⟩, hT1⟩ := dS_cons hS
    obtain ⟨_, s1, rfl, ⟨x, y, rfl, e1, e2⟩, hT2⟩ := dS_cons hT1
    obtain ⟨_, s1, rfl, ⟨q, rfl, hq⟩, hT3⟩ := dS_cons hT2
    obtain ⟨g, t, hg, ht, he⟩ := cRg_s he
    obtain ⟨hc, he⟩ := cit_s he
    simp only [Bool.and_eq_true, Bool.not_eq_true', cle_i] at hc
    obtain ⟨⟨⟨⟨⟨⟨c1, c2⟩, c3⟩, hW⟩, hJ⟩, c4⟩, c5⟩ := hc
    have c1 := Nat.eq_of_beq_eq_true c1
    have hs := creg_s hI.1 hK hg hq
    obtain ⟨c0, d1, d2⟩ := dH_cell hI.1 hs ht
    obtain ⟨f, rfl, f2⟩ := dC_1 d2 c1
    have d1' := d1
    rw [Nat.eq_of_beq_eq_true c2] at d1'
    obtain ⟨g1, g2, g3, g4⟩ := cix_s hK e1 e2 c3
    dsimp only at e1 e2 e3 e4
    have b1 := clo_i hK e3 e4
    have hC : dC σ t (.inl (0, t.2.2.1, .inl (upd f x.toNatClampNeg x'))) := by
      unfold dC
      rw [c1, Nat.eq_of_beq_eq_true c2]
      exact ⟨_, rfl, upd_b f2 (by omega) (by omega)⟩
    obtain ⟨hI', hG'⟩ := dI_arr (W := Q.2.2.2.1) hI hs ht (Or.inl c1) d1 hC hJ hW
    refine dgoH hk he (fun n d => r_iast hf d1' g1 rfl) hI' hG' (dK_arr hI.1 hK hs d1 (fun u hu => ?_)) hL hT3 hrk
    simp only [List.mem_singleton] at hu
    subst hu
    refine ⟨q, 0, t.2.2.1, _, y, y', hq, set_eq' d1, e1, g3, e3, ?_⟩
    rw [g2]
    unfold upd
    rw [if_pos rfl]
    exact e4
  · cases he
theorem x_bastore (hk : dSnd X Q zs lv top M k) : dOk X Q zs lv top M k pc .bastore len a b := by
  intro L st K es l sv h σ ρ rh hI hK hL hS hrk hf he
  have he : (match (generalizing := false) st with
    | (1, q, s) :: (1, p, o) :: (3, c, _) :: r => cRg K c fun g t => cit (Nat.beq t.1 1 && cix K p o t.2.2.1 && cWn Q.2.2.2.1 g 0 && !(cJs g 0) && cle t.2.2.2.1 (clo K q s) && cle (chi K q s) t.2.2.2.2.1 && (match t.2.1 with
        | 2 => cle 0 (clo K q s) && cle (chi K q s) 1
        | 3 => cle (-128) (clo K q s) && cle (chi K q s) 127
        | _ => false)) (k (pc + 1) L r (csA K g (bif Nat.beq t.2.1 2 then [(c, p, o, q, s)] else [])))
    | _ => none) = some es := he
  revert hS
  split at he
  · intro hS
    obtain ⟨_, s1, rfl, ⟨x', y', rfl, e3, e4⟩, hT1⟩ := dS_cons hS
    obtain ⟨_, s1, rfl, ⟨x, y, rfl, e1, e2⟩, hT2⟩ := dS_cons hT1
    obtain ⟨_, s1, rfl, ⟨q, rfl, hq⟩, hT3⟩ := dS_cons hT2
    obtain ⟨g, t, hg, ht, he⟩ := cRg_s he
    obtain ⟨hc, he⟩ := cit_s he
    rw [Bool.and_eq_true, Bool.and_eq_true, Bool.and_eq_true, Bool.and_eq_true, Bool.and_eq_true, Bool.and_eq_true, Bool.not_eq_true', cle_i, cle_i] at hc
    obtain ⟨⟨⟨⟨⟨⟨c1, c3⟩, hW⟩, hJ⟩, c4⟩, c5⟩, c6⟩ := hc
    have c1 := Nat.eq_of_beq_eq_true c1
    have hs := creg_s hI.1 hK hg hq
    obtain ⟨c0, d1, d2⟩ := dH_cell hI.1 hs ht
    obtain ⟨f, rfl, f2⟩ := dC_1 d2 c1
    obtain ⟨g1, g2, g3, g4⟩ := cix_s hK e1 e2 c3
    dsimp only at e1 e2 e3 e4
    have b1 := clo_i hK e3 e4
    split at c6
    · rename_i ty
      rw [Bool.and_eq_true, cle_i, cle_i] at c6
      have d1' := d1
      rw [ty] at d1'
      have hx' : x' &&& 1 = x' := by
        rcases (show x'.toInt = 0 ∨ x'.toInt = 1 by omega) with w | w
        · rw [show x' = 0 from b_i.mpr w]; rfl
        · rw [show x' = 1 from b_i.mpr w]; rfl
      have hC : dC σ t (.inl (2, t.2.2.1, .inl (upd f x.toNatClampNeg (x' &&& 1)))) := by
        unfold dC
        rw [c1, ty]
        exact ⟨_, rfl, upd_b f2 (by rw [hx']; omega) (by rw [hx']; omega)⟩
      obtain ⟨hI', hG'⟩ := dI_arr (W := Q.2.2.2.1) hI hs ht (Or.inl c1) d1 hC hJ hW
      refine dgoH hk he (fun n d => r_zast hf d1' g1 rfl) hI' hG' (dK_arr hI.1 hK hs d1 (fun u hu => ?_)) hL hT3 hrk
      rw [ty] at hu
      simp only [Nat.beq_refl, cond_true, List.mem_singleton] at hu
      subst hu
      refine ⟨q, 2, t.2.2.1, _, y, y', hq, set_eq' d1, e1, g3, e3, ?_⟩
      rw [g2]
      unfold upd
      rw [if_pos rfl, hx']
      exact e4
    · rename_i ty
      rw [Bool.and_eq_true, cle_i, cle_i] at c6
      have d1' := d1
      rw [ty] at d1'
      have hx' : x'.toInt8.toInt32 = x' := by
        rw [b_i, Int8.toInt_toInt32, Int32.toInt_toInt8]
        exact Int.bmod_eq_of_le (by omega) (by omega)
      have hC : dC σ t (.inl (3, t.2.2.1, .inl (upd f x.toNatClampNeg x'.toInt8.toInt32))) := by
        unfold dC
        rw [c1, ty]
        exact ⟨_, rfl, upd_b f2 (by rw [hx']; omega) (by rw [hx']; omega)⟩
      obtain ⟨hI', hG'⟩ := dI_arr (W := Q.2.2.2.1) hI hs ht (Or.inl c1) d1 hC hJ hW
      refine dgoH hk he (fun n d => r_bast hf d1' g1 rfl) hI' hG' (dK_arr hI.1 hK hs d1 (fun u hu => ?_)) hL hT3 hrk
      rw [ty] at hu
      cases hu
    · cases c6
  · cases he
theorem x_lastore (hk : dSnd X Q zs lv top M k) : dOk X Q zs lv top M k pc .lastore len a b := by
  intro L st K es l sv h σ ρ rh hI hK hL hS hrk hf he
  have he : (match (generalizing := false) st with
    | (2, q, s) :: (1, p, o) :: (3, c, _) :: r => cRg K c fun g t => cit (Nat.beq t.1 2 && cix K p o t.2.2.1 && cWn Q.2.2.2.1 g 0 && !(cJs g 0) && cle t.2.2.2.1 (clo K q s) && cle (chi K q s) t.2.2.2.2.1) (k (pc + 1) L r (csA K g []))
    | _ => none) = some es := he
  revert hS
  split at he
  · intro hS
    obtain ⟨_, s1, rfl, ⟨x', y', rfl, e3, e4⟩, hT1⟩ := dS_cons hS
    obtain ⟨_, s1, rfl, ⟨x, y, rfl, e1, e2⟩, hT2⟩ := dS_cons hT1
    obtain ⟨_, s1, rfl, ⟨q, rfl, hq⟩, hT3⟩ := dS_cons hT2
    obtain ⟨g, t, hg, ht, he⟩ := cRg_s he
    obtain ⟨hc, he⟩ := cit_s he
    simp only [Bool.and_eq_true, Bool.not_eq_true', cle_i] at hc
    obtain ⟨⟨⟨⟨⟨c1, c3⟩, hW⟩, hJ⟩, c4⟩, c5⟩ := hc
    have c1 := Nat.eq_of_beq_eq_true c1
    have hs := creg_s hI.1 hK hg hq
    obtain ⟨c0, d1, d2⟩ := dH_cell hI.1 hs ht
    obtain ⟨f, rfl, f2⟩ := dC_2 d2 c1
    obtain ⟨g1, g2, g3, g4⟩ := cix_s hK e1 e2 c3
    dsimp only at e1 e2 e3 e4
    have b1 := clo_i hK e3 e4
    have hC : dC σ t (.inl (1, t.2.2.1, .inr (.inl (vp_updL f x.toNatClampNeg x')))) := by
      unfold dC
      rw [c1]
      refine ⟨_, rfl, fun i hi => ?_⟩
      unfold vp_updL
      split
      · omega
      · exact f2 i hi
    obtain ⟨hI', hG'⟩ := dI_arr (W := Q.2.2.2.1) hI hs ht (Or.inr c1) d1 hC hJ hW
    exact dgoH hk he (fun n d => r_last hf d1 g1 rfl) hI' hG' (dK_arr hI.1 hK hs d1 (fun u hu => by cases hu)) hL hT3 hrk
  · cases he
end XH
end
section
-- ===== every instruction that is neither a call nor a return =====
theorem x_all {X : aX} {Q : cQ} {zs : Int} {lv : Nat} {top : Bool} {M : aM} {k : Nat → List cW → List cW → cK → Option (List cEx)} (hX : X 0 = some (8, zab)) (hk : dSnd X Q zs lv top M k) {pc len a b : Nat} (ins : Instr) : dOk X Q zs lv top M k pc ins len a b := by
  cases ins
  case aconst_null => exact x_aconst_null hk
  case iconst => exact x_iconst hk
  case bipush => exact x_bipush hk
  case sipush => exact x_sipush hk
  case lconst => exact x_lconst hk
  case ldc => exact x_ldc hk
  case ldc_w => exact x_ldc_w hk
  case ldc2_w => exact x_ldc2_w hk
  case iload_n => exact x_iload_n hk
  case iload => exact x_iload hk
  case lload_n => exact x_lload_n hk
  case lload => exact x_lload hk
  case aload_n => exact x_aload_n hk
  case aload => exact x_aload hk
  case istore_n => exact x_istore_n hk
  case istore => exact x_istore hk
  case lstore_n => exact x_lstore_n hk
  case lstore => exact x_lstore hk
  case astore_n => exact x_astore_n hk
  case astore => exact x_astore hk
  case iinc => exact x_iinc hk
  case iadd => exact x_iadd hk
  case isub => exact x_isub hk
  case imul => exact x_imul hk
  case iand => exact x_iand hk
  case ior => exact x_ior hk
  case ixor => exact x_ixor hk
  case ishl => exact x_ishl hk
  case ishr => exact x_ishr hk
  case iushr => exact x_iushr hk
  case idiv => exact x_idiv hk
  case irem => exact x_irem hk
  case ineg => exact x_ineg hk
  case ladd => exact x_ladd hk
  case lsub => exact x_lsub hk
  case lmul => exact x_lmul hk
  case ldiv => exact x_ldiv hk
  case lrem => exact x_lrem hk
  case i2l => exact x_i2l hk
  case l2i => exact x_l2i hk
  case i2b => exact x_i2b hk
  case i2s => exact x_i2s hk
  case i2c => exact x_i2c hk
  case dup => exact x_dup hk
  case dup2 => exact x_dup2 hk
  case pop => exact x_pop hk
  case goto => exact x_goto hk
  case ifCond => exact x_ifCond hk
  case if_icmp => exact x_if_icmp hk
  case ifnull => exact x_ifnull hk
  case ifnonnull => exact x_ifnonnull hk
  case tableswitch => exact x_tableswitch hk
  case lookupswitch => exact x_lookupswitch hk
  case getfield => exact x_getfield hk
  case putfield => exact x_putfield hk
  case getstatic => exact x_getstatic hk
  case arraylength => exact x_arraylength hk
  case iaload => exact x_iaload hX hk
  case baload => exact x_baload hk
  case laload => exact x_laload hk
  case aaload => exact x_aaload hk
  case iastore => exact x_iastore hk
  case bastore => exact x_bastore hk
  case lastore => exact x_lastore hk
  all_goals
    intro L st K es l sv h σ ρ rh hI hK hL hS hrk hf he
    have he : (none : Option (List cEx)) = some es := he
    cases he
-- ===== a call's locals =====
theorem w_cat {ρ : List Int} {rh : List Nat} {w : cW} {v : Value} (h : dW ρ rh w v) : v.category = (bif Nat.beq w.1 2 then 2 else 1) := by
  unfold dW at h
  split at h
  · rename_i e; obtain ⟨_, _, rfl, _⟩ := h; rw [e]; rfl
  · rename_i e; obtain ⟨_, _, rfl, _⟩ := h; rw [e]; rfl
  · rename_i e; obtain ⟨_, rfl, _⟩ := h; rw [e]; rfl
  · rename_i e; subst h; rw [e]; rfl
  · rename_i e; subst h; rw [e]; rfl
  · rename_i e; rcases h with rfl | ⟨_, rfl, _⟩ <;> rw [e] <;> rfl
  · rename_i e; subst h; rw [e]; rfl
  · exact h.elim
theorem cws_s {ρ : List Int} {rh : List Nat} : ∀ {ws : List cW} {vs : List Value}, dS ρ rh ws vs → aws vs = cws ws
  | [], [], _ => rfl
  | w :: r, v :: s, h => by
    have e := w_cat h.1
    have ih := cws_s h.2
    simp only [aws, cws, e, ih]
  | [], _ :: _, h => h.elim
  | _ :: _, [], h => h.elim
theorem dL_cons {ρ : List Int} {rh : List Nat} {L : List cW} {l : aL} (h : dL ρ rh L l) {w : cW} {o : Option Value} (hw : w.1 = 0 ∨ ∃ v, o = some v ∧ dW ρ rh w v) : dL ρ rh (w :: L) (o :: l) := by
  refine ⟨by simp [h.1], fun i x e => ?_⟩
  cases i with
  | zero =>
    simp only [List.getElem?_cons_zero, Option.some.injEq] at e
    subst e
    rcases hw with q | ⟨v, rfl, q⟩
    · exact Or.inl q
    · exact Or.inr ⟨v, by rw [aG_get]; rfl, q⟩
  | succ i =>
    rw [List.getElem?_cons_succ] at e
    rcases h.2 i x e with q | ⟨v, q1, q2⟩
    · exact Or.inl q
    · refine Or.inr ⟨v, ?_, q2⟩
      rw [aG_get] at q1 ⊢
      rw [List.getElem?_cons_succ]
      exact q1
theorem dL_rep {ρ : List Int} {rh : List Nat} (n : Nat) : dL ρ rh (List.replicate n (0, 0, 0)) (List.replicate n none) := by
  refine ⟨by simp, fun i w e => Or.inl ?_⟩
  rw [List.getElem?_replicate] at e
  split at e
  · cases e; rfl
  · cases e
theorem dL_entry {ρ : List Int} {rh : List Nat} : ∀ {ws : List cW} {vs : List Value} (n : Nat), dS ρ rh ws vs → dL ρ rh (cEn n ws) (aE n vs)
  | [], [], n, _ => dL_rep n
  | w :: r, v :: s, n, h => by
    have e := w_cat h.1
    unfold cEn aE
    rw [e]
    cases q : Nat.beq w.1 2 with
    | true =>
      simp only [cond_true, Nat.beq_refl]
      exact dL_cons (dL_cons (dL_entry (n - 2) h.2) (Or.inl rfl)) (Or.inr ⟨v, rfl, h.1⟩)
    | false =>
      simp only [cond_false, show Nat.beq 1 2 = false from rfl]
      exact dL_cons (dL_entry (n - 1) h.2) (Or.inr ⟨v, rfl, h.1⟩)
  | [], _ :: _, _, h => h.elim
  | _ :: _, [], _, h => h.elim
theorem dS_len {ρ : List Int} {rh : List Nat} : ∀ {ws : List cW} {vs : List Value}, dS ρ rh ws vs → vs.length = ws.length
  | [], [], _ => rfl
  | _ :: _, _ :: _, h => by simp [dS_len h.2]
  | [], _ :: _, h => h.elim
  | _ :: _, [], h => h.elim
theorem dS_app {ρ : List Int} {rh : List Nat} : ∀ {a c : List cW} {b d : List Value}, dS ρ rh a b → dS ρ rh c d → dS ρ rh (a ++ c) (b ++ d)
  | [], _, [], _, _, h => h
  | _ :: _, _, _ :: _, _, g, h => ⟨g.1, dS_app g.2 h⟩
  | [], _, _ :: _, _, g, _ => g.elim
  | _ :: _, _, [], _, g, _ => g.elim
theorem dS_take {ρ : List Int} {rh : List Nat} : ∀ {ws : List cW} {vs : List Value} (n : Nat), dS ρ rh ws vs → dS ρ rh (ws.take n) (vs.take n) ∧ dS ρ rh (ws.drop n) (vs.drop n)
  | ws, vs, 0, h => ⟨trivial, h⟩
  | [], [], _ + 1, _ => ⟨trivial, trivial⟩
  | _ :: _, _ :: _, n + 1, h => by
    obtain ⟨a, b⟩ := dS_take n h.2
    exact ⟨⟨h.1, a⟩, b⟩
  | [], _ :: _, _ + 1, h => h.elim
  | _ :: _, [], _ + 1, h => h.elim
theorem dS_rev {ρ : List Int} {rh : List Nat} : ∀ {ws : List cW} {vs : List Value}, dS ρ rh ws vs → dS ρ rh ws.reverse vs.reverse
  | [], [], _ => trivial
  | _ :: _, _ :: _, h => by
    rw [List.reverse_cons, List.reverse_cons]
    exact dS_app (dS_rev h.2) ⟨h.1, trivial⟩
  | [], _ :: _, h => h.elim
  | _ :: _, [], h => h.elim
end
section
-- ===== templates =====
def dRT (ρ : List Int) (mu : List (Nat × Int)) : List Int := mu.map (fun m => (ρ[m.1]?).getD 0 + m.2)
def dHT (rh nu : List Nat) : List Nat := nu.map (fun c => bif Nat.blt c 146 then c else (rh[c - 1000]?).getD 0)
theorem dRT_get {ρ : List Int} {mu : List (Nat × Int)} {j : Nat} {m : Nat × Int} {y : Int} (e : mu[j]? = some m) (f : ρ[m.1]? = some y) : (dRT ρ mu)[j]? = some (y + m.2) := by
  unfold dRT
  rw [List.getElem?_map, e]
  simp only [Option.map_some, f, Option.getD_some]
theorem dHT_get {rh nu : List Nat} {i c q : Nat} (e : nu[i]? = some c) (f : dR rh c q) : (dHT rh nu)[i]? = some q := by
  unfold dHT
  rw [List.getElem?_map, e]
  simp only [Option.map_some]
  rcases f with ⟨f1, rfl⟩ | ⟨f1, f2⟩
  · rw [Nat.blt_eq.mpr f1]; rfl
  · rw [show Nat.blt c 146 = false by rw [← Bool.not_eq_true, Nat.blt_eq]; omega]
    simp only [cond_false, f2, Option.getD_some]
theorem ccq_s {σ : List Nat} {h : aH} {ρ : List Int} {rh : List Nat} {K : cK} (k : dK σ h ρ rh K) {p q : Nat} {o r y z : Int} (e : ρ[p]? = some y) (f : ρ[q]? = some z) (g : ccq K p o q r = true) : y + o = z + r := by
  unfold ccq at g
  have b1 := clo_s (o := o) k e
  have b2 := clo_s (o := r) k f
  rw [Bool.or_eq_true, Bool.and_eq_true, Bool.and_eq_true, Bool.and_eq_true, ceI_i, ceI_i, ceI_i, ceI_i] at g
  rcases g with ⟨g1, g2⟩ | ⟨⟨g1, g2⟩, g3⟩
  · have := Nat.eq_of_beq_eq_true g1
    subst this
    rw [e] at f
    cases f
    omega
  · omega
def dMu (ρ : List Int) (mu : List (Nat × Int)) : Prop := ∀ (j : Nat) (m : Nat × Int), mu[j]? = some m → ∃ y, ρ[m.1]? = some y
theorem code_s {rh nu : List Nat} {t c q : Nat} (h : (bif Nat.blt t 1000 then Nat.beq c t else match nu[t - 1000]? with
    | some x => Nat.beq c x
    | none => false) = true) (f : dR rh c q) : dR (dHT rh nu) t q := by
  cases h1 : Nat.blt t 1000 with
  | true =>
    rw [h1] at h
    have := Nat.eq_of_beq_eq_true h
    subst this
    have h1 := Nat.blt_eq.mp h1
    rcases f with f | ⟨f, _⟩
    · exact Or.inl f
    · omega
  | false =>
    rw [h1] at h
    have h1 : ¬ t < 1000 := fun q => by rw [← Nat.blt_eq, h1] at q; cases q
    simp only [cond_false] at h
    split at h
    · rename_i x e
      have := Nat.eq_of_beq_eq_true h
      subst this
      exact Or.inr ⟨by omega, dHT_get e f⟩
    · cases h
theorem cvw_s {σ : List Nat} {h : aH} {ρ : List Int} {rh : List Nat} {K : cK} (k : dK σ h ρ rh K) {mu : List (Nat × Int)} {nu : List Nat} (hm : dMu ρ mu) {t w : cW} {v : Value} (g : cvw K mu nu t w = true) (hw : dW ρ rh w v) : dW (dRT ρ mu) (dHT rh nu) t v := by
  unfold cvw at g
  unfold dW
  split at g
  · rename_i et
    rw [et]
    rw [Bool.and_eq_true] at g
    have ew := Nat.eq_of_beq_eq_true g.1
    unfold dW at hw
    rw [ew] at hw
    obtain ⟨x, y, rfl, e1, e2⟩ := hw
    have g2 := g.2
    split at g2
    · rename_i m em
      obtain ⟨z, hz⟩ := hm _ _ em
      have := ccq_s k hz e1 g2
      exact ⟨x, _, rfl, dRT_get em hz, by omega⟩
    · cases g2
  · rename_i et
    rw [et]
    rw [Bool.and_eq_true] at g
    have ew := Nat.eq_of_beq_eq_true g.1
    unfold dW at hw
    rw [ew] at hw
    obtain ⟨x, y, rfl, e1, e2⟩ := hw
    have g2 := g.2
    split at g2
    · rename_i m em
      obtain ⟨z, hz⟩ := hm _ _ em
      have := ccq_s k hz e1 g2
      exact ⟨x, _, rfl, dRT_get em hz, by omega⟩
    · cases g2
  · rename_i et
    rw [et]
    rw [Bool.and_eq_true] at g
    have ew := Nat.eq_of_beq_eq_true g.1
    unfold dW at hw
    rw [ew] at hw
    obtain ⟨q, rfl, hq⟩ := hw
    exact ⟨q, rfl, code_s g.2 hq⟩
  · rename_i et
    rw [et]
    have ew := Nat.eq_of_beq_eq_true g
    unfold dW at hw
    rw [ew] at hw
    exact hw
  · rename_i et
    rw [et]
    rw [Bool.and_eq_true] at g
    have ew := Nat.eq_of_beq_eq_true g.1
    unfold dW at hw
    rw [ew] at hw
    rw [← Nat.eq_of_beq_eq_true g.2]
    exact hw
  · rename_i et
    rw [et]
    rw [Bool.and_eq_true, Bool.or_eq_true] at g
    obtain ⟨g1, g2⟩ := g
    unfold dW at hw
    rcases g1 with g1 | g1
    · rw [Nat.eq_of_beq_eq_true g1] at hw
      obtain ⟨q, rfl, hq⟩ := hw
      exact Or.inr ⟨q, rfl, code_s g2 hq⟩
    · rw [Nat.eq_of_beq_eq_true g1] at hw
      rcases hw with rfl | ⟨q, rfl, hq⟩
      · exact Or.inl rfl
      · exact Or.inr ⟨q, rfl, code_s g2 hq⟩
  · cases g
theorem cvl_S {σ : List Nat} {h : aH} {ρ : List Int} {rh : List Nat} {K : cK} (k : dK σ h ρ rh K) {mu : List (Nat × Int)} {nu : List Nat} (hm : dMu ρ mu) : ∀ {ts ws : List cW} {vs : List Value}, cvl (cvw K mu nu) ts ws = true → dS ρ rh ws vs → dS (dRT ρ mu) (dHT rh nu) ts vs
  | [], [], [], _, _ => trivial
  | t :: r, w :: s, v :: u, g, hS => by
    have g : (cvw K mu nu t w && cvl (cvw K mu nu) r s) = true := g
    rw [Bool.and_eq_true] at g
    exact ⟨cvw_s k hm g.1 hS.1, cvl_S k hm g.2 hS.2⟩
  | [], [], _ :: _, _, hS => hS.elim
  | _ :: _, _ :: _, [], _, hS => hS.elim
  | [], _ :: _, _, g, _ => by cases g
  | _ :: _, [], _, g, _ => by cases g
theorem cvl_len {f : cW → cW → Bool} : ∀ {ts ws : List cW}, cvl f ts ws = true → ts.length = ws.length
  | [], [], _ => rfl
  | t :: r, w :: s, g => by
    have g : (f t w && cvl f r s) = true := g
    rw [Bool.and_eq_true] at g
    simp [cvl_len g.2]
  | [], _ :: _, g => by cases g
  | _ :: _, [], g => by cases g
theorem cvl_at {f : cW → cW → Bool} : ∀ {ts ws : List cW} {i : Nat} {t : cW}, cvl f ts ws = true → ts[i]? = some t → ∃ w, ws[i]? = some w ∧ f t w = true
  | [], _, _, _, _, e => by simp at e
  | t :: r, w :: s, i, t', g, e => by
    have g : (f t w && cvl f r s) = true := g
    rw [Bool.and_eq_true] at g
    cases i with
    | zero => simp at e; subst e; exact ⟨w, rfl, g.1⟩
    | succ i =>
      rw [List.getElem?_cons_succ] at e
      obtain ⟨w', a, b⟩ := cvl_at g.2 e
      exact ⟨w', by rw [List.getElem?_cons_succ]; exact a, b⟩
  | _ :: _, [], _, _, g, _ => by cases g
theorem cver_s {σ : List Nat} {h : aH} {ρ : List Int} {rh : List Nat} {K : cK} (H : dH σ h) (k : dK σ h ρ rh K) {T : cT} {L St : List cW} {mu : List (Nat × Int)} {nu : List Nat} (g : cver T L St K mu nu = true) {l : aL} {sv : List Value} (hL : dL ρ rh L l) (hS : dS ρ rh St sv) :
    dK σ h (dRT ρ mu) (dHT rh nu) T.2.2 ∧ dL (dRT ρ mu) (dHT rh nu) T.1 l ∧ dS (dRT ρ mu) (dHT rh nu) T.2.1 sv ∧ dMu ρ mu := by
  unfold cver at g
  simp only [Bool.and_eq_true] at g
  obtain ⟨⟨⟨⟨⟨⟨⟨⟨⟨gL, gS⟩, gF⟩, gM, gM0⟩, gV⟩, gD⟩, gN⟩, gR, gR2⟩, gE⟩, gA⟩ := g
  have hlen := Nat.eq_of_beq_eq_true gM
  have hm : dMu ρ mu := by
    intro j m e
    have hj : j < mu.length := (List.getElem?_eq_some_iff.mp e).1
    have hv : T.2.2.1[j]? = some (T.2.2.1[j]'(by omega)) := List.getElem?_eq_getElem (by omega)
    have hz : (List.zip mu T.2.2.1)[j]? = some (m, T.2.2.1[j]'(by omega)) := by rw [List.getElem?_zip_eq_some]; exact ⟨e, hv⟩
    have := List.all_eq_true.mp gV _ (List.mem_of_getElem? hz)
    simp only [Bool.and_eq_true, Nat.blt_eq] at this
    have hl : m.1 < ρ.length := by rw [k.1.1]; exact this.1.1
    exact ⟨_, List.getElem?_eq_getElem hl⟩
  have hmd : ∀ (j : Nat) (y : Int), (dRT ρ mu)[j]? = some y → ∃ m z, mu[j]? = some m ∧ ρ[m.1]? = some z ∧ y = z + m.2 := by
    intro j y e
    have hj : j < mu.length := by
      have := (List.getElem?_eq_some_iff.mp e).1
      unfold dRT at this
      rw [List.length_map] at this
      exact this
    have em : mu[j]? = some mu[j] := List.getElem?_eq_getElem hj
    obtain ⟨z, hz⟩ := hm j _ em
    refine ⟨_, z, em, hz, ?_⟩
    rw [dRT_get em hz] at e
    cases e; rfl
  have hnl : nu.length = T.2.2.2.2.2.1.length := Nat.eq_of_beq_eq_true gR
  refine ⟨⟨⟨by unfold dRT; rw [List.length_map]; exact hlen, ?_, fun p y q e1 e2 => ?_⟩, fun t ht => ?_, fun t ht => ?_, ⟨by unfold dHT; rw [List.length_map]; exact hnl, fun i r e => ?_⟩, fun t ht => ?_, fun t ht => ?_, fun t ht => ?_⟩, ⟨?_, fun i t e => ?_⟩, cvl_S k hm gS hS, hm⟩
  · split at gM0
    · rename_i m r
      rw [Bool.and_eq_true, ceI_i] at gM0
      have h0 := Nat.eq_of_beq_eq_true gM0.1
      have : (m :: r)[0]? = some m := rfl
      rw [dRT_get this (by rw [h0]; exact k.1.2.1), gM0.2]
      rfl
    · cases gM0
  · obtain ⟨m, z, em, hz, rfl⟩ := hmd p y e1
    have hzp : (List.zip mu T.2.2.1)[p]? = some (m, q) := by rw [List.getElem?_zip_eq_some]; exact ⟨em, e2⟩
    have := List.all_eq_true.mp gV _ (List.mem_of_getElem? hzp)
    simp only [Bool.and_eq_true, cle_i] at this
    have u1 := cub_s k hz
    have l1 := clb_s k hz
    omega
  · have := List.all_eq_true.mp gD t ht
    split at this
    · rename_i m em
      split at this
      · rename_i n en
        obtain ⟨y, hy⟩ := hm _ _ em
        obtain ⟨z, hz⟩ := hm _ _ en
        have := cdf_s k hy hz this
        exact ⟨_, _, dRT_get em hy, dRT_get en hz, by omega⟩
      · cases this
    · cases this
  · have := List.all_eq_true.mp gN t ht
    split at this
    · rename_i m em
      obtain ⟨y, hy⟩ := hm _ _ em
      have := cnz_s k hy this
      exact ⟨_, dRT_get em hy, by omega⟩
    · cases this
  · have hi : i < nu.length := by rw [hnl]; exact (List.getElem?_eq_some_iff.mp e).1
    have en : nu[i]? = some nu[i] := List.getElem?_eq_getElem hi
    have hz : (List.zip nu T.2.2.2.2.2.1)[i]? = some (nu[i], r) := by rw [List.getElem?_zip_eq_some]; exact ⟨en, e⟩
    have := List.all_eq_true.mp gR2 _ (List.mem_of_getElem? hz)
    split at this
    · rename_i r' er
      have hr := Nat.eq_of_beq_eq_true this
      dsimp only at er hr
      subst hr
      obtain ⟨q, hq⟩ := creg_ex k er
      exact ⟨q, dHT_get en hq, creg_s H k er hq⟩
    · cases this
  · have := List.all_eq_true.mp gF t ht
    rw [Bool.and_eq_true, Bool.or_eq_true, Nat.blt_eq, Nat.blt_eq] at this
    obtain ⟨hc, this⟩ := this
    split at this
    · rename_i f ef
      have hmf := List.mem_of_find?_eq_some ef
      have hp := List.find?_some ef
      simp only [Bool.and_eq_true] at hp
      obtain ⟨q, ci, fs, v, a, b, c, d⟩ := k.2.2.2.2.1 f hmf
      refine ⟨q, ci, fs, v, ?_, b, by rw [← Nat.eq_of_beq_eq_true hp.2]; exact c, cvw_s k hm this d⟩
      have h1 := Nat.eq_of_beq_eq_true hp.1
      unfold cnc at h1
      cases hb : Nat.blt t.1 1000 with
      | true =>
        rw [hb] at h1
        simp only [cond_true] at h1
        rw [h1] at a
        have hb := Nat.blt_eq.mp hb
        rcases a with a | ⟨a, _⟩
        · exact Or.inl a
        · omega
      | false =>
        rw [hb] at h1
        simp only [cond_false] at h1
        have hb : ¬ t.1 < 1000 := fun q => by rw [← Nat.blt_eq, hb] at q; cases q
        have hl : t.1 - 1000 < nu.length := by omega
        have en : nu[t.1 - 1000]? = some nu[t.1 - 1000] := List.getElem?_eq_getElem hl
        rw [en] at h1
        dsimp only at h1
        rw [h1] at a
        exact Or.inr ⟨by omega, dHT_get en a⟩
    · cases this
  · split at gE
    · rename_i e; rw [e] at ht; cases ht
    · cases gE
  · split at gA
    · rename_i e; rw [e] at ht; cases ht
    · cases gA
  · rw [hL.1]; exact (cvl_len gL).symm
  · obtain ⟨w, ew, hw⟩ := cvl_at gL e
    rw [Bool.or_eq_true] at hw
    rcases hw with hw | hw
    · exact Or.inl (Nat.eq_of_beq_eq_true hw)
    · rcases hL.2 i w ew with q | ⟨v, q1, q2⟩
      · exfalso
        unfold cvw at hw
        split at hw <;> first | (rw [q] at hw; simp at hw; done) | cases hw
      · exact Or.inr ⟨v, q1, cvw_s k hm hw q2⟩
theorem dK_ld0 {σ : List Nat} {h : aH} {ρ : List Int} {rh : List Nat} {K : cK} (k : dK σ h ρ rh K) {c b q ci : Nat} {fs : List Value} {x : Int32} {lo hi : Int} (hq : dR rh c q) (h1 : h.1[q]? = some (.inr (ci, fs))) (h2 : fs[b]? = some (.int x)) (h3 : lo ≤ x.toInt) (h4 : x.toInt ≤ hi) :
    dK σ h (ρ ++ [x.toInt]) rh (K.1 ++ [(lo, hi)], K.2.1, K.2.2.1, K.2.2.2.1, (c, b, 1, K.1.length, 0) :: K.2.2.2.2.1, K.2.2.2.2.2) := by
  have k' := dK_new (z := x.toInt) k h3 h4
  refine ⟨k'.1, k'.2.1, k'.2.2.1, k'.2.2.2.1, fun u hu => ?_, k'.2.2.2.2.2⟩
  rcases List.mem_cons.mp hu with rfl | hu
  · exact ⟨q, _, _, _, hq, h1, h2, ⟨x, x.toInt, rfl, kV_last k.1 _, by show x.toInt = x.toInt + 0; omega⟩⟩
  · exact k'.2.2.2.2.1 u hu
theorem cff_s {α : Type} {σ : List Nat} {h : aH} {rh : List Nat} (H : dH σ h) {f : cK → List (Option (Nat × Int)) × List (Option Nat) → Option α} {x : α} : ∀ (F : List (Nat × Nat × cW)) (K : cK) (a : List (Option (Nat × Int)) × List (Option Nat)) (ρ : List Int), cff f F K a = some x → dK σ h ρ rh K →
    ∃ K' a' ρ', f K' a' = some x ∧ dK σ h ρ' rh K' ∧ dX ρ ρ'
  | [], K, a, ρ, e, k => ⟨K, a, ρ, e, k, dX_refl _⟩
  | t :: r, K, a, ρ, e, k => by
    unfold cff at e
    split at e
    · exact cff_s H r _ _ ρ e k
    · split at e
      · rename_i g eg
        split at e
        · rename_i ty et
          cases h0 : Nat.beq ty.1 0 with
          | false => rw [h0] at e; cases e
          | true =>
            rw [h0] at e
            simp only [cond_true] at e
            split at e
            · rename_i fty ef
              cases h1 : Nat.beq fty.1 0 with
              | false => rw [h1] at e; cases e
              | true =>
                rw [h1] at e
                simp only [cond_true] at e
                obtain ⟨q, hq⟩ := creg_ex k eg
                have hs := creg_s H k eg hq
                obtain ⟨c0, d1, d2⟩ := dH_cell H hs et
                obtain ⟨fs, rfl, f2, f3⟩ := dC_0 d2 (Nat.eq_of_beq_eq_true h0)
                obtain ⟨v, v1, v2⟩ := f3 _ _ ef
                unfold dT at v2
                rw [Nat.eq_of_beq_eq_true h1] at v2
                obtain ⟨y, rfl, y1, y2⟩ := v2
                obtain ⟨K', a', ρ', r1, r2, r3⟩ := cff_s H r _ _ _ e (dK_ld0 k hq d1 v1 y1 y2)
                exact ⟨K', a', ρ', r1, r2, dX_trans (dX_app _ _) r3⟩
            · cases e
        · cases e
      · cases e
theorem cent_s {α : Type} {σ : List Nat} {h : aH} {ρ : List Int} {rh : List Nat} {K : cK} (H : dH σ h) (k : dK σ h ρ rh K) {T : cT} {L St : List cW} {f : cK → List (Nat × Int) → List Nat → Option α} {x : α} (e : cent T L St K f = some x) :
    ∃ K' mu nu ρ', f K' mu nu = some x ∧ dK σ h ρ' rh K' ∧ dX ρ ρ' ∧ cver T L St K' mu nu = true := by
  unfold cent at e
  obtain ⟨K', a', ρ', e1, e2, e3⟩ := cff_s H _ _ _ _ e k
  cases hc : cver T L St K' (cfm K'.1 a'.1) (cfn a'.2) with
  | false => rw [hc] at e1; cases e1
  | true =>
    rw [hc] at e1
    exact ⟨K', _, _, ρ', e1, e2, e3, hc⟩
end
section
-- ===== calls, cuts, runs =====
theorem csv_s {ρ ρP : List Int} {V V' : cV} (h : kV ρ V) (hP : kV ρP V') {p : Nat} {y : Int} (e : ρP[p]? = some y) : (ρ ++ ρP.tail)[csv V.length p]? = some y := by
  unfold csv
  cases hp : Nat.beq p 0 with
  | true =>
    have := Nat.eq_of_beq_eq_true hp
    subst this
    rw [hP.2.1] at e
    cases e
    exact dX_app _ _ _ _ h.2.1
  | false =>
    have hp0 : p ≠ 0 := fun c => by rw [c] at hp; cases hp
    simp only [cond_false]
    rw [List.getElem?_append_right (by rw [h.1]; omega), h.1, show V.length + p - 1 - V.length = p - 1 by omega, List.getElem?_tail, show p - 1 + 1 = p by omega]
    exact e
theorem csc_s {rh rhP : List Nat} {n c q : Nat} (hn : rh.length = n) (h : dR rhP c q) : dR (rh ++ rhP) (csc n c) q := by
  unfold csc
  rcases h with ⟨h1, h2⟩ | ⟨h1, h2⟩
  · rw [show Nat.blt c 1000 = true by rw [Nat.blt_eq]; omega]
    exact Or.inl ⟨h1, h2⟩
  · rw [show Nat.blt c 1000 = false by rw [← Bool.not_eq_true, Nat.blt_eq]; omega]
    refine Or.inr ⟨by simp only [cond_false]; omega, ?_⟩
    simp only [cond_false]
    rw [List.getElem?_append_right (by omega), hn, show c + n - 1000 - n = c - 1000 by omega]
    exact h2
theorem csw_s {ρ ρP : List Int} {V V' : cV} {rh rhP : List Nat} {n : Nat} (h : kV ρ V) (hP : kV ρP V') (hn : rh.length = n) {w : cW} {v : Value} (hw : dW ρP rhP w v) : dW (ρ ++ ρP.tail) (rh ++ rhP) (csw V.length n w) v := by
  unfold dW at hw
  unfold csw
  split at hw
  · rename_i e; rw [e]; obtain ⟨x, y, rfl, a, b⟩ := hw; exact ⟨x, y, rfl, csv_s h hP a, b⟩
  · rename_i e; rw [e]; obtain ⟨x, y, rfl, a, b⟩ := hw; exact ⟨x, y, rfl, csv_s h hP a, b⟩
  · rename_i e; rw [e]; obtain ⟨q, rfl, a⟩ := hw; exact ⟨q, rfl, csc_s hn a⟩
  · rename_i e; rw [e]; show dW (ρ ++ ρP.tail) (rh ++ rhP) w v; unfold dW; rw [e]; exact hw
  · rename_i e; rw [e]; show dW (ρ ++ ρP.tail) (rh ++ rhP) w v; unfold dW; rw [e]; exact hw
  · rename_i e; rw [e]
    rcases hw with rfl | ⟨q, rfl, a⟩
    · exact Or.inl rfl
    · exact Or.inr ⟨q, rfl, csc_s hn a⟩
  · rename_i e; rw [e]; show dW (ρ ++ ρP.tail) (rh ++ rhP) w v; unfold dW; rw [e]; exact hw
  · exact hw.elim
theorem csS_s {ρ ρP : List Int} {V V' : cV} {rh rhP : List Nat} {n : Nat} (h : kV ρ V) (hP : kV ρP V') (hn : rh.length = n) : ∀ {ws : List cW} {vs : List Value}, dS ρP rhP ws vs → dS (ρ ++ ρP.tail) (rh ++ rhP) (ws.map (csw V.length n)) vs
  | [], [], _ => trivial
  | _ :: _, _ :: _, g => ⟨csw_s h hP hn g.1, csS_s h hP hn g.2⟩
  | [], _ :: _, g => g.elim
  | _ :: _, [], g => g.elim
theorem caft_s {σ σ' : List Nat} {h h' : aH} {ρ ρP : List Int} {rh rhP : List Nat} {K P : cK} {W : List (Nat × Nat)} (H : dH σ h) (k : dK σ h ρ rh K) (G : dG W σ h σ' h') (kP : dK σ' h' ρP rhP P) : dK σ' h' (ρ ++ ρP.tail) (rh ++ rhP) (caft K P W) := by
  have hn := k.2.2.2.1.1
  have sv : ∀ {p : Nat} {y : Int}, ρP[p]? = some y → (ρ ++ ρP.tail)[csv K.1.length p]? = some y := fun e => csv_s k.1 kP.1 e
  have cki_d : ∀ {c f : Nat}, cki K W c f = true → ∃ r, creg K c = some r ∧ cWn W r f = false := by
    intro c f e
    unfold cki at e
    split at e
    · rename_i r er
      refine ⟨r, er, ?_⟩
      cases q : cWn W r f with
      | false => rfl
      | true => rw [q] at e; cases e
    · cases e
  refine ⟨⟨?_, dX_app _ _ _ _ k.1.2.1, fun p y q e1 e2 => ?_⟩, fun t ht => ?_, fun t ht => ?_, ⟨?_, fun i r e => ?_⟩, fun t ht => ?_, kE_mono (dX_app _ _) k.2.2.2.2.2.1, fun t ht => ?_⟩
  · show (ρ ++ ρP.tail).length = (K.1 ++ P.1.tail).length
    rw [List.length_append, List.length_append, List.length_tail, List.length_tail, k.1.1, kP.1.1]
  · have e2 : (K.1 ++ P.1.tail)[p]? = some q := e2
    rcases Nat.lt_or_ge p ρ.length with hp | hp
    · rw [List.getElem?_append_left hp] at e1
      rw [List.getElem?_append_left (by rw [← k.1.1]; exact hp)] at e2
      exact k.1.2.2 p y q e1 e2
    · rw [List.getElem?_append_right hp, List.getElem?_tail] at e1
      rw [List.getElem?_append_right (by rw [← k.1.1]; exact hp), List.getElem?_tail, ← k.1.1] at e2
      exact kP.1.2.2 _ y q e1 e2
  · rcases List.mem_append.mp ht with ht | ht
    · obtain ⟨u, hu, rfl⟩ := List.mem_map.mp ht
      obtain ⟨y, z, a, b, c⟩ := kP.2.1 u hu
      exact ⟨y, z, sv a, sv b, c⟩
    · exact kD_mono (dX_app _ _) k.2.1 t ht
  · rcases List.mem_append.mp ht with ht | ht
    · obtain ⟨u, hu, rfl⟩ := List.mem_map.mp ht
      obtain ⟨y, a, b⟩ := kP.2.2.1 u hu
      exact ⟨y, sv a, b⟩
    · exact kN_mono (dX_app _ _) k.2.2.1 t ht
  · show (rh ++ rhP).length = (K.2.2.2.1 ++ P.2.2.2.1).length
    rw [List.length_append, List.length_append, k.2.2.2.1.1, kP.2.2.2.1.1]
  · have e : (K.2.2.2.1 ++ P.2.2.2.1)[i]? = some r := e
    rcases Nat.lt_or_ge i rh.length with hp | hp
    · rw [List.getElem?_append_left (by rw [← hn]; exact hp)] at e
      obtain ⟨q, a, b⟩ := k.2.2.2.1.2 i r e
      exact ⟨q, dX_app _ _ _ _ a, G.1 _ _ b⟩
    · rw [List.getElem?_append_right (by rw [← hn]; exact hp), ← hn] at e
      obtain ⟨q, a, b⟩ := kP.2.2.2.1.2 _ r e
      exact ⟨q, by rw [List.getElem?_append_right hp]; exact a, b⟩
  · rcases List.mem_append.mp ht with ht | ht
    · obtain ⟨u, hu, rfl⟩ := List.mem_map.mp ht
      obtain ⟨q, ci, fs, v, a, b, c, d⟩ := kP.2.2.2.2.1 u hu
      exact ⟨q, ci, fs, v, csc_s hn a, b, c, csw_s k.1 kP.1 hn d⟩
    · obtain ⟨h1, h2⟩ := List.mem_filter.mp ht
      obtain ⟨r, er, hw⟩ := cki_d h2
      obtain ⟨q, ci, fs, v, a, b, c, d⟩ := k.2.2.2.2.1 t h1
      obtain ⟨c', g1, g2⟩ := G.2.1 q r _ (creg_s H k er a) b
      obtain ⟨fs', rfl, g3⟩ := g2.2 ci fs rfl
      exact ⟨q, ci, fs', v, dR_mono (dX_app _ _) a, g1, by rw [g3 _ hw]; exact c, dW_mono (dX_app _ _) (dX_app _ _) d⟩
  · obtain ⟨h1, h2⟩ := List.mem_filter.mp ht
    obtain ⟨r, er, hw⟩ := cki_d h2
    obtain ⟨q, ty, n, g, j, y, a, b, c, d, e, f⟩ := k.2.2.2.2.2.2 t h1
    obtain ⟨c', g1, g2⟩ := G.2.1 q r _ (creg_s H k er a) b
    have g3 := g2.1 _ rfl hw
    subst g3
    exact ⟨q, ty, n, g, j, y, dR_mono (dX_app _ _) a, g1, dX_app _ _ _ _ c, d, dX_app _ _ _ _ e, f⟩
-- what a contract says
def dPost (P : cT) (σ : List Nat) (h : aH) (v : Option Value) : Prop := ∃ (ρ : List Int) (rh : List Nat), dK σ h ρ rh P.2.2 ∧ dS ρ rh P.2.1 v.toList
def dEnd (X : aX) (C : cC) (M : aM) (pc : Nat) (l : aL) (sv : List Value) (σ : List Nat) (h : aH) : Prop :=
  ∃ (N : Nat) (v : Option Value) (h' : aH) (σ' : List Nat), (∀ n d, arun X (n + N) (d + C.2.1) M pc l sv h = some (v, h')) ∧ dI σ' h' ∧ dG C.2.2.1 σ h σ' h' ∧ ∃ P, P ∈ C.2.2.2.2.1 ∧ dPost P σ' h' v
def dGood (X : aX) (C : cC) : Prop := ∀ M, zmt[C.1]? = some M → ∀ l h σ ρ rh, dI σ h → dK σ h ρ rh C.2.2.2.1.2.2 → dL ρ rh C.2.2.2.1.1 l → dEnd X C M 0 l [] σ h
-- sums of terms
def evL (ρ : List Int) : List (Int × Nat) → Int
  | [] => 0
  | t :: r => t.1 * (ρ[t.2]?).getD 0 + evL ρ r
theorem evL_cons (ρ : List Int) (t : Int × Nat) (r : List (Int × Nat)) : evL ρ (t :: r) = t.1 * (ρ[t.2]?).getD 0 + evL ρ r := rfl
theorem evL_rv {ρ : List Int} : ∀ {l : List (Int × Nat)} {z : Int}, dRv ρ l z → evL ρ l = z
  | [], _, h => h.symm
  | t :: r, z, ⟨y, w, a, b, c⟩ => by
    rw [evL_cons, a, evL_rv b, c]
    rfl
theorem evL_of {ρ : List Int} : ∀ {l : List (Int × Nat)}, (∀ t, t ∈ l → ∃ y, ρ[t.2]? = some y) → dRv ρ l (evL ρ l)
  | [], _ => rfl
  | t :: r, h => by
    obtain ⟨y, hy⟩ := h t List.mem_cons_self
    exact ⟨y, evL ρ r, hy, evL_of (fun u hu => h u (List.mem_cons_of_mem _ hu)), by rw [evL_cons, hy]; rfl⟩
theorem cub_g {σ : List Nat} {h : aH} {ρ : List Int} {rh : List Nat} {K : cK} (k : dK σ h ρ rh K) (p : Nat) : (ρ[p]?).getD 0 ≤ cub K p := by
  cases e : ρ[p]? with
  | some y => exact cub_s k e
  | none =>
    simp only [Option.getD_none]
    unfold cub
    refine foldr_ub (fun t ht m hm => ?_) (foldr_ub (fun t ht m hm => ?_) ?_)
    · obtain ⟨a, b, ha, hb, hc⟩ := k.2.2.2.2.2.1 t ht
      cases q : Nat.beq t.1 p with
      | true => rw [Nat.eq_of_beq_eq_true q, e] at ha; cases ha
      | false =>
        simp only [cond_false]
        cases q2 : Nat.beq t.2.1 p with
        | true => rw [Nat.eq_of_beq_eq_true q2, e] at hb; cases hb
        | false => exact hm
    · obtain ⟨a, b, ha, hb, hc⟩ := k.2.1 t ht
      cases q : Nat.beq t.1 p with
      | true => rw [Nat.eq_of_beq_eq_true q, e] at ha; cases ha
      | false => exact hm
    · unfold cV0
      rw [List.getElem?_eq_none (by rw [← k.1.1]; exact List.getElem?_eq_none_iff.mp e)]
      decide
theorem clb_g {σ : List Nat} {h : aH} {ρ : List Int} {rh : List Nat} {K : cK} (k : dK σ h ρ rh K) (p : Nat) : clb K p ≤ (ρ[p]?).getD 0 := by
  cases e : ρ[p]? with
  | some y => exact clb_s k e
  | none =>
    simp only [Option.getD_none]
    unfold clb
    refine foldr_lb (fun t ht m hm => ?_) ?_
    · obtain ⟨a, b, ha, hb, hc⟩ := k.2.1 t ht
      cases q : Nat.beq t.2.1 p with
      | true => rw [Nat.eq_of_beq_eq_true q, e] at hb; cases hb
      | false => exact hm
    · unfold cV0
      rw [List.getElem?_eq_none (by rw [← k.1.1]; exact List.getElem?_eq_none_iff.mp e)]
      decide
theorem clin_s {σ : List Nat} {h : aH} {ρ : List Int} {rh : List Nat} {K : cK} (k : dK σ h ρ rh K) : ∀ l : List (Int × Nat), evL ρ l ≤ clin K l
  | [] => Int.le_refl _
  | t :: r => by
    have ih := clin_s k r
    have u := cub_g k t.2
    have l := clb_g k t.2
    rw [evL_cons]
    unfold clin
    refine Int.add_le_add ?_ ih
    cases q : cle 0 t.1 with
    | true => rw [cle_i] at q; exact Int.mul_le_mul_of_nonneg_left u q
    | false =>
      have : ¬ 0 ≤ t.1 := fun c => by rw [← cle_i, q] at c; cases c
      exact Int.mul_le_mul_of_nonpos_left (by omega) l
theorem cins_s {ρ : List Int} (a : Int) (p : Nat) : ∀ l : List (Int × Nat), evL ρ (cins a p l) = a * (ρ[p]?).getD 0 + evL ρ l
  | [] => rfl
  | t :: r => by
    unfold cins
    cases q : Nat.beq t.2 p with
    | true =>
      simp only [cond_true]
      rw [evL_cons, evL_cons, Nat.eq_of_beq_eq_true q]
      dsimp only
      rw [Int.add_mul]
      omega
    | false =>
      simp only [cond_false]
      rw [evL_cons, evL_cons, cins_s a p r]
      omega
theorem cmrg_s {ρ : List Int} : ∀ (l m : List (Int × Nat)), evL ρ (cmrg l m) = evL ρ l + evL ρ m
  | [], m => by
    show evL ρ m = 0 + evL ρ m
    omega
  | t :: r, m => by
    have : cmrg (t :: r) m = cins t.1 t.2 (cmrg r m) := rfl
    rw [this, cins_s, cmrg_s r m, evL_cons]
    omega
theorem cnz'_s {ρ : List Int} (h0 : ρ[0]? = some 0) : ∀ l : List (Int × Nat), evL ρ (cnz' l) = evL ρ l
  | [] => rfl
  | t :: r => by
    have ih := cnz'_s h0 r
    have e : cnz' (t :: r) = if (!(ceI t.1 0) && !(Nat.beq t.2 0)) = true then t :: cnz' r else cnz' r := by
      unfold cnz'
      rw [List.filter_cons]
    rw [e, evL_cons]
    cases q1 : ceI t.1 0 with
    | true =>
      rw [if_neg (by simp), ih, ceI_i.mp q1, Int.zero_mul]
      omega
    | false =>
      cases q2 : Nat.beq t.2 0 with
      | true =>
        rw [if_neg (by simp), ih, Nat.eq_of_beq_eq_true q2, h0]
        show _ = t.1 * 0 + _
        rw [Int.mul_zero]
        omega
      | false => rw [if_pos (by rfl), evL_cons, ih]
theorem cdfB_s {σ : List Nat} {h : aH} {ρ : List Int} {rh : List Nat} {K : cK} (k : dK σ h ρ rh K) (p q : Nat) : (ρ[p]?).getD 0 - (ρ[q]?).getD 0 ≤ cdfB K p q := by
  unfold cdfB
  have u := cub_g k p
  have l := clb_g k q
  refine foldr_ub (fun t ht m hm => ?_) (by omega)
  cases c : (Nat.beq t.1 p && Nat.beq t.2.1 q) with
  | false => exact hm
  | true =>
    rw [Bool.and_eq_true] at c
    obtain ⟨a, b, ha, hb, hc⟩ := k.2.1 t ht
    rw [Nat.eq_of_beq_eq_true c.1] at ha
    rw [Nat.eq_of_beq_eq_true c.2] at hb
    simp only [cond_true]
    rw [ha, hb] at hm ⊢
    simp only [Option.getD_some] at hm ⊢
    rcases cmn_or (a := m) (b := t.2.2) with w | w <;> rw [w] <;> omega
theorem club_s {σ : List Nat} {h : aH} {ρ : List Int} {rh : List Nat} {K : cK} (k : dK σ h ρ rh K) (l : List (Int × Nat)) : evL ρ l ≤ club K l := by
  unfold club
  split
  · rename_i a p b q
    cases c : ceI (a + b) 0 with
    | false => exact clin_s k _
    | true =>
      rw [ceI_i] at c
      have hb : b = -a := by omega
      subst hb
      simp only [cond_true]
      have e : evL ρ [(a, p), (-a, q)] = a * ((ρ[p]?).getD 0 - (ρ[q]?).getD 0) := by
        rw [evL_cons, evL_cons]
        show a * (ρ[p]?).getD 0 + (-a * (ρ[q]?).getD 0 + 0) = _
        rw [Int.mul_sub, Int.neg_mul]
        omega
      rw [e]
      cases w : cle 0 a with
      | true =>
        rw [cle_i] at w
        exact Int.mul_le_mul_of_nonneg_left (cdfB_s k p q) w
      | false =>
        have : ¬ 0 ≤ a := fun c => by rw [← cle_i, w] at c; cases c
        have e2 : a * ((ρ[p]?).getD 0 - (ρ[q]?).getD 0) = -a * ((ρ[q]?).getD 0 - (ρ[p]?).getD 0) := by
          rw [Int.neg_mul, ← Int.mul_neg]
          congr 1
          omega
        rw [e2]
        exact Int.mul_le_mul_of_nonneg_left (cdfB_s k q p) (by omega)
  · exact clin_s k _
theorem crk_s {σ : List Nat} {h : aH} {ρ : List Int} {rh : List Nat} {K : cK} (k : dK σ h ρ rh K) {mu : List (Nat × Int)} (hm : dMu ρ mu) {s t : cRk} (g : crk K mu s t = true) {zs : Int} (hs : dRv ρ s.2 (zs - s.1)) : ∃ w, dRv (dRT ρ mu) t.2 (w - t.1) ∧ w < zs := by
  unfold crk at g
  rw [Bool.and_eq_true, cle_i] at g
  obtain ⟨g1, g2⟩ := g
  have ex : ∀ u, u ∈ t.2 → ∃ m y, mu[u.2]? = some m ∧ ρ[m.1]? = some y := by
    intro u hu
    have := List.all_eq_true.mp g1 u hu
    rw [Nat.blt_eq] at this
    have em : mu[u.2]? = some (mu[u.2]'this) := List.getElem?_eq_getElem this
    obtain ⟨y, hy⟩ := hm _ _ em
    exact ⟨_, y, em, hy⟩
  have hv : dRv (dRT ρ mu) t.2 (evL (dRT ρ mu) t.2) := evL_of (fun u hu => by
    obtain ⟨m, y, a, b⟩ := ex u hu
    exact ⟨_, dRT_get a b⟩)
  refine ⟨t.1 + evL (dRT ρ mu) t.2, by rw [show t.1 + evL (dRT ρ mu) t.2 - t.1 = evL (dRT ρ mu) t.2 by omega]; exact hv, ?_⟩
  have hzs := evL_rv hs
  have key : ∀ (l : List (Int × Nat)) (c : Int), (∀ u, u ∈ l → ∃ m y, mu[u.2]? = some m ∧ ρ[m.1]? = some y) →
      evL (dRT ρ mu) l + c = evL ρ ((l.map (fun z => (z.1, cmu mu z.2))).map (fun z => (z.1, z.2.1))) + (l.map (fun z => (z.1, cmu mu z.2))).foldr (fun z m => z.1 * z.2.2 + m) c := by
    intro l c
    induction l with
    | nil => intro _; show (0 : Int) + c = 0 + c; rfl
    | cons u r ih =>
      intro hu
      have ih := ih (fun v hv => hu v (List.mem_cons_of_mem _ hv))
      obtain ⟨m, y, a, b⟩ := hu u List.mem_cons_self
      have cm : cmu mu u.2 = m := by unfold cmu; rw [a]
      simp only [List.map_cons, List.foldr_cons, evL_cons, cm, b, dRT_get a b, Option.getD_some]
      rw [Int.mul_add]
      omega
  have k1 := key t.2 (t.1 - s.1) ex
  have k2 := club_s k (cnz' (cmrg ((t.2.map (fun z => (z.1, cmu mu z.2))).map (fun z => (z.1, z.2.1))) (cmrg (s.2.map (fun z => (-z.1, z.2))) [])))
  rw [cnz'_s k.1.2.1, cmrg_s, cmrg_s] at k2
  have k3 : ∀ l : List (Int × Nat), evL ρ (l.map (fun z => (-z.1, z.2))) = -evL ρ l := by
    intro l
    induction l with
    | nil => rfl
    | cons u r ih =>
      simp only [List.map_cons, evL_cons, ih, Int.neg_mul]
      omega
  rw [k3] at k2
  have k4 : evL ρ ([] : List (Int × Nat)) = 0 := rfl
  omega
end

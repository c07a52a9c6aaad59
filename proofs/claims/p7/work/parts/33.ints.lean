-- ===== ints as numbers =====
theorem bm32 {z : Int} (h1 : -2147483648 ≤ z) (h2 : z ≤ 2147483647) : z.bmod (2 ^ 32) = z := Int.bmod_eq_of_le (by omega) (by omega)
theorem bm64 {z : Int} (h1 : -9223372036854775808 ≤ z) (h2 : z ≤ 9223372036854775807) : z.bmod (2 ^ 64) = z := Int.bmod_eq_of_le (by omega) (by omega)
theorem iR (x : Int32) : -2147483648 ≤ x.toInt ∧ x.toInt ≤ 2147483647 := by have := x.le_toInt; have := x.toInt_lt; omega
theorem jR (x : Int64) : -9223372036854775808 ≤ x.toInt ∧ x.toInt ≤ 9223372036854775807 := by have := x.le_toInt; have := x.toInt_lt; omega
theorem mul_lo {a b x y m : Int} (h1 : a ≤ x) (h2 : x ≤ b) (g1 : m ≤ a * y) (g2 : m ≤ b * y) : m ≤ x * y := by
  rcases Int.le_total 0 y with q | q
  · exact Int.le_trans g1 (Int.mul_le_mul_of_nonneg_right h1 q)
  · exact Int.le_trans g2 (Int.mul_le_mul_of_nonpos_right h2 q)
theorem mul_hi {a b x y m : Int} (h1 : a ≤ x) (h2 : x ≤ b) (g1 : a * y ≤ m) (g2 : b * y ≤ m) : x * y ≤ m := by
  rcases Int.le_total 0 y with q | q
  · exact Int.le_trans (Int.mul_le_mul_of_nonneg_right h2 q) g2
  · exact Int.le_trans (Int.mul_le_mul_of_nonpos_right h1 q) g1
theorem cmulr_s {a b c d x y : Int} (h1 : a ≤ x) (h2 : x ≤ b) (h3 : c ≤ y) (h4 : y ≤ d) : (cmulr a b c d).1 ≤ x * y ∧ x * y ≤ (cmulr a b c d).2 := by
  unfold cmulr
  dsimp only
  have n1 := cmn_le (a := a * c) (b := a * d)
  have n2 := cmn_le (a := b * c) (b := b * d)
  have n3 := cmn_le (a := cmn (a * c) (a * d)) (b := cmn (b * c) (b * d))
  have x1 := cmx_le (a := a * c) (b := a * d)
  have x2 := cmx_le (a := b * c) (b := b * d)
  have x3 := cmx_le (a := cmx (a * c) (a * d)) (b := cmx (b * c) (b * d))
  constructor
  · refine mul_lo h1 h2 ?_ ?_
    · rw [Int.mul_comm a y]; refine mul_lo h3 h4 ?_ ?_
      · rw [Int.mul_comm c a]; omega
      · rw [Int.mul_comm d a]; omega
    · rw [Int.mul_comm b y]; refine mul_lo h3 h4 ?_ ?_
      · rw [Int.mul_comm c b]; omega
      · rw [Int.mul_comm d b]; omega
  · refine mul_hi h1 h2 ?_ ?_
    · rw [Int.mul_comm]; refine mul_hi h3 h4 ?_ ?_
      · rw [Int.mul_comm]; omega
      · rw [Int.mul_comm]; omega
    · rw [Int.mul_comm]; refine mul_hi h3 h4 ?_ ?_
      · rw [Int.mul_comm]; omega
      · rw [Int.mul_comm]; omega
theorem cfit_s {M l u v w : Int} (h1 : -M ≤ v) (h2 : v ≤ M - 1) (h3 : l ≤ w) (h4 : w ≤ u) (h5 : -M ≤ w → w ≤ M - 1 → v = w) : (cfit M l u).1 ≤ v ∧ v ≤ (cfit M l u).2 := by
  unfold cfit
  cases e : cin M l u with
  | true =>
    have := cin_s e
    have := h5 (by omega) (by omega)
    simp only [cond_true]
    omega
  | false => exact ⟨h1, h2⟩
theorem tdiv_b {x y : Int} (hy : 1 ≤ y) : (0 ≤ x → 0 ≤ x.tdiv y ∧ x.tdiv y ≤ x) ∧ (x ≤ 0 → x ≤ x.tdiv y ∧ x.tdiv y ≤ 0) := by
  constructor
  · intro hx
    rw [Int.tdiv_eq_ediv_of_nonneg hx]
    exact ⟨Int.ediv_nonneg hx (by omega), Int.ediv_le_self _ hx⟩
  · intro hx
    obtain ⟨z, rfl⟩ : ∃ z, x = -z := ⟨-x, by omega⟩
    rw [Int.neg_tdiv, Int.tdiv_eq_ediv_of_nonneg (by omega)]
    have := Int.ediv_nonneg (a := z) (b := y) (by omega) (by omega)
    have := Int.ediv_le_self y (a := z) (by omega)
    omega
theorem ediv_mono2 {x b y c : Int} (h0 : 0 ≤ x) (h1 : x ≤ b) (hc : 1 ≤ c) (h2 : c ≤ y) : x / y ≤ b / c := by
  refine Int.le_trans ?_ (Int.ediv_le_ediv (by omega) h1)
  rw [Int.le_ediv_iff_mul_le (by omega)]
  have h3 := Int.ediv_mul_le x (b := y) (by omega)
  have h4 := Int.ediv_nonneg (a := x) (b := y) h0 (by omega)
  exact Int.le_trans (Int.mul_le_mul_of_nonneg_left h2 h4) h3
theorem cdivr_s {M a b c d x y v : Int} (hM : 0 < M) (h1 : a ≤ x) (h2 : x ≤ b) (h3 : c ≤ y) (hx1 : -M ≤ x) (hx2 : x ≤ M - 1) (hv1 : -M ≤ v) (hv2 : v ≤ M - 1) (hv : -M ≤ x.tdiv y → x.tdiv y ≤ M - 1 → v = x.tdiv y) : (cdivr M a b c d).1 ≤ v ∧ v ≤ (cdivr M a b c d).2 := by
  unfold cdivr
  cases e : cle 1 c with
  | false => exact ⟨hv1, hv2⟩
  | true =>
    rw [cle_i] at e
    simp only [cond_true]
    have tb := tdiv_b (x := x) (y := y) (by omega)
    rcases Int.le_total 0 x with q | q
    · have t1 := tb.1 q
      have hv := hv (by omega) (by omega)
      have t2 : x.tdiv y ≤ b / c := by rw [Int.tdiv_eq_ediv_of_nonneg q]; exact ediv_mono2 q h2 e h3
      constructor
      · cases e2 : cle 0 a with
        | true => simp only [cond_true]; omega
        | false =>
          simp only [cond_false]
          have : ¬ 0 ≤ a := fun c => by rw [← cle_i, e2] at c; cases c
          have := Int.ediv_nonneg (a := -a) (b := c) (by omega) (by omega)
          omega
      · rw [show cle 0 b = true by rw [cle_i]; omega]
        simp only [cond_true]
        omega
    · have t1 := tb.2 q
      have hv := hv (by omega) (by omega)
      constructor
      · cases e2 : cle 0 a with
        | true =>
          rw [cle_i] at e2
          simp only [cond_true]
          have : x = 0 := by omega
          subst this
          simp only [Int.zero_tdiv] at hv
          omega
        | false =>
          simp only [cond_false]
          have : ¬ 0 ≤ a := fun c => by rw [← cle_i, e2] at c; cases c
          obtain ⟨z, rfl⟩ : ∃ z, x = -z := ⟨-x, by omega⟩
          rw [Int.neg_tdiv, Int.tdiv_eq_ediv_of_nonneg (by omega)] at hv
          have := ediv_mono2 (x := z) (b := -a) (y := y) (c := c) (by omega) (by omega) e h3
          omega
      · cases e2 : cle 0 b with
        | true =>
          rw [cle_i] at e2
          simp only [cond_true]
          have := Int.ediv_nonneg (a := b) (b := c) (by omega) (by omega)
          omega
        | false => simp only [cond_false]; omega
theorem cremr_s {M a b c d x y v : Int} (h1 : a ≤ x) (h2 : x ≤ b) (h3 : c ≤ y) (h4 : y ≤ d) (hv1 : -M ≤ v) (hv2 : v ≤ M - 1) (hv : v = x.tmod y) : (cremr M a b c d).1 ≤ v ∧ v ≤ (cremr M a b c d).2 := by
  unfold cremr
  cases e : cle 1 c with
  | false => exact ⟨hv1, hv2⟩
  | true =>
    rw [cle_i] at e
    simp only [cond_true]
    have key : ∀ z : Int, 0 ≤ z → 0 ≤ z.tmod y ∧ z.tmod y < y ∧ z.tmod y ≤ z := by
      intro z hz
      rw [Int.tmod_eq_emod_of_nonneg hz]
      refine ⟨Int.emod_nonneg _ (by omega), Int.emod_lt_of_pos _ (by omega), ?_⟩
      have h5 := Int.ediv_nonneg (a := z) (b := y) hz (by omega)
      have h6 := Int.mul_nonneg (show 0 ≤ y by omega) h5
      have h7 := Int.mul_ediv_add_emod z y
      omega
    rcases Int.le_total 0 x with q | q
    · have := key x q
      constructor
      · cases e2 : cle 0 a with
        | true => simp only [cond_true]; omega
        | false => simp only [cond_false]; omega
      · cases e2 : cle 0 a with
        | true => simp only [cond_true]; rcases cmn_or (a := b) (b := d - 1) with w | w <;> rw [w] <;> omega
        | false => simp only [cond_false]; omega
    · obtain ⟨z, rfl⟩ : ∃ z, x = -z := ⟨-x, by omega⟩
      rw [Int.neg_tmod] at hv
      have := key z (by omega)
      constructor
      · cases e2 : cle 0 a with
        | true =>
          rw [cle_i] at e2
          simp only [cond_true]
          have : z = 0 := by omega
          subst this
          omega
        | false => simp only [cond_false]; omega
      · cases e2 : cle 0 a with
        | true =>
          rw [cle_i] at e2
          simp only [cond_true]
          have : z = 0 := by omega
          subst this
          rcases cmn_or (a := b) (b := d - 1) with w | w <;> rw [w] <;> omega
        | false => simp only [cond_false]; omega
theorem i_div {x y : Int32} : (-2147483648 ≤ x.toInt.tdiv y.toInt → x.toInt.tdiv y.toInt ≤ 2147483647 → (x / y).toInt = x.toInt.tdiv y.toInt) := fun h1 h2 => by
  rw [Int32.toInt_div, bm32 h1 h2]
theorem j_div {x y : Int64} : (-9223372036854775808 ≤ x.toInt.tdiv y.toInt → x.toInt.tdiv y.toInt ≤ 9223372036854775807 → (x / y).toInt = x.toInt.tdiv y.toInt) := fun h1 h2 => by
  rw [Int64.toInt_div, bm64 h1 h2]
theorem i_rem {x y : Int32} (hy : y.toInt ≠ 0) : (x - x / y * y).toInt = x.toInt.tmod y.toInt := by
  have hd : x.toInt - x.toInt.tdiv y.toInt * y.toInt = x.toInt.tmod y.toInt := by
    have := Int.mul_tdiv_add_tmod x.toInt y.toInt
    rw [Int.mul_comm] at this
    omega
  have hr : -2147483648 ≤ x.toInt.tmod y.toInt ∧ x.toInt.tmod y.toInt ≤ 2147483647 := by
    rw [← Int32.toInt_mod]; exact iR _
  rw [Int32.toInt_sub, Int32.toInt_mul, Int32.toInt_div, Int.bmod_mul_bmod, Int.sub_bmod_bmod, hd, bm32 hr.1 hr.2]
theorem j_rem {x y : Int64} (hy : y.toInt ≠ 0) : (x - x / y * y).toInt = x.toInt.tmod y.toInt := by
  have hd : x.toInt - x.toInt.tdiv y.toInt * y.toInt = x.toInt.tmod y.toInt := by
    have := Int.mul_tdiv_add_tmod x.toInt y.toInt
    rw [Int.mul_comm] at this
    omega
  have hr : -9223372036854775808 ≤ x.toInt.tmod y.toInt ∧ x.toInt.tmod y.toInt ≤ 9223372036854775807 := by
    rw [← Int64.toInt_mod]; exact jR _
  rw [Int64.toInt_sub, Int64.toInt_mul, Int64.toInt_div, Int.bmod_mul_bmod, Int.sub_bmod_bmod, hd, bm64 hr.1 hr.2]
theorem i_nn {x : Int32} (h : 0 ≤ x.toInt) : x.toInt = (x.toBitVec.toNat : Int) ∧ x.toBitVec.toNat < 2147483648 := by
  have e : x.toBitVec.toInt = x.toInt := rfl
  rw [BitVec.toInt_eq_toNat_cond] at e
  have := x.toBitVec.isLt
  split at e <;> omega
theorem i_nat {x : Int32} (h : x.toBitVec.toNat < 2147483648) : x.toInt = (x.toBitVec.toNat : Int) := by
  have e : x.toBitVec.toInt = x.toInt := rfl
  rw [BitVec.toInt_eq_toNat_cond] at e
  split at e <;> omega
theorem i_and {x y : Int32} (h : 0 ≤ y.toInt) : 0 ≤ (x &&& y).toInt ∧ (x &&& y).toInt ≤ y.toInt := by
  obtain ⟨h1, h2⟩ := i_nn h
  have e : (x &&& y).toBitVec.toNat = x.toBitVec.toNat &&& y.toBitVec.toNat := by
    rw [Int32.toBitVec_and, BitVec.toNat_and]
  have l : (x &&& y).toBitVec.toNat ≤ y.toBitVec.toNat := by rw [e]; exact Nat.and_le_right
  rw [i_nat (x := x &&& y) (by omega), h1]
  omega
theorem i_and' {x y : Int32} (h : 0 ≤ x.toInt) : 0 ≤ (x &&& y).toInt ∧ (x &&& y).toInt ≤ x.toInt := by
  rw [Int32.and_comm]
  exact i_and h
theorem candr_s {a b c d : Int} {x y : Int32} (h1 : a ≤ x.toInt) (h2 : x.toInt ≤ b) (h3 : c ≤ y.toInt) (h4 : y.toInt ≤ d) : (candr a b c d).1 ≤ (x &&& y).toInt ∧ (x &&& y).toInt ≤ (candr a b c d).2 := by
  unfold candr
  have hR := iR (x &&& y)
  cases e1 : cle 0 a with
  | true =>
    rw [cle_i] at e1
    have q1 := i_and' (x := x) (y := y) (by omega)
    cases e2 : cle 0 c with
    | true =>
      rw [cle_i] at e2
      have q2 := i_and (x := x) (y := y) (by omega)
      simp only [Bool.and_self, cond_true]
      rcases cmn_or (a := b) (b := d) with w | w <;> rw [w] <;> omega
    | false => simp only [Bool.and_false, cond_false, cond_true]; omega
  | false =>
    cases e2 : cle 0 c with
    | true =>
      rw [cle_i] at e2
      have q2 := i_and (x := x) (y := y) (by omega)
      simp only [Bool.and_true, cond_false, cond_true]; omega
    | false =>
      simp only [Bool.and_self, cond_false]
      unfold cM32
      omega
theorem i_ushr {x y : Int32} (h1 : 1 ≤ y.toInt) (h2 : y.toInt ≤ 31) : 0 ≤ (x.toUInt32 >>> (y.toUInt32 &&& Int32.toUInt32 31)).toInt32.toInt := by
  obtain ⟨h3, h4⟩ := i_nn (x := y) (by omega)
  have e : (x.toUInt32 >>> (y.toUInt32 &&& Int32.toUInt32 31)).toNat < 2147483648 := by
    rw [UInt32.toNat_shiftRight]
    have e1 : (y.toUInt32 &&& Int32.toUInt32 31).toNat % 32 = y.toBitVec.toNat := by
      rw [UInt32.toNat_and]
      have : y.toUInt32.toNat = y.toBitVec.toNat := rfl
      rw [this, show (Int32.toUInt32 31).toNat = 31 from rfl, show (31 : Nat) = 2 ^ 5 - 1 from rfl, Nat.and_two_pow_sub_one_eq_mod]
      omega
    rw [e1, Nat.shiftRight_eq_div_pow]
    have h5 := x.toUInt32.toNat_lt
    refine Nat.lt_of_le_of_lt (Nat.div_le_div_left (c := 2) (Nat.le_self_pow (n := y.toBitVec.toNat) (by omega) 2) (by decide)) ?_
    omega
  rw [i_nat (x := (x.toUInt32 >>> (y.toUInt32 &&& Int32.toUInt32 31)).toInt32) e]
  omega
theorem b_i {a b : Int32} : (a = b) ↔ a.toInt = b.toInt := Int32.toInt_inj.symm
theorem dBr_t {c : Jvm.ClassFile.Cond} {a b : Int} (h : dBr c a b = true) : (match c with
  | .eq => a = b
  | .ne => a ≠ b
  | .lt => a < b
  | .ge => b ≤ a
  | .gt => b < a
  | .le => a ≤ b) := by
  unfold dBr at h
  cases c <;> dsimp only at h ⊢
  · exact ceI_i.mp h
  · intro q; rw [← ceI_i] at q; rw [q] at h; cases h
  · have := cle_i.mp h; omega
  · exact cle_i.mp h
  · have := cle_i.mp h; omega
  · exact cle_i.mp h
theorem dBr_f {c : Jvm.ClassFile.Cond} {a b : Int} (h : dBr c a b = false) : (match c with
  | .eq => a ≠ b
  | .ne => a = b
  | .lt => b ≤ a
  | .ge => a < b
  | .gt => a ≤ b
  | .le => b < a) := by
  have nle : ∀ {a b : Int}, cle a b = false → b < a := fun {a b} q => by
    have : ¬ a ≤ b := fun c => by rw [← cle_i, q] at c; cases c
    omega
  unfold dBr at h
  cases c <;> dsimp only at h ⊢
  · intro q; rw [← ceI_i] at q; rw [q] at h; cases h
  · exact ceI_i.mp (by simpa using h)
  · have := nle h; omega
  · exact nle h
  · have := nle h; omega
  · exact nle h
/-- the machine's branch, by the numbers -/
theorem r_cmp {X : aX} {n d pc len a b : Nat} {M : aM} {L : aL} {r : List Value} {h : aH} {c : Jvm.ClassFile.Cond} {off : Int} {x y : Int32} (hf : aF pc M.2.2.2.2.2.2.2 = some (pc, (.if_icmp c off), len, a, b)) : arun X (n + 1) d M pc L (.int y :: .int x :: r) h = bif dBr c x.toInt y.toInt then arun X n d M a L r h else arun X n d M (pc + 3) L r h := by
  rw [arun_p hf rfl]
  cases e : dBr c x.toInt y.toInt with
  | true =>
    have := dBr_t e
    cases c <;> dsimp only at this <;> simp only [aX1, tII, cond_true]
    · rw [if_pos (b_i.mpr this)]
    · rw [if_neg (fun q => this (b_i.mp q))]
    · rw [if_pos (Int32.lt_iff_toInt_lt.mpr this)]
    · rw [if_pos (Int32.le_iff_toInt_le.mpr this)]
    · rw [if_pos (Int32.lt_iff_toInt_lt.mpr this)]
    · rw [if_pos (Int32.le_iff_toInt_le.mpr this)]
  | false =>
    have := dBr_f e
    cases c <;> dsimp only at this <;> simp only [aX1, tII, cond_false]
    · rw [if_neg (fun q => this (b_i.mp q))]
    · rw [if_pos (b_i.mpr this)]
    · rw [if_neg (fun q => by have := Int32.lt_iff_toInt_lt.mp q; omega)]
    · rw [if_neg (fun q => by have := Int32.le_iff_toInt_le.mp q; omega)]
    · rw [if_neg (fun q => by have := Int32.lt_iff_toInt_lt.mp q; omega)]
    · rw [if_neg (fun q => by have := Int32.le_iff_toInt_le.mp q; omega)]
theorem i_zero : (0 : Int32).toInt = 0 := rfl
theorem r_cond {X : aX} {n d pc len a b : Nat} {M : aM} {L : aL} {r : List Value} {h : aH} {c : Jvm.ClassFile.Cond} {off : Int} {x : Int32} (hf : aF pc M.2.2.2.2.2.2.2 = some (pc, (.ifCond c off), len, a, b)) : arun X (n + 1) d M pc L (.int x :: r) h = bif dBr c x.toInt 0 then arun X n d M a L r h else arun X n d M (pc + 3) L r h := by
  rw [arun_p hf rfl]
  cases e : dBr c x.toInt 0 with
  | true =>
    have := dBr_t e
    cases c <;> dsimp only at this <;> simp only [aX1, tI, cond_true]
    · rw [if_pos (b_i.mpr (by rw [i_zero]; exact this))]
    · rw [if_neg (fun q => this (by rw [b_i.mp q, i_zero]))]
    · rw [if_pos (Int32.lt_iff_toInt_lt.mpr (by rw [i_zero]; exact this))]
    · rw [if_pos (Int32.le_iff_toInt_le.mpr (by rw [i_zero]; exact this))]
    · rw [if_pos (Int32.lt_iff_toInt_lt.mpr (by rw [i_zero]; exact this))]
    · rw [if_pos (Int32.le_iff_toInt_le.mpr (by rw [i_zero]; exact this))]
  | false =>
    have := dBr_f e
    cases c <;> dsimp only at this <;> simp only [aX1, tI, cond_false]
    · rw [if_neg (fun q => this (by rw [b_i.mp q, i_zero]))]
    · rw [if_pos (b_i.mpr (by rw [i_zero]; exact this))]
    · rw [if_neg (fun q => by have := Int32.lt_iff_toInt_lt.mp q; rw [i_zero] at this; omega)]
    · rw [if_neg (fun q => by have := Int32.le_iff_toInt_le.mp q; rw [i_zero] at this; omega)]
    · rw [if_neg (fun q => by have := Int32.lt_iff_toInt_lt.mp q; rw [i_zero] at this; omega)]
    · rw [if_neg (fun q => by have := Int32.le_iff_toInt_le.mp q; rw [i_zero] at this; omega)]
/-- lcmp and the branch behind it -/
theorem dBr_lcmp {c : Jvm.ClassFile.Cond} {x y : Int64} : dBr c (lg_cmp x y).toInt 0 = dBr c x.toInt y.toInt := by
  have h1 : x > y ↔ y.toInt < x.toInt := Int64.lt_iff_toInt_lt
  have h2 : x = y ↔ x.toInt = y.toInt := Int64.toInt_inj.symm
  have key : ((lg_cmp x y).toInt = 1 ∧ y.toInt < x.toInt) ∨ ((lg_cmp x y).toInt = 0 ∧ x.toInt = y.toInt) ∨ ((lg_cmp x y).toInt = -1 ∧ x.toInt < y.toInt) := by
    unfold lg_cmp
    by_cases q : x > y
    · rw [if_pos q]; exact Or.inl ⟨rfl, h1.mp q⟩
    · rw [if_neg q]
      by_cases q2 : x = y
      · rw [if_pos q2]; exact Or.inr (Or.inl ⟨rfl, h2.mp q2⟩)
      · rw [if_neg q2]
        refine Or.inr (Or.inr ⟨rfl, ?_⟩)
        have a : ¬ y.toInt < x.toInt := fun c => q (h1.mpr c)
        have b : ¬ x.toInt = y.toInt := fun c => q2 (h2.mpr c)
        omega
  have bo : ∀ {a b a' b' : Int}, (a = b ↔ a' = b') → (a < b ↔ a' < b') → dBr c a b = dBr c a' b' := by
    intro a b a' b' g1 g2
    have e1 : ceI a b = ceI a' b' := by rw [Bool.eq_iff_iff, ceI_i, ceI_i]; exact g1
    have e2 : cle (a + 1) b = cle (a' + 1) b' := by rw [Bool.eq_iff_iff, cle_i, cle_i]; omega
    have e3 : cle b a = cle b' a' := by rw [Bool.eq_iff_iff, cle_i, cle_i]; omega
    have e4 : cle (b + 1) a = cle (b' + 1) a' := by rw [Bool.eq_iff_iff, cle_i, cle_i]; omega
    have e5 : cle a b = cle a' b' := by rw [Bool.eq_iff_iff, cle_i, cle_i]; omega
    unfold dBr
    cases c <;> dsimp only <;> first | exact e1 | rw [e1] | exact e2 | exact e3 | exact e4 | exact e5
  rcases key with ⟨a, b⟩ | ⟨a, b⟩ | ⟨a, b⟩ <;> rw [a] <;> exact bo (by omega) (by omega)

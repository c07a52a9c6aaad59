-- ===== seasons: the relation =====
-- rows of a new field lie below 2^24
theorem m24 {z : Int32} (h : ∀ x, 24 ≤ x → x < 32 → tb z.toInt x = false) : 0 ≤ z.toInt ∧ z.toInt < 16777216 := by
  have l : z.toBitVec.toNat < 2 ^ 24 := Nat.lt_pow_two_of_testBit _ (fun i hi => by
    by_cases w : i < 32
    · have := h i hi w
      unfold tb at this
      rw [oI] at this
      exact this
    · exact Nat.testBit_lt_two_pow (Nat.lt_of_lt_of_le z.toBitVec.isLt (Nat.pow_le_pow_right (by decide) (by omega))))
  have e : z.toInt = (z.toBitVec.toNat : Int) := BitVec.toInt_eq_toNat_of_lt (by omega)
  rw [e]
  omega
theorem cRow_24 {V : vS} (hx : ∀ j, 0 ≤ j → j < 12 → 0 ≤ V 14 j ∧ V 14 j ≤ 24) (h0 : 0 ≤ V 13 2) (h12 : V 13 2 ≤ 12) (y : Int) : 0 ≤ cRow V y ∧ cRow V y < 16777216 := by
  obtain ⟨a, ea⟩ := cIns_i V y ((V 13 2).toNat / 2)
  have t : ∀ x, 24 ≤ x → x < 32 → tb (cRow V y) x = false := fun x u v => by
    unfold cRow
    rw [tb_c hx y v _ (by omega), decide_eq_false (by omega), Bool.and_false]
  unfold cRow at t ⊢
  rw [ea] at t ⊢
  exact m24 t
theorem jr24_6 {V V1 V2 : vS} {f w r1 r2 : Int} (J : JRing V) (R : JR24 V) (hx : ∀ j, 0 ≤ j → j < 12 → 0 ≤ V 14 j ∧ V 14 j ≤ 24) (c : R150 V f w r1 V1) (m : R222 V1 f w r2 V2) : JR24 V2 := by
  refine jr24_e (V := V1) ?_ (fun c j z => mx_l (mx_6 m) c j (Or.inl z))
  rcases c with ⟨-, -, e⟩ | ⟨-, ⟨-, -, e⟩ | ⟨-, -, -, e⟩ | ⟨-, a1, a2, -, e⟩⟩
  · rw [e]
    exact R
  · rw [e]
    exact R
  · rw [e]
    exact R
  · intro j
    rw [e, up_c (by decide)]
    unfold outl
    by_cases z : 24 * V 1 1 ≤ j ∧ j < 24 * V 1 1 + 24
    · rw [if_pos ⟨rfl, z⟩, cRow_c (V := V) (cAddV_c (by decide) (by decide) (by decide) (by decide) (by decide) (by decide)) (fun j => cAddV_c (by decide) (by decide) (by decide) (by decide) (by decide) (by decide)) (fun j => cAddV_c (by decide) (by decide) (by decide) (by decide) (by decide) (by decide))]
      exact cRow_24 hx J.2.2.2.1 J.2.2.2.2 _
    · rw [if_neg (fun q => z q.2), cAddV_c (by decide) (by decide) (by decide) (by decide) (by decide) (by decide)]
      exact R j
theorem nQ_1 {P P' : Int → Prop} {b : Int} (h : ¬ P b) (h' : P' b) (e : ∀ j, j ≠ b → (P' j ↔ P j)) : ∀ n : Nat, nQ P' n = nQ P n + (if 0 ≤ b ∧ b < (n : Int) then 1 else 0)
  | 0 => by
    rw [if_neg (by omega)]
    rfl
  | n + 1 => by
    have ih := nQ_1 h h' e n
    by_cases z : (n : Int) = b
    · rw [nQ_t (by rw [z]; exact h'), nQ_f (by rw [z]; exact h), ih, if_neg (by omega), if_pos (by omega)]
    · have e1 : (0 ≤ b ∧ b < ((n + 1 : Nat) : Int)) ↔ (0 ≤ b ∧ b < (n : Int)) := by omega
      by_cases p : P (n : Nat)
      · rw [nQ_t ((e _ z).mpr p), nQ_t p, ih]
        simp only [e1]
        omega
      · rw [nQ_f (fun w => p ((e _ z).mp w)), nQ_f p, ih]
        simp only [e1, Int.add_zero]
-- a field given up
theorem cx_10 {V W : vS} {b r : Int} (h : R154 V b r W) : W = V ∨ ((cField V b ∧ V 5 b = -1) ∧ W = up (up V 5 b (V 1 0)) 1 5 (w32 (V 1 5 + 1))) := by
  rcases h with ⟨-, -, e⟩ | ⟨-, -, -, e⟩ | ⟨a, b, -, e⟩
  · exact Or.inl e
  · exact Or.inl e
  · exact Or.inr ⟨⟨a, b⟩, e⟩
theorem mx_10 {V W : vS} {b r : Int} (h : R224 V b r W) : (∀ (c : Nat) j, c ≠ 72 → c ≠ 77 → W c j = V c j) ∧ (W = V ∨ W 72 38 = 1) := by
  rcases h with ⟨-, -, e⟩ | ⟨-, -, -, e⟩ | ⟨-, -, -, e⟩
  · exact ⟨fun _ _ _ _ => by rw [e], Or.inl e⟩
  · exact ⟨fun _ _ _ _ => by rw [e], Or.inl e⟩
  · exact ⟨fun c j a b => by rw [e, up_c a, up_c b], Or.inr (by rw [e, up_s])⟩
theorem jrk_s {V V1 V2 : vS} (R : JRk V) (c : ∀ (c : Nat) j, 72 ≤ c → c ≤ 110 → V1 c j = V c j) (m : V2 = V1 ∨ V2 72 38 = 1) : JRk V2 := by
  rcases m with m | m
  · rw [m]
    exact JRk_e R c
  · intro z
    rw [m] at z
    cases z
theorem jgone_10 {V V1 V2 : vS} {b r1 r2 : Int} (B : JBody V) (d0 : 0 ≤ V 1 0) (G : JGone V) (c : R154 V b r1 V1) (m : R224 V1 b r2 V2) : JGone V2 := by
  refine jgone_e (V := V1) ?_ (fun c j z => (mx_10 m).1 c j (by omega) (by omega))
  rcases cx_10 c with e | ⟨⟨f, g⟩, e⟩
  · rw [e]
    exact G
  · have hb := hF_of B b f
    obtain ⟨⟨f1, f2⟩, -⟩ := f
    have n1 := B.2.2.2.2.2.1
    have n2 := B.2.2.2.2.2.2.1
    rw [w32_id (by omega) (by omega)] at f2
    have gb := JGone_b G
    have k : nQ (gnP V1) 150 = nQ (gnP V) 150 + (if 0 ≤ b ∧ b < ((150 : Nat) : Int) then 1 else 0) := by
      have p1 : gnP V1 b := by
        unfold gnP
        rw [e, up_j (by decide), up_c (by decide), up_c (by decide), up_s]
        omega
      have p2 : ∀ j, j ≠ b → (gnP V1 j ↔ gnP V j) := fun j n => by
        unfold gnP
        rw [e, up_j (by decide), up_c (by decide), up_c (by decide), up_j n]
      exact nQ_1 (fun w => w.2 g) p1 p2 150
    rw [if_pos (by omega)] at k
    unfold JGone at G ⊢
    rw [k, ← G, e, up_s, w32_id (by omega) (by omega)]
theorem jsea_10 {V V1 V2 : vS} {b r1 r2 : Int} (S : JSea V) (bb : bd V) (G' : JGone V2) (c : R154 V b r1 V1) (m : R224 V1 b r2 V2) : JSea V2 := by
  have e2 := (mx_10 m).1
  have fin : JSea V1 → JSea V2 := fun S => JSea_e S (fun c j z => e2 c j (by omega) (by omega))
  rcases cx_10 c with e | ⟨-, e⟩
  · exact fin (by rw [e]; exact S)
  · have h : ∀ (c : Nat) j, c ≠ 1 → c ≠ 5 → c ≠ 72 → c ≠ 77 → V2 c j = V c j := fun c j n1 n5 n72 n77 => by rw [e2 c j n72 n77, e, up_c n1, up_c n5]
    have g1 : V2 1 1 = V 1 1 := by rw [e2 1 1 (by decide) (by decide), e, up_j (by decide), up_c (by decide)]
    have g5 : V2 1 5 = V 1 5 + 1 := by
      rw [e2 1 5 (by decide) (by decide), e, up_s]
      exact w32_id (by have := bb.2.1; omega) (by have := bb.2.1; omega)
    have g61 := h 16 1 (by decide) (by decide) (by decide) (by decide)
    have g62 := h 16 2 (by decide) (by decide) (by decide) (by decide)
    have g63 := h 16 3 (by decide) (by decide) (by decide) (by decide)
    have bb' : bd V2 := by
      obtain ⟨b1, b2, b3, b4, b5⟩ := bb
      exact ⟨by rw [g1]; exact b1, JGone_b G', by rw [g61]; exact b3, by rw [g62]; exact b4, by rw [g63]; exact b5⟩
    refine JSea_c S (fun j => h 42 j (by decide) (by decide) (by decide) (by decide)) (fun c j z => h c j (by omega) (by omega) (by omega) (by omega)) (Or.inl (stm_lt bb bb' ?_))
    rw [g1, g5, g61, g62, g63]
    omega
theorem jrk_10 {V V1 V2 : vS} {b r1 r2 : Int} (R : JRk V) (c : R154 V b r1 V1) (m : R224 V1 b r2 V2) : JRk V2 := by
  refine jrk_s R (fun c' j u _ => ?_) (mx_10 m).2
  rcases cx_10 c with e | ⟨-, e⟩
  · rw [e]
  · rw [e, up_c (by omega), up_c (by omega)]


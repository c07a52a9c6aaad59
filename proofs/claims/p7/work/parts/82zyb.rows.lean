-- ===== the rows of squares of both sides are one =====
def tb (a : Int) (x : Nat) : Bool := (Int32.ofInt a).toBitVec.getLsbD x
theorem tb_xor (a b : Int) (x : Nat) : tb (bXor a b) x = Bool.xor (tb a x) (tb b x) := by
  unfold tb bXor
  rw [oI, Int32.toBitVec_xor, BitVec.getLsbD_xor]
theorem tb_or (a b : Int) (x : Nat) : tb (bOr a b) x = (tb a x || tb b x) := by
  unfold tb bOr
  rw [oI, Int32.toBitVec_or, BitVec.getLsbD_or]
theorem tb_0' : ∀ x : Fin 32, tb 0 x.val = false := by decide +kernel
theorem tb_0 {x : Nat} (h : x < 32) : tb 0 x = false := tb_0' ⟨x, h⟩
theorem tb_m1 : ∀ s : Fin 25, ∀ x : Fin 32, tb (bAnd 16777215 (bShl (-1) (s.val : Int))) x.val = decide (s.val ≤ x.val ∧ x.val < 24) := by decide +kernel
theorem tb_1 : ∀ s : Fin 24, ∀ x : Fin 32, tb (bShl 1 (s.val : Int)) x.val = decide (x.val = s.val) := by decide +kernel
theorem w32_i (x : Int32) : w32 x.toInt = x.toInt := w32_id (iR x).1 (iR x).2
theorem tb_ext {a b : Int32} (h : ∀ x, x < 32 → tb a.toInt x = tb b.toInt x) : a.toInt = b.toInt := by
  have e : a = b := by
    refine Int32.toBitVec_inj.mp (BitVec.eq_of_getLsbD_eq (fun i hi => ?_))
    have := h i hi
    unfold tb at this
    rw [oI, oI] at this
    exact this
  rw [e]
def crB (V : vS) (y : Int) (k : Nat) : Bool := decide (min (V 15 (2 * (k : Nat) + 1)) (V 15 (cNxt V (2 * (k : Nat) + 1))) ≤ y ∧ y < max (V 15 (2 * (k : Nat) + 1)) (V 15 (cNxt V (2 * (k : Nat) + 1))))
def rT (V : vS) (y : Int) : Nat → Bool
  | 0 => false
  | k + 1 => Bool.xor (rT V y k) (crB V y k)
def rP (V : vS) (x y : Int) : Nat → Bool
  | 0 => false
  | k + 1 => Bool.xor (rP V x y k) (crB V y k && decide (V 14 (2 * (k : Nat) + 1) ≤ x))
theorem cIns_i (V : vS) (y : Int) : ∀ k, ∃ z : Int32, cIns V y k = z.toInt
  | 0 => ⟨0, rfl⟩
  | k + 1 => by
    unfold cIns
    split
    · exact ⟨_, rfl⟩
    · exact cIns_i V y k
theorem mRw_i (V : vS) (y : Int) : ∀ k, ∃ z : Int32, mRw V y k = z.toInt
  | 0 => ⟨0, rfl⟩
  | k + 1 => by
    unfold mRw
    split
    · exact ⟨_, rfl⟩
    · exact ⟨_, rfl⟩
theorem tb_c {V : vS} (hx : ∀ j, 0 ≤ j → j < 12 → 0 ≤ V 14 j ∧ V 14 j ≤ 24) (y : Int) {x : Nat} (h : x < 32) : ∀ k : Nat, 2 * k ≤ 12 → tb (cIns V y k) x = (rP V (x : Nat) y k && decide (x < 24))
  | 0, _ => tb_0 h
  | k + 1, hk => by
    have ih := tb_c hx y h k (by omega)
    have es : rP V (x : Nat) y (k + 1) = Bool.xor (rP V (x : Nat) y k) (crB V y k && decide (V 14 (2 * (k : Nat) + 1) ≤ (x : Nat))) := rfl
    rw [es]
    unfold cIns
    by_cases q : min (V 15 (2 * (k : Nat) + 1)) (V 15 (cNxt V (2 * (k : Nat) + 1))) ≤ y ∧ y < max (V 15 (2 * (k : Nat) + 1)) (V 15 (cNxt V (2 * (k : Nat) + 1)))
    · have hb : crB V y k = true := decide_eq_true q
      obtain ⟨h0, h1⟩ := hx (2 * (k : Nat) + 1) (by omega) (by omega)
      obtain ⟨s, hs⟩ : ∃ s : Nat, V 14 (2 * (k : Nat) + 1) = (s : Int) := ⟨_, (Int.toNat_of_nonneg h0).symm⟩
      rw [if_pos q, tb_xor, ih, hb, hs, tb_m1 ⟨s, by omega⟩ ⟨x, h⟩]
      have e1 : decide ((s : Int) ≤ (x : Nat)) = decide (s ≤ x) := by
        rw [decide_eq_decide]; omega
      have e2 : decide (s ≤ x ∧ x < 24) = (decide (s ≤ x) && decide (x < 24)) := Bool.decide_and _ _
      rw [e1, e2]
      cases rP V (x : Nat) y k <;> cases decide (s ≤ x) <;> cases decide (x < 24) <;> rfl
    · have hb : crB V y k = false := decide_eq_false q
      rw [if_neg q, ih, hb]
      cases rP V (x : Nat) y k <;> rfl
theorem tb_m {V : vS} (y : Int) {x : Nat} (h : x < 32) : ∀ k : Nat, k ≤ 24 → tb (mRw V y k) x = (decide (x < k) && decide (mInR V (x : Nat) y ≠ 0))
  | 0, _ => tb_0 h
  | k + 1, hk => by
    have ih := tb_m (V := V) y h k (by omega)
    have e2 : decide (x < k + 1) = (decide (x < k) || decide (x = k)) := by
      rw [← Bool.decide_or, decide_eq_decide]; omega
    unfold mRw
    by_cases q : mInR V (k : Nat) y ≠ 0
    · rw [if_pos q, tb_or, ih, tb_1 ⟨k, by omega⟩ ⟨x, h⟩, e2]
      by_cases z : x = k
      · subst z
        rw [decide_eq_true q]
        cases decide (x < x) <;> simp
      · simp [z]
    · rw [if_neg q, tb_or, ih, tb_0 h, e2]
      by_cases z : x = k
      · subst z
        rw [decide_eq_false q]
        cases decide (x < x) <;> simp
      · simp [z]
theorem par_m {V : vS} (J : JRing V) (hy : ∀ j, 0 ≤ j → j < 12 → 0 ≤ V 15 j ∧ V 15 j ≤ 24) (x y : Int) : ∀ k : Nat, 2 * (k : Int) ≤ V 13 2 → decide (mIn V x y k ≠ 0) = Bool.xor (rP V x y k) (rT V y k)
  | 0, _ => rfl
  | k + 1, hk => by
    have ih := par_m J hy x y k (by omega)
    obtain ⟨j1, j2, j3, j4, j5⟩ := J
    have J' : JRing V := ⟨j1, j2, j3, j4, j5⟩
    have e1 : rP V x y (k + 1) = Bool.xor (rP V x y k) (crB V y k && decide (V 14 (2 * (k : Nat) + 1) ≤ x)) := rfl
    have e2 : rT V y (k + 1) = Bool.xor (rT V y k) (crB V y k) := rfl
    have en : mNxt V (2 * (k : Nat) + 1) = cNxt V (2 * (k : Nat) + 1) := (nxt_j J' (by omega) (by omega)).symm
    have b1 := hy (2 * (k : Nat) + 1) (by omega) (by omega)
    have b2 : 0 ≤ V 15 (cNxt V (2 * (k : Nat) + 1)) ∧ V 15 (cNxt V (2 * (k : Nat) + 1)) ≤ 24 := by
      refine hy _ ?_ ?_
      · unfold cNxt; split
        · rw [w32_id (by omega) (by omega)]; omega
        · omega
      · unfold cNxt; split <;> omega
    have ec : (x < V 81 (2 * (k : Nat) + 1) ∧ (min (V 82 (2 * (k : Nat) + 1)) (V 82 (mNxt V (2 * (k : Nat) + 1))) ≤ y ∧ y ≤ w32 (max (V 82 (2 * (k : Nat) + 1)) (V 82 (mNxt V (2 * (k : Nat) + 1))) - 1))) ↔ (¬ V 14 (2 * (k : Nat) + 1) ≤ x ∧ (min (V 15 (2 * (k : Nat) + 1)) (V 15 (cNxt V (2 * (k : Nat) + 1))) ≤ y ∧ y < max (V 15 (2 * (k : Nat) + 1)) (V 15 (cNxt V (2 * (k : Nat) + 1))))) := by
      rw [en, ← j2, ← j3, ← j3, w32_id (by omega) (by omega)]
      omega
    rw [e1, e2]
    have em : mIn V x y (k + 1) = if (x < V 81 (2 * (k : Nat) + 1) ∧ (min (V 82 (2 * (k : Nat) + 1)) (V 82 (mNxt V (2 * (k : Nat) + 1))) ≤ y ∧ y ≤ w32 (max (V 82 (2 * (k : Nat) + 1)) (V 82 (mNxt V (2 * (k : Nat) + 1))) - 1))) then (if mIn V x y k ≠ 0 then 0 else 1) else mIn V x y k := rfl
    by_cases q : min (V 15 (2 * (k : Nat) + 1)) (V 15 (cNxt V (2 * (k : Nat) + 1))) ≤ y ∧ y < max (V 15 (2 * (k : Nat) + 1)) (V 15 (cNxt V (2 * (k : Nat) + 1)))
    · have hb : crB V y k = true := decide_eq_true q
      by_cases z : V 14 (2 * (k : Nat) + 1) ≤ x
      · rw [em, if_neg (fun w => (ec.mp w).1 z), ih, hb, decide_eq_true z]
        cases rP V x y k <;> cases rT V y k <;> rfl
      · have e3 : decide (mIn V x y (k + 1) ≠ 0) = !(decide (mIn V x y k ≠ 0)) := by
          rw [em, if_pos (ec.mpr ⟨z, q⟩)]
          by_cases w : mIn V x y k ≠ 0
          · rw [if_pos w, decide_eq_true w]; rfl
          · rw [if_neg w, decide_eq_false w]; rfl
        rw [e3, ih, hb, decide_eq_false z]
        cases rP V x y k <;> cases rT V y k <;> rfl
    · have hb : crB V y k = false := decide_eq_false q
      rw [em, if_neg (fun w => q (ec.mp w).2), ih, hb]
      cases rP V x y k <;> cases rT V y k <;> rfl
theorem cr_s (a b y : Int) : decide (min a b ≤ y ∧ y < max a b) = Bool.xor (decide (a ≤ y)) (decide (b ≤ y)) := by
  by_cases p : a ≤ y
  · by_cases q : b ≤ y
    · rw [decide_eq_true p, decide_eq_true q, decide_eq_false (by omega)]; rfl
    · rw [decide_eq_true p, decide_eq_false q, decide_eq_true (by omega)]; rfl
  · by_cases q : b ≤ y
    · rw [decide_eq_false p, decide_eq_true q, decide_eq_true (by omega)]; rfl
    · rw [decide_eq_false p, decide_eq_false q, decide_eq_false (by omega)]; rfl
theorem lev {V : vS} (s : ∀ i, 0 ≤ i → i < V 13 2 → cWay V i) (h12 : V 13 2 ≤ 12) (k : Nat) (h : 2 * (k : Int) + 1 < V 13 2) : V 15 (2 * (k : Int)) = V 15 (2 * (k : Int) + 1) := by
  have w := (s (2 * (k : Int)) (by omega) (by omega)).1 (by rw [iRem_pos (by omega) (by omega) (by decide) (by decide)]; omega)
  rw [w.1]
  congr 1
  unfold cNxt
  rw [w32_id (by omega) (by omega), if_pos h]
theorem rT_s {V : vS} (s : ∀ i, 0 ≤ i → i < V 13 2 → cWay V i) (h12 : V 13 2 ≤ 12) (y : Int) : ∀ k : Nat, 2 * (k : Int) + 1 < V 13 2 → rT V y k = Bool.xor (decide (V 15 1 ≤ y)) (decide (V 15 (2 * (k : Nat) + 1) ≤ y))
  | 0, _ => by
    show false = _
    rw [show (2 * ((0 : Nat) : Int) + 1) = 1 from rfl]
    cases decide (V 15 1 ≤ y) <;> rfl
  | k + 1, h => by
    have ih := rT_s s h12 y k (by omega)
    have e2 : rT V y (k + 1) = Bool.xor (rT V y k) (crB V y k) := rfl
    have en : cNxt V (2 * (k : Nat) + 1) = 2 * ((k + 1 : Nat) : Int) := by
      unfold cNxt
      rw [w32_id (by omega) (by omega), if_pos (by omega)]
      omega
    have ec : crB V y k = Bool.xor (decide (V 15 (2 * (k : Nat) + 1) ≤ y)) (decide (V 15 (2 * ((k + 1 : Nat) : Int) + 1) ≤ y)) := by
      unfold crB
      rw [cr_s, en, lev s h12 (k + 1) h]
    rw [e2, ih, ec]
    cases decide (V 15 1 ≤ y) <;> cases decide (V 15 (2 * (k : Nat) + 1) ≤ y) <;> cases decide (V 15 (2 * ((k + 1 : Nat) : Int) + 1) ≤ y) <;> rfl
theorem rT_0 {V : vS} (s : cSound V) (h12 : V 13 2 ≤ 12) (y : Int) : rT V y ((V 13 2).toNat / 2) = false := by
  obtain ⟨s1, s2, s3, -⟩ := s
  rw [iRem_pos (by omega) (by omega) (by decide) (by decide)] at s2
  obtain ⟨k, hk⟩ : ∃ k : Nat, (V 13 2).toNat / 2 = k + 1 := ⟨(V 13 2).toNat / 2 - 1, by omega⟩
  have hn : V 13 2 = 2 * (k : Int) + 2 := by omega
  rw [hk]
  have ih := rT_s s3 h12 y k (by omega)
  have e2 : rT V y (k + 1) = Bool.xor (rT V y k) (crB V y k) := rfl
  have en : cNxt V (2 * (k : Nat) + 1) = 0 := by
    unfold cNxt
    rw [w32_id (by omega) (by omega), if_neg (by omega)]
  have e0 : V 15 0 = V 15 1 := lev s3 h12 0 (by omega)
  have ec : crB V y k = Bool.xor (decide (V 15 (2 * (k : Nat) + 1) ≤ y)) (decide (V 15 1 ≤ y)) := by
    unfold crB
    rw [cr_s, en, e0]
  rw [e2, ih, ec]
  cases decide (V 15 1 ≤ y) <;> cases decide (V 15 (2 * (k : Nat) + 1) ≤ y) <;> rfl
theorem row_eq {V : vS} (J : JRing V) (hx : ∀ j, 0 ≤ j → j < 12 → 0 ≤ V 14 j ∧ V 14 j ≤ 24) (hy : ∀ j, 0 ≤ j → j < 12 → 0 ≤ V 15 j ∧ V 15 j ≤ 24) (s : cSound V) (y : Int) : cRow V y = mRw V y 24 := by
  obtain ⟨a, ea⟩ := cIns_i V y ((V 13 2).toNat / 2)
  obtain ⟨b, eb⟩ := mRw_i V y 24
  unfold cRow
  rw [ea, eb]
  refine tb_ext (fun x h => ?_)
  have j4 := J.2.2.2.1
  have j5 := J.2.2.2.2
  rw [← ea, ← eb, tb_c hx y h _ (by omega), tb_m y h 24 (by decide)]
  have p := par_m J hy (x : Nat) y ((V 13 2).toNat / 2) (by omega)
  rw [rT_0 s j5 y] at p
  unfold mInR
  rw [← J.1, p]
  cases rP V (x : Nat) y ((V 13 2).toNat / 2) <;> cases decide (x < 24) <;> rfl
def JRows (V : vS) : Prop := ∀ j, V 8 j = V 80 j
theorem jx_6r {V V1 V2 : vS} {f w r1 r2 : Int} (J : JRing V) (K : JBody V) (L : JRows V) (hx : ∀ j, 0 ≤ j → j < 12 → 0 ≤ V 14 j ∧ V 14 j ≤ 24) (hy : ∀ j, 0 ≤ j → j < 12 → 0 ≤ V 15 j ∧ V 15 j ≤ 24) (c : R150 V f w r1 V1) (m : R222 V1 f w r2 V2) : JRows V2 := by
  have k1 := K.1
  rcases c with ⟨a, rfl, rfl⟩ | ⟨a, ⟨a0, rfl, rfl⟩ | ⟨a0, a1, rfl, rfl⟩ | ⟨a0, a1, a2, rfl, hV⟩⟩
  · rcases m with ⟨b, rfl, rfl⟩ | ⟨b, -⟩
    · exact L
    · exact absurd ⟨(farm_j K f).mpr b.1, b.2⟩ a
  · rcases m with ⟨b, rfl, rfl⟩ | ⟨b, ⟨b0, rfl, rfl⟩ | ⟨b0, -⟩ | ⟨b0, -⟩⟩
    · exact L
    · exact L
    · exact absurd ((sound_j J).mpr b0) a0
    · exact absurd ((sound_j J).mpr b0) a0
  · rcases m with ⟨b, rfl, rfl⟩ | ⟨b, ⟨b0, rfl, rfl⟩ | ⟨b0, b1, rfl, rfl⟩ | ⟨b0, b1, V3, ⟨c1, c2, -, -⟩, -⟩⟩
    · exact L
    · exact L
    · exact L
    · omega
  · have mk : R222k (if w = 1 then 5 else 4) V1 f w r2 V2 := m
    clear m
    generalize (if w = 1 then (5 : Int) else 4) = kd at mk hV
    have e8 : ∀ j, V1 8 j = if 24 * V 1 1 ≤ j ∧ j < 24 * V 1 1 + 24 then cRow (cAddV V kd (cArea V) f) (j - 24 * V 1 1) else V 8 j := fun j => by
      rw [hV, up_c (by decide)]
      unfold outl
      by_cases z : 24 * V 1 1 ≤ j ∧ j < 24 * V 1 1 + 24
      · rw [if_pos ⟨rfl, z⟩, if_pos z]
      · rw [if_neg (fun q => z q.2), if_neg z, cAddV_c (by decide) (by decide) (by decide) (by decide) (by decide) (by decide)]
    have o : ∀ (c : Nat) (j : Int), c ≠ 13 → c ≠ 8 → c ≠ 1 → c ≠ 2 → c ≠ 3 → c ≠ 4 → c ≠ 5 → c ≠ 7 → V1 c j = V c j := fun c j g1 g2 h1 h2 h3 h4 h5 h7 => by rw [hV, up_c g1, outl_c g2, cAddV_c h1 h2 h3 h4 h5 h7]
    have e72 : ∀ j, V1 72 j = V 72 j := fun j => o 72 j (by decide) (by decide) (by decide) (by decide) (by decide) (by decide) (by decide) (by decide)
    have e80 : ∀ j, V1 80 j = V 80 j := fun j => o 80 j (by decide) (by decide) (by decide) (by decide) (by decide) (by decide) (by decide) (by decide)
    have e81 : ∀ j, V1 81 j = V 81 j := fun j => o 81 j (by decide) (by decide) (by decide) (by decide) (by decide) (by decide) (by decide) (by decide)
    have e82 : ∀ j, V1 82 j = V 82 j := fun j => o 82 j (by decide) (by decide) (by decide) (by decide) (by decide) (by decide) (by decide) (by decide)
    have mf : mFarm V1 f ↔ mFarm V f := by
      unfold mFarm mBody
      rw [e72, o 73 f (by decide) (by decide) (by decide) (by decide) (by decide) (by decide) (by decide) (by decide)]
    have cr : ∀ y, cRow (cAddV V kd (cArea V) f) y = cRow V y := fun y => cRow_c (cAddV_c (by decide) (by decide) (by decide) (by decide) (by decide) (by decide)) (fun j => cAddV_c (by decide) (by decide) (by decide) (by decide) (by decide) (by decide)) (fun j => cAddV_c (by decide) (by decide) (by decide) (by decide) (by decide) (by decide)) y
    rcases mk with ⟨b, -⟩ | ⟨b, ⟨b0, -⟩ | ⟨b0, b1, -⟩ | ⟨b0, b1, V3, ⟨c1, c2, rfl, rfl⟩, rfl⟩⟩
    · exact absurd ⟨mf.mpr ((farm_j K f).mp a.1), a.2⟩ b
    · exact absurd ((mSound_c (e72 11) e81 e82).mpr ((sound_j J).mp a0)) b0
    · rw [e72] at b1
      omega
    · intro j
      have eb : V1 72 2 = V 1 1 := by rw [e72, k1]
      have p8 : up (outm (up (up (mAddV V1 kd) 75 (V1 72 2) f) 78 (V1 72 2) (mArea V1)) (V1 72 2) 24) 72 11 0 8 j = V1 8 j := by
        rw [up_c (by decide), outm_c (by decide), up_c (by decide), up_c (by decide), mAddV_c (by decide) (by decide) (by decide) (by decide) (by decide)]
      have q : ∀ (c : Nat) (j : Int), c ≠ 72 → c ≠ 73 → c ≠ 75 → c ≠ 76 → c ≠ 77 → c ≠ 78 → up (up (mAddV V1 kd) 75 (V1 72 2) f) 78 (V1 72 2) (mArea V1) c j = V1 c j := fun c j h1 h2 h3 h4 h5 h6 => by rw [up_c h6, up_c h3, mAddV_c h1 h2 h3 h4 h5]
      have q11 : up (up (mAddV V1 kd) 75 (V1 72 2) f) 78 (V1 72 2) (mArea V1) 72 11 = V 72 11 := by rw [up_c (by decide), up_c (by decide), mA_o (by decide), e72]
      have mr : ∀ y, mRw (up (up (mAddV V1 kd) 75 (V1 72 2) f) 78 (V1 72 2) (mArea V1)) y 24 = mRw V y 24 := fun y => mRw_c q11 (fun j => by rw [q 81 j (by decide) (by decide) (by decide) (by decide) (by decide) (by decide), e81]) (fun j => by rw [q 82 j (by decide) (by decide) (by decide) (by decide) (by decide) (by decide), e82]) y 24
      rw [p8, e8, up_c (by decide)]
      unfold outm
      rw [eb] at *
      by_cases z : 24 * V 1 1 ≤ j ∧ j < 24 * V 1 1 + 24
      · rw [if_pos z, if_pos ⟨rfl, z⟩, cr, mr]
        exact row_eq J hx hy a0 _
      · rw [if_neg z, if_neg (fun y => z y.2), q 80 j (by decide) (by decide) (by decide) (by decide) (by decide) (by decide), e80]
        exact L j
theorem jx_9 {V : vS} {f x y r1 r2 : Int} (K : JBody V) (L : JRows V) (c : R153 V f x y r1) (m : R223 V f x y r2) : r1 = r2 := by
  have ok : okHas V f x y ↔ okHam V f x y := by
    unfold okHas okHam
    rw [field_j K]
  unfold R153 at c
  unfold R223 at m
  rw [ok, L] at c
  rcases c with ⟨a, rfl⟩ | ⟨a, rfl⟩ <;> rcases m with ⟨b, rfl⟩ | ⟨b, rfl⟩
  · rfl
  · exact absurd b a
  · exact absurd a b
  · rfl
def LRows : List (Nat × Option Nat) := [(8, none), (80, none)]
theorem JRows_ag {V V' : vS} (J : JRows V) (A : ag LRows V V') : JRows V' := fun j => by
  obtain ⟨a1, a2, -⟩ := A
  rw [a1, a2]
  exact J j
theorem JRows_dG {W : List (Nat × Nat)} {σ σ1 : List Nat} {h h1 : aH} (J : JRows (vw h)) (I : dI σ h) (G : dG W σ h σ1 h1) (k : frL W LRows = true) : JRows (vw h1) := JRows_ag J (ag_dG I.1 G _ k)
theorem zJRows0 : JRows (vw zH0) := fun j => by rw [vz zh8, vz zh80]
theorem vb14 {σ : List Nat} {h : aH} (I : dI σ h) : ∀ j, 0 ≤ j → j < 12 → 0 ≤ vw h 14 j ∧ vw h 14 j ≤ 24 := fun j h0 h1 => vw_rng I (c := 14) (a := 0) (n := 12) (lo := 0) (hi := 24) (by decide +kernel) h0 h1
theorem vb15 {σ : List Nat} {h : aH} (I : dI σ h) : ∀ j, 0 ≤ j → j < 12 → 0 ≤ vw h 15 j ∧ vw h 15 j ≤ 24 := fun j h0 h1 => vw_rng I (c := 15) (a := 0) (n := 12) (lo := 0) (hi := 24) (by decide +kernel) h0 h1

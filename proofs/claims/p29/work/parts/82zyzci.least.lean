-- ===== the least land =====
-- what the class's and the reference's lists of fields in trouble make of a set
theorem set_e {V W U X : vS} {q : Nat} {y k m : Int} (A : AP V) (S : scK V q y k) (F : JCf V) (R : rkd V W k) (e8 : ∀ c, W 88 c = V 88 c) (e80 : ∀ j, W 80 j = V 80 j) (em : ∀ b, mField W b ↔ mField V b) (hm : m = nQ (TR V q) (V 1 1).toNat) (m10 : m ≤ 10)
    (u50 : ∀ b : Nat, (b : Int) < V 1 1 → TR V q (b : Nat) → U 50 (nQ (TR V q) b) = (b : Nat)) (u51 : ∀ i, 0 ≤ i → i < m → U 51 i = nbS (fun j => cMt V (U 50 i) (U 50 j) ∧ two V q (U 50 i) (U 50 j)) m.toNat)
    (xw : ∀ (c : Nat) j, c ≠ 72 → c ≠ 132 → X c j = W c j) (x19 : X 72 19 = W 72 19) (x79 : X 72 79 = m) (x132 : ∀ i, 0 ≤ i → i < m → X 132 i = U 50 i) {s : Nat} (hs : s < 2 ^ m.toNat) : endA U (s : Nat) m ↔ cur X (s : Nat) y := by
  have E := A.1
  have C := A.1.1
  have B := A.1.2.1
  have m0 := nQ_b (TR V q) (V 1 1).toNat
  rw [← hm] at m0
  have b0 := B.2.2.2.2.2.1
  have b1 := B.2.2.2.2.2.2.1
  have p2 : 2 ^ m.toNat ≤ 1024 := by
    have := p2_b (m := m) ⟨m0.1, m10⟩
    omega
  have hs' : s < 1024 := by omega
  have S0 := S
  obtain ⟨-, L, -⟩ := S
  -- the list's entries
  have ent : ∀ i, 0 ≤ i → i < m → ∃ b : Nat, (b : Int) < V 1 1 ∧ TR V q (b : Nat) ∧ nQ (TR V q) b = i ∧ U 50 i = (b : Nat) := fun i i0 i1 => by
    obtain ⟨b, h1, h2, h3⟩ := nQ_inv (R := TR V q) i0 (V 1 1).toNat (by rw [← hm]; exact i1)
    refine ⟨b, by omega, h2, h3, ?_⟩
    rw [← h3]
    exact u50 b (by omega) h2
  have inj : ∀ i j, 0 ≤ i → i < m → 0 ≤ j → j < m → U 50 i = U 50 j → i = j := fun i j i0 i1 j0 j1 e => by
    obtain ⟨b, -, -, h3, h4⟩ := ent i i0 i1
    obtain ⟨b', -, -, h3', h4'⟩ := ent j j0 j1
    have : b = b' := by omega
    rw [← h3, ← h3', this]
  have plc : ∀ b, (0 ≤ b ∧ b < V 1 1) → TR V q b → ∃ i, (0 ≤ i ∧ i < m) ∧ U 50 i = b := fun b hb t => by
    obtain ⟨n, rfl⟩ : ∃ n : Nat, b = (n : Int) := ⟨b.toNat, by omega⟩
    have lt := nQ_lt (R := TR V q) (show n < (V 1 1).toNat by omega) t
    have g := nQ_b (TR V q) n
    exact ⟨nQ (TR V q) n, ⟨g.1, by rw [hm]; exact lt⟩, u50 n hb.2 t⟩
  have bit : ∀ i, 0 ≤ i → i < m → (bAnd (bShr (s : Int) i) 1 = 1 ↔ tb (s : Int) i.toNat = true) ∧ (bAnd (bShr (s : Int) i) 1 = 0 ↔ ¬ tb (s : Int) i.toNat = true) := fun i i0 i1 => by
    obtain ⟨n, rfl⟩ : ∃ n : Nat, i = (n : Int) := ⟨i.toNat, by omega⟩
    rw [b01k2 hs' (show n < 10 by omega), Int.toNat_natCast]
    cases tb (s : Int) n with
    | true => exact ⟨⟨fun _ => rfl, fun _ => rfl⟩, ⟨fun z => absurd z (by decide), fun z => absurd rfl z⟩⟩
    | false => exact ⟨⟨fun z => absurd z (by decide), fun z => by cases z⟩, ⟨fun _ z => (by cases z), fun _ => rfl⟩⟩
  have aw : ∀ b, isAw X b (s : Nat) ↔ ∃ i, (0 ≤ i ∧ i < m) ∧ tb (s : Int) i.toNat = true ∧ U 50 i = b := fun b => by
    unfold isAw
    rw [x79]
    constructor
    · rintro ⟨i, hi, h1, h2⟩
      rw [x132 i hi.1 hi.2] at h2
      exact ⟨i, hi, (bit i hi.1 hi.2).1.mp h1, h2⟩
    · rintro ⟨i, hi, h1, h2⟩
      exact ⟨i, hi, (bit i hi.1 hi.2).1.mpr h1, by rw [x132 i hi.1 hi.2]; exact h2⟩
  have en : endA U (s : Nat) m ↔ ∀ i, 0 ≤ i → i < m → ¬ tb (s : Int) i.toNat = true → ∀ j, 0 ≤ j → j < m → cMt V (U 50 i) (U 50 j) → two V q (U 50 i) (U 50 j) → tb (s : Int) j.toNat = true := by
    constructor
    · intro h i i0 i1 z j j0 j1 mt tw
      have g := h i i0 i1 ((bit i i0 i1).2.mpr z)
      by_cases w : tb (s : Int) j.toNat = true
      · exact w
      · refine absurd g (bA_ne.mpr ⟨j.toNat, by omega, ?_, ?_⟩)
        · rw [u51 i i0 i1, nbS_b (by omega) m.toNat (by omega)]
          rw [show ((j.toNat : Nat) : Int) = j by omega]
          exact ⟨by omega, mt, tw⟩
        · rw [tb_not _ (by omega)]
          cases hh : tb (s : Int) j.toNat with
          | true => exact absurd hh w
          | false => rfl
    · intro h i i0 i1 z
      by_cases w : bAnd (U 51 i) (bXor (s : Int) (-1)) = 0
      · exact w
      · obtain ⟨x, hx, h1, h2⟩ := bA_ne.mp w
        rw [u51 i i0 i1, nbS_b hx m.toNat (by omega)] at h1
        rw [tb_not _ hx] at h2
        have g := h i i0 i1 ((bit i i0 i1).2.mp z) (x : Nat) (by omega) (by omega) h1.2.1 h1.2.2
        rw [Int.toNat_natCast] at g
        rw [g] at h2
        cases h2
  have iy : ∀ c, inY X y c ↔ inY W y c := fun c => by
    unfold inY
    rw [xw 103 c (by decide) (by decide), xw 90 c (by decide) (by decide)]
  have tr : ∀ c o, mTr X c o ↔ V 17 c ≠ V 17 o ∧ cMt V (V 18 c) (V 18 o) := fun c o => by
    rw [← mTr_e A R e8 e80]
    unfold mTr
    rw [xw 87 c (by decide) (by decide), xw 87 o (by decide) (by decide), xw 88 c (by decide) (by decide), xw 88 o (by decide) (by decide), mMt_w (fun j => xw 80 j (by decide) (by decide))]
  have f88 : ∀ c, X 88 c = V 18 c := fun c => by rw [xw 88 c (by decide) (by decide), e8, ← C.2.2.1]
  have fld : ∀ c o, ((0 ≤ c ∧ c < V 72 19) ∧ LkM V k y c) → ((0 ≤ o ∧ o < V 72 19) ∧ LkM V k y o) → V 17 c ≠ V 17 o → cMt V (V 18 c) (V 18 o) → ∃ i, (0 ≤ i ∧ i < m) ∧ U 50 i = V 18 c := fun c o hc ho nf mt => by
    have cf := (F.2 c hc.1.1 (by rw [C.1]; exact hc.1.2)).2
    have hb := hF_of B _ cf
    have hb2 : V 18 c < V 1 1 := by
      have := cf.1.2
      rw [w32_id (by omega) (by omega)] at this
      omega
    refine plc (V 18 c) ⟨hb.1, hb2⟩ ((TR_e A S0 F R e8 e80 em (V 18 c)).mpr ⟨?_, ?_⟩)
    · rw [em, ← field_j B]
      exact cf
    · exact ⟨c, o, by rw [R.1.1]; exact ⟨hc.1, ho.1⟩, ⟨(inY_e R hc.1.1 hc.1.2).mpr hc.2, by rw [e8, ← C.2.2.1]⟩, (inY_e R ho.1.1 ho.1.2).mpr ho.2, (mTr_e A R e8 e80 _ _).mpr ⟨nf, mt⟩⟩
  rw [en]
  unfold cur
  rw [x19, R.1.1]
  constructor
  · intro h c o c0 co oN hc ho t
    rw [iy, f88, aw] at hc ho
    obtain ⟨nf, mt⟩ := (tr c o).mp t
    have lc := (inY_e R c0 (by omega)).mp hc.1
    have lo := (inY_e R (by omega) oN).mp ho.1
    obtain ⟨i, hi, ei⟩ := fld c o ⟨⟨c0, by omega⟩, lc⟩ ⟨⟨by omega, oN⟩, lo⟩ nf mt
    obtain ⟨j, hj, ej⟩ := fld o c ⟨⟨by omega, oN⟩, lo⟩ ⟨⟨c0, by omega⟩, lc⟩ (fun w => nf w.symm) (cMt_y.mp mt)
    have ni : ¬ tb (s : Int) i.toNat = true := fun w => hc.2 ⟨i, hi, w, ei⟩
    have nj : ¬ tb (s : Int) j.toNat = true := fun w => ho.2 ⟨j, hj, w, ej⟩
    refine nj (h i hi.1 hi.2 ni j hj.1 hj.2 (by rw [ei, ej]; exact mt) ?_)
    rw [ei, ej, two_e E L]
    exact ⟨c, o, ⟨⟨c0, by omega⟩, lc, rfl⟩, ⟨⟨by omega, oN⟩, lo, rfl⟩, fun w => nf w.symm⟩
  · intro h i i0 i1 ni j j0 j1 mt tw
    by_cases w : tb (s : Int) j.toNat = true
    · exact w
    · exfalso
      obtain ⟨c, o, ⟨nc, lc, ec⟩, ⟨no, lo, eo⟩, nf⟩ := (two_e E L _ _).mp tw
      have hc : inY X y c ∧ ¬ isAw X (X 88 c) (s : Nat) := by
        refine ⟨(iy c).mpr ((inY_e R nc.1 nc.2).mpr lc), fun a => ?_⟩
        rw [f88, aw] at a
        obtain ⟨i', hi', t, e⟩ := a
        have := inj i' i hi'.1 hi'.2 i0 i1 (e.trans ec)
        rw [this] at t
        exact ni t
      have ho : inY X y o ∧ ¬ isAw X (X 88 o) (s : Nat) := by
        refine ⟨(iy o).mpr ((inY_e R no.1 no.2).mpr lo), fun a => ?_⟩
        rw [f88, aw] at a
        obtain ⟨i', hi', t, e⟩ := a
        have := inj i' j hi'.1 hi'.2 j0 j1 (e.trans eo)
        rw [this] at t
        exact w t
      rcases Int.lt_trichotomy c o with z | z | z
      · exact h c o nc.1 z no.2 hc ho ((tr c o).mpr ⟨fun w => nf w.symm, by rw [ec, eo]; exact mt⟩)
      · rw [z] at nf
        exact nf rfl
      · exact h o c no.1 z nc.2 ho hc ((tr o c).mpr ⟨nf, by rw [ec, eo]; exact cMt_y.mp mt⟩)


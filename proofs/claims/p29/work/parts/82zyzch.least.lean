-- ===== the least land =====
theorem bA_ne {a b : Int} : bAnd a b ≠ 0 ↔ ∃ x, x < 32 ∧ tb a x = true ∧ tb b x = true := by
  constructor
  · intro h
    by_cases z : ∃ x, x < 32 ∧ tb a x = true ∧ tb b x = true
    · exact z
    · refine absurd ?_ h
      have e : ∀ x, x < 32 → tb (Int32.ofInt a &&& Int32.ofInt b).toInt x = tb (0 : Int32).toInt x := fun x hx => by
        have l : tb (bAnd a b) x = tb 0 x := by
          rw [tb_and, tb_0 hx]
          cases ea : tb a x with
          | false => rfl
          | true =>
            cases eb : tb b x with
            | false => rfl
            | true => exact absurd ⟨x, hx, ea, eb⟩ z
        exact l
      have := tb_ext e
      exact this
  · rintro ⟨x, hx, h1, h2⟩ z
    have l : tb (bAnd a b) x = true := by rw [tb_and, h1, h2]; rfl
    rw [z, tb_0 hx] at l
    cases l
theorem rkd_m {V V1 W : vS} {k : Int} (x : ∀ (c : Nat) j, 72 ≤ c → c ≤ 110 → V1 c j = V c j) (RR : R239 V1 k W) : rkd V W k := by
  obtain ⟨⟨a, b, c⟩, d, e⟩ := rkd_R RR
  have M : agM V V1 := ⟨fun c j u v => x c j (by omega) (by omega), x 72 _ (by decide) (by decide), x 72 _ (by decide) (by decide), x 72 _ (by decide) (by decide)⟩
  refine ⟨⟨a.trans (x 72 19 (by decide) (by decide)), fun i => (b i).trans (x 87 i (by decide) (by decide)), fun i => (c i).trans (x 90 i (by decide) (by decide))⟩, fun i u v => ?_, fun i u v mc y0 y1 => ?_⟩
  · rw [d i u (by rw [x 72 19 (by decide) (by decide)]; exact v)]
    exact bI_c (mcn_m M i _)
  · have r := e i u (by rw [x 72 19 (by decide) (by decide)]; exact v) ((mcn_m M i _).mpr mc) (by rw [x 90 i (by decide) (by decide)]; exact y0) (by rw [x 90 i (by decide) (by decide)]; exact y1)
    exact ⟨r.1.trans (vG_m M _ i), r.2.trans (vF_m M _ i)⟩
theorem inY_e {V W : vS} {k y : Int} (R : rkd V W k) {c : Int} (c0 : 0 ≤ c) (cN : c < V 72 19) : inY W y c ↔ LkM V k y c := by
  unfold inY LkM
  rw [R.1.2.2 c, R.2.1 c c0 cN]
  refine and_congr_left (fun _ => ?_)
  by_cases z : mcn V c k
  · rw [bI_t z]
    exact ⟨fun _ => z, fun _ => by decide⟩
  · rw [bI_f z]
    exact ⟨fun w => absurd rfl w, fun w => absurd w z⟩
theorem nQ_pos {R : Int → Prop} {n : Nat} : 0 < nQ R n ↔ ∃ j : Nat, j < n ∧ R (j : Nat) := by
  constructor
  · intro h
    obtain ⟨b, b1, b2, -⟩ := nQ_inv (R := R) (Int.le_refl 0) n h
    exact ⟨b, b1, b2⟩
  · rintro ⟨j, hj, r⟩
    have := nQ_lt (R := R) hj r
    have := nQ_b R j
    omega
-- a square of two claims' fields: the rows meet
theorem meet_q {V : vS} (E : EQ V) (R : JR24 V) (c o : Int) : cMt V (V 18 c) (V 18 o) ↔ ∃ q, (0 ≤ q ∧ q < 576) ∧ InM V c q ∧ InM V o q := by
  constructor
  · rintro ⟨y, hy, h⟩
    obtain ⟨x, hx, h1, h2⟩ := bA_ne.mp h
    have x24 : x < 24 := by
      by_cases z : x < 24
      · exact z
      · rw [tb_hi (R _).1 (R _).2 (by omega)] at h1
        cases h1
    exact ⟨24 * y + (x : Int), ⟨by omega, by omega⟩, (in_b E hy x24).mpr h1, (in_b E hy x24).mpr h2⟩
  · rintro ⟨q, hq, h1, h2⟩
    have hy : 0 ≤ q / 24 ∧ q / 24 < 24 := by omega
    have hx : (q % 24).toNat < 24 := by omega
    have e : q = 24 * (q / 24) + (((q % 24).toNat : Nat) : Int) := by omega
    rw [e] at h1 h2
    exact ⟨q / 24, hy, bA_ne.mpr ⟨(q % 24).toNat, by omega, (in_b E hy hx).mp h1, (in_b E hy hx).mp h2⟩⟩
theorem mMt_e {V W : vS} (Rw : ∀ j, V 8 j = V 80 j) (e : ∀ j, W 80 j = V 80 j) (a b : Int) : mMt W a b ↔ cMt V a b := by
  unfold mMt cMt
  simp only [e, ← Rw]
section LST
variable {V W : vS} {q : Nat} {y k : Int}
theorem li_l (E : EQ V) (L : lis V q y k) {i : Int} (i0 : 0 ≤ i) (iN : i < V q 5) : (0 ≤ V (q + 1) i ∧ V (q + 1) i < V 72 19) ∧ LkM V k y (V (q + 1) i) := by
  obtain ⟨C, B, Od, hd, -⟩ := E
  obtain ⟨p, pN, zc, ci, e⟩ := li_s L i0 iN
  have m0 := Od.1 (p : Nat) (by omega) pN
  have l0 := (cnt_l C B Od hd (by omega) pN).mp zc
  rw [← e] at m0 l0
  exact ⟨⟨m0.1, by rw [← C.1]; exact m0.2⟩, l0⟩
theorem li_cl (E : EQ V) (L : lis V q y k) {c : Int} (n : 0 ≤ c ∧ c < V 72 19) (l : LkM V k y c) : ∃ i, (0 ≤ i ∧ i < V q 5) ∧ V (q + 1) i = c := by
  obtain ⟨C, B, Od, hd, -⟩ := E
  obtain ⟨p, pN, z, e, lt, s⟩ := li_m C B Od hd L n.1 n.2 l
  exact ⟨_, ⟨by omega, lt⟩, s⟩
theorem mTr_e (A : AP V) (R : rkd V W k) (e8 : ∀ c, W 88 c = V 88 c) (e80 : ∀ j, W 80 j = V 80 j) (c o : Int) : mTr W c o ↔ V 17 c ≠ V 17 o ∧ cMt V (V 18 c) (V 18 o) := by
  have C := A.1.1
  unfold mTr
  rw [R.1.2.1, R.1.2.1, e8, e8, mMt_e A.1.2.2.2.2.1 e80, ← C.2.1, ← C.2.1, ← C.2.2.1, ← C.2.2.1]
theorem cMt_y {a b : Int} : cMt V a b ↔ cMt V b a := by
  have f : ∀ a b, cMt V a b → cMt V b a := fun a b ⟨y, hy, h⟩ => by
    obtain ⟨x, hx, h1, h2⟩ := bA_ne.mp h
    exact ⟨y, hy, bA_ne.mpr ⟨x, hx, h2, h1⟩⟩
  exact ⟨f a b, f b a⟩
theorem TR_e (A : AP V) (S : scK V q y k) (F : JCf V) (R : rkd V W k) (e8 : ∀ c, W 88 c = V 88 c) (e80 : ∀ j, W 80 j = V 80 j) (em : ∀ b, mField W b ↔ mField V b) (b : Int) : TR V q b ↔ TM W y b := by
  have E := A.1
  have C := A.1.1
  have B := A.1.2.1
  have R24 := A.2.2.2.1.2.2
  obtain ⟨-, L, -, fl, -⟩ := S
  unfold TR TM
  rw [em b, ← field_j B]
  refine and_congr_right (fun _ => ?_)
  constructor
  · rintro ⟨⟨i, hi, eb⟩, sq⟩
    obtain ⟨n0, l0⟩ := li_l E L hi.1 hi.2
    rw [← eb, bad_e E L R24 fl (c := V (q + 1) i) 24 (Nat.le_refl _)] at sq
    obtain ⟨j, hj, ⟨in0, c1, c2, ⟨n1, l1, i1⟩, ⟨n2, l2, i2⟩, ne⟩⟩ := nQ_pos.mp sq
    have hj : (0 : Int) ≤ (j : Int) ∧ (j : Int) < 576 := by omega
    have give : ∀ o, (0 ≤ o ∧ o < V 72 19) → LkM V k y o → InM V o (j : Nat) → V 87 o ≠ V 87 (V (q + 1) i) → hasT W b y := fun o no lo io nf => by
      refine ⟨V (q + 1) i, o, by rw [R.1.1]; exact ⟨n0, no⟩, ⟨(inY_e R n0.1 n0.2).mpr l0, by rw [e8, ← C.2.2.1]; exact eb⟩, (inY_e R no.1 no.2).mpr lo, (mTr_e A R e8 e80 _ _).mpr ⟨?_, (meet_q E R24 _ _).mpr ⟨(j : Nat), hj, in0, io⟩⟩⟩
      rw [C.2.1, C.2.1]
      exact fun w => nf w.symm
    by_cases z : V 87 c1 = V 87 (V (q + 1) i)
    · exact give c2 n2 l2 i2 (fun w => ne (z.trans w.symm))
    · exact give c1 n1 l1 i1 z
  · rintro ⟨c, o, ⟨nc, no⟩, ⟨yc, eb⟩, yo, tr⟩
    rw [R.1.1] at nc no
    have lc := (inY_e R nc.1 nc.2).mp yc
    have lo := (inY_e R no.1 no.2).mp yo
    obtain ⟨nf, mt⟩ := (mTr_e A R e8 e80 _ _).mp tr
    rw [e8, ← C.2.2.1] at eb
    obtain ⟨i, hi, ei⟩ := li_cl E L nc lc
    refine ⟨⟨i, hi, by rw [ei]; exact eb⟩, ?_⟩
    rw [← eb, bad_e E L R24 fl (c := c) 24 (Nat.le_refl _)]
    obtain ⟨p, hp, p1, p2⟩ := (meet_q E R24 _ _).mp mt
    refine nQ_pos.mpr ⟨p.toNat, by omega, ?_⟩
    rw [show ((p.toNat : Nat) : Int) = p by omega]
    refine ⟨p1, c, o, ⟨nc, lc, p1⟩, ⟨no, lo, p2⟩, ?_⟩
    rw [← C.2.1, ← C.2.1]
    exact nf
theorem two_e (E : EQ V) (L : lis V q y k) (a b : Int) : two V q a b ↔ ∃ c o, ((0 ≤ c ∧ c < V 72 19) ∧ LkM V k y c ∧ V 18 c = a) ∧ ((0 ≤ o ∧ o < V 72 19) ∧ LkM V k y o ∧ V 18 o = b) ∧ V 17 o ≠ V 17 c := by
  constructor
  · rintro ⟨i, j, ⟨hi, hj⟩, ea, eb, ne⟩
    have x := li_l E L hi.1 hi.2
    have z := li_l E L hj.1 hj.2
    exact ⟨_, _, ⟨x.1, x.2, ea⟩, ⟨z.1, z.2, eb⟩, ne⟩
  · rintro ⟨c, o, ⟨nc, lc, ea⟩, ⟨no, lo, eb⟩, ne⟩
    obtain ⟨i, hi, ei⟩ := li_cl E L nc lc
    obtain ⟨j, hj, ej⟩ := li_cl E L no lo
    exact ⟨i, j, ⟨hi, hj⟩, by rw [ei]; exact ea, by rw [ej]; exact eb, by rw [ei, ej]; exact ne⟩
end LST


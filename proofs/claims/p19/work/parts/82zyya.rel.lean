-- ===== 82zyya.rel: 11 texts =====
section
-- ===== seasons: the relation =====
def bd (V : vS) : Prop := (0 ≤ V 1 1 ∧ V 1 1 ≤ 150) ∧ (0 ≤ V 1 5 ∧ V 1 5 ≤ 150) ∧ (0 ≤ V 16 1 ∧ V 16 1 ≤ 300) ∧ (0 ≤ V 16 2 ∧ V 16 2 ≤ 40) ∧ 0 ≤ V 16 3 ∧ V 16 3 ≤ 200
theorem stm_bd {V : vS} (B : bd V) : stm V = V 1 1 + V 1 5 + V 16 1 + V 16 2 + V 16 3 := by
  obtain ⟨a, b, c, d, e⟩ := B
  unfold stm
  rw [w32_id (z := V 1 1 + V 1 5) (by omega) (by omega), w32_id (z := V 1 1 + V 1 5 + V 16 1) (by omega) (by omega), w32_id (z := V 1 1 + V 1 5 + V 16 1 + V 16 2) (by omega) (by omega), w32_id (by omega) (by omega)]
theorem stm_lt {V W : vS} (b : bd V) (b' : bd W) (h : V 1 1 + V 1 5 + V 16 1 + V 16 2 + V 16 3 < W 1 1 + W 1 5 + W 16 1 + W 16 2 + W 16 3) : stm V < stm W := by
  rw [stm_bd b, stm_bd b']
  exact h
def seaV (V : vS) (y : Int) (q : Nat) : Prop := 146 ≤ q ∧ slk V q ∧ V q 2 = y ∧ V q 5 ≤ 300 ∧ V q 4 ≤ stm V ∧ (V q 4 = stm V → scK V q y (V q 3))
def JSea (V : vS) : Prop := (∀ y, 0 ≤ y → y ≤ 9 → ∀ q : Nat, V 42 y = (q : Int) → seaV V y q) ∧ ∀ y y', (0 ≤ y ∧ y ≤ 9) → (0 ≤ y' ∧ y' ≤ 9) → y ≠ y' → ∀ q q' : Nat, V 42 y = (q : Int) → V 42 y' = (q' : Int) → q + 7 < q' ∨ q' + 7 < q
theorem seaV_c {V W : vS} {y : Int} {q : Nat} (s : seaV V y q) (e3 : ∀ (c : Nat) j, q ≤ c → c ≤ q + 7 → W c j = V c j) (l : stm V < stm W ∨ stm W = stm V ∧ ∀ (c : Nat) j, (c = 5 ∨ c = 8 ∨ 16 ≤ c ∧ c ≤ 31 ∧ c ≠ 19 ∧ c ≠ 22) → W c j = V c j) : seaV W y q := by
  obtain ⟨a, b, c, e, f, g⟩ := s
  have eq : ∀ j, W q j = V q j := fun j => e3 q j (Nat.le_refl _) (by omega)
  refine ⟨a, slk_c b (fun j _ _ _ => eq j), by rw [eq]; exact c, by rw [eq]; exact e, ?_, fun z => ?_⟩
  · rw [eq]
    rcases l with l | ⟨l, -⟩ <;> omega
  · rw [eq] at z
    rcases l with l | ⟨l, s⟩
    · omega
    · rw [eq]
      exact scK_c (g (by omega)) s (fun c j u v => e3 c j u (by omega))
theorem JSea_c {V W : vS} (J : JSea V) (e2 : ∀ j, W 42 j = V 42 j) (e3 : ∀ (c : Nat) j, 146 ≤ c → W c j = V c j) (l : stm V < stm W ∨ stm W = stm V ∧ ∀ (c : Nat) j, (c = 5 ∨ c = 8 ∨ 16 ≤ c ∧ c ≤ 31 ∧ c ≠ 19 ∧ c ≠ 22) → W c j = V c j) : JSea W := by
  refine ⟨fun y y0 y9 q e => ?_, fun y y' hy hy' n q q' e e' => J.2 y y' hy hy' n q q' ((e2 y).symm.trans e) ((e2 y').symm.trans e')⟩
  have s := J.1 y y0 y9 q ((e2 y).symm.trans e)
  have h := s.1
  exact seaV_c s (fun c j u _ => e3 c j (by omega)) l
theorem JSea_e {V W : vS} (J : JSea V) (e : ∀ (c : Nat) j, (c < 72 ∨ 146 ≤ c) → W c j = V c j) : JSea W :=
  JSea_c J (fun j => e 42 j (Or.inl (by decide))) (fun c j z => e c j (Or.inr z)) (Or.inr ⟨stm_c (fun c j z => e c j (Or.inl (by omega))), fun c j z => e c j (Or.inl (by omega))⟩)
theorem JSea_IV {h : aH} (I : IV h) : JSea (vw h) := ⟨fun y y0 y9 q e => by
  obtain ⟨a, b, c, -, e5, f, g⟩ := I.2.1 y y0 y9 q e
  exact ⟨a, b, c, e5, f, g⟩, I.2.2.1⟩
theorem rOK_IV {h : aH} (I : IV h) : rOK (vw h) := I.2.2.2.2.2.2.2
-- the shapes of a season's cells, out of the heap's typing
theorem sk_q {σ : List Nat} {h : aH} (I : dI σ h) {b : Int} {q : Nat} (b0 : 0 ≤ b) (e : vw h 42 b = (q : Int)) : σ[q]? = some 146 := by
  have hs := I.1.2.2.2 42 (by decide)
  obtain ⟨t, ht, t1, t2, t3, t4⟩ : ∃ t, cRT[42]? = some t ∧ t.1 = 3 ∧ t.2.1 = 4 ∧ t.2.2.1 = 10 ∧ t.2.2.2.1.toNat = 146 := ⟨_, rfl, rfl, rfl, rfl, rfl⟩
  obtain ⟨c', d1, d2⟩ := dH_cell I.1 hs ht
  obtain ⟨g', rfl, d3⟩ := dC_3 d2 t1
  rw [vw_a d1 b0] at e
  have e : (match g' b.toNat with
    | some q => (q : Int)
    | none => -1) = (q : Int) := e
  cases hg : g' b.toNat with
  | none =>
    rw [hg] at e
    have e : (-1 : Int) = (q : Int) := e
    omega
  | some q' =>
    rw [hg] at e
    have e : (q' : Int) = (q : Int) := e
    have e : q' = q := by omega
    subst e
    have := d3 _ _ hg
    rw [t4] at this
    exact this
theorem sk_f {σ : List Nat} {h : aH} (I : dI σ h) {q i r p : Nat} (hq : σ[q]? = some 146) (k : ∃ t, cRT[146]? = some t ∧ t.1 = 0 ∧ t.2.2.2.2.2[i]? = some (1, (r : Int), 0)) (e : vw h q (i : Nat) = (p : Int)) : σ[p]? = some r := by
  obtain ⟨t, ht, t1, t2⟩ := k
  obtain ⟨c, c1, c2⟩ := dH_cell I.1 hq ht
  obtain ⟨fs, rfl, -, f⟩ := dC_0 c2 t1
  obtain ⟨v, v1, v2⟩ := f i _ t2
  obtain ⟨q', rfl, hq'⟩ : ∃ q' : Nat, v = .ref q' ∧ σ[q']? = some ((r : Int).toNat) := v2
  rw [vw_o c1 v1] at e
  have e : (q' : Int) = (p : Int) := e
  have e : q' = p := by omega
  subst e
  rw [Int.toNat_natCast] at hq'
  exact hq'
theorem sk_a {σ : List Nat} {h : aH} (I : dI σ h) {p r N : Nat} (hp : σ[p]? = some r) (k : ∃ t, cRT[r]? = some t ∧ t.1 = 1 ∧ t.2.2.1 = N) : ∃ t y, h.1[p]? = some (.inl (t, N, y)) := by
  obtain ⟨t, ht, t1, rfl⟩ := k
  obtain ⟨c, c1, c2⟩ := dH_cell I.1 hp ht
  obtain ⟨g, rfl, -⟩ := dC_1 c2 t1
  exact ⟨_, _, c1⟩
theorem skd_of {σ : List Nat} {h : aH} (I : dI σ h) {q : Nat} (hq : σ[q]? = some 146) (s : slk (vw h) q) : skd h q := by
  obtain ⟨-, -, -, s7, s8, s9, s10, s11, s12⟩ := s
  exact ⟨sk_a I (sk_f I hq (i := 7) (r := 148) ⟨_, rfl, rfl, rfl⟩ s7) ⟨_, rfl, rfl, rfl⟩, sk_a I (sk_f I hq (i := 10) (r := 151) ⟨_, rfl, rfl, rfl⟩ s10) ⟨_, rfl, rfl, rfl⟩, sk_a I (sk_f I hq (i := 11) (r := 152) ⟨_, rfl, rfl, rfl⟩ s11) ⟨_, rfl, rfl, rfl⟩, sk_a I (sk_f I hq (i := 12) (r := 153) ⟨_, rfl, rfl, rfl⟩ s12) ⟨_, rfl, rfl, rfl⟩⟩
-- cells of a region that isn't written
theorem vw_un {W : List (Nat × Nat)} {σ σ1 : List Nat} {h h1 : aH} (I : dI σ h) (G : dG W σ h σ1 h1) {p r : Nat} (hp : σ[p]? = some r) (k : ∀ i, cWn W r i = false) (j : Int) : vw h1 p j = vw h p j := by
  obtain ⟨t, c, -, c1, -⟩ := I.1.2.1 p r hp
  obtain ⟨c', c2, f1, f2⟩ := G.2.1 p r c hp c1
  cases c with
  | inl x =>
    have := f1 x rfl (k 0)
    rw [this] at c2
    exact vw_eq (c2.trans c1.symm) j
  | inr x =>
    obtain ⟨ci, fs⟩ := x
    obtain ⟨fs', rfl, e⟩ := f2 ci fs rfl
    have : fs' = fs := List.ext_getElem? (fun i => e i (k i))
    rw [this] at c2
    exact vw_eq (c2.trans c1.symm) j
def frS (W : List (Nat × Nat)) : Bool := W.all (fun t => !(Nat.beq t.1 16) && (Nat.blt t.1 146 || Nat.blt 153 t.1))
theorem frS_n {W : List (Nat × Nat)} (k : frS W = true) {r i : Nat} (hr : r = 16 ∨ 146 ≤ r ∧ r ≤ 153) : cWn W r i = false := by
  unfold cWn
  rw [List.any_eq_false]
  intro t ht
  unfold frS at k
  rw [List.all_eq_true] at k
  have n := k t ht
  simp only [Bool.and_eq_true, Bool.not_eq_true', Bool.or_eq_true, Nat.blt_eq] at n
  intro z
  simp only [Bool.and_eq_true] at z
  have e := Nat.eq_of_beq_eq_true z.1
  obtain ⟨n, b⟩ := n
  rcases hr with rfl | hr
  · rw [e] at n
    exact absurd n (by decide)
  · omega
def LSea : List (Nat × Option Nat) := [(1, some 1), (1, some 5), (5, none), (8, none), (17, none), (18, none), (20, none), (21, none), (23, none), (24, none), (25, none), (26, none), (27, none), (28, none), (29, none), (30, none), (31, none), (42, none)]
theorem JSea_dG {W : List (Nat × Nat)} {σ σ1 : List Nat} {h h1 : aH} (J : JSea (vw h)) (I : dI σ h) (G : dG W σ h σ1 h1) (k : (frL W LSea && frS W) = true) : JSea (vw h1) := by
  rw [Bool.and_eq_true] at k
  obtain ⟨a1, a2, a5, a8, a17, a18, a20, a21, a23, a24, a25, a26, a27, a28, a29, a30, a31, a42, -⟩ := ag_dG I.1 G _ k.1
  have e16 : ∀ j, vw h1 16 j = vw h 16 j := vw_un I G (I.1.2.2.2 16 (by decide)) (fun i => frS_n k.2 (Or.inl rfl))
  have st : stm (vw h1) = stm (vw h) := by
    unfold stm
    rw [show vw h1 1 1 = vw h 1 1 from a1, show vw h1 1 5 = vw h 1 5 from a2, e16, e16, e16]
  have sc : ∀ (c : Nat) j, (c = 5 ∨ c = 8 ∨ 16 ≤ c ∧ c ≤ 31 ∧ c ≠ 19 ∧ c ≠ 22) → vw h1 c j = vw h c j := fun c j z => by
    have z : c = 5 ∨ c = 8 ∨ c = 16 ∨ c = 17 ∨ c = 18 ∨ c = 20 ∨ c = 21 ∨ c = 23 ∨ c = 24 ∨ c = 25 ∨ c = 26 ∨ c = 27 ∨ c = 28 ∨ c = 29 ∨ c = 30 ∨ c = 31 := by omega
    rcases z with z | z | z | z | z | z | z | z | z | z | z | z | z | z | z | z <;> rw [z]
    · exact a5 j
    · exact a8 j
    · exact e16 j
    · exact a17 j
    · exact a18 j
    · exact a20 j
    · exact a21 j
    · exact a23 j
    · exact a24 j
    · exact a25 j
    · exact a26 j
    · exact a27 j
    · exact a28 j
    · exact a29 j
    · exact a30 j
    · exact a31 j
  have lt : ∀ (y : Int) (q : Nat), 0 ≤ y → vw h 42 y = (q : Int) → slk (vw h) q → ∀ (c : Nat) j, q ≤ c → c ≤ q + 7 → vw h1 c j = vw h c j := fun y q y0 e s c j u v => by
    have hq := sk_q I y0 e
    obtain ⟨-, -, s6, s7, s8, s9, s10, s11, s12⟩ := s
    have z : c = q ∨ c = q + 1 ∨ c = q + 2 ∨ c = q + 3 ∨ c = q + 4 ∨ c = q + 5 ∨ c = q + 6 ∨ c = q + 7 := by omega
    rcases z with z | z | z | z | z | z | z | z <;> rw [z]
    · exact vw_un I G hq (fun i => frS_n k.2 (Or.inr ⟨by decide, by decide⟩)) j
    · exact vw_un I G (sk_f I hq (i := 6) (r := 147) ⟨_, rfl, rfl, rfl⟩ s6) (fun i => frS_n k.2 (Or.inr ⟨by decide, by decide⟩)) j
    · exact vw_un I G (sk_f I hq (i := 7) (r := 148) ⟨_, rfl, rfl, rfl⟩ s7) (fun i => frS_n k.2 (Or.inr ⟨by decide, by decide⟩)) j
    · exact vw_un I G (sk_f I hq (i := 8) (r := 149) ⟨_, rfl, rfl, rfl⟩ s8) (fun i => frS_n k.2 (Or.inr ⟨by decide, by decide⟩)) j
    · exact vw_un I G (sk_f I hq (i := 9) (r := 150) ⟨_, rfl, rfl, rfl⟩ s9) (fun i => frS_n k.2 (Or.inr ⟨by decide, by decide⟩)) j
    · exact vw_un I G (sk_f I hq (i := 10) (r := 151) ⟨_, rfl, rfl, rfl⟩ s10) (fun i => frS_n k.2 (Or.inr ⟨by decide, by decide⟩)) j
    · exact vw_un I G (sk_f I hq (i := 11) (r := 152) ⟨_, rfl, rfl, rfl⟩ s11) (fun i => frS_n k.2 (Or.inr ⟨by decide, by decide⟩)) j
    · exact vw_un I G (sk_f I hq (i := 12) (r := 153) ⟨_, rfl, rfl, rfl⟩ s12) (fun i => frS_n k.2 (Or.inr ⟨by decide, by decide⟩)) j
  refine ⟨fun y y0 y9 q e => ?_, fun y y' hy hy' n q q' e e' => J.2 y y' hy hy' n q q' ((a42 y).symm.trans e) ((a42 y').symm.trans e')⟩
  have e0 := (a42 y).symm.trans e
  have s := J.1 y y0 y9 q e0
  exact seaV_c s (lt y q y0 e0 s.2.1) (Or.inr ⟨st, sc⟩)
end
section
-- ===== seasons: the relation =====
-- the reference's reckoning stands where what it was made of is as it was, for the fields that are claimed
def agN (V W : vS) : Prop := (∀ c, W 87 c = V 87 c) ∧ (∀ c, W 88 c = V 88 c) ∧ (∀ c, W 90 c = V 90 c) ∧ (W 72 19 = V 72 19 ∧ W 72 25 = V 72 25 ∧ W 72 32 = V 72 32) ∧ (∀ (c : Nat) j, 92 ≤ c → c < 103 → W c j = V c j) ∧ ∀ c, 0 ≤ c → c < V 72 19 → W 77 (V 88 c) = V 77 (V 88 c) ∧ ∀ q, 0 ≤ q → q < 576 → (InM W c q ↔ InM V c q)
section AGN
variable {V W : vS}
theorem lat_n (A : agN V W) (c o k : Int) : lat W c o k ↔ lat V c o k := by
  obtain ⟨a, b, d, -⟩ := A
  unfold lat
  simp only [a, b, d]
theorem mcn_n (A : agN V W) {c : Int} (c0 : 0 ≤ c) (cN : c < V 72 19) (k : Int) : mcn W c k ↔ mcn V c k := by
  have e := (A.2.2.2.2.2 c c0 cN).1
  unfold mcn
  simp only [lat_n A, A.2.2.1, A.2.1, A.2.2.2.1.1, e]
theorem mmg_n (A : agN V W) (c k : Int) (i : Nat) : mmg W c k i = mmg V c k i := by
  have e := A.2.2.2.2.1
  induction i with
  | zero => rfl
  | succ i ih =>
    rw [mmg_s, mmg_s, ih, e 98 _ (by decide) (by decide), e 99 _ (by decide) (by decide), e 100 _ (by decide) (by decide), e 101 _ (by decide) (by decide), e 102 _ (by decide) (by decide), A.1, A.2.1, A.2.2.1]
theorem isO_n (A : agN V W) (x y yr k : Int) : isO W x y yr k ↔ isO V x y yr k := by
  have f := A.2.2.2.2.1
  have e : ∀ i, oHm W x y yr k i ↔ oHm V x y yr k i := fun i => by
    unfold oHm
    rw [f 97 i (by decide) (by decide), f 96 i (by decide) (by decide), f 92 i (by decide) (by decide), f 93 i (by decide) (by decide), f 94 i (by decide) (by decide), f 95 i (by decide) (by decide)]
  unfold isO
  simp only [e, A.2.2.2.1.2.1]
theorem lk_n (A : agN V W) {c : Int} (c0 : 0 ≤ c) (cN : c < V 72 19) (k yr : Int) : LkM W k yr c ↔ LkM V k yr c := by
  unfold LkM
  rw [mcn_n A c0 cN k, A.2.2.1 c]
theorem DB_n (A : agN V W) {q : Int} (q0 : 0 ≤ q) (q1 : q < 576) (k yr : Int) : DB W k yr q ↔ DB V k yr q := by
  have e19 := A.2.2.2.1.1
  unfold DB
  constructor
  · rintro ⟨c1, c2, ⟨n1, l1, i1⟩, ⟨n2, l2, i2⟩, ne⟩
    rw [e19] at n1 n2
    rw [A.1, A.1] at ne
    exact ⟨c1, c2, ⟨n1, (lk_n A n1.1 n1.2 k yr).mp l1, ((A.2.2.2.2.2 c1 n1.1 n1.2).2 q q0 q1).mp i1⟩, ⟨n2, (lk_n A n2.1 n2.2 k yr).mp l2, ((A.2.2.2.2.2 c2 n2.1 n2.2).2 q q0 q1).mp i2⟩, ne⟩
  · rintro ⟨c1, c2, ⟨n1, l1, i1⟩, ⟨n2, l2, i2⟩, ne⟩
    rw [← A.1 c1, ← A.1 c2] at ne
    exact ⟨c1, c2, ⟨by rw [e19]; exact n1, (lk_n A n1.1 n1.2 k yr).mpr l1, ((A.2.2.2.2.2 c1 n1.1 n1.2).2 q q0 q1).mpr i1⟩, ⟨by rw [e19]; exact n2, (lk_n A n2.1 n2.2 k yr).mpr l2, ((A.2.2.2.2.2 c2 n2.1 n2.2).2 q q0 q1).mpr i2⟩, ne⟩
theorem tkQ_n (A : agN V W) {q : Int} (q0 : 0 ≤ q) (q1 : q < 576) (k yr c : Int) : tkQ W k yr c q ↔ tkQ V k yr c q := by
  have e19 := A.2.2.2.1.1
  unfold tkQ
  constructor
  · rintro ⟨o, ⟨n, l, i⟩, f, g⟩
    rw [e19] at n
    rw [A.1, A.1] at f
    rw [A.2.1, A.2.1] at g
    exact ⟨o, ⟨n, (lk_n A n.1 n.2 k yr).mp l, ((A.2.2.2.2.2 o n.1 n.2).2 q q0 q1).mp i⟩, f, g⟩
  · rintro ⟨o, ⟨n, l, i⟩, f, g⟩
    exact ⟨o, ⟨by rw [e19]; exact n, (lk_n A n.1 n.2 k yr).mpr l, ((A.2.2.2.2.2 o n.1 n.2).2 q q0 q1).mpr i⟩, by rw [A.1, A.1]; exact f, by rw [A.2.1, A.2.1]; exact g⟩
theorem vG_n (A : agN V W) {c : Int} (c0 : 0 ≤ c) (cN : c < V 72 19) (k : Int) : vG W k c = vG V k c := by
  unfold vG
  rw [A.2.2.1 c]
  refine nQ_c 576 (fun q q0 q1 => ?_)
  have q1 : q < 576 := q1
  unfold gdR
  rw [(A.2.2.2.2.2 c c0 cN).2 q q0 q1, DB_n A q0 q1, isO_n A, tkQ_n A q0 q1]
theorem vB_n (A : agN V W) {c : Int} (c0 : 0 ≤ c) (cN : c < V 72 19) (k : Int) : vB W k c = vB V k c := by
  unfold vB
  rw [A.2.2.1 c]
  refine nQ_c 576 (fun q q0 q1 => ?_)
  have q1 : q < 576 := q1
  unfold bdR
  rw [(A.2.2.2.2.2 c c0 cN).2 q q0 q1, DB_n A q0 q1]
theorem vF_n (A : agN V W) {c : Int} (c0 : 0 ≤ c) (cN : c < V 72 19) (k : Int) : vF W k c = vF V k c := by
  unfold vF
  rw [vG_n A c0 cN k, A.2.2.2.1.2.2, mmg_n A]
theorem rOK_n (A : agN V W) (h3 : ∀ (c : Nat) j, 103 ≤ c → c ≤ 110 → W c j = V c j) (e8 : W 72 38 = V 72 38) (e9 : W 72 39 = V 72 39) (R : rOK V) : rOK W := by
  intro z
  obtain ⟨a, b⟩ := R (e8.symm.trans z)
  rw [e9]
  have e19 := A.2.2.2.1.1
  refine ⟨fun c c0 cN => ?_, fun c c0 cN m y0 y1 => ?_⟩
  · rw [e19] at cN
    rw [h3 103 c (by decide) (by decide), a c c0 cN]
    exact (bI_c (mcn_n A c0 cN _)).symm
  · rw [e19] at cN
    rw [A.2.2.1 c] at y0 y1
    have r := b c c0 cN ((mcn_n A c0 cN _).mp m) y0 y1
    exact ⟨(h3 104 c (by decide) (by decide)).trans (r.1.trans (vG_n A c0 cN _).symm), (h3 106 c (by decide) (by decide)).trans (r.2.1.trans (vB_n A c0 cN _).symm), (h3 105 c (by decide) (by decide)).trans (r.2.2.trans (vF_n A c0 cN _).symm)⟩
end AGN
def JRk (V : vS) : Prop := rOK V
theorem JRk_e {V W : vS} (R : JRk V) (e : ∀ (c : Nat) j, 72 ≤ c → c ≤ 110 → W c j = V c j) : JRk W :=
  rOK_n (V := V) (W := W) ⟨fun c => e 87 c (by decide) (by decide), fun c => e 88 c (by decide) (by decide), fun c => e 90 c (by decide) (by decide), ⟨e 72 _ (by decide) (by decide), e 72 _ (by decide) (by decide), e 72 _ (by decide) (by decide)⟩, fun c j u v => e c j (by omega) (by omega), fun c _ _ => ⟨e 77 _ (by decide) (by decide), fun q _ _ => by unfold InM; rw [e 88 c (by decide) (by decide)]; exact isI_c (fun j => e 80 j (by decide) (by decide)) _ _⟩⟩ (fun c j u v => e c j (by omega) v) (e 72 _ (by decide) (by decide)) (e 72 _ (by decide) (by decide)) R
def LRk : List (Nat × Option Nat) := [(72, some 19), (72, some 25), (72, some 32), (72, some 38), (72, some 39), (77, none), (80, none), (87, none), (88, none), (90, none), (92, none), (93, none), (94, none), (95, none), (96, none), (97, none), (98, none), (99, none), (100, none), (101, none), (102, none), (103, none), (104, none), (105, none), (106, none), (107, none), (108, none), (109, none), (110, none)]
theorem JRk_ag {V W : vS} (R : JRk V) (A : ag LRk V W) : JRk W := by
  obtain ⟨a19, a25, a32, a38, a39, a77, a80, a87, a88, a90, a92, a93, a94, a95, a96, a97, a98, a99, a100, a101, a102, a103, a104, a105, a106, a107, a108, a109, a110, -⟩ := A
  refine rOK_n (V := V) (W := W) ⟨a87, a88, a90, ⟨a19, a25, a32⟩, fun c j u v => ?_, fun c _ _ => ⟨a77 _, fun q _ _ => by unfold InM; rw [a88 c]; exact isI_c a80 _ _⟩⟩ (fun c j u v => ?_) a38 a39 R
  · have z : c = 92 ∨ c = 93 ∨ c = 94 ∨ c = 95 ∨ c = 96 ∨ c = 97 ∨ c = 98 ∨ c = 99 ∨ c = 100 ∨ c = 101 ∨ c = 102 := by omega
    rcases z with z | z | z | z | z | z | z | z | z | z | z <;> rw [z]
    · exact a92 j
    · exact a93 j
    · exact a94 j
    · exact a95 j
    · exact a96 j
    · exact a97 j
    · exact a98 j
    · exact a99 j
    · exact a100 j
    · exact a101 j
    · exact a102 j
  · have z : c = 103 ∨ c = 104 ∨ c = 105 ∨ c = 106 ∨ c = 107 ∨ c = 108 ∨ c = 109 ∨ c = 110 := by omega
    rcases z with z | z | z | z | z | z | z | z <;> rw [z]
    · exact a103 j
    · exact a104 j
    · exact a105 j
    · exact a106 j
    · exact a107 j
    · exact a108 j
    · exact a109 j
    · exact a110 j
theorem JRk_dG {W : List (Nat × Nat)} {σ σ1 : List Nat} {h h1 : aH} (J : JRk (vw h)) (I : dI σ h) (G : dG W σ h σ1 h1) (k : frL W LRk = true) : JRk (vw h1) := JRk_ag J (ag_dG I.1 G _ k)
end
section
-- ===== seasons: the relation =====
-- the small pieces
def JCf (V : vS) : Prop := (∀ c, 0 ≤ V 18 c ∧ V 18 c < 150) ∧ ∀ c, 0 ≤ c → c < V 16 1 → cFarm V (V 17 c) ∧ cField V (V 18 c)
def J30 (V : vS) : Prop := ∀ j, 0 ≤ V 30 j ∧ V 30 j ≤ 576
def gnP (V : vS) (j : Int) : Prop := j < V 1 1 ∧ V 5 j ≠ -1
def JGone (V : vS) : Prop := V 1 5 = nQ (gnP V) 150
theorem JGone_b {V : vS} (G : JGone V) : 0 ≤ V 1 5 ∧ V 1 5 ≤ 150 := by
  rw [G]
  exact nQ_b _ 150
def LOrd : List (Nat × Option Nat) := [(16, some 1), (17, none), (18, none), (20, none), (21, none)]
theorem JOrd_ag {V W : vS} (J : JOrd V) (A : ag LOrd V W) : JOrd W := by
  obtain ⟨a1, a2, a3, a4, a5, -⟩ := A
  have a1 : W 16 1 = V 16 1 := a1
  unfold JOrd lxl at J ⊢
  simp only [a1, a2, a3, a4, a5]
  exact J
def LDay : List (Nat × Option Nat) := [(20, none), (1, some 0)]
theorem JDay_ag {V W : vS} (J : JDay V) (A : ag LDay V W) : JDay W := by
  obtain ⟨a1, a2, -⟩ := A
  have a2 : W 1 0 = V 1 0 := a2
  unfold JDay at J ⊢
  simp only [a1, a2]
  exact J
def LCf : List (Nat × Option Nat) := [(16, some 1), (17, none), (18, none), (1, some 1), (2, none)]
theorem JCf_ag {V W : vS} (J : JCf V) (A : ag LCf V W) : JCf W := by
  obtain ⟨a1, a2, a3, a4, a5, -⟩ := A
  have a1 : W 16 1 = V 16 1 := a1
  have a4 : W 1 1 = V 1 1 := a4
  unfold JCf cFarm cField cBody at J ⊢
  simp only [a1, a2, a3, a4, a5]
  exact J
def LR24 : List (Nat × Option Nat) := [(8, none)]
theorem JR24_ag {V W : vS} (J : JR24 V) (A : ag LR24 V W) : JR24 W := fun j => by
  rw [A.1 j]
  exact J j
def L30 : List (Nat × Option Nat) := [(30, none)]
theorem J30_ag {V W : vS} (J : J30 V) (A : ag L30 V W) : J30 W := fun j => by
  rw [A.1 j]
  exact J j
def LOut2 : List (Nat × Option Nat) := [(16, some 2), (92, none), (94, none)]
theorem JOut2_ag {V W : vS} (J : JOut2 V) (A : ag LOut2 V W) : JOut2 W := by
  obtain ⟨a1, a2, a3, -⟩ := A
  have a1 : W 16 2 = V 16 2 := a1
  unfold JOut2 at J ⊢
  simp only [a1, a2, a3]
  exact J
def LCtl : List (Nat × Option Nat) := [(16, some 3), (72, some 32), (27, none), (98, none), (28, none), (99, none), (29, none), (100, none), (30, none), (101, none), (31, none), (102, none)]
theorem JCtl_ag {V W : vS} (J : JCtl V) (A : ag LCtl V W) : JCtl W := by
  obtain ⟨a1, a2, a3, a4, a5, a6, a7, a8, a9, a10, a11, a12, -⟩ := A
  have a1 : W 16 3 = V 16 3 := a1
  have a2 : W 72 32 = V 72 32 := a2
  unfold JCtl at J ⊢
  simp only [a1, a2, a3, a4, a5, a6, a7, a8, a9, a10, a11, a12]
  exact J
def LGone : List (Nat × Option Nat) := [(1, some 1), (1, some 5), (5, none)]
theorem JGone_ag {V W : vS} (J : JGone V) (A : ag LGone V W) : JGone W := by
  obtain ⟨a1, a2, a3, -⟩ := A
  have a1 : W 1 1 = V 1 1 := a1
  have a2 : W 1 5 = V 1 5 := a2
  unfold JGone at J ⊢
  rw [a2, J]
  refine nQ_c 150 (fun j _ _ => ?_)
  unfold gnP
  rw [a1, a3]
section DG
variable {W : List (Nat × Nat)} {σ σ1 : List Nat} {h h1 : aH}
theorem JOrd_dG (J : JOrd (vw h)) (I : dI σ h) (G : dG W σ h σ1 h1) (k : frL W LOrd = true) : JOrd (vw h1) := JOrd_ag J (ag_dG I.1 G _ k)
theorem JDay_dG (J : JDay (vw h)) (I : dI σ h) (G : dG W σ h σ1 h1) (k : frL W LDay = true) : JDay (vw h1) := JDay_ag J (ag_dG I.1 G _ k)
theorem JCf_dG (J : JCf (vw h)) (I : dI σ h) (G : dG W σ h σ1 h1) (k : frL W LCf = true) : JCf (vw h1) := JCf_ag J (ag_dG I.1 G _ k)
theorem JR24_dG (J : JR24 (vw h)) (I : dI σ h) (G : dG W σ h σ1 h1) (k : frL W LR24 = true) : JR24 (vw h1) := JR24_ag J (ag_dG I.1 G _ k)
theorem J30_dG (J : J30 (vw h)) (I : dI σ h) (G : dG W σ h σ1 h1) (k : frL W L30 = true) : J30 (vw h1) := J30_ag J (ag_dG I.1 G _ k)
theorem JOut2_dG (J : JOut2 (vw h)) (I : dI σ h) (G : dG W σ h σ1 h1) (k : frL W LOut2 = true) : JOut2 (vw h1) := JOut2_ag J (ag_dG I.1 G _ k)
theorem JCtl_dG (J : JCtl (vw h)) (I : dI σ h) (G : dG W σ h σ1 h1) (k : frL W LCtl = true) : JCtl (vw h1) := JCtl_ag J (ag_dG I.1 G _ k)
theorem JGone_dG (J : JGone (vw h)) (I : dI σ h) (G : dG W σ h σ1 h1) (k : frL W LGone = true) : JGone (vw h1) := JGone_ag J (ag_dG I.1 G _ k)
end DG
-- a frame over numbers
theorem ag_of {V W : vS} (e : ∀ (c : Nat) j, c < 146 → c ≠ 42 → W c j = V c j) : ∀ L : List (Nat × Option Nat), L.all (fun t => Nat.blt t.1 146 && !(Nat.beq t.1 42)) = true → ag L V W
  | [], _ => trivial
  | (c, none) :: r, k => by
    rw [List.all_cons, Bool.and_eq_true] at k
    have k1 := k.1
    simp only [Bool.and_eq_true, Bool.not_eq_true', Nat.blt_eq] at k1
    exact ⟨fun j => e c j k1.1 (fun z => by have := k1.2; rw [z] at this; exact absurd this (by decide)), ag_of e r k.2⟩
  | (c, some i) :: r, k => by
    rw [List.all_cons, Bool.and_eq_true] at k
    have k1 := k.1
    simp only [Bool.and_eq_true, Bool.not_eq_true', Nat.blt_eq] at k1
    exact ⟨e c _ k1.1 (fun z => by have := k1.2; rw [z] at this; exact absurd this (by decide)), ag_of e r k.2⟩
theorem bd_of {V : vS} (C : JClm V) (B : JBody V) (O : JOut V) (K : JCtl V) (G : JGone V) : bd V := ⟨⟨B.2.2.2.2.2.1, B.2.2.2.2.2.2.1⟩, JGone_b G, C.2.2.2.2.2, ⟨O.2.1, O.2.2.1⟩, K.2.2.2.2.2.2⟩
theorem pb_of {V : vS} (C : JClm V) (B : JBody V) (O : JOut V) (Od : JOrd V) (F : JCf V) (R : JR24 V) (K : JCtl V) (G : JGone V) : pb V := by
  refine ⟨⟨⟨B.2.2.2.2.2.1, B.2.2.2.2.2.2.1⟩, JGone_b G⟩, C.2.2.2.2.2, fun p _ _ => F.1 _, fun p p' a b c => ?_, fun j => ⟨(R j).1, by have := R j; omega⟩, ⟨O.2.1, O.2.2.1⟩, K.2.2.2.2.2.2⟩
  by_cases z : p = p'
  · rw [z]
    exact Int.le_refl _
  · have := Od.2.1 p p' a (by omega) c
    unfold lxl at this
    omega
theorem IV_of {σ : List Nat} {h : aH} (I : dI σ h) (C : JClm (vw h)) (B : JBody (vw h)) (O : JOut (vw h)) (Od : JOrd (vw h)) (F : JCf (vw h)) (R : JR24 (vw h)) (K : JCtl (vw h)) (G : JGone (vw h)) (S : JSea (vw h)) (Rk : JRk (vw h)) : IV h := by
  refine ⟨pb_of C B O Od F R K G, fun y y0 y9 q e => ?_, S.2, ⟨by rw [← C.1]; exact C.2.2.2.2.2, by rw [← O.1]; exact ⟨O.2.1, O.2.2.1⟩, by rw [← K.1]; exact K.2.2.2.2.2.2, fun c c0 c1 => ?_, Rk⟩⟩
  · obtain ⟨a, b, c, e5, f, g⟩ := S.1 y y0 y9 q e
    exact ⟨a, b, c, skd_of I (sk_q I y0 e) b, e5, f, g⟩
  · rw [← C.2.1 c]
    exact (vw_rng I (c := 17) (a := 0) (n := 300) (lo := 0) (hi := 149) (by decide +kernel) c0 c1).1
theorem p1_IV {h : aH} (I : IV h) : ∀ y, 0 ≤ y → y ≤ 9 → p1 h y := fun y y0 y9 => ⟨I.1, fun _ _ q e => by
  obtain ⟨a, b, c, d, -⟩ := I.2.1 y y0 y9 q e.symm
  exact ⟨a, b, c, d⟩⟩
theorem hn_IV {h : aH} (I : IV h) : ∀ q : Nat, (∃ y, (0 ≤ y ∧ y ≤ 9) ∧ (q : Int) = vw h 42 y) → vw h q 5 ≤ 300 := fun q ⟨y, hy, e⟩ => (I.2.1 y hy.1 hy.2 q e.symm).2.2.2.2.1
theorem hF_of {V : vS} (B : JBody V) : ∀ b, cField V b → 0 ≤ b ∧ b < 150 := fun b h => by
  have h1 := B.2.2.2.2.2.1
  have h2 := B.2.2.2.2.2.2.1
  obtain ⟨⟨h3, h4⟩, -⟩ := h
  rw [w32_id (by omega) (by omega)] at h4
  omega
theorem max_if (d : Int) : max 0 d = if 0 ≤ d then d else 0 := by
  split <;> omega
theorem late_of {V : vS} (B : JBody V) (F : JCf V) (C : JClm V) (h74 : ∀ j, 0 ≤ j → j < 150 → 0 ≤ V 74 j ∧ V 74 j ≤ 3) (h22 : ∀ j, 0 ≤ j → j < 4 → V 22 j = V 91 j) : ∀ c, 0 ≤ c → c < V 16 1 → lt1 V c = lt0 V c := by
  intro c c0 cN
  obtain ⟨⟨⟨f1, f2⟩, f3⟩, -⟩ := F.2 c c0 cN
  have n0 := B.2.2.2.2.2.1
  have n1 := B.2.2.2.2.2.2.1
  rw [w32_id (by omega) (by omega)] at f2
  have e := (B.2.2.2.2.2.2.2.2 (V 17 c) f1 (by omega)).1 f3
  have r := h74 (V 17 c) f1 (by omega)
  unfold lt1 lt0
  rw [if_pos (by rw [e]; exact r), ← C.2.1, ← C.2.2.2.2.1, e, h22 _ r.1 (by omega)]
  exact max_if _
end
section
-- ===== seasons: the relation =====
-- a body more, on both sides
def cAd (V W : vS) : Prop := (0 ≤ V 1 1 ∧ V 1 1 < 150) ∧ W 1 1 = V 1 1 + 1 ∧ (∀ j, j ≠ V 1 1 → W 2 j = V 2 j ∧ W 5 j = V 5 j) ∧ W 5 (V 1 1) = -1 ∧ W 1 5 = V 1 5 ∧ ∀ (c : Nat) j, 16 ≤ c → W c j = V c j
theorem cAd_v {V : vS} {k m t : Int} (h : 0 ≤ V 1 1 ∧ V 1 1 < 150) : cAd V (cAddV V k m t) := by
  refine ⟨h, by rw [cA_n, w32_id (by omega) (by omega)], fun j n => ⟨by rw [cA_2, if_neg n], by rw [cA_5, if_neg n]⟩, by rw [cA_5, if_pos rfl], ?_, fun c j z => cAddV_c (by omega) (by omega) (by omega) (by omega) (by omega) (by omega)⟩
  unfold cAddV
  rw [up_j (by decide), up_j (by decide), up_j (by decide), up_c (by decide), up_c (by decide), up_c (by decide), up_c (by decide), up_c (by decide)]
theorem cAd_w {V U W : vS} (A : cAd V U) (e : ∀ (c : Nat) j, c ≠ 6 → c ≠ 8 → c ≠ 13 → ¬ (c = 1 ∧ j = 4) → W c j = U c j) : cAd V W := by
  obtain ⟨a, b, c, d, f, g⟩ := A
  refine ⟨a, ?_, fun j n => ⟨?_, ?_⟩, ?_, ?_, fun c' j z => ?_⟩
  · rw [e 1 1 (by decide) (by decide) (by decide) (by decide)]; exact b
  · rw [e 2 j (by decide) (by decide) (by decide) (fun z => absurd z.1 (by decide))]; exact (c j n).1
  · rw [e 5 j (by decide) (by decide) (by decide) (fun z => absurd z.1 (by decide))]; exact (c j n).2
  · rw [e 5 _ (by decide) (by decide) (by decide) (fun z => absurd z.1 (by decide))]; exact d
  · rw [e 1 5 (by decide) (by decide) (by decide) (by decide)]; exact f
  · rw [e c' j (by omega) (by omega) (by omega) (fun w => by omega)]; exact g c' j z
theorem cx_1 {V W : vS} {k m t r : Int} (h : RAdd V k m t r W) : W = V ∨ cAd V W := by
  rcases h with ⟨-, -, e⟩ | ⟨a, b, -, e⟩
  · exact Or.inl e
  · rw [e]
    exact Or.inr (cAd_v ⟨a, b⟩)
theorem cx_2 {V W : vS} {k l r : Int} (h : R146 V k l r W) : W = V ∨ cAd V W := by
  rcases h with ⟨-, -, e⟩ | ⟨-, h⟩
  · exact Or.inl e
  · exact cx_1 h
theorem cx_6 {V W : vS} {f m r : Int} (h : R150 V f m r W) : W = V ∨ cAd V W := by
  rcases h with ⟨-, -, e⟩ | ⟨-, ⟨-, -, e⟩ | ⟨-, -, -, e⟩ | ⟨-, a, b, -, e⟩⟩
  · exact Or.inl e
  · exact Or.inl e
  · exact Or.inl e
  · exact Or.inr (cAd_w (cAd_v ⟨a, b⟩) (fun c j _ n8 n13 _ => by rw [e, up_c n13, outl_c n8]))
theorem cx_7 {V W : vS} {v r : Int} (h : R151 V v r W) : W = V ∨ cAd V W := by
  rcases h with ⟨-, -, e⟩ | ⟨-, ⟨-, -, e⟩ | ⟨a, b, -, e⟩⟩
  · exact Or.inl e
  · exact Or.inl e
  · exact Or.inr (cAd_w (cAd_v ⟨a, b⟩) (fun c j n6 _ _ n => e c j n6 n))
def mAd (V W : vS) : Prop := (∀ (c : Nat) j, 81 ≤ c → W c j = V c j) ∧ (∀ j, j ≠ 2 → j ≠ 11 → W 72 j = V 72 j) ∧ (∀ j, j ≠ V 72 2 → W 77 j = V 77 j) ∧ (∀ j, j < 24 * V 72 2 → W 80 j = V 80 j) ∧ ∀ (c : Nat) j, c < 72 → W c j = V c j
theorem mAd_v (V : vS) (k : Int) : mAd V (mAddV V k) := ⟨fun c j z => mAddV_c (by omega) (by omega) (by omega) (by omega) (by omega), fun j n _ => mA_o n, fun j n => by rw [mA_77, if_neg n], fun j _ => mAddV_c (by decide) (by decide) (by decide) (by decide) (by decide), fun c j z => mAddV_c (by omega) (by omega) (by omega) (by omega) (by omega)⟩
theorem mAd_w {V U W : vS} (A : mAd V U) (e : ∀ (c : Nat) j, c ≠ 74 → c ≠ 75 → c ≠ 78 → c ≠ 79 → ¬ (c = 80 ∧ 24 * V 72 2 ≤ j) → ¬ (c = 72 ∧ j = 11) → W c j = U c j) : mAd V W := by
  obtain ⟨a, b, d, f, g⟩ := A
  refine ⟨fun c j z => ?_, fun j n n' => ?_, fun j n => ?_, fun j n => ?_, fun c j z => ?_⟩
  · rw [e c j (by omega) (by omega) (by omega) (by omega) (fun w => by omega) (fun w => by omega)]; exact a c j z
  · rw [e 72 j (by decide) (by decide) (by decide) (by decide) (fun w => absurd w.1 (by decide)) (fun w => n' w.2)]; exact b j n n'
  · rw [e 77 j (by decide) (by decide) (by decide) (by decide) (fun w => absurd w.1 (by decide)) (fun w => absurd w.1 (by decide))]; exact d j n
  · rw [e 80 j (by decide) (by decide) (by decide) (by decide) (fun w => by omega) (fun w => absurd w.1 (by decide))]; exact f j n
  · rw [e c j (by omega) (by omega) (by omega) (by omega) (fun w => by omega) (fun w => by omega)]; exact g c j z
theorem mx_1 {V W : vS} {k r : Int} (h : RM205 V k r W) : W = V ∨ mAd V W := by
  rcases h with ⟨-, -, e⟩ | ⟨-, -, -, -, e⟩
  · exact Or.inl e
  · rw [e]
    exact Or.inr (mAd_v V k)
theorem mx_2 {V W : vS} {k l r : Int} (h : R207 V k l r W) : W = V ∨ mAd V W := by
  rcases h with ⟨-, -, e⟩ | ⟨-, -, -, e⟩ | ⟨-, -, V1, ⟨-, -, -, e1⟩, e⟩
  · exact Or.inl e
  · exact Or.inl e
  · exact Or.inr (mAd_w (mAd_v V k) (fun c j n74 _ _ _ _ _ => by rw [e, up_c n74, e1]))
theorem mx_7 {V W : vS} {v r : Int} (h : R208 V v r W) : W = V ∨ mAd V W := by
  rcases h with ⟨-, -, e⟩ | ⟨-, -, -, e⟩ | ⟨-, -, V1, ⟨-, -, -, e1⟩, e⟩
  · exact Or.inl e
  · exact Or.inl e
  · exact Or.inr (mAd_w (mAd_v V 6) (fun c j _ _ _ n79 _ _ => by rw [e, up_c n79, e1]))
theorem mx_6 {V W : vS} {f m r : Int} (h : R222 V f m r W) : W = V ∨ mAd V W := by
  rcases h with ⟨-, -, e⟩ | ⟨-, ⟨-, -, e⟩ | ⟨-, -, -, e⟩ | ⟨-, -, V1, ⟨-, -, er, e1⟩, e⟩⟩
  · exact Or.inl e
  · exact Or.inl e
  · exact Or.inl e
  · refine Or.inr (mAd_w (mAd_v V (if m = 1 then 5 else 4)) (fun c j _ n75 n78 _ n80 n72 => ?_))
    rw [e, er]
    refine Eq.trans (if_neg n72) ?_
    refine Eq.trans (if_neg (fun q => n80 ⟨q.1, q.2.1⟩)) ?_
    rw [up_c n78, up_c n75, e1]
theorem cB_a {V W : vS} (A : cAd V W) {b : Int} (h : cBody V b) : cBody W b ∧ W 2 b = V 2 b := by
  obtain ⟨⟨h0, h1⟩, e, f, -⟩ := A
  obtain ⟨b0, b1⟩ := h
  rw [w32_id (by omega) (by omega)] at b1
  refine ⟨⟨b0, ?_⟩, (f b (by omega)).1⟩
  rw [e, w32_id (by omega) (by omega)]
  omega
section BODY
variable {V V1 V2 : vS}
theorem mx_l (m : V2 = V1 ∨ mAd V1 V2) : ∀ (c : Nat) j, (c < 72 ∨ 146 ≤ c) → V2 c j = V1 c j := fun c j z => by
  rcases m with m | m
  · rw [m]
  · rcases z with z | z
    · exact m.2.2.2.2 c j z
    · exact m.1 c j (by omega)
theorem cx_h (c : V1 = V ∨ cAd V V1) : ∀ (c : Nat) j, 16 ≤ c → V1 c j = V c j := fun c' j z => by
  rcases c with c | c
  · rw [c]
  · exact c.2.2.2.2.2 c' j z
theorem jcf_a (F : JCf V) (c : V1 = V ∨ cAd V V1) : JCf V1 := by
  have e := cx_h c
  refine ⟨fun d => by rw [e 18 d (by decide)]; exact F.1 d, fun d d0 dN => ?_⟩
  rw [e 16 1 (by decide)] at dN
  rw [e 17 d (by decide), e 18 d (by decide)]
  obtain ⟨⟨f1, f2⟩, ⟨g1, g2⟩⟩ := F.2 d d0 dN
  rcases c with c | c
  · rw [c]
    exact ⟨⟨f1, f2⟩, ⟨g1, g2⟩⟩
  · have x := cB_a c f1
    have y := cB_a c g1
    exact ⟨⟨x.1, by rw [x.2]; exact f2⟩, ⟨y.1, by rw [y.2]; exact g2⟩⟩
theorem jcf_e {W : vS} (F : JCf V) (e : ∀ (c : Nat) j, c < 72 → W c j = V c j) : JCf W :=
  JCf_ag F ⟨e 16 1 (by decide), fun j => e 17 j (by decide), fun j => e 18 j (by decide), e 1 1 (by decide), fun j => e 2 j (by decide), trivial⟩
theorem jgone_e {W : vS} (F : JGone V) (e : ∀ (c : Nat) j, c < 72 → W c j = V c j) : JGone W :=
  JGone_ag F ⟨e 1 1 (by decide), e 1 5 (by decide), fun j => e 5 j (by decide), trivial⟩
theorem jr24_e {W : vS} (F : JR24 V) (e : ∀ (c : Nat) j, c < 72 → W c j = V c j) : JR24 W := fun j => by
  rw [e 8 j (by decide)]
  exact F j
theorem jcf_b (F : JCf V) (c : V1 = V ∨ cAd V V1) (m : V2 = V1 ∨ mAd V1 V2) : JCf V2 := jcf_e (jcf_a F c) (fun c' j z => mx_l m c' j (Or.inl z))
theorem jgone_b (G : JGone V) (c : V1 = V ∨ cAd V V1) (m : V2 = V1 ∨ mAd V1 V2) : JGone V2 := by
  refine jgone_e ?_ (fun c' j z => mx_l m c' j (Or.inl z))
  rcases c with c | ⟨⟨h0, h1⟩, e, f, g, k, -⟩
  · rw [c]
    exact G
  · unfold JGone at G ⊢
    rw [k, G]
    refine nQ_c 150 (fun j _ _ => ?_)
    unfold gnP
    rw [e]
    by_cases z : j = V 1 1
    · rw [z, g]
      exact ⟨fun w => absurd w.1 (by omega), fun w => absurd rfl w.2⟩
    · rw [(f j z).2]
      exact ⟨fun w => ⟨by have := w.1; omega, w.2⟩, fun w => ⟨by have := w.1; omega, w.2⟩⟩
theorem jsea_b (S : JSea V) (b : bd V) (c : V1 = V ∨ cAd V V1) (m : V2 = V1 ∨ mAd V1 V2) : JSea V2 := by
  refine JSea_e ?_ (mx_l m)
  rcases c with c | c
  · rw [c]
    exact S
  · obtain ⟨⟨h0, h1⟩, e, -, -, k, g⟩ := c
    have e1 := g 16 1 (by decide)
    have e2 := g 16 2 (by decide)
    have e3 := g 16 3 (by decide)
    refine JSea_c S (fun j => g 42 j (by decide)) (fun c j z => g c j (by omega)) (Or.inl (stm_lt b ?_ ?_))
    · obtain ⟨b1, b2, b3, b4, b5⟩ := b
      exact ⟨by omega, by rw [k]; exact b2, by rw [e1]; exact b3, by rw [e2]; exact b4, by rw [e3]; exact b5⟩
    · omega
theorem InM_n {c q : Int} {W : vS} (e88 : W 88 c = V 88 c) (hb : 0 ≤ V 88 c ∧ V 88 c < 150) (e80 : ∀ y, 0 ≤ y → y < 24 → W 80 (24 * V 88 c + y) = V 80 (24 * V 88 c + y)) (q0 : 0 ≤ q) (q1 : q < 576) : InM W c q ↔ InM V c q := by
  unfold InM isI
  rw [e88, iDiv_pos q0 (by omega) (by decide) (by decide), w32_id (z := 24 * V 88 c) (by omega) (by omega), w32_id (by omega) (by omega), e80 (q / 24) (by omega) (by omega)]
theorem jrk_b (R : JRk V) (C : JClm V) (F : JCf V) (B : JBody V) (c : V1 = V ∨ cAd V V1) (m : V2 = V1 ∨ mAd V1 V2) : JRk V2 := by
  have e := cx_h c
  have R1 : JRk V1 := JRk_e R (fun c' j z _ => e c' j (by omega))
  rcases m with m | m
  · rw [m]
    exact R1
  · obtain ⟨m1, m2, m3, m4, -⟩ := m
    refine rOK_n (V := V1) (W := V2) ⟨fun c => m1 87 c (by decide), fun c => m1 88 c (by decide), fun c => m1 90 c (by decide), ⟨m2 _ (by decide) (by decide), m2 _ (by decide) (by decide), m2 _ (by decide) (by decide)⟩, fun c j u v => m1 c j (by omega), fun d d0 dN => ?_⟩ (fun c j u v => m1 c j (by omega)) (m2 _ (by decide) (by decide)) (m2 _ (by decide) (by decide)) R1
    rw [e 72 19 (by decide), ← C.1] at dN
    have h1 := B.2.2.2.2.2.1
    have h2 := B.2.2.2.2.2.2.1
    obtain ⟨-, ⟨⟨g1, g2⟩, -⟩⟩ := F.2 d d0 dN
    rw [w32_id (by omega) (by omega)] at g2
    have e88 : V1 88 d = V 18 d := (e 88 d (by decide)).trans (C.2.2.1 d).symm
    have e2 : V1 72 2 = V 1 1 := (e 72 2 (by decide)).trans B.1.symm
    refine ⟨m3 _ (by rw [e88, e2]; omega), fun q q0 q1 => InM_n (m1 88 d (by decide)) (by rw [e88]; omega) (fun y y0 y1 => m4 _ (by rw [e88, e2]; omega)) q0 q1⟩
end BODY
end
section
-- ===== seasons: the relation =====
-- rows of a new field lie below 2^24
theorem m24 {z : Int32} (h : ∀ x, 24 ≤ x → x < 32 → tb z.toInt x = false) : 0 ≤ z.toInt ∧ z.toInt < 16777216 := by
  have l : z.toBitVec.toNat < 2 ^ 24 := Nat.lt_pow_two_of_testBit _ (fun i hi => by
    by_cases w : i < 32
    · have := h i hi w
      unfold tb at this
      rw [oI] at this
      exact this
    · exact Nat.testBit_lt_two_pow (Nat.lt_of_lt_of_le z.toBitVec.isLt (Nat.pow_le_pow_right (by decide) (by omega))))
  have e : z.toInt = (z.toBitVec.toNat : Int) := BitVec.toInt_eq_toNat_of_lt (by omega)
  rw [e]
  omega
theorem cRow_24 {V : vS} (hx : ∀ j, 0 ≤ j → j < 12 → 0 ≤ V 14 j ∧ V 14 j ≤ 24) (h0 : 0 ≤ V 13 2) (h12 : V 13 2 ≤ 12) (y : Int) : 0 ≤ cRow V y ∧ cRow V y < 16777216 := by
  obtain ⟨a, ea⟩ := cIns_i V y ((V 13 2).toNat / 2)
  have t : ∀ x, 24 ≤ x → x < 32 → tb (cRow V y) x = false := fun x u v => by
    unfold cRow
    rw [tb_c hx y v _ (by omega), decide_eq_false (by omega), Bool.and_false]
  unfold cRow at t ⊢
  rw [ea] at t ⊢
  exact m24 t
theorem jr24_6 {V V1 V2 : vS} {f w r1 r2 : Int} (J : JRing V) (R : JR24 V) (hx : ∀ j, 0 ≤ j → j < 12 → 0 ≤ V 14 j ∧ V 14 j ≤ 24) (c : R150 V f w r1 V1) (m : R222 V1 f w r2 V2) : JR24 V2 := by
  refine jr24_e (V := V1) ?_ (fun c j z => mx_l (mx_6 m) c j (Or.inl z))
  rcases c with ⟨-, -, e⟩ | ⟨-, ⟨-, -, e⟩ | ⟨-, -, -, e⟩ | ⟨-, a1, a2, -, e⟩⟩
  · rw [e]
    exact R
  · rw [e]
    exact R
  · rw [e]
    exact R
  · intro j
    rw [e, up_c (by decide)]
    unfold outl
    by_cases z : 24 * V 1 1 ≤ j ∧ j < 24 * V 1 1 + 24
    · rw [if_pos ⟨rfl, z⟩, cRow_c (V := V) (cAddV_c (by decide) (by decide) (by decide) (by decide) (by decide) (by decide)) (fun j => cAddV_c (by decide) (by decide) (by decide) (by decide) (by decide) (by decide)) (fun j => cAddV_c (by decide) (by decide) (by decide) (by decide) (by decide) (by decide))]
      exact cRow_24 hx J.2.2.2.1 J.2.2.2.2 _
    · rw [if_neg (fun q => z q.2), cAddV_c (by decide) (by decide) (by decide) (by decide) (by decide) (by decide)]
      exact R j
theorem nQ_1 {P P' : Int → Prop} {b : Int} (h : ¬ P b) (h' : P' b) (e : ∀ j, j ≠ b → (P' j ↔ P j)) : ∀ n : Nat, nQ P' n = nQ P n + (if 0 ≤ b ∧ b < (n : Int) then 1 else 0)
  | 0 => by
    rw [if_neg (by omega)]
    rfl
  | n + 1 => by
    have ih := nQ_1 h h' e n
    by_cases z : (n : Int) = b
    · rw [nQ_t (by rw [z]; exact h'), nQ_f (by rw [z]; exact h), ih, if_neg (by omega), if_pos (by omega)]
    · have e1 : (0 ≤ b ∧ b < ((n + 1 : Nat) : Int)) ↔ (0 ≤ b ∧ b < (n : Int)) := by omega
      by_cases p : P (n : Nat)
      · rw [nQ_t ((e _ z).mpr p), nQ_t p, ih]
        simp only [e1]
        omega
      · rw [nQ_f (fun w => p ((e _ z).mp w)), nQ_f p, ih]
        simp only [e1, Int.add_zero]
-- a field given up
theorem cx_10 {V W : vS} {b r : Int} (h : R154 V b r W) : W = V ∨ ((cField V b ∧ V 5 b = -1) ∧ W = up (up V 5 b (V 1 0)) 1 5 (w32 (V 1 5 + 1))) := by
  rcases h with ⟨-, -, e⟩ | ⟨-, -, -, e⟩ | ⟨a, b, -, e⟩
  · exact Or.inl e
  · exact Or.inl e
  · exact Or.inr ⟨⟨a, b⟩, e⟩
theorem mx_10 {V W : vS} {b r : Int} (h : R224 V b r W) : (∀ (c : Nat) j, c ≠ 72 → c ≠ 77 → W c j = V c j) ∧ (W = V ∨ W 72 38 = 1) := by
  rcases h with ⟨-, -, e⟩ | ⟨-, -, -, e⟩ | ⟨-, -, -, e⟩
  · exact ⟨fun _ _ _ _ => by rw [e], Or.inl e⟩
  · exact ⟨fun _ _ _ _ => by rw [e], Or.inl e⟩
  · exact ⟨fun c j a b => by rw [e, up_c a, up_c b], Or.inr (by rw [e, up_s])⟩
theorem jrk_s {V V1 V2 : vS} (R : JRk V) (c : ∀ (c : Nat) j, 72 ≤ c → c ≤ 110 → V1 c j = V c j) (m : V2 = V1 ∨ V2 72 38 = 1) : JRk V2 := by
  rcases m with m | m
  · rw [m]
    exact JRk_e R c
  · intro z
    rw [m] at z
    cases z
theorem jgone_10 {V V1 V2 : vS} {b r1 r2 : Int} (B : JBody V) (d0 : 0 ≤ V 1 0) (G : JGone V) (c : R154 V b r1 V1) (m : R224 V1 b r2 V2) : JGone V2 := by
  refine jgone_e (V := V1) ?_ (fun c j z => (mx_10 m).1 c j (by omega) (by omega))
  rcases cx_10 c with e | ⟨⟨f, g⟩, e⟩
  · rw [e]
    exact G
  · have hb := hF_of B b f
    obtain ⟨⟨f1, f2⟩, -⟩ := f
    have n1 := B.2.2.2.2.2.1
    have n2 := B.2.2.2.2.2.2.1
    rw [w32_id (by omega) (by omega)] at f2
    have gb := JGone_b G
    have k : nQ (gnP V1) 150 = nQ (gnP V) 150 + (if 0 ≤ b ∧ b < ((150 : Nat) : Int) then 1 else 0) := by
      have p1 : gnP V1 b := by
        unfold gnP
        rw [e, up_j (by decide), up_c (by decide), up_c (by decide), up_s]
        omega
      have p2 : ∀ j, j ≠ b → (gnP V1 j ↔ gnP V j) := fun j n => by
        unfold gnP
        rw [e, up_j (by decide), up_c (by decide), up_c (by decide), up_j n]
      exact nQ_1 (fun w => w.2 g) p1 p2 150
    rw [if_pos (by omega)] at k
    unfold JGone at G ⊢
    rw [k, ← G, e, up_s, w32_id (by omega) (by omega)]
theorem jsea_10 {V V1 V2 : vS} {b r1 r2 : Int} (S : JSea V) (bb : bd V) (G' : JGone V2) (c : R154 V b r1 V1) (m : R224 V1 b r2 V2) : JSea V2 := by
  have e2 := (mx_10 m).1
  have fin : JSea V1 → JSea V2 := fun S => JSea_e S (fun c j z => e2 c j (by omega) (by omega))
  rcases cx_10 c with e | ⟨-, e⟩
  · exact fin (by rw [e]; exact S)
  · have h : ∀ (c : Nat) j, c ≠ 1 → c ≠ 5 → c ≠ 72 → c ≠ 77 → V2 c j = V c j := fun c j n1 n5 n72 n77 => by rw [e2 c j n72 n77, e, up_c n1, up_c n5]
    have g1 : V2 1 1 = V 1 1 := by rw [e2 1 1 (by decide) (by decide), e, up_j (by decide), up_c (by decide)]
    have g5 : V2 1 5 = V 1 5 + 1 := by
      rw [e2 1 5 (by decide) (by decide), e, up_s]
      exact w32_id (by have := bb.2.1; omega) (by have := bb.2.1; omega)
    have g61 := h 16 1 (by decide) (by decide) (by decide) (by decide)
    have g62 := h 16 2 (by decide) (by decide) (by decide) (by decide)
    have g63 := h 16 3 (by decide) (by decide) (by decide) (by decide)
    have bb' : bd V2 := by
      obtain ⟨b1, b2, b3, b4, b5⟩ := bb
      exact ⟨by rw [g1]; exact b1, JGone_b G', by rw [g61]; exact b3, by rw [g62]; exact b4, by rw [g63]; exact b5⟩
    refine JSea_c S (fun j => h 42 j (by decide) (by decide) (by decide) (by decide)) (fun c j z => h c j (by omega) (by omega) (by omega) (by omega)) (Or.inl (stm_lt bb bb' ?_))
    rw [g1, g5, g61, g62, g63]
    omega
theorem jrk_10 {V V1 V2 : vS} {b r1 r2 : Int} (R : JRk V) (c : R154 V b r1 V1) (m : R224 V1 b r2 V2) : JRk V2 := by
  refine jrk_s R (fun c' j u _ => ?_) (mx_10 m).2
  rcases cx_10 c with e | ⟨-, e⟩
  · rw [e]
  · rw [e, up_c (by omega), up_c (by omega)]
end
section
-- ===== seasons: the relation =====
-- a claim
theorem mx_13 {V W : vS} {f b c r : Int} (h : R230 V f b c r W) : (∀ (c : Nat) j, (c < 72 ∨ 91 ≤ c) → W c j = V c j) ∧ (W = V ∨ W 72 38 = 1) := by
  rcases h with ⟨-, -, e⟩ | ⟨-, -, -, e⟩ | ⟨-, -, -, -, e⟩ | ⟨-, -, -, -, -, e⟩
  · exact ⟨fun _ _ _ => by rw [e], Or.inl e⟩
  · exact ⟨fun _ _ _ => by rw [e], Or.inl e⟩
  · exact ⟨fun _ _ _ => by rw [e], Or.inl e⟩
  · refine ⟨fun c j z => ?_, Or.inr ?_⟩
    · rw [e]
      unfold mClmV
      rw [up_c (by omega), up_c (by omega), up_c (by omega), up_c (by omega), up_c (by omega), up_c (by omega)]
    · rw [e]
      unfold mClmV
      rw [up_s]
theorem cx_13 {V W : vS} {f b c r : Int} (N0 : 0 ≤ V 16 1 ∧ V 16 1 ≤ 300) (h : R157o V f b c r W) : W = V ∨ ((cFarm V f ∧ cField V b) ∧ V 16 1 < 300 ∧ ∀ (c' : Nat) j, c' ≠ 21 → W c' j = up (clmV V f b c) 16 1 (V 16 1 + 1) c' j) := by
  rcases h with ⟨-, -, e⟩ | ⟨-, -, -, e⟩ | ⟨-, -, -, -, e⟩ | ⟨z1, z2, z3, z4, z5⟩
  · exact Or.inl e
  · exact Or.inl e
  · exact Or.inl e
  · rcases z4 with ⟨w, -⟩ | ⟨w0, w1, -, e⟩
    · omega
    · rw [w32_id (by omega) (by omega)] at e
      exact Or.inr ⟨⟨z1.1, z1.2.1⟩, z3, e⟩
theorem clm_c {V : vS} {f b c : Int} {c' : Nat} {j x : Int} (h : c' < 16 ∨ 21 < c') : up (clmV V f b c) 16 1 x c' j = V c' j := by
  rw [up_c (by omega)]
  unfold clmV
  rw [up_c (by omega), up_c (by omega), up_c (by omega), up_c (by omega)]
section CLM
variable {V V1 V2 : vS} {f b k r1 r2 : Int}
theorem jx_13o (J : JBody V) (K : JHand V) (L : JClm V) (hd : V 1 0 = V 72 1) (c : R157o V f b k r1 V1) (m : R230 V1 f b k r2 V2) : JClm V2 ∧ r1 = r2 := jx_13 J K L hd (o157 c) m
theorem jord_13 (O : JOrd V) (D : JDay V) (d0 : 0 ≤ V 1 0) (L : JClm V) (c : R157o V f b k r1 V1) (m : R230 V1 f b k r2 V2) : JOrd V2 ∧ JDay V2 := by
  obtain ⟨a, b⟩ := jo_13 O D d0 L.2.2.2.2.2 c
  have e := (mx_13 m).1
  exact ⟨JOrd_ag a ⟨e 16 1 (by decide), fun j => e 17 j (by decide), fun j => e 18 j (by decide), fun j => e 20 j (by decide), fun j => e 21 j (by decide), trivial⟩, JDay_ag b ⟨fun j => e 20 j (by decide), e 1 0 (by decide), trivial⟩⟩
theorem jcf_13 (F : JCf V) (B : JBody V) (L : JClm V) (c : R157o V f b k r1 V1) (m : R230 V1 f b k r2 V2) : JCf V2 := by
  refine jcf_e (V := V1) ?_ (fun c j z => (mx_13 m).1 c j (Or.inl z))
  rcases cx_13 L.2.2.2.2.2 c with e | ⟨⟨hf, hb⟩, -, e⟩
  · rw [e]
    exact F
  · have r := hF_of B b hb
    have u17 : ∀ d, V1 17 d = if d = V 16 1 then f else V 17 d := fun d => by
      rw [e 17 d (by decide), up_c (by decide)]
      unfold clmV
      rw [up_c (by decide), up_c (by decide), up_c (by decide)]
      exact up_p
    have u18 : ∀ d, V1 18 d = if d = V 16 1 then b else V 18 d := fun d => by
      rw [e 18 d (by decide), up_c (by decide)]
      unfold clmV
      rw [up_c (by decide), up_c (by decide), up_p, up_c (by decide)]
    have n1 : V1 16 1 = V 16 1 + 1 := by rw [e 16 1 (by decide), up_s]
    have e1 : V1 1 1 = V 1 1 := (e 1 1 (by decide)).trans (clm_c (by decide))
    have e2 : ∀ j, V1 2 j = V 2 j := fun j => (e 2 j (by decide)).trans (clm_c (by decide))
    have cf : ∀ x, cFarm V1 x ↔ cFarm V x := fun x => by
      unfold cFarm cBody
      rw [e1, e2]
    have cg : ∀ x, cField V1 x ↔ cField V x := fun x => by
      unfold cField cBody
      rw [e1, e2]
    refine ⟨fun d => ?_, fun d d0 dN => ?_⟩
    · rw [u18]
      split
      · exact r
      · exact F.1 d
    · rw [cf, cg, u17, u18]
      by_cases z : d = V 16 1
      · rw [if_pos z, if_pos z]
        exact ⟨hf, hb⟩
      · rw [if_neg z, if_neg z]
        exact F.2 d d0 (by omega)
theorem jsea_13 (S : JSea V) (bb : bd V) (c : R157o V f b k r1 V1) (m : R230 V1 f b k r2 V2) : JSea V2 := by
  have e2 := (mx_13 m).1
  refine JSea_e (V := V1) ?_ (fun c j z => e2 c j (by omega))
  rcases cx_13 bb.2.2.1 c with e | ⟨-, lt, e⟩
  · rw [e]
    exact S
  · have h : ∀ (c : Nat) j, (c < 16 ∨ 21 < c) → V1 c j = V c j := fun c j z => (e c j (by omega)).trans (clm_c z)
    have n1 : V1 16 1 = V 16 1 + 1 := by rw [e 16 1 (by decide), up_s]
    have n2 : ∀ i, i ≠ 1 → V1 16 i = V 16 i := fun i n => by
      rw [e 16 i (by decide), up_j n]
      unfold clmV
      rw [up_c (by decide), up_c (by decide), up_c (by decide), up_c (by decide)]
    have b2 := n2 2 (by decide)
    have b3 := n2 3 (by decide)
    have a1 := h 1 1 (by decide)
    have a5 := h 1 5 (by decide)
    obtain ⟨g1, g2, g3, g4, g5⟩ := bb
    refine JSea_c S (fun j => h 42 j (by decide)) (fun c j z => h c j (by omega)) (Or.inl (stm_lt ⟨g1, g2, g3, g4, g5⟩ ⟨by rw [a1]; exact g1, by rw [a5]; exact g2, by omega, by rw [b2]; exact g4, by rw [b3]; exact g5⟩ ?_))
    omega
theorem jrk_13 (R : JRk V) (L : JClm V) (c : R157o V f b k r1 V1) (m : R230 V1 f b k r2 V2) : JRk V2 := by
  refine jrk_s R (fun c' j u _ => ?_) (mx_13 m).2
  rcases cx_13 L.2.2.2.2.2 c with e | ⟨-, -, e⟩
  · rw [e]
  · exact (e c' j (by omega)).trans (clm_c (by omega))
end CLM
-- squares out
theorem mx_15 {V W : vS} {a b d r : Int} (h : R232 V a b d r W) : (∀ (c : Nat) j, (c < 72 ∨ 98 ≤ c) → W c j = V c j) ∧ (W = V ∨ W 72 38 = 1) := by
  rcases h with ⟨-, -, e⟩ | ⟨-, -, -, e⟩ | ⟨-, -, -, e⟩
  · exact ⟨fun _ _ _ => by rw [e], Or.inl e⟩
  · exact ⟨fun _ _ _ => by rw [e], Or.inl e⟩
  · refine ⟨fun c j z => ?_, Or.inr ?_⟩
    · rw [e]
      unfold mOutV
      rw [up_c (by omega), up_c (by omega), up_c (by omega), up_c (by omega), up_c (by omega), up_c (by omega), up_c (by omega), up_c (by omega)]
    · rw [e]
      unfold mOutV
      rw [up_s]
theorem cx_15 {V W : vS} {a b d r : Int} (h : R159 V a b d r W) : W = V ∨ (V 16 2 < 40 ∧ W = cOutV V a b d) := by
  rcases h.2 with ⟨-, -, e⟩ | ⟨-, -, -, e⟩ | ⟨-, lt, h⟩
  · exact Or.inl e
  · exact Or.inl e
  · rcases h with ⟨w, -⟩ | ⟨-, -, -, e⟩
    · omega
    · exact Or.inr ⟨lt, e⟩
theorem outV_c {V : vS} {a b d : Int} {c : Nat} {j : Int} (h : c < 16 ∨ (16 < c ∧ c < 23) ∨ 26 < c) : cOutV V a b d c j = V c j := by
  unfold cOutV
  rw [up_c (by omega), up_c (by omega), up_c (by omega), up_c (by omega), up_c (by omega)]
section OUT
variable {V V1 V2 : vS} {a b d r1 r2 : Int}
theorem cx_15h (c : R159 V a b d r1 V1) : ∀ (c : Nat) j, 27 ≤ c → V1 c j = V c j := fun c' j z => by
  rcases cx_15 c with e | ⟨-, e⟩
  · rw [e]
  · rw [e, outV_c (by omega)]
theorem jo2_15 (O : JOut V) (O2 : JOut2 V) (O' : JOut V2) (c : R159 V a b d r1 V1) (m : R232 V1 a b d r2 V2) : JOut2 V2 := by
  have h := cx_15h c
  have e1 := O.1
  have e2 := O'.1
  intro j j0 j1
  rw [e2] at j1
  have hn := h 72 25 (by decide)
  have b0 := O.2.1
  have b1 := O.2.2.1
  rcases m with ⟨-, -, e⟩ | ⟨-, -, -, e⟩ | ⟨ok, -, -, e⟩
  · rw [e, h 72 25 (by decide), ← e1] at j1
    rw [e, h 92 j (by decide), h 94 j (by decide)]
    exact O2 j j0 j1
  · rw [e, h 72 25 (by decide), ← e1] at j1
    rw [e, h 92 j (by decide), h 94 j (by decide)]
    exact O2 j j0 j1
  · have t92 : V2 92 j = if j = V1 72 25 then iDiv a 100 else V1 92 j := by
      rw [e]
      unfold mOutV
      rw [up_c (by decide), up_c (by decide), up_c (by decide), up_c (by decide), up_c (by decide), up_c (by decide), up_c (by decide), up_p]
    have t94 : V2 94 j = if j = V1 72 25 then iDiv b 100 else V1 94 j := by
      rw [e]
      unfold mOutV
      rw [up_c (by decide), up_c (by decide), up_c (by decide), up_c (by decide), up_c (by decide), up_p, up_c (by decide), up_c (by decide)]
    have tn : V2 72 25 = w32 (V1 72 25 + 1) := by
      rw [e]
      unfold mOutV
      rw [up_j (by decide), up_s]
    rw [tn, w32_id (by omega) (by omega)] at j1
    rw [t92, t94]
    obtain ⟨-, -, o1, -, o2, -⟩ := ok
    by_cases z : j = V1 72 25
    · rw [if_pos z, if_pos z]
      omega
    · rw [if_neg z, if_neg z, h 92 j (by decide), h 94 j (by decide)]
      exact O2 j j0 (by omega)
theorem jsea_15 (S : JSea V) (bb : bd V) (c : R159 V a b d r1 V1) (m : R232 V1 a b d r2 V2) : JSea V2 := by
  have e2 := (mx_15 m).1
  refine JSea_e (V := V1) ?_ (fun c j z => e2 c j (by omega))
  rcases cx_15 c with e | ⟨lt, e⟩
  · rw [e]
    exact S
  · obtain ⟨g1, g2, g3, g4, g5⟩ := bb
    have n2 : V1 16 2 = V 16 2 + 1 := by
      rw [e]
      unfold cOutV
      rw [up_s, w32_id (by omega) (by omega)]
    have ni : ∀ i, i ≠ 2 → V1 16 i = V 16 i := fun i n => by
      rw [e]
      unfold cOutV
      rw [up_j n, up_c (by decide), up_c (by decide), up_c (by decide), up_c (by decide)]
    have b1 := ni 1 (by decide)
    have b3 := ni 3 (by decide)
    have a1 : V1 1 1 = V 1 1 := by rw [e, outV_c (by decide)]
    have a5 : V1 1 5 = V 1 5 := by rw [e, outV_c (by decide)]
    refine JSea_c S (fun j => by rw [e, outV_c (by decide)]) (fun c j z => by rw [e, outV_c (by omega)]) (Or.inl (stm_lt ⟨g1, g2, g3, g4, g5⟩ ⟨by rw [a1]; exact g1, by rw [a5]; exact g2, by rw [b1]; exact g3, by omega, by rw [b3]; exact g5⟩ ?_))
    omega
theorem jrk_15 (R : JRk V) (c : R159 V a b d r1 V1) (m : R232 V1 a b d r2 V2) : JRk V2 := jrk_s R (fun c' j u _ => cx_15h c c' j (by omega)) (mx_15 m).2
end OUT
end
section
-- ===== seasons: the relation =====
-- all that both sides know of seasons alike
def AP (V : vS) : Prop := EQ V ∧ JOut V ∧ JCtl V ∧ JNum V ∧ ∀ c, 0 ≤ c → c < V 16 1 → lt1 V c = lt0 V c
theorem AP_of {V : vS} (C : JClm V) (B : JBody V) (O : JOut V) (Od : JOrd V) (D : JDay V) (d1 : V 1 0 ≤ 3649) (F : JCf V) (Rw : JRows V) (R : JR24 V) (K : JCtl V) (N : J30 V) (O2 : JOut2 V) (h74 : ∀ j, 0 ≤ j → j < 150 → 0 ≤ V 74 j ∧ V 74 j ≤ 3) (h22 : ∀ j, 0 ≤ j → j < 4 → V 22 j = V 91 j) : AP V :=
  ⟨⟨C, B, Od, fun c => ⟨(D c).1, by have := (D c).2; omega⟩, Rw, fun j => ⟨(R j).1, by have := R j; omega⟩, F.1⟩, O, K, ⟨N, O2, R⟩, late_of B F C h74 h22⟩
theorem AP_f {V W : vS} (A : AP V) (e : ∀ (c : Nat) j, c < 146 → c ≠ 42 → W c j = V c j) : AP W := by
  obtain ⟨⟨C, B, Od, d, Rw, r8, r18⟩, O, K, ⟨N, O2, R⟩, l⟩ := A
  refine ⟨⟨JClm_ag C (ag_of e _ (by decide)), JBody_ag B (ag_of e _ (by decide)), JOrd_ag Od (ag_of e _ (by decide)), fun c => by rw [e 20 c (by decide) (by decide)]; exact d c, JRows_ag Rw (ag_of e _ (by decide)), fun j => by rw [e 8 j (by decide) (by decide)]; exact r8 j, fun j => by rw [e 18 j (by decide) (by decide)]; exact r18 j⟩, JOut_ag O (ag_of e _ (by decide)), JCtl_ag K (ag_of e _ (by decide)), ⟨J30_ag N (ag_of e _ (by decide)), JOut2_ag O2 (ag_of e _ (by decide)), JR24_ag R (ag_of e _ (by decide))⟩, fun c c0 cN => ?_⟩
  rw [e 16 1 (by decide) (by decide)] at cN
  have h := l c c0 cN
  unfold lt1 lt0 at h ⊢
  rw [e 17 c (by decide) (by decide), e 3 _ (by decide) (by decide), e 20 c (by decide) (by decide), e 22 _ (by decide) (by decide), e 90 c (by decide) (by decide), e 87 c (by decide) (by decide), e 74 _ (by decide) (by decide), e 91 _ (by decide) (by decide)]
  exact h
theorem R1_f {h h' : aH} {y k : Int} {q : Nat} (R : R1 h y k q h') : ∀ (c : Nat) j, c < 146 → c ≠ 42 → vw h' c j = vw h c j := fun c j u v => by
  obtain ⟨⟨hq, K, -, D⟩, R⟩ := R
  rcases R with ⟨-, -, -, rfl⟩ | ⟨U, R97', ⟨L, U2, U42⟩, F⟩
  · rfl
  · obtain ⟨sc, fr, v4⟩ := scK_b hq R97' U2
    rw [fr c j (Or.inl (by omega))]
    rcases F with ⟨-, rfl⟩ | ⟨-, -, f⟩
    · rfl
    · exact f c j (by omega) (Or.inl v)
theorem R1_sc {h h' : aH} {y k : Int} {q : Nat} (I : IV h) (R : R1 h y k q h') : scK (vw h') q y k := by
  obtain ⟨⟨hq, K, ⟨y0, y9⟩, D⟩, R⟩ := R
  rcases R with ⟨e, e3, e4, rfl⟩ | ⟨U, R97', ⟨L, U2, U42⟩, F⟩
  · have g := (I.2.1 y y0 (by omega) q e).2.2.2.2.2.2 e4
    rw [e3] at g
    exact g
  · exact (scK_b hq R97' U2).1
theorem has_e {V : vS} {q : Nat} {f b y k i : Int} (E : EQ V) (S : scK V q y k) (pl : plc V q f b i) : i ≠ -1 ↔ has1 V f b y k := by
  have E0 := E
  obtain ⟨C, B, Od, hd, -⟩ := E0
  obtain ⟨-, L, -⟩ := S
  rcases pl with ⟨rfl, no⟩ | ⟨⟨i0, iN⟩, pf, pb'⟩
  · refine ⟨fun z => absurd rfl z, fun ⟨c, n, h⟩ => ?_⟩
    obtain ⟨p, pN, z, e, lt, s⟩ := li_m C B Od hd L n.1 n.2 ⟨h.1, h.2.2.2⟩
    refine absurd ⟨?_, ?_⟩ (no _ (by omega) lt)
    · unfold fmA
      rw [s, C.2.1]
      exact h.2.1
    · unfold fdA
      rw [s, C.2.2.1]
      exact h.2.2.1
  · refine ⟨fun _ => ?_, fun _ => by omega⟩
    obtain ⟨p, pN, zc, ci, e⟩ := li_s L i0 iN
    have m0 := Od.1 (p : Nat) (by omega) pN
    have l0 := (cnt_l C B Od hd (by omega) pN).mp zc
    rw [← e] at m0 l0
    unfold fmA at pf
    unfold fdA at pb'
    exact ⟨V (q + 1) i, ⟨m0.1, by rw [← C.1]; exact m0.2⟩, l0.1, by rw [← C.2.1]; exact pf, by rw [← C.2.2.1]; exact pb', l0.2⟩
theorem ok_fr {V W : vS} (B : JBody W) (e : ∀ (c : Nat) j, c < 72 → c ≠ 42 → W c j = V c j) (f b : Int) : (cFarm V f ↔ mFarm W f) ∧ (cField V b ↔ mField W b) := by
  rw [← farm_j B, ← field_j B]
  unfold cFarm cField cBody
  rw [e 1 1 (by decide) (by decide), e 2 f (by decide) (by decide), e 2 b (by decide) (by decide)]
  exact ⟨Iff.rfl, Iff.rfl⟩
theorem JSea_R {V W : vS} (J : JSea V) (A : agR V W) : JSea W :=
  JSea_c J (fun j => A 42 j (Or.inl (by decide)) (Or.inl (by decide))) (fun c j z => A c j (Or.inr (by omega)) (Or.inl (by omega))) (Or.inr ⟨stm_c (fun c j z => A c j (Or.inl (by omega)) (Or.inl (by omega))), fun c j z => A c j (Or.inl (by omega)) (Or.inl (by omega))⟩)
theorem jx_16 {h h1 h2 : aH} {f b y k w r1 r2 : Int} (I0 : IV h) (A : AP (vw h)) (c : wS h1 ∧ R160 h f b y k w r1 h1) (m : wS h2 ∧ R242 (vw h1) f b y k w r2 (vw h2)) : (JSea (vw h2) ∧ JRk (vw h2)) ∧ r1 = r2 := by
  obtain ⟨-, c⟩ := c
  obtain ⟨-, ⟨AR, Rk⟩, an⟩ := m
  have IV1 : IV h1 := by
    rcases c with ⟨-, -, rfl⟩ | ⟨-, q, R, -⟩
    · exact I0
    · exact IV_1 I0 R
  have fr : ∀ (c : Nat) j, c < 146 → c ≠ 42 → vw h1 c j = vw h c j := by
    rcases c with ⟨-, -, rfl⟩ | ⟨-, q, R, -⟩
    · exact fun _ _ _ _ => rfl
    · exact R1_f R
  have A1 := AP_f A fr
  refine ⟨⟨JSea_R (JSea_IV IV1) AR, Rk⟩, ?_⟩
  obtain ⟨okf, okb⟩ := ok_fr (V := vw h) A1.1.2.1 (fun c j u v => fr c j (by omega) v) f b
  have ok : ok16 (vw h) f b y k w ↔ ok18 (vw h1) f b y k w := by
    unfold ok16 ok18
    rw [okf, okb]
  rcases c with ⟨n, rfl, e⟩ | ⟨o, q, R, i, pl, an1⟩
  · rcases an with ⟨-, rfl⟩ | ⟨o', -⟩
    · rfl
    · exact absurd (ok.mpr o') n
  · rcases an with ⟨n, -⟩ | ⟨-, m⟩
    · exact absurd (ok.mp o) n
    · exact eq18 A1.1 A1.2.1 A1.2.2.1 A1.2.2.2.1 A1.2.2.2.2 (R1_sc I0 R) o.2.2.2.2 pl an1 m
end
section
-- ===== seasons: the relation =====
theorem has_c {V W : vS} (e : ∀ (c : Nat) j, 72 ≤ c → c ≤ 110 → W c j = V c j) (f b y k : Int) : has1 W f b y k ↔ has1 V f b y k := by
  have A : agM V W := ⟨fun c j u v => e c j (by omega) (by omega), e 72 _ (by decide) (by decide), e 72 _ (by decide) (by decide), e 72 _ (by decide) (by decide)⟩
  unfold has1 cl1
  simp only [mcn_m A, agM_19 A, e 87 _ (by decide) (by decide), e 88 _ (by decide) (by decide), e 90 _ (by decide) (by decide)]
-- a control told on both sides
theorem ctl_b {V V1 U V2 : vS} {f b y m : Int} (K : JCtl V) (N : J30 V) (S : JSea V) (bb : bd V) (hd : V 1 0 = V 72 1) (hm : 0 ≤ m ∧ m ≤ 576) (lt : V 16 3 < 200)
    (e1 : V1 = up (up (up (up (up (up V 27 (V 16 3) f) 28 (V 16 3) b) 29 (V 16 3) y) 30 (V 16 3) m) 31 (V 16 3) (V 1 0)) 16 3 (w32 (V 16 3 + 1))) (A : agR V1 U)
    (e2 : V2 = up (up (up (up (up (up (up U 98 (V1 72 32) f) 99 (V1 72 32) b) 100 (V1 72 32) y) 101 (V1 72 32) m) 102 (V1 72 32) (V1 72 1)) 72 32 (w32 (V1 72 32 + 1))) 72 38 1) : JCtl V2 ∧ J30 V2 ∧ JSea V2 ∧ JRk V2 := by
  obtain ⟨k0, k1, k2, k3, k4, k5, k6, k7⟩ := K
  have hi : ∀ (c : Nat) j, (c < 16 ∨ 31 < c) → V1 c j = V c j := fun c j z => by
    rw [e1, up_c (by omega), up_c (by omega), up_c (by omega), up_c (by omega), up_c (by omega), up_c (by omega)]
  have n32 : V1 72 32 = V 16 3 := (hi 72 32 (by decide)).trans k0.symm
  have n1 : V1 72 1 = V 1 0 := (hi 72 1 (by decide)).trans hd.symm
  rw [n32, n1] at e2
  have lo : ∀ (c : Nat) j, c < 72 → V2 c j = V1 c j := fun c j z => by
    rw [e2, up_c (by omega), up_c (by omega), up_c (by omega), up_c (by omega), up_c (by omega), up_c (by omega), up_c (by omega)]
    exact A c j (Or.inl (by omega)) (Or.inl (by omega))
  have la : ∀ (c : Nat) j, 146 ≤ c → V2 c j = V1 c j := fun c j z => by
    rw [e2, up_c (by omega), up_c (by omega), up_c (by omega), up_c (by omega), up_c (by omega), up_c (by omega), up_c (by omega)]
    exact A c j (Or.inr (by omega)) (Or.inl (by omega))
  have s3 : V1 16 3 = V 16 3 + 1 := by rw [e1, up_s, w32_id (by omega) (by omega)]
  have t27 : ∀ j, V1 27 j = if j = V 16 3 then f else V 27 j := fun j => by rw [e1, up_c (by decide), up_c (by decide), up_c (by decide), up_c (by decide), up_c (by decide), up_p]
  have t28 : ∀ j, V1 28 j = if j = V 16 3 then b else V 28 j := fun j => by rw [e1, up_c (by decide), up_c (by decide), up_c (by decide), up_c (by decide), up_p, up_c (by decide)]
  have t29 : ∀ j, V1 29 j = if j = V 16 3 then y else V 29 j := fun j => by rw [e1, up_c (by decide), up_c (by decide), up_c (by decide), up_p, up_c (by decide), up_c (by decide)]
  have t30 : ∀ j, V1 30 j = if j = V 16 3 then m else V 30 j := fun j => by rw [e1, up_c (by decide), up_c (by decide), up_p, up_c (by decide), up_c (by decide), up_c (by decide)]
  have t31 : ∀ j, V1 31 j = if j = V 16 3 then V 1 0 else V 31 j := fun j => by rw [e1, up_c (by decide), up_p, up_c (by decide), up_c (by decide), up_c (by decide), up_c (by decide)]
  have hu : ∀ (c : Nat) j, 98 ≤ c → c ≤ 102 → U c j = V c j := fun c j u v => (A c j (Or.inl (by omega)) (Or.inl (by omega))).trans (hi c j (by omega))
  refine ⟨⟨?_, fun j => ?_, fun j => ?_, fun j => ?_, fun j => ?_, fun j => ?_, ?_, ?_⟩, fun j => ?_, ?_, fun z => ?_⟩
  · rw [lo 16 3 (by decide), s3, e2, up_j (by decide), up_s, w32_id (by omega) (by omega)]
  · rw [lo 27 j (by decide), t27, e2, up_c (by decide), up_c (by decide), up_c (by decide), up_c (by decide), up_c (by decide), up_c (by decide), up_p, hu 98 j (by decide) (by decide), k1]
  · rw [lo 28 j (by decide), t28, e2, up_c (by decide), up_c (by decide), up_c (by decide), up_c (by decide), up_c (by decide), up_p, up_c (by decide), hu 99 j (by decide) (by decide), k2]
  · rw [lo 29 j (by decide), t29, e2, up_c (by decide), up_c (by decide), up_c (by decide), up_c (by decide), up_p, up_c (by decide), up_c (by decide), hu 100 j (by decide) (by decide), k3]
  · rw [lo 30 j (by decide), t30, e2, up_c (by decide), up_c (by decide), up_c (by decide), up_p, up_c (by decide), up_c (by decide), up_c (by decide), hu 101 j (by decide) (by decide), k4]
  · rw [lo 31 j (by decide), t31, e2, up_c (by decide), up_c (by decide), up_p, up_c (by decide), up_c (by decide), up_c (by decide), up_c (by decide), hu 102 j (by decide) (by decide), k5]
  · rw [lo 16 3 (by decide), s3]
    omega
  · rw [lo 16 3 (by decide), s3]
    omega
  · rw [lo 30 j (by decide), t30]
    split
    · exact hm
    · exact N j
  · have ni : ∀ i, i ≠ 3 → V1 16 i = V 16 i := fun i n => by
      rw [e1, up_j n, up_c (by decide), up_c (by decide), up_c (by decide), up_c (by decide), up_c (by decide)]
    have b1 := ni 1 (by decide)
    have b2 := ni 2 (by decide)
    have a1 := hi 1 1 (by decide)
    have a5 := hi 1 5 (by decide)
    obtain ⟨g1, g2, g3, g4, g5⟩ := bb
    refine JSea_e (V := V1) (JSea_c S (fun j => hi 42 j (by decide)) (fun c j z => hi c j (by omega)) (Or.inl (stm_lt ⟨g1, g2, g3, g4, g5⟩ ⟨by rw [a1]; exact g1, by rw [a5]; exact g2, by rw [b1]; exact g3, by rw [b2]; exact g4, by omega⟩ (by omega)))) (fun c j z => ?_)
    rcases z with z | z
    · exact lo c j z
    · exact la c j z
  · rw [e2, up_s] at z
    cases z
theorem jx_17 {h h1 h2 : aH} {f b y m r1 r2 : Int} (I0 : IV h) (A : AP (vw h)) (bb : bd (vw h)) (hd : vw h 1 0 = vw h 72 1) (c : wS h1 ∧ R161 h f b y m r1 h1) (mm : wS h2 ∧ R243 (vw h1) f b y m r2 (vw h2)) : (JCtl (vw h2) ∧ J30 (vw h2) ∧ JSea (vw h2) ∧ JRk (vw h2)) ∧ r1 = r2 := by
  obtain ⟨-, c⟩ := c
  obtain ⟨-, U, ⟨AR, Rk⟩, mm⟩ := mm
  -- nothing told: all but the reckonings is as it was
  have stay : ∀ {g : aH}, IV g → AP (vw g) → agR (vw g) U → vw h2 = U → JCtl (vw h2) ∧ J30 (vw h2) ∧ JSea (vw h2) ∧ JRk (vw h2) := fun {g} Ig Ag AR e => by
    rw [e]
    have a : ∀ (c : Nat) j, c < 103 → c ≠ 72 → U c j = vw g c j := fun c j u v => agR_x AR c j u v
    refine ⟨?_, fun j => by rw [a 30 j (by decide) (by decide)]; exact Ag.2.2.2.1.1 j, JSea_R (JSea_IV Ig) AR, Rk⟩
    exact JCtl_ag Ag.2.2.1 ⟨a 16 3 (by decide) (by decide), agR_y AR (by decide) (by decide), fun j => a 27 j (by decide) (by decide), fun j => a 98 j (by decide) (by decide), fun j => a 28 j (by decide) (by decide), fun j => a 99 j (by decide) (by decide), fun j => a 29 j (by decide) (by decide), fun j => a 100 j (by decide) (by decide), fun j => a 30 j (by decide) (by decide), fun j => a 101 j (by decide) (by decide), fun j => a 31 j (by decide) (by decide), fun j => a 102 j (by decide) (by decide), trivial⟩
  rcases c with ⟨n, rfl, rfl⟩ | ⟨o, q, g, R, i, pl, c⟩
  · obtain ⟨okf, okb⟩ := ok_fr (V := vw h1) A.1.2.1 (fun _ _ _ _ => rfl) f b
    rcases mm with ⟨-, rfl, e⟩ | ⟨⟨o1, o2, o3⟩, -⟩
    · exact ⟨stay I0 A AR e, rfl⟩
    · exact absurd ⟨okf.mpr o1, okb.mpr o2, o3⟩ n
  · have fr := R1_f R
    have Ag := AP_f A fr
    have Ig := IV_1 I0 R
    have he := has_e Ag.1 (R1_sc I0 R) pl
    have hdg : vw g 1 0 = vw g 72 1 := by rw [fr 1 0 (by decide) (by decide), fr 72 1 (by decide) (by decide)]; exact hd
    have d0 : vw h 1 0 = vw g 72 1 := by rw [← hdg, fr 1 0 (by decide) (by decide)]
    obtain ⟨o1, o2, o3, o4⟩ := o
    rw [d0] at he
    rcases c with ⟨ei, rfl, rfl⟩ | ⟨ni, ⟨full, rfl, rfl⟩ | ⟨lt, c⟩⟩
    · obtain ⟨okf, okb⟩ := ok_fr (V := vw h) Ag.1.2.1 (fun c j u v => fr c j (by omega) v) f b
      rcases mm with ⟨n, -⟩ | ⟨-, ⟨-, rfl, e⟩ | ⟨hs, -⟩⟩
      · exact absurd ⟨okf.mp o1, okb.mp o2, o3, o4⟩ n
      · exact ⟨stay Ig Ag AR e, rfl⟩
      · exact absurd ei (he.mpr hs)
    · obtain ⟨okf, okb⟩ := ok_fr (V := vw h) Ag.1.2.1 (fun c j u v => fr c j (by omega) v) f b
      have k := Ag.2.2.1
      rcases mm with ⟨n, -⟩ | ⟨-, ⟨nh, -⟩ | ⟨-, ⟨-, rfl, e⟩ | ⟨ne, -⟩⟩⟩
      · exact absurd ⟨okf.mp o1, okb.mp o2, o3, o4⟩ n
      · exact absurd (he.mp ni) nh
      · exact ⟨stay Ig Ag AR e, rfl⟩
      · have := k.1
        have := k.2.2.2.2.2.2.2
        omega
    · rcases c with ⟨ge, -⟩ | ⟨-, rfl, e1⟩
      · omega
      · have hi : ∀ (c : Nat) j, (c < 16 ∨ 31 < c) → vw h1 c j = vw g c j := fun c j z => by
          rw [e1, up_c (by omega), up_c (by omega), up_c (by omega), up_c (by omega), up_c (by omega), up_c (by omega)]
        have hs : has1 (vw h1) f b y (vw h1 72 1) ↔ has1 (vw g) f b y (vw g 72 1) := by
          rw [hi 72 1 (by decide)]
          exact has_c (fun c j u _ => hi c j (by omega)) f b y _
        have okf : cFarm (vw h) f ↔ mFarm (vw h1) f := by
          rw [(ok_fr (V := vw h) Ag.1.2.1 (fun c j u v => fr c j (by omega) v) f b).1]
          unfold mFarm mBody
          rw [hi 72 2 (by decide), hi 73 f (by decide)]
        have okb : cField (vw h) b ↔ mField (vw h1) b := by
          rw [(ok_fr (V := vw h) Ag.1.2.1 (fun c j u v => fr c j (by omega) v) f b).2]
          unfold mField mBody
          rw [hi 72 2 (by decide), hi 73 b (by decide)]
        have k := Ag.2.2.1
        have n32 := hi 72 32 (by decide)
        have bg : bd (vw g) := by
          have z : ∀ (c : Nat) j, c < 42 → vw g c j = vw h c j := fun c j u => fr c j (by omega) (by omega)
          unfold bd
          rw [z 1 1 (by decide), z 1 5 (by decide), z 16 1 (by decide), z 16 2 (by decide), z 16 3 (by decide)]
          exact bb
        rcases mm with ⟨n, -⟩ | ⟨-, ⟨nh, -⟩ | ⟨-, ⟨fu, -⟩ | ⟨-, rfl, e2⟩⟩⟩
        · exact absurd ⟨okf.mp o1, okb.mp o2, o3, o4⟩ n
        · exact absurd (hs.mpr (he.mp ni)) nh
        · have := k.1
          omega
        · refine ⟨ctl_b k Ag.2.2.2.1.1 (JSea_IV Ig) bg hdg o4 lt e1 AR e2, ?_⟩
          rw [n32, ← k.1]
theorem jm_16 {h h1 : aH} {f b y k w r : Int} (I0 : IV h) (c : wS h1 ∧ R160 h f b y k w r h1) : q239 (vw h1) := by
  rcases c.2 with ⟨-, -, rfl⟩ | ⟨-, q, R, -⟩
  · exact I0.2.2.2
  · exact (IV_1 I0 R).2.2.2
theorem q239_e {V W : vS} (Q : q239 V) (e : ∀ (c : Nat) j, 72 ≤ c → c ≤ 110 → W c j = V c j) : q239 W := by
  obtain ⟨a, b, c, d, r⟩ := Q
  exact ⟨by rw [e 72 19 (by decide) (by decide)]; exact a, by rw [e 72 25 (by decide) (by decide)]; exact b, by rw [e 72 32 (by decide) (by decide)]; exact c, fun c' u v => by rw [e 87 c' (by decide) (by decide)]; exact d c' u v, JRk_e r e⟩
theorem jm_17 {h h1 : aH} {f b y m r : Int} (I0 : IV h) (c : wS h1 ∧ R161 h f b y m r h1) : q239 (vw h1) := by
  rcases c.2 with ⟨-, -, rfl⟩ | ⟨-, q, g, R, i, -, c⟩
  · exact I0.2.2.2
  · have Q := (IV_1 I0 R).2.2.2
    rcases c with ⟨-, -, rfl⟩ | ⟨-, ⟨-, -, rfl⟩ | ⟨-, c⟩⟩
    · exact Q
    · exact Q
    · rcases c with ⟨-, -, e⟩ | ⟨-, -, e⟩
      · rw [e]
        exact Q
      · refine q239_e Q (fun c j u _ => ?_)
        rw [e, up_c (by omega), up_c (by omega), up_c (by omega), up_c (by omega), up_c (by omega), up_c (by omega)]
theorem jday_0 {V W : vS} (D : JDay V) (e : ∀ j, W 20 j = V 20 j) (l : V 1 0 ≤ W 1 0) : JDay W := fun c => by
  rw [e]
  have := D c
  omega
-- at the start
theorem vzr {c t n : Nat} (e : zH0.1[c]? = some (.inl (t, n, .inr (.inr (.inr (.inr (fun _ => none))))))) {j : Int} (h : 0 ≤ j) : vw zH0 c j = -1 := (vw_a e h).trans rfl
theorem zJOrd0 : JOrd (vw zH0) := by
  have e1 : vw zH0 16 1 = 0 := vzf (i := 1) (x := 0) zh16 rfl
  refine ⟨fun p a b => ?_, fun p p' a b c => ?_, fun c a b => ?_, fun c c' a b d => ?_⟩
  · rw [e1] at b; omega
  · rw [e1] at c; omega
  · rw [e1] at b; omega
  · rw [e1] at d; omega
theorem zJDay0 : JDay (vw zH0) := fun c => by
  have e1 : vw zH0 1 0 = 0 := vzf (i := 0) (x := 0) zh1 rfl
  rw [vz zh20, e1]
  decide
theorem zJCf0 : JCf (vw zH0) := by
  have e1 : vw zH0 16 1 = 0 := vzf (i := 1) (x := 0) zh16 rfl
  refine ⟨fun c => by rw [vz zh18]; decide, fun c a b => ?_⟩
  rw [e1] at b
  omega
theorem zJR240 : JR24 (vw zH0) := fun j => by
  rw [vz zh8]
  decide
theorem zJ300 : J30 (vw zH0) := fun j => by
  rw [vz zh30]
  decide
theorem zJOut20 : JOut2 (vw zH0) := fun j a b => by
  have e1 : vw zH0 16 2 = 0 := vzf (i := 2) (x := 0) zh16 rfl
  rw [e1] at b
  omega
theorem zJCtl0 : JCtl (vw zH0) := by
  have e1 : vw zH0 16 3 = 0 := vzf (i := 3) (x := 0) zh16 rfl
  have e2 : vw zH0 72 32 = 0 := vzf (i := 32) (x := 0) zh72 rfl
  exact ⟨by rw [e1, e2], fun j => by rw [vz zh27, vz zh98], fun j => by rw [vz zh28, vz zh99], fun j => by rw [vz zh29, vz zh100], fun j => by rw [vz zh30, vz zh101], fun j => by rw [vz zh31, vz zh102], by rw [e1]; decide, by rw [e1]; decide⟩
theorem nQ_0 {P : Int → Prop} (h : ∀ j, 0 ≤ j → ¬ P j) : ∀ n : Nat, nQ P n = 0
  | 0 => rfl
  | n + 1 => by rw [nQ_f (h _ (by omega)), nQ_0 h n]; rfl
theorem zJGone0 : JGone (vw zH0) := by
  have e1 : vw zH0 1 1 = 0 := vzf (i := 1) (x := 0) zh1 rfl
  have e5 : vw zH0 1 5 = 0 := vzf (i := 5) (x := 0) zh1 rfl
  unfold JGone
  rw [e5, nQ_0 (fun j a w => ?_)]
  have := w.1
  rw [e1] at this
  omega
theorem zJSea0 : JSea (vw zH0) := by
  have n : ∀ y : Int, 0 ≤ y → ∀ q : Nat, vw zH0 42 y = (q : Int) → False := fun y a q e => by
    rw [vzr zh42 a] at e
    omega
  exact ⟨fun y a _ q e => (n y a q e).elim, fun y y' a _ _ q _ e _ => (n y a.1 q e).elim⟩
theorem zJRk0 : JRk (vw zH0) := by
  have e1 : vw zH0 72 19 = 0 := vzf (i := 19) (x := 0) zh72 rfl
  intro _
  refine ⟨fun c a b => ?_, fun c a b => ?_⟩
  · rw [e1] at b; omega
  · rw [e1] at b; omega
end
section
theorem pt_and {n : Nat} {X : aX} {M : aM} {pc : Nat} {l : aL} {st : List Value} {h : aH} {Q1 Q2 : Option Value → aH → Prop} (a : Pt n X M pc l st h Q1) (b : Pt n X M pc l st h Q2) : Pt n X M pc l st h (fun v h' => Q1 v h' ∧ Q2 v h') := fun m hm d v h' e => ⟨a m hm d v h' e, b m hm d v h' e⟩
theorem l_80q {X : aX} {b k : Int} : ∀ (n : Nat) (h : aH) (x1 x2 x3 : Int32), wS h → x2.toInt = b → vw h 1 4 = k → Pt n X zM80 20 [some (.ref 1), some (.int x1), some (.int x2), some (.int x3)] [] h (qI (fun _ h' => vw h' 1 4 = w32 (k + 1))) := by
  intro n
  induction n with
  | zero => exact fun _ _ _ _ _ _ _ => pt_z
  | succ n ih =>
    intro h x1 x2 x3 S hb F
    refine d80_20 S rfl hb rfl ⟨fun e p q g S2 eg => by rw [eg, up_s, F], fun e p q p2 q2 => ⟨fun e2 p3 q3 g S2 eg => by rw [eg, up_s, F], fun e2 p3 q3 g S2 eg y3 h3 => ?_⟩⟩
    exact ih g x1 x2 y3 S2 hb (by rw [eg, up_c (by decide)]; exact F)
def RPer4 (V : vS) (v r : Int) (V' : vS) : Prop := RPer V v r V' ∧ (V' = V ∨ V' 1 4 = w32 (V 1 4 + 1))
theorem c_80q {n : Nat} {X : aX} {h : aH} {x1 : Int32} {a1 : Int} (S : wS h) (z1 : x1.toInt = a1) : Pt n X zM80 0 [some (.ref 1), some (.int x1), none, none] [] h (qI (fun _ h' => vw h' = vw h ∨ vw h' 1 4 = w32 (vw h 1 4 + 1))) := by
  refine pt_d (d80_0 S z1 (fun y g p => ⟨fun e y2 y3 h2 h3 => ?_, fun e => ?_⟩))
  · rcases p.2 with ⟨q1, q2, q3⟩ | ⟨q1, q2, q3, q4⟩
    · omega
    · refine pt_q (l_80q (b := y) (k := vw h 1 4) n g x1 y2 y3 p.1 h2 ?_) ?_
      · rw [q4]
        unfold cAddV
        rw [up_j (by decide), up_j (by decide), up_j (by decide), up_c (by decide), up_c (by decide), up_c (by decide), up_c (by decide), up_c (by decide)]
      · rintro v h' ⟨x, rfl, r1⟩
        exact ⟨x, rfl, Or.inr r1⟩
  · rcases p.2 with ⟨q1, q2, q3⟩ | ⟨q1, q2, q3, q4⟩
    · exact Or.inl q3
    · omega
theorem c_80p {n : Nat} {X : aX} {h : aH} {x1 : Int32} {a1 : Int} (S : wS h) (z1 : x1.toInt = a1) : Pt n X zM80 0 [some (.ref 1), some (.int x1), none, none] [] h (qI (fun y h' => wS h' ∧ RPer4 (vw h) a1 y (vw h'))) := by
  refine pt_q (pt_and (c_80 S z1) (c_80q S z1)) ?_
  rintro v h' ⟨⟨x, rfl, r1, r2⟩, ⟨x', -, r3⟩⟩
  exact ⟨x, rfl, r1, r2, r3⟩

theorem e151_0 {n : Nat} {X : aX} {h : aH} {P : Int → aH → Prop} {x1 : Int32} {a1 : Int} (S : wS h) (z1 : x1.toInt = a1) (H : (((1 ≤ a1 ∧ a1 ≤ 999) → ((¬ (150 ≤ (vw h) 1 1) → ∀ (y9 : Int) (h_9 : aH), (wS h_9 ∧ RPer4 (vw h) a1 y9 (vw h_9)) → P y9 h_9) ∧ ((150 ≤ (vw h) 1 1) → P (-3) h))) ∧ (¬ (1 ≤ a1 ∧ a1 ≤ 999) → P (-1) h))) : Pt (n + 1) X zM151 0 [some (.ref 0), some (.int x1)] [] h (qI P) := by
  refine pt_1 (fun n d => r_iloadn gx151_0 rfl) ?_
  refine pt_d (pt_iconst gx151_1 (fun v1 h1 => ?_))
  refine pt_d (pt_sipush gx151_2 (fun v2 h2 => ?_))
  refine pt_d (pt_stat (as := [.int x1, .int v1, .int v2]) (r := []) gx151_5 rfl (show zmt[137]? = some zM137 from rfl) rfl rfl rfl rfl (c_137 S z1 h1 h2) (kqP (fun v3 h3 => ?_)))
  show Pt _ _ _ 8 _ [.int v3] _ _
  refine pt_d (pt_ifB_ne gx151_8 h3 (fun e4 => ?_) (fun e4 => ?_))
  · have H := H.1 e4
    refine pt_d (pt_1 (fun n d => r_aloadn gx151_13 rfl) ?_)
    refine pt_d (pt_getR gx151_14 S tr_0_0 ?_)
    refine pt_d (pt_virt (as := []) (r := []) gx151_17 rfl (show zmt[73]? = some zM73 from rfl) rfl rfl rfl rfl (c_73 S) (kqP (fun v6 h6 => ?_)))
    show Pt _ _ _ 20 _ [.int v6] _ _
    refine pt_d (pt_ifB_eq gx151_20 h6 (fun e7 => ?_) (fun e7 => ?_))
    · have H := H.1 e7
      refine pt_d (pt_1 (fun n d => r_aloadn gx151_28 rfl) ?_)
      refine pt_d (pt_getR gx151_29 S tr_0_0 ?_)
      refine pt_d (pt_1 (fun n d => r_iloadn gx151_32 rfl) ?_)
      refine pt_d (pt_virt (as := [.int x1]) (r := []) gx151_33 rfl (show zmt[80]? = some zM80 from rfl) rfl rfl rfl rfl (c_80p S z1) (kqI (fun v9 y9 h_9 h9 P9 => ?_)))
      have S9 := P9.1
      have H := H y9 h_9 P9
      show Pt _ _ _ 36 _ [.int v9] _ _
      exact pt_d (pt_iret gx151_36 ⟨_, rfl, by rw [h9]; exact H⟩)
    · have H := H.2 e7
      refine pt_d (pt_bipush gx151_23 (fun v10 h10 => ?_))
      refine pt_d (pt_1 (fun n d => r_goto gx151_25) ?_)
      exact pt_d (pt_iret gx151_36 ⟨_, rfl, by rw [h10]; exact H⟩)
  · have H := H.2 e4
    refine pt_d (pt_iconst gx151_11 (fun v11 h11 => ?_))
    exact pt_d (pt_iret gx151_12 ⟨_, rfl, by rw [h11]; exact H⟩)
def R151p (V : vS) (v r : Int) (V' : vS) : Prop := R151 V v r V' ∧ (V' = V ∨ V' 1 4 = w32 (V 1 4 + 1))
theorem c_151p {n : Nat} {X : aX} {h : aH} {x1 : Int32} {a1 : Int} (S : wS h) (z1 : x1.toInt = a1) : Pt n X zM151 0 [some (.ref 0), some (.int x1)] [] h (qI (fun y h' => R151p (vw h) a1 y (vw h'))) := by
  refine pt_d (e151_0 S z1 ⟨fun e => ⟨fun e3 y g p => ⟨Or.inr ⟨e, p.2.1⟩, p.2.2⟩, fun e3 => ⟨Or.inr ⟨e, Or.inl ⟨e3, rfl, rfl⟩⟩, Or.inl rfl⟩⟩, fun e => ⟨Or.inl ⟨e, rfl, rfl⟩, Or.inl rfl⟩⟩)
theorem bI_b (p : Prop) : 0 ≤ bI p ∧ bI p ≤ 1 := by
  rcases bI_r p with e | e <;> rw [e] <;> decide
section CNT
variable {V V1 V2 : vS}
theorem jx_7p {v r1 r2 : Int} (J : JBody V) (hd : V 1 0 = V 72 1) (c : R151p V v r1 V1) (m : R208 V1 v r2 V2) : JBody V2 ∧ r1 = r2 := jx_7 J hd c.1 m
end CNT
end
section
-- ===== the rate of errors =====
theorem d36_0 {n : Nat} {X : aX} {h : aH} {P : Int → aH → Prop} {x1 x2 : Int32} {a1 a2 : Int} (S : wS h) (z1 : x1.toInt = a1) (z2 : x2.toInt = a2) (H : (∀ (w3 : Int32), w3.toInt = 0 → Pt n X zM36 2 [some (.ref 16), some (.int x1), some (.int x2), some (.int w3)] [] h (qI P))) : Pt (n + 1) X zM36 0 [some (.ref 16), some (.int x1), some (.int x2), none] [] h (qI P) := by
  refine pt_iconst gx36_0 (fun v1 h1 => ?_)
  refine pt_d (pt_1 (fun n d => r_istoren (L' := [some (.ref 16), some (.int x1), some (.int x2), some (.int v1)]) gx36_1 rfl rfl) ?_)
  exact H v1 h1
theorem d36_2 {n : Nat} {X : aX} {h : aH} {P : Int → aH → Prop} {x1 x2 x3 : Int32} {a1 a2 a3 : Int} (S : wS h) (z1 : x1.toInt = a1) (z2 : x2.toInt = a2) (z3 : x3.toInt = a3) (H : ((vw h 16 3 ≤ a3 → P 0 h) ∧ (a3 < vw h 16 3 → (0 ≤ a3 → a3 < 200 → ((vw h 27 a3 ≠ a1 → (∀ (w3 : Int32), w3.toInt = w32 (a3 + 1) → Pt n X zM36 2 [some (.ref 16), some (.int x1), some (.int x2), some (.int w3)] [] h (qI P))) ∧ (vw h 27 a3 = a1 → ((vw h 29 a3 ≠ a2 → (∀ (w3 : Int32), w3.toInt = w32 (a3 + 1) → Pt n X zM36 2 [some (.ref 16), some (.int x1), some (.int x2), some (.int w3)] [] h (qI P))) ∧ (vw h 29 a3 = a2 → P 1 h)))))))) : Pt (n + 1) X zM36 2 [some (.ref 16), some (.int x1), some (.int x2), some (.int x3)] [] h (qI P) := by
  refine pt_1 (fun n d => r_iloadn gx36_2 rfl) ?_
  refine pt_d (pt_1 (fun n d => r_aloadn gx36_3 rfl) ?_)
  refine pt_d (pt_getI (B := 3) gx36_4 S (fun v1 h1 => ?_))
  refine pt_d (pt_icmp_ge gx36_7 z3 h1 (fun e2 => ?_) (fun e2 => ?_))
  · have H := H.1 e2
    refine pt_d (pt_iconst gx36_38 (fun v3 h3 => ?_))
    exact pt_d (pt_iret gx36_39 ⟨_, rfl, by rw [h3]; exact H⟩)
  · have H := H.2 e2
    refine pt_d (pt_1 (fun n d => r_aloadn gx36_10 rfl) ?_)
    refine pt_d (pt_getR gx36_11 S tr_16_14 ?_)
    refine pt_d (pt_1 (fun n d => r_iloadn gx36_14 rfl) ?_)
    refine pt_d (pt_iald (N' := 200) gx36_15 S tl_27 z3 (fun v5 p5 q5 h5 => ?_))
    have H := H p5 q5
    refine pt_d (pt_1 (fun n d => r_iloadn gx36_16 rfl) ?_)
    refine pt_d (pt_icmp_ne gx36_17 h5 z1 (fun e6 => ?_) (fun e6 => ?_))
    · have H := H.1 e6
      refine pt_d (pt_iinc (c := 1) gx36_32 rfl z3 (fun v7 h7 => ?_))
      show Pt _ _ _ _ [some (.ref 16), some (.int x1), some (.int x2), some (.int v7)] [] _ _
      refine pt_d (pt_1 (fun n d => r_goto gx36_35) ?_)
      exact H v7 h7
    · have H := H.2 e6
      refine pt_d (pt_1 (fun n d => r_aloadn gx36_20 rfl) ?_)
      refine pt_d (pt_getR gx36_21 S tr_16_16 ?_)
      refine pt_d (pt_1 (fun n d => r_iloadn gx36_24 rfl) ?_)
      refine pt_d (pt_iald (N' := 200) gx36_25 S tl_29 z3 (fun v9 p9 q9 h9 => ?_))
      refine pt_d (pt_1 (fun n d => r_iloadn gx36_26 rfl) ?_)
      refine pt_d (pt_icmp_ne gx36_27 h9 z2 (fun e10 => ?_) (fun e10 => ?_))
      · have H := H.1 e10
        refine pt_d (pt_iinc (c := 1) gx36_32 rfl z3 (fun v11 h11 => ?_))
        show Pt _ _ _ _ [some (.ref 16), some (.int x1), some (.int x2), some (.int v11)] [] _ _
        refine pt_d (pt_1 (fun n d => r_goto gx36_35) ?_)
        exact H v11 h11
      · have H := H.2 e10
        refine pt_d (pt_iconst gx36_30 (fun v12 h12 => ?_))
        exact pt_d (pt_iret gx36_31 ⟨_, rfl, by rw [h12]; exact H⟩)
theorem l_36 {X : aX} {h : aH} {f y : Int} (S : wS h) (hN : 0 ≤ vw h 16 3 ∧ vw h 16 3 ≤ 200) : ∀ (n : Nat) (x1 x2 x3 : Int32) (k : Int), x1.toInt = f → x2.toInt = y → x3.toInt = k → 0 ≤ k → k ≤ vw h 16 3 → (∀ c, 0 ≤ c → c < k → ¬ ((vw h 27 c = f ∧ vw h 29 c = y))) → Pt n X zM36 2 [some (.ref 16), some (.int x1), some (.int x2), some (.int x3)] [] h (qI (fun r h' => h' = h ∧ r = bI (∃ c, (0 ≤ c ∧ c < vw h 16 3) ∧ (vw h 27 c = f ∧ vw h 29 c = y)))) := by
  intro n
  induction n with
  | zero => intros; exact pt_z
  | succ n ih =>
    intro x1 x2 x3 k h1 h2 hk k0 kN no
    have next : ¬ ((vw h 27 k = f ∧ vw h 29 k = y)) → k < vw h 16 3 → ∀ w : Int32, w.toInt = w32 (k + 1) → Pt n X zM36 2 [some (.ref 16), some (.int x1), some (.int x2), some (.int w)] [] h (qI (fun r h' => h' = h ∧ r = bI (∃ c, (0 ≤ c ∧ c < vw h 16 3) ∧ (vw h 27 c = f ∧ vw h 29 c = y)))) := by
      intro z e w g
      replace g := w_1 g (by omega) (by omega)
      refine ih x1 x2 w (k + 1) h1 h2 g (by omega) (by omega) (fun c c0 ck => ?_)
      by_cases q : c = k
      · rw [q]
        exact z
      · exact no c c0 (by omega)
    refine d36_2 S h1 h2 hk ⟨fun e => ⟨rfl, (bI_f (fun ⟨c, m, z⟩ => no c m.1 (by omega) z)).symm⟩, fun e p q => ⟨fun z0 w g => next (fun q => z0 (q.1)) e w g, fun z0 => ⟨fun z1 w g => next (fun q => z1 (q.2)) e w g, fun z1 => ⟨rfl, (bI_t ⟨k, ⟨k0, e⟩, z0, z1⟩).symm⟩⟩⟩⟩
theorem c_36 {n : Nat} {X : aX} {h : aH} {x1 x2 : Int32} {a1 a2 : Int} (S : wS h) (z1 : x1.toInt = a1) (z2 : x2.toInt = a2) (hN : 0 ≤ vw h 16 3 ∧ vw h 16 3 ≤ 200) : Pt n X zM36 0 [some (.ref 16), some (.int x1), some (.int x2), none] [] h (qI (fun r h' => h' = h ∧ r = bI (∃ c, (0 ≤ c ∧ c < vw h 16 3) ∧ (vw h 27 c = a1 ∧ vw h 29 c = a2)))) :=
  pt_d (d36_0 S z1 z2 (fun w g => l_36 S hN n x1 x2 w 0 z1 z2 g (Int.le_refl _) hN.1 (fun c a b => by omega)))
theorem d295_0 {n : Nat} {X : aX} {h : aH} {P : Int → aH → Prop} {x1 x2 : Int32} {a1 a2 : Int} (S : wS h) (z1 : x1.toInt = a1) (z2 : x2.toInt = a2) (H : (∀ (w3 : Int32), w3.toInt = 0 → Pt n X zM295 2 [some (.ref 72), some (.int x1), some (.int x2), some (.int w3)] [] h (qI P))) : Pt (n + 1) X zM295 0 [some (.ref 72), some (.int x1), some (.int x2), none] [] h (qI P) := by
  refine pt_iconst gx295_0 (fun v1 h1 => ?_)
  refine pt_d (pt_1 (fun n d => r_istoren (L' := [some (.ref 72), some (.int x1), some (.int x2), some (.int v1)]) gx295_1 rfl rfl) ?_)
  exact H v1 h1
theorem d295_2 {n : Nat} {X : aX} {h : aH} {P : Int → aH → Prop} {x1 x2 x3 : Int32} {a1 a2 a3 : Int} (S : wS h) (z1 : x1.toInt = a1) (z2 : x2.toInt = a2) (z3 : x3.toInt = a3) (H : ((vw h 72 32 ≤ a3 → P 0 h) ∧ (a3 < vw h 72 32 → (0 ≤ a3 → a3 < 200 → ((vw h 98 a3 ≠ a1 → (∀ (w3 : Int32), w3.toInt = w32 (a3 + 1) → Pt n X zM295 2 [some (.ref 72), some (.int x1), some (.int x2), some (.int w3)] [] h (qI P))) ∧ (vw h 98 a3 = a1 → ((vw h 100 a3 ≠ a2 → (∀ (w3 : Int32), w3.toInt = w32 (a3 + 1) → Pt n X zM295 2 [some (.ref 72), some (.int x1), some (.int x2), some (.int w3)] [] h (qI P))) ∧ (vw h 100 a3 = a2 → P 1 h)))))))) : Pt (n + 1) X zM295 2 [some (.ref 72), some (.int x1), some (.int x2), some (.int x3)] [] h (qI P) := by
  refine pt_1 (fun n d => r_iloadn gx295_2 rfl) ?_
  refine pt_d (pt_1 (fun n d => r_aloadn gx295_3 rfl) ?_)
  refine pt_d (pt_getI (B := 32) gx295_4 S (fun v1 h1 => ?_))
  refine pt_d (pt_icmp_ge gx295_7 z3 h1 (fun e2 => ?_) (fun e2 => ?_))
  · have H := H.1 e2
    refine pt_d (pt_iconst gx295_38 (fun v3 h3 => ?_))
    exact pt_d (pt_iret gx295_39 ⟨_, rfl, by rw [h3]; exact H⟩)
  · have H := H.2 e2
    refine pt_d (pt_1 (fun n d => r_aloadn gx295_10 rfl) ?_)
    refine pt_d (pt_getR gx295_11 S tr_72_33 ?_)
    refine pt_d (pt_1 (fun n d => r_iloadn gx295_14 rfl) ?_)
    refine pt_d (pt_iald (N' := 200) gx295_15 S tl_98 z3 (fun v5 p5 q5 h5 => ?_))
    have H := H p5 q5
    refine pt_d (pt_1 (fun n d => r_iloadn gx295_16 rfl) ?_)
    refine pt_d (pt_icmp_ne gx295_17 h5 z1 (fun e6 => ?_) (fun e6 => ?_))
    · have H := H.1 e6
      refine pt_d (pt_iinc (c := 1) gx295_32 rfl z3 (fun v7 h7 => ?_))
      show Pt _ _ _ _ [some (.ref 72), some (.int x1), some (.int x2), some (.int v7)] [] _ _
      refine pt_d (pt_1 (fun n d => r_goto gx295_35) ?_)
      exact H v7 h7
    · have H := H.2 e6
      refine pt_d (pt_1 (fun n d => r_aloadn gx295_20 rfl) ?_)
      refine pt_d (pt_getR gx295_21 S tr_72_35 ?_)
      refine pt_d (pt_1 (fun n d => r_iloadn gx295_24 rfl) ?_)
      refine pt_d (pt_iald (N' := 200) gx295_25 S tl_100 z3 (fun v9 p9 q9 h9 => ?_))
      refine pt_d (pt_1 (fun n d => r_iloadn gx295_26 rfl) ?_)
      refine pt_d (pt_icmp_ne gx295_27 h9 z2 (fun e10 => ?_) (fun e10 => ?_))
      · have H := H.1 e10
        refine pt_d (pt_iinc (c := 1) gx295_32 rfl z3 (fun v11 h11 => ?_))
        show Pt _ _ _ _ [some (.ref 72), some (.int x1), some (.int x2), some (.int v11)] [] _ _
        refine pt_d (pt_1 (fun n d => r_goto gx295_35) ?_)
        exact H v11 h11
      · have H := H.2 e10
        refine pt_d (pt_iconst gx295_30 (fun v12 h12 => ?_))
        exact pt_d (pt_iret gx295_31 ⟨_, rfl, by rw [h12]; exact H⟩)
theorem l_295 {X : aX} {h : aH} {f y : Int} (S : wS h) (hN : 0 ≤ vw h 72 32 ∧ vw h 72 32 ≤ 200) : ∀ (n : Nat) (x1 x2 x3 : Int32) (k : Int), x1.toInt = f → x2.toInt = y → x3.toInt = k → 0 ≤ k → k ≤ vw h 72 32 → (∀ c, 0 ≤ c → c < k → ¬ ((vw h 98 c = f ∧ vw h 100 c = y))) → Pt n X zM295 2 [some (.ref 72), some (.int x1), some (.int x2), some (.int x3)] [] h (qI (fun r h' => h' = h ∧ r = bI (∃ c, (0 ≤ c ∧ c < vw h 72 32) ∧ (vw h 98 c = f ∧ vw h 100 c = y)))) := by
  intro n
  induction n with
  | zero => intros; exact pt_z
  | succ n ih =>
    intro x1 x2 x3 k h1 h2 hk k0 kN no
    have next : ¬ ((vw h 98 k = f ∧ vw h 100 k = y)) → k < vw h 72 32 → ∀ w : Int32, w.toInt = w32 (k + 1) → Pt n X zM295 2 [some (.ref 72), some (.int x1), some (.int x2), some (.int w)] [] h (qI (fun r h' => h' = h ∧ r = bI (∃ c, (0 ≤ c ∧ c < vw h 72 32) ∧ (vw h 98 c = f ∧ vw h 100 c = y)))) := by
      intro z e w g
      replace g := w_1 g (by omega) (by omega)
      refine ih x1 x2 w (k + 1) h1 h2 g (by omega) (by omega) (fun c c0 ck => ?_)
      by_cases q : c = k
      · rw [q]
        exact z
      · exact no c c0 (by omega)
    refine d295_2 S h1 h2 hk ⟨fun e => ⟨rfl, (bI_f (fun ⟨c, m, z⟩ => no c m.1 (by omega) z)).symm⟩, fun e p q => ⟨fun z0 w g => next (fun q => z0 (q.1)) e w g, fun z0 => ⟨fun z1 w g => next (fun q => z1 (q.2)) e w g, fun z1 => ⟨rfl, (bI_t ⟨k, ⟨k0, e⟩, z0, z1⟩).symm⟩⟩⟩⟩
theorem c_295 {n : Nat} {X : aX} {h : aH} {x1 x2 : Int32} {a1 a2 : Int} (S : wS h) (z1 : x1.toInt = a1) (z2 : x2.toInt = a2) (hN : 0 ≤ vw h 72 32 ∧ vw h 72 32 ≤ 200) : Pt n X zM295 0 [some (.ref 72), some (.int x1), some (.int x2), none] [] h (qI (fun r h' => h' = h ∧ r = bI (∃ c, (0 ≤ c ∧ c < vw h 72 32) ∧ (vw h 98 c = a1 ∧ vw h 100 c = a2)))) :=
  pt_d (d295_0 S z1 z2 (fun w g => l_295 S hN n x1 x2 w 0 z1 z2 g (Int.le_refl _) hN.1 (fun c a b => by omega)))
theorem d291_0 {n : Nat} {X : aX} {h : aH} {P : Int → aH → Prop} {x1 x2 : Int32} {a1 a2 : Int} (S : wS h) (z1 : x1.toInt = a1) (z2 : x2.toInt = a2) (H : (∀ (w3 : Int32), w3.toInt = 0 → Pt n X zM291 2 [some (.ref 72), some (.int x1), some (.int x2), some (.int w3)] [] h (qI P))) : Pt (n + 1) X zM291 0 [some (.ref 72), some (.int x1), some (.int x2), none] [] h (qI P) := by
  refine pt_iconst gx291_0 (fun v1 h1 => ?_)
  refine pt_d (pt_1 (fun n d => r_istoren (L' := [some (.ref 72), some (.int x1), some (.int x2), some (.int v1)]) gx291_1 rfl rfl) ?_)
  exact H v1 h1
theorem d291_2 {n : Nat} {X : aX} {h : aH} {P : Int → aH → Prop} {x1 x2 x3 : Int32} {a1 a2 a3 : Int} (S : wS h) (z1 : x1.toInt = a1) (z2 : x2.toInt = a2) (z3 : x3.toInt = a3) (H : ((vw h 72 19 ≤ a3 → P 0 h) ∧ (a3 < vw h 72 19 → (0 ≤ a3 → a3 < 300 → ((vw h 103 a3 = 0 → (∀ (w3 : Int32), w3.toInt = w32 (a3 + 1) → Pt n X zM291 2 [some (.ref 72), some (.int x1), some (.int x2), some (.int w3)] [] h (qI P))) ∧ (vw h 103 a3 ≠ 0 → ((vw h 87 a3 ≠ a1 → (∀ (w3 : Int32), w3.toInt = w32 (a3 + 1) → Pt n X zM291 2 [some (.ref 72), some (.int x1), some (.int x2), some (.int w3)] [] h (qI P))) ∧ (vw h 87 a3 = a1 → ((iDiv ((vw h) 90 a3) 365 ≠ a2 → (∀ (w3 : Int32), w3.toInt = w32 (a3 + 1) → Pt n X zM291 2 [some (.ref 72), some (.int x1), some (.int x2), some (.int w3)] [] h (qI P))) ∧ (iDiv ((vw h) 90 a3) 365 = a2 → P 1 h)))))))))) : Pt (n + 1) X zM291 2 [some (.ref 72), some (.int x1), some (.int x2), some (.int x3)] [] h (qI P) := by
  refine pt_1 (fun n d => r_iloadn gx291_2 rfl) ?_
  refine pt_d (pt_1 (fun n d => r_aloadn gx291_3 rfl) ?_)
  refine pt_d (pt_getI (B := 19) gx291_4 S (fun v1 h1 => ?_))
  refine pt_d (pt_icmp_ge gx291_7 z3 h1 (fun e2 => ?_) (fun e2 => ?_))
  · have H := H.1 e2
    refine pt_d (pt_iconst gx291_46 (fun v3 h3 => ?_))
    exact pt_d (pt_iret gx291_47 ⟨_, rfl, by rw [h3]; exact H⟩)
  · have H := H.2 e2
    refine pt_d (pt_1 (fun n d => r_aloadn gx291_10 rfl) ?_)
    refine pt_d (pt_getR gx291_11 S tr_72_40 ?_)
    refine pt_d (pt_1 (fun n d => r_iloadn gx291_14 rfl) ?_)
    refine pt_d (pt_zald (N' := 300) gx291_15 S tl_103 z3 (fun v5 p5 q5 h5 => ?_))
    have H := H p5 q5
    refine pt_d (pt_if_eq gx291_16 h5 (fun e6 => ?_) (fun e6 => ?_))
    · have H := H.1 e6
      refine pt_d (pt_iinc (c := 1) gx291_40 rfl z3 (fun v7 h7 => ?_))
      show Pt _ _ _ _ [some (.ref 72), some (.int x1), some (.int x2), some (.int v7)] [] _ _
      refine pt_d (pt_1 (fun n d => r_goto gx291_43) ?_)
      exact H v7 h7
    · have H := H.2 e6
      refine pt_d (pt_1 (fun n d => r_aloadn gx291_19 rfl) ?_)
      refine pt_d (pt_getR gx291_20 S tr_72_20 ?_)
      refine pt_d (pt_1 (fun n d => r_iloadn gx291_23 rfl) ?_)
      refine pt_d (pt_iald (N' := 300) gx291_24 S tl_87 z3 (fun v9 p9 q9 h9 => ?_))
      refine pt_d (pt_1 (fun n d => r_iloadn gx291_25 rfl) ?_)
      refine pt_d (pt_icmp_ne gx291_26 h9 z1 (fun e10 => ?_) (fun e10 => ?_))
      · have H := H.1 e10
        refine pt_d (pt_iinc (c := 1) gx291_40 rfl z3 (fun v11 h11 => ?_))
        show Pt _ _ _ _ [some (.ref 72), some (.int x1), some (.int x2), some (.int v11)] [] _ _
        refine pt_d (pt_1 (fun n d => r_goto gx291_43) ?_)
        exact H v11 h11
      · have H := H.2 e10
        refine pt_d (pt_1 (fun n d => r_aloadn gx291_29 rfl) ?_)
        refine pt_d (pt_1 (fun n d => r_iloadn gx291_30 rfl) ?_)
        refine pt_d (pt_virt (as := [.int x3]) (r := []) gx291_31 rfl (show zmt[229]? = some zM229 from rfl) rfl rfl rfl rfl (c_229 S z3) (kqP (fun v12 h12 => ?_)))
        show Pt _ _ _ 34 _ [.int v12] _ _
        refine pt_d (pt_1 (fun n d => r_iloadn gx291_34 rfl) ?_)
        refine pt_d (pt_icmp_ne gx291_35 h12 z2 (fun e13 => ?_) (fun e13 => ?_))
        · have H := H.1 e13
          refine pt_d (pt_iinc (c := 1) gx291_40 rfl z3 (fun v14 h14 => ?_))
          show Pt _ _ _ _ [some (.ref 72), some (.int x1), some (.int x2), some (.int v14)] [] _ _
          refine pt_d (pt_1 (fun n d => r_goto gx291_43) ?_)
          exact H v14 h14
        · have H := H.2 e13
          refine pt_d (pt_iconst gx291_38 (fun v15 h15 => ?_))
          exact pt_d (pt_iret gx291_39 ⟨_, rfl, by rw [h15]; exact H⟩)
theorem l_291 {X : aX} {h : aH} {f y : Int} (S : wS h) (hN : 0 ≤ vw h 72 19 ∧ vw h 72 19 ≤ 300) : ∀ (n : Nat) (x1 x2 x3 : Int32) (k : Int), x1.toInt = f → x2.toInt = y → x3.toInt = k → 0 ≤ k → k ≤ vw h 72 19 → (∀ c, 0 ≤ c → c < k → ¬ ((vw h 103 c ≠ 0 ∧ vw h 87 c = f ∧ iDiv (vw h 90 c) 365 = y))) → Pt n X zM291 2 [some (.ref 72), some (.int x1), some (.int x2), some (.int x3)] [] h (qI (fun r h' => h' = h ∧ r = bI (∃ c, (0 ≤ c ∧ c < vw h 72 19) ∧ (vw h 103 c ≠ 0 ∧ vw h 87 c = f ∧ iDiv (vw h 90 c) 365 = y)))) := by
  intro n
  induction n with
  | zero => intros; exact pt_z
  | succ n ih =>
    intro x1 x2 x3 k h1 h2 hk k0 kN no
    have next : ¬ ((vw h 103 k ≠ 0 ∧ vw h 87 k = f ∧ iDiv (vw h 90 k) 365 = y)) → k < vw h 72 19 → ∀ w : Int32, w.toInt = w32 (k + 1) → Pt n X zM291 2 [some (.ref 72), some (.int x1), some (.int x2), some (.int w)] [] h (qI (fun r h' => h' = h ∧ r = bI (∃ c, (0 ≤ c ∧ c < vw h 72 19) ∧ (vw h 103 c ≠ 0 ∧ vw h 87 c = f ∧ iDiv (vw h 90 c) 365 = y)))) := by
      intro z e w g
      replace g := w_1 g (by omega) (by omega)
      refine ih x1 x2 w (k + 1) h1 h2 g (by omega) (by omega) (fun c c0 ck => ?_)
      by_cases q : c = k
      · rw [q]
        exact z
      · exact no c c0 (by omega)
    refine d291_2 S h1 h2 hk ⟨fun e => ⟨rfl, (bI_f (fun ⟨c, m, z⟩ => no c m.1 (by omega) z)).symm⟩, fun e p q => ⟨fun z0 w g => next (fun q => q.1 z0) e w g, fun z0 => ⟨fun z1 w g => next (fun q => z1 (q.2.1)) e w g, fun z1 => ⟨fun z2 w g => next (fun q => z2 (q.2.2)) e w g, fun z2 => ⟨rfl, (bI_t ⟨k, ⟨k0, e⟩, z0, z1, z2⟩).symm⟩⟩⟩⟩⟩
theorem c_291 {n : Nat} {X : aX} {h : aH} {x1 x2 : Int32} {a1 a2 : Int} (S : wS h) (z1 : x1.toInt = a1) (z2 : x2.toInt = a2) (hN : 0 ≤ vw h 72 19 ∧ vw h 72 19 ≤ 300) : Pt n X zM291 0 [some (.ref 72), some (.int x1), some (.int x2), none] [] h (qI (fun r h' => h' = h ∧ r = bI (∃ c, (0 ≤ c ∧ c < vw h 72 19) ∧ (vw h 103 c ≠ 0 ∧ vw h 87 c = a1 ∧ iDiv (vw h 90 c) 365 = a2)))) :=
  pt_d (d291_0 S z1 z2 (fun w g => l_291 S hN n x1 x2 w 0 z1 z2 g (Int.le_refl _) hN.1 (fun c a b => by omega)))
end
section
-- ===== the rate of errors =====
theorem d270_0 {n : Nat} {X : aX} {h : aH} {P : Int → aH → Prop} {x1 x2 x3 : Int32} {a1 a2 a3 : Int} (S : wS h) (z1 : x1.toInt = a1) (z2 : x2.toInt = a2) (z3 : x3.toInt = a3) (H : (∀ (w4 : Int32) (w5 : Int32), w4.toInt = 0 → w5.toInt = 0 → Pt n X zM270 6 [some (.ref 72), some (.int x1), some (.int x2), some (.int x3), some (.int w4), some (.int w5)] [] h (qI P))) : Pt (n + 1) X zM270 0 [some (.ref 72), some (.int x1), some (.int x2), some (.int x3), none, none] [] h (qI P) := by
  refine pt_iconst gx270_0 (fun v1 h1 => ?_)
  refine pt_d (pt_1 (fun n d => r_istore (L' := [some (.ref 72), some (.int x1), some (.int x2), some (.int x3), some (.int v1), none]) gx270_1 rfl rfl) ?_)
  refine pt_d (pt_iconst gx270_3 (fun v2 h2 => ?_))
  refine pt_d (pt_1 (fun n d => r_istore (L' := [some (.ref 72), some (.int x1), some (.int x2), some (.int x3), some (.int v1), some (.int v2)]) gx270_4 rfl rfl) ?_)
  exact H v1 v2 h1 h2
theorem d270_6 {n : Nat} {X : aX} {h : aH} {P : Int → aH → Prop} {x1 x2 x3 x4 x5 : Int32} {a1 a2 a3 a4 a5 : Int} (S : wS h) (z1 : x1.toInt = a1) (z2 : x2.toInt = a2) (z3 : x3.toInt = a3) (z4 : x4.toInt = a4) (z5 : x5.toInt = a5) (H : ((vw h 72 19 ≤ a5 → P a4 h) ∧ (a5 < vw h 72 19 → (0 ≤ a5 → a5 < 300 → ((vw h 103 a5 = 0 → (∀ (w5 : Int32), w5.toInt = w32 (a5 + 1) → Pt n X zM270 6 [some (.ref 72), some (.int x1), some (.int x2), some (.int x3), some (.int x4), some (.int w5)] [] h (qI P))) ∧ (vw h 103 a5 ≠ 0 → ((vw h 87 a5 ≠ a1 → (∀ (w5 : Int32), w5.toInt = w32 (a5 + 1) → Pt n X zM270 6 [some (.ref 72), some (.int x1), some (.int x2), some (.int x3), some (.int x4), some (.int w5)] [] h (qI P))) ∧ (vw h 87 a5 = a1 → ((iDiv ((vw h) 90 a5) 365 ≠ a2 → (∀ (w5 : Int32), w5.toInt = w32 (a5 + 1) → Pt n X zM270 6 [some (.ref 72), some (.int x1), some (.int x2), some (.int x3), some (.int x4), some (.int w5)] [] h (qI P))) ∧ (iDiv ((vw h) 90 a5) 365 = a2 → ((a3 = 0 → (∀ (w4 : Int32) (w5 : Int32), w4.toInt = w32 (a4 + (vw h 104 a5)) → w5.toInt = w32 (a5 + 1) → Pt n X zM270 6 [some (.ref 72), some (.int x1), some (.int x2), some (.int x3), some (.int w4), some (.int w5)] [] h (qI P))) ∧ (a3 ≠ 0 → (∀ (w4 : Int32) (w5 : Int32), w4.toInt = w32 (a4 + (vw h 105 a5)) → w5.toInt = w32 (a5 + 1) → Pt n X zM270 6 [some (.ref 72), some (.int x1), some (.int x2), some (.int x3), some (.int w4), some (.int w5)] [] h (qI P)))))))))))))) : Pt (n + 1) X zM270 6 [some (.ref 72), some (.int x1), some (.int x2), some (.int x3), some (.int x4), some (.int x5)] [] h (qI P) := by
  refine pt_1 (fun n d => r_iload gx270_6 rfl) ?_
  refine pt_d (pt_1 (fun n d => r_aloadn gx270_8 rfl) ?_)
  refine pt_d (pt_getI (B := 19) gx270_9 S (fun v1 h1 => ?_))
  refine pt_d (pt_icmp_ge gx270_12 z5 h1 (fun e2 => ?_) (fun e2 => ?_))
  · have H := H.1 e2
    refine pt_d (pt_1 (fun n d => r_iload gx270_78 rfl) ?_)
    exact pt_d (pt_iret gx270_80 ⟨_, rfl, by rw [z4]; exact H⟩)
  · have H := H.2 e2
    refine pt_d (pt_1 (fun n d => r_aloadn gx270_15 rfl) ?_)
    refine pt_d (pt_getR gx270_16 S tr_72_40 ?_)
    refine pt_d (pt_1 (fun n d => r_iload gx270_19 rfl) ?_)
    refine pt_d (pt_zald (N' := 300) gx270_21 S tl_103 z5 (fun v4 p4 q4 h4 => ?_))
    have H := H p4 q4
    refine pt_d (pt_if_eq gx270_22 h4 (fun e5 => ?_) (fun e5 => ?_))
    · have H := H.1 e5
      refine pt_d (pt_iinc (c := 1) gx270_72 rfl z5 (fun v6 h6 => ?_))
      show Pt _ _ _ _ [some (.ref 72), some (.int x1), some (.int x2), some (.int x3), some (.int x4), some (.int v6)] [] _ _
      refine pt_d (pt_1 (fun n d => r_goto gx270_75) ?_)
      exact H v6 h6
    · have H := H.2 e5
      refine pt_d (pt_1 (fun n d => r_aloadn gx270_25 rfl) ?_)
      refine pt_d (pt_getR gx270_26 S tr_72_20 ?_)
      refine pt_d (pt_1 (fun n d => r_iload gx270_29 rfl) ?_)
      refine pt_d (pt_iald (N' := 300) gx270_31 S tl_87 z5 (fun v8 p8 q8 h8 => ?_))
      refine pt_d (pt_1 (fun n d => r_iloadn gx270_32 rfl) ?_)
      refine pt_d (pt_icmp_ne gx270_33 h8 z1 (fun e9 => ?_) (fun e9 => ?_))
      · have H := H.1 e9
        refine pt_d (pt_iinc (c := 1) gx270_72 rfl z5 (fun v10 h10 => ?_))
        show Pt _ _ _ _ [some (.ref 72), some (.int x1), some (.int x2), some (.int x3), some (.int x4), some (.int v10)] [] _ _
        refine pt_d (pt_1 (fun n d => r_goto gx270_75) ?_)
        exact H v10 h10
      · have H := H.2 e9
        refine pt_d (pt_1 (fun n d => r_aloadn gx270_36 rfl) ?_)
        refine pt_d (pt_1 (fun n d => r_iload gx270_37 rfl) ?_)
        refine pt_d (pt_virt (as := [.int x5]) (r := []) gx270_39 rfl (show zmt[229]? = some zM229 from rfl) rfl rfl rfl rfl (c_229 S z5) (kqP (fun v11 h11 => ?_)))
        show Pt _ _ _ 42 _ [.int v11] _ _
        refine pt_d (pt_1 (fun n d => r_iloadn gx270_42 rfl) ?_)
        refine pt_d (pt_icmp_ne gx270_43 h11 z2 (fun e12 => ?_) (fun e12 => ?_))
        · have H := H.1 e12
          refine pt_d (pt_iinc (c := 1) gx270_72 rfl z5 (fun v13 h13 => ?_))
          show Pt _ _ _ _ [some (.ref 72), some (.int x1), some (.int x2), some (.int x3), some (.int x4), some (.int v13)] [] _ _
          refine pt_d (pt_1 (fun n d => r_goto gx270_75) ?_)
          exact H v13 h13
        · have H := H.2 e12
          refine pt_d (pt_1 (fun n d => r_iload gx270_46 rfl) ?_)
          refine pt_d (pt_1 (fun n d => r_iloadn gx270_48 rfl) ?_)
          refine pt_d (pt_if_eq gx270_49 z3 (fun e14 => ?_) (fun e14 => ?_))
          · have H := H.1 e14
            refine pt_d (pt_1 (fun n d => r_aloadn gx270_62 rfl) ?_)
            refine pt_d (pt_getR gx270_63 S tr_72_41 ?_)
            refine pt_d (pt_1 (fun n d => r_iload gx270_66 rfl) ?_)
            refine pt_d (pt_iald (N' := 300) gx270_68 S tl_104 z5 (fun v16 p16 q16 h16 => ?_))
            refine pt_d (pt_iadd gx270_69 z4 h16 (fun v17 h17 => ?_))
            refine pt_d (pt_1 (fun n d => r_istore (L' := [some (.ref 72), some (.int x1), some (.int x2), some (.int x3), some (.int v17), some (.int x5)]) gx270_70 rfl rfl) ?_)
            refine pt_d (pt_iinc (c := 1) gx270_72 rfl z5 (fun v18 h18 => ?_))
            show Pt _ _ _ _ [some (.ref 72), some (.int x1), some (.int x2), some (.int x3), some (.int v17), some (.int v18)] [] _ _
            refine pt_d (pt_1 (fun n d => r_goto gx270_75) ?_)
            exact H v17 v18 h17 h18
          · have H := H.2 e14
            refine pt_d (pt_1 (fun n d => r_aloadn gx270_52 rfl) ?_)
            refine pt_d (pt_getR gx270_53 S tr_72_42 ?_)
            refine pt_d (pt_1 (fun n d => r_iload gx270_56 rfl) ?_)
            refine pt_d (pt_iald (N' := 300) gx270_58 S tl_105 z5 (fun v20 p20 q20 h20 => ?_))
            refine pt_d (pt_1 (fun n d => r_goto gx270_59) ?_)
            refine pt_d (pt_iadd gx270_69 z4 h20 (fun v21 h21 => ?_))
            refine pt_d (pt_1 (fun n d => r_istore (L' := [some (.ref 72), some (.int x1), some (.int x2), some (.int x3), some (.int v21), some (.int x5)]) gx270_70 rfl rfl) ?_)
            refine pt_d (pt_iinc (c := 1) gx270_72 rfl z5 (fun v22 h22 => ?_))
            show Pt _ _ _ _ [some (.ref 72), some (.int x1), some (.int x2), some (.int x3), some (.int v21), some (.int v22)] [] _ _
            refine pt_d (pt_1 (fun n d => r_goto gx270_75) ?_)
            exact H v21 v22 h21 h22
noncomputable def mSm (V : vS) (f y : Int) (r : Nat) (n : Nat) : Int := sgm (fun c => pI (V 103 c ≠ 0 ∧ V 87 c = f ∧ iDiv (V 90 c) 365 = y) (V r c)) n
theorem mSm_s (V : vS) (f y : Int) (r n : Nat) : mSm V f y r (n + 1) = mSm V f y r n + pI (V 103 (n : Nat) ≠ 0 ∧ V 87 (n : Nat) = f ∧ iDiv (V 90 (n : Nat)) 365 = y) (V r (n : Nat)) := rfl
theorem l_270 {X : aX} {h : aH} {f y u : Int} (S : wS h) (hN : 0 ≤ vw h 72 19 ∧ vw h 72 19 ≤ 300) : ∀ (n : Nat) (x1 x2 x3 x4 x5 : Int32) (k : Nat), x1.toInt = f → x2.toInt = y → x3.toInt = u → x4.toInt = w32 (mSm (vw h) f y (if u = 0 then 104 else 105) k) → x5.toInt = (k : Int) → (k : Int) ≤ vw h 72 19 → Pt n X zM270 6 [some (.ref 72), some (.int x1), some (.int x2), some (.int x3), some (.int x4), some (.int x5)] [] h (qI (fun r h' => h' = h ∧ r = w32 (mSm (vw h) f y (if u = 0 then 104 else 105) (vw h 72 19).toNat))) := by
  intro n
  induction n with
  | zero => intros; exact pt_z
  | succ n ih =>
    intro x1 x2 x3 x4 x5 k h1 h2 h3 h4 h5 hk
    have skip : (k : Int) < vw h 72 19 → ¬ (vw h 103 (k : Nat) ≠ 0 ∧ vw h 87 (k : Nat) = f ∧ iDiv (vw h 90 (k : Nat)) 365 = y) → ∀ w5 : Int32, w5.toInt = w32 ((k : Int) + 1) → Pt n X zM270 6 [some (.ref 72), some (.int x1), some (.int x2), some (.int x3), some (.int x4), some (.int w5)] [] h (qI (fun r h' => h' = h ∧ r = w32 (mSm (vw h) f y (if u = 0 then 104 else 105) (vw h 72 19).toNat))) := by
      intro e z w5 g
      replace g := w_1 g (by omega) (by omega)
      refine ih x1 x2 x3 x4 w5 (k + 1) h1 h2 h3 ?_ (by omega) (by omega)
      rw [mSm_s, pI_f z, Int.add_zero]
      exact h4
    have take : (k : Int) < vw h 72 19 → (vw h 103 (k : Nat) ≠ 0 ∧ vw h 87 (k : Nat) = f ∧ iDiv (vw h 90 (k : Nat)) 365 = y) → ∀ w4 w5 : Int32, w4.toInt = w32 (x4.toInt + vw h (if u = 0 then 104 else 105) (k : Nat)) → w5.toInt = w32 ((k : Int) + 1) → Pt n X zM270 6 [some (.ref 72), some (.int x1), some (.int x2), some (.int x3), some (.int w4), some (.int w5)] [] h (qI (fun r h' => h' = h ∧ r = w32 (mSm (vw h) f y (if u = 0 then 104 else 105) (vw h 72 19).toNat))) := by
      intro e z w4 w5 g4 g
      replace g := w_1 g (by omega) (by omega)
      refine ih x1 x2 x3 w4 w5 (k + 1) h1 h2 h3 ?_ (by omega) (by omega)
      rw [mSm_s, pI_t z, g4, h4, w32_add]
    refine d270_6 S h1 h2 h3 rfl h5 ⟨fun e => ⟨rfl, ?_⟩, fun e p q => ⟨fun z w5 g => skip e (fun w => w.1 z) w5 g, fun z => ⟨fun z2 w5 g => skip e (fun w => z2 w.2.1) w5 g, fun z2 => ⟨fun z3 w5 g => skip e (fun w => z3 w.2.2) w5 g, fun z3 => ⟨fun z4 w4 w5 g4 g => take e ⟨z, z2, z3⟩ w4 w5 (by rw [g4, if_pos z4]) g, fun z4 w4 w5 g4 g => take e ⟨z, z2, z3⟩ w4 w5 (by rw [g4, if_neg z4]) g⟩⟩⟩⟩⟩
    rw [h4, show (vw h 72 19).toNat = k by omega]
theorem c_270 {n : Nat} {X : aX} {h : aH} {x1 x2 x3 : Int32} {a1 a2 a3 : Int} (S : wS h) (z1 : x1.toInt = a1) (z2 : x2.toInt = a2) (z3 : x3.toInt = a3) (hN : 0 ≤ vw h 72 19 ∧ vw h 72 19 ≤ 300) : Pt n X zM270 0 [some (.ref 72), some (.int x1), some (.int x2), some (.int x3), none, none] [] h (qI (fun r h' => h' = h ∧ r = w32 (mSm (vw h) a1 a2 (if a3 = 0 then 104 else 105) (vw h 72 19).toNat))) :=
  pt_d (d270_0 S z1 z2 z3 (fun w4 w5 g4 g5 => l_270 S hN n x1 x2 x3 w4 w5 0 z1 z2 z3 (by rw [g4]; rfl) g5 hN.1))

theorem d271_0 {n : Nat} {X : aX} {h : aH} {P : Int → aH → Prop} {x1 x2 : Int32} {a1 a2 : Int} (S : wS h) (z1 : x1.toInt = a1) (z2 : x2.toInt = a2) (H : ((0 ≤ vw h 72 19 ∧ vw h 72 19 ≤ 300) ∧ ((0 ≤ vw h 72 19 ∧ vw h 72 19 ≤ 300) ∧ ((w32 (mSm (vw h) a1 a2 (if (1 : Int) = 0 then 104 else 105) ((vw h) 72 19).toNat) ≠ 0 → P (min 999 (iDiv (w32 (100 * (w32 ((w32 (mSm (vw h) a1 a2 (if (0 : Int) = 0 then 104 else 105) ((vw h) 72 19).toNat)) - (w32 (mSm (vw h) a1 a2 (if (1 : Int) = 0 then 104 else 105) ((vw h) 72 19).toNat)))))) (w32 (mSm (vw h) a1 a2 (if (1 : Int) = 0 then 104 else 105) ((vw h) 72 19).toNat)))) h) ∧ (w32 (mSm (vw h) a1 a2 (if (1 : Int) = 0 then 104 else 105) ((vw h) 72 19).toNat) = 0 → ((w32 (mSm (vw h) a1 a2 (if (0 : Int) = 0 then 104 else 105) ((vw h) 72 19).toNat) ≠ 0 → P 999 h) ∧ (w32 (mSm (vw h) a1 a2 (if (0 : Int) = 0 then 104 else 105) ((vw h) 72 19).toNat) = 0 → P 0 h))))))) : Pt (n + 1) X zM271 0 [some (.ref 72), some (.int x1), some (.int x2), none, none] [] h (qI P) := by
  refine pt_1 (fun n d => r_aloadn gx271_0 rfl) ?_
  refine pt_d (pt_1 (fun n d => r_iloadn gx271_1 rfl) ?_)
  refine pt_d (pt_1 (fun n d => r_iloadn gx271_2 rfl) ?_)
  refine pt_d (pt_iconst gx271_3 (fun v1 h1 => ?_))
  obtain ⟨pr2, H⟩ := H
  refine pt_d (pt_virt (as := [.int x1, .int x2, .int v1]) (r := []) gx271_4 rfl (show zmt[270]? = some zM270 from rfl) rfl rfl rfl rfl (c_270 S z1 z2 h1 pr2) (kqP (fun v2 h2 => ?_)))
  show Pt _ _ _ 7 _ [.int v2] _ _
  refine pt_d (pt_1 (fun n d => r_istoren (L' := [some (.ref 72), some (.int x1), some (.int x2), some (.int v2), none]) gx271_7 rfl rfl) ?_)
  refine pt_d (pt_1 (fun n d => r_aloadn gx271_8 rfl) ?_)
  refine pt_d (pt_1 (fun n d => r_iloadn gx271_9 rfl) ?_)
  refine pt_d (pt_1 (fun n d => r_iloadn gx271_10 rfl) ?_)
  refine pt_d (pt_iconst gx271_11 (fun v3 h3 => ?_))
  obtain ⟨pr4, H⟩ := H
  refine pt_d (pt_virt (as := [.int x1, .int x2, .int v3]) (r := []) gx271_12 rfl (show zmt[270]? = some zM270 from rfl) rfl rfl rfl rfl (c_270 S z1 z2 h3 pr4) (kqP (fun v4 h4 => ?_)))
  show Pt _ _ _ 15 _ [.int v4] _ _
  refine pt_d (pt_1 (fun n d => r_istore (L' := [some (.ref 72), some (.int x1), some (.int x2), some (.int v2), some (.int v4)]) gx271_15 rfl rfl) ?_)
  refine pt_d (pt_1 (fun n d => r_iload gx271_17 rfl) ?_)
  refine pt_d (pt_if_ne gx271_19 h4 (fun e5 => ?_) (fun e5 => ?_))
  · have H := H.1 e5
    refine pt_d (pt_sipush gx271_34 (fun v6 h6 => ?_))
    refine pt_d (pt_bipush gx271_37 (fun v7 h7 => ?_))
    refine pt_d (pt_1 (fun n d => r_iloadn gx271_39 rfl) ?_)
    refine pt_d (pt_1 (fun n d => r_iload gx271_40 rfl) ?_)
    refine pt_d (pt_isub gx271_42 h2 h4 (fun v8 h8 => ?_))
    refine pt_d (pt_imul gx271_43 h7 h8 (fun v9 h9 => ?_))
    refine pt_d (pt_1 (fun n d => r_iload gx271_44 rfl) ?_)
    refine pt_d (pt_idiv gx271_46 h9 h4 (fun v10 h10 => ?_))
    refine pt_d (pt_stat (as := [.int v6, .int v10]) (r := []) gx271_47 rfl (show zmt[211]? = some zM211 from rfl) rfl rfl rfl rfl (c_211 S h6 h10) (kqP (fun v11 h11 => ?_)))
    show Pt _ _ _ 50 _ [.int v11] _ _
    exact pt_d (pt_iret gx271_50 ⟨_, rfl, by rw [h11]; exact H⟩)
  · have H := H.2 e5
    refine pt_d (pt_1 (fun n d => r_iloadn gx271_22 rfl) ?_)
    refine pt_d (pt_if_ne gx271_23 h2 (fun e12 => ?_) (fun e12 => ?_))
    · have H := H.1 e12
      refine pt_d (pt_sipush gx271_30 (fun v13 h13 => ?_))
      exact pt_d (pt_iret gx271_33 ⟨_, rfl, by rw [h13]; exact H⟩)
    · have H := H.2 e12
      refine pt_d (pt_iconst gx271_26 (fun v14 h14 => ?_))
      refine pt_d (pt_1 (fun n d => r_goto gx271_27) ?_)
      exact pt_d (pt_iret gx271_33 ⟨_, rfl, by rw [h14]; exact H⟩)
noncomputable def mErr (V : vS) (f y : Int) : Int := if w32 (mSm V f y 105 (V 72 19).toNat) = 0 then (if w32 (mSm V f y 104 (V 72 19).toNat) = 0 then 0 else 999) else min 999 (iDiv (w32 (100 * w32 (w32 (mSm V f y 104 (V 72 19).toNat) - w32 (mSm V f y 105 (V 72 19).toNat)))) (w32 (mSm V f y 105 (V 72 19).toNat)))
theorem c_271 {n : Nat} {X : aX} {h : aH} {x1 x2 : Int32} {a1 a2 : Int} (S : wS h) (z1 : x1.toInt = a1) (z2 : x2.toInt = a2) (hN : 0 ≤ vw h 72 19 ∧ vw h 72 19 ≤ 300) : Pt n X zM271 0 [some (.ref 72), some (.int x1), some (.int x2), none, none] [] h (qI (fun r h' => h' = h ∧ r = mErr (vw h) a1 a2)) := by
  refine pt_d (d271_0 S z1 z2 ⟨hN, hN, ?_⟩)
  rw [if_neg (show ¬ (1 : Int) = 0 by decide), if_pos (show (0 : Int) = 0 from rfl)]
  refine ⟨fun e => ⟨rfl, ?_⟩, fun e => ⟨fun e2 => ⟨rfl, ?_⟩, fun e2 => ⟨rfl, ?_⟩⟩⟩
  · unfold mErr
    rw [if_neg e]
  · unfold mErr
    rw [if_pos e, if_neg e2]
  · unfold mErr
    rw [if_pos e, if_pos e2]
noncomputable def cErr (V : vS) (q : Nat) (f : Int) : Int := if w32 (V (q + 5) f - V (q + 6) f) = 0 then (if V (q + 5) f = 0 then 0 else 999) else min 999 (iDiv (w32 (100 * V (q + 6) f)) (w32 (V (q + 5) f - V (q + 6) f)))
def PR102 (V : vS) (q : Nat) : Prop := V q 10 = ((q + 5 : Nat) : Int) ∧ V q 11 = ((q + 6 : Nat) : Int)

theorem d102_0 {n : Nat} {X : aX} {h : aH} {P : Int → aH → Prop} {x1 : Int32} {a1 : Int} {q0 : Nat} (S : wS h) (z1 : x1.toInt = a1) (H : ((vw h) q0 10 = (((q0 + 5) : Nat) : Int) ∧ (0 ≤ a1 → ((vw h) q0 11 = (((q0 + 6) : Nat) : Int) ∧ (0 ≤ a1 → ((w32 ((vw h (q0 + 5) a1) - (vw h (q0 + 6) a1)) ≠ 0 → ((vw h) q0 11 = (((q0 + 6) : Nat) : Int) ∧ (0 ≤ a1 → P (min 999 (iDiv (w32 (100 * (vw h (q0 + 6) a1))) (w32 ((vw h (q0 + 5) a1) - (vw h (q0 + 6) a1))))) h))) ∧ (w32 ((vw h (q0 + 5) a1) - (vw h (q0 + 6) a1)) = 0 → ((vw h) q0 10 = (((q0 + 5) : Nat) : Int) ∧ (0 ≤ a1 → ((vw h (q0 + 5) a1 ≠ 0 → P 999 h) ∧ (vw h (q0 + 5) a1 = 0 → P 0 h))))))))))) : Pt (n + 1) X zM102 0 [some (.ref q0), some (.int x1), none] [] h (qI P) := by
  refine pt_1 (fun n d => r_aloadn gx102_0 rfl) ?_
  obtain ⟨pr1, H⟩ := H
  refine pt_d (pt_getK (B := 10) gx102_1 S (pr1) ?_)
  refine pt_d (pt_1 (fun n d => r_iloadn gx102_4 rfl) ?_)
  refine pt_d (pt_ialdD gx102_5 z1 (fun v2 p2 h2 => ?_))
  have H := H p2
  refine pt_d (pt_1 (fun n d => r_aloadn gx102_6 rfl) ?_)
  obtain ⟨pr3, H⟩ := H
  refine pt_d (pt_getK (B := 11) gx102_7 S (pr3) ?_)
  refine pt_d (pt_1 (fun n d => r_iloadn gx102_10 rfl) ?_)
  refine pt_d (pt_ialdD gx102_11 z1 (fun v4 p4 h4 => ?_))
  have H := H p4
  refine pt_d (pt_isub gx102_12 h2 h4 (fun v5 h5 => ?_))
  refine pt_d (pt_1 (fun n d => r_istoren (L' := [some (.ref q0), some (.int x1), some (.int v5)]) gx102_13 rfl rfl) ?_)
  refine pt_d (pt_1 (fun n d => r_iloadn gx102_14 rfl) ?_)
  refine pt_d (pt_if_ne gx102_15 h5 (fun e6 => ?_) (fun e6 => ?_))
  · have H := H.1 e6
    refine pt_d (pt_sipush gx102_35 (fun v7 h7 => ?_))
    refine pt_d (pt_bipush gx102_38 (fun v8 h8 => ?_))
    refine pt_d (pt_1 (fun n d => r_aloadn gx102_40 rfl) ?_)
    obtain ⟨pr9, H⟩ := H
    refine pt_d (pt_getK (B := 11) gx102_41 S (pr9) ?_)
    refine pt_d (pt_1 (fun n d => r_iloadn gx102_44 rfl) ?_)
    refine pt_d (pt_ialdD gx102_45 z1 (fun v10 p10 h10 => ?_))
    have H := H p10
    refine pt_d (pt_imul gx102_46 h8 h10 (fun v11 h11 => ?_))
    refine pt_d (pt_1 (fun n d => r_iloadn gx102_47 rfl) ?_)
    refine pt_d (pt_idiv gx102_48 h11 h5 (fun v12 h12 => ?_))
    refine pt_d (pt_min gx102_49 rfl h7 h12 (fun v13 h13 => ?_))
    exact pt_d (pt_iret gx102_52 ⟨_, rfl, by rw [h13]; exact H⟩)
  · have H := H.2 e6
    refine pt_d (pt_1 (fun n d => r_aloadn gx102_18 rfl) ?_)
    obtain ⟨pr14, H⟩ := H
    refine pt_d (pt_getK (B := 10) gx102_19 S (pr14) ?_)
    refine pt_d (pt_1 (fun n d => r_iloadn gx102_22 rfl) ?_)
    refine pt_d (pt_ialdD gx102_23 z1 (fun v15 p15 h15 => ?_))
    have H := H p15
    refine pt_d (pt_if_ne gx102_24 h15 (fun e16 => ?_) (fun e16 => ?_))
    · have H := H.1 e16
      refine pt_d (pt_sipush gx102_31 (fun v17 h17 => ?_))
      exact pt_d (pt_iret gx102_34 ⟨_, rfl, by rw [h17]; exact H⟩)
    · have H := H.2 e16
      refine pt_d (pt_iconst gx102_27 (fun v18 h18 => ?_))
      refine pt_d (pt_1 (fun n d => r_goto gx102_28) ?_)
      exact pt_d (pt_iret gx102_34 ⟨_, rfl, by rw [h18]; exact H⟩)
theorem c_102 {n : Nat} {X : aX} {h : aH} {x1 : Int32} {a1 : Int} {q0 : Nat} (S : wS h) (z1 : x1.toInt = a1) (hp : PR102 (vw h) q0) : Pt n X zM102 0 [some (.ref q0), some (.int x1), none] [] h (qI (fun r h' => h' = h ∧ r = cErr (vw h) q0 a1)) := by
  refine pt_d (d102_0 S z1 ⟨hp.1, fun _ => ⟨hp.2, fun _ => ⟨fun e => ⟨hp.2, fun _ => ⟨rfl, ?_⟩⟩, fun e => ⟨hp.1, fun _ => ⟨fun e2 => ⟨rfl, ?_⟩, fun e2 => ⟨rfl, ?_⟩⟩⟩⟩⟩⟩)
  · unfold cErr
    rw [if_neg e]
  · unfold cErr
    rw [if_pos e, if_neg e2]
  · unfold cErr
    rw [if_pos e, if_pos e2]
end

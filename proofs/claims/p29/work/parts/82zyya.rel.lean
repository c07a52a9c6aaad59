-- ===== seasons: the relation =====
def bd (V : vS) : Prop := (0 ≤ V 1 1 ∧ V 1 1 ≤ 150) ∧ (0 ≤ V 1 5 ∧ V 1 5 ≤ 150) ∧ (0 ≤ V 16 1 ∧ V 16 1 ≤ 300) ∧ (0 ≤ V 16 2 ∧ V 16 2 ≤ 40) ∧ 0 ≤ V 16 3 ∧ V 16 3 ≤ 200
theorem stm_bd {V : vS} (B : bd V) : stm V = V 1 1 + V 1 5 + V 16 1 + V 16 2 + V 16 3 := by
  obtain ⟨a, b, c, d, e⟩ := B
  unfold stm
  rw [w32_id (z := V 1 1 + V 1 5) (by omega) (by omega), w32_id (z := V 1 1 + V 1 5 + V 16 1) (by omega) (by omega), w32_id (z := V 1 1 + V 1 5 + V 16 1 + V 16 2) (by omega) (by omega), w32_id (by omega) (by omega)]
theorem stm_lt {V W : vS} (b : bd V) (b' : bd W) (h : V 1 1 + V 1 5 + V 16 1 + V 16 2 + V 16 3 < W 1 1 + W 1 5 + W 16 1 + W 16 2 + W 16 3) : stm V < stm W := by
  rw [stm_bd b, stm_bd b']
  exact h
def seaV (V : vS) (y : Int) (q : Nat) : Prop := 146 ≤ q ∧ slk V q ∧ V q 2 = y ∧ V q 5 ≤ 300 ∧ V q 4 ≤ stm V ∧ (V q 4 = stm V → scK V q y (V q 3))
def JSea (V : vS) : Prop := (∀ y, 0 ≤ y → y ≤ 9 → ∀ q : Nat, V 42 y = (q : Int) → seaV V y q) ∧ ∀ y y', (0 ≤ y ∧ y ≤ 9) → (0 ≤ y' ∧ y' ≤ 9) → y ≠ y' → ∀ q q' : Nat, V 42 y = (q : Int) → V 42 y' = (q' : Int) → q + 7 < q' ∨ q' + 7 < q
theorem seaV_c {V W : vS} {y : Int} {q : Nat} (s : seaV V y q) (e3 : ∀ (c : Nat) j, q ≤ c → c ≤ q + 7 → W c j = V c j) (l : stm V < stm W ∨ stm W = stm V ∧ ∀ (c : Nat) j, (c = 5 ∨ c = 8 ∨ 16 ≤ c ∧ c ≤ 31 ∧ c ≠ 19 ∧ c ≠ 22) → W c j = V c j) : seaV W y q := by
  obtain ⟨a, b, c, e, f, g⟩ := s
  have eq : ∀ j, W q j = V q j := fun j => e3 q j (Nat.le_refl _) (by omega)
  refine ⟨a, slk_c b (fun j _ _ _ => eq j), by rw [eq]; exact c, by rw [eq]; exact e, ?_, fun z => ?_⟩
  · rw [eq]
    rcases l with l | ⟨l, -⟩ <;> omega
  · rw [eq] at z
    rcases l with l | ⟨l, s⟩
    · omega
    · rw [eq]
      exact scK_c (g (by omega)) s (fun c j u v => e3 c j u (by omega))
theorem JSea_c {V W : vS} (J : JSea V) (e2 : ∀ j, W 42 j = V 42 j) (e3 : ∀ (c : Nat) j, 146 ≤ c → W c j = V c j) (l : stm V < stm W ∨ stm W = stm V ∧ ∀ (c : Nat) j, (c = 5 ∨ c = 8 ∨ 16 ≤ c ∧ c ≤ 31 ∧ c ≠ 19 ∧ c ≠ 22) → W c j = V c j) : JSea W := by
  refine ⟨fun y y0 y9 q e => ?_, fun y y' hy hy' n q q' e e' => J.2 y y' hy hy' n q q' ((e2 y).symm.trans e) ((e2 y').symm.trans e')⟩
  have s := J.1 y y0 y9 q ((e2 y).symm.trans e)
  have h := s.1
  exact seaV_c s (fun c j u _ => e3 c j (by omega)) l
theorem JSea_e {V W : vS} (J : JSea V) (e : ∀ (c : Nat) j, (c < 72 ∨ 146 ≤ c) → W c j = V c j) : JSea W :=
  JSea_c J (fun j => e 42 j (Or.inl (by decide))) (fun c j z => e c j (Or.inr z)) (Or.inr ⟨stm_c (fun c j z => e c j (Or.inl (by omega))), fun c j z => e c j (Or.inl (by omega))⟩)
theorem JSea_IV {h : aH} (I : IV h) : JSea (vw h) := ⟨fun y y0 y9 q e => by
  obtain ⟨a, b, c, -, e5, f, g⟩ := I.2.1 y y0 y9 q e
  exact ⟨a, b, c, e5, f, g⟩, I.2.2.1⟩
theorem rOK_IV {h : aH} (I : IV h) : rOK (vw h) := I.2.2.2.2.2.2.2
-- the shapes of a season's cells, out of the heap's typing
theorem sk_q {σ : List Nat} {h : aH} (I : dI σ h) {b : Int} {q : Nat} (b0 : 0 ≤ b) (e : vw h 42 b = (q : Int)) : σ[q]? = some 146 := by
  have hs := I.1.2.2.2 42 (by decide)
  obtain ⟨t, ht, t1, t2, t3, t4⟩ : ∃ t, cRT[42]? = some t ∧ t.1 = 3 ∧ t.2.1 = 4 ∧ t.2.2.1 = 10 ∧ t.2.2.2.1.toNat = 146 := ⟨_, rfl, rfl, rfl, rfl, rfl⟩
  obtain ⟨c', d1, d2⟩ := dH_cell I.1 hs ht
  obtain ⟨g', rfl, d3⟩ := dC_3 d2 t1
  rw [vw_a d1 b0] at e
  have e : (match g' b.toNat with
    | some q => (q : Int)
    | none => -1) = (q : Int) := e
  cases hg : g' b.toNat with
  | none =>
    rw [hg] at e
    have e : (-1 : Int) = (q : Int) := e
    omega
  | some q' =>
    rw [hg] at e
    have e : (q' : Int) = (q : Int) := e
    have e : q' = q := by omega
    subst e
    have := d3 _ _ hg
    rw [t4] at this
    exact this
theorem sk_f {σ : List Nat} {h : aH} (I : dI σ h) {q i r p : Nat} (hq : σ[q]? = some 146) (k : ∃ t, cRT[146]? = some t ∧ t.1 = 0 ∧ t.2.2.2.2.2[i]? = some (1, (r : Int), 0)) (e : vw h q (i : Nat) = (p : Int)) : σ[p]? = some r := by
  obtain ⟨t, ht, t1, t2⟩ := k
  obtain ⟨c, c1, c2⟩ := dH_cell I.1 hq ht
  obtain ⟨fs, rfl, -, f⟩ := dC_0 c2 t1
  obtain ⟨v, v1, v2⟩ := f i _ t2
  obtain ⟨q', rfl, hq'⟩ : ∃ q' : Nat, v = .ref q' ∧ σ[q']? = some ((r : Int).toNat) := v2
  rw [vw_o c1 v1] at e
  have e : (q' : Int) = (p : Int) := e
  have e : q' = p := by omega
  subst e
  rw [Int.toNat_natCast] at hq'
  exact hq'
theorem sk_a {σ : List Nat} {h : aH} (I : dI σ h) {p r N : Nat} (hp : σ[p]? = some r) (k : ∃ t, cRT[r]? = some t ∧ t.1 = 1 ∧ t.2.2.1 = N) : ∃ t y, h.1[p]? = some (.inl (t, N, y)) := by
  obtain ⟨t, ht, t1, rfl⟩ := k
  obtain ⟨c, c1, c2⟩ := dH_cell I.1 hp ht
  obtain ⟨g, rfl, -⟩ := dC_1 c2 t1
  exact ⟨_, _, c1⟩
theorem sk_n {σ : List Nat} {h : aH} (I : dI σ h) {q : Nat} (hq : σ[q]? = some 146) : vw h q 5 ≤ 300 := by
  obtain ⟨t, ht, t1, t2⟩ : ∃ t, cRT[146]? = some t ∧ t.1 = 0 ∧ t.2.2.2.2.2[5]? = some (0, 0, 300) := ⟨_, rfl, rfl, rfl⟩
  obtain ⟨c, c1, c2⟩ := dH_cell I.1 hq ht
  obtain ⟨fs, rfl, -, f⟩ := dC_0 c2 t1
  obtain ⟨v, v1, v2⟩ := f 5 _ t2
  obtain ⟨x, rfl, -, hx⟩ : ∃ x : Int32, v = .int x ∧ (0 : Int) ≤ x.toInt ∧ x.toInt ≤ 300 := v2
  have e : vw h q ((5 : Nat) : Int) = x.toInt := vw_o c1 v1
  have e : vw h q 5 = x.toInt := e
  omega
theorem skd_of {σ : List Nat} {h : aH} (I : dI σ h) {q : Nat} (hq : σ[q]? = some 146) (s : slk (vw h) q) : skd h q := by
  obtain ⟨-, -, -, s7, s8, s9, s10, s11, s12⟩ := s
  exact ⟨sk_a I (sk_f I hq (i := 7) (r := 148) ⟨_, rfl, rfl, rfl⟩ s7) ⟨_, rfl, rfl, rfl⟩, sk_a I (sk_f I hq (i := 10) (r := 151) ⟨_, rfl, rfl, rfl⟩ s10) ⟨_, rfl, rfl, rfl⟩, sk_a I (sk_f I hq (i := 11) (r := 152) ⟨_, rfl, rfl, rfl⟩ s11) ⟨_, rfl, rfl, rfl⟩, sk_a I (sk_f I hq (i := 12) (r := 153) ⟨_, rfl, rfl, rfl⟩ s12) ⟨_, rfl, rfl, rfl⟩⟩
-- cells of a region that isn't written
theorem vw_un {W : List (Nat × Nat)} {σ σ1 : List Nat} {h h1 : aH} (I : dI σ h) (G : dG W σ h σ1 h1) {p r : Nat} (hp : σ[p]? = some r) (k : ∀ i, cWn W r i = false) (j : Int) : vw h1 p j = vw h p j := by
  obtain ⟨t, c, -, c1, -⟩ := I.1.2.1 p r hp
  obtain ⟨c', c2, f1, f2⟩ := G.2.1 p r c hp c1
  cases c with
  | inl x =>
    have := f1 x rfl (k 0)
    rw [this] at c2
    exact vw_eq (c2.trans c1.symm) j
  | inr x =>
    obtain ⟨ci, fs⟩ := x
    obtain ⟨fs', rfl, e⟩ := f2 ci fs rfl
    have : fs' = fs := List.ext_getElem? (fun i => e i (k i))
    rw [this] at c2
    exact vw_eq (c2.trans c1.symm) j
def frS (W : List (Nat × Nat)) : Bool := W.all (fun t => !(Nat.beq t.1 16) && (Nat.blt t.1 146 || Nat.blt 153 t.1))
theorem frS_n {W : List (Nat × Nat)} (k : frS W = true) {r i : Nat} (hr : r = 16 ∨ 146 ≤ r ∧ r ≤ 153) : cWn W r i = false := by
  unfold cWn
  rw [List.any_eq_false]
  intro t ht
  unfold frS at k
  rw [List.all_eq_true] at k
  have n := k t ht
  simp only [Bool.and_eq_true, Bool.not_eq_true', Bool.or_eq_true, Nat.blt_eq] at n
  intro z
  simp only [Bool.and_eq_true] at z
  have e := Nat.eq_of_beq_eq_true z.1
  obtain ⟨n, b⟩ := n
  rcases hr with rfl | hr
  · rw [e] at n
    exact absurd n (by decide)
  · omega
def LSea : List (Nat × Option Nat) := [(1, some 1), (1, some 5), (5, none), (8, none), (17, none), (18, none), (20, none), (21, none), (23, none), (24, none), (25, none), (26, none), (27, none), (28, none), (29, none), (30, none), (31, none), (42, none)]
theorem JSea_dG {W : List (Nat × Nat)} {σ σ1 : List Nat} {h h1 : aH} (J : JSea (vw h)) (I : dI σ h) (G : dG W σ h σ1 h1) (k : (frL W LSea && frS W) = true) : JSea (vw h1) := by
  rw [Bool.and_eq_true] at k
  obtain ⟨a1, a2, a5, a8, a17, a18, a20, a21, a23, a24, a25, a26, a27, a28, a29, a30, a31, a42, -⟩ := ag_dG I.1 G _ k.1
  have e16 : ∀ j, vw h1 16 j = vw h 16 j := vw_un I G (I.1.2.2.2 16 (by decide)) (fun i => frS_n k.2 (Or.inl rfl))
  have st : stm (vw h1) = stm (vw h) := by
    unfold stm
    rw [show vw h1 1 1 = vw h 1 1 from a1, show vw h1 1 5 = vw h 1 5 from a2, e16, e16, e16]
  have sc : ∀ (c : Nat) j, (c = 5 ∨ c = 8 ∨ 16 ≤ c ∧ c ≤ 31 ∧ c ≠ 19 ∧ c ≠ 22) → vw h1 c j = vw h c j := fun c j z => by
    have z : c = 5 ∨ c = 8 ∨ c = 16 ∨ c = 17 ∨ c = 18 ∨ c = 20 ∨ c = 21 ∨ c = 23 ∨ c = 24 ∨ c = 25 ∨ c = 26 ∨ c = 27 ∨ c = 28 ∨ c = 29 ∨ c = 30 ∨ c = 31 := by omega
    rcases z with z | z | z | z | z | z | z | z | z | z | z | z | z | z | z | z <;> rw [z]
    · exact a5 j
    · exact a8 j
    · exact e16 j
    · exact a17 j
    · exact a18 j
    · exact a20 j
    · exact a21 j
    · exact a23 j
    · exact a24 j
    · exact a25 j
    · exact a26 j
    · exact a27 j
    · exact a28 j
    · exact a29 j
    · exact a30 j
    · exact a31 j
  have lt : ∀ (y : Int) (q : Nat), 0 ≤ y → vw h 42 y = (q : Int) → slk (vw h) q → ∀ (c : Nat) j, q ≤ c → c ≤ q + 7 → vw h1 c j = vw h c j := fun y q y0 e s c j u v => by
    have hq := sk_q I y0 e
    obtain ⟨-, -, s6, s7, s8, s9, s10, s11, s12⟩ := s
    have z : c = q ∨ c = q + 1 ∨ c = q + 2 ∨ c = q + 3 ∨ c = q + 4 ∨ c = q + 5 ∨ c = q + 6 ∨ c = q + 7 := by omega
    rcases z with z | z | z | z | z | z | z | z <;> rw [z]
    · exact vw_un I G hq (fun i => frS_n k.2 (Or.inr ⟨by decide, by decide⟩)) j
    · exact vw_un I G (sk_f I hq (i := 6) (r := 147) ⟨_, rfl, rfl, rfl⟩ s6) (fun i => frS_n k.2 (Or.inr ⟨by decide, by decide⟩)) j
    · exact vw_un I G (sk_f I hq (i := 7) (r := 148) ⟨_, rfl, rfl, rfl⟩ s7) (fun i => frS_n k.2 (Or.inr ⟨by decide, by decide⟩)) j
    · exact vw_un I G (sk_f I hq (i := 8) (r := 149) ⟨_, rfl, rfl, rfl⟩ s8) (fun i => frS_n k.2 (Or.inr ⟨by decide, by decide⟩)) j
    · exact vw_un I G (sk_f I hq (i := 9) (r := 150) ⟨_, rfl, rfl, rfl⟩ s9) (fun i => frS_n k.2 (Or.inr ⟨by decide, by decide⟩)) j
    · exact vw_un I G (sk_f I hq (i := 10) (r := 151) ⟨_, rfl, rfl, rfl⟩ s10) (fun i => frS_n k.2 (Or.inr ⟨by decide, by decide⟩)) j
    · exact vw_un I G (sk_f I hq (i := 11) (r := 152) ⟨_, rfl, rfl, rfl⟩ s11) (fun i => frS_n k.2 (Or.inr ⟨by decide, by decide⟩)) j
    · exact vw_un I G (sk_f I hq (i := 12) (r := 153) ⟨_, rfl, rfl, rfl⟩ s12) (fun i => frS_n k.2 (Or.inr ⟨by decide, by decide⟩)) j
  refine ⟨fun y y0 y9 q e => ?_, fun y y' hy hy' n q q' e e' => J.2 y y' hy hy' n q q' ((a42 y).symm.trans e) ((a42 y').symm.trans e')⟩
  have e0 := (a42 y).symm.trans e
  have s := J.1 y y0 y9 q e0
  exact seaV_c s (lt y q y0 e0 s.2.1) (Or.inr ⟨st, sc⟩)


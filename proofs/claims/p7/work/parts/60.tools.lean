-- ===== by hand: stores with what they leave, calls with what they say =====
theorem hI_arr {σ : List Nat} {h : aH} (I : dI σ h) {W : List (Nat × Nat)} {r a n : Nat} {lo hi : Int} (k : tkA r a n lo hi = true) (hJ : cJs r 0 = false) (hW : cWn W r 0 = true) {g g' : Nat → Int32} (c : h.1[r]? = some (.inl (a, n, .inl g))) (hg : ∀ j, j < n → lo ≤ (g' j).toInt ∧ (g' j).toInt ≤ hi) :
    dI σ (h.1.set r (.inl (a, n, .inl g')), h.2) ∧ dG W σ h σ (h.1.set r (.inl (a, n, .inl g')), h.2) := by
  unfold tkA at k
  split at k
  · rename_i t e
    simp only [Bool.and_eq_true, Nat.blt_eq, ceI_i] at k
    obtain ⟨⟨⟨⟨⟨k1, k2⟩, k3⟩, k4⟩, k5⟩, k6⟩ := k
    have e1 : t.1 = 1 := Nat.eq_of_beq_eq_true k1
    have e3 : t.2.1 = a := Nat.eq_of_beq_eq_true k3
    have e4 : t.2.2.1 = n := Nat.eq_of_beq_eq_true k4
    refine dI_arr I (I.1.2.2.2 r k2) e (Or.inl e1) c ?_ hJ hW
    unfold dC
    rw [e1]
    exact ⟨g', by rw [e3, e4], by rw [e4, k5, k6]; exact hg⟩
  · cases k
theorem hI_arj {σ : List Nat} {h : aH} (I : dI σ h) {W : List (Nat × Nat)} {r n : Nat} {lo hi : Int} (k : tkJ r n lo hi = true) (hJ : cJs r 0 = false) (hW : cWn W r 0 = true) {g g' : Nat → Int64} (c : h.1[r]? = some (.inl (1, n, .inr (.inl g)))) (hg : ∀ j, j < n → lo ≤ (g' j).toInt ∧ (g' j).toInt ≤ hi) :
    dI σ (h.1.set r (.inl (1, n, .inr (.inl g'))), h.2) ∧ dG W σ h σ (h.1.set r (.inl (1, n, .inr (.inl g'))), h.2) := by
  unfold tkJ at k
  split at k
  · rename_i t e
    simp only [Bool.and_eq_true, Nat.blt_eq, ceI_i] at k
    obtain ⟨⟨⟨⟨k1, k2⟩, k4⟩, k5⟩, k6⟩ := k
    have e1 : t.1 = 2 := Nat.eq_of_beq_eq_true k1
    have e4 : t.2.2.1 = n := Nat.eq_of_beq_eq_true k4
    refine dI_arr I (I.1.2.2.2 r k2) e (Or.inr e1) c ?_ hJ hW
    unfold dC
    rw [e1]
    exact ⟨g', by rw [e4], by rw [e4, k5, k6]; exact hg⟩
  · cases k
theorem updJ_rng {g : Nat → Int64} {n k : Nat} {x : Int64} {lo hi : Int} (hg : ∀ j, j < n → lo ≤ (g j).toInt ∧ (g j).toInt ≤ hi) (h1 : lo ≤ x.toInt) (h2 : x.toInt ≤ hi) : ∀ j, j < n → lo ≤ (vp_updL g k x j).toInt ∧ (vp_updL g k x j).toInt ≤ hi := by
  intro j hj
  unfold vp_updL
  split
  · exact ⟨h1, h2⟩
  · exact hg j hj
theorem and1_0 {x : Int32} (h : x.toInt = 0) : (x &&& 1).toInt = 0 := by
  have : x = 0 := b_i.mpr h
  subst this
  decide
theorem and1_1 {x : Int32} (h : x.toInt = 1) : (x &&& 1).toInt = 1 := by
  have : x = 1 := b_i.mpr h
  subst this
  decide
section WS
variable {X : aX} {D : Nat} {M : aM} {Q : Option Value → aH → Prop} {pc len a b : Nat} {l : aL} {r : List Value} {h : aH}
theorem w_iastI {o k : Nat} {j x : Int32} {f : Nat → Int32} {σ : List Nat} {W : List (Nat × Nat)} {lo hi : Int} (hf : aF pc M.2.2.2.2.2.2.2 = some (pc, .iastore, len, a, b)) (ho : h.1[o]? = some (.inl (0, k, .inl f))) (h1 : 0 ≤ j.toInt) (h2 : j.toInt < (k : Int)) (I : dI σ h) (tk : tkA o 0 k lo hi = true) (hW : cWn W o 0 = true) (h3 : lo ≤ x.toInt) (h4 : x.toInt ≤ hi)
    (kk : ∀ h2 : aH, dI σ h2 → dG W σ h σ h2 → h2.1[o]? = some (.inl (0, k, .inl (upd f j.toInt.toNat x))) → (∀ q, o ≠ q → h2.1[q]? = h.1[q]?) → Wp X D M Q (pc + 1) l r h2) (hJ : cJs o 0 = false := by decide) : Wp X D M Q pc l (.int x :: .int j :: .ref o :: r) h := by
  obtain ⟨g0, c0, r0⟩ := hI_a I tk
  cases ho.symm.trans c0
  obtain ⟨I2, G2⟩ := hI_arr I tk hJ hW ho (upd_rng (k := j.toInt.toNat) r0 h3 h4)
  exact w_iast hf ho h1 h2 (kk _ I2 G2 (set_eq' ho) (fun q hq => set_ne' hq))
theorem w_zastI {o k : Nat} {j x : Int32} {f : Nat → Int32} {σ : List Nat} {W : List (Nat × Nat)} (hf : aF pc M.2.2.2.2.2.2.2 = some (pc, .bastore, len, a, b)) (ho : h.1[o]? = some (.inl (2, k, .inl f))) (h1 : 0 ≤ j.toInt) (h2 : j.toInt < (k : Int)) (I : dI σ h) (tk : tkA o 2 k 0 1 = true) (hW : cWn W o 0 = true) (h3 : x.toInt = 0 ∨ x.toInt = 1)
    (kk : ∀ (h2 : aH) (w : Int32), w.toInt = x.toInt → dI σ h2 → dG W σ h σ h2 → h2.1[o]? = some (.inl (2, k, .inl (upd f j.toInt.toNat w))) → (∀ q, o ≠ q → h2.1[q]? = h.1[q]?) → Wp X D M Q (pc + 1) l r h2) (hJ : cJs o 0 = false := by decide) : Wp X D M Q pc l (.int x :: .int j :: .ref o :: r) h := by
  obtain ⟨g0, c0, r0⟩ := hI_a I tk
  cases ho.symm.trans c0
  have hx : (x &&& 1).toInt = x.toInt := by
    rcases h3 with q | q
    · rw [and1_0 q, q]
    · rw [and1_1 q, q]
  obtain ⟨I2, G2⟩ := hI_arr I tk hJ hW ho (upd_rng (k := j.toInt.toNat) (x := x &&& 1) r0 (by omega) (by omega))
  exact w_zast hf ho h1 h2 (kk _ _ hx I2 G2 (set_eq' ho) (fun q hq => set_ne' hq))
theorem w_lastI {o k : Nat} {j : Int32} {x : Int64} {f : Nat → Int64} {σ : List Nat} {W : List (Nat × Nat)} {lo hi : Int} (hf : aF pc M.2.2.2.2.2.2.2 = some (pc, .lastore, len, a, b)) (ho : h.1[o]? = some (.inl (1, k, .inr (.inl f)))) (h1 : 0 ≤ j.toInt) (h2 : j.toInt < (k : Int)) (I : dI σ h) (tk : tkJ o k lo hi = true) (hW : cWn W o 0 = true) (h3 : lo ≤ x.toInt) (h4 : x.toInt ≤ hi)
    (kk : ∀ h2 : aH, dI σ h2 → dG W σ h σ h2 → h2.1[o]? = some (.inl (1, k, .inr (.inl (vp_updL f j.toInt.toNat x)))) → (∀ q, o ≠ q → h2.1[q]? = h.1[q]?) → Wp X D M Q (pc + 1) l r h2) (hJ : cJs o 0 = false := by decide) : Wp X D M Q pc l (.long x :: .int j :: .ref o :: r) h := by
  obtain ⟨g0, c0, r0⟩ := hI_j I tk
  cases ho.symm.trans c0
  obtain ⟨I2, G2⟩ := hI_arj I tk hJ hW ho (updJ_rng (k := j.toInt.toNat) r0 h3 h4)
  exact w_last hf ho h1 h2 (kk _ I2 G2 (set_eq' ho) (fun q hq => set_ne' hq))
theorem w_putI {ix o : Nat} {fs : List Value} {x : Int32} {σ : List Nat} {W : List (Nat × Nat)} {lo hi : Int} (hf : aF pc M.2.2.2.2.2.2.2 = some (pc, (.putfield ix), len, a, b)) (ho : h.1[o]? = some (.inr (a, fs))) (I : dI σ h) (tk : tkI o b lo hi = true) (hJ : cJs o b = false) (hW : cWn W o b = true) (h3 : lo ≤ x.toInt) (h4 : x.toInt ≤ hi) (hz : (zT a b).2.2.2 = false) (hy : aok (zY a b) (.int x) = true)
    (kk : ∀ (h2 : aH) (fs2 : List Value), dI σ h2 → dG W σ h σ h2 → h2.1[o]? = some (.inr (a, fs2)) → fs2[b]? = some (.int x) → (∀ i, b ≠ i → fs2[i]? = fs[i]?) → (∀ q, o ≠ q → h2.1[q]? = h.1[q]?) → Wp X D M Q (pc + 3) l r h2) : Wp X D M Q pc l (.int x :: .ref o :: r) h := by
  obtain ⟨hl, I2, G2⟩ := hI_f I ho tk hJ hW h3 h4
  refine wp1 (fun n d => r_put hf ho ?_ rfl) (kk _ _ I2 G2 (set_eq' ho) ?_ (fun i hi => by rw [List.getElem?_set, if_neg hi]) (fun q hq => set_ne' hq))
  · rw [hz, hy, hl]; rfl
  · rw [List.getElem?_set_self (Nat.blt_eq.mp hl)]
end WS
theorem rpost_j {σ : List Nat} {h : aH} {v : Option Value} {lo hi : Int} {Ps : List cT} (hP : ∃ P, P ∈ Ps ∧ dPost P σ h v) (e : Ps = [([], [(2, 1, 0)], ([(0, 0), (lo, hi)], [], [], [], [], [], []))]) : ∃ x : Int64, v = some (.long x) ∧ lo ≤ x.toInt ∧ x.toInt ≤ hi := by
  subst e
  obtain ⟨P, hm, ρ, rh, k, s⟩ := hP
  cases List.mem_singleton.mp hm
  cases v with
  | none => exact s.elim
  | some v =>
    obtain ⟨⟨x, y, rfl, e1, e2⟩, -⟩ := s
    have := k.1.2.2 1 y (lo, hi) e1 rfl
    dsimp only at this e2
    exact ⟨x, rfl, by omega, by omega⟩
theorem dG_sub {W W' : List (Nat × Nat)} (hw : W.all (fun w => cWn W' w.1 w.2) = true) {s0 s1 : List Nat} {h0 h1 : aH} (a : dG W s0 h0 s1 h1) : dG W' s0 h0 s1 h1 := dG_W (cWn_sub hw) a

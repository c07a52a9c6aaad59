-- ===== Math's methods, Object's constructor; the run =====
theorem zob_c : Cond.code objectInit ⟨#[0xb1]⟩ 1 none ∈ zW := zW_of (zsub_1 (List.mem_of_getElem? (show tables_1_1[30]? = some (.code objectInit ⟨#[0xb1]⟩ 1 none) from rfl))) rfl
theorem zob_i : Cond.instanceMethod objectInit ∈ zW := zTab_mem (p := 148) (by decide +kernel)
theorem z_linkM {o ix a : Nat} {y : MethodName} (h : zmcp.any (fun q => Nat.beq q.1 o && Nat.beq q.2.1 ix && Nat.beq q.2.2.1 a) = true) (ha : a = 1000 ∨ 1010 ≤ a) (hY : zyn a = y) : Cond.methodLink (zCN o) ix y ∈ zW := by
  obtain ⟨q, hq, hh⟩ := List.any_eq_true.mp h
  simp only [Bool.and_eq_true, Nat.beq_eq] at hh
  obtain ⟨⟨rfl, rfl⟩, rfl⟩ := hh
  subst hY
  have h1 := List.all_eq_true.mp zmcp_ok q hq
  unfold zmcpW at h1
  rcases (Bool.or_eq_true _ _).mp h1 with h2 | h2
  · exfalso
    simp only [Bool.or_eq_true, Nat.beq_eq] at h2
    omega
  · have hn : q.2.2.2.1 = 0 := by
      have h3 : zmcp.all (fun q => Nat.beq q.2.2.2.1 0 || Nat.ble q.2.2.1 999) = true := by decide +kernel
      have h4 := List.all_eq_true.mp h3 q hq
      rcases (Bool.or_eq_true _ _).mp h4 with h5 | h5
      · exact Nat.eq_of_beq_eq_true h5
      · have := Nat.le_of_ble_eq_true h5
        omega
    rw [if_pos hn] at h2
    exact zTab_mem h2
theorem s_obj {Γ : aGm} {pc ix o d : Nat} {L : aL} {r : List Value} {h h' : aH} (hc : zmcp.any (fun q => Nat.beq q.1 (aown Γ) && Nat.beq q.2.1 ix && Nat.beq q.2.2.1 1000) = true) (hr8 : aws r ≤ 8) (hR : aRm Γ (d + 1) h') (C : aCF Γ) (hd : aDC Γ pc (.invokespecial ix) 3) (k : aSW Γ (pc + 3) L r h) : aSW Γ pc L (.ref o :: r) h := by
  obtain ⟨p, l, e, R, s, m, args, below, meth, c, Q, cc, nL, b0, n0, u0, own, kind, D, cA, ea, X⟩ := Γ
  intro H locs ls cells slots e1 e2 hP hS hl
  obtain ⟨hx, hb, hml, hown, hts, hKX, hsz, hki⟩ := C
  obtain ⟨⟨hR1, hR2⟩, hR3, hR4⟩ := hR
  have hlk := z_linkM (y := objectInit) hc (Or.inl rfl) (by decide +kernel)
  refine W.objInit hx hb hown (hts _ hlk) (hts _ zob_i) (hts _ zob_c) rfl (by rw [hml]; exact hl.2.1) rfl hd (by omega) ?_ (k H locs ls cells slots e1 e2 hP hS hl)
  have := lv_room (m := m) (pc := pc) (ls := ls) (rest := Value.ref (b0 + o) :: r.map (acv b0 ea)) (st := r.map (acv b0 ea)) (by rw [aws_map]; exact hr8)
  show 2 * (F0 m pc ls (Value.ref (b0 + o) :: r.map (acv b0 ea))).monitorRoom + _ + 12 ≤ R.locals
  omega
section MZ
variable {Γ : aGm} {pc ix d : Nat} {L : aL} {r : List Value} {h h' : aH}
theorem s_m1010 {x y : Int32} (hc : zmcp.any (fun q => Nat.beq q.1 (aown Γ) && Nat.beq q.2.1 ix && Nat.beq q.2.2.1 1010) = true) (hr8 : aws r ≤ 8) (g2 : h.1.length ≤ h'.1.length ∧ h.2 ≤ h'.2) (hR : aRm Γ (d + 1) h') (C : aCF Γ) (hd : aDC Γ pc (.invokestatic ix) 3) (k : aSW Γ (pc + 3) L (.int (if x < y then y else x) :: r) h) : aSW Γ pc L (.int y :: .int x :: r) h := by
  obtain ⟨p, l, e, R, s, m, args, below, meth, c, Q, cc, nL, b0, n0, u0, own, kind, D, cA, ea, X⟩ := Γ
  intro H locs ls cells slots e1 e2 hP hS hl
  obtain ⟨hx, hb, hml, hown, hts, hKX, hsz, hki⟩ := C
  obtain ⟨⟨hR1, hR2⟩, hR3, hR4⟩ := hR
  have hlk := z_linkM (y := Lib.Math.max.name) hc (Or.inr (by decide)) (by decide +kernel)
  exact va_mmax hx hb (hml.trans hl.2.1.symm) hown (hts _ hlk) (hts _ zms_1010) (hts _ zmi) (hts _ zmc_1010) (by omega) (by rw [aws_map]; omega) (by omega) (by omega) hd (k H locs ls cells slots e1 e2 hP hS hl)
theorem s_m1011 {x y : Int32} (hc : zmcp.any (fun q => Nat.beq q.1 (aown Γ) && Nat.beq q.2.1 ix && Nat.beq q.2.2.1 1011) = true) (hr8 : aws r ≤ 8) (g2 : h.1.length ≤ h'.1.length ∧ h.2 ≤ h'.2) (hR : aRm Γ (d + 1) h') (C : aCF Γ) (hd : aDC Γ pc (.invokestatic ix) 3) (k : aSW Γ (pc + 3) L (.int (if y < x then y else x) :: r) h) : aSW Γ pc L (.int y :: .int x :: r) h := by
  obtain ⟨p, l, e, R, s, m, args, below, meth, c, Q, cc, nL, b0, n0, u0, own, kind, D, cA, ea, X⟩ := Γ
  intro H locs ls cells slots e1 e2 hP hS hl
  obtain ⟨hx, hb, hml, hown, hts, hKX, hsz, hki⟩ := C
  obtain ⟨⟨hR1, hR2⟩, hR3, hR4⟩ := hR
  have hlk := z_linkM (y := Lib.Math.min.name) hc (Or.inr (by decide)) (by decide +kernel)
  exact va_mmin hx hb (hml.trans hl.2.1.symm) hown (hts _ hlk) (hts _ zms_1011) (hts _ zmi) (hts _ zmc_1011) (by omega) (by rw [aws_map]; omega) (by omega) (by omega) hd (k H locs ls cells slots e1 e2 hP hS hl)
theorem s_m1012 {x : Int32} (hc : zmcp.any (fun q => Nat.beq q.1 (aown Γ) && Nat.beq q.2.1 ix && Nat.beq q.2.2.1 1012) = true) (hr8 : aws r ≤ 8) (g2 : h.1.length ≤ h'.1.length ∧ h.2 ≤ h'.2) (hR : aRm Γ (d + 1) h') (C : aCF Γ) (hd : aDC Γ pc (.invokestatic ix) 3) (k : aSW Γ (pc + 3) L (.int (if 0 ≤ x then x else 0 - x) :: r) h) : aSW Γ pc L (.int x :: r) h := by
  obtain ⟨p, l, e, R, s, m, args, below, meth, c, Q, cc, nL, b0, n0, u0, own, kind, D, cA, ea, X⟩ := Γ
  intro H locs ls cells slots e1 e2 hP hS hl
  obtain ⟨hx, hb, hml, hown, hts, hKX, hsz, hki⟩ := C
  obtain ⟨⟨hR1, hR2⟩, hR3, hR4⟩ := hR
  have hlk := z_linkM (y := Lib.Math.abs.name) hc (Or.inr (by decide)) (by decide +kernel)
  exact va_mabs hx hb (hml.trans hl.2.1.symm) hown (hts _ hlk) (hts _ zms_1012) (hts _ zmi) (hts _ zmc_1012) (by omega) (by rw [aws_map]; omega) (by omega) (by omega) hd (k H locs ls cells slots e1 e2 hP hS hl)
theorem s_m1013 {x y : Int64} (hc : zmcp.any (fun q => Nat.beq q.1 (aown Γ) && Nat.beq q.2.1 ix && Nat.beq q.2.2.1 1013) = true) (hr8 : aws r ≤ 8) (g2 : h.1.length ≤ h'.1.length ∧ h.2 ≤ h'.2) (hR : aRm Γ (d + 1) h') (C : aCF Γ) (hd : aDC Γ pc (.invokestatic ix) 3) (k : aSW Γ (pc + 3) L (.long (if y < x then x else y) :: r) h) : aSW Γ pc L (.long y :: .long x :: r) h := by
  obtain ⟨p, l, e, R, s, m, args, below, meth, c, Q, cc, nL, b0, n0, u0, own, kind, D, cA, ea, X⟩ := Γ
  intro H locs ls cells slots e1 e2 hP hS hl
  obtain ⟨hx, hb, hml, hown, hts, hKX, hsz, hki⟩ := C
  obtain ⟨⟨hR1, hR2⟩, hR3, hR4⟩ := hR
  have hlk := z_linkM (y := Lib.MathLoose.max_long.x) hc (Or.inr (by decide)) (by decide +kernel)
  exact va_mmax_long hx hb (hml.trans hl.2.1.symm) hown (hts _ hlk) (hts _ zms_1013) (hts _ zmi) (hts _ zmc_1013) (by omega) (by rw [aws_map]; omega) (by omega) (by omega) hd (k H locs ls cells slots e1 e2 hP hS hl)
theorem s_m1014 {x y : Int64} (hc : zmcp.any (fun q => Nat.beq q.1 (aown Γ) && Nat.beq q.2.1 ix && Nat.beq q.2.2.1 1014) = true) (hr8 : aws r ≤ 8) (g2 : h.1.length ≤ h'.1.length ∧ h.2 ≤ h'.2) (hR : aRm Γ (d + 1) h') (C : aCF Γ) (hd : aDC Γ pc (.invokestatic ix) 3) (k : aSW Γ (pc + 3) L (.long (if y < x then y else x) :: r) h) : aSW Γ pc L (.long y :: .long x :: r) h := by
  obtain ⟨p, l, e, R, s, m, args, below, meth, c, Q, cc, nL, b0, n0, u0, own, kind, D, cA, ea, X⟩ := Γ
  intro H locs ls cells slots e1 e2 hP hS hl
  obtain ⟨hx, hb, hml, hown, hts, hKX, hsz, hki⟩ := C
  obtain ⟨⟨hR1, hR2⟩, hR3, hR4⟩ := hR
  have hlk := z_linkM (y := Lib.MathLoose.min_long.x) hc (Or.inr (by decide)) (by decide +kernel)
  exact va_mmin_long hx hb (hml.trans hl.2.1.symm) hown (hts _ hlk) (hts _ zms_1014) (hts _ zmi) (hts _ zmc_1014) (by omega) (by rw [aws_map]; omega) (by omega) (by omega) hd (k H locs ls cells slots e1 e2 hP hS hl)
end MZ
theorem amath_goes {a d : Nat} {st : List Value} {k : List Value → Option aR} {res : aR} (he : amath a d st k = some res) : ∃ st', k st' = some res := by
  unfold amath at he
  split at he
  · cases he
  · obtain ⟨x, y, r, rfl, he⟩ := tII_some he
    exact ⟨_, (abif he).2⟩
  · obtain ⟨x, y, r, rfl, he⟩ := tII_some he
    exact ⟨_, (abif he).2⟩
  · obtain ⟨x, r, rfl, he⟩ := tI_some he
    exact ⟨_, (abif he).2⟩
  · obtain ⟨x, y, r, rfl, he⟩ := tJJ_some he
    exact ⟨_, (abif he).2⟩
  · obtain ⟨x, y, r, rfl, he⟩ := tJJ_some he
    exact ⟨_, (abif he).2⟩
  · cases he
theorem aF_some {pc : Nat} {i : aI} : ∀ {l : List aI}, aF pc l = some i → i ∈ l ∧ i.1 = pc
  | [], h => by cases h
  | q :: r, h => by
    unfold aF at h
    cases hb : Nat.beq q.1 pc with
    | true =>
      rw [hb] at h
      cases h
      exact ⟨List.mem_cons_self, Nat.eq_of_beq_eq_true hb⟩
    | false =>
      rw [hb] at h
      obtain ⟨h1, h2⟩ := aF_some h
      exact ⟨List.mem_cons_of_mem _ h1, h2⟩
theorem aretI_some {ret : Option FieldType} {x : Int32} {h : aH} {res : aR} (he : aretI ret x h = some res) : res = (some (.int x), h) ∧ (ret = some .int ∨ (ret = some .boolean ∧ (x = 0 ∨ x = 1))) := by
  unfold aretI at he
  split at he
  · cases he; exact ⟨rfl, Or.inl rfl⟩
  · rcases aite he with ⟨q, he⟩ | ⟨q, he⟩
    · cases he; exact ⟨rfl, Or.inr ⟨rfl, q⟩⟩
    · cases he
  · cases he
/-- no run makes cells fewer -/
theorem arun_grows {X : aX} : ∀ (n d : Nat) (M : aM) (pc : Nat) (L : aL) (st : List Value) (h : aH) (res : aR), arun X n d M pc L st h = some res → h.1.length ≤ res.2.1.length ∧ h.2 ≤ res.2.2 := by
  intro n
  induction n with
  | zero => intro d M pc L st h res he; cases he
  | succ n ih =>
    intro d M pc L st h res he
    have back : ∀ (d : Nat) (r : List Value) (Y : aM) (L' : aL) (h : aH) (pc : Nat), aback d r (fun d' => arun X n d' Y 0 L' [] h) (fun st' h' => arun X n d M pc L st' h') = some res → h.1.length ≤ res.2.1.length ∧ h.2 ≤ res.2.2 := by
      intro d r Y L' h pc hb
      obtain ⟨d', v, h1, -, -, g1, g2⟩ := aback_some hb
      have a1 := ih _ _ _ _ _ _ _ g1
      have a2 := ih _ _ _ _ _ _ _ g2
      exact ⟨Nat.le_trans a1.1 a2.1, Nat.le_trans a1.2 a2.2⟩
    unfold arun at he
    split at he
    · cases he
    · rename_i i hi
      split at he
      · split at he
        · obtain ⟨rfl, -⟩ := aretI_some he
          exact ⟨Nat.le_refl _, Nat.le_refl _⟩
        · cases he
      · split at he
        · cases he; exact ⟨Nat.le_refl _, Nat.le_refl _⟩
        · cases he
      · split at he
        · cases he; exact ⟨Nat.le_refl _, Nat.le_refl _⟩
        · cases he
      · split at he
        · cases he; exact ⟨Nat.le_refl _, Nat.le_refl _⟩
        · cases he
      · cases hb : Nat.ble 1010 i.2.2.2.1 with
        | true =>
          rw [hb] at he
          simp only [cond_true] at he
          obtain ⟨st', g⟩ := amath_goes he
          exact ih _ _ _ _ _ _ _ g
        | false =>
          rw [hb] at he
          simp only [cond_false] at he
          split at he
          · obtain ⟨-, he⟩ := abif he
            obtain ⟨as, r, rfl, -, he⟩ := acut_some he
            obtain ⟨-, he⟩ := aent_some he
            exact back _ _ _ _ _ _ he
          · cases he
      · split at he
        · obtain ⟨-, he⟩ := abif he
          obtain ⟨as, r, rfl, -, he⟩ := acut_some he
          split at he
          · obtain ⟨fs, -, he⟩ := aobj_some he
            obtain ⟨-, he⟩ := aent_some he
            exact back _ _ _ _ _ _ he
          · cases he
        · cases he
      · cases hb : Nat.beq i.2.2.2.1 1000 with
        | true =>
          rw [hb] at he
          simp only [cond_true] at he
          split at he
          · obtain ⟨d', v, h1, -, -, g1, g2⟩ := aback_some he
            cases g1
            exact ih _ _ _ _ _ _ _ g2
          · cases he
        | false =>
          rw [hb] at he
          simp only [cond_false] at he
          split at he
          · obtain ⟨-, he⟩ := abif he
            obtain ⟨as, r, rfl, -, he⟩ := acut_some he
            split at he
            · obtain ⟨-, he⟩ := aent_some he
              exact back _ _ _ _ _ _ he
            · cases he
          · cases he
      · obtain ⟨pc', L', st', h', g, g1, g2⟩ := aX1_goes he
        have a := ih _ _ _ _ _ _ _ g
        exact ⟨Nat.le_trans g1 a.1, Nat.le_trans g2 a.2⟩

-- ===== 16.run: 6 texts =====
section
-- ===== Math's methods, Object's constructor; the run =====
theorem zob_c : Cond.code objectInit ⟨#[0xb1]⟩ 1 none ∈ zW := zW_of (zsub_1 (List.mem_of_getElem? (show tables_1_1[30]? = some (.code objectInit ⟨#[0xb1]⟩ 1 none) from rfl))) rfl
theorem zob_i : Cond.instanceMethod objectInit ∈ zW := zTab_mem (p := 148) (by decide +kernel)
theorem z_linkM {o ix a : Nat} {y : MethodName} (h : zmcp.any (fun q => Nat.beq q.1 o && Nat.beq q.2.1 ix && Nat.beq q.2.2.1 a) = true) (ha : a = 1000 ∨ 1010 ≤ a) (hY : zyn a = y) : Cond.methodLink (zCN o) ix y ∈ zW := by
  obtain ⟨q, hq, hh⟩ := List.any_eq_true.mp h
  simp only [Bool.and_eq_true, Nat.beq_eq] at hh
  obtain ⟨⟨rfl, rfl⟩, rfl⟩ := hh
  subst hY
  have h1 := List.all_eq_true.mp zmcp_ok q hq
  unfold zmcpW at h1
  rcases (Bool.or_eq_true _ _).mp h1 with h2 | h2
  · exfalso
    simp only [Bool.or_eq_true, Nat.beq_eq] at h2
    omega
  · have hn : q.2.2.2.1 = 0 := by
      have h3 : zmcp.all (fun q => Nat.beq q.2.2.2.1 0 || Nat.ble q.2.2.1 999) = true := by decide +kernel
      have h4 := List.all_eq_true.mp h3 q hq
      rcases (Bool.or_eq_true _ _).mp h4 with h5 | h5
      · exact Nat.eq_of_beq_eq_true h5
      · have := Nat.le_of_ble_eq_true h5
        omega
    rw [if_pos hn] at h2
    exact zTab_mem h2
theorem zcpy_ok : zmcp.all (fun q => !(Nat.beq q.2.2.1 1002) || (Nat.beq q.2.2.2.1 0 && zTab (q.2.2.2.2 + 119) (.methodLink (zCN q.1) q.2.1 arraycopyName))) = true := by decide +kernel
theorem z_linkC {o ix : Nat} (h : zmcp.any (fun q => Nat.beq q.1 o && Nat.beq q.2.1 ix && Nat.beq q.2.2.1 1002) = true) : Cond.methodLink (zCN o) ix arraycopyName ∈ zW := by
  obtain ⟨q, hq, hh⟩ := List.any_eq_true.mp h
  simp only [Bool.and_eq_true, Nat.beq_eq] at hh
  obtain ⟨⟨rfl, rfl⟩, h3⟩ := hh
  have h1 := List.all_eq_true.mp zcpy_ok q hq
  simp only [h3, show Nat.beq 1002 1002 = true from rfl, Bool.not_true, Bool.false_or, Bool.and_eq_true] at h1
  exact zTab_mem h1.2
def zany2 (w : Cond) : Bool := lw_tbl.any (fun v => decide (v = w)) && goodWord w
theorem zany2_in {w : Cond} (h : zany2 w = true) : w ∈ zW := by
  obtain ⟨h1, h2⟩ := (Bool.and_eq_true _ _).mp h
  obtain ⟨v, m, g⟩ := List.any_eq_true.mp h1
  simp only [decide_eq_true_eq] at g
  subst g
  exact zW_of m h2
theorem zcp_n : Cond.native arraycopyName ∈ zW := zany2_in (by decide +kernel)
theorem zcp_s : Cond.static arraycopyName ∈ zW := zany2_in (by decide +kernel)
theorem zcp_i : Cond.initialized "java/lang/System" ∈ zW := zany2_in (by decide +kernel)
theorem s_obj {Γ : aGm} {pc ix o d : Nat} {L : aL} {r : List Value} {h h' : aH} (hc : zmcp.any (fun q => Nat.beq q.1 (aown Γ) && Nat.beq q.2.1 ix && Nat.beq q.2.2.1 1000) = true) (hr8 : aws r ≤ 8) (hR : aRm Γ (d + 1) h') (C : aCF Γ) (hd : aDC Γ pc (.invokespecial ix) 3) (k : aSW Γ (pc + 3) L r h) : aSW Γ pc L (.ref o :: r) h := by
  obtain ⟨p, l, e, R, s, m, args, below, meth, c, Q, cc, nL, b0, n0, u0, own, kind, D, cA, ea, X⟩ := Γ
  intro H locs ls cells slots e1 e2 hP hS hl
  obtain ⟨hx, hb, hml, hown, hts, hKX, hsz, hki⟩ := C
  obtain ⟨⟨hR1, hR2⟩, hR3, hR4⟩ := hR
  have hlk := z_linkM (y := objectInit) hc (Or.inl rfl) (by decide +kernel)
  refine W.objInit hx hb hown (hts _ hlk) (hts _ zob_i) (hts _ zob_c) rfl (by rw [hml]; exact hl.2.1) rfl hd (by omega) ?_ (k H locs ls cells slots e1 e2 hP hS hl)
  have := lv_room (m := m) (pc := pc) (ls := ls) (rest := Value.ref (b0 + o) :: r.map (acv b0 ea)) (st := r.map (acv b0 ea)) (by rw [aws_map]; exact hr8)
  show 2 * (F0 m pc ls (Value.ref (b0 + o) :: r.map (acv b0 ea))).monitorRoom + _ + 12 ≤ R.locals
  omega
section MZ
variable {Γ : aGm} {pc ix d : Nat} {L : aL} {r : List Value} {h h' : aH}
theorem s_m1010 {x y : Int32} (hc : zmcp.any (fun q => Nat.beq q.1 (aown Γ) && Nat.beq q.2.1 ix && Nat.beq q.2.2.1 1010) = true) (hr8 : aws r ≤ 8) (g2 : h.1.length ≤ h'.1.length ∧ h.2 ≤ h'.2) (hR : aRm Γ (d + 1) h') (C : aCF Γ) (hd : aDC Γ pc (.invokestatic ix) 3) (k : aSW Γ (pc + 3) L (.int (if x < y then y else x) :: r) h) : aSW Γ pc L (.int y :: .int x :: r) h := by
  obtain ⟨p, l, e, R, s, m, args, below, meth, c, Q, cc, nL, b0, n0, u0, own, kind, D, cA, ea, X⟩ := Γ
  intro H locs ls cells slots e1 e2 hP hS hl
  obtain ⟨hx, hb, hml, hown, hts, hKX, hsz, hki⟩ := C
  obtain ⟨⟨hR1, hR2⟩, hR3, hR4⟩ := hR
  have hlk := z_linkM (y := Lib.Math.max.name) hc (Or.inr (by decide)) (by decide +kernel)
  exact va_mmax hx hb (hml.trans hl.2.1.symm) hown (hts _ hlk) (hts _ zms_1010) (hts _ zmi) (hts _ zmc_1010) (by omega) (by rw [aws_map]; omega) (by omega) (by omega) hd (k H locs ls cells slots e1 e2 hP hS hl)
theorem s_m1011 {x y : Int32} (hc : zmcp.any (fun q => Nat.beq q.1 (aown Γ) && Nat.beq q.2.1 ix && Nat.beq q.2.2.1 1011) = true) (hr8 : aws r ≤ 8) (g2 : h.1.length ≤ h'.1.length ∧ h.2 ≤ h'.2) (hR : aRm Γ (d + 1) h') (C : aCF Γ) (hd : aDC Γ pc (.invokestatic ix) 3) (k : aSW Γ (pc + 3) L (.int (if y < x then y else x) :: r) h) : aSW Γ pc L (.int y :: .int x :: r) h := by
  obtain ⟨p, l, e, R, s, m, args, below, meth, c, Q, cc, nL, b0, n0, u0, own, kind, D, cA, ea, X⟩ := Γ
  intro H locs ls cells slots e1 e2 hP hS hl
  obtain ⟨hx, hb, hml, hown, hts, hKX, hsz, hki⟩ := C
  obtain ⟨⟨hR1, hR2⟩, hR3, hR4⟩ := hR
  have hlk := z_linkM (y := Lib.Math.min.name) hc (Or.inr (by decide)) (by decide +kernel)
  exact va_mmin hx hb (hml.trans hl.2.1.symm) hown (hts _ hlk) (hts _ zms_1011) (hts _ zmi) (hts _ zmc_1011) (by omega) (by rw [aws_map]; omega) (by omega) (by omega) hd (k H locs ls cells slots e1 e2 hP hS hl)
theorem s_m1012 {x : Int32} (hc : zmcp.any (fun q => Nat.beq q.1 (aown Γ) && Nat.beq q.2.1 ix && Nat.beq q.2.2.1 1012) = true) (hr8 : aws r ≤ 8) (g2 : h.1.length ≤ h'.1.length ∧ h.2 ≤ h'.2) (hR : aRm Γ (d + 1) h') (C : aCF Γ) (hd : aDC Γ pc (.invokestatic ix) 3) (k : aSW Γ (pc + 3) L (.int (if 0 ≤ x then x else 0 - x) :: r) h) : aSW Γ pc L (.int x :: r) h := by
  obtain ⟨p, l, e, R, s, m, args, below, meth, c, Q, cc, nL, b0, n0, u0, own, kind, D, cA, ea, X⟩ := Γ
  intro H locs ls cells slots e1 e2 hP hS hl
  obtain ⟨hx, hb, hml, hown, hts, hKX, hsz, hki⟩ := C
  obtain ⟨⟨hR1, hR2⟩, hR3, hR4⟩ := hR
  have hlk := z_linkM (y := Lib.Math.abs.name) hc (Or.inr (by decide)) (by decide +kernel)
  exact va_mabs hx hb (hml.trans hl.2.1.symm) hown (hts _ hlk) (hts _ zms_1012) (hts _ zmi) (hts _ zmc_1012) (by omega) (by rw [aws_map]; omega) (by omega) (by omega) hd (k H locs ls cells slots e1 e2 hP hS hl)
theorem s_m1013 {x y : Int64} (hc : zmcp.any (fun q => Nat.beq q.1 (aown Γ) && Nat.beq q.2.1 ix && Nat.beq q.2.2.1 1013) = true) (hr8 : aws r ≤ 8) (g2 : h.1.length ≤ h'.1.length ∧ h.2 ≤ h'.2) (hR : aRm Γ (d + 1) h') (C : aCF Γ) (hd : aDC Γ pc (.invokestatic ix) 3) (k : aSW Γ (pc + 3) L (.long (if y < x then x else y) :: r) h) : aSW Γ pc L (.long y :: .long x :: r) h := by
  obtain ⟨p, l, e, R, s, m, args, below, meth, c, Q, cc, nL, b0, n0, u0, own, kind, D, cA, ea, X⟩ := Γ
  intro H locs ls cells slots e1 e2 hP hS hl
  obtain ⟨hx, hb, hml, hown, hts, hKX, hsz, hki⟩ := C
  obtain ⟨⟨hR1, hR2⟩, hR3, hR4⟩ := hR
  have hlk := z_linkM (y := Lib.MathLoose.max_long.x) hc (Or.inr (by decide)) (by decide +kernel)
  exact va_mmax_long hx hb (hml.trans hl.2.1.symm) hown (hts _ hlk) (hts _ zms_1013) (hts _ zmi) (hts _ zmc_1013) (by omega) (by rw [aws_map]; omega) (by omega) (by omega) hd (k H locs ls cells slots e1 e2 hP hS hl)
theorem s_m1014 {x y : Int64} (hc : zmcp.any (fun q => Nat.beq q.1 (aown Γ) && Nat.beq q.2.1 ix && Nat.beq q.2.2.1 1014) = true) (hr8 : aws r ≤ 8) (g2 : h.1.length ≤ h'.1.length ∧ h.2 ≤ h'.2) (hR : aRm Γ (d + 1) h') (C : aCF Γ) (hd : aDC Γ pc (.invokestatic ix) 3) (k : aSW Γ (pc + 3) L (.long (if y < x then y else x) :: r) h) : aSW Γ pc L (.long y :: .long x :: r) h := by
  obtain ⟨p, l, e, R, s, m, args, below, meth, c, Q, cc, nL, b0, n0, u0, own, kind, D, cA, ea, X⟩ := Γ
  intro H locs ls cells slots e1 e2 hP hS hl
  obtain ⟨hx, hb, hml, hown, hts, hKX, hsz, hki⟩ := C
  obtain ⟨⟨hR1, hR2⟩, hR3, hR4⟩ := hR
  have hlk := z_linkM (y := Lib.MathLoose.min_long.x) hc (Or.inr (by decide)) (by decide +kernel)
  exact va_mmin_long hx hb (hml.trans hl.2.1.symm) hown (hts _ hlk) (hts _ zms_1014) (hts _ zmi) (hts _ zmc_1014) (by omega) (by rw [aws_map]; omega) (by omega) (by omega) hd (k H locs ls cells slots e1 e2 hP hS hl)
theorem s_cp3 {a a0 n0' n1 : Nat} {sp dp n : Int32} {f g : Nat → Int32} (h0 : h.1[a0]? = some (.inl (3, n0', .inl f))) (h1 : h.1[a]? = some (.inl (3, n1, .inl g))) (hq : ¬ (sp < 0 ∨ dp < 0 ∨ n < 0 ∨ n0' < sp.toNatClampNeg + n.toNatClampNeg ∨ n1 < dp.toNatClampNeg + n.toNatClampNeg)) (hf : afit f sp.toNatClampNeg n.toNatClampNeg = true) (hc : zmcp.any (fun q => Nat.beq q.1 (aown Γ) && Nat.beq q.2.1 ix && Nat.beq q.2.2.1 1002) = true) (hr8 : aws r ≤ 8) (hR : aRm Γ (d + 1) h') (C : aCF Γ) (hd : aDC Γ pc (.invokestatic ix) 3) (k : aSW Γ (pc + 3) L r (h.1.set a (.inl (3, n1, .inl (va_cpy f g sp.toNatClampNeg dp.toNatClampNeg n.toNatClampNeg))), h.2)) : aSW Γ pc L (.int n :: .int dp :: .ref a :: .int sp :: .ref a0 :: r) h := by
  obtain ⟨p, l, e, R, s, m, args, below, meth, c, Q, cc, nL, b0, n0, u0, own, kind, D, cA, ea, X⟩ := Γ
  intro H locs ls cells slots e1 e2 hP hS hl
  obtain ⟨hx, hb, hml, hown, hts, hKX, hsz, hki⟩ := C
  obtain ⟨⟨hR1, hR2⟩, hR3, hR4⟩ := hR
  have hlk := z_linkC hc
  have g1 : ¬ sp < 0 := fun z => hq (Or.inl z)
  have g2 : ¬ dp < 0 := fun z => hq (Or.inr (Or.inl z))
  have g3 : ¬ n < 0 := fun z => hq (Or.inr (Or.inr (Or.inl z)))
  have g4 : sp.toNatClampNeg + n.toNatClampNeg ≤ n0' := Nat.not_lt.mp fun z => hq (Or.inr (Or.inr (Or.inr (Or.inl z))))
  have g5 : dp.toNatClampNeg + n.toNatClampNeg ≤ n1 := Nat.not_lt.mp fun z => hq (Or.inr (Or.inr (Or.inr (Or.inr z))))
  have hnw : nativeFrameWords "java/lang/System" "arraycopy" 5 ≤ 20 := by decide
  have hlc : ((r.map (acv b0 ea)).map fun v => v.category).sum + (nativeFrameWords "java/lang/System" "arraycopy" 5 + 11) ≤ R.locals := by
    rw [aws_map]
    omega
  refine va_copyi hx hb (hml.trans hl.2.1.symm) hown (hts _ hlk) (hts _ zcp_n) (hts _ zcp_s) (hts _ zcp_i) hKX.1 hP awd_D hS a0 a 3 3 (show (awd b0 ea cA h.1)[a0]? = some (b0 + a0, .inl (cA 3, n0', .inl f)) from awd_get h0) (show (awd b0 ea cA h.1)[a]? = some (b0 + a, .inl (cA 3, n1, .inl g)) from awd_get h1) rfl rfl rfl g1 g2 g3 g4 g5 (fun i hi => List.all_eq_true.mp hf i (List.mem_range.mpr hi)) (by omega) hlc hd (fun H1 locs1 hP1 hD1 hS1 => ?_)
  refine k H1 locs1 ls cells slots (by rw [List.length_set]; exact e1) e2 ?_ hS1 hl
  rw [← awd_set]
  exact hP1
theorem s_cp1 {a a0 n0' n1 : Nat} {sp dp n : Int32} {f g : Nat → Int64} (h0 : h.1[a0]? = some (.inl (1, n0', .inr (.inl f)))) (h1 : h.1[a]? = some (.inl (1, n1, .inr (.inl g)))) (hq : ¬ (sp < 0 ∨ dp < 0 ∨ n < 0 ∨ n0' < sp.toNatClampNeg + n.toNatClampNeg ∨ n1 < dp.toNatClampNeg + n.toNatClampNeg)) (hc : zmcp.any (fun q => Nat.beq q.1 (aown Γ) && Nat.beq q.2.1 ix && Nat.beq q.2.2.1 1002) = true) (hr8 : aws r ≤ 8) (hR : aRm Γ (d + 1) h') (C : aCF Γ) (hd : aDC Γ pc (.invokestatic ix) 3) (k : aSW Γ (pc + 3) L r (h.1.set a (.inl (1, n1, .inr (.inl (va_cpy f g sp.toNatClampNeg dp.toNatClampNeg n.toNatClampNeg)))), h.2)) : aSW Γ pc L (.int n :: .int dp :: .ref a :: .int sp :: .ref a0 :: r) h := by
  obtain ⟨p, l, e, R, s, m, args, below, meth, c, Q, cc, nL, b0, n0, u0, own, kind, D, cA, ea, X⟩ := Γ
  intro H locs ls cells slots e1 e2 hP hS hl
  obtain ⟨hx, hb, hml, hown, hts, hKX, hsz, hki⟩ := C
  obtain ⟨⟨hR1, hR2⟩, hR3, hR4⟩ := hR
  have hlk := z_linkC hc
  have g1 : ¬ sp < 0 := fun z => hq (Or.inl z)
  have g2 : ¬ dp < 0 := fun z => hq (Or.inr (Or.inl z))
  have g3 : ¬ n < 0 := fun z => hq (Or.inr (Or.inr (Or.inl z)))
  have g4 : sp.toNatClampNeg + n.toNatClampNeg ≤ n0' := Nat.not_lt.mp fun z => hq (Or.inr (Or.inr (Or.inr (Or.inl z))))
  have g5 : dp.toNatClampNeg + n.toNatClampNeg ≤ n1 := Nat.not_lt.mp fun z => hq (Or.inr (Or.inr (Or.inr (Or.inr z))))
  have hnw : nativeFrameWords "java/lang/System" "arraycopy" 5 ≤ 20 := by decide
  have hlc : ((r.map (acv b0 ea)).map fun v => v.category).sum + (nativeFrameWords "java/lang/System" "arraycopy" 5 + 11) ≤ R.locals := by
    rw [aws_map]
    omega
  refine va_copyl hx hb (hml.trans hl.2.1.symm) hown (hts _ hlk) (hts _ zcp_n) (hts _ zcp_s) (hts _ zcp_i) hKX.1 hP awd_D hS a0 a 1 1 (show (awd b0 ea cA h.1)[a0]? = some (b0 + a0, .inl (cA 1, n0', .inr (.inl f))) from awd_get h0) (show (awd b0 ea cA h.1)[a]? = some (b0 + a, .inl (cA 1, n1, .inr (.inl g))) from awd_get h1) rfl rfl rfl g1 g2 g3 g4 g5 (fun _ _ => rfl) (by omega) hlc hd (fun H1 locs1 hP1 hD1 hS1 => ?_)
  refine k H1 locs1 ls cells slots (by rw [List.length_set]; exact e1) e2 ?_ hS1 hl
  rw [← awd_set]
  exact hP1
theorem s_cp0 {a a0 n0' n1 : Nat} {sp dp n : Int32} {f g : Nat → Int32} (h0 : h.1[a0]? = some (.inl (0, n0', .inl f))) (h1 : h.1[a]? = some (.inl (0, n1, .inl g))) (hq : ¬ (sp < 0 ∨ dp < 0 ∨ n < 0 ∨ n0' < sp.toNatClampNeg + n.toNatClampNeg ∨ n1 < dp.toNatClampNeg + n.toNatClampNeg)) (hc : zmcp.any (fun q => Nat.beq q.1 (aown Γ) && Nat.beq q.2.1 ix && Nat.beq q.2.2.1 1002) = true) (hr8 : aws r ≤ 8) (hR : aRm Γ (d + 1) h') (C : aCF Γ) (hd : aDC Γ pc (.invokestatic ix) 3) (k : aSW Γ (pc + 3) L r (h.1.set a (.inl (0, n1, .inl (va_cpy f g sp.toNatClampNeg dp.toNatClampNeg n.toNatClampNeg))), h.2)) : aSW Γ pc L (.int n :: .int dp :: .ref a :: .int sp :: .ref a0 :: r) h := by
  obtain ⟨p, l, e, R, s, m, args, below, meth, c, Q, cc, nL, b0, n0, u0, own, kind, D, cA, ea, X⟩ := Γ
  intro H locs ls cells slots e1 e2 hP hS hl
  obtain ⟨hx, hb, hml, hown, hts, hKX, hsz, hki⟩ := C
  obtain ⟨⟨hR1, hR2⟩, hR3, hR4⟩ := hR
  have hlk := z_linkC hc
  have g1 : ¬ sp < 0 := fun z => hq (Or.inl z)
  have g2 : ¬ dp < 0 := fun z => hq (Or.inr (Or.inl z))
  have g3 : ¬ n < 0 := fun z => hq (Or.inr (Or.inr (Or.inl z)))
  have g4 : sp.toNatClampNeg + n.toNatClampNeg ≤ n0' := Nat.not_lt.mp fun z => hq (Or.inr (Or.inr (Or.inr (Or.inl z))))
  have g5 : dp.toNatClampNeg + n.toNatClampNeg ≤ n1 := Nat.not_lt.mp fun z => hq (Or.inr (Or.inr (Or.inr (Or.inr z))))
  have hnw : nativeFrameWords "java/lang/System" "arraycopy" 5 ≤ 20 := by decide
  have hlc : ((r.map (acv b0 ea)).map fun v => v.category).sum + (nativeFrameWords "java/lang/System" "arraycopy" 5 + 11) ≤ R.locals := by
    rw [aws_map]
    omega
  refine va_copyi hx hb (hml.trans hl.2.1.symm) hown (hts _ hlk) (hts _ zcp_n) (hts _ zcp_s) (hts _ zcp_i) hKX.1 hP awd_D hS a0 a 0 0 (show (awd b0 ea cA h.1)[a0]? = some (b0 + a0, .inl (cA 0, n0', .inl f)) from awd_get h0) (show (awd b0 ea cA h.1)[a]? = some (b0 + a, .inl (cA 0, n1, .inl g)) from awd_get h1) rfl rfl rfl g1 g2 g3 g4 g5 (fun _ _ => rfl) (by omega) hlc hd (fun H1 locs1 hP1 hD1 hS1 => ?_)
  refine k H1 locs1 ls cells slots (by rw [List.length_set]; exact e1) e2 ?_ hS1 hl
  rw [← awd_set]
  exact hP1
theorem s_ix {c : Int32} (hc : zmcp.any (fun q => Nat.beq q.1 (aown Γ) && Nat.beq q.2.1 ix && Nat.beq q.2.2.1 1001) = true) (hr8 : aws r ≤ 8) (g2 : h.1.length ≤ h'.1.length ∧ h.2 ≤ h'.2) (hR : aRm Γ (d + 5) h') (C : aCF Γ) (hd : aDC Γ pc (.invokevirtual ix) 3) (k : aSW Γ (pc + 3) L (.int (zIx c) :: r) h) : aSW Γ pc L (.int c :: .retAddr 2 :: r) h := by
  obtain ⟨p, l, e, R, s, m, args, below, meth, cd, Q, cc, nL, b0, n0, u0, own, kind, D, cA, ea, X⟩ := Γ
  intro H locs ls cells slots e1 e2 hP hS hl
  obtain ⟨hx, hb, hml, hown, hts, hKX, hsz, hki⟩ := C
  obtain ⟨⟨hR1, hR2⟩, hR3, hR4⟩ := hR
  obtain ⟨V, dd, Cs, Ds, g1, ⟨g2', g3, g4⟩, ⟨g5, g6, g7⟩, g8, g9, g10, g11, g12, g13, g14, g15⟩ := hKX.2.2.2.2.2.2.2.2
  have hlk := hts _ (z_linkI hc)
  have him := hts _ (zany3_in (w := .instanceMethod Jvm.Free.StrIndexOf.indexOf1N) (by decide +kernel))
  have hse := hts _ (zany3_in (w := .selects "java/lang/String" Jvm.Free.StrIndexOf.indexOf1N Jvm.Free.StrIndexOf.indexOf1N) (by decide +kernel))
  obtain ⟨sa, sc, C', ks, u1, u2, u3, u4, u5, u6, -⟩ := Cond.exactly_spec (args := #[.ref (ea 2)]) (first := V) (o := none) (s := V) (idx := []) (t := .arg 0) (cls := "java/lang/String") g8
  have usa : sa = ea 2 := by
    have e0 : (Term.arg 0).eval #[.ref (ea 2)] V none [] V = some (.ref (ea 2)) := rfl
    cases u1.symm.trans e0
    rfl
  rw [usa] at u3
  cases g2'.symm.trans u3
  have hfc : s.vm.findClass "java/lang/String" = some Cs.cls := by rw [g1.findClass, u2, u6]
  intro T hT X0
  subst hT
  have c1 : T.heap[ea 2]? = some Cs := (hS.2.1 _ (Array.getElem?_eq_some_iff.mp g3).1 g4).trans g3
  have c2 : T.heap[dd]? = some Ds := (hS.2.1 _ (Array.getElem?_eq_some_iff.mp g6).1 g7).trans g6
  obtain ⟨v1, vm1, ⟨T1, L1, n1, k1⟩, hW1, X1, hpost, come⟩ := X0.virtualBack hx (own := zCN own) (C := "java/lang/String") (index := ix) (y := Jvm.Free.StrIndexOf.indexOf1N) (z := Jvm.Free.StrIndexOf.indexOf1N) hown hlk (ixd_1 hts) (notFace_of_selects hse) hse him (by decide)
    (ix_pays (l := l) (w := 8) (ea 2) dd 1 c Ds (ix_tab hts) (by omega) (by omega)) (b := ea 2) (cB := Cs.cls) hfc ⟨Cs, c1, rfl, u5⟩
    (g := F0 m pc ls (.int c :: .ref (ea 2) :: r.map (acv b0 ea))) rfl (hml.trans hl.2.1.symm).symm (Steps.refl _) (argsL := [.int c]) (rest := r.map (acv b0 ea))
    (fun sig h => by rw [show parseMethodDescriptor Jvm.Free.StrIndexOf.indexOf1N.desc = some ⟨[.int], some .int⟩ from by decide +kernel] at h; rw [← Option.some.inj h]; rfl) rfl (by show 2 * 0 + _ ≤ 8; rw [aws_map]; omega) (by rw [hb]; exact hd)
    (fun vmx hWx => ⟨by show cells ≤ _; omega, by show slots ≤ _; omega, rfl, ix_st (b0 := b0) (U := T.setVm vmx) (T := T) (s := s) (g1.trans hWx.alike) g2' c1 c2 g8 g9 g10 g11 g12 g13 g14 ((g15.moved hWx.alike).kept hS.2.1)⟩)
  dsimp only [Pt.U, Pt.locs, Pt.cells, Pt.slots] at X1 hpost come
  obtain ⟨hv, hq, hL, hc', hn⟩ := hpost
  subst hv hL hc' hn
  rw [ix_ans g13 (fun j hj => by unfold Jvm.Lib.StringLatin1.equals.intAt; rw [g14 j hj])] at come
  obtain ⟨t, a1, b1⟩ := k T.heap L1 ls n1 k1 e1 e2 hP hS hl T1 hq X1
  exact ⟨t, come.trans a1, b1⟩
end MZ
theorem amath_goes {a d : Nat} {st : List Value} {k : List Value → Option aR} {res : aR} (he : amath a d st k = some res) : ∃ st', k st' = some res := by
  unfold amath at he
  split at he
  · cases he
  · obtain ⟨x, y, r, rfl, he⟩ := tII_some he
    exact ⟨_, (abif he).2⟩
  · obtain ⟨x, y, r, rfl, he⟩ := tII_some he
    exact ⟨_, (abif he).2⟩
  · obtain ⟨x, r, rfl, he⟩ := tI_some he
    exact ⟨_, (abif he).2⟩
  · obtain ⟨x, y, r, rfl, he⟩ := tJJ_some he
    exact ⟨_, (abif he).2⟩
  · obtain ⟨x, y, r, rfl, he⟩ := tJJ_some he
    exact ⟨_, (abif he).2⟩
  · cases he
theorem acopy_goes {d : Nat} {st : List Value} {h : aH} {k : List Value → aH → Option aR} {res : aR} (he : acopy d st h k = some res) : ∃ st' h', k st' h' = some res ∧ h.1.length ≤ h'.1.length ∧ h.2 ≤ h'.2 := by
  unfold acopy at he
  split at he
  · obtain ⟨-, he⟩ := abif he
    split at he
    · obtain ⟨-, he⟩ := anite he
      obtain ⟨-, he⟩ := abif he
      exact ⟨_, _, he, by rw [List.length_set]; exact Nat.le_refl _, Nat.le_refl _⟩
    · obtain ⟨-, he⟩ := anite he
      exact ⟨_, _, he, by rw [List.length_set]; exact Nat.le_refl _, Nat.le_refl _⟩
    · obtain ⟨-, he⟩ := anite he
      exact ⟨_, _, he, by rw [List.length_set]; exact Nat.le_refl _, Nat.le_refl _⟩
    · cases he
  · cases he
theorem aixof_some {d : Nat} {st : List Value} {k : List Value → Option aR} {res : aR} (he : aixof d st k = some res) : ∃ c d' r, d = d' + 5 ∧ st = .int c :: .retAddr 2 :: r ∧ aws r ≤ 8 ∧ k (.int (zIx c) :: r) = some res := by
  unfold aixof at he
  split at he
  · obtain ⟨h8, he⟩ := abif he
    exact ⟨_, _, _, rfl, rfl, Nat.le_of_ble_eq_true h8, he⟩
  · cases he
theorem aF_some {pc : Nat} {i : aI} : ∀ {l : List aI}, aF pc l = some i → i ∈ l ∧ i.1 = pc
  | [], h => by cases h
  | q :: r, h => by
    unfold aF at h
    cases hb : Nat.beq q.1 pc with
    | true =>
      rw [hb] at h
      cases h
      exact ⟨List.mem_cons_self, Nat.eq_of_beq_eq_true hb⟩
    | false =>
      rw [hb] at h
      obtain ⟨h1, h2⟩ := aF_some h
      exact ⟨List.mem_cons_of_mem _ h1, h2⟩
theorem aretI_some {ret : Option FieldType} {x : Int32} {h : aH} {res : aR} (he : aretI ret x h = some res) : res = (some (.int x), h) ∧ (ret = some .int ∨ (ret = some .boolean ∧ (x = 0 ∨ x = 1))) := by
  unfold aretI at he
  split at he
  · cases he; exact ⟨rfl, Or.inl rfl⟩
  · rcases aite he with ⟨q, he⟩ | ⟨q, he⟩
    · cases he; exact ⟨rfl, Or.inr ⟨rfl, q⟩⟩
    · cases he
  · cases he
theorem arun_grows {X : aX} : ∀ (n d : Nat) (M : aM) (pc : Nat) (L : aL) (st : List Value) (h : aH) (res : aR), arun X n d M pc L st h = some res → h.1.length ≤ res.2.1.length ∧ h.2 ≤ res.2.2 := by
  intro n
  induction n with
  | zero => intro d M pc L st h res he; cases he
  | succ n ih =>
    intro d M pc L st h res he
    have back : ∀ (d : Nat) (r : List Value) (Y : aM) (L' : aL) (h : aH) (pc : Nat), aback d r (fun d' => arun X n d' Y 0 L' [] h) (fun st' h' => arun X n d M pc L st' h') = some res → h.1.length ≤ res.2.1.length ∧ h.2 ≤ res.2.2 := by
      intro d r Y L' h pc hb
      obtain ⟨d', v, h1, -, -, g1, g2⟩ := aback_some hb
      have a1 := ih _ _ _ _ _ _ _ g1
      have a2 := ih _ _ _ _ _ _ _ g2
      exact ⟨Nat.le_trans a1.1 a2.1, Nat.le_trans a1.2 a2.2⟩
    unfold arun at he
    split at he
    · cases he
    · rename_i i hi
      split at he
      · split at he
        · obtain ⟨rfl, -⟩ := aretI_some he
          exact ⟨Nat.le_refl _, Nat.le_refl _⟩
        · cases he
      · split at he
        · cases he; exact ⟨Nat.le_refl _, Nat.le_refl _⟩
        · cases he
      · split at he
        · cases he; exact ⟨Nat.le_refl _, Nat.le_refl _⟩
        · cases he
      · split at he
        · cases he; exact ⟨Nat.le_refl _, Nat.le_refl _⟩
        · cases he
      · cases hb2 : Nat.beq i.2.2.2.1 1002 with
        | true =>
          rw [hb2] at he
          simp only [cond_true] at he
          obtain ⟨st', h2, g, g1, g2⟩ := acopy_goes he
          have a := ih _ _ _ _ _ _ _ g
          exact ⟨Nat.le_trans g1 a.1, Nat.le_trans g2 a.2⟩
        | false =>
        rw [hb2] at he
        simp only [cond_false] at he
        cases hb : Nat.ble 1010 i.2.2.2.1 with
        | true =>
          rw [hb] at he
          simp only [cond_true] at he
          obtain ⟨st', g⟩ := amath_goes he
          exact ih _ _ _ _ _ _ _ g
        | false =>
          rw [hb] at he
          simp only [cond_false] at he
          split at he
          · obtain ⟨-, he⟩ := abif he
            obtain ⟨as, r, rfl, -, he⟩ := acut_some he
            obtain ⟨-, he⟩ := aent_some he
            exact back _ _ _ _ _ _ he
          · cases he
      · cases hb1 : Nat.beq i.2.2.2.1 1001 with
        | true =>
          rw [hb1] at he
          simp only [cond_true] at he
          obtain ⟨c, d', r, -, -, -, g⟩ := aixof_some he
          exact ih _ _ _ _ _ _ _ g
        | false =>
        rw [hb1] at he
        simp only [cond_false] at he
        split at he
        · obtain ⟨-, he⟩ := abif he
          obtain ⟨as, r, rfl, -, he⟩ := acut_some he
          split at he
          · obtain ⟨fs, -, he⟩ := aobj_some he
            obtain ⟨-, he⟩ := aent_some he
            exact back _ _ _ _ _ _ he
          · cases he
        · cases he
      · cases hb : Nat.beq i.2.2.2.1 1000 with
        | true =>
          rw [hb] at he
          simp only [cond_true] at he
          split at he
          · obtain ⟨d', v, h1, -, -, g1, g2⟩ := aback_some he
            cases g1
            exact ih _ _ _ _ _ _ _ g2
          · cases he
        | false =>
          rw [hb] at he
          simp only [cond_false] at he
          split at he
          · obtain ⟨-, he⟩ := abif he
            obtain ⟨as, r, rfl, -, he⟩ := acut_some he
            split at he
            · obtain ⟨-, he⟩ := aent_some he
              exact back _ _ _ _ _ _ he
            · cases he
          · cases he
      · obtain ⟨pc', L', st', h', g, g1, g2⟩ := aX1_goes he
        have a := ih _ _ _ _ _ _ _ g
        exact ⟨Nat.le_trans g1 a.1, Nat.le_trans g2 a.2⟩
end
section
-- ===== the simulation: by induction over the run =====
theorem aE_len : ∀ (as : List Value) (n : Nat), aws as ≤ n → (aE n as).length = n
  | [], n, _ => by simp [aE]
  | v :: r, n, h => by
    unfold aE
    simp only [aws] at h
    rcases lv_cat v with q | q
    · rw [show Nat.beq v.category 2 = false by rw [q]; rfl]
      simp only [cond_false, List.length_cons]
      rw [aE_len r (n - 1) (by omega)]
      omega
    · rw [show Nat.beq v.category 2 = true by rw [q]; rfl]
      simp only [cond_true, List.length_cons]
      rw [aE_len r (n - 2) (by omega)]
      omega
theorem aE_get {b0 : Nat} {ea : Nat → Nat} : ∀ (as : List Value) (n off i : Nat) (v : Value), (aE n as)[i]? = some (some v) → (off + i, acv b0 ea v) ∈ lv_args off (as.map (acv b0 ea))
  | [], n, off, i, v, h => by
    simp only [aE, List.getElem?_replicate] at h
    split at h <;> cases h
  | w :: r, n, off, i, v, h => by
    unfold aE at h
    simp only [List.map_cons, lv_args, acv_cat]
    rcases lv_cat w with q | q
    · rw [show Nat.beq w.category 2 = false by rw [q]; rfl] at h
      rw [if_neg (by omega)]
      simp only [cond_false] at h
      match i, h with
      | 0, h => cases h; exact List.mem_cons_self
      | i + 1, h =>
        refine List.mem_cons_of_mem _ ?_
        have := aE_get (b0 := b0) (ea := ea) r (n - 1) (off + 1) i v h
        rw [show off + (i + 1) = off + 1 + i by omega]
        exact this
    · rw [show Nat.beq w.category 2 = true by rw [q]; rfl] at h
      rw [if_pos q]
      simp only [cond_true] at h
      match i, h with
      | 0, h => cases h; exact List.mem_cons_self
      | 1, h => cases h
      | i + 2, h =>
        refine List.mem_cons_of_mem _ ?_
        have := aE_get (b0 := b0) (ea := ea) r (n - 2) (off + 2) i v h
        rw [show off + (i + 2) = off + 2 + i by omega]
        exact this
theorem lg_len {b0 : Nat} {ea : Nat → Nat} : ∀ (as : List Value), (lg_sl (as.map (acv b0 ea))).length = aws as
  | [] => rfl
  | v :: r => by
    have ih := lg_len (b0 := b0) (ea := ea) r
    unfold lg_sl at ih ⊢
    simp only [List.map_cons, List.flatMap_cons, List.length_append, aws, ih, acv_cat]
    rcases lv_cat v with q | q
    · rw [if_neg (by omega), q]; rfl
    · rw [if_pos q, q]; rfl
theorem aE_R {b0 : Nat} {ea : Nat → Nat} {as : List Value} {n : Nat} (h : aws as ≤ n) : alR b0 ea ((lg_sl (as.map (acv b0 ea)) ++ List.replicate (n - (lg_sl (as.map (acv b0 ea))).length) Slot.unset).toArray) n (aE n as) := by
  obtain ⟨h1, h2, h3⟩ := lv_entry (as.map (acv b0 ea)) (n := n) (by rw [lg_len]; exact h)
  refine ⟨aE_len as n h, h1, h2, fun i v hv => ?_⟩
  have := aE_get (b0 := b0) (ea := ea) as n 0 i v (aG_lt hv)
  rw [Nat.zero_add] at this
  exact h3 _ this
def aRet (Γ : aGm) (M : aM) (pc : Nat) (st : List Value) (v : Option Value) : Prop :=
  (∃ x, st = [.int x] ∧ v = some (.int x) ∧ aDC Γ pc .ireturn 1 ∧ (M.2.2.2.2.1 = some .int ∨ (M.2.2.2.2.1 = some .boolean ∧ (x = 0 ∨ x = 1)))) ∨
  (∃ x, st = [.long x] ∧ v = some (.long x) ∧ aDC Γ pc .lreturn 1 ∧ M.2.2.2.2.1 = some .long) ∨
  (∃ x C, st = [.ref x] ∧ v = some (.ref x) ∧ aDC Γ pc .areturn 1 ∧ M.2.2.2.2.1 = some (.object C)) ∨
  (st = [] ∧ v = none ∧ aDC Γ pc .return_ 1 ∧ M.2.2.2.2.1 = none)
def aFin (Γ : aGm) (M : aM) (v : Option Value) (h' : aH) : Prop := ∀ (pc : Nat) (L : aL) (st : List Value), aRet Γ M pc st v → aSW Γ pc L st h'
def aCd (Γ : aGm) (M : aM) : Prop := match Γ with
  | (p, l, e, R, s, m, args, below, meth, c, Q, cc, nL, b0, n0, u0, own, kind, D, cA, ea, X) => zchk M.1 cc M.2.2.2.2.2.2.2 = true ∧ own = M.1 ∧ kind = M.2.2.2.2.2.2.1
def aS (X : aX) (n : Nat) : Prop := ∀ (Γ : aGm) (d : Nat) (M : aM) (pc : Nat) (L : aL) (st : List Value) (h : aH) (v : Option Value) (h' : aH), aXX Γ = X → arun X n d M pc L st h = some (v, h') → aCd Γ M → aCF Γ → aRm Γ d h' → aFin Γ M v h' → aSW Γ pc L st h
theorem aM_of {X : aX} {n : Nat} (hS : aS X n) (l : Launch) (D : va_G) (cA : Nat → ClassId) (ea : Nat → Nat) (b0 d : Nat) (Y : aM) (as : List Value) (h : aH) (v : Option Value) (h' : aH) (hY : Y ∈ zmt) (hrun : arun X n d Y 0 (aE Y.2.2.2.1 as) [] h = some (v, h')) (has : aws as ≤ Y.2.2.2.1) : aMet l D cA ea b0 X d Y as h v h' := by
  have hok := zmt_ok Y hY
  obtain ⟨pl, d1, d2, d3, d4, d5, d6⟩ := zMok_d hok
  have hgr := arun_grows _ _ _ _ _ _ _ _ hrun
  dsimp only at hgr
  refine Met.ofW (cc := Y.2.2.1) (maxL := Y.2.2.2.1) (ret := Y.2.2.2.2.1) pl rfl ?_
  intro p e s m args below meth c s₁ B hml hv
  obtain ⟨rfl, hsz, hP, hK⟩ := hv
  have hx := B.exec
  have hb := B.bytes
  have hr := B.returns
  have hts0 := atoms_spec (ws := aWs Y) B.pre
  have hown : s.vm.findClass Y.2.1.cls = some m.cls := findClass_of_methodNamed B.named
  have hlocks := B.notSynchronized
  have hnm : meth.name = Y.2.1.name := (name_of_methodNamed B.named B.method).1
  rw [lg_entry_eq]
  have key := hS (p, l, e, aRoom d (h'.1.length - h.1.length) (h'.2 - h.2), s, m, (as.map (acv b0 ea)).toArray, below, meth, c, MQ below (aQ D cA ea b0 v h') (as.map (acv b0 ea)).toArray s (h'.1.length - h.1.length) (h'.2 - h.2) (fun q => b0 ≤ q), Y.2.2.1, Y.2.2.2.1, b0, h.1.length, h.2, Y.1, Y.2.2.2.2.2.2.1, D, cA, ea, X) d Y 0 (aE Y.2.2.2.1 as) [] h v h' rfl hrun ⟨hok.1, rfl, rfl⟩
    ⟨hx, hb, hml, by rw [d4]; exact hown, fun w hw => hts0 w (List.mem_cons_of_mem _ hw), hK, hsz, fun q => hnm.trans (d6 q).1⟩
    ⟨⟨by show h'.1.length ≤ h.1.length + (h'.1.length - h.1.length); omega, by show h'.2 ≤ h.2 + (h'.2 - h.2); omega⟩, Nat.le_refl _, Nat.le_refl _⟩ (by
      intro pc L st hret H locs ls cells slots e1 e2 hP2 hS2 hl
      have ec : cells = h'.1.length - h.1.length := by omega
      have es : slots = h'.2 - h.2 := by omega
      subst ec
      subst es
      have hq : ∀ (w : Option Value), w = v.map (acv b0 ea) → ∀ t : State, t.heap = H → s.WarmedH t.vm → aQ D cA ea b0 v h' (as.map (acv b0 ea)).toArray s (.returned w) t := fun w hw t ht _ => ⟨by rw [hw], by rw [ht]; exact hP2, by rw [ht]; exact hS2.1, fun q q1 q2 => by rw [ht]; exact hS2.2.1 q q1 q2⟩
      rcases hret with ⟨x, rfl, rfl, hd, hty | ⟨hty, hx01⟩⟩ | ⟨x, rfl, rfl, hd, hty⟩ | ⟨x, C, rfl, rfl, hd, hty⟩ | ⟨rfl, rfl, hd, hty⟩
      · exact W.iret (v := x) hx hb (hr.trans hty) (hq _ rfl) hS2.2.2 hd hlocks
      · exact W.zret (v := x) (ty := .boolean) hx hb (hr.trans hty) (by rcases hx01 with rfl | rfl <;> rfl) (hq _ rfl) hS2.2.2 hd hlocks
      · exact W.lret (v := x) hx hb (hr.trans hty) (hq _ rfl) hS2.2.2 hd hlocks
      · exact W.aret (v := .ref (b0 + x)) (rt := .object C) hx hb (hr.trans hty) (Or.inl ⟨C, rfl⟩) (Or.inr ⟨_, rfl⟩) (hq _ rfl) hS2.2.2 hd hlocks
      · exact W.vret hx hb (hr.trans hty) (hq _ rfl) hS2.2.2 hd hlocks)
  exact key s.heap [] _ 0 0 rfl rfl hP va_S.rf (aE_R has)
theorem aCd_at {Γ : aGm} {M : aM} (h : aCd Γ M) {i : aI} (hi : i ∈ M.2.2.2.2.2.2.2) : aDC Γ i.1 i.2.1 (zlen i.2.1 i.2.2.1) ∧ zchkI (aown Γ) i = true ∧ aown Γ = M.1 ∧ akind Γ = M.2.2.2.2.2.2.1 := by
  obtain ⟨p, l, e, R, s, m, args, below, meth, c, Q, cc, nL, b0, n0, u0, own, kind, D, cA, ea, X⟩ := Γ
  obtain ⟨h1, rfl, rfl⟩ := h
  have h2 := List.all_eq_true.mp h1 i hi
  obtain ⟨h3, h4⟩ := (Bool.and_eq_true _ _).mp h2
  have h5 : decode cc i.1 = .ok (i.2.1, zlen i.2.1 i.2.2.1) := of_decide_eq_true h3
  exact ⟨h5, h4, rfl, rfl⟩
theorem aRm_of {Γ : aGm} {d : Nat} {h h' : aH} (hR : aRm Γ d h') (h1 : h.1.length ≤ h'.1.length) (h2 : h.2 ≤ h'.2) : aRM Γ h := by
  obtain ⟨p, l, e, R, s, m, args, below, meth, c, Q, cc, nL, b0, n0, u0, own, kind, D, cA, ea, X⟩ := Γ
  obtain ⟨⟨g1, g2⟩, -, -⟩ := hR
  exact ⟨Nat.le_trans h1 g1, Nat.le_trans h2 g2⟩
theorem aMG_of {X : aX} {n : Nat} (hS : aS X n) {Γ : aGm} (hX : aXX Γ = X) {d : Nat} {Y : aM} {as : List Value} {h h' : aH} {v : Option Value} (hY : Y ∈ zmt) (hrun : arun X n d Y 0 (aE Y.2.2.2.1 as) [] h = some (v, h')) (has : aws as ≤ Y.2.2.2.1) : aMG Γ d Y as h v h' := by
  obtain ⟨p, l, e, R, s, m, args, below, meth, c, Q, cc, nL, b0, n0, u0, own, kind, D, cA, ea, X'⟩ := Γ
  have hX : X' = X := hX
  subst hX
  exact aM_of hS l D cA ea b0 d Y as h v h' hY hrun has
theorem zmt_b13 : zmt.all (fun Y => Nat.blt Y.1 13 || Nat.beq Y.2.2.2.2.2.2.1 1) = true := by decide +kernel
set_option maxHeartbeats 4000000 in
theorem a_sim (X : aX) : ∀ n, aS X n := by
  intro n
  induction n with
  | zero => intro Γ d M pc L st h v h' _ he; cases he
  | succ n ih =>
    intro Γ d M pc L st h v h' hX he hCd C hR hF
    have hgrow : ∀ {d : Nat} {M : aM} {pc : Nat} {L : aL} {st : List Value} {h : aH} {v : Option Value} {h' : aH}, arun X n d M pc L st h = some (v, h') → h.1.length ≤ h'.1.length ∧ h.2 ≤ h'.2 := fun g => arun_grows _ _ _ _ _ _ _ _ g
    have go : ∀ {pc' : Nat} {L' : aL} {st' : List Value} {h1 : aH}, arun X n d M pc' L' st' h1 = some (v, h') → aSW Γ pc' L' st' h1 := fun g => ih Γ d M _ _ _ _ v h' hX g hCd C hR hF
    unfold arun at he
    split at he
    · cases he
    · rename_i i hi
      obtain ⟨him, hpc⟩ := aF_some hi
      subst hpc
      obtain ⟨hd, hc, hown, hkind⟩ := aCd_at hCd him
      obtain ⟨pc, ins, len, a, b⟩ := i
      dsimp only at he hd hc him hi ⊢
      split at he
      · split at he
        · obtain ⟨g1, g2⟩ := aretI_some he
          cases g1
          exact hF _ _ _ (Or.inl ⟨_, rfl, rfl, hd, g2⟩)
        · cases he
      · split at he
        · rename_i hty
          cases he
          exact hF _ _ _ (Or.inr (Or.inl ⟨_, rfl, rfl, hd, hty⟩))
        · cases he
      · split at he
        · rename_i hty
          cases he
          exact hF _ _ _ (Or.inr (Or.inr (Or.inl ⟨_, _, rfl, rfl, hd, hty⟩)))
        · cases he
      · split at he
        · rename_i hty
          cases he
          exact hF _ _ _ (Or.inr (Or.inr (Or.inr ⟨rfl, rfl, hd, hty⟩)))
        · cases he
      · cases hb2 : Nat.beq a 1002 with
        | true =>
          have ha := Nat.eq_of_beq_eq_true hb2
          subst ha
          rw [hb2] at he
          simp only [cond_true] at he
          unfold acopy at he
          split at he
          · obtain ⟨h8, he⟩ := abif he
            split at he
            · rename_i g0 g1
              obtain ⟨hq, he⟩ := anite he
              obtain ⟨hf, he⟩ := abif he
              exact s_cp3 g0 g1 hq hf hc (Nat.le_of_ble_eq_true h8) hR C hd (go he)
            · rename_i g0 g1
              obtain ⟨hq, he⟩ := anite he
              exact s_cp1 g0 g1 hq hc (Nat.le_of_ble_eq_true h8) hR C hd (go he)
            · rename_i g0 g1
              obtain ⟨hq, he⟩ := anite he
              exact s_cp0 g0 g1 hq hc (Nat.le_of_ble_eq_true h8) hR C hd (go he)
            · cases he
          · cases he
        | false =>
        rw [hb2] at he
        simp only [cond_false] at he
        cases hb : Nat.ble 1010 a with
        | true =>
          rw [hb] at he
          simp only [cond_true] at he
          unfold amath at he
          split at he
          · cases he
          · obtain ⟨x, y, r, rfl, he⟩ := tII_some he
            obtain ⟨h8, he⟩ := abif he
            exact s_m1010 hc (Nat.le_of_ble_eq_true h8) (hgrow he) hR C hd (go he)
          · obtain ⟨x, y, r, rfl, he⟩ := tII_some he
            obtain ⟨h8, he⟩ := abif he
            exact s_m1011 hc (Nat.le_of_ble_eq_true h8) (hgrow he) hR C hd (go he)
          · obtain ⟨x, r, rfl, he⟩ := tI_some he
            obtain ⟨h8, he⟩ := abif he
            exact s_m1012 hc (Nat.le_of_ble_eq_true h8) (hgrow he) hR C hd (go he)
          · obtain ⟨x, y, r, rfl, he⟩ := tJJ_some he
            obtain ⟨h8, he⟩ := abif he
            exact s_m1013 hc (Nat.le_of_ble_eq_true h8) (hgrow he) hR C hd (go he)
          · obtain ⟨x, y, r, rfl, he⟩ := tJJ_some he
            obtain ⟨h8, he⟩ := abif he
            exact s_m1014 hc (Nat.le_of_ble_eq_true h8) (hgrow he) hR C hd (go he)
          · cases he
        | false =>
          rw [hb] at he
          simp only [cond_false] at he
          split at he
          · rename_i Y hY
            obtain ⟨hk1, he⟩ := abif he
            obtain ⟨as, r, rfl, hn, he⟩ := acut_some he
            obtain ⟨hw, he⟩ := aent_some he
            obtain ⟨d', v1, h1, rfl, h8, g1, g2⟩ := aback_some he
            have hm := List.mem_of_getElem? hY
            exact s_stat hY (zmt_ok Y hm) (Nat.eq_of_beq_eq_true hk1) hc hn h8 (aMG_of ih hX hm g1 hw) (hgrow g1) (hgrow g2) hR C hd (go g2)
          · cases he
      · cases hb1 : Nat.beq a 1001 with
        | true =>
          have ha := Nat.eq_of_beq_eq_true hb1
          subst ha
          rw [hb1] at he
          simp only [cond_true] at he
          obtain ⟨c', d', r, rfl, rfl, h8, he⟩ := aixof_some he
          refine s_ix ?_ h8 (hgrow he) hR C hd (go he)
          refine List.any_eq_true.mpr ?_
          obtain ⟨q, m1, m2⟩ := List.any_eq_true.mp (show zmcp.any (fun q => Nat.beq q.1 (aown Γ) && Nat.beq q.2.1 _ && Nat.beq q.2.2.1 1001 && Nat.beq q.2.2.2.1 0) = true from hc)
          rw [Bool.and_eq_true] at m2
          exact ⟨q, m1, m2.1⟩
        | false =>
        rw [hb1] at he
        simp only [cond_false] at he
        split at he
        · rename_i Y hY
          obtain ⟨hk1, he⟩ := abif he
          obtain ⟨as, r, rfl, hn, he⟩ := acut_some he
          split at he
          · rename_i o r'
            obtain ⟨fs, ho, he⟩ := aobj_some he
            obtain ⟨hw, he⟩ := aent_some he
            obtain ⟨d', v1, h1, rfl, h8, g1, g2⟩ := aback_some he
            have hm := List.mem_of_getElem? hY
            have hk0 := Nat.eq_of_beq_eq_true hk1
            have h13 : Y.1 < 13 := by
              rcases (Bool.or_eq_true _ _).mp (List.all_eq_true.mp zmt_b13 Y hm) with q | q
              · exact Nat.le_of_ble_eq_true q
              · have := Nat.eq_of_beq_eq_true q
                omega
            exact s_virt hY (zmt_ok Y hm) hk0 hc hn h8 ho h13 (aMG_of ih hX hm g1 hw) (hgrow g1) (hgrow g2) hR C hd (go g2)
          · cases he
        · cases he
      · cases hb : Nat.beq a 1000 with
        | true =>
          have ha := Nat.eq_of_beq_eq_true hb
          subst ha
          rw [hb] at he
          simp only [cond_true] at he
          split at he
          · obtain ⟨d', v1, h1, rfl, h8, g1, g2⟩ := aback_some he
            cases g1
            exact s_obj hc h8 hR C hd (go g2)
          · cases he
        | false =>
          rw [hb] at he
          simp only [cond_false] at he
          split at he
          · rename_i Y hY
            obtain ⟨hk1, he⟩ := abif he
            obtain ⟨as, r, rfl, hn, he⟩ := acut_some he
            split at he
            · rename_i o r'
              obtain ⟨hw, he⟩ := aent_some he
              obtain ⟨d', v1, h1, rfl, h8, g1, g2⟩ := aback_some he
              have hm := List.mem_of_getElem? hY
              exact s_init hY (zmt_ok Y hm) (Nat.eq_of_beq_eq_true hk1) hc hn h8 (aMG_of ih hX hm g1 hw) (hgrow g1) (hgrow g2) hR C hd (go g2)
            · cases he
          · cases he
      · rw [← hown, ← hkind] at he
        subst hX
        exact a_step (i := (pc, ins, len, a, b)) C hd hc (fun pc' L' st' h1 g => go g) (fun pc' L' st' h1 g => aRm_of hR (hgrow g).1 (hgrow g).2) he
end
section
-- ===== the equations of our machine, an instruction a row =====
def aplain (i : Instr) : Bool := match i with
  | .ireturn => false
  | .lreturn => false
  | .areturn => false
  | .return_ => false
  | .invokestatic _ => false
  | .invokevirtual _ => false
  | .invokespecial _ => false
  | _ => true
theorem arun_p {X : aX} {n d pc : Nat} {M : aM} {L : aL} {r : List Value} {h : aH} {i : aI} (hf : aF pc M.2.2.2.2.2.2.2 = some i) (hp : aplain i.2.1 = true) : arun X (n + 1) d M pc L r h = aX1 X M.1 M.2.2.2.2.2.2.1 (arun X n d M) i L r h := by
  conv => lhs; unfold arun
  simp only [hf]
  obtain ⟨p, ins, len, a, b⟩ := i
  cases ins <;> first | rfl | cases hp
section RZ
variable {X : aX} {n d pc len a b : Nat} {M : aM} {L : aL} {r : List Value} {h : aH}
theorem r_iconst {z : Int} {v : Int32} (hf : aF pc M.2.2.2.2.2.2.2 = some (pc, (.iconst z), len, a, b)) (hv : Int32.ofInt z = v) : arun X (n + 1) d M pc L r h = arun X n d M (pc + 1) L (.int v :: r) h := by
  rw [arun_p hf rfl]
  subst hv
  rfl
theorem r_bipush {z : Int} {v : Int32} (hf : aF pc M.2.2.2.2.2.2.2 = some (pc, (.bipush z), len, a, b)) (hv : (Int8.ofInt z).toInt32 = v) : arun X (n + 1) d M pc L r h = arun X n d M (pc + 2) L (.int v :: r) h := by
  rw [arun_p hf rfl]
  subst hv
  rfl
theorem r_sipush {z : Int} {v : Int32} (hf : aF pc M.2.2.2.2.2.2.2 = some (pc, (.sipush z), len, a, b)) (hv : (Int16.ofInt z).toInt32 = v) : arun X (n + 1) d M pc L r h = arun X n d M (pc + 3) L (.int v :: r) h := by
  rw [arun_p hf rfl]
  subst hv
  rfl
theorem r_lconst {z : Fin 2} {v : Int64} (hf : aF pc M.2.2.2.2.2.2.2 = some (pc, (.lconst z), len, a, b)) (hv : Int64.ofNat z = v) : arun X (n + 1) d M pc L r h = arun X n d M (pc + 1) L (.long v :: r) h := by
  rw [arun_p hf rfl]
  subst hv
  rfl
theorem r_null  (hf : aF pc M.2.2.2.2.2.2.2 = some (pc, .aconst_null, len, a, b))  : arun X (n + 1) d M pc L r h = arun X n d M (pc + 1) L (.null :: r) h := by
  rw [arun_p hf rfl]
  rfl
theorem r_ldc {ix : Nat} {v : Int32} (hf : aF pc M.2.2.2.2.2.2.2 = some (pc, (.ldc ix), len, a, b)) (hv : Int32.ofNat a = v) (ha : Nat.beq a 4294967296 = false := by rfl) : arun X (n + 1) d M pc L r h = arun X n d M (pc + 2) L (.int v :: r) h := by
  rw [arun_p hf rfl]
  subst hv
  simp only [aX1, ha, cond_false]
theorem r_ldcS {ix : Nat} (hf : aF pc M.2.2.2.2.2.2.2 = some (pc, (.ldc ix), len, 4294967296, b)) : arun X (n + 1) d M pc L r h = arun X n d M (pc + 2) L (.retAddr 2 :: r) h := by
  rw [arun_p hf rfl]
  rfl
theorem r_ldcw {ix : Nat} {v : Int32} (hf : aF pc M.2.2.2.2.2.2.2 = some (pc, (.ldc_w ix), len, a, b)) (hv : Int32.ofNat a = v) : arun X (n + 1) d M pc L r h = arun X n d M (pc + 3) L (.int v :: r) h := by
  rw [arun_p hf rfl]
  subst hv
  rfl
theorem r_ldc2 {ix : Nat} {v : Int64} (hf : aF pc M.2.2.2.2.2.2.2 = some (pc, (.ldc2_w ix), len, a, b)) (hv : Int64.ofNat a = v) : arun X (n + 1) d M pc L r h = arun X n d M (pc + 3) L (.long v :: r) h := by
  rw [arun_p hf rfl]
  subst hv
  rfl
theorem r_iloadn {z : Fin 4} {x : Int32} (hf : aF pc M.2.2.2.2.2.2.2 = some (pc, (.iload_n z), len, a, b)) (hg : aG L z = some (.int x)) : arun X (n + 1) d M pc L r h = arun X n d M (pc + 1) L (.int x :: r) h := by
  rw [arun_p hf rfl]
  simp only [aX1, hg]
theorem r_iload {z : Nat} {x : Int32} (hf : aF pc M.2.2.2.2.2.2.2 = some (pc, (.iload z), len, a, b)) (hg : aG L z = some (.int x)) : arun X (n + 1) d M pc L r h = arun X n d M (pc + 2) L (.int x :: r) h := by
  rw [arun_p hf rfl]
  simp only [aX1, hg]
theorem r_lloadn {z : Fin 4} {x : Int64} (hf : aF pc M.2.2.2.2.2.2.2 = some (pc, (.lload_n z), len, a, b)) (hg : aG L z = some (.long x)) : arun X (n + 1) d M pc L r h = arun X n d M (pc + 1) L (.long x :: r) h := by
  rw [arun_p hf rfl]
  simp only [aX1, hg]
theorem r_lload {z : Nat} {x : Int64} (hf : aF pc M.2.2.2.2.2.2.2 = some (pc, (.lload z), len, a, b)) (hg : aG L z = some (.long x)) : arun X (n + 1) d M pc L r h = arun X n d M (pc + 2) L (.long x :: r) h := by
  rw [arun_p hf rfl]
  simp only [aX1, hg]
theorem r_aloadn {z : Fin 4} {x : Nat} (hf : aF pc M.2.2.2.2.2.2.2 = some (pc, (.aload_n z), len, a, b)) (hg : aG L z = some (.ref x)) : arun X (n + 1) d M pc L r h = arun X n d M (pc + 1) L (.ref x :: r) h := by
  rw [arun_p hf rfl]
  simp only [aX1, hg]
theorem r_aload {z : Nat} {x : Nat} (hf : aF pc M.2.2.2.2.2.2.2 = some (pc, (.aload z), len, a, b)) (hg : aG L z = some (.ref x)) : arun X (n + 1) d M pc L r h = arun X n d M (pc + 2) L (.ref x :: r) h := by
  rw [arun_p hf rfl]
  simp only [aX1, hg]
theorem r_aloadnX {z : Fin 4} {x : Nat} (hf : aF pc M.2.2.2.2.2.2.2 = some (pc, (.aload_n z), len, a, b)) (hg : aG L z = some (.retAddr x)) : arun X (n + 1) d M pc L r h = arun X n d M (pc + 1) L (.retAddr x :: r) h := by
  rw [arun_p hf rfl]
  simp only [aX1, hg]
theorem r_aloadX {z : Nat} {x : Nat} (hf : aF pc M.2.2.2.2.2.2.2 = some (pc, (.aload z), len, a, b)) (hg : aG L z = some (.retAddr x)) : arun X (n + 1) d M pc L r h = arun X n d M (pc + 2) L (.retAddr x :: r) h := by
  rw [arun_p hf rfl]
  simp only [aX1, hg]
theorem r_aloadnN {z : Fin 4} (hf : aF pc M.2.2.2.2.2.2.2 = some (pc, (.aload_n z), len, a, b)) (hg : aG L z = some .null) : arun X (n + 1) d M pc L r h = arun X n d M (pc + 1) L (.null :: r) h := by
  rw [arun_p hf rfl]
  simp only [aX1, hg]
theorem r_aloadN {z : Nat} (hf : aF pc M.2.2.2.2.2.2.2 = some (pc, (.aload z), len, a, b)) (hg : aG L z = some .null) : arun X (n + 1) d M pc L r h = arun X n d M (pc + 2) L (.null :: r) h := by
  rw [arun_p hf rfl]
  simp only [aX1, hg]
theorem r_istoren {z : Fin 4} {x : Int32} {L' : aL} (hf : aF pc M.2.2.2.2.2.2.2 = some (pc, (.istore_n z), len, a, b)) (hz : Nat.blt ((z : Nat)) L.length = true) (hL : aS1 L z (.int x) = L') : arun X (n + 1) d M pc L (.int x :: r) h = arun X n d M (pc + 1) L' r h := by
  rw [arun_p hf rfl]
  subst hL
  simp only [aX1, tI, tJ, hz, cond_true]
theorem r_istore {z : Nat} {x : Int32} {L' : aL} (hf : aF pc M.2.2.2.2.2.2.2 = some (pc, (.istore z), len, a, b)) (hz : Nat.blt ((z : Nat)) L.length = true) (hL : aS1 L z (.int x) = L') : arun X (n + 1) d M pc L (.int x :: r) h = arun X n d M (pc + 2) L' r h := by
  rw [arun_p hf rfl]
  subst hL
  simp only [aX1, tI, tJ, hz, cond_true]
theorem r_lstoren {z : Fin 4} {x : Int64} {L' : aL} (hf : aF pc M.2.2.2.2.2.2.2 = some (pc, (.lstore_n z), len, a, b)) (hz : Nat.blt ((z : Nat) + 1) L.length = true) (hL : aS2 L z (.long x) = L') : arun X (n + 1) d M pc L (.long x :: r) h = arun X n d M (pc + 1) L' r h := by
  rw [arun_p hf rfl]
  subst hL
  simp only [aX1, tI, tJ, hz, cond_true]
theorem r_lstore {z : Nat} {x : Int64} {L' : aL} (hf : aF pc M.2.2.2.2.2.2.2 = some (pc, (.lstore z), len, a, b)) (hz : Nat.blt ((z : Nat) + 1) L.length = true) (hL : aS2 L z (.long x) = L') : arun X (n + 1) d M pc L (.long x :: r) h = arun X n d M (pc + 2) L' r h := by
  rw [arun_p hf rfl]
  subst hL
  simp only [aX1, tI, tJ, hz, cond_true]
theorem r_astoren {z : Fin 4} {x : Nat} {L' : aL} (hf : aF pc M.2.2.2.2.2.2.2 = some (pc, (.astore_n z), len, a, b)) (hz : Nat.blt ((z : Nat)) L.length = true) (hL : aS1 L z (.ref x) = L') : arun X (n + 1) d M pc L (.ref x :: r) h = arun X n d M (pc + 1) L' r h := by
  rw [arun_p hf rfl]
  subst hL
  simp only [aX1, tI, tJ, hz, cond_true]
theorem r_astore {z : Nat} {x : Nat} {L' : aL} (hf : aF pc M.2.2.2.2.2.2.2 = some (pc, (.astore z), len, a, b)) (hz : Nat.blt ((z : Nat)) L.length = true) (hL : aS1 L z (.ref x) = L') : arun X (n + 1) d M pc L (.ref x :: r) h = arun X n d M (pc + 2) L' r h := by
  rw [arun_p hf rfl]
  subst hL
  simp only [aX1, tI, tJ, hz, cond_true]
theorem r_astorenN {z : Fin 4} {L' : aL} (hf : aF pc M.2.2.2.2.2.2.2 = some (pc, (.astore_n z), len, a, b)) (hz : Nat.blt (z : Nat) L.length = true) (hL : aS1 L z .null = L') : arun X (n + 1) d M pc L (.null :: r) h = arun X n d M (pc + 1) L' r h := by
  rw [arun_p hf rfl]
  subst hL
  simp only [aX1, hz, cond_true]
theorem r_astoreN {z : Nat} {L' : aL} (hf : aF pc M.2.2.2.2.2.2.2 = some (pc, (.astore z), len, a, b)) (hz : Nat.blt (z : Nat) L.length = true) (hL : aS1 L z .null = L') : arun X (n + 1) d M pc L (.null :: r) h = arun X n d M (pc + 2) L' r h := by
  rw [arun_p hf rfl]
  subst hL
  simp only [aX1, hz, cond_true]
theorem r_iinc {z : Nat} {c : Int} {x v : Int32} {L' : aL} (hf : aF pc M.2.2.2.2.2.2.2 = some (pc, (.iinc z c), len, a, b)) (hg : aG L z = some (.int x)) (hv : x + Int32.ofInt c = v) (hL : aS1 L z (.int v) = L') : arun X (n + 1) d M pc L r h = arun X n d M (pc + 3) L' r h := by
  rw [arun_p hf rfl]
  subst hv
  subst hL
  simp only [aX1, hg]
theorem r_iadd {x y v : Int32} (hf : aF pc M.2.2.2.2.2.2.2 = some (pc, .iadd, len, a, b)) (hv : x + y = v) : arun X (n + 1) d M pc L (.int y :: .int x :: r) h = arun X n d M (pc + 1) L (.int v :: r) h := by
  rw [arun_p hf rfl]
  subst hv
  rfl
theorem r_isub {x y v : Int32} (hf : aF pc M.2.2.2.2.2.2.2 = some (pc, .isub, len, a, b)) (hv : x - y = v) : arun X (n + 1) d M pc L (.int y :: .int x :: r) h = arun X n d M (pc + 1) L (.int v :: r) h := by
  rw [arun_p hf rfl]
  subst hv
  rfl
theorem r_imul {x y v : Int32} (hf : aF pc M.2.2.2.2.2.2.2 = some (pc, .imul, len, a, b)) (hv : x * y = v) : arun X (n + 1) d M pc L (.int y :: .int x :: r) h = arun X n d M (pc + 1) L (.int v :: r) h := by
  rw [arun_p hf rfl]
  subst hv
  rfl
theorem r_iand {x y v : Int32} (hf : aF pc M.2.2.2.2.2.2.2 = some (pc, .iand, len, a, b)) (hv : x &&& y = v) : arun X (n + 1) d M pc L (.int y :: .int x :: r) h = arun X n d M (pc + 1) L (.int v :: r) h := by
  rw [arun_p hf rfl]
  subst hv
  rfl
theorem r_ior {x y v : Int32} (hf : aF pc M.2.2.2.2.2.2.2 = some (pc, .ior, len, a, b)) (hv : x ||| y = v) : arun X (n + 1) d M pc L (.int y :: .int x :: r) h = arun X n d M (pc + 1) L (.int v :: r) h := by
  rw [arun_p hf rfl]
  subst hv
  rfl
theorem r_ixor {x y v : Int32} (hf : aF pc M.2.2.2.2.2.2.2 = some (pc, .ixor, len, a, b)) (hv : x ^^^ y = v) : arun X (n + 1) d M pc L (.int y :: .int x :: r) h = arun X n d M (pc + 1) L (.int v :: r) h := by
  rw [arun_p hf rfl]
  subst hv
  rfl
theorem r_ishl {x y v : Int32} (hf : aF pc M.2.2.2.2.2.2.2 = some (pc, .ishl, len, a, b)) (hv : x <<< (y &&& 31) = v) : arun X (n + 1) d M pc L (.int y :: .int x :: r) h = arun X n d M (pc + 1) L (.int v :: r) h := by
  rw [arun_p hf rfl]
  subst hv
  rfl
theorem r_ishr {x y v : Int32} (hf : aF pc M.2.2.2.2.2.2.2 = some (pc, .ishr, len, a, b)) (hv : x >>> (y &&& 31) = v) : arun X (n + 1) d M pc L (.int y :: .int x :: r) h = arun X n d M (pc + 1) L (.int v :: r) h := by
  rw [arun_p hf rfl]
  subst hv
  rfl
theorem r_iushr {x y v : Int32} (hf : aF pc M.2.2.2.2.2.2.2 = some (pc, .iushr, len, a, b)) (hv : (x.toUInt32 >>> (y.toUInt32 &&& Int32.toUInt32 31)).toInt32 = v) : arun X (n + 1) d M pc L (.int y :: .int x :: r) h = arun X n d M (pc + 1) L (.int v :: r) h := by
  rw [arun_p hf rfl]
  subst hv
  rfl
theorem r_idiv {x y v : Int32} (hf : aF pc M.2.2.2.2.2.2.2 = some (pc, .idiv, len, a, b)) (hn : ¬ y = 0) (hv : x / y = v) : arun X (n + 1) d M pc L (.int y :: .int x :: r) h = arun X n d M (pc + 1) L (.int v :: r) h := by
  rw [arun_p hf rfl]
  subst hv
  simp only [aX1, tII, if_neg hn]
theorem r_irem {x y v : Int32} (hf : aF pc M.2.2.2.2.2.2.2 = some (pc, .irem, len, a, b)) (hn : ¬ y = 0) (hv : x - x / y * y = v) : arun X (n + 1) d M pc L (.int y :: .int x :: r) h = arun X n d M (pc + 1) L (.int v :: r) h := by
  rw [arun_p hf rfl]
  subst hv
  simp only [aX1, tII, if_neg hn]
theorem r_ladd {x y v : Int64} (hf : aF pc M.2.2.2.2.2.2.2 = some (pc, .ladd, len, a, b)) (hv : x + y = v) : arun X (n + 1) d M pc L (.long y :: .long x :: r) h = arun X n d M (pc + 1) L (.long v :: r) h := by
  rw [arun_p hf rfl]
  subst hv
  rfl
theorem r_lsub {x y v : Int64} (hf : aF pc M.2.2.2.2.2.2.2 = some (pc, .lsub, len, a, b)) (hv : x - y = v) : arun X (n + 1) d M pc L (.long y :: .long x :: r) h = arun X n d M (pc + 1) L (.long v :: r) h := by
  rw [arun_p hf rfl]
  subst hv
  rfl
theorem r_lmul {x y v : Int64} (hf : aF pc M.2.2.2.2.2.2.2 = some (pc, .lmul, len, a, b)) (hv : x * y = v) : arun X (n + 1) d M pc L (.long y :: .long x :: r) h = arun X n d M (pc + 1) L (.long v :: r) h := by
  rw [arun_p hf rfl]
  subst hv
  rfl
theorem r_land {x y v : Int64} (hf : aF pc M.2.2.2.2.2.2.2 = some (pc, .land, len, a, b)) (hv : x &&& y = v) : arun X (n + 1) d M pc L (.long y :: .long x :: r) h = arun X n d M (pc + 1) L (.long v :: r) h := by
  rw [arun_p hf rfl]
  subst hv
  rfl
theorem r_lor {x y v : Int64} (hf : aF pc M.2.2.2.2.2.2.2 = some (pc, .lor, len, a, b)) (hv : x ||| y = v) : arun X (n + 1) d M pc L (.long y :: .long x :: r) h = arun X n d M (pc + 1) L (.long v :: r) h := by
  rw [arun_p hf rfl]
  subst hv
  rfl
theorem r_ldiv {x y v : Int64} (hf : aF pc M.2.2.2.2.2.2.2 = some (pc, .ldiv, len, a, b)) (hn : ¬ y = 0) (hv : x / y = v) : arun X (n + 1) d M pc L (.long y :: .long x :: r) h = arun X n d M (pc + 1) L (.long v :: r) h := by
  rw [arun_p hf rfl]
  subst hv
  simp only [aX1, tJJ, if_neg hn]
theorem r_lrem {x y v : Int64} (hf : aF pc M.2.2.2.2.2.2.2 = some (pc, .lrem, len, a, b)) (hn : ¬ y = 0) (hv : x - x / y * y = v) : arun X (n + 1) d M pc L (.long y :: .long x :: r) h = arun X n d M (pc + 1) L (.long v :: r) h := by
  rw [arun_p hf rfl]
  subst hv
  simp only [aX1, tJJ, if_neg hn]
theorem r_lshl {x v : Int64} {y : Int32} (hf : aF pc M.2.2.2.2.2.2.2 = some (pc, .lshl, len, a, b)) (hv : x <<< (y.toInt64 &&& 63) = v) : arun X (n + 1) d M pc L (.int y :: .long x :: r) h = arun X n d M (pc + 1) L (.long v :: r) h := by
  rw [arun_p hf rfl]
  subst hv
  rfl
theorem r_lcmp {x y : Int64} {v : Int32} (hf : aF pc M.2.2.2.2.2.2.2 = some (pc, .lcmp, len, a, b)) (hv : lg_cmp x y = v) : arun X (n + 1) d M pc L (.long y :: .long x :: r) h = arun X n d M (pc + 1) L (.int v :: r) h := by
  rw [arun_p hf rfl]
  subst hv
  rfl
theorem r_ineg {x : Int32} {v : Int32} (hf : aF pc M.2.2.2.2.2.2.2 = some (pc, .ineg, len, a, b)) (hv : -x = v) : arun X (n + 1) d M pc L (.int x :: r) h = arun X n d M (pc + 1) L (.int v :: r) h := by
  rw [arun_p hf rfl]
  subst hv
  rfl
theorem r_i2l {x : Int32} {v : Int64} (hf : aF pc M.2.2.2.2.2.2.2 = some (pc, .i2l, len, a, b)) (hv : x.toInt64 = v) : arun X (n + 1) d M pc L (.int x :: r) h = arun X n d M (pc + 1) L (.long v :: r) h := by
  rw [arun_p hf rfl]
  subst hv
  rfl
theorem r_l2i {x : Int64} {v : Int32} (hf : aF pc M.2.2.2.2.2.2.2 = some (pc, .l2i, len, a, b)) (hv : x.toInt32 = v) : arun X (n + 1) d M pc L (.long x :: r) h = arun X n d M (pc + 1) L (.int v :: r) h := by
  rw [arun_p hf rfl]
  subst hv
  rfl
theorem r_i2b {x : Int32} {v : Int32} (hf : aF pc M.2.2.2.2.2.2.2 = some (pc, .i2b, len, a, b)) (hv : x.toInt8.toInt32 = v) : arun X (n + 1) d M pc L (.int x :: r) h = arun X n d M (pc + 1) L (.int v :: r) h := by
  rw [arun_p hf rfl]
  subst hv
  rfl
theorem r_i2s {x : Int32} {v : Int32} (hf : aF pc M.2.2.2.2.2.2.2 = some (pc, .i2s, len, a, b)) (hv : x.toInt16.toInt32 = v) : arun X (n + 1) d M pc L (.int x :: r) h = arun X n d M (pc + 1) L (.int v :: r) h := by
  rw [arun_p hf rfl]
  subst hv
  rfl
theorem r_i2c {x : Int32} {v : Int32} (hf : aF pc M.2.2.2.2.2.2.2 = some (pc, .i2c, len, a, b)) (hv : (x.toUInt32 % 65536).toInt32 = v) : arun X (n + 1) d M pc L (.int x :: r) h = arun X n d M (pc + 1) L (.int v :: r) h := by
  rw [arun_p hf rfl]
  subst hv
  rfl
theorem r_dup {v : Value} (hf : aF pc M.2.2.2.2.2.2.2 = some (pc, .dup, len, a, b)) (hk : aok1 v = true) : arun X (n + 1) d M pc L (v :: r) h = arun X n d M (pc + 1) L (v :: v :: r) h := by
  rw [arun_p hf rfl]
  simp only [aX1, hk, cond_true]
theorem r_dup2 {v w : Value} (hf : aF pc M.2.2.2.2.2.2.2 = some (pc, .dup2, len, a, b)) (hk : (aok1 v && aok1 w) = true) : arun X (n + 1) d M pc L (v :: w :: r) h = arun X n d M (pc + 1) L (v :: w :: v :: w :: r) h := by
  rw [arun_p hf rfl]
  simp only [aX1, hk, cond_true]
theorem r_pop {v : Value} (hf : aF pc M.2.2.2.2.2.2.2 = some (pc, .pop, len, a, b)) (hk : aok1 v = true) : arun X (n + 1) d M pc L (v :: r) h = arun X n d M (pc + 1) L r h := by
  rw [arun_p hf rfl]
  simp only [aX1, hk, cond_true]
theorem r_pop2 {x : Int64} (hf : aF pc M.2.2.2.2.2.2.2 = some (pc, .pop2, len, a, b)) : arun X (n + 1) d M pc L (.long x :: r) h = arun X n d M (pc + 1) L r h := by
  rw [arun_p hf rfl]
  rfl
theorem r_goto {off : Int} (hf : aF pc M.2.2.2.2.2.2.2 = some (pc, (.goto off), len, a, b))  : arun X (n + 1) d M pc L r h = arun X n d M a L r h := by
  rw [arun_p hf rfl]
  rfl
theorem r_ifnull_r {x : Nat} {off : Int} (hf : aF pc M.2.2.2.2.2.2.2 = some (pc, (.ifnull off), len, a, b))  : arun X (n + 1) d M pc L (.ref x :: r) h = arun X n d M (pc + 3) L r h := by
  rw [arun_p hf rfl]
  rfl
theorem r_ifnull_n {off : Int} (hf : aF pc M.2.2.2.2.2.2.2 = some (pc, (.ifnull off), len, a, b))  : arun X (n + 1) d M pc L (.null :: r) h = arun X n d M a L r h := by
  rw [arun_p hf rfl]
  rfl
theorem r_ifnonnull_r {x : Nat} {off : Int} (hf : aF pc M.2.2.2.2.2.2.2 = some (pc, (.ifnonnull off), len, a, b))  : arun X (n + 1) d M pc L (.ref x :: r) h = arun X n d M a L r h := by
  rw [arun_p hf rfl]
  rfl
theorem r_ifnonnull_n {off : Int} (hf : aF pc M.2.2.2.2.2.2.2 = some (pc, (.ifnonnull off), len, a, b))  : arun X (n + 1) d M pc L (.null :: r) h = arun X n d M (pc + 3) L r h := by
  rw [arun_p hf rfl]
  rfl
theorem r_tsw {x : Int32} {dd lo hi : Int} {offs : Array Int} (hf : aF pc M.2.2.2.2.2.2.2 = some (pc, (.tableswitch dd lo hi offs), len, a, b))  : arun X (n + 1) d M pc L (.int x :: r) h = asw x (fun q => arun X n d M ((pc : Int) + q).toNat L r h) dd lo offs.toList := by
  rw [arun_p hf rfl]
  rfl
theorem r_lsw {x : Int32} {dd : Int} {ps : Array (Int × Int)} (hf : aF pc M.2.2.2.2.2.2.2 = some (pc, (.lookupswitch dd ps), len, a, b))  : arun X (n + 1) d M pc L (.int x :: r) h = alw x (fun q => arun X n d M ((pc : Int) + q).toNat L r h) dd ps.toList := by
  rw [arun_p hf rfl]
  rfl
theorem r_get {ix o : Nat} {fs : List Value} {v : Value} (hf : aF pc M.2.2.2.2.2.2.2 = some (pc, (.getfield ix), len, a, b)) (ho : h.1[o]? = some (.inr (a, fs))) (hv : fs[b]? = some v) : arun X (n + 1) d M pc L (.ref o :: r) h = arun X n d M (pc + 3) L (v :: r) h := by
  rw [arun_p hf rfl]
  simp only [aX1, aobj, ho, hv, Nat.beq_refl, cond_true]
theorem r_put {ix o : Nat} {fs : List Value} {v : Value} {h' : aH} (hf : aF pc M.2.2.2.2.2.2.2 = some (pc, (.putfield ix), len, a, b)) (ho : h.1[o]? = some (.inr (a, fs))) (hk : ((!((zT a b).2.2.2) || (Nat.beq M.2.2.2.2.2.2.1 2 && Nat.beq M.1 a)) && aok (zY a b) v && Nat.blt b fs.length) = true) (hh : (h.1.set o (.inr (a, fs.set b v)), h.2) = h') : arun X (n + 1) d M pc L (v :: .ref o :: r) h = arun X n d M (pc + 3) L r h' := by
  rw [arun_p hf rfl]
  subst hh
  simp only [aX1, aobj, ho, Nat.beq_refl, cond_true, hk]
theorem r_gets {ix : Nat} (hf : aF pc M.2.2.2.2.2.2.2 = some (pc, (.getstatic ix), len, a, b))  : arun X (n + 1) d M pc L r h = arun X n d M (pc + 3) L (.retAddr 0 :: r) h := by
  rw [arun_p hf rfl]
  rfl
theorem r_alen {o k : Nat} {f : (Nat → Int32) ⊕ (Nat → Int64) ⊕ (Nat → UInt32) ⊕ (Nat → UInt64) ⊕ (Nat → Option Nat)} {v : Int32} (hf : aF pc M.2.2.2.2.2.2.2 = some (pc, .arraylength, len, a, b)) (ho : h.1[o]? = some (.inl (0, k, f))) (hv : Int32.ofNat k = v) : arun X (n + 1) d M pc L (.ref o :: r) h = arun X n d M (pc + 1) L (.int v :: r) h := by
  rw [arun_p hf rfl]
  subst hv
  simp only [aX1, ho]
theorem r_alen1 {o k : Nat} {f : (Nat → Int32) ⊕ (Nat → Int64) ⊕ (Nat → UInt32) ⊕ (Nat → UInt64) ⊕ (Nat → Option Nat)} {v : Int32} (hf : aF pc M.2.2.2.2.2.2.2 = some (pc, .arraylength, len, a, b)) (ho : h.1[o]? = some (.inl (1, k, f))) (hv : Int32.ofNat k = v) : arun X (n + 1) d M pc L (.ref o :: r) h = arun X n d M (pc + 1) L (.int v :: r) h := by
  rw [arun_p hf rfl]
  subst hv
  simp only [aX1, ho]
theorem r_xlen {x k : Nat} {f : Nat → Int32} {v : Int32} (hf : aF pc M.2.2.2.2.2.2.2 = some (pc, .arraylength, len, a, b)) (hX : X x = some (k, f)) (hv : Int32.ofNat k = v) : arun X (n + 1) d M pc L (.retAddr x :: r) h = arun X n d M (pc + 1) L (.int v :: r) h := by
  rw [arun_p hf rfl]
  subst hv
  simp only [aX1, hX]
theorem r_iald {o k : Nat} {j : Int32} {f : Nat → Int32} {v : Int32} (hf : aF pc M.2.2.2.2.2.2.2 = some (pc, .iaload, len, a, b)) (ho : h.1[o]? = some (.inl (0, k, .inl f))) (hj : ¬ (j < 0 ∨ k ≤ j.toNatClampNeg)) (hv : f j.toNatClampNeg = v) : arun X (n + 1) d M pc L (.int j :: .ref o :: r) h = arun X n d M (pc + 1) L (.int v :: r) h := by
  rw [arun_p hf rfl]
  subst hv
  simp only [aX1, aarI, aarJ, ho, if_neg hj, show Nat.beq 0 0 = true from rfl, show (Nat.beq 2 2 || Nat.beq 2 3) = true from rfl, show (Nat.beq 3 2 || Nat.beq 3 3) = true from rfl, cond_true]
theorem r_zald {o k : Nat} {j : Int32} {f : Nat → Int32} {v : Int32} (hf : aF pc M.2.2.2.2.2.2.2 = some (pc, .baload, len, a, b)) (ho : h.1[o]? = some (.inl (2, k, .inl f))) (hj : ¬ (j < 0 ∨ k ≤ j.toNatClampNeg)) (hv : f j.toNatClampNeg = v) : arun X (n + 1) d M pc L (.int j :: .ref o :: r) h = arun X n d M (pc + 1) L (.int v :: r) h := by
  rw [arun_p hf rfl]
  subst hv
  simp only [aX1, aarI, aarJ, ho, if_neg hj, show Nat.beq 0 0 = true from rfl, show (Nat.beq 2 2 || Nat.beq 2 3) = true from rfl, show (Nat.beq 3 2 || Nat.beq 3 3) = true from rfl, cond_true]
theorem r_bald {o k : Nat} {j : Int32} {f : Nat → Int32} {v : Int32} (hf : aF pc M.2.2.2.2.2.2.2 = some (pc, .baload, len, a, b)) (ho : h.1[o]? = some (.inl (3, k, .inl f))) (hj : ¬ (j < 0 ∨ k ≤ j.toNatClampNeg)) (hv : f j.toNatClampNeg = v) : arun X (n + 1) d M pc L (.int j :: .ref o :: r) h = arun X n d M (pc + 1) L (.int v :: r) h := by
  rw [arun_p hf rfl]
  subst hv
  simp only [aX1, aarI, aarJ, ho, if_neg hj, show Nat.beq 0 0 = true from rfl, show (Nat.beq 2 2 || Nat.beq 2 3) = true from rfl, show (Nat.beq 3 2 || Nat.beq 3 3) = true from rfl, cond_true]
theorem r_lald {o k : Nat} {j : Int32} {f : Nat → Int64} {v : Int64} (hf : aF pc M.2.2.2.2.2.2.2 = some (pc, .laload, len, a, b)) (ho : h.1[o]? = some (.inl (1, k, .inr (.inl f)))) (hj : ¬ (j < 0 ∨ k ≤ j.toNatClampNeg)) (hv : f j.toNatClampNeg = v) : arun X (n + 1) d M pc L (.int j :: .ref o :: r) h = arun X n d M (pc + 1) L (.long v :: r) h := by
  rw [arun_p hf rfl]
  subst hv
  simp only [aX1, aarI, aarJ, ho, if_neg hj, show Nat.beq 0 0 = true from rfl, show (Nat.beq 2 2 || Nat.beq 2 3) = true from rfl, show (Nat.beq 3 2 || Nat.beq 3 3) = true from rfl, cond_true]
theorem r_xld {x k : Nat} {j v : Int32} {f : Nat → Int32} (hf : aF pc M.2.2.2.2.2.2.2 = some (pc, .iaload, len, a, b)) (hX : X x = some (k, f)) (hj : ¬ (j < 0 ∨ k ≤ j.toNatClampNeg)) (hv : f j.toNatClampNeg = v) : arun X (n + 1) d M pc L (.int j :: .retAddr x :: r) h = arun X n d M (pc + 1) L (.int v :: r) h := by
  rw [arun_p hf rfl]
  subst hv
  simp only [aX1, hX, if_neg hj]
theorem r_aald4 {o k : Nat} {j : Int32} {f : Nat → Option Nat} {v : Value} (hf : aF pc M.2.2.2.2.2.2.2 = some (pc, .aaload, len, a, b)) (ho : h.1[o]? = some (.inl (4, k, .inr (.inr (.inr (.inr f)))))) (hj : ¬ (j < 0 ∨ k ≤ j.toNatClampNeg)) (hv : arf (f j.toNatClampNeg) = v) : arun X (n + 1) d M pc L (.int j :: .ref o :: r) h = arun X n d M (pc + 1) L (v :: r) h := by
  rw [arun_p hf rfl]
  subst hv
  simp only [aX1, aarR, ho, if_neg hj, show (Nat.beq 4 4 || Nat.beq 4 5) = true from rfl, show (Nat.beq 5 4 || Nat.beq 5 5) = true from rfl, cond_true]
theorem r_aald5 {o k : Nat} {j : Int32} {f : Nat → Option Nat} {v : Value} (hf : aF pc M.2.2.2.2.2.2.2 = some (pc, .aaload, len, a, b)) (ho : h.1[o]? = some (.inl (5, k, .inr (.inr (.inr (.inr f)))))) (hj : ¬ (j < 0 ∨ k ≤ j.toNatClampNeg)) (hv : arf (f j.toNatClampNeg) = v) : arun X (n + 1) d M pc L (.int j :: .ref o :: r) h = arun X n d M (pc + 1) L (v :: r) h := by
  rw [arun_p hf rfl]
  subst hv
  simp only [aX1, aarR, ho, if_neg hj, show (Nat.beq 4 4 || Nat.beq 4 5) = true from rfl, show (Nat.beq 5 4 || Nat.beq 5 5) = true from rfl, cond_true]
theorem r_iast {o k : Nat} {j : Int32} {f : Nat → Int32} {x : Int32} {h' : aH} (hf : aF pc M.2.2.2.2.2.2.2 = some (pc, .iastore, len, a, b)) (ho : h.1[o]? = some (.inl (0, k, .inl f))) (hj : ¬ (j < 0 ∨ k ≤ j.toNatClampNeg)) (hh : (h.1.set o (.inl (0, k, .inl (upd f j.toNatClampNeg x))), h.2) = h') : arun X (n + 1) d M pc L (.int x :: .int j :: .ref o :: r) h = arun X n d M (pc + 1) L r h' := by
  rw [arun_p hf rfl]
  subst hh
  simp only [aX1, aarI, aarJ, ho, if_neg hj, show Nat.beq 0 0 = true from rfl, cond_true]
theorem r_zast {o k : Nat} {j : Int32} {f : Nat → Int32} {x : Int32} {h' : aH} (hf : aF pc M.2.2.2.2.2.2.2 = some (pc, .bastore, len, a, b)) (ho : h.1[o]? = some (.inl (2, k, .inl f))) (hj : ¬ (j < 0 ∨ k ≤ j.toNatClampNeg)) (hh : (h.1.set o (.inl (2, k, .inl (upd f j.toNatClampNeg (x &&& 1)))), h.2) = h') : arun X (n + 1) d M pc L (.int x :: .int j :: .ref o :: r) h = arun X n d M (pc + 1) L r h' := by
  rw [arun_p hf rfl]
  subst hh
  simp only [aX1, aarI, aarJ, ho, if_neg hj, show Nat.beq 0 0 = true from rfl, cond_true]
theorem r_bast {o k : Nat} {j : Int32} {f : Nat → Int32} {x : Int32} {h' : aH} (hf : aF pc M.2.2.2.2.2.2.2 = some (pc, .bastore, len, a, b)) (ho : h.1[o]? = some (.inl (3, k, .inl f))) (hj : ¬ (j < 0 ∨ k ≤ j.toNatClampNeg)) (hh : (h.1.set o (.inl (3, k, .inl (upd f j.toNatClampNeg x.toInt8.toInt32))), h.2) = h') : arun X (n + 1) d M pc L (.int x :: .int j :: .ref o :: r) h = arun X n d M (pc + 1) L r h' := by
  rw [arun_p hf rfl]
  subst hh
  simp only [aX1, aarI, aarJ, ho, if_neg hj, show Nat.beq 0 0 = true from rfl, cond_true]
theorem r_last {o k : Nat} {j : Int32} {f : Nat → Int64} {x : Int64} {h' : aH} (hf : aF pc M.2.2.2.2.2.2.2 = some (pc, .lastore, len, a, b)) (ho : h.1[o]? = some (.inl (1, k, .inr (.inl f)))) (hj : ¬ (j < 0 ∨ k ≤ j.toNatClampNeg)) (hh : (h.1.set o (.inl (1, k, .inr (.inl (vp_updL f j.toNatClampNeg x)))), h.2) = h') : arun X (n + 1) d M pc L (.long x :: .int j :: .ref o :: r) h = arun X n d M (pc + 1) L r h' := by
  rw [arun_p hf rfl]
  subst hh
  simp only [aX1, aarI, aarJ, ho, if_neg hj, show Nat.beq 0 0 = true from rfl, cond_true]
theorem r_aast {o k q : Nat} {j : Int32} {f : Nat → Option Nat} {fs : List Value} {h' : aH} (hf : aF pc M.2.2.2.2.2.2.2 = some (pc, .aastore, len, a, b)) (ho : h.1[o]? = some (.inl (4, k, .inr (.inr (.inr (.inr f)))))) (hq : h.1[q]? = some (.inr (8, fs))) (hj : ¬ (j < 0 ∨ k ≤ j.toNatClampNeg)) (hh : (h.1.set o (.inl (4, k, .inr (.inr (.inr (.inr (va_up f j.toNatClampNeg (some q))))))), h.2) = h') : arun X (n + 1) d M pc L (.ref q :: .int j :: .ref o :: r) h = arun X n d M (pc + 1) L r h' := by
  rw [arun_p hf rfl]
  subst hh
  simp only [aX1, aarR, aobj, ho, hq, if_neg hj, show Nat.beq 4 4 = true from rfl, show Nat.beq 8 8 = true from rfl, cond_true]
theorem r_new {ix o : Nat} {h' : aH} (hf : aF pc M.2.2.2.2.2.2.2 = some (pc, (.new ix), len, a, b)) (ho : h.1.length = o) (hh : (h.1 ++ [.inr (a, (List.range (zN a)).map (fun c => defaultValue (zY a c)))], h.2 + zN a) = h') : arun X (n + 1) d M pc L r h = arun X n d M (pc + 3) L (.ref o :: r) h' := by
  rw [arun_p hf rfl]
  subst ho
  subst hh
  rfl
theorem r_newa {o : Nat} {t : ArrayType} {x : Int32} {h' : aH} (hf : aF pc M.2.2.2.2.2.2.2 = some (pc, (.newarray t), len, a, b)) (hx : ¬ (x < 0 ∨ 100000 < x)) (ho : h.1.length = o) (hh : (h.1 ++ [.inl (a, x.toNatClampNeg, azero a)], h.2 + x.toNatClampNeg) = h') : arun X (n + 1) d M pc L (.int x :: r) h = arun X n d M (pc + 2) L (.ref o :: r) h' := by
  rw [arun_p hf rfl]
  subst ho
  subst hh
  simp only [aX1, tI, if_neg hx]
theorem r_ireturn {x : Int32} (hf : aF pc M.2.2.2.2.2.2.2 = some (pc, .ireturn, len, a, b)) (hr : M.2.2.2.2.1 = some .int) : arun X (n + 1) d M pc L [.int x] h = some (some (.int x), h) := by
  conv => lhs; unfold arun
  simp only [hf]
  simp only [aretI, hr]
theorem r_zreturn {x : Int32} (hf : aF pc M.2.2.2.2.2.2.2 = some (pc, .ireturn, len, a, b)) (hr : M.2.2.2.2.1 = some .boolean) (hx : x = 0 ∨ x = 1) : arun X (n + 1) d M pc L [.int x] h = some (some (.int x), h) := by
  conv => lhs; unfold arun
  simp only [hf]
  simp only [aretI, hr, if_pos hx]
theorem r_lreturn {x : Int64} (hf : aF pc M.2.2.2.2.2.2.2 = some (pc, .lreturn, len, a, b)) (hr : M.2.2.2.2.1 = some .long) : arun X (n + 1) d M pc L [.long x] h = some (some (.long x), h) := by
  conv => lhs; unfold arun
  simp only [hf]
  simp only [hr]
theorem r_areturn {x : Nat} {C : String} (hf : aF pc M.2.2.2.2.2.2.2 = some (pc, .areturn, len, a, b)) (hr : M.2.2.2.2.1 = some (.object C)) : arun X (n + 1) d M pc L [.ref x] h = some (some (.ref x), h) := by
  conv => lhs; unfold arun
  simp only [hf]
  simp only [hr]
theorem r_vreturn  (hf : aF pc M.2.2.2.2.2.2.2 = some (pc, .return_, len, a, b)) (hr : M.2.2.2.2.1 = none) : arun X (n + 1) d M pc L [] h = some (none, h) := by
  conv => lhs; unfold arun
  simp only [hf]
  simp only [hr]
theorem acut_eq {k : Nat} {as : List Value} {f : List Value → List Value → Option aR} (hn : as.length = k) : acut k (as.reverse ++ r) f = f as r := by
  subst hn
  unfold acut
  rw [show Nat.ble as.length (as.reverse ++ r).length = true from by rw [Nat.ble_eq]; simp]
  simp only [cond_true]
  congr 1
  · rw [List.take_append_of_le_length (by simp), List.take_of_length_le (by simp), List.reverse_reverse]
  · rw [List.drop_append_of_le_length (by simp), List.drop_of_length_le (by simp), List.nil_append]
theorem aback_eq {d' : Nat} {callee : Nat → Option aR} {k : List Value → aH → Option aR} {v : Option Value} {h1 : aH} (h8 : Nat.ble (aws r) 8 = true) (hc : callee d' = some (v, h1)) : aback (d' + 1) r callee k = k (v.toList ++ r) h1 := by
  unfold aback
  simp only [h8, cond_true, hc]
theorem r_stat {ix : Nat} {Y : aM} {as st : List Value} {v : Option Value} {h1 : aH} {L1 : aL} (hf : aF pc M.2.2.2.2.2.2.2 = some (pc, (.invokestatic ix), len, a, b)) (ha : (Nat.beq a 1002 || Nat.ble 1010 a) = false) (hY : zmt[a]? = some Y) (hk : Y.2.2.2.2.2.2.1 = 1) (hst : st = as.reverse ++ r) (hn : as.length = Y.2.2.2.2.2.1) (hw : Nat.ble (aws as) Y.2.2.2.1 = true) (h8 : Nat.ble (aws r) 8 = true) (hL : aE Y.2.2.2.1 as = L1) (hc : arun X n d Y 0 L1 [] h = some (v, h1)) : arun X (n + 1) (d + 1) M pc L st h = arun X n (d + 1) M (pc + 3) L (v.toList ++ r) h1 := by
  conv => lhs; unfold arun
  simp only [hf]
  subst hst
  subst hL
  obtain ⟨ha1, ha2⟩ := Bool.or_eq_false_iff.mp ha
  simp only [ha1, ha2, cond_false, hY, show Nat.beq Y.2.2.2.2.2.2.1 1 = true from by rw [hk]; rfl, cond_true, acut_eq hn, aent, hw]
  exact aback_eq h8 hc
theorem r_virt {ix o : Nat} {Y : aM} {as st : List Value} {v : Option Value} {h1 : aH} {L1 : aL} {fs : List Value} (hf : aF pc M.2.2.2.2.2.2.2 = some (pc, (.invokevirtual ix), len, a, b)) (ho : h.1[o]? = some (.inr (Y.1, fs))) (hY : zmt[a]? = some Y) (hk : Y.2.2.2.2.2.2.1 = 0) (hst : st = as.reverse ++ .ref o :: r) (hn : as.length = Y.2.2.2.2.2.1) (hw : Nat.ble (aws (.ref o :: as)) Y.2.2.2.1 = true) (h8 : Nat.ble (aws r) 8 = true) (hL : aE Y.2.2.2.1 (.ref o :: as) = L1) (hc : arun X n d Y 0 L1 [] h = some (v, h1)) : arun X (n + 1) (d + 1) M pc L st h = arun X n (d + 1) M (pc + 3) L (v.toList ++ r) h1 := by
  conv => lhs; unfold arun
  simp only [hf]
  subst hst
  subst hL
  have ha : Nat.beq a 1001 = false := by
    cases q : Nat.beq a 1001 with
    | false => rfl
    | true =>
      have := Nat.eq_of_beq_eq_true q
      subst this
      rw [show zmt[1001]? = none from by decide +kernel] at hY
      cases hY
  simp only [ha, cond_false, hY, show Nat.beq Y.2.2.2.2.2.2.1 0 = true from by rw [hk]; rfl, cond_true, acut_eq hn, aobj, ho, Nat.beq_refl, aent, hw]
  exact aback_eq h8 hc
theorem r_init {ix o : Nat} {Y : aM} {as st : List Value} {v : Option Value} {h1 : aH} {L1 : aL} (hf : aF pc M.2.2.2.2.2.2.2 = some (pc, (.invokespecial ix), len, a, b)) (ha : Nat.beq a 1000 = false) (hY : zmt[a]? = some Y) (hk : Y.2.2.2.2.2.2.1 = 2) (hst : st = as.reverse ++ .ref o :: r) (hn : as.length = Y.2.2.2.2.2.1) (hw : Nat.ble (aws (.ref o :: as)) Y.2.2.2.1 = true) (h8 : Nat.ble (aws r) 8 = true) (hL : aE Y.2.2.2.1 (.ref o :: as) = L1) (hc : arun X n d Y 0 L1 [] h = some (v, h1)) : arun X (n + 1) (d + 1) M pc L st h = arun X n (d + 1) M (pc + 3) L (v.toList ++ r) h1 := by
  conv => lhs; unfold arun
  simp only [hf]
  subst hst
  subst hL
  simp only [ha, cond_false, hY, show Nat.beq Y.2.2.2.2.2.2.1 2 = true from by rw [hk]; rfl, cond_true, acut_eq hn, aent, hw]
  exact aback_eq h8 hc
theorem r_obj {ix o : Nat} (hf : aF pc M.2.2.2.2.2.2.2 = some (pc, (.invokespecial ix), len, a, b)) (ha : a = 1000) (h8 : Nat.ble (aws r) 8 = true) : arun X (n + 1) (d + 1) M pc L (.ref o :: r) h = arun X n (d + 1) M (pc + 3) L r h := by
  conv => lhs; unfold arun
  simp only [hf]
  subst ha
  simp only [show Nat.beq 1000 1000 = true from rfl, cond_true]
  exact aback_eq (v := none) h8 rfl
theorem r_m1010 {ix : Nat} {x y v : Int32} (hf : aF pc M.2.2.2.2.2.2.2 = some (pc, (.invokestatic ix), len, a, b)) (ha : a = 1010) (h8 : Nat.ble (aws r) 8 = true) (hv : (if x < y then y else x) = v) : arun X (n + 1) (d + 1) M pc L (.int y :: .int x :: r) h = arun X n (d + 1) M (pc + 3) L (.int v :: r) h := by
  conv => lhs; unfold arun
  simp only [hf]
  subst ha
  subst hv
  simp only [show Nat.beq 1010 1002 = false from rfl, cond_false, show Nat.ble 1010 1010 = true from rfl, cond_true, amath, tI, tII, tJJ, h8]
theorem r_m1011 {ix : Nat} {x y v : Int32} (hf : aF pc M.2.2.2.2.2.2.2 = some (pc, (.invokestatic ix), len, a, b)) (ha : a = 1011) (h8 : Nat.ble (aws r) 8 = true) (hv : (if y < x then y else x) = v) : arun X (n + 1) (d + 1) M pc L (.int y :: .int x :: r) h = arun X n (d + 1) M (pc + 3) L (.int v :: r) h := by
  conv => lhs; unfold arun
  simp only [hf]
  subst ha
  subst hv
  simp only [show Nat.beq 1011 1002 = false from rfl, cond_false, show Nat.ble 1010 1011 = true from rfl, cond_true, amath, tI, tII, tJJ, h8]
theorem r_m1012 {ix : Nat} {x v : Int32} (hf : aF pc M.2.2.2.2.2.2.2 = some (pc, (.invokestatic ix), len, a, b)) (ha : a = 1012) (h8 : Nat.ble (aws r) 8 = true) (hv : (if 0 ≤ x then x else 0 - x) = v) : arun X (n + 1) (d + 1) M pc L (.int x :: r) h = arun X n (d + 1) M (pc + 3) L (.int v :: r) h := by
  conv => lhs; unfold arun
  simp only [hf]
  subst ha
  subst hv
  simp only [show Nat.beq 1012 1002 = false from rfl, cond_false, show Nat.ble 1010 1012 = true from rfl, cond_true, amath, tI, tII, tJJ, h8]
theorem r_m1013 {ix : Nat} {x y v : Int64} (hf : aF pc M.2.2.2.2.2.2.2 = some (pc, (.invokestatic ix), len, a, b)) (ha : a = 1013) (h8 : Nat.ble (aws r) 8 = true) (hv : (if y < x then x else y) = v) : arun X (n + 1) (d + 1) M pc L (.long y :: .long x :: r) h = arun X n (d + 1) M (pc + 3) L (.long v :: r) h := by
  conv => lhs; unfold arun
  simp only [hf]
  subst ha
  subst hv
  simp only [show Nat.beq 1013 1002 = false from rfl, cond_false, show Nat.ble 1010 1013 = true from rfl, cond_true, amath, tI, tII, tJJ, h8]
theorem r_m1014 {ix : Nat} {x y v : Int64} (hf : aF pc M.2.2.2.2.2.2.2 = some (pc, (.invokestatic ix), len, a, b)) (ha : a = 1014) (h8 : Nat.ble (aws r) 8 = true) (hv : (if y < x then y else x) = v) : arun X (n + 1) (d + 1) M pc L (.long y :: .long x :: r) h = arun X n (d + 1) M (pc + 3) L (.long v :: r) h := by
  conv => lhs; unfold arun
  simp only [hf]
  subst ha
  subst hv
  simp only [show Nat.beq 1014 1002 = false from rfl, cond_false, show Nat.ble 1010 1014 = true from rfl, cond_true, amath, tI, tII, tJJ, h8]
theorem r_cp3 {ix o1 o2 n0 n1 : Nat} {sp dp k : Int32} {f g : Nat → Int32} {h' : aH} (hf : aF pc M.2.2.2.2.2.2.2 = some (pc, (.invokestatic ix), len, a, b)) (ha : a = 1002) (h0 : h.1[o1]? = some (.inl (3, n0, .inl f))) (h1 : h.1[o2]? = some (.inl (3, n1, .inl g))) (hq : ¬ (sp < 0 ∨ dp < 0 ∨ k < 0 ∨ n0 < sp.toNatClampNeg + k.toNatClampNeg ∨ n1 < dp.toNatClampNeg + k.toNatClampNeg)) (hft : afit f sp.toNatClampNeg k.toNatClampNeg = true) (h8 : Nat.ble (aws r) 8 = true) (hh : (h.1.set o2 (.inl (3, n1, .inl (va_cpy f g sp.toNatClampNeg dp.toNatClampNeg k.toNatClampNeg))), h.2) = h') : arun X (n + 1) (d + 1) M pc L (.int k :: .int dp :: .ref o2 :: .int sp :: .ref o1 :: r) h = arun X n (d + 1) M (pc + 3) L r h' := by
  conv => lhs; unfold arun
  simp only [hf]
  subst ha
  subst hh
  simp only [show Nat.beq 1002 1002 = true from rfl, cond_true, acopy, h8, h0, h1, if_neg hq, hft]
theorem r_cp1 {ix o1 o2 n0 n1 : Nat} {sp dp k : Int32} {f g : Nat → Int64} {h' : aH} (hf : aF pc M.2.2.2.2.2.2.2 = some (pc, (.invokestatic ix), len, a, b)) (ha : a = 1002) (h0 : h.1[o1]? = some (.inl (1, n0, .inr (.inl f)))) (h1 : h.1[o2]? = some (.inl (1, n1, .inr (.inl g)))) (hq : ¬ (sp < 0 ∨ dp < 0 ∨ k < 0 ∨ n0 < sp.toNatClampNeg + k.toNatClampNeg ∨ n1 < dp.toNatClampNeg + k.toNatClampNeg)) (h8 : Nat.ble (aws r) 8 = true) (hh : (h.1.set o2 (.inl (1, n1, .inr (.inl (va_cpy f g sp.toNatClampNeg dp.toNatClampNeg k.toNatClampNeg)))), h.2) = h') : arun X (n + 1) (d + 1) M pc L (.int k :: .int dp :: .ref o2 :: .int sp :: .ref o1 :: r) h = arun X n (d + 1) M (pc + 3) L r h' := by
  conv => lhs; unfold arun
  simp only [hf]
  subst ha
  subst hh
  simp only [show Nat.beq 1002 1002 = true from rfl, cond_true, acopy, h8, h0, h1, if_neg hq]
theorem r_cp0 {ix o1 o2 n0 n1 : Nat} {sp dp k : Int32} {f g : Nat → Int32} {h' : aH} (hf : aF pc M.2.2.2.2.2.2.2 = some (pc, (.invokestatic ix), len, a, b)) (ha : a = 1002) (h0 : h.1[o1]? = some (.inl (0, n0, .inl f))) (h1 : h.1[o2]? = some (.inl (0, n1, .inl g))) (hq : ¬ (sp < 0 ∨ dp < 0 ∨ k < 0 ∨ n0 < sp.toNatClampNeg + k.toNatClampNeg ∨ n1 < dp.toNatClampNeg + k.toNatClampNeg)) (h8 : Nat.ble (aws r) 8 = true) (hh : (h.1.set o2 (.inl (0, n1, .inl (va_cpy f g sp.toNatClampNeg dp.toNatClampNeg k.toNatClampNeg))), h.2) = h') : arun X (n + 1) (d + 1) M pc L (.int k :: .int dp :: .ref o2 :: .int sp :: .ref o1 :: r) h = arun X n (d + 1) M (pc + 3) L r h' := by
  conv => lhs; unfold arun
  simp only [hf]
  subst ha
  subst hh
  simp only [show Nat.beq 1002 1002 = true from rfl, cond_true, acopy, h8, h0, h1, if_neg hq]
theorem r_aast5 {o k q n' : Nat} {j : Int32} {f : Nat → Option Nat} {g : Nat → Int32} {h' : aH} (hf : aF pc M.2.2.2.2.2.2.2 = some (pc, .aastore, len, a, b)) (ho : h.1[o]? = some (.inl (5, k, .inr (.inr (.inr (.inr f)))))) (hq : h.1[q]? = some (.inl (0, n', .inl g))) (hj : ¬ (j < 0 ∨ k ≤ j.toNatClampNeg)) (hh : (h.1.set o (.inl (5, k, .inr (.inr (.inr (.inr (va_up f j.toNatClampNeg (some q))))))), h.2) = h') : arun X (n + 1) d M pc L (.ref q :: .int j :: .ref o :: r) h = arun X n d M (pc + 1) L r h' := by
  rw [arun_p hf rfl]
  subst hh
  simp only [aX1, aarR, aarI, ho, hq, show Nat.beq 5 4 = false from rfl, show Nat.beq 5 5 = true from rfl, Nat.beq_refl, cond_false, cond_true, if_neg hj]
theorem r_ix {ix : Nat} {c v : Int32} (hf : aF pc M.2.2.2.2.2.2.2 = some (pc, (.invokevirtual ix), len, a, b)) (ha : a = 1001) (h8 : Nat.ble (aws r) 8 = true) (hv : zIx c = v) : arun X (n + 1) (d + 5) M pc L (.int c :: .retAddr 2 :: r) h = arun X n (d + 5) M (pc + 3) L (.int v :: r) h := by
  conv => lhs; unfold arun
  simp only [hf]
  subst ha
  subst hv
  simp only [show Nat.beq 1001 1001 = true from rfl, cond_true, aixof, h8]
end RZ
end
section
theorem asw_t {x : Int32} {k : Int → Option aR} {d lo o : Int} {r : List Int} (h : x = Int32.ofInt lo) : asw x k d lo (o :: r) = k o := by
  unfold asw
  rw [if_pos h]
theorem asw_f {x : Int32} {k : Int → Option aR} {d lo o : Int} {r : List Int} (h : ¬ x = Int32.ofInt lo) : asw x k d lo (o :: r) = asw x k d (lo + 1) r := by
  conv => lhs; unfold asw
  rw [if_neg h]
theorem alw_t {x : Int32} {k : Int → Option aR} {d : Int} {o : Int × Int} {r : List (Int × Int)} (h : x = Int32.ofInt o.1) : alw x k d (o :: r) = k o.2 := by
  unfold alw
  rw [if_pos h]
theorem alw_f {x : Int32} {k : Int → Option aR} {d : Int} {o : Int × Int} {r : List (Int × Int)} (h : ¬ x = Int32.ofInt o.1) : alw x k d (o :: r) = alw x k d r := by
  conv => lhs; unfold alw
  rw [if_neg h]
end
section
-- ===== the skeleton's own rows (the kit's text, given for pasting) =====
def R_law : String := "AcresPaidLaw"
def lw_Q (_ : Array Value) (s : State) (o : Outcome) (t : State) : Prop := o = .returned (some (.int 1)) ∧ Framed s o t [] 600000 7302250
def lw_Z (below : List Frame) (a : Array Value) (s : State) : State → Prop := fun t => ∃ o, t.status = .running ∧ Ended t below o ∧ lw_Q a s o t
theorem lw_ret {p : Program} {l : Launch} {e : Env} {s : State} {m : MethodId} {below : List Frame} {meth : Method} {c : Code} {b : Nat} (hx : p.tables.exec = Jvm.exec) (hb : c.code = code) (hr : meth.sig.returnType = ret) (hlocks : meth.locks = false) {pc : Nat} {H : Heap} {ls : Array Slot} (hdg : decode code pc = .ok (.ireturn, 1)) : W p l e room_1 s m #[Value.ref b] below meth c H [] 600000 7302250 (lw_Z below #[Value.ref b] s) (F0 m pc ls [.int 1]) := by
  intro T hT X
  obtain ⟨fs, hret, hrun, hended, hW, hframe⟩ := X.leave (v := some (.int 1)) (hlocks := hlocks) (fun h => by rw [hr] at h; cases h)
  have hmeth' : T.vm.method? m = some meth := X.method'
  refine ⟨T.setFrames fs, ?_, .returned (some (.int 1)), hrun, hended, rfl, ⟨_, rfl⟩, hW, hframe⟩
  jvm_step X.here [X.here.top, hx, hb, hdg, hmeth', hr, ret, narrow_b1]
  (try refine ⟨rfl, ?_⟩); (try refine ⟨rfl, ?_⟩)
  first | (intro acts; rw [hret _ acts rfl rfl rfl]) | rw [hret _ _ rfl rfl rfl]
  exact Steps.refl _
def lw_At (p : Program) (s : State) (m : MethodId) (meth : Method) (c : Code) (b L : Nat) (xs : Nat → Int32) : Prop :=
  p.tables.exec = Jvm.exec ∧ c.code = code ∧ meth.sig.returnType = ret ∧ c.maxLocals = 4 ∧ s.vm.findClass R_law = some m.cls ∧ (∀ w ∈ lw_tbl, w.before #[Value.ref b] s = true) ∧ va_X b L xs s s.heap ∧ b < s.heap.size ∧ meth.locks = false ∧ (Jvm.Cond.and given_1 narrow_1).before #[Value.ref b] s = true
end
section
-- ===== the law's entry: what is known there =====
def zab (j : Nat) : Int32 := match j with
  | 0 => -1
  | 1 => 0
  | 2 => 1
  | 3 => 1
  | 4 => 0
  | 5 => 4
  | 6 => 0
  | _ => 2
def zX (L : Nat) (xs : Nat → Int32) : aX := fun x => match x with
  | 0 => some (8, zab)
  | 1 => some (L, xs)
  | _ => none
def zST : Term := .static "AcresPaid" "ABOVE" "[I"
def zLW : Bool := lw_tbl.any (fun w => decide (w = Cond.arrayOver (.object "AcresPaid$Season"))) && lw_tbl.any (fun w => decide (w = Cond.arrayOver (.array .int))) && lw_tbl.any (fun w => decide (w = Cond.laysStatic "AcresPaid" "ABOVE" "[I")) && lw_tbl.any (fun w => decide (w = Cond.initialized "AcresPaid")) && lw_tbl.any (fun w => decide (w = Cond.fieldLinkNest "AcresPaid$Register" 49 "AcresPaid" "ABOVE" "[I" "AcresPaid"))
theorem zLW_ok : zLW = true := by decide +kernel
theorem zany {w : Cond} (h : lw_tbl.any (fun v => decide (v = w)) = true) : w ∈ lw_tbl := by
  obtain ⟨v, m, g⟩ := List.any_eq_true.mp h
  simp only [decide_eq_true_eq] at g
  subst g
  exact m
def zSL : Term := .string "AcresPaid$Texts" 114
theorem zLS_ok : lw_tbl.any (fun w => decide (w = Cond.stringRef "AcresPaid$Texts" 114 "yksfgctlepmjb")) = true := by decide +kernel
theorem zCS_ok : lw_tbl.any (fun w => decide (w = Cond.laysStatic "java/lang/String" "COMPACT_STRINGS" "Z")) = true := by decide +kernel
theorem zSI_ok : lw_tbl.any (fun w => decide (w = Cond.initialized "java/lang/String")) = true := by decide +kernel
theorem aKX_start {s : State} {args : Array Value} {b L : Nat} {xs : Nat → Int32} (hts : ∀ w ∈ lw_tbl, w.before args s = true) (hX : va_X b L xs s s.heap) (hbl : b < s.heap.size) (hg : (Jvm.Cond.and given_1 narrow_1).before args s = true) :
    ∃ (D : va_G) (cA : Nat → ClassId) (ea : Nat → Nat), ea 1 = b ∧ aKX D cA ea s.heap.size (zX L xs) s := by
  have hz : ∀ w ∈ zW, w.before args s = true := fun w h => hts w (zW_in w h)
  have hs := flat_of_before _ hg
  have hAn : ∀ a : Nat, a < s.heap.size → ¬ s.heap.size ≤ a := fun a h => Nat.not_le.mpr h
  have h1 : ∀ c : Nat, ∃ q : ClassId × (Nat → Nat), c < 13 → u_Kn s (zCN c) (zT c) (zN c) q.1 q.2 := by
    intro c
    by_cases hc : c < 13
    · obtain ⟨a, f, e⟩ := u_known hz (z_uws hc) (hz _ (z_ini hc).1)
      exact ⟨(a, f), fun _ => e⟩
    · obtain ⟨a, f, e⟩ := u_known hz (z_uws (show 0 < 13 by decide)) (hz _ (z_ini (show 0 < 13 by decide)).1)
      exact ⟨(a, f), fun h => absurd h hc⟩
  obtain ⟨f, hf⟩ := Classical.axiomOfChoice h1
  have hl := zLW_ok
  unfold zLW at hl
  obtain ⟨hl, l5⟩ := (Bool.and_eq_true _ _).mp hl
  obtain ⟨hl, l4⟩ := (Bool.and_eq_true _ _).mp hl
  obtain ⟨hl, l3⟩ := (Bool.and_eq_true _ _).mp hl
  obtain ⟨l1, l2⟩ := (Bool.and_eq_true _ _).mp hl
  have ho : (Cond.arrayOver (.object "AcresPaid$Season")).before args s = true := hts _ (zany l1)
  have hA : (Cond.arrayOver (.array .int)).before args s = true := hts _ (zany l2)
  obtain ⟨a0, k0, m0, p0, q0, r0⟩ := Cond.arrayClass_spec (hz _ (z_arr (a := 0) rfl))
  obtain ⟨a1, k1, m1, p1, q1, r1⟩ := Cond.arrayClass_spec (hz _ (z_arr (a := 1) rfl))
  obtain ⟨a2, k2, m2, p2, q2, r2⟩ := Cond.arrayClass_spec (hz _ (z_arr (a := 2) rfl))
  obtain ⟨a3, k3, m3, p3, q3, r3⟩ := Cond.arrayClass_spec (hz _ (z_arr (a := 3) rfl))
  obtain ⟨m4, a4, k4, p4, -, q4, r4, t4⟩ := Cond.arrayOver_spec ho
  obtain ⟨m5, a5, k5, p5, -, q5, r5, t5⟩ := arrayOverA_spec hA
  have hlen : (Term.length zST).eval args s none [] s = some (.int (Int32.ofNat 8)) := va_eqt (hs (Cond.eq (.length zST) (.int 8)) (by decide +kernel))
  have hel : ∀ j : Nat, j < 8 → (Term.elem zST (.int (Int32.ofNat j))).eval args s none [] s = some (.int (zab j)) := by
    intro j hj
    match j, hj with
    | 0, _ => exact va_eqt (hs (Cond.eq (.elem zST (.int 0)) (.int (-1))) (by decide +kernel))
    | 1, _ => exact va_eqt (hs (Cond.eq (.elem zST (.int 1)) (.int 0)) (by decide +kernel))
    | 2, _ => exact va_eqt (hs (Cond.eq (.elem zST (.int 2)) (.int 1)) (by decide +kernel))
    | 3, _ => exact va_eqt (hs (Cond.eq (.elem zST (.int 3)) (.int 1)) (by decide +kernel))
    | 4, _ => exact va_eqt (hs (Cond.eq (.elem zST (.int 4)) (.int 0)) (by decide +kernel))
    | 5, _ => exact va_eqt (hs (Cond.eq (.elem zST (.int 5)) (.int 4)) (by decide +kernel))
    | 6, _ => exact va_eqt (hs (Cond.eq (.elem zST (.int 6)) (.int 0)) (by decide +kernel))
    | 7, _ => exact va_eqt (hs (Cond.eq (.elem zST (.int 7)) (.int 2)) (by decide +kernel))
  obtain ⟨t, ht, hT⟩ := va_Tof (A := fun q => s.heap.size ≤ q) (N := 8) (f := fun j => .int (zab j)) (by decide) (hs (Cond.arrayOf zST .int) (by decide +kernel)) hlen hel hAn
  have hel2 : ∀ j : Nat, j < 13 → (Cond.eq (.elem (.field zSL "java/lang/String" "value" "[B") (.int (Int32.ofNat j))) (.int (zNS.getD j 0))).before args s = true := by
    intro j hj
    match j, hj with
    | 0, _ => exact hs (Cond.eq (.elem (.field zSL "java/lang/String" "value" "[B") (.int 0)) (.int 121)) (by decide +kernel)
    | 1, _ => exact hs (Cond.eq (.elem (.field zSL "java/lang/String" "value" "[B") (.int 1)) (.int 107)) (by decide +kernel)
    | 2, _ => exact hs (Cond.eq (.elem (.field zSL "java/lang/String" "value" "[B") (.int 2)) (.int 115)) (by decide +kernel)
    | 3, _ => exact hs (Cond.eq (.elem (.field zSL "java/lang/String" "value" "[B") (.int 3)) (.int 102)) (by decide +kernel)
    | 4, _ => exact hs (Cond.eq (.elem (.field zSL "java/lang/String" "value" "[B") (.int 4)) (.int 103)) (by decide +kernel)
    | 5, _ => exact hs (Cond.eq (.elem (.field zSL "java/lang/String" "value" "[B") (.int 5)) (.int 99)) (by decide +kernel)
    | 6, _ => exact hs (Cond.eq (.elem (.field zSL "java/lang/String" "value" "[B") (.int 6)) (.int 116)) (by decide +kernel)
    | 7, _ => exact hs (Cond.eq (.elem (.field zSL "java/lang/String" "value" "[B") (.int 7)) (.int 108)) (by decide +kernel)
    | 8, _ => exact hs (Cond.eq (.elem (.field zSL "java/lang/String" "value" "[B") (.int 8)) (.int 101)) (by decide +kernel)
    | 9, _ => exact hs (Cond.eq (.elem (.field zSL "java/lang/String" "value" "[B") (.int 9)) (.int 112)) (by decide +kernel)
    | 10, _ => exact hs (Cond.eq (.elem (.field zSL "java/lang/String" "value" "[B") (.int 10)) (.int 109)) (by decide +kernel)
    | 11, _ => exact hs (Cond.eq (.elem (.field zSL "java/lang/String" "value" "[B") (.int 11)) (.int 106)) (by decide +kernel)
    | 12, _ => exact hs (Cond.eq (.elem (.field zSL "java/lang/String" "value" "[B") (.int 12)) (.int 98)) (by decide +kernel)
  have hexS := hs (Cond.exactly zSL "java/lang/String") (by decide +kernel)
  obtain ⟨sa, sc, C, ks, e1, e2, e3, e4, e5, e6, -⟩ := Cond.exactly_spec (args := args) (first := s) (o := none) (s := s) (idx := []) (t := zSL) (cls := "java/lang/String") hexS
  have hexS' : (Cond.exactly (.arg 0) "java/lang/String").before #[.ref sa] s = true := by
    have h := hexS
    simp only [Cond.before, Cond.holds, Cond.value, e1] at h
    simp only [Cond.before, Cond.holds, Cond.value, Term.eval]
    exact h
  have hco := va_eqt (hs (Cond.eq (.field zSL "java/lang/String" "coder" "B") (.int 0)) (by decide +kernel))
  have hco' : (Term.field (.arg 0) "java/lang/String" "coder" "B").eval #[.ref sa] s none [] s = some (.int 0) := (va_fe (t := .arg 0) (args := #[.ref sa]) rfl).trans ((va_fe e1).symm.trans hco)
  have hle := va_eqt (hs (Cond.eq (.length (.field zSL "java/lang/String" "value" "[B")) (.int 13)) (by decide +kernel))
  obtain ⟨sd, hsd, Dc, d1, d2, d3, d4, d5, d6, d7⟩ := va_Tof (A := fun q => s.heap.size ≤ q) (N := 13) (f := fun j => .int (zNS.getD j 0)) (by decide) (hs (Cond.arrayOf (.field zSL "java/lang/String" "value" "[B") .byte) (by decide +kernel)) hle (fun j hj => va_eqt (hel2 j hj)) hAn
  have hva' : (Term.field (.arg 0) "java/lang/String" "value" "[B").eval #[.ref sa] s none [] s = some (.ref sd) := (va_fe (t := .arg 0) (args := #[.ref sa]) rfl).trans ((va_fe e1).symm.trans hsd)
  have hsz : Dc.slots.size = 13 := by
    obtain ⟨t', cell', w1, w2, w3⟩ := Term.length_spec hle
    cases hsd.symm.trans w1
    obtain ⟨w4, -⟩ := State.arrayAt?_spec w2
    cases d1.symm.trans w4
    have hsm : Dc.slots.size < 2 ^ 31 := Cond.small_of_lengthOf w1 w2 (by simp only [Cond.before, Cond.holds, Cond.value, hle]; rfl)
    have h1 : (Dc.slots.size.toInt32).toInt = 13 := by rw [d5]; decide
    have h2 : (Dc.slots.size.toInt32).toInt = Dc.slots.size := Int32.toInt_ofNat_of_lt hsm
    omega
  have hcs : va_Z "java/lang/String" "COMPACT_STRINGS" "Z" (.int 1) (fun q => s.heap.size ≤ q) s s.heap := va_Zof (hts _ (zany zCS_ok)) (hts _ (zany zSI_ok)) (va_eqt (hs (Cond.eq (.static "java/lang/String" "COMPACT_STRINGS" "Z") (.int 1)) (by decide +kernel))) hAn
  have hS1 : aST sa (fun q => s.heap.size ≤ q) s s.heap := ⟨s, sd, C, Dc, Vm.Alike.refl _, ⟨e3, e3, hAn _ (Array.getElem?_eq_some_iff.mp e3).1⟩, ⟨d1, d1, d7⟩, hexS', hco', hva', d2, d3, hsz, d6, hcs⟩
  have hR1 : vk_R "AcresPaid$Texts" 114 "yksfgctlepmjb" sa s := vk_R.of (hts _ (zany zLS_ok)) e1
  have hZ : va_Z "AcresPaid" "ABOVE" "[I" (.ref t) (fun q => s.heap.size ≤ q) s s.heap := va_Zref (hts _ (zany l3)) (hts _ (zany l4)) ht hAn
  refine ⟨(fun c => (f c).1, fun c => (f c).2), fun i => match i with
    | 0 => a0
    | 1 => a1
    | 2 => a2
    | 3 => a3
    | 4 => a4
    | _ => a5, fun x => match x with
    | 0 => t
    | 1 => b
    | _ => sa, rfl, ⟨?_, ?_⟩, ?_, hZ, ?_, ?_, va_AO.of ho, hA, hR1, hS1⟩
  · intro c q hq
    have hc : c < 13 := by
      have := (List.getElem?_eq_some_iff.mp hq).1
      simpa [zCl] using this
    rw [zCl_get hc] at hq
    cases hq
    exact hf c hc
  · intro k q hq
    match k, hq with
    | 0, hq => cases hq; exact ⟨fun n z => ⟨(fun k h => by cases h), k0, q0, m0, r0⟩, p0⟩
    | 1, hq => cases hq; exact ⟨fun n z => ⟨(fun k h => by cases h), k1, q1, m1, r1⟩, p1⟩
    | 2, hq => cases hq; exact ⟨fun n z => ⟨(fun k h => by cases h), k2, q2, m2, r2⟩, p2⟩
    | 3, hq => cases hq; exact ⟨fun n z => ⟨(fun k h => by cases h), k3, q3, m3, r3⟩, p3⟩
    | 4, hq => cases hq; exact ⟨fun n z => ⟨(fun k h => by cases h), k4, q4, m4, r4⟩, k4, m4, q4, r4, p4, t4⟩
    | 5, hq => cases hq; exact ⟨fun n z => ⟨(fun k h => by cases h), k5, q5, m5, r5⟩, t5⟩
    | k + 6, hq => simp at hq
  · intro x n g hx
    match x, hx with
    | 0, hx => cases hx; exact hT
    | 1, hx =>
      cases hx
      obtain ⟨scr, h1, h2, h3, h4, h5⟩ := hX
      exact ⟨scr, h1, h2, h3, by omega, by rw [h4], h5, hAn _ hbl⟩
    | x + 2, hx => cases hx
  · intro q hq hn ha
    have h1 := List.all_eq_true.mp zmcp_ok q hq
    unfold zmcpW at h1
    rw [if_neg hn] at h1
    rcases (Bool.or_eq_true _ _).mp h1 with h2 | h2
    · exfalso
      simp only [Bool.or_eq_true, Nat.beq_eq] at h2
      omega
    · exact va_Nw.of rfl (hts _ (List.mem_of_getElem? (of_decide_eq_true h2)))
  · exact va_Nw.of rfl (hts _ (zany l5))
theorem aMet_X {l : Launch} {D : va_G} {cA : Nat → ClassId} {ea : Nat → Nat} {b0 : Nat} {X X' : aX} {d : Nat} {Y : aM} {as : List Value} {h : aH} {v : Option Value} {h' : aH} (hX : ∀ x q, X x = some q → X' x = some q) (hM : aMet l D cA ea b0 X d Y as h v h') : aMet l D cA ea b0 X' d Y as h v h' := by
  intro p e h1 h2 h3 s m args below hf happ hP hK
  exact hM p e h1 h2 h3 s m args below hf happ ⟨hP.1, hP.2.1, hP.2.2.1, hP.2.2.2.1, fun x n f g => hP.2.2.2.2.1 x n f (hX _ _ g), hP.2.2.2.2.2⟩ hK
end

-- ===== Math's methods, Object's constructor; the run =====
theorem zob_c : Cond.code objectInit ⟨#[0xb1]⟩ 1 none ∈ zW := zW_of (zsub_1 (List.mem_of_getElem? (show tables_1_1[30]? = some (.code objectInit ⟨#[0xb1]⟩ 1 none) from rfl))) rfl
theorem zob_i : Cond.instanceMethod objectInit ∈ zW := zTab_mem (p := 148) (by decide +kernel)
theorem z_linkM {o ix a : Nat} {y : MethodName} (h : zmcp.any (fun q => Nat.beq q.1 o && Nat.beq q.2.1 ix && Nat.beq q.2.2.1 a) = true) (ha : a = 1000 ∨ 1010 ≤ a) (hY : zyn a = y) : Cond.methodLink (zCN o) ix y ∈ zW := by
  obtain ⟨q, hq, hh⟩ := List.any_eq_true.mp h
  simp only [Bool.and_eq_true, Nat.beq_eq] at hh
  obtain ⟨⟨rfl, rfl⟩, rfl⟩ := hh
  subst hY
  have h1 := List.all_eq_true.mp zmcp_ok q hq
  unfold zmcpW at h1
  rcases (Bool.or_eq_true _ _).mp h1 with h2 | h2
  · exfalso
    simp only [Bool.or_eq_true, Nat.beq_eq] at h2
    omega
  · have hn : q.2.2.2.1 = 0 := by
      have h3 : zmcp.all (fun q => Nat.beq q.2.2.2.1 0 || Nat.ble q.2.2.1 999) = true := by decide +kernel
      have h4 := List.all_eq_true.mp h3 q hq
      rcases (Bool.or_eq_true _ _).mp h4 with h5 | h5
      · exact Nat.eq_of_beq_eq_true h5
      · have := Nat.le_of_ble_eq_true h5
        omega
    rw [if_pos hn] at h2
    exact zTab_mem h2
theorem zcpy_ok : zmcp.all (fun q => !(Nat.beq q.2.2.1 1002) || (Nat.beq q.2.2.2.1 0 && zTab (q.2.2.2.2 + 119) (.methodLink (zCN q.1) q.2.1 arraycopyName))) = true := by decide +kernel
theorem z_linkC {o ix : Nat} (h : zmcp.any (fun q => Nat.beq q.1 o && Nat.beq q.2.1 ix && Nat.beq q.2.2.1 1002) = true) : Cond.methodLink (zCN o) ix arraycopyName ∈ zW := by
  obtain ⟨q, hq, hh⟩ := List.any_eq_true.mp h
  simp only [Bool.and_eq_true, Nat.beq_eq] at hh
  obtain ⟨⟨rfl, rfl⟩, h3⟩ := hh
  have h1 := List.all_eq_true.mp zcpy_ok q hq
  simp only [h3, show Nat.beq 1002 1002 = true from rfl, Bool.not_true, Bool.false_or, Bool.and_eq_true] at h1
  exact zTab_mem h1.2
def zany2 (w : Cond) : Bool := lw_tbl.any (fun v => decide (v = w)) && goodWord w
theorem zany2_in {w : Cond} (h : zany2 w = true) : w ∈ zW := by
  obtain ⟨h1, h2⟩ := (Bool.and_eq_true _ _).mp h
  obtain ⟨v, m, g⟩ := List.any_eq_true.mp h1
  simp only [decide_eq_true_eq] at g
  subst g
  exact zW_of m h2
theorem zcp_n : Cond.native arraycopyName ∈ zW := zany2_in (by decide +kernel)
theorem zcp_s : Cond.static arraycopyName ∈ zW := zany2_in (by decide +kernel)
theorem zcp_i : Cond.initialized "java/lang/System" ∈ zW := zany2_in (by decide +kernel)
theorem s_obj {Γ : aGm} {pc ix o d : Nat} {L : aL} {r : List Value} {h h' : aH} (hc : zmcp.any (fun q => Nat.beq q.1 (aown Γ) && Nat.beq q.2.1 ix && Nat.beq q.2.2.1 1000) = true) (hr8 : aws r ≤ 8) (hR : aRm Γ (d + 1) h') (C : aCF Γ) (hd : aDC Γ pc (.invokespecial ix) 3) (k : aSW Γ (pc + 3) L r h) : aSW Γ pc L (.ref o :: r) h := by
  obtain ⟨p, l, e, R, s, m, args, below, meth, c, Q, cc, nL, b0, n0, u0, own, kind, D, cA, ea, X⟩ := Γ
  intro H locs ls cells slots e1 e2 hP hS hl
  obtain ⟨hx, hb, hml, hown, hts, hKX, hsz, hki⟩ := C
  obtain ⟨⟨hR1, hR2⟩, hR3, hR4⟩ := hR
  have hlk := z_linkM (y := objectInit) hc (Or.inl rfl) (by decide +kernel)
  refine W.objInit hx hb hown (hts _ hlk) (hts _ zob_i) (hts _ zob_c) rfl (by rw [hml]; exact hl.2.1) rfl hd (by omega) ?_ (k H locs ls cells slots e1 e2 hP hS hl)
  have := lv_room (m := m) (pc := pc) (ls := ls) (rest := Value.ref (b0 + o) :: r.map (acv b0 ea)) (st := r.map (acv b0 ea)) (by rw [aws_map]; exact hr8)
  show 2 * (F0 m pc ls (Value.ref (b0 + o) :: r.map (acv b0 ea))).monitorRoom + _ + 12 ≤ R.locals
  omega
section MZ
variable {Γ : aGm} {pc ix d : Nat} {L : aL} {r : List Value} {h h' : aH}
theorem s_m1010 {x y : Int32} (hc : zmcp.any (fun q => Nat.beq q.1 (aown Γ) && Nat.beq q.2.1 ix && Nat.beq q.2.2.1 1010) = true) (hr8 : aws r ≤ 8) (g2 : h.1.length ≤ h'.1.length ∧ h.2 ≤ h'.2) (hR : aRm Γ (d + 1) h') (C : aCF Γ) (hd : aDC Γ pc (.invokestatic ix) 3) (k : aSW Γ (pc + 3) L (.int (if x < y then y else x) :: r) h) : aSW Γ pc L (.int y :: .int x :: r) h := by
  obtain ⟨p, l, e, R, s, m, args, below, meth, c, Q, cc, nL, b0, n0, u0, own, kind, D, cA, ea, X⟩ := Γ
  intro H locs ls cells slots e1 e2 hP hS hl
  obtain ⟨hx, hb, hml, hown, hts, hKX, hsz, hki⟩ := C
  obtain ⟨⟨hR1, hR2⟩, hR3, hR4⟩ := hR
  have hlk := z_linkM (y := Lib.Math.max.name) hc (Or.inr (by decide)) (by decide +kernel)
  exact va_mmax hx hb (hml.trans hl.2.1.symm) hown (hts _ hlk) (hts _ zms_1010) (hts _ zmi) (hts _ zmc_1010) (by omega) (by rw [aws_map]; omega) (by omega) (by omega) hd (k H locs ls cells slots e1 e2 hP hS hl)
theorem s_m1011 {x y : Int32} (hc : zmcp.any (fun q => Nat.beq q.1 (aown Γ) && Nat.beq q.2.1 ix && Nat.beq q.2.2.1 1011) = true) (hr8 : aws r ≤ 8) (g2 : h.1.length ≤ h'.1.length ∧ h.2 ≤ h'.2) (hR : aRm Γ (d + 1) h') (C : aCF Γ) (hd : aDC Γ pc (.invokestatic ix) 3) (k : aSW Γ (pc + 3) L (.int (if y < x then y else x) :: r) h) : aSW Γ pc L (.int y :: .int x :: r) h := by
  obtain ⟨p, l, e, R, s, m, args, below, meth, c, Q, cc, nL, b0, n0, u0, own, kind, D, cA, ea, X⟩ := Γ
  intro H locs ls cells slots e1 e2 hP hS hl
  obtain ⟨hx, hb, hml, hown, hts, hKX, hsz, hki⟩ := C
  obtain ⟨⟨hR1, hR2⟩, hR3, hR4⟩ := hR
  have hlk := z_linkM (y := Lib.Math.min.name) hc (Or.inr (by decide)) (by decide +kernel)
  exact va_mmin hx hb (hml.trans hl.2.1.symm) hown (hts _ hlk) (hts _ zms_1011) (hts _ zmi) (hts _ zmc_1011) (by omega) (by rw [aws_map]; omega) (by omega) (by omega) hd (k H locs ls cells slots e1 e2 hP hS hl)
theorem s_m1012 {x : Int32} (hc : zmcp.any (fun q => Nat.beq q.1 (aown Γ) && Nat.beq q.2.1 ix && Nat.beq q.2.2.1 1012) = true) (hr8 : aws r ≤ 8) (g2 : h.1.length ≤ h'.1.length ∧ h.2 ≤ h'.2) (hR : aRm Γ (d + 1) h') (C : aCF Γ) (hd : aDC Γ pc (.invokestatic ix) 3) (k : aSW Γ (pc + 3) L (.int (if 0 ≤ x then x else 0 - x) :: r) h) : aSW Γ pc L (.int x :: r) h := by
  obtain ⟨p, l, e, R, s, m, args, below, meth, c, Q, cc, nL, b0, n0, u0, own, kind, D, cA, ea, X⟩ := Γ
  intro H locs ls cells slots e1 e2 hP hS hl
  obtain ⟨hx, hb, hml, hown, hts, hKX, hsz, hki⟩ := C
  obtain ⟨⟨hR1, hR2⟩, hR3, hR4⟩ := hR
  have hlk := z_linkM (y := Lib.Math.abs.name) hc (Or.inr (by decide)) (by decide +kernel)
  exact va_mabs hx hb (hml.trans hl.2.1.symm) hown (hts _ hlk) (hts _ zms_1012) (hts _ zmi) (hts _ zmc_1012) (by omega) (by rw [aws_map]; omega) (by omega) (by omega) hd (k H locs ls cells slots e1 e2 hP hS hl)
theorem s_m1013 {x y : Int64} (hc : zmcp.any (fun q => Nat.beq q.1 (aown Γ) && Nat.beq q.2.1 ix && Nat.beq q.2.2.1 1013) = true) (hr8 : aws r ≤ 8) (g2 : h.1.length ≤ h'.1.length ∧ h.2 ≤ h'.2) (hR : aRm Γ (d + 1) h') (C : aCF Γ) (hd : aDC Γ pc (.invokestatic ix) 3) (k : aSW Γ (pc + 3) L (.long (if y < x then x else y) :: r) h) : aSW Γ pc L (.long y :: .long x :: r) h := by
  obtain ⟨p, l, e, R, s, m, args, below, meth, c, Q, cc, nL, b0, n0, u0, own, kind, D, cA, ea, X⟩ := Γ
  intro H locs ls cells slots e1 e2 hP hS hl
  obtain ⟨hx, hb, hml, hown, hts, hKX, hsz, hki⟩ := C
  obtain ⟨⟨hR1, hR2⟩, hR3, hR4⟩ := hR
  have hlk := z_linkM (y := Lib.MathLoose.max_long.x) hc (Or.inr (by decide)) (by decide +kernel)
  exact va_mmax_long hx hb (hml.trans hl.2.1.symm) hown (hts _ hlk) (hts _ zms_1013) (hts _ zmi) (hts _ zmc_1013) (by omega) (by rw [aws_map]; omega) (by omega) (by omega) hd (k H locs ls cells slots e1 e2 hP hS hl)
theorem s_m1014 {x y : Int64} (hc : zmcp.any (fun q => Nat.beq q.1 (aown Γ) && Nat.beq q.2.1 ix && Nat.beq q.2.2.1 1014) = true) (hr8 : aws r ≤ 8) (g2 : h.1.length ≤ h'.1.length ∧ h.2 ≤ h'.2) (hR : aRm Γ (d + 1) h') (C : aCF Γ) (hd : aDC Γ pc (.invokestatic ix) 3) (k : aSW Γ (pc + 3) L (.long (if y < x then y else x) :: r) h) : aSW Γ pc L (.long y :: .long x :: r) h := by
  obtain ⟨p, l, e, R, s, m, args, below, meth, c, Q, cc, nL, b0, n0, u0, own, kind, D, cA, ea, X⟩ := Γ
  intro H locs ls cells slots e1 e2 hP hS hl
  obtain ⟨hx, hb, hml, hown, hts, hKX, hsz, hki⟩ := C
  obtain ⟨⟨hR1, hR2⟩, hR3, hR4⟩ := hR
  have hlk := z_linkM (y := Lib.MathLoose.min_long.x) hc (Or.inr (by decide)) (by decide +kernel)
  exact va_mmin_long hx hb (hml.trans hl.2.1.symm) hown (hts _ hlk) (hts _ zms_1014) (hts _ zmi) (hts _ zmc_1014) (by omega) (by rw [aws_map]; omega) (by omega) (by omega) hd (k H locs ls cells slots e1 e2 hP hS hl)
theorem s_cp3 {a a0 n0' n1 : Nat} {sp dp n : Int32} {f g : Nat → Int32} (h0 : h.1[a0]? = some (.inl (3, n0', .inl f))) (h1 : h.1[a]? = some (.inl (3, n1, .inl g))) (hq : ¬ (sp < 0 ∨ dp < 0 ∨ n < 0 ∨ n0' < sp.toNatClampNeg + n.toNatClampNeg ∨ n1 < dp.toNatClampNeg + n.toNatClampNeg)) (hf : afit f sp.toNatClampNeg n.toNatClampNeg = true) (hc : zmcp.any (fun q => Nat.beq q.1 (aown Γ) && Nat.beq q.2.1 ix && Nat.beq q.2.2.1 1002) = true) (hr8 : aws r ≤ 8) (hR : aRm Γ (d + 1) h') (C : aCF Γ) (hd : aDC Γ pc (.invokestatic ix) 3) (k : aSW Γ (pc + 3) L r (h.1.set a (.inl (3, n1, .inl (va_cpy f g sp.toNatClampNeg dp.toNatClampNeg n.toNatClampNeg))), h.2)) : aSW Γ pc L (.int n :: .int dp :: .ref a :: .int sp :: .ref a0 :: r) h := by
  obtain ⟨p, l, e, R, s, m, args, below, meth, c, Q, cc, nL, b0, n0, u0, own, kind, D, cA, ea, X⟩ := Γ
  intro H locs ls cells slots e1 e2 hP hS hl
  obtain ⟨hx, hb, hml, hown, hts, hKX, hsz, hki⟩ := C
  obtain ⟨⟨hR1, hR2⟩, hR3, hR4⟩ := hR
  have hlk := z_linkC hc
  have g1 : ¬ sp < 0 := fun z => hq (Or.inl z)
  have g2 : ¬ dp < 0 := fun z => hq (Or.inr (Or.inl z))
  have g3 : ¬ n < 0 := fun z => hq (Or.inr (Or.inr (Or.inl z)))
  have g4 : sp.toNatClampNeg + n.toNatClampNeg ≤ n0' := Nat.not_lt.mp fun z => hq (Or.inr (Or.inr (Or.inr (Or.inl z))))
  have g5 : dp.toNatClampNeg + n.toNatClampNeg ≤ n1 := Nat.not_lt.mp fun z => hq (Or.inr (Or.inr (Or.inr (Or.inr z))))
  have hnw : nativeFrameWords "java/lang/System" "arraycopy" 5 ≤ 20 := by decide
  have hlc : ((r.map (acv b0 ea)).map fun v => v.category).sum + (nativeFrameWords "java/lang/System" "arraycopy" 5 + 11) ≤ R.locals := by
    rw [aws_map]
    omega
  refine va_copyi hx hb (hml.trans hl.2.1.symm) hown (hts _ hlk) (hts _ zcp_n) (hts _ zcp_s) (hts _ zcp_i) hKX.1 hP awd_D hS a0 a 3 3 (show (awd b0 ea cA h.1)[a0]? = some (b0 + a0, .inl (cA 3, n0', .inl f)) from awd_get h0) (show (awd b0 ea cA h.1)[a]? = some (b0 + a, .inl (cA 3, n1, .inl g)) from awd_get h1) rfl rfl rfl g1 g2 g3 g4 g5 (fun i hi => List.all_eq_true.mp hf i (List.mem_range.mpr hi)) (by omega) hlc hd (fun H1 locs1 hP1 hD1 hS1 => ?_)
  refine k H1 locs1 ls cells slots (by rw [List.length_set]; exact e1) e2 ?_ hS1 hl
  rw [← awd_set]
  exact hP1
theorem s_cp1 {a a0 n0' n1 : Nat} {sp dp n : Int32} {f g : Nat → Int64} (h0 : h.1[a0]? = some (.inl (1, n0', .inr (.inl f)))) (h1 : h.1[a]? = some (.inl (1, n1, .inr (.inl g)))) (hq : ¬ (sp < 0 ∨ dp < 0 ∨ n < 0 ∨ n0' < sp.toNatClampNeg + n.toNatClampNeg ∨ n1 < dp.toNatClampNeg + n.toNatClampNeg)) (hc : zmcp.any (fun q => Nat.beq q.1 (aown Γ) && Nat.beq q.2.1 ix && Nat.beq q.2.2.1 1002) = true) (hr8 : aws r ≤ 8) (hR : aRm Γ (d + 1) h') (C : aCF Γ) (hd : aDC Γ pc (.invokestatic ix) 3) (k : aSW Γ (pc + 3) L r (h.1.set a (.inl (1, n1, .inr (.inl (va_cpy f g sp.toNatClampNeg dp.toNatClampNeg n.toNatClampNeg)))), h.2)) : aSW Γ pc L (.int n :: .int dp :: .ref a :: .int sp :: .ref a0 :: r) h := by
  obtain ⟨p, l, e, R, s, m, args, below, meth, c, Q, cc, nL, b0, n0, u0, own, kind, D, cA, ea, X⟩ := Γ
  intro H locs ls cells slots e1 e2 hP hS hl
  obtain ⟨hx, hb, hml, hown, hts, hKX, hsz, hki⟩ := C
  obtain ⟨⟨hR1, hR2⟩, hR3, hR4⟩ := hR
  have hlk := z_linkC hc
  have g1 : ¬ sp < 0 := fun z => hq (Or.inl z)
  have g2 : ¬ dp < 0 := fun z => hq (Or.inr (Or.inl z))
  have g3 : ¬ n < 0 := fun z => hq (Or.inr (Or.inr (Or.inl z)))
  have g4 : sp.toNatClampNeg + n.toNatClampNeg ≤ n0' := Nat.not_lt.mp fun z => hq (Or.inr (Or.inr (Or.inr (Or.inl z))))
  have g5 : dp.toNatClampNeg + n.toNatClampNeg ≤ n1 := Nat.not_lt.mp fun z => hq (Or.inr (Or.inr (Or.inr (Or.inr z))))
  have hnw : nativeFrameWords "java/lang/System" "arraycopy" 5 ≤ 20 := by decide
  have hlc : ((r.map (acv b0 ea)).map fun v => v.category).sum + (nativeFrameWords "java/lang/System" "arraycopy" 5 + 11) ≤ R.locals := by
    rw [aws_map]
    omega
  refine va_copyl hx hb (hml.trans hl.2.1.symm) hown (hts _ hlk) (hts _ zcp_n) (hts _ zcp_s) (hts _ zcp_i) hKX.1 hP awd_D hS a0 a 1 1 (show (awd b0 ea cA h.1)[a0]? = some (b0 + a0, .inl (cA 1, n0', .inr (.inl f))) from awd_get h0) (show (awd b0 ea cA h.1)[a]? = some (b0 + a, .inl (cA 1, n1, .inr (.inl g))) from awd_get h1) rfl rfl rfl g1 g2 g3 g4 g5 (fun _ _ => rfl) (by omega) hlc hd (fun H1 locs1 hP1 hD1 hS1 => ?_)
  refine k H1 locs1 ls cells slots (by rw [List.length_set]; exact e1) e2 ?_ hS1 hl
  rw [← awd_set]
  exact hP1
theorem s_cp0 {a a0 n0' n1 : Nat} {sp dp n : Int32} {f g : Nat → Int32} (h0 : h.1[a0]? = some (.inl (0, n0', .inl f))) (h1 : h.1[a]? = some (.inl (0, n1, .inl g))) (hq : ¬ (sp < 0 ∨ dp < 0 ∨ n < 0 ∨ n0' < sp.toNatClampNeg + n.toNatClampNeg ∨ n1 < dp.toNatClampNeg + n.toNatClampNeg)) (hc : zmcp.any (fun q => Nat.beq q.1 (aown Γ) && Nat.beq q.2.1 ix && Nat.beq q.2.2.1 1002) = true) (hr8 : aws r ≤ 8) (hR : aRm Γ (d + 1) h') (C : aCF Γ) (hd : aDC Γ pc (.invokestatic ix) 3) (k : aSW Γ (pc + 3) L r (h.1.set a (.inl (0, n1, .inl (va_cpy f g sp.toNatClampNeg dp.toNatClampNeg n.toNatClampNeg))), h.2)) : aSW Γ pc L (.int n :: .int dp :: .ref a :: .int sp :: .ref a0 :: r) h := by
  obtain ⟨p, l, e, R, s, m, args, below, meth, c, Q, cc, nL, b0, n0, u0, own, kind, D, cA, ea, X⟩ := Γ
  intro H locs ls cells slots e1 e2 hP hS hl
  obtain ⟨hx, hb, hml, hown, hts, hKX, hsz, hki⟩ := C
  obtain ⟨⟨hR1, hR2⟩, hR3, hR4⟩ := hR
  have hlk := z_linkC hc
  have g1 : ¬ sp < 0 := fun z => hq (Or.inl z)
  have g2 : ¬ dp < 0 := fun z => hq (Or.inr (Or.inl z))
  have g3 : ¬ n < 0 := fun z => hq (Or.inr (Or.inr (Or.inl z)))
  have g4 : sp.toNatClampNeg + n.toNatClampNeg ≤ n0' := Nat.not_lt.mp fun z => hq (Or.inr (Or.inr (Or.inr (Or.inl z))))
  have g5 : dp.toNatClampNeg + n.toNatClampNeg ≤ n1 := Nat.not_lt.mp fun z => hq (Or.inr (Or.inr (Or.inr (Or.inr z))))
  have hnw : nativeFrameWords "java/lang/System" "arraycopy" 5 ≤ 20 := by decide
  have hlc : ((r.map (acv b0 ea)).map fun v => v.category).sum + (nativeFrameWords "java/lang/System" "arraycopy" 5 + 11) ≤ R.locals := by
    rw [aws_map]
    omega
  refine va_copyi hx hb (hml.trans hl.2.1.symm) hown (hts _ hlk) (hts _ zcp_n) (hts _ zcp_s) (hts _ zcp_i) hKX.1 hP awd_D hS a0 a 0 0 (show (awd b0 ea cA h.1)[a0]? = some (b0 + a0, .inl (cA 0, n0', .inl f)) from awd_get h0) (show (awd b0 ea cA h.1)[a]? = some (b0 + a, .inl (cA 0, n1, .inl g)) from awd_get h1) rfl rfl rfl g1 g2 g3 g4 g5 (fun _ _ => rfl) (by omega) hlc hd (fun H1 locs1 hP1 hD1 hS1 => ?_)
  refine k H1 locs1 ls cells slots (by rw [List.length_set]; exact e1) e2 ?_ hS1 hl
  rw [← awd_set]
  exact hP1
theorem s_ix {c : Int32} (hc : zmcp.any (fun q => Nat.beq q.1 (aown Γ) && Nat.beq q.2.1 ix && Nat.beq q.2.2.1 1001) = true) (hr8 : aws r ≤ 8) (g2 : h.1.length ≤ h'.1.length ∧ h.2 ≤ h'.2) (hR : aRm Γ (d + 5) h') (C : aCF Γ) (hd : aDC Γ pc (.invokevirtual ix) 3) (k : aSW Γ (pc + 3) L (.int (zIx c) :: r) h) : aSW Γ pc L (.int c :: .retAddr 2 :: r) h := by
  obtain ⟨p, l, e, R, s, m, args, below, meth, cd, Q, cc, nL, b0, n0, u0, own, kind, D, cA, ea, X⟩ := Γ
  intro H locs ls cells slots e1 e2 hP hS hl
  obtain ⟨hx, hb, hml, hown, hts, hKX, hsz, hki⟩ := C
  obtain ⟨⟨hR1, hR2⟩, hR3, hR4⟩ := hR
  obtain ⟨V, dd, Cs, Ds, g1, ⟨g2', g3, g4⟩, ⟨g5, g6, g7⟩, g8, g9, g10, g11, g12, g13, g14, g15⟩ := hKX.2.2.2.2.2.2.2.2
  have hlk := hts _ (z_linkI hc)
  have him := hts _ (zany3_in (w := .instanceMethod Jvm.Free.StrIndexOf.indexOf1N) (by decide +kernel))
  have hse := hts _ (zany3_in (w := .selects "java/lang/String" Jvm.Free.StrIndexOf.indexOf1N Jvm.Free.StrIndexOf.indexOf1N) (by decide +kernel))
  obtain ⟨sa, sc, C', ks, u1, u2, u3, u4, u5, u6, -⟩ := Cond.exactly_spec (args := #[.ref (ea 2)]) (first := V) (o := none) (s := V) (idx := []) (t := .arg 0) (cls := "java/lang/String") g8
  have usa : sa = ea 2 := by
    have e0 : (Term.arg 0).eval #[.ref (ea 2)] V none [] V = some (.ref (ea 2)) := rfl
    cases u1.symm.trans e0
    rfl
  rw [usa] at u3
  cases g2'.symm.trans u3
  have hfc : s.vm.findClass "java/lang/String" = some Cs.cls := by rw [g1.findClass, u2, u6]
  intro T hT X0
  subst hT
  have c1 : T.heap[ea 2]? = some Cs := (hS.2.1 _ (Array.getElem?_eq_some_iff.mp g3).1 g4).trans g3
  have c2 : T.heap[dd]? = some Ds := (hS.2.1 _ (Array.getElem?_eq_some_iff.mp g6).1 g7).trans g6
  obtain ⟨v1, vm1, ⟨T1, L1, n1, k1⟩, hW1, X1, hpost, come⟩ := X0.virtualBack hx (own := zCN own) (C := "java/lang/String") (index := ix) (y := Jvm.Free.StrIndexOf.indexOf1N) (z := Jvm.Free.StrIndexOf.indexOf1N) hown hlk (ixd_1 hts) (notFace_of_selects hse) hse him (by decide)
    (ix_pays (l := l) (w := 8) (ea 2) dd 1 c Ds (ix_tab hts) (by omega) (by omega)) (b := ea 2) (cB := Cs.cls) hfc ⟨Cs, c1, rfl, u5⟩
    (g := F0 m pc ls (.int c :: .ref (ea 2) :: r.map (acv b0 ea))) rfl (hml.trans hl.2.1.symm).symm (Steps.refl _) (argsL := [.int c]) (rest := r.map (acv b0 ea))
    (fun sig h => by rw [show parseMethodDescriptor Jvm.Free.StrIndexOf.indexOf1N.desc = some ⟨[.int], some .int⟩ from by decide +kernel] at h; rw [← Option.some.inj h]; rfl) rfl (by show 2 * 0 + _ ≤ 8; rw [aws_map]; omega) (by rw [hb]; exact hd)
    (fun vmx hWx => ⟨by show cells ≤ _; omega, by show slots ≤ _; omega, rfl, ix_st (b0 := b0) (U := T.setVm vmx) (T := T) (s := s) (g1.trans hWx.alike) g2' c1 c2 g8 g9 g10 g11 g12 g13 g14 ((g15.moved hWx.alike).kept hS.2.1)⟩)
  dsimp only [Pt.U, Pt.locs, Pt.cells, Pt.slots] at X1 hpost come
  obtain ⟨hv, hq, hL, hc', hn⟩ := hpost
  subst hv hL hc' hn
  rw [ix_ans g13 (fun j hj => by unfold Jvm.Lib.StringLatin1.equals.intAt; rw [g14 j hj])] at come
  obtain ⟨t, a1, b1⟩ := k T.heap L1 ls n1 k1 e1 e2 hP hS hl T1 hq X1
  exact ⟨t, come.trans a1, b1⟩
end MZ
theorem amath_goes {a d : Nat} {st : List Value} {k : List Value → Option aR} {res : aR} (he : amath a d st k = some res) : ∃ st', k st' = some res := by
  unfold amath at he
  split at he
  · cases he
  · obtain ⟨x, y, r, rfl, he⟩ := tII_some he
    exact ⟨_, (abif he).2⟩
  · obtain ⟨x, y, r, rfl, he⟩ := tII_some he
    exact ⟨_, (abif he).2⟩
  · obtain ⟨x, r, rfl, he⟩ := tI_some he
    exact ⟨_, (abif he).2⟩
  · obtain ⟨x, y, r, rfl, he⟩ := tJJ_some he
    exact ⟨_, (abif he).2⟩
  · obtain ⟨x, y, r, rfl, he⟩ := tJJ_some he
    exact ⟨_, (abif he).2⟩
  · cases he
theorem acopy_goes {d : Nat} {st : List Value} {h : aH} {k : List Value → aH → Option aR} {res : aR} (he : acopy d st h k = some res) : ∃ st' h', k st' h' = some res ∧ h.1.length ≤ h'.1.length ∧ h.2 ≤ h'.2 := by
  unfold acopy at he
  split at he
  · obtain ⟨-, he⟩ := abif he
    split at he
    · obtain ⟨-, he⟩ := anite he
      obtain ⟨-, he⟩ := abif he
      exact ⟨_, _, he, by rw [List.length_set]; exact Nat.le_refl _, Nat.le_refl _⟩
    · obtain ⟨-, he⟩ := anite he
      exact ⟨_, _, he, by rw [List.length_set]; exact Nat.le_refl _, Nat.le_refl _⟩
    · obtain ⟨-, he⟩ := anite he
      exact ⟨_, _, he, by rw [List.length_set]; exact Nat.le_refl _, Nat.le_refl _⟩
    · cases he
  · cases he
theorem aixof_some {d : Nat} {st : List Value} {k : List Value → Option aR} {res : aR} (he : aixof d st k = some res) : ∃ c d' r, d = d' + 5 ∧ st = .int c :: .retAddr 2 :: r ∧ aws r ≤ 8 ∧ k (.int (zIx c) :: r) = some res := by
  unfold aixof at he
  split at he
  · obtain ⟨h8, he⟩ := abif he
    exact ⟨_, _, _, rfl, rfl, Nat.le_of_ble_eq_true h8, he⟩
  · cases he
theorem aF_some {pc : Nat} {i : aI} : ∀ {l : List aI}, aF pc l = some i → i ∈ l ∧ i.1 = pc
  | [], h => by cases h
  | q :: r, h => by
    unfold aF at h
    cases hb : Nat.beq q.1 pc with
    | true =>
      rw [hb] at h
      cases h
      exact ⟨List.mem_cons_self, Nat.eq_of_beq_eq_true hb⟩
    | false =>
      rw [hb] at h
      obtain ⟨h1, h2⟩ := aF_some h
      exact ⟨List.mem_cons_of_mem _ h1, h2⟩
theorem aretI_some {ret : Option FieldType} {x : Int32} {h : aH} {res : aR} (he : aretI ret x h = some res) : res = (some (.int x), h) ∧ (ret = some .int ∨ (ret = some .boolean ∧ (x = 0 ∨ x = 1))) := by
  unfold aretI at he
  split at he
  · cases he; exact ⟨rfl, Or.inl rfl⟩
  · rcases aite he with ⟨q, he⟩ | ⟨q, he⟩
    · cases he; exact ⟨rfl, Or.inr ⟨rfl, q⟩⟩
    · cases he
  · cases he
/-- no run makes cells fewer -/
theorem arun_grows {X : aX} : ∀ (n d : Nat) (M : aM) (pc : Nat) (L : aL) (st : List Value) (h : aH) (res : aR), arun X n d M pc L st h = some res → h.1.length ≤ res.2.1.length ∧ h.2 ≤ res.2.2 := by
  intro n
  induction n with
  | zero => intro d M pc L st h res he; cases he
  | succ n ih =>
    intro d M pc L st h res he
    have back : ∀ (d : Nat) (r : List Value) (Y : aM) (L' : aL) (h : aH) (pc : Nat), aback d r (fun d' => arun X n d' Y 0 L' [] h) (fun st' h' => arun X n d M pc L st' h') = some res → h.1.length ≤ res.2.1.length ∧ h.2 ≤ res.2.2 := by
      intro d r Y L' h pc hb
      obtain ⟨d', v, h1, -, -, g1, g2⟩ := aback_some hb
      have a1 := ih _ _ _ _ _ _ _ g1
      have a2 := ih _ _ _ _ _ _ _ g2
      exact ⟨Nat.le_trans a1.1 a2.1, Nat.le_trans a1.2 a2.2⟩
    unfold arun at he
    split at he
    · cases he
    · rename_i i hi
      split at he
      · split at he
        · obtain ⟨rfl, -⟩ := aretI_some he
          exact ⟨Nat.le_refl _, Nat.le_refl _⟩
        · cases he
      · split at he
        · cases he; exact ⟨Nat.le_refl _, Nat.le_refl _⟩
        · cases he
      · split at he
        · cases he; exact ⟨Nat.le_refl _, Nat.le_refl _⟩
        · cases he
      · split at he
        · cases he; exact ⟨Nat.le_refl _, Nat.le_refl _⟩
        · cases he
      · cases hb2 : Nat.beq i.2.2.2.1 1002 with
        | true =>
          rw [hb2] at he
          simp only [cond_true] at he
          obtain ⟨st', h2, g, g1, g2⟩ := acopy_goes he
          have a := ih _ _ _ _ _ _ _ g
          exact ⟨Nat.le_trans g1 a.1, Nat.le_trans g2 a.2⟩
        | false =>
        rw [hb2] at he
        simp only [cond_false] at he
        cases hb : Nat.ble 1010 i.2.2.2.1 with
        | true =>
          rw [hb] at he
          simp only [cond_true] at he
          obtain ⟨st', g⟩ := amath_goes he
          exact ih _ _ _ _ _ _ _ g
        | false =>
          rw [hb] at he
          simp only [cond_false] at he
          split at he
          · obtain ⟨-, he⟩ := abif he
            obtain ⟨as, r, rfl, -, he⟩ := acut_some he
            obtain ⟨-, he⟩ := aent_some he
            exact back _ _ _ _ _ _ he
          · cases he
      · cases hb1 : Nat.beq i.2.2.2.1 1001 with
        | true =>
          rw [hb1] at he
          simp only [cond_true] at he
          obtain ⟨c, d', r, -, -, -, g⟩ := aixof_some he
          exact ih _ _ _ _ _ _ _ g
        | false =>
        rw [hb1] at he
        simp only [cond_false] at he
        split at he
        · obtain ⟨-, he⟩ := abif he
          obtain ⟨as, r, rfl, -, he⟩ := acut_some he
          split at he
          · obtain ⟨fs, -, he⟩ := aobj_some he
            obtain ⟨-, he⟩ := aent_some he
            exact back _ _ _ _ _ _ he
          · cases he
        · cases he
      · cases hb : Nat.beq i.2.2.2.1 1000 with
        | true =>
          rw [hb] at he
          simp only [cond_true] at he
          split at he
          · obtain ⟨d', v, h1, -, -, g1, g2⟩ := aback_some he
            cases g1
            exact ih _ _ _ _ _ _ _ g2
          · cases he
        | false =>
          rw [hb] at he
          simp only [cond_false] at he
          split at he
          · obtain ⟨-, he⟩ := abif he
            obtain ⟨as, r, rfl, -, he⟩ := acut_some he
            split at he
            · obtain ⟨-, he⟩ := aent_some he
              exact back _ _ _ _ _ _ he
            · cases he
          · cases he
      · obtain ⟨pc', L', st', h', g, g1, g2⟩ := aX1_goes he
        have a := ih _ _ _ _ _ _ _ g
        exact ⟨Nat.le_trans g1 a.1, Nat.le_trans g2 a.2⟩

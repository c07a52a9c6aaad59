-- ===== the law's entry: what is known there =====
def zab (j : Nat) : Int32 := match j with
  | 0 => -1
  | 1 => 0
  | 2 => 1
  | 3 => 1
  | 4 => 0
  | 5 => 4
  | 6 => 0
  | _ => 2
def zX (L : Nat) (xs : Nat → Int32) : aX := fun x => match x with
  | 0 => some (8, zab)
  | 1 => some (L, xs)
  | _ => none
def zST : Term := .static "AcresPaid" "ABOVE" "[I"
def zLW : Bool := lw_tbl.any (fun w => decide (w = Cond.arrayOver (.object "AcresPaid$Season"))) && lw_tbl.any (fun w => decide (w = Cond.arrayOver (.array .int))) && lw_tbl.any (fun w => decide (w = Cond.laysStatic "AcresPaid" "ABOVE" "[I")) && lw_tbl.any (fun w => decide (w = Cond.initialized "AcresPaid")) && lw_tbl.any (fun w => decide (w = Cond.fieldLinkNest "AcresPaid$Register" 49 "AcresPaid" "ABOVE" "[I" "AcresPaid"))
theorem zLW_ok : zLW = true := by decide +kernel
theorem zany {w : Cond} (h : lw_tbl.any (fun v => decide (v = w)) = true) : w ∈ lw_tbl := by
  obtain ⟨v, m, g⟩ := List.any_eq_true.mp h
  simp only [decide_eq_true_eq] at g
  subst g
  exact m
def zSL : Term := .string "AcresPaid$Texts" 114
theorem zLS_ok : lw_tbl.any (fun w => decide (w = Cond.stringRef "AcresPaid$Texts" 114 "yksfgctlepmjb")) = true := by decide +kernel
theorem zCS_ok : lw_tbl.any (fun w => decide (w = Cond.laysStatic "java/lang/String" "COMPACT_STRINGS" "Z")) = true := by decide +kernel
theorem zSI_ok : lw_tbl.any (fun w => decide (w = Cond.initialized "java/lang/String")) = true := by decide +kernel
theorem aKX_start {s : State} {args : Array Value} {b L : Nat} {xs : Nat → Int32} (hts : ∀ w ∈ lw_tbl, w.before args s = true) (hX : va_X b L xs s s.heap) (hbl : b < s.heap.size) (hg : (Jvm.Cond.and given_1 narrow_1).before args s = true) :
    ∃ (D : va_G) (cA : Nat → ClassId) (ea : Nat → Nat), ea 1 = b ∧ aKX D cA ea s.heap.size (zX L xs) s := by
  have hz : ∀ w ∈ zW, w.before args s = true := fun w h => hts w (zW_in w h)
  have hs := flat_of_before _ hg
  have hAn : ∀ a : Nat, a < s.heap.size → ¬ s.heap.size ≤ a := fun a h => Nat.not_le.mpr h
  have h1 : ∀ c : Nat, ∃ q : ClassId × (Nat → Nat), c < 13 → u_Kn s (zCN c) (zT c) (zN c) q.1 q.2 := by
    intro c
    by_cases hc : c < 13
    · obtain ⟨a, f, e⟩ := u_known hz (z_uws hc) (hz _ (z_ini hc).1)
      exact ⟨(a, f), fun _ => e⟩
    · obtain ⟨a, f, e⟩ := u_known hz (z_uws (show 0 < 13 by decide)) (hz _ (z_ini (show 0 < 13 by decide)).1)
      exact ⟨(a, f), fun h => absurd h hc⟩
  obtain ⟨f, hf⟩ := Classical.axiomOfChoice h1
  have hl := zLW_ok
  unfold zLW at hl
  obtain ⟨hl, l5⟩ := (Bool.and_eq_true _ _).mp hl
  obtain ⟨hl, l4⟩ := (Bool.and_eq_true _ _).mp hl
  obtain ⟨hl, l3⟩ := (Bool.and_eq_true _ _).mp hl
  obtain ⟨l1, l2⟩ := (Bool.and_eq_true _ _).mp hl
  have ho : (Cond.arrayOver (.object "AcresPaid$Season")).before args s = true := hts _ (zany l1)
  have hA : (Cond.arrayOver (.array .int)).before args s = true := hts _ (zany l2)
  obtain ⟨a0, k0, m0, p0, q0, r0⟩ := Cond.arrayClass_spec (hz _ (z_arr (a := 0) rfl))
  obtain ⟨a1, k1, m1, p1, q1, r1⟩ := Cond.arrayClass_spec (hz _ (z_arr (a := 1) rfl))
  obtain ⟨a2, k2, m2, p2, q2, r2⟩ := Cond.arrayClass_spec (hz _ (z_arr (a := 2) rfl))
  obtain ⟨a3, k3, m3, p3, q3, r3⟩ := Cond.arrayClass_spec (hz _ (z_arr (a := 3) rfl))
  obtain ⟨m4, a4, k4, p4, -, q4, r4, t4⟩ := Cond.arrayOver_spec ho
  obtain ⟨m5, a5, k5, p5, -, q5, r5, t5⟩ := arrayOverA_spec hA
  have hlen : (Term.length zST).eval args s none [] s = some (.int (Int32.ofNat 8)) := va_eqt (hs (Cond.eq (.length zST) (.int 8)) (by decide +kernel))
  have hel : ∀ j : Nat, j < 8 → (Term.elem zST (.int (Int32.ofNat j))).eval args s none [] s = some (.int (zab j)) := by
    intro j hj
    match j, hj with
    | 0, _ => exact va_eqt (hs (Cond.eq (.elem zST (.int 0)) (.int (-1))) (by decide +kernel))
    | 1, _ => exact va_eqt (hs (Cond.eq (.elem zST (.int 1)) (.int 0)) (by decide +kernel))
    | 2, _ => exact va_eqt (hs (Cond.eq (.elem zST (.int 2)) (.int 1)) (by decide +kernel))
    | 3, _ => exact va_eqt (hs (Cond.eq (.elem zST (.int 3)) (.int 1)) (by decide +kernel))
    | 4, _ => exact va_eqt (hs (Cond.eq (.elem zST (.int 4)) (.int 0)) (by decide +kernel))
    | 5, _ => exact va_eqt (hs (Cond.eq (.elem zST (.int 5)) (.int 4)) (by decide +kernel))
    | 6, _ => exact va_eqt (hs (Cond.eq (.elem zST (.int 6)) (.int 0)) (by decide +kernel))
    | 7, _ => exact va_eqt (hs (Cond.eq (.elem zST (.int 7)) (.int 2)) (by decide +kernel))
  obtain ⟨t, ht, hT⟩ := va_Tof (A := fun q => s.heap.size ≤ q) (N := 8) (f := fun j => .int (zab j)) (by decide) (hs (Cond.arrayOf zST .int) (by decide +kernel)) hlen hel hAn
  have hel2 : ∀ j : Nat, j < 13 → (Cond.eq (.elem (.field zSL "java/lang/String" "value" "[B") (.int (Int32.ofNat j))) (.int (zNS.getD j 0))).before args s = true := by
    intro j hj
    match j, hj with
    | 0, _ => exact hs (Cond.eq (.elem (.field zSL "java/lang/String" "value" "[B") (.int 0)) (.int 121)) (by decide +kernel)
    | 1, _ => exact hs (Cond.eq (.elem (.field zSL "java/lang/String" "value" "[B") (.int 1)) (.int 107)) (by decide +kernel)
    | 2, _ => exact hs (Cond.eq (.elem (.field zSL "java/lang/String" "value" "[B") (.int 2)) (.int 115)) (by decide +kernel)
    | 3, _ => exact hs (Cond.eq (.elem (.field zSL "java/lang/String" "value" "[B") (.int 3)) (.int 102)) (by decide +kernel)
    | 4, _ => exact hs (Cond.eq (.elem (.field zSL "java/lang/String" "value" "[B") (.int 4)) (.int 103)) (by decide +kernel)
    | 5, _ => exact hs (Cond.eq (.elem (.field zSL "java/lang/String" "value" "[B") (.int 5)) (.int 99)) (by decide +kernel)
    | 6, _ => exact hs (Cond.eq (.elem (.field zSL "java/lang/String" "value" "[B") (.int 6)) (.int 116)) (by decide +kernel)
    | 7, _ => exact hs (Cond.eq (.elem (.field zSL "java/lang/String" "value" "[B") (.int 7)) (.int 108)) (by decide +kernel)
    | 8, _ => exact hs (Cond.eq (.elem (.field zSL "java/lang/String" "value" "[B") (.int 8)) (.int 101)) (by decide +kernel)
    | 9, _ => exact hs (Cond.eq (.elem (.field zSL "java/lang/String" "value" "[B") (.int 9)) (.int 112)) (by decide +kernel)
    | 10, _ => exact hs (Cond.eq (.elem (.field zSL "java/lang/String" "value" "[B") (.int 10)) (.int 109)) (by decide +kernel)
    | 11, _ => exact hs (Cond.eq (.elem (.field zSL "java/lang/String" "value" "[B") (.int 11)) (.int 106)) (by decide +kernel)
    | 12, _ => exact hs (Cond.eq (.elem (.field zSL "java/lang/String" "value" "[B") (.int 12)) (.int 98)) (by decide +kernel)
  have hexS := hs (Cond.exactly zSL "java/lang/String") (by decide +kernel)
  obtain ⟨sa, sc, C, ks, e1, e2, e3, e4, e5, e6, -⟩ := Cond.exactly_spec (args := args) (first := s) (o := none) (s := s) (idx := []) (t := zSL) (cls := "java/lang/String") hexS
  have hexS' : (Cond.exactly (.arg 0) "java/lang/String").before #[.ref sa] s = true := by
    have h := hexS
    simp only [Cond.before, Cond.holds, Cond.value, e1] at h
    simp only [Cond.before, Cond.holds, Cond.value, Term.eval]
    exact h
  have hco := va_eqt (hs (Cond.eq (.field zSL "java/lang/String" "coder" "B") (.int 0)) (by decide +kernel))
  have hco' : (Term.field (.arg 0) "java/lang/String" "coder" "B").eval #[.ref sa] s none [] s = some (.int 0) := (va_fe (t := .arg 0) (args := #[.ref sa]) rfl).trans ((va_fe e1).symm.trans hco)
  have hle := va_eqt (hs (Cond.eq (.length (.field zSL "java/lang/String" "value" "[B")) (.int 13)) (by decide +kernel))
  obtain ⟨sd, hsd, Dc, d1, d2, d3, d4, d5, d6, d7⟩ := va_Tof (A := fun q => s.heap.size ≤ q) (N := 13) (f := fun j => .int (zNS.getD j 0)) (by decide) (hs (Cond.arrayOf (.field zSL "java/lang/String" "value" "[B") .byte) (by decide +kernel)) hle (fun j hj => va_eqt (hel2 j hj)) hAn
  have hva' : (Term.field (.arg 0) "java/lang/String" "value" "[B").eval #[.ref sa] s none [] s = some (.ref sd) := (va_fe (t := .arg 0) (args := #[.ref sa]) rfl).trans ((va_fe e1).symm.trans hsd)
  have hsz : Dc.slots.size = 13 := by
    obtain ⟨t', cell', w1, w2, w3⟩ := Term.length_spec hle
    cases hsd.symm.trans w1
    obtain ⟨w4, -⟩ := State.arrayAt?_spec w2
    cases d1.symm.trans w4
    have hsm : Dc.slots.size < 2 ^ 31 := Cond.small_of_lengthOf w1 w2 (by simp only [Cond.before, Cond.holds, Cond.value, hle]; rfl)
    have h1 : (Dc.slots.size.toInt32).toInt = 13 := by rw [d5]; decide
    have h2 : (Dc.slots.size.toInt32).toInt = Dc.slots.size := Int32.toInt_ofNat_of_lt hsm
    omega
  have hcs : va_Z "java/lang/String" "COMPACT_STRINGS" "Z" (.int 1) (fun q => s.heap.size ≤ q) s s.heap := va_Zof (hts _ (zany zCS_ok)) (hts _ (zany zSI_ok)) (va_eqt (hs (Cond.eq (.static "java/lang/String" "COMPACT_STRINGS" "Z") (.int 1)) (by decide +kernel))) hAn
  have hS1 : aST sa (fun q => s.heap.size ≤ q) s s.heap := ⟨s, sd, C, Dc, Vm.Alike.refl _, ⟨e3, e3, hAn _ (Array.getElem?_eq_some_iff.mp e3).1⟩, ⟨d1, d1, d7⟩, hexS', hco', hva', d2, d3, hsz, d6, hcs⟩
  have hR1 : vk_R "AcresPaid$Texts" 114 "yksfgctlepmjb" sa s := vk_R.of (hts _ (zany zLS_ok)) e1
  have hZ : va_Z "AcresPaid" "ABOVE" "[I" (.ref t) (fun q => s.heap.size ≤ q) s s.heap := va_Zref (hts _ (zany l3)) (hts _ (zany l4)) ht hAn
  refine ⟨(fun c => (f c).1, fun c => (f c).2), fun i => match i with
    | 0 => a0
    | 1 => a1
    | 2 => a2
    | 3 => a3
    | 4 => a4
    | _ => a5, fun x => match x with
    | 0 => t
    | 1 => b
    | _ => sa, rfl, ⟨?_, ?_⟩, ?_, hZ, ?_, ?_, va_AO.of ho, hA, hR1, hS1⟩
  · intro c q hq
    have hc : c < 13 := by
      have := (List.getElem?_eq_some_iff.mp hq).1
      simpa [zCl] using this
    rw [zCl_get hc] at hq
    cases hq
    exact hf c hc
  · intro k q hq
    match k, hq with
    | 0, hq => cases hq; exact ⟨fun n z => ⟨(fun k h => by cases h), k0, q0, m0, r0⟩, p0⟩
    | 1, hq => cases hq; exact ⟨fun n z => ⟨(fun k h => by cases h), k1, q1, m1, r1⟩, p1⟩
    | 2, hq => cases hq; exact ⟨fun n z => ⟨(fun k h => by cases h), k2, q2, m2, r2⟩, p2⟩
    | 3, hq => cases hq; exact ⟨fun n z => ⟨(fun k h => by cases h), k3, q3, m3, r3⟩, p3⟩
    | 4, hq => cases hq; exact ⟨fun n z => ⟨(fun k h => by cases h), k4, q4, m4, r4⟩, k4, m4, q4, r4, p4, t4⟩
    | 5, hq => cases hq; exact ⟨fun n z => ⟨(fun k h => by cases h), k5, q5, m5, r5⟩, t5⟩
    | k + 6, hq => simp at hq
  · intro x n g hx
    match x, hx with
    | 0, hx => cases hx; exact hT
    | 1, hx =>
      cases hx
      obtain ⟨scr, h1, h2, h3, h4, h5⟩ := hX
      exact ⟨scr, h1, h2, h3, by omega, by rw [h4], h5, hAn _ hbl⟩
    | x + 2, hx => cases hx
  · intro q hq hn ha
    have h1 := List.all_eq_true.mp zmcp_ok q hq
    unfold zmcpW at h1
    rw [if_neg hn] at h1
    rcases (Bool.or_eq_true _ _).mp h1 with h2 | h2
    · exfalso
      simp only [Bool.or_eq_true, Nat.beq_eq] at h2
      omega
    · exact va_Nw.of rfl (hts _ (List.mem_of_getElem? (of_decide_eq_true h2)))
  · exact va_Nw.of rfl (hts _ (zany l5))
theorem aMet_X {l : Launch} {D : va_G} {cA : Nat → ClassId} {ea : Nat → Nat} {b0 : Nat} {X X' : aX} {d : Nat} {Y : aM} {as : List Value} {h : aH} {v : Option Value} {h' : aH} (hX : ∀ x q, X x = some q → X' x = some q) (hM : aMet l D cA ea b0 X d Y as h v h') : aMet l D cA ea b0 X' d Y as h v h' := by
  intro p e h1 h2 h3 s m args below hf happ hP hK
  exact hM p e h1 h2 h3 s m args below hf happ ⟨hP.1, hP.2.1, hP.2.2.1, hP.2.2.2.1, fun x n f g => hP.2.2.2.2.1 x n f (hX _ _ g), hP.2.2.2.2.2⟩ hK

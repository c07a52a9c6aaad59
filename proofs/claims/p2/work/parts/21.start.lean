-- ===== the law's entry: what is known there =====
def zab (j : Nat) : Int32 := match j with
  | 0 => -1
  | 1 => 0
  | 2 => 1
  | 3 => 1
  | 4 => 0
  | 5 => 4
  | 6 => 0
  | _ => 2
def zX (L : Nat) (xs : Nat → Int32) : aX := fun x => match x with
  | 0 => some (8, zab)
  | 1 => some (L, xs)
  | _ => none
def zST : Term := .static "AcresPaid" "ABOVE" "[I"
def zLW : Bool := lw_tbl.any (fun w => decide (w = Cond.arrayOver (.object "AcresPaid$Season"))) && lw_tbl.any (fun w => decide (w = Cond.arrayOver (.array .int))) && lw_tbl.any (fun w => decide (w = Cond.laysStatic "AcresPaid" "ABOVE" "[I")) && lw_tbl.any (fun w => decide (w = Cond.initialized "AcresPaid")) && lw_tbl.any (fun w => decide (w = Cond.fieldLinkNest "AcresPaid$Register" 49 "AcresPaid" "ABOVE" "[I" "AcresPaid"))
theorem zLW_ok : zLW = true := by decide +kernel
theorem zany {w : Cond} (h : lw_tbl.any (fun v => decide (v = w)) = true) : w ∈ lw_tbl := by
  obtain ⟨v, m, g⟩ := List.any_eq_true.mp h
  simp only [decide_eq_true_eq] at g
  subst g
  exact m
def zSL : Term := .string "AcresPaid$Texts" 114
theorem zLS_ok : lw_tbl.any (fun w => decide (w = Cond.stringRef "AcresPaid$Texts" 114 "yksfgctlepmjb")) = true := by decide +kernel
theorem aKX_start {s : State} {args : Array Value} {b L : Nat} {xs : Nat → Int32} (hts : ∀ w ∈ lw_tbl, w.before args s = true) (hX : va_X b L xs s s.heap) (hbl : b < s.heap.size) (hg : (Jvm.Cond.and given_1 narrow_1).before args s = true) :
    ∃ (D : va_G) (cA : Nat → ClassId) (ea : Nat → Nat), ea 1 = b ∧ aKX D cA ea s.heap.size (zX L xs) s := by
  have hz : ∀ w ∈ zW, w.before args s = true := fun w h => hts w (zW_in w h)
  have hs := flat_of_before _ hg
  have hAn : ∀ a : Nat, a < s.heap.size → ¬ s.heap.size ≤ a := fun a h => Nat.not_le.mpr h
  have h1 : ∀ c : Nat, ∃ q : ClassId × (Nat → Nat), c < 13 → u_Kn s (zCN c) (zT c) (zN c) q.1 q.2 := by
    intro c
    by_cases hc : c < 13
    · obtain ⟨a, f, e⟩ := u_known hz (z_uws hc) (hz _ (z_ini hc).1)
      exact ⟨(a, f), fun _ => e⟩
    · obtain ⟨a, f, e⟩ := u_known hz (z_uws (show 0 < 13 by decide)) (hz _ (z_ini (show 0 < 13 by decide)).1)
      exact ⟨(a, f), fun h => absurd h hc⟩
  obtain ⟨f, hf⟩ := Classical.axiomOfChoice h1
  have hl := zLW_ok
  unfold zLW at hl
  obtain ⟨hl, l5⟩ := (Bool.and_eq_true _ _).mp hl
  obtain ⟨hl, l4⟩ := (Bool.and_eq_true _ _).mp hl
  obtain ⟨hl, l3⟩ := (Bool.and_eq_true _ _).mp hl
  obtain ⟨l1, l2⟩ := (Bool.and_eq_true _ _).mp hl
  have ho : (Cond.arrayOver (.object "AcresPaid$Season")).before args s = true := hts _ (zany l1)
  have hA : (Cond.arrayOver (.array .int)).before args s = true := hts _ (zany l2)
  obtain ⟨a0, k0, m0, p0, q0, r0⟩ := Cond.arrayClass_spec (hz _ (z_arr (a := 0) rfl))
  obtain ⟨a1, k1, m1, p1, q1, r1⟩ := Cond.arrayClass_spec (hz _ (z_arr (a := 1) rfl))
  obtain ⟨a2, k2, m2, p2, q2, r2⟩ := Cond.arrayClass_spec (hz _ (z_arr (a := 2) rfl))
  obtain ⟨a3, k3, m3, p3, q3, r3⟩ := Cond.arrayClass_spec (hz _ (z_arr (a := 3) rfl))
  obtain ⟨m4, a4, k4, p4, -, q4, r4, t4⟩ := Cond.arrayOver_spec ho
  obtain ⟨m5, a5, k5, p5, -, q5, r5, t5⟩ := arrayOverA_spec hA
  have hlen : (Term.length zST).eval args s none [] s = some (.int (Int32.ofNat 8)) := va_eqt (hs (Cond.eq (.length zST) (.int 8)) (by decide +kernel))
  have hel : ∀ j : Nat, j < 8 → (Term.elem zST (.int (Int32.ofNat j))).eval args s none [] s = some (.int (zab j)) := by
    intro j hj
    match j, hj with
    | 0, _ => exact va_eqt (hs (Cond.eq (.elem zST (.int 0)) (.int (-1))) (by decide +kernel))
    | 1, _ => exact va_eqt (hs (Cond.eq (.elem zST (.int 1)) (.int 0)) (by decide +kernel))
    | 2, _ => exact va_eqt (hs (Cond.eq (.elem zST (.int 2)) (.int 1)) (by decide +kernel))
    | 3, _ => exact va_eqt (hs (Cond.eq (.elem zST (.int 3)) (.int 1)) (by decide +kernel))
    | 4, _ => exact va_eqt (hs (Cond.eq (.elem zST (.int 4)) (.int 0)) (by decide +kernel))
    | 5, _ => exact va_eqt (hs (Cond.eq (.elem zST (.int 5)) (.int 4)) (by decide +kernel))
    | 6, _ => exact va_eqt (hs (Cond.eq (.elem zST (.int 6)) (.int 0)) (by decide +kernel))
    | 7, _ => exact va_eqt (hs (Cond.eq (.elem zST (.int 7)) (.int 2)) (by decide +kernel))
  obtain ⟨t, ht, hT⟩ := va_Tof (A := fun q => s.heap.size ≤ q) (N := 8) (f := fun j => .int (zab j)) (by decide) (hs (Cond.arrayOf zST .int) (by decide +kernel)) hlen hel hAn
  have hel2 : ∀ j : Nat, j < 13 → (Cond.eq (.elem (.field zSL "java/lang/String" "value" "[B") (.int (Int32.ofNat j))) (.int (zNS.getD j 0))).before args s = true := by
    intro j hj
    match j, hj with
    | 0, _ => exact hs (Cond.eq (.elem (.field zSL "java/lang/String" "value" "[B") (.int 0)) (.int 121)) (by decide +kernel)
    | 1, _ => exact hs (Cond.eq (.elem (.field zSL "java/lang/String" "value" "[B") (.int 1)) (.int 107)) (by decide +kernel)
    | 2, _ => exact hs (Cond.eq (.elem (.field zSL "java/lang/String" "value" "[B") (.int 2)) (.int 115)) (by decide +kernel)
    | 3, _ => exact hs (Cond.eq (.elem (.field zSL "java/lang/String" "value" "[B") (.int 3)) (.int 102)) (by decide +kernel)
    | 4, _ => exact hs (Cond.eq (.elem (.field zSL "java/lang/String" "value" "[B") (.int 4)) (.int 103)) (by decide +kernel)
    | 5, _ => exact hs (Cond.eq (.elem (.field zSL "java/lang/String" "value" "[B") (.int 5)) (.int 99)) (by decide +kernel)
    | 6, _ => exact hs (Cond.eq (.elem (.field zSL "java/lang/String" "value" "[B") (.int 6)) (.int 116)) (by decide +kernel)
    | 7, _ => exact hs (Cond.eq (.elem (.field zSL "java/lang/String" "value" "[B") (.int 7)) (.int 108)) (by decide +kernel)
    | 8, _ => exact hs (Cond.eq (.elem (.field zSL "java/lang/String" "value" "[B") (.int 8)) (.int 101)) (by decide +kernel)
    | 9, _ => exact hs (Cond.eq (.elem (.field zSL "java/lang/String" "value" "[B") (.int 9)) (.int 112)) (by decide +kernel)
    | 10, _ => exact hs (Cond.eq (.elem (.field zSL "java/lang/String" "value" "[B") (.int 10)) (.int 109)) (by decide +kernel)
    | 11, _ => exact hs (Cond.eq (.elem (.field zSL "java/lang/String" "value" "[B") (.int 11)) (.int 106)) (by decide +kernel)
    | 12, _ => exact hs (Cond.eq (.elem (.field zSL "java/lang/String" "value" "[B") (.int 12)) (.int 98)) (by decide +kernel)
  obtain ⟨adK, adV, hSS, hev⟩ := vk_Sof (args := args) (s := s) (N := 1) (tm := fun _ => zSL) (len := [13]) (byt := [zNS]) (A := fun q => s.heap.size ≤ q)
    (fun i hi => by match i, hi with
      | 0, _ => decide)
    (fun _ _ => hs (Cond.exactly zSL "java/lang/String") (by decide +kernel))
    (fun _ _ => hs (Cond.eq (.field zSL "java/lang/String" "coder" "B") (.int 0)) (by decide +kernel))
    (fun _ _ => hs (Cond.arrayOf (.field zSL "java/lang/String" "value" "[B") .byte) (by decide +kernel))
    (fun i hi => by match i, hi with
      | 0, _ => exact hs (Cond.eq (.length (.field zSL "java/lang/String" "value" "[B")) (.int 13)) (by decide +kernel))
    (fun i hi j hj => by match i, hi with
      | 0, _ => exact hel2 j hj)
    (fun i j hi hj hn => absurd (show i = j by omega) hn) hAn
  have hS1 : vk_S 1 [13] [zNS] (fun _ => adK 0) adV (fun q => s.heap.size ≤ q) s s.heap := ⟨fun i hi => by
    match i, hi with
    | 0, _ => exact hSS.1 0 (by decide), fun i j hi hj _ => by omega⟩
  have hR1 : vk_R "AcresPaid$Texts" 114 "yksfgctlepmjb" (adK 0) s := vk_R.of (hts _ (zany zLS_ok)) (hev 0 (by decide))
  have hZ : va_Z "AcresPaid" "ABOVE" "[I" (.ref t) (fun q => s.heap.size ≤ q) s s.heap := va_Zref (hts _ (zany l3)) (hts _ (zany l4)) ht hAn
  refine ⟨(fun c => (f c).1, fun c => (f c).2), fun i => match i with
    | 0 => a0
    | 1 => a1
    | 2 => a2
    | 3 => a3
    | 4 => a4
    | _ => a5, fun x => match x with
    | 0 => t
    | 1 => b
    | _ => adK 0, rfl, ⟨?_, ?_⟩, ?_, hZ, ?_, ?_, va_AO.of ho, hA, hR1, adV, hS1⟩
  · intro c q hq
    have hc : c < 13 := by
      have := (List.getElem?_eq_some_iff.mp hq).1
      simpa [zCl] using this
    rw [zCl_get hc] at hq
    cases hq
    exact hf c hc
  · intro k q hq
    match k, hq with
    | 0, hq => cases hq; exact ⟨fun n z => ⟨(fun k h => by cases h), k0, q0, m0, r0⟩, p0⟩
    | 1, hq => cases hq; exact ⟨fun n z => ⟨(fun k h => by cases h), k1, q1, m1, r1⟩, p1⟩
    | 2, hq => cases hq; exact ⟨fun n z => ⟨(fun k h => by cases h), k2, q2, m2, r2⟩, p2⟩
    | 3, hq => cases hq; exact ⟨fun n z => ⟨(fun k h => by cases h), k3, q3, m3, r3⟩, p3⟩
    | 4, hq => cases hq; exact ⟨fun n z => ⟨(fun k h => by cases h), k4, q4, m4, r4⟩, k4, m4, q4, r4, p4, t4⟩
    | 5, hq => cases hq; exact ⟨fun n z => ⟨(fun k h => by cases h), k5, q5, m5, r5⟩, t5⟩
    | k + 6, hq => simp at hq
  · intro x n g hx
    match x, hx with
    | 0, hx => cases hx; exact hT
    | 1, hx =>
      cases hx
      obtain ⟨scr, h1, h2, h3, h4, h5⟩ := hX
      exact ⟨scr, h1, h2, h3, by omega, by rw [h4], h5, hAn _ hbl⟩
    | x + 2, hx => cases hx
  · intro q hq hn ha
    have h1 := List.all_eq_true.mp zmcp_ok q hq
    unfold zmcpW at h1
    rw [if_neg hn] at h1
    rcases (Bool.or_eq_true _ _).mp h1 with h2 | h2
    · exfalso
      simp only [Bool.or_eq_true, Nat.beq_eq] at h2
      omega
    · exact va_Nw.of rfl (hts _ (List.mem_of_getElem? (of_decide_eq_true h2)))
  · exact va_Nw.of rfl (hts _ (zany l5))
theorem aMet_X {l : Launch} {D : va_G} {cA : Nat → ClassId} {ea : Nat → Nat} {b0 : Nat} {X X' : aX} {d : Nat} {Y : aM} {as : List Value} {h : aH} {v : Option Value} {h' : aH} (hX : ∀ x q, X x = some q → X' x = some q) (hM : aMet l D cA ea b0 X d Y as h v h') : aMet l D cA ea b0 X' d Y as h v h' := by
  intro p e h1 h2 h3 s m args below hf happ hP hK
  exact hM p e h1 h2 h3 s m args below hf happ ⟨hP.1, hP.2.1, hP.2.2.1, hP.2.2.2.1, fun x n f g => hP.2.2.2.2.1 x n f (hX _ _ g), hP.2.2.2.2.2⟩ hK

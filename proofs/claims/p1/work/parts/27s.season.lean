-- ===== a season on a fresh object (by program) =====
theorem gz_ne {h h' : aH} {i j u : Nat} {c c' : aC} (q : (h.1.set i c', u) = h') (p : h.1[j]? = some c) (hn : i ≠ j) : h'.1[j]? = some c := by
  rw [← q]
  exact gs_ne p hn
theorem gz_eq {h h' : aH} {i u : Nat} {c c' : aC} (q : (h.1.set i c', u) = h') (p : h.1[i]? = some c) : h'.1[i]? = some c' := by
  rw [← q]
  exact gs_eq p
theorem gz_ap {h h' : aH} {j u : Nat} {c c' : aC} (q : (h.1 ++ [c'], u) = h') (p : h.1[j]? = some c) : h'.1[j]? = some c := by
  rw [← q]
  exact gs_ap p
theorem gz_la {h h' : aH} {j u : Nat} {c : aC} (q : (h.1 ++ [c], u) = h') (p : h.1.length = j) : h'.1[j]? = some c := by
  rw [← q]
  exact gs_la p
theorem gz_le {h h' : aH} {j u : Nat} {c : aC} (q : (h.1 ++ [c], u) = h') (p : h.1.length = j) : h'.1.length = j + 1 := by
  rw [← q]
  exact gs_le p
theorem gz_ls {h h' : aH} {i j u : Nat} {c : aC} (q : (h.1.set i c, u) = h') (p : h.1.length = j) : h'.1.length = j := by
  rw [← q]
  exact gs_ls p
set_option maxHeartbeats 80000000 in
set_option maxRecDepth 20000 in
theorem season_fresh {x1 : Int32} (jc0 : ¬ (x1 < 0 ∨ 10 ≤ Int32.toNatClampNeg x1)) : ∃ h1 : aH, (∀ (X : aX) (n d : Nat), arun X (n + 6000) (d + 10) zM1 0 [some (.ref 41), some (.int x1), some (.int 0), none, none] [] zH0 = some (some (.ref 146), h1)) ∧ h1.1.length = 154 ∧ h1.2 ≤ 100000 ∧ (∀ (k : Nat) (c : aC), k < 146 → k ≠ 42 → zH0.1[k]? = some c → h1.1[k]? = some c) := by
  obtain ⟨z1, q1⟩ : ∃ h : aH, (zH0.1 ++ ([.inr (8, ((List.range (zN 8)).map (fun c => defaultValue (zY 8 c))))] : List aC), zH0.2 + zN 8) = h := ⟨_, rfl⟩
  have U1 : z1.2 = zH0.2 + zN 8 := by rw [← q1]
  have Lq1 := gz_le q1 zH0_len
  have g2 := gz_ap q1 zh41
  have g3 := gz_la q1 zH0_len
  obtain ⟨z4, q4⟩ : ∃ h : aH, (z1.1.set 146 (.inr (8, [.null, .null, .int 0, .int (-1), .int 0, .int 0, .null, .null, .null, .null, .null, .null, .null])), z1.2) = h := ⟨_, rfl⟩
  have U4 : z4.2 = z1.2 := by rw [← q4]
  have Lq4 := gz_ls q4 Lq1
  have g5 := gz_eq q4 g3
  obtain ⟨z6, q6⟩ : ∃ h : aH, (z4.1.set 146 (.inr (8, [.null, .null, .int 0, .int (-1), .int (-1), .int 0, .null, .null, .null, .null, .null, .null, .null])), z4.2) = h := ⟨_, rfl⟩
  have U6 : z6.2 = z4.2 := by rw [← q6]
  have Lq6 := gz_ls q6 Lq4
  obtain ⟨z7, q7⟩ : ∃ h : aH, (z6.1 ++ ([.inl (0, Int32.toNatClampNeg 300, azero 0)] : List aC), z6.2 + Int32.toNatClampNeg 300) = h := ⟨_, rfl⟩
  have U7 : z7.2 = z6.2 + Int32.toNatClampNeg 300 := by rw [← q7]
  have Lq7 := gz_le q7 Lq6
  have g8 := gz_ap q7 (gz_eq q6 g5)
  obtain ⟨z9, q9⟩ : ∃ h : aH, (z7.1.set 146 (.inr (8, [.null, .null, .int 0, .int (-1), .int (-1), .int 0, .ref 147, .null, .null, .null, .null, .null, .null])), z7.2) = h := ⟨_, rfl⟩
  have U9 : z9.2 = z7.2 := by rw [← q9]
  have Lq9 := gz_ls q9 Lq7
  obtain ⟨z10, q10⟩ : ∃ h : aH, (z9.1 ++ ([.inl (0, Int32.toNatClampNeg 300, azero 0)] : List aC), z9.2 + Int32.toNatClampNeg 300) = h := ⟨_, rfl⟩
  have U10 : z10.2 = z9.2 + Int32.toNatClampNeg 300 := by rw [← q10]
  have Lq10 := gz_le q10 Lq9
  have g11 := gz_ap q10 (gz_eq q9 g8)
  obtain ⟨z12, q12⟩ : ∃ h : aH, (z10.1.set 146 (.inr (8, [.null, .null, .int 0, .int (-1), .int (-1), .int 0, .ref 147, .ref 148, .null, .null, .null, .null, .null])), z10.2) = h := ⟨_, rfl⟩
  have U12 : z12.2 = z10.2 := by rw [← q12]
  have Lq12 := gz_ls q12 Lq10
  obtain ⟨z13, q13⟩ : ∃ h : aH, (z12.1 ++ ([.inl (0, Int32.toNatClampNeg 300, azero 0)] : List aC), z12.2 + Int32.toNatClampNeg 300) = h := ⟨_, rfl⟩
  have U13 : z13.2 = z12.2 + Int32.toNatClampNeg 300 := by rw [← q13]
  have Lq13 := gz_le q13 Lq12
  have g14 := gz_ap q13 (gz_eq q12 g11)
  obtain ⟨z15, q15⟩ : ∃ h : aH, (z13.1.set 146 (.inr (8, [.null, .null, .int 0, .int (-1), .int (-1), .int 0, .ref 147, .ref 148, .ref 149, .null, .null, .null, .null])), z13.2) = h := ⟨_, rfl⟩
  have U15 : z15.2 = z13.2 := by rw [← q15]
  have Lq15 := gz_ls q15 Lq13
  obtain ⟨z16, q16⟩ : ∃ h : aH, (z15.1 ++ ([.inl (0, Int32.toNatClampNeg 24, azero 0)] : List aC), z15.2 + Int32.toNatClampNeg 24) = h := ⟨_, rfl⟩
  have U16 : z16.2 = z15.2 + Int32.toNatClampNeg 24 := by rw [← q16]
  have Lq16 := gz_le q16 Lq15
  have g17 := gz_ap q16 (gz_eq q15 g14)
  obtain ⟨z18, q18⟩ : ∃ h : aH, (z16.1.set 146 (.inr (8, [.null, .null, .int 0, .int (-1), .int (-1), .int 0, .ref 147, .ref 148, .ref 149, .ref 150, .null, .null, .null])), z16.2) = h := ⟨_, rfl⟩
  have U18 : z18.2 = z16.2 := by rw [← q18]
  have Lq18 := gz_ls q18 Lq16
  obtain ⟨z19, q19⟩ : ∃ h : aH, (z18.1 ++ ([.inl (0, Int32.toNatClampNeg 150, azero 0)] : List aC), z18.2 + Int32.toNatClampNeg 150) = h := ⟨_, rfl⟩
  have U19 : z19.2 = z18.2 + Int32.toNatClampNeg 150 := by rw [← q19]
  have Lq19 := gz_le q19 Lq18
  have g20 := gz_ap q19 (gz_eq q18 g17)
  obtain ⟨z21, q21⟩ : ∃ h : aH, (z19.1.set 146 (.inr (8, [.null, .null, .int 0, .int (-1), .int (-1), .int 0, .ref 147, .ref 148, .ref 149, .ref 150, .ref 151, .null, .null])), z19.2) = h := ⟨_, rfl⟩
  have U21 : z21.2 = z19.2 := by rw [← q21]
  have Lq21 := gz_ls q21 Lq19
  obtain ⟨z22, q22⟩ : ∃ h : aH, (z21.1 ++ ([.inl (0, Int32.toNatClampNeg 150, azero 0)] : List aC), z21.2 + Int32.toNatClampNeg 150) = h := ⟨_, rfl⟩
  have U22 : z22.2 = z21.2 + Int32.toNatClampNeg 150 := by rw [← q22]
  have Lq22 := gz_le q22 Lq21
  have g23 := gz_ap q22 (gz_eq q21 g20)
  obtain ⟨z24, q24⟩ : ∃ h : aH, (z22.1.set 146 (.inr (8, [.null, .null, .int 0, .int (-1), .int (-1), .int 0, .ref 147, .ref 148, .ref 149, .ref 150, .ref 151, .ref 152, .null])), z22.2) = h := ⟨_, rfl⟩
  have U24 : z24.2 = z22.2 := by rw [← q24]
  have Lq24 := gz_ls q24 Lq22
  obtain ⟨z25, q25⟩ : ∃ h : aH, (z24.1 ++ ([.inl (0, Int32.toNatClampNeg 150, azero 0)] : List aC), z24.2 + Int32.toNatClampNeg 150) = h := ⟨_, rfl⟩
  have U25 : z25.2 = z24.2 + Int32.toNatClampNeg 150 := by rw [← q25]
  have Lq25 := gz_le q25 Lq24
  have g26 := gz_ap q25 (gz_eq q24 g23)
  obtain ⟨z27, q27⟩ : ∃ h : aH, (z25.1.set 146 (.inr (8, [.null, .null, .int 0, .int (-1), .int (-1), .int 0, .ref 147, .ref 148, .ref 149, .ref 150, .ref 151, .ref 152, .ref 153])), z25.2) = h := ⟨_, rfl⟩
  have U27 : z27.2 = z25.2 := by rw [← q27]
  have Lq27 := gz_ls q27 Lq25
  have g28 := gz_eq q27 g26
  obtain ⟨z29, q29⟩ : ∃ h : aH, (z27.1.set 146 (.inr (8, [.ref 1, .null, .int 0, .int (-1), .int (-1), .int 0, .ref 147, .ref 148, .ref 149, .ref 150, .ref 151, .ref 152, .ref 153])), z27.2) = h := ⟨_, rfl⟩
  have U29 : z29.2 = z27.2 := by rw [← q29]
  have Lq29 := gz_ls q29 Lq27
  have g30 := gz_eq q29 g28
  obtain ⟨z31, q31⟩ : ∃ h : aH, (z29.1.set 146 (.inr (8, [.ref 1, .ref 16, .int 0, .int (-1), .int (-1), .int 0, .ref 147, .ref 148, .ref 149, .ref 150, .ref 151, .ref 152, .ref 153])), z29.2) = h := ⟨_, rfl⟩
  have U31 : z31.2 = z29.2 := by rw [← q31]
  have Lq31 := gz_ls q31 Lq29
  have g32 := gz_eq q31 g30
  obtain ⟨z33, q33⟩ : ∃ h : aH, (z31.1.set 146 (.inr (8, [.ref 1, .ref 16, .int x1, .int (-1), .int (-1), .int 0, .ref 147, .ref 148, .ref 149, .ref 150, .ref 151, .ref 152, .ref 153])), z31.2) = h := ⟨_, rfl⟩
  have U33 : z33.2 = z31.2 := by rw [← q33]
  have Lq33 := gz_ls q33 Lq31
  have g34 := gz_ne q33 (gz_ne q31 (gz_ne q29 (gz_ne q27 (gz_ap q25 (gz_ne q24 (gz_ap q22 (gz_ne q21 (gz_ap q19 (gz_ne q18 (gz_ap q16 (gz_ne q15 (gz_ap q13 (gz_ne q12 (gz_ap q10 (gz_ne q9 (gz_ap q7 (gz_ne q6 (gz_ne q4 g2 (by decide)) (by decide))) (by decide))) (by decide))) (by decide))) (by decide))) (by decide))) (by decide))) (by decide)) (by decide)) (by decide)) (by decide)
  have g35 := gz_ne q33 (gz_ne q31 (gz_ne q29 (gz_ne q27 (gz_ap q25 (gz_ne q24 (gz_ap q22 (gz_ne q21 (gz_ap q19 (gz_ne q18 (gz_ap q16 (gz_ne q15 (gz_ap q13 (gz_ne q12 (gz_ap q10 (gz_ne q9 (gz_ap q7 (gz_ne q6 (gz_ne q4 (gz_ap q1 zh42) (by decide)) (by decide))) (by decide))) (by decide))) (by decide))) (by decide))) (by decide))) (by decide))) (by decide)) (by decide)) (by decide)) (by decide)
  obtain ⟨z36, q36⟩ : ∃ h : aH, (z33.1.set 42 (.inl (4, 10, .inr (.inr (.inr (.inr (va_up (fun _ => none) (Int32.toNatClampNeg x1) (some 146))))))), z33.2) = h := ⟨_, rfl⟩
  have U36 : z36.2 = z33.2 := by rw [← q36]
  have g37 := gz_eq q33 g32
  have Lq36 := gz_ls q36 Lq33
  have g38 := gz_ne q36 g37 (by decide)
  obtain ⟨z39, q39⟩ : ∃ h : aH, (z36.1.set 146 (.inr (8, [.ref 1, .ref 16, .int x1, .int 0, .int (-1), .int 0, .ref 147, .ref 148, .ref 149, .ref 150, .ref 151, .ref 152, .ref 153])), z36.2) = h := ⟨_, rfl⟩
  have U39 : z39.2 = z36.2 := by rw [← q39]
  have Lq39 := gz_ls q39 Lq36
  have g40 := gz_eq q39 g38
  obtain ⟨z41, q41⟩ : ∃ h : aH, (z39.1.set 146 (.inr (8, [.ref 1, .ref 16, .int x1, .int 0, .int 0, .int 0, .ref 147, .ref 148, .ref 149, .ref 150, .ref 151, .ref 152, .ref 153])), z39.2) = h := ⟨_, rfl⟩
  have U41 : z41.2 = z39.2 := by rw [← q41]
  have Lq41 := gz_ls q41 Lq39
  have g42 := gz_eq q41 g40
  obtain ⟨z43, q43⟩ : ∃ h : aH, (z41.1.set 146 (.inr (8, [.ref 1, .ref 16, .int x1, .int 0, .int 0, .int 0, .ref 147, .ref 148, .ref 149, .ref 150, .ref 151, .ref 152, .ref 153])), z41.2) = h := ⟨_, rfl⟩
  have U43 : z43.2 = z41.2 := by rw [← q43]
  have Lq43 := gz_ls q43 Lq41
  have g44 := gz_eq q43 g42
  have g45 := gz_ne q43 (gz_ne q41 (gz_ne q39 (gz_ne q36 (gz_ne q33 (gz_ne q31 (gz_ne q29 (gz_ne q27 (gz_ap q25 (gz_ne q24 (gz_ap q22 (gz_ne q21 (gz_ap q19 (gz_ne q18 (gz_ap q16 (gz_ne q15 (gz_ap q13 (gz_ne q12 (gz_ap q10 (gz_ne q9 (gz_ap q7 (gz_ne q6 (gz_ne q4 (gz_ap q1 zh16) (by decide)) (by decide))) (by decide))) (by decide))) (by decide))) (by decide))) (by decide))) (by decide))) (by decide)) (by decide)) (by decide)) (by decide)) (by decide)) (by decide)) (by decide)) (by decide)
  have g47 := gz_ne q43 (gz_ne q41 (gz_ne q39 (gz_ne q36 (gz_ne q33 (gz_ne q31 (gz_ne q29 (gz_ne q27 (gz_ap q25 (gz_ne q24 (gz_ap q22 (gz_ne q21 (gz_ap q19 (gz_ne q18 (gz_ap q16 (gz_ne q15 (gz_ap q13 (gz_ne q12 (gz_la q10 Lq9) (by decide))) (by decide))) (by decide))) (by decide))) (by decide))) (by decide)) (by decide)) (by decide)) (by decide)) (by decide)) (by decide)) (by decide)) (by decide)
  obtain ⟨y46, e_46, -⟩ := fill_int (o := 148) (N := 300) (v := 0) (h := z43) g47 (by decide)
  obtain ⟨z48, q48⟩ : ∃ h : aH, (z43.1.set 148 (.inl (0, 300, .inl (y46))), z43.2) = h := ⟨_, rfl⟩
  have U48 : z48.2 = z43.2 := by rw [← q48]
  rw [q48] at e_46
  have Lq48 := gz_ls q48 Lq43
  have g49 := gz_ne q48 g44 (by decide)
  have g50 := gz_ne q48 (gz_ne q43 (gz_ne q41 (gz_ne q39 (gz_ne q36 (gz_ne q33 (gz_ne q31 (gz_ne q29 (gz_ne q27 (gz_ap q25 (gz_ne q24 (gz_ap q22 (gz_ne q21 (gz_ap q19 (gz_ne q18 (gz_la q16 Lq15) (by decide))) (by decide))) (by decide))) (by decide)) (by decide)) (by decide)) (by decide)) (by decide)) (by decide)) (by decide)) (by decide)) (by decide)
  obtain ⟨z51, q51⟩ : ∃ h : aH, (z48.1.set 150 (.inl (0, 24, .inl (upd (fun _ => 0) (Int32.toNatClampNeg 0) 0))), z48.2) = h := ⟨_, rfl⟩
  have U51 : z51.2 = z48.2 := by rw [← q51]
  have Lq51 := gz_ls q51 Lq48
  have g52 := gz_ne q51 g49 (by decide)
  have g53 := gz_eq q51 g50
  have g54 := gz_ne q51 (gz_ne q48 g45 (by decide)) (by decide)
  obtain ⟨z55, q55⟩ : ∃ h : aH, (z51.1.set 150 (.inl (0, 24, .inl (upd (upd (fun _ => 0) (Int32.toNatClampNeg 0) 0) (Int32.toNatClampNeg 1) 0))), z51.2) = h := ⟨_, rfl⟩
  have U55 : z55.2 = z51.2 := by rw [← q55]
  have Lq55 := gz_ls q55 Lq51
  have g56 := gz_ne q55 g52 (by decide)
  have g57 := gz_eq q55 g53
  have g58 := gz_ne q55 g54 (by decide)
  obtain ⟨z59, q59⟩ : ∃ h : aH, (z55.1.set 150 (.inl (0, 24, .inl (upd (upd (upd (fun _ => 0) (Int32.toNatClampNeg 0) 0) (Int32.toNatClampNeg 1) 0) (Int32.toNatClampNeg 2) 0))), z55.2) = h := ⟨_, rfl⟩
  have U59 : z59.2 = z55.2 := by rw [← q59]
  have Lq59 := gz_ls q59 Lq55
  have g60 := gz_ne q59 g56 (by decide)
  have g61 := gz_eq q59 g57
  have g62 := gz_ne q59 g58 (by decide)
  obtain ⟨z63, q63⟩ : ∃ h : aH, (z59.1.set 150 (.inl (0, 24, .inl (upd (upd (upd (upd (fun _ => 0) (Int32.toNatClampNeg 0) 0) (Int32.toNatClampNeg 1) 0) (Int32.toNatClampNeg 2) 0) (Int32.toNatClampNeg 3) 0))), z59.2) = h := ⟨_, rfl⟩
  have U63 : z63.2 = z59.2 := by rw [← q63]
  have Lq63 := gz_ls q63 Lq59
  have g64 := gz_ne q63 g60 (by decide)
  have g65 := gz_eq q63 g61
  have g66 := gz_ne q63 g62 (by decide)
  obtain ⟨z67, q67⟩ : ∃ h : aH, (z63.1.set 150 (.inl (0, 24, .inl (upd (upd (upd (upd (upd (fun _ => 0) (Int32.toNatClampNeg 0) 0) (Int32.toNatClampNeg 1) 0) (Int32.toNatClampNeg 2) 0) (Int32.toNatClampNeg 3) 0) (Int32.toNatClampNeg 4) 0))), z63.2) = h := ⟨_, rfl⟩
  have U67 : z67.2 = z63.2 := by rw [← q67]
  have Lq67 := gz_ls q67 Lq63
  have g68 := gz_ne q67 g64 (by decide)
  have g69 := gz_eq q67 g65
  have g70 := gz_ne q67 g66 (by decide)
  obtain ⟨z71, q71⟩ : ∃ h : aH, (z67.1.set 150 (.inl (0, 24, .inl (upd (upd (upd (upd (upd (upd (fun _ => 0) (Int32.toNatClampNeg 0) 0) (Int32.toNatClampNeg 1) 0) (Int32.toNatClampNeg 2) 0) (Int32.toNatClampNeg 3) 0) (Int32.toNatClampNeg 4) 0) (Int32.toNatClampNeg 5) 0))), z67.2) = h := ⟨_, rfl⟩
  have U71 : z71.2 = z67.2 := by rw [← q71]
  have Lq71 := gz_ls q71 Lq67
  have g72 := gz_ne q71 g68 (by decide)
  have g73 := gz_eq q71 g69
  have g74 := gz_ne q71 g70 (by decide)
  obtain ⟨z75, q75⟩ : ∃ h : aH, (z71.1.set 150 (.inl (0, 24, .inl (upd (upd (upd (upd (upd (upd (upd (fun _ => 0) (Int32.toNatClampNeg 0) 0) (Int32.toNatClampNeg 1) 0) (Int32.toNatClampNeg 2) 0) (Int32.toNatClampNeg 3) 0) (Int32.toNatClampNeg 4) 0) (Int32.toNatClampNeg 5) 0) (Int32.toNatClampNeg 6) 0))), z71.2) = h := ⟨_, rfl⟩
  have U75 : z75.2 = z71.2 := by rw [← q75]
  have Lq75 := gz_ls q75 Lq71
  have g76 := gz_ne q75 g72 (by decide)
  have g77 := gz_eq q75 g73
  have g78 := gz_ne q75 g74 (by decide)
  obtain ⟨z79, q79⟩ : ∃ h : aH, (z75.1.set 150 (.inl (0, 24, .inl (upd (upd (upd (upd (upd (upd (upd (upd (fun _ => 0) (Int32.toNatClampNeg 0) 0) (Int32.toNatClampNeg 1) 0) (Int32.toNatClampNeg 2) 0) (Int32.toNatClampNeg 3) 0) (Int32.toNatClampNeg 4) 0) (Int32.toNatClampNeg 5) 0) (Int32.toNatClampNeg 6) 0) (Int32.toNatClampNeg 7) 0))), z75.2) = h := ⟨_, rfl⟩
  have U79 : z79.2 = z75.2 := by rw [← q79]
  have Lq79 := gz_ls q79 Lq75
  have g80 := gz_ne q79 g76 (by decide)
  have g81 := gz_eq q79 g77
  have g82 := gz_ne q79 g78 (by decide)
  obtain ⟨z83, q83⟩ : ∃ h : aH, (z79.1.set 150 (.inl (0, 24, .inl (upd (upd (upd (upd (upd (upd (upd (upd (upd (fun _ => 0) (Int32.toNatClampNeg 0) 0) (Int32.toNatClampNeg 1) 0) (Int32.toNatClampNeg 2) 0) (Int32.toNatClampNeg 3) 0) (Int32.toNatClampNeg 4) 0) (Int32.toNatClampNeg 5) 0) (Int32.toNatClampNeg 6) 0) (Int32.toNatClampNeg 7) 0) (Int32.toNatClampNeg 8) 0))), z79.2) = h := ⟨_, rfl⟩
  have U83 : z83.2 = z79.2 := by rw [← q83]
  have Lq83 := gz_ls q83 Lq79
  have g84 := gz_ne q83 g80 (by decide)
  have g85 := gz_eq q83 g81
  have g86 := gz_ne q83 g82 (by decide)
  obtain ⟨z87, q87⟩ : ∃ h : aH, (z83.1.set 150 (.inl (0, 24, .inl (upd (upd (upd (upd (upd (upd (upd (upd (upd (upd (fun _ => 0) (Int32.toNatClampNeg 0) 0) (Int32.toNatClampNeg 1) 0) (Int32.toNatClampNeg 2) 0) (Int32.toNatClampNeg 3) 0) (Int32.toNatClampNeg 4) 0) (Int32.toNatClampNeg 5) 0) (Int32.toNatClampNeg 6) 0) (Int32.toNatClampNeg 7) 0) (Int32.toNatClampNeg 8) 0) (Int32.toNatClampNeg 9) 0))), z83.2) = h := ⟨_, rfl⟩
  have U87 : z87.2 = z83.2 := by rw [← q87]
  have Lq87 := gz_ls q87 Lq83
  have g88 := gz_ne q87 g84 (by decide)
  have g89 := gz_eq q87 g85
  have g90 := gz_ne q87 g86 (by decide)
  obtain ⟨z91, q91⟩ : ∃ h : aH, (z87.1.set 150 (.inl (0, 24, .inl (upd (upd (upd (upd (upd (upd (upd (upd (upd (upd (upd (fun _ => 0) (Int32.toNatClampNeg 0) 0) (Int32.toNatClampNeg 1) 0) (Int32.toNatClampNeg 2) 0) (Int32.toNatClampNeg 3) 0) (Int32.toNatClampNeg 4) 0) (Int32.toNatClampNeg 5) 0) (Int32.toNatClampNeg 6) 0) (Int32.toNatClampNeg 7) 0) (Int32.toNatClampNeg 8) 0) (Int32.toNatClampNeg 9) 0) (Int32.toNatClampNeg 10) 0))), z87.2) = h := ⟨_, rfl⟩
  have U91 : z91.2 = z87.2 := by rw [← q91]
  have Lq91 := gz_ls q91 Lq87
  have g92 := gz_ne q91 g88 (by decide)
  have g93 := gz_eq q91 g89
  have g94 := gz_ne q91 g90 (by decide)
  obtain ⟨z95, q95⟩ : ∃ h : aH, (z91.1.set 150 (.inl (0, 24, .inl (upd (upd (upd (upd (upd (upd (upd (upd (upd (upd (upd (upd (fun _ => 0) (Int32.toNatClampNeg 0) 0) (Int32.toNatClampNeg 1) 0) (Int32.toNatClampNeg 2) 0) (Int32.toNatClampNeg 3) 0) (Int32.toNatClampNeg 4) 0) (Int32.toNatClampNeg 5) 0) (Int32.toNatClampNeg 6) 0) (Int32.toNatClampNeg 7) 0) (Int32.toNatClampNeg 8) 0) (Int32.toNatClampNeg 9) 0) (Int32.toNatClampNeg 10) 0) (Int32.toNatClampNeg 11) 0))), z91.2) = h := ⟨_, rfl⟩
  have U95 : z95.2 = z91.2 := by rw [← q95]
  have Lq95 := gz_ls q95 Lq91
  have g96 := gz_ne q95 g92 (by decide)
  have g97 := gz_eq q95 g93
  have g98 := gz_ne q95 g94 (by decide)
  obtain ⟨z99, q99⟩ : ∃ h : aH, (z95.1.set 150 (.inl (0, 24, .inl (upd (upd (upd (upd (upd (upd (upd (upd (upd (upd (upd (upd (upd (fun _ => 0) (Int32.toNatClampNeg 0) 0) (Int32.toNatClampNeg 1) 0) (Int32.toNatClampNeg 2) 0) (Int32.toNatClampNeg 3) 0) (Int32.toNatClampNeg 4) 0) (Int32.toNatClampNeg 5) 0) (Int32.toNatClampNeg 6) 0) (Int32.toNatClampNeg 7) 0) (Int32.toNatClampNeg 8) 0) (Int32.toNatClampNeg 9) 0) (Int32.toNatClampNeg 10) 0) (Int32.toNatClampNeg 11) 0) (Int32.toNatClampNeg 12) 0))), z95.2) = h := ⟨_, rfl⟩
  have U99 : z99.2 = z95.2 := by rw [← q99]
  have Lq99 := gz_ls q99 Lq95
  have g100 := gz_ne q99 g96 (by decide)
  have g101 := gz_eq q99 g97
  have g102 := gz_ne q99 g98 (by decide)
  obtain ⟨z103, q103⟩ : ∃ h : aH, (z99.1.set 150 (.inl (0, 24, .inl (upd (upd (upd (upd (upd (upd (upd (upd (upd (upd (upd (upd (upd (upd (fun _ => 0) (Int32.toNatClampNeg 0) 0) (Int32.toNatClampNeg 1) 0) (Int32.toNatClampNeg 2) 0) (Int32.toNatClampNeg 3) 0) (Int32.toNatClampNeg 4) 0) (Int32.toNatClampNeg 5) 0) (Int32.toNatClampNeg 6) 0) (Int32.toNatClampNeg 7) 0) (Int32.toNatClampNeg 8) 0) (Int32.toNatClampNeg 9) 0) (Int32.toNatClampNeg 10) 0) (Int32.toNatClampNeg 11) 0) (Int32.toNatClampNeg 12) 0) (Int32.toNatClampNeg 13) 0))), z99.2) = h := ⟨_, rfl⟩
  have U103 : z103.2 = z99.2 := by rw [← q103]
  have Lq103 := gz_ls q103 Lq99
  have g104 := gz_ne q103 g100 (by decide)
  have g105 := gz_eq q103 g101
  have g106 := gz_ne q103 g102 (by decide)
  obtain ⟨z107, q107⟩ : ∃ h : aH, (z103.1.set 150 (.inl (0, 24, .inl (upd (upd (upd (upd (upd (upd (upd (upd (upd (upd (upd (upd (upd (upd (upd (fun _ => 0) (Int32.toNatClampNeg 0) 0) (Int32.toNatClampNeg 1) 0) (Int32.toNatClampNeg 2) 0) (Int32.toNatClampNeg 3) 0) (Int32.toNatClampNeg 4) 0) (Int32.toNatClampNeg 5) 0) (Int32.toNatClampNeg 6) 0) (Int32.toNatClampNeg 7) 0) (Int32.toNatClampNeg 8) 0) (Int32.toNatClampNeg 9) 0) (Int32.toNatClampNeg 10) 0) (Int32.toNatClampNeg 11) 0) (Int32.toNatClampNeg 12) 0) (Int32.toNatClampNeg 13) 0) (Int32.toNatClampNeg 14) 0))), z103.2) = h := ⟨_, rfl⟩
  have U107 : z107.2 = z103.2 := by rw [← q107]
  have Lq107 := gz_ls q107 Lq103
  have g108 := gz_ne q107 g104 (by decide)
  have g109 := gz_eq q107 g105
  have g110 := gz_ne q107 g106 (by decide)
  obtain ⟨z111, q111⟩ : ∃ h : aH, (z107.1.set 150 (.inl (0, 24, .inl (upd (upd (upd (upd (upd (upd (upd (upd (upd (upd (upd (upd (upd (upd (upd (upd (fun _ => 0) (Int32.toNatClampNeg 0) 0) (Int32.toNatClampNeg 1) 0) (Int32.toNatClampNeg 2) 0) (Int32.toNatClampNeg 3) 0) (Int32.toNatClampNeg 4) 0) (Int32.toNatClampNeg 5) 0) (Int32.toNatClampNeg 6) 0) (Int32.toNatClampNeg 7) 0) (Int32.toNatClampNeg 8) 0) (Int32.toNatClampNeg 9) 0) (Int32.toNatClampNeg 10) 0) (Int32.toNatClampNeg 11) 0) (Int32.toNatClampNeg 12) 0) (Int32.toNatClampNeg 13) 0) (Int32.toNatClampNeg 14) 0) (Int32.toNatClampNeg 15) 0))), z107.2) = h := ⟨_, rfl⟩
  have U111 : z111.2 = z107.2 := by rw [← q111]
  have Lq111 := gz_ls q111 Lq107
  have g112 := gz_ne q111 g108 (by decide)
  have g113 := gz_eq q111 g109
  have g114 := gz_ne q111 g110 (by decide)
  obtain ⟨z115, q115⟩ : ∃ h : aH, (z111.1.set 150 (.inl (0, 24, .inl (upd (upd (upd (upd (upd (upd (upd (upd (upd (upd (upd (upd (upd (upd (upd (upd (upd (fun _ => 0) (Int32.toNatClampNeg 0) 0) (Int32.toNatClampNeg 1) 0) (Int32.toNatClampNeg 2) 0) (Int32.toNatClampNeg 3) 0) (Int32.toNatClampNeg 4) 0) (Int32.toNatClampNeg 5) 0) (Int32.toNatClampNeg 6) 0) (Int32.toNatClampNeg 7) 0) (Int32.toNatClampNeg 8) 0) (Int32.toNatClampNeg 9) 0) (Int32.toNatClampNeg 10) 0) (Int32.toNatClampNeg 11) 0) (Int32.toNatClampNeg 12) 0) (Int32.toNatClampNeg 13) 0) (Int32.toNatClampNeg 14) 0) (Int32.toNatClampNeg 15) 0) (Int32.toNatClampNeg 16) 0))), z111.2) = h := ⟨_, rfl⟩
  have U115 : z115.2 = z111.2 := by rw [← q115]
  have Lq115 := gz_ls q115 Lq111
  have g116 := gz_ne q115 g112 (by decide)
  have g117 := gz_eq q115 g113
  have g118 := gz_ne q115 g114 (by decide)
  obtain ⟨z119, q119⟩ : ∃ h : aH, (z115.1.set 150 (.inl (0, 24, .inl (upd (upd (upd (upd (upd (upd (upd (upd (upd (upd (upd (upd (upd (upd (upd (upd (upd (upd (fun _ => 0) (Int32.toNatClampNeg 0) 0) (Int32.toNatClampNeg 1) 0) (Int32.toNatClampNeg 2) 0) (Int32.toNatClampNeg 3) 0) (Int32.toNatClampNeg 4) 0) (Int32.toNatClampNeg 5) 0) (Int32.toNatClampNeg 6) 0) (Int32.toNatClampNeg 7) 0) (Int32.toNatClampNeg 8) 0) (Int32.toNatClampNeg 9) 0) (Int32.toNatClampNeg 10) 0) (Int32.toNatClampNeg 11) 0) (Int32.toNatClampNeg 12) 0) (Int32.toNatClampNeg 13) 0) (Int32.toNatClampNeg 14) 0) (Int32.toNatClampNeg 15) 0) (Int32.toNatClampNeg 16) 0) (Int32.toNatClampNeg 17) 0))), z115.2) = h := ⟨_, rfl⟩
  have U119 : z119.2 = z115.2 := by rw [← q119]
  have Lq119 := gz_ls q119 Lq115
  have g120 := gz_ne q119 g116 (by decide)
  have g121 := gz_eq q119 g117
  have g122 := gz_ne q119 g118 (by decide)
  obtain ⟨z123, q123⟩ : ∃ h : aH, (z119.1.set 150 (.inl (0, 24, .inl (upd (upd (upd (upd (upd (upd (upd (upd (upd (upd (upd (upd (upd (upd (upd (upd (upd (upd (upd (fun _ => 0) (Int32.toNatClampNeg 0) 0) (Int32.toNatClampNeg 1) 0) (Int32.toNatClampNeg 2) 0) (Int32.toNatClampNeg 3) 0) (Int32.toNatClampNeg 4) 0) (Int32.toNatClampNeg 5) 0) (Int32.toNatClampNeg 6) 0) (Int32.toNatClampNeg 7) 0) (Int32.toNatClampNeg 8) 0) (Int32.toNatClampNeg 9) 0) (Int32.toNatClampNeg 10) 0) (Int32.toNatClampNeg 11) 0) (Int32.toNatClampNeg 12) 0) (Int32.toNatClampNeg 13) 0) (Int32.toNatClampNeg 14) 0) (Int32.toNatClampNeg 15) 0) (Int32.toNatClampNeg 16) 0) (Int32.toNatClampNeg 17) 0) (Int32.toNatClampNeg 18) 0))), z119.2) = h := ⟨_, rfl⟩
  have U123 : z123.2 = z119.2 := by rw [← q123]
  have Lq123 := gz_ls q123 Lq119
  have g124 := gz_ne q123 g120 (by decide)
  have g125 := gz_eq q123 g121
  have g126 := gz_ne q123 g122 (by decide)
  obtain ⟨z127, q127⟩ : ∃ h : aH, (z123.1.set 150 (.inl (0, 24, .inl (upd (upd (upd (upd (upd (upd (upd (upd (upd (upd (upd (upd (upd (upd (upd (upd (upd (upd (upd (upd (fun _ => 0) (Int32.toNatClampNeg 0) 0) (Int32.toNatClampNeg 1) 0) (Int32.toNatClampNeg 2) 0) (Int32.toNatClampNeg 3) 0) (Int32.toNatClampNeg 4) 0) (Int32.toNatClampNeg 5) 0) (Int32.toNatClampNeg 6) 0) (Int32.toNatClampNeg 7) 0) (Int32.toNatClampNeg 8) 0) (Int32.toNatClampNeg 9) 0) (Int32.toNatClampNeg 10) 0) (Int32.toNatClampNeg 11) 0) (Int32.toNatClampNeg 12) 0) (Int32.toNatClampNeg 13) 0) (Int32.toNatClampNeg 14) 0) (Int32.toNatClampNeg 15) 0) (Int32.toNatClampNeg 16) 0) (Int32.toNatClampNeg 17) 0) (Int32.toNatClampNeg 18) 0) (Int32.toNatClampNeg 19) 0))), z123.2) = h := ⟨_, rfl⟩
  have U127 : z127.2 = z123.2 := by rw [← q127]
  have Lq127 := gz_ls q127 Lq123
  have g128 := gz_ne q127 g124 (by decide)
  have g129 := gz_eq q127 g125
  have g130 := gz_ne q127 g126 (by decide)
  obtain ⟨z131, q131⟩ : ∃ h : aH, (z127.1.set 150 (.inl (0, 24, .inl (upd (upd (upd (upd (upd (upd (upd (upd (upd (upd (upd (upd (upd (upd (upd (upd (upd (upd (upd (upd (upd (fun _ => 0) (Int32.toNatClampNeg 0) 0) (Int32.toNatClampNeg 1) 0) (Int32.toNatClampNeg 2) 0) (Int32.toNatClampNeg 3) 0) (Int32.toNatClampNeg 4) 0) (Int32.toNatClampNeg 5) 0) (Int32.toNatClampNeg 6) 0) (Int32.toNatClampNeg 7) 0) (Int32.toNatClampNeg 8) 0) (Int32.toNatClampNeg 9) 0) (Int32.toNatClampNeg 10) 0) (Int32.toNatClampNeg 11) 0) (Int32.toNatClampNeg 12) 0) (Int32.toNatClampNeg 13) 0) (Int32.toNatClampNeg 14) 0) (Int32.toNatClampNeg 15) 0) (Int32.toNatClampNeg 16) 0) (Int32.toNatClampNeg 17) 0) (Int32.toNatClampNeg 18) 0) (Int32.toNatClampNeg 19) 0) (Int32.toNatClampNeg 20) 0))), z127.2) = h := ⟨_, rfl⟩
  have U131 : z131.2 = z127.2 := by rw [← q131]
  have Lq131 := gz_ls q131 Lq127
  have g132 := gz_ne q131 g128 (by decide)
  have g133 := gz_eq q131 g129
  have g134 := gz_ne q131 g130 (by decide)
  obtain ⟨z135, q135⟩ : ∃ h : aH, (z131.1.set 150 (.inl (0, 24, .inl (upd (upd (upd (upd (upd (upd (upd (upd (upd (upd (upd (upd (upd (upd (upd (upd (upd (upd (upd (upd (upd (upd (fun _ => 0) (Int32.toNatClampNeg 0) 0) (Int32.toNatClampNeg 1) 0) (Int32.toNatClampNeg 2) 0) (Int32.toNatClampNeg 3) 0) (Int32.toNatClampNeg 4) 0) (Int32.toNatClampNeg 5) 0) (Int32.toNatClampNeg 6) 0) (Int32.toNatClampNeg 7) 0) (Int32.toNatClampNeg 8) 0) (Int32.toNatClampNeg 9) 0) (Int32.toNatClampNeg 10) 0) (Int32.toNatClampNeg 11) 0) (Int32.toNatClampNeg 12) 0) (Int32.toNatClampNeg 13) 0) (Int32.toNatClampNeg 14) 0) (Int32.toNatClampNeg 15) 0) (Int32.toNatClampNeg 16) 0) (Int32.toNatClampNeg 17) 0) (Int32.toNatClampNeg 18) 0) (Int32.toNatClampNeg 19) 0) (Int32.toNatClampNeg 20) 0) (Int32.toNatClampNeg 21) 0))), z131.2) = h := ⟨_, rfl⟩
  have U135 : z135.2 = z131.2 := by rw [← q135]
  have Lq135 := gz_ls q135 Lq131
  have g136 := gz_ne q135 g132 (by decide)
  have g137 := gz_eq q135 g133
  have g138 := gz_ne q135 g134 (by decide)
  obtain ⟨z139, q139⟩ : ∃ h : aH, (z135.1.set 150 (.inl (0, 24, .inl (upd (upd (upd (upd (upd (upd (upd (upd (upd (upd (upd (upd (upd (upd (upd (upd (upd (upd (upd (upd (upd (upd (upd (fun _ => 0) (Int32.toNatClampNeg 0) 0) (Int32.toNatClampNeg 1) 0) (Int32.toNatClampNeg 2) 0) (Int32.toNatClampNeg 3) 0) (Int32.toNatClampNeg 4) 0) (Int32.toNatClampNeg 5) 0) (Int32.toNatClampNeg 6) 0) (Int32.toNatClampNeg 7) 0) (Int32.toNatClampNeg 8) 0) (Int32.toNatClampNeg 9) 0) (Int32.toNatClampNeg 10) 0) (Int32.toNatClampNeg 11) 0) (Int32.toNatClampNeg 12) 0) (Int32.toNatClampNeg 13) 0) (Int32.toNatClampNeg 14) 0) (Int32.toNatClampNeg 15) 0) (Int32.toNatClampNeg 16) 0) (Int32.toNatClampNeg 17) 0) (Int32.toNatClampNeg 18) 0) (Int32.toNatClampNeg 19) 0) (Int32.toNatClampNeg 20) 0) (Int32.toNatClampNeg 21) 0) (Int32.toNatClampNeg 22) 0))), z135.2) = h := ⟨_, rfl⟩
  have U139 : z139.2 = z135.2 := by rw [← q139]
  have Lq139 := gz_ls q139 Lq135
  have g140 := gz_ne q139 g136 (by decide)
  have g141 := gz_eq q139 g137
  have g142 := gz_ne q139 g138 (by decide)
  obtain ⟨z143, q143⟩ : ∃ h : aH, (z139.1.set 150 (.inl (0, 24, .inl (upd (upd (upd (upd (upd (upd (upd (upd (upd (upd (upd (upd (upd (upd (upd (upd (upd (upd (upd (upd (upd (upd (upd (upd (fun _ => 0) (Int32.toNatClampNeg 0) 0) (Int32.toNatClampNeg 1) 0) (Int32.toNatClampNeg 2) 0) (Int32.toNatClampNeg 3) 0) (Int32.toNatClampNeg 4) 0) (Int32.toNatClampNeg 5) 0) (Int32.toNatClampNeg 6) 0) (Int32.toNatClampNeg 7) 0) (Int32.toNatClampNeg 8) 0) (Int32.toNatClampNeg 9) 0) (Int32.toNatClampNeg 10) 0) (Int32.toNatClampNeg 11) 0) (Int32.toNatClampNeg 12) 0) (Int32.toNatClampNeg 13) 0) (Int32.toNatClampNeg 14) 0) (Int32.toNatClampNeg 15) 0) (Int32.toNatClampNeg 16) 0) (Int32.toNatClampNeg 17) 0) (Int32.toNatClampNeg 18) 0) (Int32.toNatClampNeg 19) 0) (Int32.toNatClampNeg 20) 0) (Int32.toNatClampNeg 21) 0) (Int32.toNatClampNeg 22) 0) (Int32.toNatClampNeg 23) 0))), z139.2) = h := ⟨_, rfl⟩
  have U143 : z143.2 = z139.2 := by rw [← q143]
  have Lq143 := gz_ls q143 Lq139
  have g144 := gz_ne q143 g140 (by decide)
  have g145 := gz_eq q143 g141
  have g146 := gz_ne q143 g142 (by decide)
  have g148 := gz_ne q143 (gz_ne q139 (gz_ne q135 (gz_ne q131 (gz_ne q127 (gz_ne q123 (gz_ne q119 (gz_ne q115 (gz_ne q111 (gz_ne q107 (gz_ne q103 (gz_ne q99 (gz_ne q95 (gz_ne q91 (gz_ne q87 (gz_ne q83 (gz_ne q79 (gz_ne q75 (gz_ne q71 (gz_ne q67 (gz_ne q63 (gz_ne q59 (gz_ne q55 (gz_ne q51 (gz_ne q48 (gz_ne q43 (gz_ne q41 (gz_ne q39 (gz_ne q36 (gz_ne q33 (gz_ne q31 (gz_ne q29 (gz_ne q27 (gz_ap q25 (gz_ne q24 (gz_ap q22 (gz_ne q21 (gz_la q19 Lq18) (by decide))) (by decide))) (by decide)) (by decide)) (by decide)) (by decide)) (by decide)) (by decide)) (by decide)) (by decide)) (by decide)) (by decide)) (by decide)) (by decide)) (by decide)) (by decide)) (by decide)) (by decide)) (by decide)) (by decide)) (by decide)) (by decide)) (by decide)) (by decide)) (by decide)) (by decide)) (by decide)) (by decide)) (by decide)) (by decide)) (by decide)) (by decide)) (by decide)) (by decide)) (by decide)
  obtain ⟨y147, e_147, -⟩ := fill_int (o := 151) (N := 150) (v := 0) (h := z143) g148 (by decide)
  obtain ⟨z149, q149⟩ : ∃ h : aH, (z143.1.set 151 (.inl (0, 150, .inl (y147))), z143.2) = h := ⟨_, rfl⟩
  have U149 : z149.2 = z143.2 := by rw [← q149]
  rw [q149] at e_147
  have Lq149 := gz_ls q149 Lq143
  have g150 := gz_ne q149 g144 (by decide)
  have g152 := gz_ne q149 (gz_ne q143 (gz_ne q139 (gz_ne q135 (gz_ne q131 (gz_ne q127 (gz_ne q123 (gz_ne q119 (gz_ne q115 (gz_ne q111 (gz_ne q107 (gz_ne q103 (gz_ne q99 (gz_ne q95 (gz_ne q91 (gz_ne q87 (gz_ne q83 (gz_ne q79 (gz_ne q75 (gz_ne q71 (gz_ne q67 (gz_ne q63 (gz_ne q59 (gz_ne q55 (gz_ne q51 (gz_ne q48 (gz_ne q43 (gz_ne q41 (gz_ne q39 (gz_ne q36 (gz_ne q33 (gz_ne q31 (gz_ne q29 (gz_ne q27 (gz_ap q25 (gz_ne q24 (gz_la q22 Lq21) (by decide))) (by decide)) (by decide)) (by decide)) (by decide)) (by decide)) (by decide)) (by decide)) (by decide)) (by decide)) (by decide)) (by decide)) (by decide)) (by decide)) (by decide)) (by decide)) (by decide)) (by decide)) (by decide)) (by decide)) (by decide)) (by decide)) (by decide)) (by decide)) (by decide)) (by decide)) (by decide)) (by decide)) (by decide)) (by decide)) (by decide)) (by decide)) (by decide)) (by decide)) (by decide)
  obtain ⟨y151, e_151, -⟩ := fill_int (o := 152) (N := 150) (v := 0) (h := z149) g152 (by decide)
  obtain ⟨z153, q153⟩ : ∃ h : aH, (z149.1.set 152 (.inl (0, 150, .inl (y151))), z149.2) = h := ⟨_, rfl⟩
  have U153 : z153.2 = z149.2 := by rw [← q153]
  rw [q153] at e_151
  have Lq153 := gz_ls q153 Lq149
  have g154 := gz_ne q153 g150 (by decide)
  have g156 := gz_ne q153 (gz_ne q149 (gz_ne q143 (gz_ne q139 (gz_ne q135 (gz_ne q131 (gz_ne q127 (gz_ne q123 (gz_ne q119 (gz_ne q115 (gz_ne q111 (gz_ne q107 (gz_ne q103 (gz_ne q99 (gz_ne q95 (gz_ne q91 (gz_ne q87 (gz_ne q83 (gz_ne q79 (gz_ne q75 (gz_ne q71 (gz_ne q67 (gz_ne q63 (gz_ne q59 (gz_ne q55 (gz_ne q51 (gz_ne q48 (gz_ne q43 (gz_ne q41 (gz_ne q39 (gz_ne q36 (gz_ne q33 (gz_ne q31 (gz_ne q29 (gz_ne q27 (gz_la q25 Lq24) (by decide)) (by decide)) (by decide)) (by decide)) (by decide)) (by decide)) (by decide)) (by decide)) (by decide)) (by decide)) (by decide)) (by decide)) (by decide)) (by decide)) (by decide)) (by decide)) (by decide)) (by decide)) (by decide)) (by decide)) (by decide)) (by decide)) (by decide)) (by decide)) (by decide)) (by decide)) (by decide)) (by decide)) (by decide)) (by decide)) (by decide)) (by decide)) (by decide)) (by decide)) (by decide)
  obtain ⟨y155, e_155, -⟩ := fill_int (o := 153) (N := 150) (v := (-1)) (h := z153) g156 (by decide)
  obtain ⟨z157, q157⟩ : ∃ h : aH, (z153.1.set 153 (.inl (0, 150, .inl (y155))), z153.2) = h := ⟨_, rfl⟩
  have U157 : z157.2 = z153.2 := by rw [← q157]
  rw [q157] at e_155
  have Lq157 := gz_ls q157 Lq153
  have g158 := gz_ne q157 g154 (by decide)
  refine ⟨z157, fun X n d => ?_, ?_, ?_, fun k c k1 k2 hk => ?_⟩
  ·
    refine (r_aloadn f1_0 rfl).trans ?_
    refine (r_get (v := .ref 1) f1_1 zh41 rfl).trans ?_
    refine (r_get (v := .int 0) f1_4 zh1 rfl).trans ?_
    refine (r_aloadn f1_7 rfl).trans ?_
    refine (r_get (v := .ref 1) f1_8 zh41 rfl).trans ?_
    refine (r_get (v := .int 0) f1_11 zh1 rfl).trans ?_
    refine (r_iadd (v := 0) f1_14 (by decide)).trans ?_
    refine (r_aloadn f1_15 rfl).trans ?_
    refine (r_get (v := .ref 16) f1_16 zh41 rfl).trans ?_
    refine (r_get (v := .int 0) f1_19 zh16 rfl).trans ?_
    refine (r_iadd (v := 0) f1_22 (by decide)).trans ?_
    refine (r_aloadn f1_23 rfl).trans ?_
    refine (r_get (v := .ref 16) f1_24 zh41 rfl).trans ?_
    refine (r_get (v := .int 0) f1_27 zh16 rfl).trans ?_
    refine (r_iadd (v := 0) f1_30 (by decide)).trans ?_
    refine (r_aloadn f1_31 rfl).trans ?_
    refine (r_get (v := .ref 16) f1_32 zh41 rfl).trans ?_
    refine (r_get (v := .int 0) f1_35 zh16 rfl).trans ?_
    refine (r_iadd (v := 0) f1_38 (by decide)).trans ?_
    refine (r_istoren (L' := [some (.ref 41), some (.int x1), some (.int 0), some (.int 0), none]) f1_39 rfl rfl).trans ?_
    refine (r_aloadn f1_40 rfl).trans ?_
    refine (r_get (v := .ref 42) f1_41 zh41 rfl).trans ?_
    refine (r_iloadn f1_44 rfl).trans ?_
    refine (r_aald4 (v := .null) f1_45 zh42 jc0 rfl).trans ?_
    refine (r_astoreN (L' := [some (.ref 41), some (.int x1), some (.int 0), some (.int 0), some (.null)]) f1_46 rfl rfl).trans ?_
    refine (r_aloadN f1_48 rfl).trans ?_
    refine (r_ifnonnull_n f1_50).trans ?_
    refine (r_new (o := 146) (h' := z1) f1_53 zH0_len q1).trans ?_
    refine (r_dup f1_56 rfl).trans ?_
    refine (r_aloadn f1_57 rfl).trans ?_
    refine (r_get (v := .ref 1) f1_58 g2 rfl).trans ?_
    refine (r_aloadn f1_61 rfl).trans ?_
    refine (r_get (v := .ref 16) f1_62 g2 rfl).trans ?_
    refine (r_iloadn f1_65 rfl).trans ?_
    have hc1 : arun X (n + 5965) (d + 9) zM96 0 [some (.ref 146), some (.ref 1), some (.ref 16), some (.int x1)] [] z1 = some (none, z33) := by
      refine (r_aloadn f96_0 rfl).trans ?_
      refine (r_obj f96_1 rfl rfl).trans ?_
      refine (r_aloadn f96_4 rfl).trans ?_
      refine (r_iconst (v := (-1)) f96_5 rfl).trans ?_
      refine (r_put (h' := z4) f96_6 g3 rfl q4).trans ?_
      refine (r_aloadn f96_9 rfl).trans ?_
      refine (r_iconst (v := (-1)) f96_10 rfl).trans ?_
      refine (r_put (h' := z6) f96_11 g5 rfl q6).trans ?_
      refine (r_aloadn f96_14 rfl).trans ?_
      refine (r_sipush (v := 300) f96_15 rfl).trans ?_
      refine (r_newa (o := 147) (h' := z7) f96_18 (by decide) Lq6 q7).trans ?_
      refine (r_put (h' := z9) f96_20 g8 rfl q9).trans ?_
      refine (r_aloadn f96_23 rfl).trans ?_
      refine (r_sipush (v := 300) f96_24 rfl).trans ?_
      refine (r_newa (o := 148) (h' := z10) f96_27 (by decide) Lq9 q10).trans ?_
      refine (r_put (h' := z12) f96_29 g11 rfl q12).trans ?_
      refine (r_aloadn f96_32 rfl).trans ?_
      refine (r_sipush (v := 300) f96_33 rfl).trans ?_
      refine (r_newa (o := 149) (h' := z13) f96_36 (by decide) Lq12 q13).trans ?_
      refine (r_put (h' := z15) f96_38 g14 rfl q15).trans ?_
      refine (r_aloadn f96_41 rfl).trans ?_
      refine (r_bipush (v := 24) f96_42 rfl).trans ?_
      refine (r_newa (o := 150) (h' := z16) f96_44 (by decide) Lq15 q16).trans ?_
      refine (r_put (h' := z18) f96_46 g17 rfl q18).trans ?_
      refine (r_aloadn f96_49 rfl).trans ?_
      refine (r_sipush (v := 150) f96_50 rfl).trans ?_
      refine (r_newa (o := 151) (h' := z19) f96_53 (by decide) Lq18 q19).trans ?_
      refine (r_put (h' := z21) f96_55 g20 rfl q21).trans ?_
      refine (r_aloadn f96_58 rfl).trans ?_
      refine (r_sipush (v := 150) f96_59 rfl).trans ?_
      refine (r_newa (o := 152) (h' := z22) f96_62 (by decide) Lq21 q22).trans ?_
      refine (r_put (h' := z24) f96_64 g23 rfl q24).trans ?_
      refine (r_aloadn f96_67 rfl).trans ?_
      refine (r_sipush (v := 150) f96_68 rfl).trans ?_
      refine (r_newa (o := 153) (h' := z25) f96_71 (by decide) Lq24 q25).trans ?_
      refine (r_put (h' := z27) f96_73 g26 rfl q27).trans ?_
      refine (r_aloadn f96_76 rfl).trans ?_
      refine (r_aloadn f96_77 rfl).trans ?_
      refine (r_put (h' := z29) f96_78 g28 rfl q29).trans ?_
      refine (r_aloadn f96_81 rfl).trans ?_
      refine (r_aloadn f96_82 rfl).trans ?_
      refine (r_put (h' := z31) f96_83 g30 rfl q31).trans ?_
      refine (r_aloadn f96_86 rfl).trans ?_
      refine (r_iloadn f96_87 rfl).trans ?_
      refine (r_put (h' := z33) f96_88 g32 rfl q33).trans ?_
      exact r_vreturn f96_91 rfl
    refine (r_init (as := [.ref 1, .ref 16, .int x1]) (v := none) (h1 := z33) f1_66 rfl zg96 rfl rfl rfl rfl rfl rfl hc1).trans ?_
    refine (r_astore (L' := [some (.ref 41), some (.int x1), some (.int 0), some (.int 0), some (.ref 146)]) f1_69 rfl rfl).trans ?_
    refine (r_aloadn f1_71 rfl).trans ?_
    refine (r_get (v := .ref 42) f1_72 g34 rfl).trans ?_
    refine (r_iloadn f1_75 rfl).trans ?_
    refine (r_aload f1_76 rfl).trans ?_
    refine (r_aast (h' := z36) f1_78 g35 g37 jc0 q36).trans ?_
    refine (r_aload f1_79 rfl).trans ?_
    refine (r_get (v := .int (-1)) f1_81 g38 rfl).trans ?_
    refine (r_iloadn f1_84 rfl).trans ?_
    refine (r_icmp_ne_t f1_85 (by decide)).trans ?_
    refine (r_aload f1_97 rfl).trans ?_
    refine (r_iloadn f1_99 rfl).trans ?_
    refine (r_iloadn f1_100 rfl).trans ?_
    have hc2 : arun X (n + 5951) (d + 9) zM97 0 [some (.ref 146), some (.int 0), some (.int 0), none] [] z36 = some (none, z157) := by
      refine (r_aloadn f97_0 rfl).trans ?_
      refine (r_iloadn f97_1 rfl).trans ?_
      refine (r_put (h' := z39) f97_2 g38 rfl q39).trans ?_
      refine (r_aloadn f97_5 rfl).trans ?_
      refine (r_iloadn f97_6 rfl).trans ?_
      refine (r_put (h' := z41) f97_7 g40 rfl q41).trans ?_
      refine (r_aloadn f97_10 rfl).trans ?_
      refine (r_iconst (v := 0) f97_11 rfl).trans ?_
      refine (r_put (h' := z43) f97_12 g42 rfl q43).trans ?_
      refine (r_iconst (v := 0) f97_15 rfl).trans ?_
      refine (r_istoren (L' := [some (.ref 146), some (.int 0), some (.int 0), some (.int 0)]) f97_16 rfl rfl).trans ?_
      refine (r_iloadn f97_17 rfl).trans ?_
      refine (r_aloadn f97_18 rfl).trans ?_
      refine (r_get (v := .ref 16) f97_19 g44 rfl).trans ?_
      refine (r_get (v := .int 0) f97_22 g45 rfl).trans ?_
      refine (r_icmp_ge_t f97_25 (by decide)).trans ?_
      refine (r_aloadn f97_81 rfl).trans ?_
      refine (r_get (v := .ref 148) f97_82 g44 rfl).trans ?_
      refine (r_iconst (v := 0) f97_85 rfl).trans ?_
      refine (r_stat (as := [.ref 148, .int 0]) (v := none) (h1 := z48) f97_86 rfl zg332 rfl rfl rfl rfl rfl rfl (e_46 X (n + 3222) (d + 8))).trans ?_
      refine (r_iconst (v := 0) f97_89 rfl).trans ?_
      refine (r_istoren (L' := [some (.ref 146), some (.int 0), some (.int 0), some (.int 0)]) f97_90 rfl rfl).trans ?_
      refine (r_iloadn f97_91 rfl).trans ?_
      refine (r_bipush (v := 24) f97_92 rfl).trans ?_
      refine (r_icmp_ge_f f97_94 (by decide)).trans ?_
      refine (r_aloadn f97_97 rfl).trans ?_
      refine (r_get (v := .ref 150) f97_98 g49 rfl).trans ?_
      refine (r_iloadn f97_101 rfl).trans ?_
      refine (r_aloadn f97_102 rfl).trans ?_
      refine (r_iloadn f97_103 rfl).trans ?_
      have hc3 : arun X (n + 5920) (d + 8) zM103 0 [some (.ref 146), some (.int 0), none, none, none, none] [] z48 = some ((some (.int 0)), z48) := by
        refine (r_iconst (v := 0) f103_0 rfl).trans ?_
        refine (r_istoren (L' := [some (.ref 146), some (.int 0), some (.int 0), none, none, none]) f103_1 rfl rfl).trans ?_
        refine (r_iconst (v := 0) f103_2 rfl).trans ?_
        refine (r_istoren (L' := [some (.ref 146), some (.int 0), some (.int 0), some (.int 0), none, none]) f103_3 rfl rfl).trans ?_
        refine (r_iconst (v := 0) f103_4 rfl).trans ?_
        refine (r_istore (L' := [some (.ref 146), some (.int 0), some (.int 0), some (.int 0), some (.int 0), none]) f103_5 rfl rfl).trans ?_
        refine (r_iconst (v := 0) f103_7 rfl).trans ?_
        refine (r_istore (L' := [some (.ref 146), some (.int 0), some (.int 0), some (.int 0), some (.int 0), some (.int 0)]) f103_8 rfl rfl).trans ?_
        refine (r_iload f103_10 rfl).trans ?_
        refine (r_aloadn f103_12 rfl).trans ?_
        refine (r_get (v := .int 0) f103_13 g49 rfl).trans ?_
        refine (r_icmp_ge_t f103_16 (by decide)).trans ?_
        refine (r_iloadn f103_81 rfl).trans ?_
        refine (r_iloadn f103_82 rfl).trans ?_
        refine (r_iload f103_83 rfl).trans ?_
        refine (r_iand (v := 0) f103_85 (by decide)).trans ?_
        refine (r_ior (v := 0) f103_86 (by decide)).trans ?_
        exact r_ireturn f103_87 rfl
      refine (r_virt (as := [.int 0]) (v := (some (.int 0))) (h1 := z48) f97_104 g49 zg103 rfl rfl rfl rfl rfl rfl hc3).trans ?_
      refine (r_iast (h' := z51) f97_107 g50 (by decide) q51).trans ?_
      refine (r_aloadn f97_108 rfl).trans ?_
      refine (r_iloadn f97_109 rfl).trans ?_
      have hc4 : arun X (n + 5916) (d + 8) zM104 0 [some (.ref 146), some (.int 0), none, none, none, none] [] z51 = some (none, z51) := by
        refine (r_aloadn f104_0 rfl).trans ?_
        refine (r_get (v := .ref 150) f104_1 g52 rfl).trans ?_
        refine (r_iloadn f104_4 rfl).trans ?_
        refine (r_iald (v := 0) f104_5 g53 (by decide) rfl).trans ?_
        refine (r_aloadn f104_6 rfl).trans ?_
        refine (r_get (v := .ref 16) f104_7 g52 rfl).trans ?_
        refine (r_iloadn f104_10 rfl).trans ?_
        refine (r_aloadn f104_11 rfl).trans ?_
        refine (r_get (v := .int x1) f104_12 g52 rfl).trans ?_
        refine (r_aloadn f104_15 rfl).trans ?_
        refine (r_get (v := .int 0) f104_16 g52 rfl).trans ?_
        have hc5 : arun X (n + 5904) (d + 7) zM33 0 [some (.ref 16), some (.int 0), some (.int x1), some (.int 0), none, none, none] [] z51 = some ((some (.int 0)), z51) := by
          refine (r_iconst (v := 0) f33_0 rfl).trans ?_
          refine (r_istore (L' := [some (.ref 16), some (.int 0), some (.int x1), some (.int 0), some (.int 0), none, none]) f33_1 rfl rfl).trans ?_
          refine (r_iconst (v := 0) f33_3 rfl).trans ?_
          refine (r_istore (L' := [some (.ref 16), some (.int 0), some (.int x1), some (.int 0), some (.int 0), some (.int 0), none]) f33_4 rfl rfl).trans ?_
          refine (r_iload f33_6 rfl).trans ?_
          refine (r_aloadn f33_8 rfl).trans ?_
          refine (r_get (v := .int 0) f33_9 g54 rfl).trans ?_
          refine (r_icmp_ge_t f33_12 (by decide)).trans ?_
          refine (r_iload f33_117 rfl).trans ?_
          exact r_ireturn f33_119 rfl
        refine (r_virt (as := [.int 0, .int x1, .int 0]) (v := (some (.int 0))) (h1 := z51) f104_19 g54 zg33 rfl rfl rfl rfl rfl rfl hc5).trans ?_
        refine (r_ior (v := 0) f104_22 (by decide)).trans ?_
        refine (r_istoren (L' := [some (.ref 146), some (.int 0), some (.int 0), none, none, none]) f104_23 rfl rfl).trans ?_
        refine (r_iconst (v := 0) f104_24 rfl).trans ?_
        refine (r_istoren (L' := [some (.ref 146), some (.int 0), some (.int 0), some (.int 0), none, none]) f104_25 rfl rfl).trans ?_
        refine (r_iconst (v := 0) f104_26 rfl).trans ?_
        refine (r_istore (L' := [some (.ref 146), some (.int 0), some (.int 0), some (.int 0), some (.int 0), none]) f104_27 rfl rfl).trans ?_
        refine (r_iload f104_29 rfl).trans ?_
        refine (r_aloadn f104_31 rfl).trans ?_
        refine (r_get (v := .int 0) f104_32 g52 rfl).trans ?_
        refine (r_icmp_ge_t f104_35 (by decide)).trans ?_
        exact r_vreturn f104_112 rfl
      refine (r_virt (as := [.int 0]) (v := none) (h1 := z51) f97_110 g52 zg104 rfl rfl rfl rfl rfl rfl hc4).trans ?_
      refine (r_iinc (v := 1) (L' := [some (.ref 146), some (.int 0), some (.int 0), some (.int 1)]) f97_113 rfl rfl rfl).trans ?_
      refine (r_goto f97_116).trans ?_
      refine (r_iloadn f97_91 rfl).trans ?_
      refine (r_bipush (v := 24) f97_92 rfl).trans ?_
      refine (r_icmp_ge_f f97_94 (by decide)).trans ?_
      refine (r_aloadn f97_97 rfl).trans ?_
      refine (r_get (v := .ref 150) f97_98 g52 rfl).trans ?_
      refine (r_iloadn f97_101 rfl).trans ?_
      refine (r_aloadn f97_102 rfl).trans ?_
      refine (r_iloadn f97_103 rfl).trans ?_
      have hc6 : arun X (n + 5905) (d + 8) zM103 0 [some (.ref 146), some (.int 1), none, none, none, none] [] z51 = some ((some (.int 0)), z51) := by
        refine (r_iconst (v := 0) f103_0 rfl).trans ?_
        refine (r_istoren (L' := [some (.ref 146), some (.int 1), some (.int 0), none, none, none]) f103_1 rfl rfl).trans ?_
        refine (r_iconst (v := 0) f103_2 rfl).trans ?_
        refine (r_istoren (L' := [some (.ref 146), some (.int 1), some (.int 0), some (.int 0), none, none]) f103_3 rfl rfl).trans ?_
        refine (r_iconst (v := 0) f103_4 rfl).trans ?_
        refine (r_istore (L' := [some (.ref 146), some (.int 1), some (.int 0), some (.int 0), some (.int 0), none]) f103_5 rfl rfl).trans ?_
        refine (r_iconst (v := 0) f103_7 rfl).trans ?_
        refine (r_istore (L' := [some (.ref 146), some (.int 1), some (.int 0), some (.int 0), some (.int 0), some (.int 0)]) f103_8 rfl rfl).trans ?_
        refine (r_iload f103_10 rfl).trans ?_
        refine (r_aloadn f103_12 rfl).trans ?_
        refine (r_get (v := .int 0) f103_13 g52 rfl).trans ?_
        refine (r_icmp_ge_t f103_16 (by decide)).trans ?_
        refine (r_iloadn f103_81 rfl).trans ?_
        refine (r_iloadn f103_82 rfl).trans ?_
        refine (r_iload f103_83 rfl).trans ?_
        refine (r_iand (v := 0) f103_85 (by decide)).trans ?_
        refine (r_ior (v := 0) f103_86 (by decide)).trans ?_
        exact r_ireturn f103_87 rfl
      refine (r_virt (as := [.int 1]) (v := (some (.int 0))) (h1 := z51) f97_104 g52 zg103 rfl rfl rfl rfl rfl rfl hc6).trans ?_
      refine (r_iast (h' := z55) f97_107 g53 (by decide) q55).trans ?_
      refine (r_aloadn f97_108 rfl).trans ?_
      refine (r_iloadn f97_109 rfl).trans ?_
      have hc7 : arun X (n + 5901) (d + 8) zM104 0 [some (.ref 146), some (.int 1), none, none, none, none] [] z55 = some (none, z55) := by
        refine (r_aloadn f104_0 rfl).trans ?_
        refine (r_get (v := .ref 150) f104_1 g56 rfl).trans ?_
        refine (r_iloadn f104_4 rfl).trans ?_
        refine (r_iald (v := 0) f104_5 g57 (by decide) rfl).trans ?_
        refine (r_aloadn f104_6 rfl).trans ?_
        refine (r_get (v := .ref 16) f104_7 g56 rfl).trans ?_
        refine (r_iloadn f104_10 rfl).trans ?_
        refine (r_aloadn f104_11 rfl).trans ?_
        refine (r_get (v := .int x1) f104_12 g56 rfl).trans ?_
        refine (r_aloadn f104_15 rfl).trans ?_
        refine (r_get (v := .int 0) f104_16 g56 rfl).trans ?_
        have hc8 : arun X (n + 5889) (d + 7) zM33 0 [some (.ref 16), some (.int 1), some (.int x1), some (.int 0), none, none, none] [] z55 = some ((some (.int 0)), z55) := by
          refine (r_iconst (v := 0) f33_0 rfl).trans ?_
          refine (r_istore (L' := [some (.ref 16), some (.int 1), some (.int x1), some (.int 0), some (.int 0), none, none]) f33_1 rfl rfl).trans ?_
          refine (r_iconst (v := 0) f33_3 rfl).trans ?_
          refine (r_istore (L' := [some (.ref 16), some (.int 1), some (.int x1), some (.int 0), some (.int 0), some (.int 0), none]) f33_4 rfl rfl).trans ?_
          refine (r_iload f33_6 rfl).trans ?_
          refine (r_aloadn f33_8 rfl).trans ?_
          refine (r_get (v := .int 0) f33_9 g58 rfl).trans ?_
          refine (r_icmp_ge_t f33_12 (by decide)).trans ?_
          refine (r_iload f33_117 rfl).trans ?_
          exact r_ireturn f33_119 rfl
        refine (r_virt (as := [.int 1, .int x1, .int 0]) (v := (some (.int 0))) (h1 := z55) f104_19 g58 zg33 rfl rfl rfl rfl rfl rfl hc8).trans ?_
        refine (r_ior (v := 0) f104_22 (by decide)).trans ?_
        refine (r_istoren (L' := [some (.ref 146), some (.int 1), some (.int 0), none, none, none]) f104_23 rfl rfl).trans ?_
        refine (r_iconst (v := 0) f104_24 rfl).trans ?_
        refine (r_istoren (L' := [some (.ref 146), some (.int 1), some (.int 0), some (.int 0), none, none]) f104_25 rfl rfl).trans ?_
        refine (r_iconst (v := 0) f104_26 rfl).trans ?_
        refine (r_istore (L' := [some (.ref 146), some (.int 1), some (.int 0), some (.int 0), some (.int 0), none]) f104_27 rfl rfl).trans ?_
        refine (r_iload f104_29 rfl).trans ?_
        refine (r_aloadn f104_31 rfl).trans ?_
        refine (r_get (v := .int 0) f104_32 g56 rfl).trans ?_
        refine (r_icmp_ge_t f104_35 (by decide)).trans ?_
        exact r_vreturn f104_112 rfl
      refine (r_virt (as := [.int 1]) (v := none) (h1 := z55) f97_110 g56 zg104 rfl rfl rfl rfl rfl rfl hc7).trans ?_
      refine (r_iinc (v := 2) (L' := [some (.ref 146), some (.int 0), some (.int 0), some (.int 2)]) f97_113 rfl rfl rfl).trans ?_
      refine (r_goto f97_116).trans ?_
      refine (r_iloadn f97_91 rfl).trans ?_
      refine (r_bipush (v := 24) f97_92 rfl).trans ?_
      refine (r_icmp_ge_f f97_94 (by decide)).trans ?_
      refine (r_aloadn f97_97 rfl).trans ?_
      refine (r_get (v := .ref 150) f97_98 g56 rfl).trans ?_
      refine (r_iloadn f97_101 rfl).trans ?_
      refine (r_aloadn f97_102 rfl).trans ?_
      refine (r_iloadn f97_103 rfl).trans ?_
      have hc9 : arun X (n + 5890) (d + 8) zM103 0 [some (.ref 146), some (.int 2), none, none, none, none] [] z55 = some ((some (.int 0)), z55) := by
        refine (r_iconst (v := 0) f103_0 rfl).trans ?_
        refine (r_istoren (L' := [some (.ref 146), some (.int 2), some (.int 0), none, none, none]) f103_1 rfl rfl).trans ?_
        refine (r_iconst (v := 0) f103_2 rfl).trans ?_
        refine (r_istoren (L' := [some (.ref 146), some (.int 2), some (.int 0), some (.int 0), none, none]) f103_3 rfl rfl).trans ?_
        refine (r_iconst (v := 0) f103_4 rfl).trans ?_
        refine (r_istore (L' := [some (.ref 146), some (.int 2), some (.int 0), some (.int 0), some (.int 0), none]) f103_5 rfl rfl).trans ?_
        refine (r_iconst (v := 0) f103_7 rfl).trans ?_
        refine (r_istore (L' := [some (.ref 146), some (.int 2), some (.int 0), some (.int 0), some (.int 0), some (.int 0)]) f103_8 rfl rfl).trans ?_
        refine (r_iload f103_10 rfl).trans ?_
        refine (r_aloadn f103_12 rfl).trans ?_
        refine (r_get (v := .int 0) f103_13 g56 rfl).trans ?_
        refine (r_icmp_ge_t f103_16 (by decide)).trans ?_
        refine (r_iloadn f103_81 rfl).trans ?_
        refine (r_iloadn f103_82 rfl).trans ?_
        refine (r_iload f103_83 rfl).trans ?_
        refine (r_iand (v := 0) f103_85 (by decide)).trans ?_
        refine (r_ior (v := 0) f103_86 (by decide)).trans ?_
        exact r_ireturn f103_87 rfl
      refine (r_virt (as := [.int 2]) (v := (some (.int 0))) (h1 := z55) f97_104 g56 zg103 rfl rfl rfl rfl rfl rfl hc9).trans ?_
      refine (r_iast (h' := z59) f97_107 g57 (by decide) q59).trans ?_
      refine (r_aloadn f97_108 rfl).trans ?_
      refine (r_iloadn f97_109 rfl).trans ?_
      have hc10 : arun X (n + 5886) (d + 8) zM104 0 [some (.ref 146), some (.int 2), none, none, none, none] [] z59 = some (none, z59) := by
        refine (r_aloadn f104_0 rfl).trans ?_
        refine (r_get (v := .ref 150) f104_1 g60 rfl).trans ?_
        refine (r_iloadn f104_4 rfl).trans ?_
        refine (r_iald (v := 0) f104_5 g61 (by decide) rfl).trans ?_
        refine (r_aloadn f104_6 rfl).trans ?_
        refine (r_get (v := .ref 16) f104_7 g60 rfl).trans ?_
        refine (r_iloadn f104_10 rfl).trans ?_
        refine (r_aloadn f104_11 rfl).trans ?_
        refine (r_get (v := .int x1) f104_12 g60 rfl).trans ?_
        refine (r_aloadn f104_15 rfl).trans ?_
        refine (r_get (v := .int 0) f104_16 g60 rfl).trans ?_
        have hc11 : arun X (n + 5874) (d + 7) zM33 0 [some (.ref 16), some (.int 2), some (.int x1), some (.int 0), none, none, none] [] z59 = some ((some (.int 0)), z59) := by
          refine (r_iconst (v := 0) f33_0 rfl).trans ?_
          refine (r_istore (L' := [some (.ref 16), some (.int 2), some (.int x1), some (.int 0), some (.int 0), none, none]) f33_1 rfl rfl).trans ?_
          refine (r_iconst (v := 0) f33_3 rfl).trans ?_
          refine (r_istore (L' := [some (.ref 16), some (.int 2), some (.int x1), some (.int 0), some (.int 0), some (.int 0), none]) f33_4 rfl rfl).trans ?_
          refine (r_iload f33_6 rfl).trans ?_
          refine (r_aloadn f33_8 rfl).trans ?_
          refine (r_get (v := .int 0) f33_9 g62 rfl).trans ?_
          refine (r_icmp_ge_t f33_12 (by decide)).trans ?_
          refine (r_iload f33_117 rfl).trans ?_
          exact r_ireturn f33_119 rfl
        refine (r_virt (as := [.int 2, .int x1, .int 0]) (v := (some (.int 0))) (h1 := z59) f104_19 g62 zg33 rfl rfl rfl rfl rfl rfl hc11).trans ?_
        refine (r_ior (v := 0) f104_22 (by decide)).trans ?_
        refine (r_istoren (L' := [some (.ref 146), some (.int 2), some (.int 0), none, none, none]) f104_23 rfl rfl).trans ?_
        refine (r_iconst (v := 0) f104_24 rfl).trans ?_
        refine (r_istoren (L' := [some (.ref 146), some (.int 2), some (.int 0), some (.int 0), none, none]) f104_25 rfl rfl).trans ?_
        refine (r_iconst (v := 0) f104_26 rfl).trans ?_
        refine (r_istore (L' := [some (.ref 146), some (.int 2), some (.int 0), some (.int 0), some (.int 0), none]) f104_27 rfl rfl).trans ?_
        refine (r_iload f104_29 rfl).trans ?_
        refine (r_aloadn f104_31 rfl).trans ?_
        refine (r_get (v := .int 0) f104_32 g60 rfl).trans ?_
        refine (r_icmp_ge_t f104_35 (by decide)).trans ?_
        exact r_vreturn f104_112 rfl
      refine (r_virt (as := [.int 2]) (v := none) (h1 := z59) f97_110 g60 zg104 rfl rfl rfl rfl rfl rfl hc10).trans ?_
      refine (r_iinc (v := 3) (L' := [some (.ref 146), some (.int 0), some (.int 0), some (.int 3)]) f97_113 rfl rfl rfl).trans ?_
      refine (r_goto f97_116).trans ?_
      refine (r_iloadn f97_91 rfl).trans ?_
      refine (r_bipush (v := 24) f97_92 rfl).trans ?_
      refine (r_icmp_ge_f f97_94 (by decide)).trans ?_
      refine (r_aloadn f97_97 rfl).trans ?_
      refine (r_get (v := .ref 150) f97_98 g60 rfl).trans ?_
      refine (r_iloadn f97_101 rfl).trans ?_
      refine (r_aloadn f97_102 rfl).trans ?_
      refine (r_iloadn f97_103 rfl).trans ?_
      have hc12 : arun X (n + 5875) (d + 8) zM103 0 [some (.ref 146), some (.int 3), none, none, none, none] [] z59 = some ((some (.int 0)), z59) := by
        refine (r_iconst (v := 0) f103_0 rfl).trans ?_
        refine (r_istoren (L' := [some (.ref 146), some (.int 3), some (.int 0), none, none, none]) f103_1 rfl rfl).trans ?_
        refine (r_iconst (v := 0) f103_2 rfl).trans ?_
        refine (r_istoren (L' := [some (.ref 146), some (.int 3), some (.int 0), some (.int 0), none, none]) f103_3 rfl rfl).trans ?_
        refine (r_iconst (v := 0) f103_4 rfl).trans ?_
        refine (r_istore (L' := [some (.ref 146), some (.int 3), some (.int 0), some (.int 0), some (.int 0), none]) f103_5 rfl rfl).trans ?_
        refine (r_iconst (v := 0) f103_7 rfl).trans ?_
        refine (r_istore (L' := [some (.ref 146), some (.int 3), some (.int 0), some (.int 0), some (.int 0), some (.int 0)]) f103_8 rfl rfl).trans ?_
        refine (r_iload f103_10 rfl).trans ?_
        refine (r_aloadn f103_12 rfl).trans ?_
        refine (r_get (v := .int 0) f103_13 g60 rfl).trans ?_
        refine (r_icmp_ge_t f103_16 (by decide)).trans ?_
        refine (r_iloadn f103_81 rfl).trans ?_
        refine (r_iloadn f103_82 rfl).trans ?_
        refine (r_iload f103_83 rfl).trans ?_
        refine (r_iand (v := 0) f103_85 (by decide)).trans ?_
        refine (r_ior (v := 0) f103_86 (by decide)).trans ?_
        exact r_ireturn f103_87 rfl
      refine (r_virt (as := [.int 3]) (v := (some (.int 0))) (h1 := z59) f97_104 g60 zg103 rfl rfl rfl rfl rfl rfl hc12).trans ?_
      refine (r_iast (h' := z63) f97_107 g61 (by decide) q63).trans ?_
      refine (r_aloadn f97_108 rfl).trans ?_
      refine (r_iloadn f97_109 rfl).trans ?_
      have hc13 : arun X (n + 5871) (d + 8) zM104 0 [some (.ref 146), some (.int 3), none, none, none, none] [] z63 = some (none, z63) := by
        refine (r_aloadn f104_0 rfl).trans ?_
        refine (r_get (v := .ref 150) f104_1 g64 rfl).trans ?_
        refine (r_iloadn f104_4 rfl).trans ?_
        refine (r_iald (v := 0) f104_5 g65 (by decide) rfl).trans ?_
        refine (r_aloadn f104_6 rfl).trans ?_
        refine (r_get (v := .ref 16) f104_7 g64 rfl).trans ?_
        refine (r_iloadn f104_10 rfl).trans ?_
        refine (r_aloadn f104_11 rfl).trans ?_
        refine (r_get (v := .int x1) f104_12 g64 rfl).trans ?_
        refine (r_aloadn f104_15 rfl).trans ?_
        refine (r_get (v := .int 0) f104_16 g64 rfl).trans ?_
        have hc14 : arun X (n + 5859) (d + 7) zM33 0 [some (.ref 16), some (.int 3), some (.int x1), some (.int 0), none, none, none] [] z63 = some ((some (.int 0)), z63) := by
          refine (r_iconst (v := 0) f33_0 rfl).trans ?_
          refine (r_istore (L' := [some (.ref 16), some (.int 3), some (.int x1), some (.int 0), some (.int 0), none, none]) f33_1 rfl rfl).trans ?_
          refine (r_iconst (v := 0) f33_3 rfl).trans ?_
          refine (r_istore (L' := [some (.ref 16), some (.int 3), some (.int x1), some (.int 0), some (.int 0), some (.int 0), none]) f33_4 rfl rfl).trans ?_
          refine (r_iload f33_6 rfl).trans ?_
          refine (r_aloadn f33_8 rfl).trans ?_
          refine (r_get (v := .int 0) f33_9 g66 rfl).trans ?_
          refine (r_icmp_ge_t f33_12 (by decide)).trans ?_
          refine (r_iload f33_117 rfl).trans ?_
          exact r_ireturn f33_119 rfl
        refine (r_virt (as := [.int 3, .int x1, .int 0]) (v := (some (.int 0))) (h1 := z63) f104_19 g66 zg33 rfl rfl rfl rfl rfl rfl hc14).trans ?_
        refine (r_ior (v := 0) f104_22 (by decide)).trans ?_
        refine (r_istoren (L' := [some (.ref 146), some (.int 3), some (.int 0), none, none, none]) f104_23 rfl rfl).trans ?_
        refine (r_iconst (v := 0) f104_24 rfl).trans ?_
        refine (r_istoren (L' := [some (.ref 146), some (.int 3), some (.int 0), some (.int 0), none, none]) f104_25 rfl rfl).trans ?_
        refine (r_iconst (v := 0) f104_26 rfl).trans ?_
        refine (r_istore (L' := [some (.ref 146), some (.int 3), some (.int 0), some (.int 0), some (.int 0), none]) f104_27 rfl rfl).trans ?_
        refine (r_iload f104_29 rfl).trans ?_
        refine (r_aloadn f104_31 rfl).trans ?_
        refine (r_get (v := .int 0) f104_32 g64 rfl).trans ?_
        refine (r_icmp_ge_t f104_35 (by decide)).trans ?_
        exact r_vreturn f104_112 rfl
      refine (r_virt (as := [.int 3]) (v := none) (h1 := z63) f97_110 g64 zg104 rfl rfl rfl rfl rfl rfl hc13).trans ?_
      refine (r_iinc (v := 4) (L' := [some (.ref 146), some (.int 0), some (.int 0), some (.int 4)]) f97_113 rfl rfl rfl).trans ?_
      refine (r_goto f97_116).trans ?_
      refine (r_iloadn f97_91 rfl).trans ?_
      refine (r_bipush (v := 24) f97_92 rfl).trans ?_
      refine (r_icmp_ge_f f97_94 (by decide)).trans ?_
      refine (r_aloadn f97_97 rfl).trans ?_
      refine (r_get (v := .ref 150) f97_98 g64 rfl).trans ?_
      refine (r_iloadn f97_101 rfl).trans ?_
      refine (r_aloadn f97_102 rfl).trans ?_
      refine (r_iloadn f97_103 rfl).trans ?_
      have hc15 : arun X (n + 5860) (d + 8) zM103 0 [some (.ref 146), some (.int 4), none, none, none, none] [] z63 = some ((some (.int 0)), z63) := by
        refine (r_iconst (v := 0) f103_0 rfl).trans ?_
        refine (r_istoren (L' := [some (.ref 146), some (.int 4), some (.int 0), none, none, none]) f103_1 rfl rfl).trans ?_
        refine (r_iconst (v := 0) f103_2 rfl).trans ?_
        refine (r_istoren (L' := [some (.ref 146), some (.int 4), some (.int 0), some (.int 0), none, none]) f103_3 rfl rfl).trans ?_
        refine (r_iconst (v := 0) f103_4 rfl).trans ?_
        refine (r_istore (L' := [some (.ref 146), some (.int 4), some (.int 0), some (.int 0), some (.int 0), none]) f103_5 rfl rfl).trans ?_
        refine (r_iconst (v := 0) f103_7 rfl).trans ?_
        refine (r_istore (L' := [some (.ref 146), some (.int 4), some (.int 0), some (.int 0), some (.int 0), some (.int 0)]) f103_8 rfl rfl).trans ?_
        refine (r_iload f103_10 rfl).trans ?_
        refine (r_aloadn f103_12 rfl).trans ?_
        refine (r_get (v := .int 0) f103_13 g64 rfl).trans ?_
        refine (r_icmp_ge_t f103_16 (by decide)).trans ?_
        refine (r_iloadn f103_81 rfl).trans ?_
        refine (r_iloadn f103_82 rfl).trans ?_
        refine (r_iload f103_83 rfl).trans ?_
        refine (r_iand (v := 0) f103_85 (by decide)).trans ?_
        refine (r_ior (v := 0) f103_86 (by decide)).trans ?_
        exact r_ireturn f103_87 rfl
      refine (r_virt (as := [.int 4]) (v := (some (.int 0))) (h1 := z63) f97_104 g64 zg103 rfl rfl rfl rfl rfl rfl hc15).trans ?_
      refine (r_iast (h' := z67) f97_107 g65 (by decide) q67).trans ?_
      refine (r_aloadn f97_108 rfl).trans ?_
      refine (r_iloadn f97_109 rfl).trans ?_
      have hc16 : arun X (n + 5856) (d + 8) zM104 0 [some (.ref 146), some (.int 4), none, none, none, none] [] z67 = some (none, z67) := by
        refine (r_aloadn f104_0 rfl).trans ?_
        refine (r_get (v := .ref 150) f104_1 g68 rfl).trans ?_
        refine (r_iloadn f104_4 rfl).trans ?_
        refine (r_iald (v := 0) f104_5 g69 (by decide) rfl).trans ?_
        refine (r_aloadn f104_6 rfl).trans ?_
        refine (r_get (v := .ref 16) f104_7 g68 rfl).trans ?_
        refine (r_iloadn f104_10 rfl).trans ?_
        refine (r_aloadn f104_11 rfl).trans ?_
        refine (r_get (v := .int x1) f104_12 g68 rfl).trans ?_
        refine (r_aloadn f104_15 rfl).trans ?_
        refine (r_get (v := .int 0) f104_16 g68 rfl).trans ?_
        have hc17 : arun X (n + 5844) (d + 7) zM33 0 [some (.ref 16), some (.int 4), some (.int x1), some (.int 0), none, none, none] [] z67 = some ((some (.int 0)), z67) := by
          refine (r_iconst (v := 0) f33_0 rfl).trans ?_
          refine (r_istore (L' := [some (.ref 16), some (.int 4), some (.int x1), some (.int 0), some (.int 0), none, none]) f33_1 rfl rfl).trans ?_
          refine (r_iconst (v := 0) f33_3 rfl).trans ?_
          refine (r_istore (L' := [some (.ref 16), some (.int 4), some (.int x1), some (.int 0), some (.int 0), some (.int 0), none]) f33_4 rfl rfl).trans ?_
          refine (r_iload f33_6 rfl).trans ?_
          refine (r_aloadn f33_8 rfl).trans ?_
          refine (r_get (v := .int 0) f33_9 g70 rfl).trans ?_
          refine (r_icmp_ge_t f33_12 (by decide)).trans ?_
          refine (r_iload f33_117 rfl).trans ?_
          exact r_ireturn f33_119 rfl
        refine (r_virt (as := [.int 4, .int x1, .int 0]) (v := (some (.int 0))) (h1 := z67) f104_19 g70 zg33 rfl rfl rfl rfl rfl rfl hc17).trans ?_
        refine (r_ior (v := 0) f104_22 (by decide)).trans ?_
        refine (r_istoren (L' := [some (.ref 146), some (.int 4), some (.int 0), none, none, none]) f104_23 rfl rfl).trans ?_
        refine (r_iconst (v := 0) f104_24 rfl).trans ?_
        refine (r_istoren (L' := [some (.ref 146), some (.int 4), some (.int 0), some (.int 0), none, none]) f104_25 rfl rfl).trans ?_
        refine (r_iconst (v := 0) f104_26 rfl).trans ?_
        refine (r_istore (L' := [some (.ref 146), some (.int 4), some (.int 0), some (.int 0), some (.int 0), none]) f104_27 rfl rfl).trans ?_
        refine (r_iload f104_29 rfl).trans ?_
        refine (r_aloadn f104_31 rfl).trans ?_
        refine (r_get (v := .int 0) f104_32 g68 rfl).trans ?_
        refine (r_icmp_ge_t f104_35 (by decide)).trans ?_
        exact r_vreturn f104_112 rfl
      refine (r_virt (as := [.int 4]) (v := none) (h1 := z67) f97_110 g68 zg104 rfl rfl rfl rfl rfl rfl hc16).trans ?_
      refine (r_iinc (v := 5) (L' := [some (.ref 146), some (.int 0), some (.int 0), some (.int 5)]) f97_113 rfl rfl rfl).trans ?_
      refine (r_goto f97_116).trans ?_
      refine (r_iloadn f97_91 rfl).trans ?_
      refine (r_bipush (v := 24) f97_92 rfl).trans ?_
      refine (r_icmp_ge_f f97_94 (by decide)).trans ?_
      refine (r_aloadn f97_97 rfl).trans ?_
      refine (r_get (v := .ref 150) f97_98 g68 rfl).trans ?_
      refine (r_iloadn f97_101 rfl).trans ?_
      refine (r_aloadn f97_102 rfl).trans ?_
      refine (r_iloadn f97_103 rfl).trans ?_
      have hc18 : arun X (n + 5845) (d + 8) zM103 0 [some (.ref 146), some (.int 5), none, none, none, none] [] z67 = some ((some (.int 0)), z67) := by
        refine (r_iconst (v := 0) f103_0 rfl).trans ?_
        refine (r_istoren (L' := [some (.ref 146), some (.int 5), some (.int 0), none, none, none]) f103_1 rfl rfl).trans ?_
        refine (r_iconst (v := 0) f103_2 rfl).trans ?_
        refine (r_istoren (L' := [some (.ref 146), some (.int 5), some (.int 0), some (.int 0), none, none]) f103_3 rfl rfl).trans ?_
        refine (r_iconst (v := 0) f103_4 rfl).trans ?_
        refine (r_istore (L' := [some (.ref 146), some (.int 5), some (.int 0), some (.int 0), some (.int 0), none]) f103_5 rfl rfl).trans ?_
        refine (r_iconst (v := 0) f103_7 rfl).trans ?_
        refine (r_istore (L' := [some (.ref 146), some (.int 5), some (.int 0), some (.int 0), some (.int 0), some (.int 0)]) f103_8 rfl rfl).trans ?_
        refine (r_iload f103_10 rfl).trans ?_
        refine (r_aloadn f103_12 rfl).trans ?_
        refine (r_get (v := .int 0) f103_13 g68 rfl).trans ?_
        refine (r_icmp_ge_t f103_16 (by decide)).trans ?_
        refine (r_iloadn f103_81 rfl).trans ?_
        refine (r_iloadn f103_82 rfl).trans ?_
        refine (r_iload f103_83 rfl).trans ?_
        refine (r_iand (v := 0) f103_85 (by decide)).trans ?_
        refine (r_ior (v := 0) f103_86 (by decide)).trans ?_
        exact r_ireturn f103_87 rfl
      refine (r_virt (as := [.int 5]) (v := (some (.int 0))) (h1 := z67) f97_104 g68 zg103 rfl rfl rfl rfl rfl rfl hc18).trans ?_
      refine (r_iast (h' := z71) f97_107 g69 (by decide) q71).trans ?_
      refine (r_aloadn f97_108 rfl).trans ?_
      refine (r_iloadn f97_109 rfl).trans ?_
      have hc19 : arun X (n + 5841) (d + 8) zM104 0 [some (.ref 146), some (.int 5), none, none, none, none] [] z71 = some (none, z71) := by
        refine (r_aloadn f104_0 rfl).trans ?_
        refine (r_get (v := .ref 150) f104_1 g72 rfl).trans ?_
        refine (r_iloadn f104_4 rfl).trans ?_
        refine (r_iald (v := 0) f104_5 g73 (by decide) rfl).trans ?_
        refine (r_aloadn f104_6 rfl).trans ?_
        refine (r_get (v := .ref 16) f104_7 g72 rfl).trans ?_
        refine (r_iloadn f104_10 rfl).trans ?_
        refine (r_aloadn f104_11 rfl).trans ?_
        refine (r_get (v := .int x1) f104_12 g72 rfl).trans ?_
        refine (r_aloadn f104_15 rfl).trans ?_
        refine (r_get (v := .int 0) f104_16 g72 rfl).trans ?_
        have hc20 : arun X (n + 5829) (d + 7) zM33 0 [some (.ref 16), some (.int 5), some (.int x1), some (.int 0), none, none, none] [] z71 = some ((some (.int 0)), z71) := by
          refine (r_iconst (v := 0) f33_0 rfl).trans ?_
          refine (r_istore (L' := [some (.ref 16), some (.int 5), some (.int x1), some (.int 0), some (.int 0), none, none]) f33_1 rfl rfl).trans ?_
          refine (r_iconst (v := 0) f33_3 rfl).trans ?_
          refine (r_istore (L' := [some (.ref 16), some (.int 5), some (.int x1), some (.int 0), some (.int 0), some (.int 0), none]) f33_4 rfl rfl).trans ?_
          refine (r_iload f33_6 rfl).trans ?_
          refine (r_aloadn f33_8 rfl).trans ?_
          refine (r_get (v := .int 0) f33_9 g74 rfl).trans ?_
          refine (r_icmp_ge_t f33_12 (by decide)).trans ?_
          refine (r_iload f33_117 rfl).trans ?_
          exact r_ireturn f33_119 rfl
        refine (r_virt (as := [.int 5, .int x1, .int 0]) (v := (some (.int 0))) (h1 := z71) f104_19 g74 zg33 rfl rfl rfl rfl rfl rfl hc20).trans ?_
        refine (r_ior (v := 0) f104_22 (by decide)).trans ?_
        refine (r_istoren (L' := [some (.ref 146), some (.int 5), some (.int 0), none, none, none]) f104_23 rfl rfl).trans ?_
        refine (r_iconst (v := 0) f104_24 rfl).trans ?_
        refine (r_istoren (L' := [some (.ref 146), some (.int 5), some (.int 0), some (.int 0), none, none]) f104_25 rfl rfl).trans ?_
        refine (r_iconst (v := 0) f104_26 rfl).trans ?_
        refine (r_istore (L' := [some (.ref 146), some (.int 5), some (.int 0), some (.int 0), some (.int 0), none]) f104_27 rfl rfl).trans ?_
        refine (r_iload f104_29 rfl).trans ?_
        refine (r_aloadn f104_31 rfl).trans ?_
        refine (r_get (v := .int 0) f104_32 g72 rfl).trans ?_
        refine (r_icmp_ge_t f104_35 (by decide)).trans ?_
        exact r_vreturn f104_112 rfl
      refine (r_virt (as := [.int 5]) (v := none) (h1 := z71) f97_110 g72 zg104 rfl rfl rfl rfl rfl rfl hc19).trans ?_
      refine (r_iinc (v := 6) (L' := [some (.ref 146), some (.int 0), some (.int 0), some (.int 6)]) f97_113 rfl rfl rfl).trans ?_
      refine (r_goto f97_116).trans ?_
      refine (r_iloadn f97_91 rfl).trans ?_
      refine (r_bipush (v := 24) f97_92 rfl).trans ?_
      refine (r_icmp_ge_f f97_94 (by decide)).trans ?_
      refine (r_aloadn f97_97 rfl).trans ?_
      refine (r_get (v := .ref 150) f97_98 g72 rfl).trans ?_
      refine (r_iloadn f97_101 rfl).trans ?_
      refine (r_aloadn f97_102 rfl).trans ?_
      refine (r_iloadn f97_103 rfl).trans ?_
      have hc21 : arun X (n + 5830) (d + 8) zM103 0 [some (.ref 146), some (.int 6), none, none, none, none] [] z71 = some ((some (.int 0)), z71) := by
        refine (r_iconst (v := 0) f103_0 rfl).trans ?_
        refine (r_istoren (L' := [some (.ref 146), some (.int 6), some (.int 0), none, none, none]) f103_1 rfl rfl).trans ?_
        refine (r_iconst (v := 0) f103_2 rfl).trans ?_
        refine (r_istoren (L' := [some (.ref 146), some (.int 6), some (.int 0), some (.int 0), none, none]) f103_3 rfl rfl).trans ?_
        refine (r_iconst (v := 0) f103_4 rfl).trans ?_
        refine (r_istore (L' := [some (.ref 146), some (.int 6), some (.int 0), some (.int 0), some (.int 0), none]) f103_5 rfl rfl).trans ?_
        refine (r_iconst (v := 0) f103_7 rfl).trans ?_
        refine (r_istore (L' := [some (.ref 146), some (.int 6), some (.int 0), some (.int 0), some (.int 0), some (.int 0)]) f103_8 rfl rfl).trans ?_
        refine (r_iload f103_10 rfl).trans ?_
        refine (r_aloadn f103_12 rfl).trans ?_
        refine (r_get (v := .int 0) f103_13 g72 rfl).trans ?_
        refine (r_icmp_ge_t f103_16 (by decide)).trans ?_
        refine (r_iloadn f103_81 rfl).trans ?_
        refine (r_iloadn f103_82 rfl).trans ?_
        refine (r_iload f103_83 rfl).trans ?_
        refine (r_iand (v := 0) f103_85 (by decide)).trans ?_
        refine (r_ior (v := 0) f103_86 (by decide)).trans ?_
        exact r_ireturn f103_87 rfl
      refine (r_virt (as := [.int 6]) (v := (some (.int 0))) (h1 := z71) f97_104 g72 zg103 rfl rfl rfl rfl rfl rfl hc21).trans ?_
      refine (r_iast (h' := z75) f97_107 g73 (by decide) q75).trans ?_
      refine (r_aloadn f97_108 rfl).trans ?_
      refine (r_iloadn f97_109 rfl).trans ?_
      have hc22 : arun X (n + 5826) (d + 8) zM104 0 [some (.ref 146), some (.int 6), none, none, none, none] [] z75 = some (none, z75) := by
        refine (r_aloadn f104_0 rfl).trans ?_
        refine (r_get (v := .ref 150) f104_1 g76 rfl).trans ?_
        refine (r_iloadn f104_4 rfl).trans ?_
        refine (r_iald (v := 0) f104_5 g77 (by decide) rfl).trans ?_
        refine (r_aloadn f104_6 rfl).trans ?_
        refine (r_get (v := .ref 16) f104_7 g76 rfl).trans ?_
        refine (r_iloadn f104_10 rfl).trans ?_
        refine (r_aloadn f104_11 rfl).trans ?_
        refine (r_get (v := .int x1) f104_12 g76 rfl).trans ?_
        refine (r_aloadn f104_15 rfl).trans ?_
        refine (r_get (v := .int 0) f104_16 g76 rfl).trans ?_
        have hc23 : arun X (n + 5814) (d + 7) zM33 0 [some (.ref 16), some (.int 6), some (.int x1), some (.int 0), none, none, none] [] z75 = some ((some (.int 0)), z75) := by
          refine (r_iconst (v := 0) f33_0 rfl).trans ?_
          refine (r_istore (L' := [some (.ref 16), some (.int 6), some (.int x1), some (.int 0), some (.int 0), none, none]) f33_1 rfl rfl).trans ?_
          refine (r_iconst (v := 0) f33_3 rfl).trans ?_
          refine (r_istore (L' := [some (.ref 16), some (.int 6), some (.int x1), some (.int 0), some (.int 0), some (.int 0), none]) f33_4 rfl rfl).trans ?_
          refine (r_iload f33_6 rfl).trans ?_
          refine (r_aloadn f33_8 rfl).trans ?_
          refine (r_get (v := .int 0) f33_9 g78 rfl).trans ?_
          refine (r_icmp_ge_t f33_12 (by decide)).trans ?_
          refine (r_iload f33_117 rfl).trans ?_
          exact r_ireturn f33_119 rfl
        refine (r_virt (as := [.int 6, .int x1, .int 0]) (v := (some (.int 0))) (h1 := z75) f104_19 g78 zg33 rfl rfl rfl rfl rfl rfl hc23).trans ?_
        refine (r_ior (v := 0) f104_22 (by decide)).trans ?_
        refine (r_istoren (L' := [some (.ref 146), some (.int 6), some (.int 0), none, none, none]) f104_23 rfl rfl).trans ?_
        refine (r_iconst (v := 0) f104_24 rfl).trans ?_
        refine (r_istoren (L' := [some (.ref 146), some (.int 6), some (.int 0), some (.int 0), none, none]) f104_25 rfl rfl).trans ?_
        refine (r_iconst (v := 0) f104_26 rfl).trans ?_
        refine (r_istore (L' := [some (.ref 146), some (.int 6), some (.int 0), some (.int 0), some (.int 0), none]) f104_27 rfl rfl).trans ?_
        refine (r_iload f104_29 rfl).trans ?_
        refine (r_aloadn f104_31 rfl).trans ?_
        refine (r_get (v := .int 0) f104_32 g76 rfl).trans ?_
        refine (r_icmp_ge_t f104_35 (by decide)).trans ?_
        exact r_vreturn f104_112 rfl
      refine (r_virt (as := [.int 6]) (v := none) (h1 := z75) f97_110 g76 zg104 rfl rfl rfl rfl rfl rfl hc22).trans ?_
      refine (r_iinc (v := 7) (L' := [some (.ref 146), some (.int 0), some (.int 0), some (.int 7)]) f97_113 rfl rfl rfl).trans ?_
      refine (r_goto f97_116).trans ?_
      refine (r_iloadn f97_91 rfl).trans ?_
      refine (r_bipush (v := 24) f97_92 rfl).trans ?_
      refine (r_icmp_ge_f f97_94 (by decide)).trans ?_
      refine (r_aloadn f97_97 rfl).trans ?_
      refine (r_get (v := .ref 150) f97_98 g76 rfl).trans ?_
      refine (r_iloadn f97_101 rfl).trans ?_
      refine (r_aloadn f97_102 rfl).trans ?_
      refine (r_iloadn f97_103 rfl).trans ?_
      have hc24 : arun X (n + 5815) (d + 8) zM103 0 [some (.ref 146), some (.int 7), none, none, none, none] [] z75 = some ((some (.int 0)), z75) := by
        refine (r_iconst (v := 0) f103_0 rfl).trans ?_
        refine (r_istoren (L' := [some (.ref 146), some (.int 7), some (.int 0), none, none, none]) f103_1 rfl rfl).trans ?_
        refine (r_iconst (v := 0) f103_2 rfl).trans ?_
        refine (r_istoren (L' := [some (.ref 146), some (.int 7), some (.int 0), some (.int 0), none, none]) f103_3 rfl rfl).trans ?_
        refine (r_iconst (v := 0) f103_4 rfl).trans ?_
        refine (r_istore (L' := [some (.ref 146), some (.int 7), some (.int 0), some (.int 0), some (.int 0), none]) f103_5 rfl rfl).trans ?_
        refine (r_iconst (v := 0) f103_7 rfl).trans ?_
        refine (r_istore (L' := [some (.ref 146), some (.int 7), some (.int 0), some (.int 0), some (.int 0), some (.int 0)]) f103_8 rfl rfl).trans ?_
        refine (r_iload f103_10 rfl).trans ?_
        refine (r_aloadn f103_12 rfl).trans ?_
        refine (r_get (v := .int 0) f103_13 g76 rfl).trans ?_
        refine (r_icmp_ge_t f103_16 (by decide)).trans ?_
        refine (r_iloadn f103_81 rfl).trans ?_
        refine (r_iloadn f103_82 rfl).trans ?_
        refine (r_iload f103_83 rfl).trans ?_
        refine (r_iand (v := 0) f103_85 (by decide)).trans ?_
        refine (r_ior (v := 0) f103_86 (by decide)).trans ?_
        exact r_ireturn f103_87 rfl
      refine (r_virt (as := [.int 7]) (v := (some (.int 0))) (h1 := z75) f97_104 g76 zg103 rfl rfl rfl rfl rfl rfl hc24).trans ?_
      refine (r_iast (h' := z79) f97_107 g77 (by decide) q79).trans ?_
      refine (r_aloadn f97_108 rfl).trans ?_
      refine (r_iloadn f97_109 rfl).trans ?_
      have hc25 : arun X (n + 5811) (d + 8) zM104 0 [some (.ref 146), some (.int 7), none, none, none, none] [] z79 = some (none, z79) := by
        refine (r_aloadn f104_0 rfl).trans ?_
        refine (r_get (v := .ref 150) f104_1 g80 rfl).trans ?_
        refine (r_iloadn f104_4 rfl).trans ?_
        refine (r_iald (v := 0) f104_5 g81 (by decide) rfl).trans ?_
        refine (r_aloadn f104_6 rfl).trans ?_
        refine (r_get (v := .ref 16) f104_7 g80 rfl).trans ?_
        refine (r_iloadn f104_10 rfl).trans ?_
        refine (r_aloadn f104_11 rfl).trans ?_
        refine (r_get (v := .int x1) f104_12 g80 rfl).trans ?_
        refine (r_aloadn f104_15 rfl).trans ?_
        refine (r_get (v := .int 0) f104_16 g80 rfl).trans ?_
        have hc26 : arun X (n + 5799) (d + 7) zM33 0 [some (.ref 16), some (.int 7), some (.int x1), some (.int 0), none, none, none] [] z79 = some ((some (.int 0)), z79) := by
          refine (r_iconst (v := 0) f33_0 rfl).trans ?_
          refine (r_istore (L' := [some (.ref 16), some (.int 7), some (.int x1), some (.int 0), some (.int 0), none, none]) f33_1 rfl rfl).trans ?_
          refine (r_iconst (v := 0) f33_3 rfl).trans ?_
          refine (r_istore (L' := [some (.ref 16), some (.int 7), some (.int x1), some (.int 0), some (.int 0), some (.int 0), none]) f33_4 rfl rfl).trans ?_
          refine (r_iload f33_6 rfl).trans ?_
          refine (r_aloadn f33_8 rfl).trans ?_
          refine (r_get (v := .int 0) f33_9 g82 rfl).trans ?_
          refine (r_icmp_ge_t f33_12 (by decide)).trans ?_
          refine (r_iload f33_117 rfl).trans ?_
          exact r_ireturn f33_119 rfl
        refine (r_virt (as := [.int 7, .int x1, .int 0]) (v := (some (.int 0))) (h1 := z79) f104_19 g82 zg33 rfl rfl rfl rfl rfl rfl hc26).trans ?_
        refine (r_ior (v := 0) f104_22 (by decide)).trans ?_
        refine (r_istoren (L' := [some (.ref 146), some (.int 7), some (.int 0), none, none, none]) f104_23 rfl rfl).trans ?_
        refine (r_iconst (v := 0) f104_24 rfl).trans ?_
        refine (r_istoren (L' := [some (.ref 146), some (.int 7), some (.int 0), some (.int 0), none, none]) f104_25 rfl rfl).trans ?_
        refine (r_iconst (v := 0) f104_26 rfl).trans ?_
        refine (r_istore (L' := [some (.ref 146), some (.int 7), some (.int 0), some (.int 0), some (.int 0), none]) f104_27 rfl rfl).trans ?_
        refine (r_iload f104_29 rfl).trans ?_
        refine (r_aloadn f104_31 rfl).trans ?_
        refine (r_get (v := .int 0) f104_32 g80 rfl).trans ?_
        refine (r_icmp_ge_t f104_35 (by decide)).trans ?_
        exact r_vreturn f104_112 rfl
      refine (r_virt (as := [.int 7]) (v := none) (h1 := z79) f97_110 g80 zg104 rfl rfl rfl rfl rfl rfl hc25).trans ?_
      refine (r_iinc (v := 8) (L' := [some (.ref 146), some (.int 0), some (.int 0), some (.int 8)]) f97_113 rfl rfl rfl).trans ?_
      refine (r_goto f97_116).trans ?_
      refine (r_iloadn f97_91 rfl).trans ?_
      refine (r_bipush (v := 24) f97_92 rfl).trans ?_
      refine (r_icmp_ge_f f97_94 (by decide)).trans ?_
      refine (r_aloadn f97_97 rfl).trans ?_
      refine (r_get (v := .ref 150) f97_98 g80 rfl).trans ?_
      refine (r_iloadn f97_101 rfl).trans ?_
      refine (r_aloadn f97_102 rfl).trans ?_
      refine (r_iloadn f97_103 rfl).trans ?_
      have hc27 : arun X (n + 5800) (d + 8) zM103 0 [some (.ref 146), some (.int 8), none, none, none, none] [] z79 = some ((some (.int 0)), z79) := by
        refine (r_iconst (v := 0) f103_0 rfl).trans ?_
        refine (r_istoren (L' := [some (.ref 146), some (.int 8), some (.int 0), none, none, none]) f103_1 rfl rfl).trans ?_
        refine (r_iconst (v := 0) f103_2 rfl).trans ?_
        refine (r_istoren (L' := [some (.ref 146), some (.int 8), some (.int 0), some (.int 0), none, none]) f103_3 rfl rfl).trans ?_
        refine (r_iconst (v := 0) f103_4 rfl).trans ?_
        refine (r_istore (L' := [some (.ref 146), some (.int 8), some (.int 0), some (.int 0), some (.int 0), none]) f103_5 rfl rfl).trans ?_
        refine (r_iconst (v := 0) f103_7 rfl).trans ?_
        refine (r_istore (L' := [some (.ref 146), some (.int 8), some (.int 0), some (.int 0), some (.int 0), some (.int 0)]) f103_8 rfl rfl).trans ?_
        refine (r_iload f103_10 rfl).trans ?_
        refine (r_aloadn f103_12 rfl).trans ?_
        refine (r_get (v := .int 0) f103_13 g80 rfl).trans ?_
        refine (r_icmp_ge_t f103_16 (by decide)).trans ?_
        refine (r_iloadn f103_81 rfl).trans ?_
        refine (r_iloadn f103_82 rfl).trans ?_
        refine (r_iload f103_83 rfl).trans ?_
        refine (r_iand (v := 0) f103_85 (by decide)).trans ?_
        refine (r_ior (v := 0) f103_86 (by decide)).trans ?_
        exact r_ireturn f103_87 rfl
      refine (r_virt (as := [.int 8]) (v := (some (.int 0))) (h1 := z79) f97_104 g80 zg103 rfl rfl rfl rfl rfl rfl hc27).trans ?_
      refine (r_iast (h' := z83) f97_107 g81 (by decide) q83).trans ?_
      refine (r_aloadn f97_108 rfl).trans ?_
      refine (r_iloadn f97_109 rfl).trans ?_
      have hc28 : arun X (n + 5796) (d + 8) zM104 0 [some (.ref 146), some (.int 8), none, none, none, none] [] z83 = some (none, z83) := by
        refine (r_aloadn f104_0 rfl).trans ?_
        refine (r_get (v := .ref 150) f104_1 g84 rfl).trans ?_
        refine (r_iloadn f104_4 rfl).trans ?_
        refine (r_iald (v := 0) f104_5 g85 (by decide) rfl).trans ?_
        refine (r_aloadn f104_6 rfl).trans ?_
        refine (r_get (v := .ref 16) f104_7 g84 rfl).trans ?_
        refine (r_iloadn f104_10 rfl).trans ?_
        refine (r_aloadn f104_11 rfl).trans ?_
        refine (r_get (v := .int x1) f104_12 g84 rfl).trans ?_
        refine (r_aloadn f104_15 rfl).trans ?_
        refine (r_get (v := .int 0) f104_16 g84 rfl).trans ?_
        have hc29 : arun X (n + 5784) (d + 7) zM33 0 [some (.ref 16), some (.int 8), some (.int x1), some (.int 0), none, none, none] [] z83 = some ((some (.int 0)), z83) := by
          refine (r_iconst (v := 0) f33_0 rfl).trans ?_
          refine (r_istore (L' := [some (.ref 16), some (.int 8), some (.int x1), some (.int 0), some (.int 0), none, none]) f33_1 rfl rfl).trans ?_
          refine (r_iconst (v := 0) f33_3 rfl).trans ?_
          refine (r_istore (L' := [some (.ref 16), some (.int 8), some (.int x1), some (.int 0), some (.int 0), some (.int 0), none]) f33_4 rfl rfl).trans ?_
          refine (r_iload f33_6 rfl).trans ?_
          refine (r_aloadn f33_8 rfl).trans ?_
          refine (r_get (v := .int 0) f33_9 g86 rfl).trans ?_
          refine (r_icmp_ge_t f33_12 (by decide)).trans ?_
          refine (r_iload f33_117 rfl).trans ?_
          exact r_ireturn f33_119 rfl
        refine (r_virt (as := [.int 8, .int x1, .int 0]) (v := (some (.int 0))) (h1 := z83) f104_19 g86 zg33 rfl rfl rfl rfl rfl rfl hc29).trans ?_
        refine (r_ior (v := 0) f104_22 (by decide)).trans ?_
        refine (r_istoren (L' := [some (.ref 146), some (.int 8), some (.int 0), none, none, none]) f104_23 rfl rfl).trans ?_
        refine (r_iconst (v := 0) f104_24 rfl).trans ?_
        refine (r_istoren (L' := [some (.ref 146), some (.int 8), some (.int 0), some (.int 0), none, none]) f104_25 rfl rfl).trans ?_
        refine (r_iconst (v := 0) f104_26 rfl).trans ?_
        refine (r_istore (L' := [some (.ref 146), some (.int 8), some (.int 0), some (.int 0), some (.int 0), none]) f104_27 rfl rfl).trans ?_
        refine (r_iload f104_29 rfl).trans ?_
        refine (r_aloadn f104_31 rfl).trans ?_
        refine (r_get (v := .int 0) f104_32 g84 rfl).trans ?_
        refine (r_icmp_ge_t f104_35 (by decide)).trans ?_
        exact r_vreturn f104_112 rfl
      refine (r_virt (as := [.int 8]) (v := none) (h1 := z83) f97_110 g84 zg104 rfl rfl rfl rfl rfl rfl hc28).trans ?_
      refine (r_iinc (v := 9) (L' := [some (.ref 146), some (.int 0), some (.int 0), some (.int 9)]) f97_113 rfl rfl rfl).trans ?_
      refine (r_goto f97_116).trans ?_
      refine (r_iloadn f97_91 rfl).trans ?_
      refine (r_bipush (v := 24) f97_92 rfl).trans ?_
      refine (r_icmp_ge_f f97_94 (by decide)).trans ?_
      refine (r_aloadn f97_97 rfl).trans ?_
      refine (r_get (v := .ref 150) f97_98 g84 rfl).trans ?_
      refine (r_iloadn f97_101 rfl).trans ?_
      refine (r_aloadn f97_102 rfl).trans ?_
      refine (r_iloadn f97_103 rfl).trans ?_
      have hc30 : arun X (n + 5785) (d + 8) zM103 0 [some (.ref 146), some (.int 9), none, none, none, none] [] z83 = some ((some (.int 0)), z83) := by
        refine (r_iconst (v := 0) f103_0 rfl).trans ?_
        refine (r_istoren (L' := [some (.ref 146), some (.int 9), some (.int 0), none, none, none]) f103_1 rfl rfl).trans ?_
        refine (r_iconst (v := 0) f103_2 rfl).trans ?_
        refine (r_istoren (L' := [some (.ref 146), some (.int 9), some (.int 0), some (.int 0), none, none]) f103_3 rfl rfl).trans ?_
        refine (r_iconst (v := 0) f103_4 rfl).trans ?_
        refine (r_istore (L' := [some (.ref 146), some (.int 9), some (.int 0), some (.int 0), some (.int 0), none]) f103_5 rfl rfl).trans ?_
        refine (r_iconst (v := 0) f103_7 rfl).trans ?_
        refine (r_istore (L' := [some (.ref 146), some (.int 9), some (.int 0), some (.int 0), some (.int 0), some (.int 0)]) f103_8 rfl rfl).trans ?_
        refine (r_iload f103_10 rfl).trans ?_
        refine (r_aloadn f103_12 rfl).trans ?_
        refine (r_get (v := .int 0) f103_13 g84 rfl).trans ?_
        refine (r_icmp_ge_t f103_16 (by decide)).trans ?_
        refine (r_iloadn f103_81 rfl).trans ?_
        refine (r_iloadn f103_82 rfl).trans ?_
        refine (r_iload f103_83 rfl).trans ?_
        refine (r_iand (v := 0) f103_85 (by decide)).trans ?_
        refine (r_ior (v := 0) f103_86 (by decide)).trans ?_
        exact r_ireturn f103_87 rfl
      refine (r_virt (as := [.int 9]) (v := (some (.int 0))) (h1 := z83) f97_104 g84 zg103 rfl rfl rfl rfl rfl rfl hc30).trans ?_
      refine (r_iast (h' := z87) f97_107 g85 (by decide) q87).trans ?_
      refine (r_aloadn f97_108 rfl).trans ?_
      refine (r_iloadn f97_109 rfl).trans ?_
      have hc31 : arun X (n + 5781) (d + 8) zM104 0 [some (.ref 146), some (.int 9), none, none, none, none] [] z87 = some (none, z87) := by
        refine (r_aloadn f104_0 rfl).trans ?_
        refine (r_get (v := .ref 150) f104_1 g88 rfl).trans ?_
        refine (r_iloadn f104_4 rfl).trans ?_
        refine (r_iald (v := 0) f104_5 g89 (by decide) rfl).trans ?_
        refine (r_aloadn f104_6 rfl).trans ?_
        refine (r_get (v := .ref 16) f104_7 g88 rfl).trans ?_
        refine (r_iloadn f104_10 rfl).trans ?_
        refine (r_aloadn f104_11 rfl).trans ?_
        refine (r_get (v := .int x1) f104_12 g88 rfl).trans ?_
        refine (r_aloadn f104_15 rfl).trans ?_
        refine (r_get (v := .int 0) f104_16 g88 rfl).trans ?_
        have hc32 : arun X (n + 5769) (d + 7) zM33 0 [some (.ref 16), some (.int 9), some (.int x1), some (.int 0), none, none, none] [] z87 = some ((some (.int 0)), z87) := by
          refine (r_iconst (v := 0) f33_0 rfl).trans ?_
          refine (r_istore (L' := [some (.ref 16), some (.int 9), some (.int x1), some (.int 0), some (.int 0), none, none]) f33_1 rfl rfl).trans ?_
          refine (r_iconst (v := 0) f33_3 rfl).trans ?_
          refine (r_istore (L' := [some (.ref 16), some (.int 9), some (.int x1), some (.int 0), some (.int 0), some (.int 0), none]) f33_4 rfl rfl).trans ?_
          refine (r_iload f33_6 rfl).trans ?_
          refine (r_aloadn f33_8 rfl).trans ?_
          refine (r_get (v := .int 0) f33_9 g90 rfl).trans ?_
          refine (r_icmp_ge_t f33_12 (by decide)).trans ?_
          refine (r_iload f33_117 rfl).trans ?_
          exact r_ireturn f33_119 rfl
        refine (r_virt (as := [.int 9, .int x1, .int 0]) (v := (some (.int 0))) (h1 := z87) f104_19 g90 zg33 rfl rfl rfl rfl rfl rfl hc32).trans ?_
        refine (r_ior (v := 0) f104_22 (by decide)).trans ?_
        refine (r_istoren (L' := [some (.ref 146), some (.int 9), some (.int 0), none, none, none]) f104_23 rfl rfl).trans ?_
        refine (r_iconst (v := 0) f104_24 rfl).trans ?_
        refine (r_istoren (L' := [some (.ref 146), some (.int 9), some (.int 0), some (.int 0), none, none]) f104_25 rfl rfl).trans ?_
        refine (r_iconst (v := 0) f104_26 rfl).trans ?_
        refine (r_istore (L' := [some (.ref 146), some (.int 9), some (.int 0), some (.int 0), some (.int 0), none]) f104_27 rfl rfl).trans ?_
        refine (r_iload f104_29 rfl).trans ?_
        refine (r_aloadn f104_31 rfl).trans ?_
        refine (r_get (v := .int 0) f104_32 g88 rfl).trans ?_
        refine (r_icmp_ge_t f104_35 (by decide)).trans ?_
        exact r_vreturn f104_112 rfl
      refine (r_virt (as := [.int 9]) (v := none) (h1 := z87) f97_110 g88 zg104 rfl rfl rfl rfl rfl rfl hc31).trans ?_
      refine (r_iinc (v := 10) (L' := [some (.ref 146), some (.int 0), some (.int 0), some (.int 10)]) f97_113 rfl rfl rfl).trans ?_
      refine (r_goto f97_116).trans ?_
      refine (r_iloadn f97_91 rfl).trans ?_
      refine (r_bipush (v := 24) f97_92 rfl).trans ?_
      refine (r_icmp_ge_f f97_94 (by decide)).trans ?_
      refine (r_aloadn f97_97 rfl).trans ?_
      refine (r_get (v := .ref 150) f97_98 g88 rfl).trans ?_
      refine (r_iloadn f97_101 rfl).trans ?_
      refine (r_aloadn f97_102 rfl).trans ?_
      refine (r_iloadn f97_103 rfl).trans ?_
      have hc33 : arun X (n + 5770) (d + 8) zM103 0 [some (.ref 146), some (.int 10), none, none, none, none] [] z87 = some ((some (.int 0)), z87) := by
        refine (r_iconst (v := 0) f103_0 rfl).trans ?_
        refine (r_istoren (L' := [some (.ref 146), some (.int 10), some (.int 0), none, none, none]) f103_1 rfl rfl).trans ?_
        refine (r_iconst (v := 0) f103_2 rfl).trans ?_
        refine (r_istoren (L' := [some (.ref 146), some (.int 10), some (.int 0), some (.int 0), none, none]) f103_3 rfl rfl).trans ?_
        refine (r_iconst (v := 0) f103_4 rfl).trans ?_
        refine (r_istore (L' := [some (.ref 146), some (.int 10), some (.int 0), some (.int 0), some (.int 0), none]) f103_5 rfl rfl).trans ?_
        refine (r_iconst (v := 0) f103_7 rfl).trans ?_
        refine (r_istore (L' := [some (.ref 146), some (.int 10), some (.int 0), some (.int 0), some (.int 0), some (.int 0)]) f103_8 rfl rfl).trans ?_
        refine (r_iload f103_10 rfl).trans ?_
        refine (r_aloadn f103_12 rfl).trans ?_
        refine (r_get (v := .int 0) f103_13 g88 rfl).trans ?_
        refine (r_icmp_ge_t f103_16 (by decide)).trans ?_
        refine (r_iloadn f103_81 rfl).trans ?_
        refine (r_iloadn f103_82 rfl).trans ?_
        refine (r_iload f103_83 rfl).trans ?_
        refine (r_iand (v := 0) f103_85 (by decide)).trans ?_
        refine (r_ior (v := 0) f103_86 (by decide)).trans ?_
        exact r_ireturn f103_87 rfl
      refine (r_virt (as := [.int 10]) (v := (some (.int 0))) (h1 := z87) f97_104 g88 zg103 rfl rfl rfl rfl rfl rfl hc33).trans ?_
      refine (r_iast (h' := z91) f97_107 g89 (by decide) q91).trans ?_
      refine (r_aloadn f97_108 rfl).trans ?_
      refine (r_iloadn f97_109 rfl).trans ?_
      have hc34 : arun X (n + 5766) (d + 8) zM104 0 [some (.ref 146), some (.int 10), none, none, none, none] [] z91 = some (none, z91) := by
        refine (r_aloadn f104_0 rfl).trans ?_
        refine (r_get (v := .ref 150) f104_1 g92 rfl).trans ?_
        refine (r_iloadn f104_4 rfl).trans ?_
        refine (r_iald (v := 0) f104_5 g93 (by decide) rfl).trans ?_
        refine (r_aloadn f104_6 rfl).trans ?_
        refine (r_get (v := .ref 16) f104_7 g92 rfl).trans ?_
        refine (r_iloadn f104_10 rfl).trans ?_
        refine (r_aloadn f104_11 rfl).trans ?_
        refine (r_get (v := .int x1) f104_12 g92 rfl).trans ?_
        refine (r_aloadn f104_15 rfl).trans ?_
        refine (r_get (v := .int 0) f104_16 g92 rfl).trans ?_
        have hc35 : arun X (n + 5754) (d + 7) zM33 0 [some (.ref 16), some (.int 10), some (.int x1), some (.int 0), none, none, none] [] z91 = some ((some (.int 0)), z91) := by
          refine (r_iconst (v := 0) f33_0 rfl).trans ?_
          refine (r_istore (L' := [some (.ref 16), some (.int 10), some (.int x1), some (.int 0), some (.int 0), none, none]) f33_1 rfl rfl).trans ?_
          refine (r_iconst (v := 0) f33_3 rfl).trans ?_
          refine (r_istore (L' := [some (.ref 16), some (.int 10), some (.int x1), some (.int 0), some (.int 0), some (.int 0), none]) f33_4 rfl rfl).trans ?_
          refine (r_iload f33_6 rfl).trans ?_
          refine (r_aloadn f33_8 rfl).trans ?_
          refine (r_get (v := .int 0) f33_9 g94 rfl).trans ?_
          refine (r_icmp_ge_t f33_12 (by decide)).trans ?_
          refine (r_iload f33_117 rfl).trans ?_
          exact r_ireturn f33_119 rfl
        refine (r_virt (as := [.int 10, .int x1, .int 0]) (v := (some (.int 0))) (h1 := z91) f104_19 g94 zg33 rfl rfl rfl rfl rfl rfl hc35).trans ?_
        refine (r_ior (v := 0) f104_22 (by decide)).trans ?_
        refine (r_istoren (L' := [some (.ref 146), some (.int 10), some (.int 0), none, none, none]) f104_23 rfl rfl).trans ?_
        refine (r_iconst (v := 0) f104_24 rfl).trans ?_
        refine (r_istoren (L' := [some (.ref 146), some (.int 10), some (.int 0), some (.int 0), none, none]) f104_25 rfl rfl).trans ?_
        refine (r_iconst (v := 0) f104_26 rfl).trans ?_
        refine (r_istore (L' := [some (.ref 146), some (.int 10), some (.int 0), some (.int 0), some (.int 0), none]) f104_27 rfl rfl).trans ?_
        refine (r_iload f104_29 rfl).trans ?_
        refine (r_aloadn f104_31 rfl).trans ?_
        refine (r_get (v := .int 0) f104_32 g92 rfl).trans ?_
        refine (r_icmp_ge_t f104_35 (by decide)).trans ?_
        exact r_vreturn f104_112 rfl
      refine (r_virt (as := [.int 10]) (v := none) (h1 := z91) f97_110 g92 zg104 rfl rfl rfl rfl rfl rfl hc34).trans ?_
      refine (r_iinc (v := 11) (L' := [some (.ref 146), some (.int 0), some (.int 0), some (.int 11)]) f97_113 rfl rfl rfl).trans ?_
      refine (r_goto f97_116).trans ?_
      refine (r_iloadn f97_91 rfl).trans ?_
      refine (r_bipush (v := 24) f97_92 rfl).trans ?_
      refine (r_icmp_ge_f f97_94 (by decide)).trans ?_
      refine (r_aloadn f97_97 rfl).trans ?_
      refine (r_get (v := .ref 150) f97_98 g92 rfl).trans ?_
      refine (r_iloadn f97_101 rfl).trans ?_
      refine (r_aloadn f97_102 rfl).trans ?_
      refine (r_iloadn f97_103 rfl).trans ?_
      have hc36 : arun X (n + 5755) (d + 8) zM103 0 [some (.ref 146), some (.int 11), none, none, none, none] [] z91 = some ((some (.int 0)), z91) := by
        refine (r_iconst (v := 0) f103_0 rfl).trans ?_
        refine (r_istoren (L' := [some (.ref 146), some (.int 11), some (.int 0), none, none, none]) f103_1 rfl rfl).trans ?_
        refine (r_iconst (v := 0) f103_2 rfl).trans ?_
        refine (r_istoren (L' := [some (.ref 146), some (.int 11), some (.int 0), some (.int 0), none, none]) f103_3 rfl rfl).trans ?_
        refine (r_iconst (v := 0) f103_4 rfl).trans ?_
        refine (r_istore (L' := [some (.ref 146), some (.int 11), some (.int 0), some (.int 0), some (.int 0), none]) f103_5 rfl rfl).trans ?_
        refine (r_iconst (v := 0) f103_7 rfl).trans ?_
        refine (r_istore (L' := [some (.ref 146), some (.int 11), some (.int 0), some (.int 0), some (.int 0), some (.int 0)]) f103_8 rfl rfl).trans ?_
        refine (r_iload f103_10 rfl).trans ?_
        refine (r_aloadn f103_12 rfl).trans ?_
        refine (r_get (v := .int 0) f103_13 g92 rfl).trans ?_
        refine (r_icmp_ge_t f103_16 (by decide)).trans ?_
        refine (r_iloadn f103_81 rfl).trans ?_
        refine (r_iloadn f103_82 rfl).trans ?_
        refine (r_iload f103_83 rfl).trans ?_
        refine (r_iand (v := 0) f103_85 (by decide)).trans ?_
        refine (r_ior (v := 0) f103_86 (by decide)).trans ?_
        exact r_ireturn f103_87 rfl
      refine (r_virt (as := [.int 11]) (v := (some (.int 0))) (h1 := z91) f97_104 g92 zg103 rfl rfl rfl rfl rfl rfl hc36).trans ?_
      refine (r_iast (h' := z95) f97_107 g93 (by decide) q95).trans ?_
      refine (r_aloadn f97_108 rfl).trans ?_
      refine (r_iloadn f97_109 rfl).trans ?_
      have hc37 : arun X (n + 5751) (d + 8) zM104 0 [some (.ref 146), some (.int 11), none, none, none, none] [] z95 = some (none, z95) := by
        refine (r_aloadn f104_0 rfl).trans ?_
        refine (r_get (v := .ref 150) f104_1 g96 rfl).trans ?_
        refine (r_iloadn f104_4 rfl).trans ?_
        refine (r_iald (v := 0) f104_5 g97 (by decide) rfl).trans ?_
        refine (r_aloadn f104_6 rfl).trans ?_
        refine (r_get (v := .ref 16) f104_7 g96 rfl).trans ?_
        refine (r_iloadn f104_10 rfl).trans ?_
        refine (r_aloadn f104_11 rfl).trans ?_
        refine (r_get (v := .int x1) f104_12 g96 rfl).trans ?_
        refine (r_aloadn f104_15 rfl).trans ?_
        refine (r_get (v := .int 0) f104_16 g96 rfl).trans ?_
        have hc38 : arun X (n + 5739) (d + 7) zM33 0 [some (.ref 16), some (.int 11), some (.int x1), some (.int 0), none, none, none] [] z95 = some ((some (.int 0)), z95) := by
          refine (r_iconst (v := 0) f33_0 rfl).trans ?_
          refine (r_istore (L' := [some (.ref 16), some (.int 11), some (.int x1), some (.int 0), some (.int 0), none, none]) f33_1 rfl rfl).trans ?_
          refine (r_iconst (v := 0) f33_3 rfl).trans ?_
          refine (r_istore (L' := [some (.ref 16), some (.int 11), some (.int x1), some (.int 0), some (.int 0), some (.int 0), none]) f33_4 rfl rfl).trans ?_
          refine (r_iload f33_6 rfl).trans ?_
          refine (r_aloadn f33_8 rfl).trans ?_
          refine (r_get (v := .int 0) f33_9 g98 rfl).trans ?_
          refine (r_icmp_ge_t f33_12 (by decide)).trans ?_
          refine (r_iload f33_117 rfl).trans ?_
          exact r_ireturn f33_119 rfl
        refine (r_virt (as := [.int 11, .int x1, .int 0]) (v := (some (.int 0))) (h1 := z95) f104_19 g98 zg33 rfl rfl rfl rfl rfl rfl hc38).trans ?_
        refine (r_ior (v := 0) f104_22 (by decide)).trans ?_
        refine (r_istoren (L' := [some (.ref 146), some (.int 11), some (.int 0), none, none, none]) f104_23 rfl rfl).trans ?_
        refine (r_iconst (v := 0) f104_24 rfl).trans ?_
        refine (r_istoren (L' := [some (.ref 146), some (.int 11), some (.int 0), some (.int 0), none, none]) f104_25 rfl rfl).trans ?_
        refine (r_iconst (v := 0) f104_26 rfl).trans ?_
        refine (r_istore (L' := [some (.ref 146), some (.int 11), some (.int 0), some (.int 0), some (.int 0), none]) f104_27 rfl rfl).trans ?_
        refine (r_iload f104_29 rfl).trans ?_
        refine (r_aloadn f104_31 rfl).trans ?_
        refine (r_get (v := .int 0) f104_32 g96 rfl).trans ?_
        refine (r_icmp_ge_t f104_35 (by decide)).trans ?_
        exact r_vreturn f104_112 rfl
      refine (r_virt (as := [.int 11]) (v := none) (h1 := z95) f97_110 g96 zg104 rfl rfl rfl rfl rfl rfl hc37).trans ?_
      refine (r_iinc (v := 12) (L' := [some (.ref 146), some (.int 0), some (.int 0), some (.int 12)]) f97_113 rfl rfl rfl).trans ?_
      refine (r_goto f97_116).trans ?_
      refine (r_iloadn f97_91 rfl).trans ?_
      refine (r_bipush (v := 24) f97_92 rfl).trans ?_
      refine (r_icmp_ge_f f97_94 (by decide)).trans ?_
      refine (r_aloadn f97_97 rfl).trans ?_
      refine (r_get (v := .ref 150) f97_98 g96 rfl).trans ?_
      refine (r_iloadn f97_101 rfl).trans ?_
      refine (r_aloadn f97_102 rfl).trans ?_
      refine (r_iloadn f97_103 rfl).trans ?_
      have hc39 : arun X (n + 5740) (d + 8) zM103 0 [some (.ref 146), some (.int 12), none, none, none, none] [] z95 = some ((some (.int 0)), z95) := by
        refine (r_iconst (v := 0) f103_0 rfl).trans ?_
        refine (r_istoren (L' := [some (.ref 146), some (.int 12), some (.int 0), none, none, none]) f103_1 rfl rfl).trans ?_
        refine (r_iconst (v := 0) f103_2 rfl).trans ?_
        refine (r_istoren (L' := [some (.ref 146), some (.int 12), some (.int 0), some (.int 0), none, none]) f103_3 rfl rfl).trans ?_
        refine (r_iconst (v := 0) f103_4 rfl).trans ?_
        refine (r_istore (L' := [some (.ref 146), some (.int 12), some (.int 0), some (.int 0), some (.int 0), none]) f103_5 rfl rfl).trans ?_
        refine (r_iconst (v := 0) f103_7 rfl).trans ?_
        refine (r_istore (L' := [some (.ref 146), some (.int 12), some (.int 0), some (.int 0), some (.int 0), some (.int 0)]) f103_8 rfl rfl).trans ?_
        refine (r_iload f103_10 rfl).trans ?_
        refine (r_aloadn f103_12 rfl).trans ?_
        refine (r_get (v := .int 0) f103_13 g96 rfl).trans ?_
        refine (r_icmp_ge_t f103_16 (by decide)).trans ?_
        refine (r_iloadn f103_81 rfl).trans ?_
        refine (r_iloadn f103_82 rfl).trans ?_
        refine (r_iload f103_83 rfl).trans ?_
        refine (r_iand (v := 0) f103_85 (by decide)).trans ?_
        refine (r_ior (v := 0) f103_86 (by decide)).trans ?_
        exact r_ireturn f103_87 rfl
      refine (r_virt (as := [.int 12]) (v := (some (.int 0))) (h1 := z95) f97_104 g96 zg103 rfl rfl rfl rfl rfl rfl hc39).trans ?_
      refine (r_iast (h' := z99) f97_107 g97 (by decide) q99).trans ?_
      refine (r_aloadn f97_108 rfl).trans ?_
      refine (r_iloadn f97_109 rfl).trans ?_
      have hc40 : arun X (n + 5736) (d + 8) zM104 0 [some (.ref 146), some (.int 12), none, none, none, none] [] z99 = some (none, z99) := by
        refine (r_aloadn f104_0 rfl).trans ?_
        refine (r_get (v := .ref 150) f104_1 g100 rfl).trans ?_
        refine (r_iloadn f104_4 rfl).trans ?_
        refine (r_iald (v := 0) f104_5 g101 (by decide) rfl).trans ?_
        refine (r_aloadn f104_6 rfl).trans ?_
        refine (r_get (v := .ref 16) f104_7 g100 rfl).trans ?_
        refine (r_iloadn f104_10 rfl).trans ?_
        refine (r_aloadn f104_11 rfl).trans ?_
        refine (r_get (v := .int x1) f104_12 g100 rfl).trans ?_
        refine (r_aloadn f104_15 rfl).trans ?_
        refine (r_get (v := .int 0) f104_16 g100 rfl).trans ?_
        have hc41 : arun X (n + 5724) (d + 7) zM33 0 [some (.ref 16), some (.int 12), some (.int x1), some (.int 0), none, none, none] [] z99 = some ((some (.int 0)), z99) := by
          refine (r_iconst (v := 0) f33_0 rfl).trans ?_
          refine (r_istore (L' := [some (.ref 16), some (.int 12), some (.int x1), some (.int 0), some (.int 0), none, none]) f33_1 rfl rfl).trans ?_
          refine (r_iconst (v := 0) f33_3 rfl).trans ?_
          refine (r_istore (L' := [some (.ref 16), some (.int 12), some (.int x1), some (.int 0), some (.int 0), some (.int 0), none]) f33_4 rfl rfl).trans ?_
          refine (r_iload f33_6 rfl).trans ?_
          refine (r_aloadn f33_8 rfl).trans ?_
          refine (r_get (v := .int 0) f33_9 g102 rfl).trans ?_
          refine (r_icmp_ge_t f33_12 (by decide)).trans ?_
          refine (r_iload f33_117 rfl).trans ?_
          exact r_ireturn f33_119 rfl
        refine (r_virt (as := [.int 12, .int x1, .int 0]) (v := (some (.int 0))) (h1 := z99) f104_19 g102 zg33 rfl rfl rfl rfl rfl rfl hc41).trans ?_
        refine (r_ior (v := 0) f104_22 (by decide)).trans ?_
        refine (r_istoren (L' := [some (.ref 146), some (.int 12), some (.int 0), none, none, none]) f104_23 rfl rfl).trans ?_
        refine (r_iconst (v := 0) f104_24 rfl).trans ?_
        refine (r_istoren (L' := [some (.ref 146), some (.int 12), some (.int 0), some (.int 0), none, none]) f104_25 rfl rfl).trans ?_
        refine (r_iconst (v := 0) f104_26 rfl).trans ?_
        refine (r_istore (L' := [some (.ref 146), some (.int 12), some (.int 0), some (.int 0), some (.int 0), none]) f104_27 rfl rfl).trans ?_
        refine (r_iload f104_29 rfl).trans ?_
        refine (r_aloadn f104_31 rfl).trans ?_
        refine (r_get (v := .int 0) f104_32 g100 rfl).trans ?_
        refine (r_icmp_ge_t f104_35 (by decide)).trans ?_
        exact r_vreturn f104_112 rfl
      refine (r_virt (as := [.int 12]) (v := none) (h1 := z99) f97_110 g100 zg104 rfl rfl rfl rfl rfl rfl hc40).trans ?_
      refine (r_iinc (v := 13) (L' := [some (.ref 146), some (.int 0), some (.int 0), some (.int 13)]) f97_113 rfl rfl rfl).trans ?_
      refine (r_goto f97_116).trans ?_
      refine (r_iloadn f97_91 rfl).trans ?_
      refine (r_bipush (v := 24) f97_92 rfl).trans ?_
      refine (r_icmp_ge_f f97_94 (by decide)).trans ?_
      refine (r_aloadn f97_97 rfl).trans ?_
      refine (r_get (v := .ref 150) f97_98 g100 rfl).trans ?_
      refine (r_iloadn f97_101 rfl).trans ?_
      refine (r_aloadn f97_102 rfl).trans ?_
      refine (r_iloadn f97_103 rfl).trans ?_
      have hc42 : arun X (n + 5725) (d + 8) zM103 0 [some (.ref 146), some (.int 13), none, none, none, none] [] z99 = some ((some (.int 0)), z99) := by
        refine (r_iconst (v := 0) f103_0 rfl).trans ?_
        refine (r_istoren (L' := [some (.ref 146), some (.int 13), some (.int 0), none, none, none]) f103_1 rfl rfl).trans ?_
        refine (r_iconst (v := 0) f103_2 rfl).trans ?_
        refine (r_istoren (L' := [some (.ref 146), some (.int 13), some (.int 0), some (.int 0), none, none]) f103_3 rfl rfl).trans ?_
        refine (r_iconst (v := 0) f103_4 rfl).trans ?_
        refine (r_istore (L' := [some (.ref 146), some (.int 13), some (.int 0), some (.int 0), some (.int 0), none]) f103_5 rfl rfl).trans ?_
        refine (r_iconst (v := 0) f103_7 rfl).trans ?_
        refine (r_istore (L' := [some (.ref 146), some (.int 13), some (.int 0), some (.int 0), some (.int 0), some (.int 0)]) f103_8 rfl rfl).trans ?_
        refine (r_iload f103_10 rfl).trans ?_
        refine (r_aloadn f103_12 rfl).trans ?_
        refine (r_get (v := .int 0) f103_13 g100 rfl).trans ?_
        refine (r_icmp_ge_t f103_16 (by decide)).trans ?_
        refine (r_iloadn f103_81 rfl).trans ?_
        refine (r_iloadn f103_82 rfl).trans ?_
        refine (r_iload f103_83 rfl).trans ?_
        refine (r_iand (v := 0) f103_85 (by decide)).trans ?_
        refine (r_ior (v := 0) f103_86 (by decide)).trans ?_
        exact r_ireturn f103_87 rfl
      refine (r_virt (as := [.int 13]) (v := (some (.int 0))) (h1 := z99) f97_104 g100 zg103 rfl rfl rfl rfl rfl rfl hc42).trans ?_
      refine (r_iast (h' := z103) f97_107 g101 (by decide) q103).trans ?_
      refine (r_aloadn f97_108 rfl).trans ?_
      refine (r_iloadn f97_109 rfl).trans ?_
      have hc43 : arun X (n + 5721) (d + 8) zM104 0 [some (.ref 146), some (.int 13), none, none, none, none] [] z103 = some (none, z103) := by
        refine (r_aloadn f104_0 rfl).trans ?_
        refine (r_get (v := .ref 150) f104_1 g104 rfl).trans ?_
        refine (r_iloadn f104_4 rfl).trans ?_
        refine (r_iald (v := 0) f104_5 g105 (by decide) rfl).trans ?_
        refine (r_aloadn f104_6 rfl).trans ?_
        refine (r_get (v := .ref 16) f104_7 g104 rfl).trans ?_
        refine (r_iloadn f104_10 rfl).trans ?_
        refine (r_aloadn f104_11 rfl).trans ?_
        refine (r_get (v := .int x1) f104_12 g104 rfl).trans ?_
        refine (r_aloadn f104_15 rfl).trans ?_
        refine (r_get (v := .int 0) f104_16 g104 rfl).trans ?_
        have hc44 : arun X (n + 5709) (d + 7) zM33 0 [some (.ref 16), some (.int 13), some (.int x1), some (.int 0), none, none, none] [] z103 = some ((some (.int 0)), z103) := by
          refine (r_iconst (v := 0) f33_0 rfl).trans ?_
          refine (r_istore (L' := [some (.ref 16), some (.int 13), some (.int x1), some (.int 0), some (.int 0), none, none]) f33_1 rfl rfl).trans ?_
          refine (r_iconst (v := 0) f33_3 rfl).trans ?_
          refine (r_istore (L' := [some (.ref 16), some (.int 13), some (.int x1), some (.int 0), some (.int 0), some (.int 0), none]) f33_4 rfl rfl).trans ?_
          refine (r_iload f33_6 rfl).trans ?_
          refine (r_aloadn f33_8 rfl).trans ?_
          refine (r_get (v := .int 0) f33_9 g106 rfl).trans ?_
          refine (r_icmp_ge_t f33_12 (by decide)).trans ?_
          refine (r_iload f33_117 rfl).trans ?_
          exact r_ireturn f33_119 rfl
        refine (r_virt (as := [.int 13, .int x1, .int 0]) (v := (some (.int 0))) (h1 := z103) f104_19 g106 zg33 rfl rfl rfl rfl rfl rfl hc44).trans ?_
        refine (r_ior (v := 0) f104_22 (by decide)).trans ?_
        refine (r_istoren (L' := [some (.ref 146), some (.int 13), some (.int 0), none, none, none]) f104_23 rfl rfl).trans ?_
        refine (r_iconst (v := 0) f104_24 rfl).trans ?_
        refine (r_istoren (L' := [some (.ref 146), some (.int 13), some (.int 0), some (.int 0), none, none]) f104_25 rfl rfl).trans ?_
        refine (r_iconst (v := 0) f104_26 rfl).trans ?_
        refine (r_istore (L' := [some (.ref 146), some (.int 13), some (.int 0), some (.int 0), some (.int 0), none]) f104_27 rfl rfl).trans ?_
        refine (r_iload f104_29 rfl).trans ?_
        refine (r_aloadn f104_31 rfl).trans ?_
        refine (r_get (v := .int 0) f104_32 g104 rfl).trans ?_
        refine (r_icmp_ge_t f104_35 (by decide)).trans ?_
        exact r_vreturn f104_112 rfl
      refine (r_virt (as := [.int 13]) (v := none) (h1 := z103) f97_110 g104 zg104 rfl rfl rfl rfl rfl rfl hc43).trans ?_
      refine (r_iinc (v := 14) (L' := [some (.ref 146), some (.int 0), some (.int 0), some (.int 14)]) f97_113 rfl rfl rfl).trans ?_
      refine (r_goto f97_116).trans ?_
      refine (r_iloadn f97_91 rfl).trans ?_
      refine (r_bipush (v := 24) f97_92 rfl).trans ?_
      refine (r_icmp_ge_f f97_94 (by decide)).trans ?_
      refine (r_aloadn f97_97 rfl).trans ?_
      refine (r_get (v := .ref 150) f97_98 g104 rfl).trans ?_
      refine (r_iloadn f97_101 rfl).trans ?_
      refine (r_aloadn f97_102 rfl).trans ?_
      refine (r_iloadn f97_103 rfl).trans ?_
      have hc45 : arun X (n + 5710) (d + 8) zM103 0 [some (.ref 146), some (.int 14), none, none, none, none] [] z103 = some ((some (.int 0)), z103) := by
        refine (r_iconst (v := 0) f103_0 rfl).trans ?_
        refine (r_istoren (L' := [some (.ref 146), some (.int 14), some (.int 0), none, none, none]) f103_1 rfl rfl).trans ?_
        refine (r_iconst (v := 0) f103_2 rfl).trans ?_
        refine (r_istoren (L' := [some (.ref 146), some (.int 14), some (.int 0), some (.int 0), none, none]) f103_3 rfl rfl).trans ?_
        refine (r_iconst (v := 0) f103_4 rfl).trans ?_
        refine (r_istore (L' := [some (.ref 146), some (.int 14), some (.int 0), some (.int 0), some (.int 0), none]) f103_5 rfl rfl).trans ?_
        refine (r_iconst (v := 0) f103_7 rfl).trans ?_
        refine (r_istore (L' := [some (.ref 146), some (.int 14), some (.int 0), some (.int 0), some (.int 0), some (.int 0)]) f103_8 rfl rfl).trans ?_
        refine (r_iload f103_10 rfl).trans ?_
        refine (r_aloadn f103_12 rfl).trans ?_
        refine (r_get (v := .int 0) f103_13 g104 rfl).trans ?_
        refine (r_icmp_ge_t f103_16 (by decide)).trans ?_
        refine (r_iloadn f103_81 rfl).trans ?_
        refine (r_iloadn f103_82 rfl).trans ?_
        refine (r_iload f103_83 rfl).trans ?_
        refine (r_iand (v := 0) f103_85 (by decide)).trans ?_
        refine (r_ior (v := 0) f103_86 (by decide)).trans ?_
        exact r_ireturn f103_87 rfl
      refine (r_virt (as := [.int 14]) (v := (some (.int 0))) (h1 := z103) f97_104 g104 zg103 rfl rfl rfl rfl rfl rfl hc45).trans ?_
      refine (r_iast (h' := z107) f97_107 g105 (by decide) q107).trans ?_
      refine (r_aloadn f97_108 rfl).trans ?_
      refine (r_iloadn f97_109 rfl).trans ?_
      have hc46 : arun X (n + 5706) (d + 8) zM104 0 [some (.ref 146), some (.int 14), none, none, none, none] [] z107 = some (none, z107) := by
        refine (r_aloadn f104_0 rfl).trans ?_
        refine (r_get (v := .ref 150) f104_1 g108 rfl).trans ?_
        refine (r_iloadn f104_4 rfl).trans ?_
        refine (r_iald (v := 0) f104_5 g109 (by decide) rfl).trans ?_
        refine (r_aloadn f104_6 rfl).trans ?_
        refine (r_get (v := .ref 16) f104_7 g108 rfl).trans ?_
        refine (r_iloadn f104_10 rfl).trans ?_
        refine (r_aloadn f104_11 rfl).trans ?_
        refine (r_get (v := .int x1) f104_12 g108 rfl).trans ?_
        refine (r_aloadn f104_15 rfl).trans ?_
        refine (r_get (v := .int 0) f104_16 g108 rfl).trans ?_
        have hc47 : arun X (n + 5694) (d + 7) zM33 0 [some (.ref 16), some (.int 14), some (.int x1), some (.int 0), none, none, none] [] z107 = some ((some (.int 0)), z107) := by
          refine (r_iconst (v := 0) f33_0 rfl).trans ?_
          refine (r_istore (L' := [some (.ref 16), some (.int 14), some (.int x1), some (.int 0), some (.int 0), none, none]) f33_1 rfl rfl).trans ?_
          refine (r_iconst (v := 0) f33_3 rfl).trans ?_
          refine (r_istore (L' := [some (.ref 16), some (.int 14), some (.int x1), some (.int 0), some (.int 0), some (.int 0), none]) f33_4 rfl rfl).trans ?_
          refine (r_iload f33_6 rfl).trans ?_
          refine (r_aloadn f33_8 rfl).trans ?_
          refine (r_get (v := .int 0) f33_9 g110 rfl).trans ?_
          refine (r_icmp_ge_t f33_12 (by decide)).trans ?_
          refine (r_iload f33_117 rfl).trans ?_
          exact r_ireturn f33_119 rfl
        refine (r_virt (as := [.int 14, .int x1, .int 0]) (v := (some (.int 0))) (h1 := z107) f104_19 g110 zg33 rfl rfl rfl rfl rfl rfl hc47).trans ?_
        refine (r_ior (v := 0) f104_22 (by decide)).trans ?_
        refine (r_istoren (L' := [some (.ref 146), some (.int 14), some (.int 0), none, none, none]) f104_23 rfl rfl).trans ?_
        refine (r_iconst (v := 0) f104_24 rfl).trans ?_
        refine (r_istoren (L' := [some (.ref 146), some (.int 14), some (.int 0), some (.int 0), none, none]) f104_25 rfl rfl).trans ?_
        refine (r_iconst (v := 0) f104_26 rfl).trans ?_
        refine (r_istore (L' := [some (.ref 146), some (.int 14), some (.int 0), some (.int 0), some (.int 0), none]) f104_27 rfl rfl).trans ?_
        refine (r_iload f104_29 rfl).trans ?_
        refine (r_aloadn f104_31 rfl).trans ?_
        refine (r_get (v := .int 0) f104_32 g108 rfl).trans ?_
        refine (r_icmp_ge_t f104_35 (by decide)).trans ?_
        exact r_vreturn f104_112 rfl
      refine (r_virt (as := [.int 14]) (v := none) (h1 := z107) f97_110 g108 zg104 rfl rfl rfl rfl rfl rfl hc46).trans ?_
      refine (r_iinc (v := 15) (L' := [some (.ref 146), some (.int 0), some (.int 0), some (.int 15)]) f97_113 rfl rfl rfl).trans ?_
      refine (r_goto f97_116).trans ?_
      refine (r_iloadn f97_91 rfl).trans ?_
      refine (r_bipush (v := 24) f97_92 rfl).trans ?_
      refine (r_icmp_ge_f f97_94 (by decide)).trans ?_
      refine (r_aloadn f97_97 rfl).trans ?_
      refine (r_get (v := .ref 150) f97_98 g108 rfl).trans ?_
      refine (r_iloadn f97_101 rfl).trans ?_
      refine (r_aloadn f97_102 rfl).trans ?_
      refine (r_iloadn f97_103 rfl).trans ?_
      have hc48 : arun X (n + 5695) (d + 8) zM103 0 [some (.ref 146), some (.int 15), none, none, none, none] [] z107 = some ((some (.int 0)), z107) := by
        refine (r_iconst (v := 0) f103_0 rfl).trans ?_
        refine (r_istoren (L' := [some (.ref 146), some (.int 15), some (.int 0), none, none, none]) f103_1 rfl rfl).trans ?_
        refine (r_iconst (v := 0) f103_2 rfl).trans ?_
        refine (r_istoren (L' := [some (.ref 146), some (.int 15), some (.int 0), some (.int 0), none, none]) f103_3 rfl rfl).trans ?_
        refine (r_iconst (v := 0) f103_4 rfl).trans ?_
        refine (r_istore (L' := [some (.ref 146), some (.int 15), some (.int 0), some (.int 0), some (.int 0), none]) f103_5 rfl rfl).trans ?_
        refine (r_iconst (v := 0) f103_7 rfl).trans ?_
        refine (r_istore (L' := [some (.ref 146), some (.int 15), some (.int 0), some (.int 0), some (.int 0), some (.int 0)]) f103_8 rfl rfl).trans ?_
        refine (r_iload f103_10 rfl).trans ?_
        refine (r_aloadn f103_12 rfl).trans ?_
        refine (r_get (v := .int 0) f103_13 g108 rfl).trans ?_
        refine (r_icmp_ge_t f103_16 (by decide)).trans ?_
        refine (r_iloadn f103_81 rfl).trans ?_
        refine (r_iloadn f103_82 rfl).trans ?_
        refine (r_iload f103_83 rfl).trans ?_
        refine (r_iand (v := 0) f103_85 (by decide)).trans ?_
        refine (r_ior (v := 0) f103_86 (by decide)).trans ?_
        exact r_ireturn f103_87 rfl
      refine (r_virt (as := [.int 15]) (v := (some (.int 0))) (h1 := z107) f97_104 g108 zg103 rfl rfl rfl rfl rfl rfl hc48).trans ?_
      refine (r_iast (h' := z111) f97_107 g109 (by decide) q111).trans ?_
      refine (r_aloadn f97_108 rfl).trans ?_
      refine (r_iloadn f97_109 rfl).trans ?_
      have hc49 : arun X (n + 5691) (d + 8) zM104 0 [some (.ref 146), some (.int 15), none, none, none, none] [] z111 = some (none, z111) := by
        refine (r_aloadn f104_0 rfl).trans ?_
        refine (r_get (v := .ref 150) f104_1 g112 rfl).trans ?_
        refine (r_iloadn f104_4 rfl).trans ?_
        refine (r_iald (v := 0) f104_5 g113 (by decide) rfl).trans ?_
        refine (r_aloadn f104_6 rfl).trans ?_
        refine (r_get (v := .ref 16) f104_7 g112 rfl).trans ?_
        refine (r_iloadn f104_10 rfl).trans ?_
        refine (r_aloadn f104_11 rfl).trans ?_
        refine (r_get (v := .int x1) f104_12 g112 rfl).trans ?_
        refine (r_aloadn f104_15 rfl).trans ?_
        refine (r_get (v := .int 0) f104_16 g112 rfl).trans ?_
        have hc50 : arun X (n + 5679) (d + 7) zM33 0 [some (.ref 16), some (.int 15), some (.int x1), some (.int 0), none, none, none] [] z111 = some ((some (.int 0)), z111) := by
          refine (r_iconst (v := 0) f33_0 rfl).trans ?_
          refine (r_istore (L' := [some (.ref 16), some (.int 15), some (.int x1), some (.int 0), some (.int 0), none, none]) f33_1 rfl rfl).trans ?_
          refine (r_iconst (v := 0) f33_3 rfl).trans ?_
          refine (r_istore (L' := [some (.ref 16), some (.int 15), some (.int x1), some (.int 0), some (.int 0), some (.int 0), none]) f33_4 rfl rfl).trans ?_
          refine (r_iload f33_6 rfl).trans ?_
          refine (r_aloadn f33_8 rfl).trans ?_
          refine (r_get (v := .int 0) f33_9 g114 rfl).trans ?_
          refine (r_icmp_ge_t f33_12 (by decide)).trans ?_
          refine (r_iload f33_117 rfl).trans ?_
          exact r_ireturn f33_119 rfl
        refine (r_virt (as := [.int 15, .int x1, .int 0]) (v := (some (.int 0))) (h1 := z111) f104_19 g114 zg33 rfl rfl rfl rfl rfl rfl hc50).trans ?_
        refine (r_ior (v := 0) f104_22 (by decide)).trans ?_
        refine (r_istoren (L' := [some (.ref 146), some (.int 15), some (.int 0), none, none, none]) f104_23 rfl rfl).trans ?_
        refine (r_iconst (v := 0) f104_24 rfl).trans ?_
        refine (r_istoren (L' := [some (.ref 146), some (.int 15), some (.int 0), some (.int 0), none, none]) f104_25 rfl rfl).trans ?_
        refine (r_iconst (v := 0) f104_26 rfl).trans ?_
        refine (r_istore (L' := [some (.ref 146), some (.int 15), some (.int 0), some (.int 0), some (.int 0), none]) f104_27 rfl rfl).trans ?_
        refine (r_iload f104_29 rfl).trans ?_
        refine (r_aloadn f104_31 rfl).trans ?_
        refine (r_get (v := .int 0) f104_32 g112 rfl).trans ?_
        refine (r_icmp_ge_t f104_35 (by decide)).trans ?_
        exact r_vreturn f104_112 rfl
      refine (r_virt (as := [.int 15]) (v := none) (h1 := z111) f97_110 g112 zg104 rfl rfl rfl rfl rfl rfl hc49).trans ?_
      refine (r_iinc (v := 16) (L' := [some (.ref 146), some (.int 0), some (.int 0), some (.int 16)]) f97_113 rfl rfl rfl).trans ?_
      refine (r_goto f97_116).trans ?_
      refine (r_iloadn f97_91 rfl).trans ?_
      refine (r_bipush (v := 24) f97_92 rfl).trans ?_
      refine (r_icmp_ge_f f97_94 (by decide)).trans ?_
      refine (r_aloadn f97_97 rfl).trans ?_
      refine (r_get (v := .ref 150) f97_98 g112 rfl).trans ?_
      refine (r_iloadn f97_101 rfl).trans ?_
      refine (r_aloadn f97_102 rfl).trans ?_
      refine (r_iloadn f97_103 rfl).trans ?_
      have hc51 : arun X (n + 5680) (d + 8) zM103 0 [some (.ref 146), some (.int 16), none, none, none, none] [] z111 = some ((some (.int 0)), z111) := by
        refine (r_iconst (v := 0) f103_0 rfl).trans ?_
        refine (r_istoren (L' := [some (.ref 146), some (.int 16), some (.int 0), none, none, none]) f103_1 rfl rfl).trans ?_
        refine (r_iconst (v := 0) f103_2 rfl).trans ?_
        refine (r_istoren (L' := [some (.ref 146), some (.int 16), some (.int 0), some (.int 0), none, none]) f103_3 rfl rfl).trans ?_
        refine (r_iconst (v := 0) f103_4 rfl).trans ?_
        refine (r_istore (L' := [some (.ref 146), some (.int 16), some (.int 0), some (.int 0), some (.int 0), none]) f103_5 rfl rfl).trans ?_
        refine (r_iconst (v := 0) f103_7 rfl).trans ?_
        refine (r_istore (L' := [some (.ref 146), some (.int 16), some (.int 0), some (.int 0), some (.int 0), some (.int 0)]) f103_8 rfl rfl).trans ?_
        refine (r_iload f103_10 rfl).trans ?_
        refine (r_aloadn f103_12 rfl).trans ?_
        refine (r_get (v := .int 0) f103_13 g112 rfl).trans ?_
        refine (r_icmp_ge_t f103_16 (by decide)).trans ?_
        refine (r_iloadn f103_81 rfl).trans ?_
        refine (r_iloadn f103_82 rfl).trans ?_
        refine (r_iload f103_83 rfl).trans ?_
        refine (r_iand (v := 0) f103_85 (by decide)).trans ?_
        refine (r_ior (v := 0) f103_86 (by decide)).trans ?_
        exact r_ireturn f103_87 rfl
      refine (r_virt (as := [.int 16]) (v := (some (.int 0))) (h1 := z111) f97_104 g112 zg103 rfl rfl rfl rfl rfl rfl hc51).trans ?_
      refine (r_iast (h' := z115) f97_107 g113 (by decide) q115).trans ?_
      refine (r_aloadn f97_108 rfl).trans ?_
      refine (r_iloadn f97_109 rfl).trans ?_
      have hc52 : arun X (n + 5676) (d + 8) zM104 0 [some (.ref 146), some (.int 16), none, none, none, none] [] z115 = some (none, z115) := by
        refine (r_aloadn f104_0 rfl).trans ?_
        refine (r_get (v := .ref 150) f104_1 g116 rfl).trans ?_
        refine (r_iloadn f104_4 rfl).trans ?_
        refine (r_iald (v := 0) f104_5 g117 (by decide) rfl).trans ?_
        refine (r_aloadn f104_6 rfl).trans ?_
        refine (r_get (v := .ref 16) f104_7 g116 rfl).trans ?_
        refine (r_iloadn f104_10 rfl).trans ?_
        refine (r_aloadn f104_11 rfl).trans ?_
        refine (r_get (v := .int x1) f104_12 g116 rfl).trans ?_
        refine (r_aloadn f104_15 rfl).trans ?_
        refine (r_get (v := .int 0) f104_16 g116 rfl).trans ?_
        have hc53 : arun X (n + 5664) (d + 7) zM33 0 [some (.ref 16), some (.int 16), some (.int x1), some (.int 0), none, none, none] [] z115 = some ((some (.int 0)), z115) := by
          refine (r_iconst (v := 0) f33_0 rfl).trans ?_
          refine (r_istore (L' := [some (.ref 16), some (.int 16), some (.int x1), some (.int 0), some (.int 0), none, none]) f33_1 rfl rfl).trans ?_
          refine (r_iconst (v := 0) f33_3 rfl).trans ?_
          refine (r_istore (L' := [some (.ref 16), some (.int 16), some (.int x1), some (.int 0), some (.int 0), some (.int 0), none]) f33_4 rfl rfl).trans ?_
          refine (r_iload f33_6 rfl).trans ?_
          refine (r_aloadn f33_8 rfl).trans ?_
          refine (r_get (v := .int 0) f33_9 g118 rfl).trans ?_
          refine (r_icmp_ge_t f33_12 (by decide)).trans ?_
          refine (r_iload f33_117 rfl).trans ?_
          exact r_ireturn f33_119 rfl
        refine (r_virt (as := [.int 16, .int x1, .int 0]) (v := (some (.int 0))) (h1 := z115) f104_19 g118 zg33 rfl rfl rfl rfl rfl rfl hc53).trans ?_
        refine (r_ior (v := 0) f104_22 (by decide)).trans ?_
        refine (r_istoren (L' := [some (.ref 146), some (.int 16), some (.int 0), none, none, none]) f104_23 rfl rfl).trans ?_
        refine (r_iconst (v := 0) f104_24 rfl).trans ?_
        refine (r_istoren (L' := [some (.ref 146), some (.int 16), some (.int 0), some (.int 0), none, none]) f104_25 rfl rfl).trans ?_
        refine (r_iconst (v := 0) f104_26 rfl).trans ?_
        refine (r_istore (L' := [some (.ref 146), some (.int 16), some (.int 0), some (.int 0), some (.int 0), none]) f104_27 rfl rfl).trans ?_
        refine (r_iload f104_29 rfl).trans ?_
        refine (r_aloadn f104_31 rfl).trans ?_
        refine (r_get (v := .int 0) f104_32 g116 rfl).trans ?_
        refine (r_icmp_ge_t f104_35 (by decide)).trans ?_
        exact r_vreturn f104_112 rfl
      refine (r_virt (as := [.int 16]) (v := none) (h1 := z115) f97_110 g116 zg104 rfl rfl rfl rfl rfl rfl hc52).trans ?_
      refine (r_iinc (v := 17) (L' := [some (.ref 146), some (.int 0), some (.int 0), some (.int 17)]) f97_113 rfl rfl rfl).trans ?_
      refine (r_goto f97_116).trans ?_
      refine (r_iloadn f97_91 rfl).trans ?_
      refine (r_bipush (v := 24) f97_92 rfl).trans ?_
      refine (r_icmp_ge_f f97_94 (by decide)).trans ?_
      refine (r_aloadn f97_97 rfl).trans ?_
      refine (r_get (v := .ref 150) f97_98 g116 rfl).trans ?_
      refine (r_iloadn f97_101 rfl).trans ?_
      refine (r_aloadn f97_102 rfl).trans ?_
      refine (r_iloadn f97_103 rfl).trans ?_
      have hc54 : arun X (n + 5665) (d + 8) zM103 0 [some (.ref 146), some (.int 17), none, none, none, none] [] z115 = some ((some (.int 0)), z115) := by
        refine (r_iconst (v := 0) f103_0 rfl).trans ?_
        refine (r_istoren (L' := [some (.ref 146), some (.int 17), some (.int 0), none, none, none]) f103_1 rfl rfl).trans ?_
        refine (r_iconst (v := 0) f103_2 rfl).trans ?_
        refine (r_istoren (L' := [some (.ref 146), some (.int 17), some (.int 0), some (.int 0), none, none]) f103_3 rfl rfl).trans ?_
        refine (r_iconst (v := 0) f103_4 rfl).trans ?_
        refine (r_istore (L' := [some (.ref 146), some (.int 17), some (.int 0), some (.int 0), some (.int 0), none]) f103_5 rfl rfl).trans ?_
        refine (r_iconst (v := 0) f103_7 rfl).trans ?_
        refine (r_istore (L' := [some (.ref 146), some (.int 17), some (.int 0), some (.int 0), some (.int 0), some (.int 0)]) f103_8 rfl rfl).trans ?_
        refine (r_iload f103_10 rfl).trans ?_
        refine (r_aloadn f103_12 rfl).trans ?_
        refine (r_get (v := .int 0) f103_13 g116 rfl).trans ?_
        refine (r_icmp_ge_t f103_16 (by decide)).trans ?_
        refine (r_iloadn f103_81 rfl).trans ?_
        refine (r_iloadn f103_82 rfl).trans ?_
        refine (r_iload f103_83 rfl).trans ?_
        refine (r_iand (v := 0) f103_85 (by decide)).trans ?_
        refine (r_ior (v := 0) f103_86 (by decide)).trans ?_
        exact r_ireturn f103_87 rfl
      refine (r_virt (as := [.int 17]) (v := (some (.int 0))) (h1 := z115) f97_104 g116 zg103 rfl rfl rfl rfl rfl rfl hc54).trans ?_
      refine (r_iast (h' := z119) f97_107 g117 (by decide) q119).trans ?_
      refine (r_aloadn f97_108 rfl).trans ?_
      refine (r_iloadn f97_109 rfl).trans ?_
      have hc55 : arun X (n + 5661) (d + 8) zM104 0 [some (.ref 146), some (.int 17), none, none, none, none] [] z119 = some (none, z119) := by
        refine (r_aloadn f104_0 rfl).trans ?_
        refine (r_get (v := .ref 150) f104_1 g120 rfl).trans ?_
        refine (r_iloadn f104_4 rfl).trans ?_
        refine (r_iald (v := 0) f104_5 g121 (by decide) rfl).trans ?_
        refine (r_aloadn f104_6 rfl).trans ?_
        refine (r_get (v := .ref 16) f104_7 g120 rfl).trans ?_
        refine (r_iloadn f104_10 rfl).trans ?_
        refine (r_aloadn f104_11 rfl).trans ?_
        refine (r_get (v := .int x1) f104_12 g120 rfl).trans ?_
        refine (r_aloadn f104_15 rfl).trans ?_
        refine (r_get (v := .int 0) f104_16 g120 rfl).trans ?_
        have hc56 : arun X (n + 5649) (d + 7) zM33 0 [some (.ref 16), some (.int 17), some (.int x1), some (.int 0), none, none, none] [] z119 = some ((some (.int 0)), z119) := by
          refine (r_iconst (v := 0) f33_0 rfl).trans ?_
          refine (r_istore (L' := [some (.ref 16), some (.int 17), some (.int x1), some (.int 0), some (.int 0), none, none]) f33_1 rfl rfl).trans ?_
          refine (r_iconst (v := 0) f33_3 rfl).trans ?_
          refine (r_istore (L' := [some (.ref 16), some (.int 17), some (.int x1), some (.int 0), some (.int 0), some (.int 0), none]) f33_4 rfl rfl).trans ?_
          refine (r_iload f33_6 rfl).trans ?_
          refine (r_aloadn f33_8 rfl).trans ?_
          refine (r_get (v := .int 0) f33_9 g122 rfl).trans ?_
          refine (r_icmp_ge_t f33_12 (by decide)).trans ?_
          refine (r_iload f33_117 rfl).trans ?_
          exact r_ireturn f33_119 rfl
        refine (r_virt (as := [.int 17, .int x1, .int 0]) (v := (some (.int 0))) (h1 := z119) f104_19 g122 zg33 rfl rfl rfl rfl rfl rfl hc56).trans ?_
        refine (r_ior (v := 0) f104_22 (by decide)).trans ?_
        refine (r_istoren (L' := [some (.ref 146), some (.int 17), some (.int 0), none, none, none]) f104_23 rfl rfl).trans ?_
        refine (r_iconst (v := 0) f104_24 rfl).trans ?_
        refine (r_istoren (L' := [some (.ref 146), some (.int 17), some (.int 0), some (.int 0), none, none]) f104_25 rfl rfl).trans ?_
        refine (r_iconst (v := 0) f104_26 rfl).trans ?_
        refine (r_istore (L' := [some (.ref 146), some (.int 17), some (.int 0), some (.int 0), some (.int 0), none]) f104_27 rfl rfl).trans ?_
        refine (r_iload f104_29 rfl).trans ?_
        refine (r_aloadn f104_31 rfl).trans ?_
        refine (r_get (v := .int 0) f104_32 g120 rfl).trans ?_
        refine (r_icmp_ge_t f104_35 (by decide)).trans ?_
        exact r_vreturn f104_112 rfl
      refine (r_virt (as := [.int 17]) (v := none) (h1 := z119) f97_110 g120 zg104 rfl rfl rfl rfl rfl rfl hc55).trans ?_
      refine (r_iinc (v := 18) (L' := [some (.ref 146), some (.int 0), some (.int 0), some (.int 18)]) f97_113 rfl rfl rfl).trans ?_
      refine (r_goto f97_116).trans ?_
      refine (r_iloadn f97_91 rfl).trans ?_
      refine (r_bipush (v := 24) f97_92 rfl).trans ?_
      refine (r_icmp_ge_f f97_94 (by decide)).trans ?_
      refine (r_aloadn f97_97 rfl).trans ?_
      refine (r_get (v := .ref 150) f97_98 g120 rfl).trans ?_
      refine (r_iloadn f97_101 rfl).trans ?_
      refine (r_aloadn f97_102 rfl).trans ?_
      refine (r_iloadn f97_103 rfl).trans ?_
      have hc57 : arun X (n + 5650) (d + 8) zM103 0 [some (.ref 146), some (.int 18), none, none, none, none] [] z119 = some ((some (.int 0)), z119) := by
        refine (r_iconst (v := 0) f103_0 rfl).trans ?_
        refine (r_istoren (L' := [some (.ref 146), some (.int 18), some (.int 0), none, none, none]) f103_1 rfl rfl).trans ?_
        refine (r_iconst (v := 0) f103_2 rfl).trans ?_
        refine (r_istoren (L' := [some (.ref 146), some (.int 18), some (.int 0), some (.int 0), none, none]) f103_3 rfl rfl).trans ?_
        refine (r_iconst (v := 0) f103_4 rfl).trans ?_
        refine (r_istore (L' := [some (.ref 146), some (.int 18), some (.int 0), some (.int 0), some (.int 0), none]) f103_5 rfl rfl).trans ?_
        refine (r_iconst (v := 0) f103_7 rfl).trans ?_
        refine (r_istore (L' := [some (.ref 146), some (.int 18), some (.int 0), some (.int 0), some (.int 0), some (.int 0)]) f103_8 rfl rfl).trans ?_
        refine (r_iload f103_10 rfl).trans ?_
        refine (r_aloadn f103_12 rfl).trans ?_
        refine (r_get (v := .int 0) f103_13 g120 rfl).trans ?_
        refine (r_icmp_ge_t f103_16 (by decide)).trans ?_
        refine (r_iloadn f103_81 rfl).trans ?_
        refine (r_iloadn f103_82 rfl).trans ?_
        refine (r_iload f103_83 rfl).trans ?_
        refine (r_iand (v := 0) f103_85 (by decide)).trans ?_
        refine (r_ior (v := 0) f103_86 (by decide)).trans ?_
        exact r_ireturn f103_87 rfl
      refine (r_virt (as := [.int 18]) (v := (some (.int 0))) (h1 := z119) f97_104 g120 zg103 rfl rfl rfl rfl rfl rfl hc57).trans ?_
      refine (r_iast (h' := z123) f97_107 g121 (by decide) q123).trans ?_
      refine (r_aloadn f97_108 rfl).trans ?_
      refine (r_iloadn f97_109 rfl).trans ?_
      have hc58 : arun X (n + 5646) (d + 8) zM104 0 [some (.ref 146), some (.int 18), none, none, none, none] [] z123 = some (none, z123) := by
        refine (r_aloadn f104_0 rfl).trans ?_
        refine (r_get (v := .ref 150) f104_1 g124 rfl).trans ?_
        refine (r_iloadn f104_4 rfl).trans ?_
        refine (r_iald (v := 0) f104_5 g125 (by decide) rfl).trans ?_
        refine (r_aloadn f104_6 rfl).trans ?_
        refine (r_get (v := .ref 16) f104_7 g124 rfl).trans ?_
        refine (r_iloadn f104_10 rfl).trans ?_
        refine (r_aloadn f104_11 rfl).trans ?_
        refine (r_get (v := .int x1) f104_12 g124 rfl).trans ?_
        refine (r_aloadn f104_15 rfl).trans ?_
        refine (r_get (v := .int 0) f104_16 g124 rfl).trans ?_
        have hc59 : arun X (n + 5634) (d + 7) zM33 0 [some (.ref 16), some (.int 18), some (.int x1), some (.int 0), none, none, none] [] z123 = some ((some (.int 0)), z123) := by
          refine (r_iconst (v := 0) f33_0 rfl).trans ?_
          refine (r_istore (L' := [some (.ref 16), some (.int 18), some (.int x1), some (.int 0), some (.int 0), none, none]) f33_1 rfl rfl).trans ?_
          refine (r_iconst (v := 0) f33_3 rfl).trans ?_
          refine (r_istore (L' := [some (.ref 16), some (.int 18), some (.int x1), some (.int 0), some (.int 0), some (.int 0), none]) f33_4 rfl rfl).trans ?_
          refine (r_iload f33_6 rfl).trans ?_
          refine (r_aloadn f33_8 rfl).trans ?_
          refine (r_get (v := .int 0) f33_9 g126 rfl).trans ?_
          refine (r_icmp_ge_t f33_12 (by decide)).trans ?_
          refine (r_iload f33_117 rfl).trans ?_
          exact r_ireturn f33_119 rfl
        refine (r_virt (as := [.int 18, .int x1, .int 0]) (v := (some (.int 0))) (h1 := z123) f104_19 g126 zg33 rfl rfl rfl rfl rfl rfl hc59).trans ?_
        refine (r_ior (v := 0) f104_22 (by decide)).trans ?_
        refine (r_istoren (L' := [some (.ref 146), some (.int 18), some (.int 0), none, none, none]) f104_23 rfl rfl).trans ?_
        refine (r_iconst (v := 0) f104_24 rfl).trans ?_
        refine (r_istoren (L' := [some (.ref 146), some (.int 18), some (.int 0), some (.int 0), none, none]) f104_25 rfl rfl).trans ?_
        refine (r_iconst (v := 0) f104_26 rfl).trans ?_
        refine (r_istore (L' := [some (.ref 146), some (.int 18), some (.int 0), some (.int 0), some (.int 0), none]) f104_27 rfl rfl).trans ?_
        refine (r_iload f104_29 rfl).trans ?_
        refine (r_aloadn f104_31 rfl).trans ?_
        refine (r_get (v := .int 0) f104_32 g124 rfl).trans ?_
        refine (r_icmp_ge_t f104_35 (by decide)).trans ?_
        exact r_vreturn f104_112 rfl
      refine (r_virt (as := [.int 18]) (v := none) (h1 := z123) f97_110 g124 zg104 rfl rfl rfl rfl rfl rfl hc58).trans ?_
      refine (r_iinc (v := 19) (L' := [some (.ref 146), some (.int 0), some (.int 0), some (.int 19)]) f97_113 rfl rfl rfl).trans ?_
      refine (r_goto f97_116).trans ?_
      refine (r_iloadn f97_91 rfl).trans ?_
      refine (r_bipush (v := 24) f97_92 rfl).trans ?_
      refine (r_icmp_ge_f f97_94 (by decide)).trans ?_
      refine (r_aloadn f97_97 rfl).trans ?_
      refine (r_get (v := .ref 150) f97_98 g124 rfl).trans ?_
      refine (r_iloadn f97_101 rfl).trans ?_
      refine (r_aloadn f97_102 rfl).trans ?_
      refine (r_iloadn f97_103 rfl).trans ?_
      have hc60 : arun X (n + 5635) (d + 8) zM103 0 [some (.ref 146), some (.int 19), none, none, none, none] [] z123 = some ((some (.int 0)), z123) := by
        refine (r_iconst (v := 0) f103_0 rfl).trans ?_
        refine (r_istoren (L' := [some (.ref 146), some (.int 19), some (.int 0), none, none, none]) f103_1 rfl rfl).trans ?_
        refine (r_iconst (v := 0) f103_2 rfl).trans ?_
        refine (r_istoren (L' := [some (.ref 146), some (.int 19), some (.int 0), some (.int 0), none, none]) f103_3 rfl rfl).trans ?_
        refine (r_iconst (v := 0) f103_4 rfl).trans ?_
        refine (r_istore (L' := [some (.ref 146), some (.int 19), some (.int 0), some (.int 0), some (.int 0), none]) f103_5 rfl rfl).trans ?_
        refine (r_iconst (v := 0) f103_7 rfl).trans ?_
        refine (r_istore (L' := [some (.ref 146), some (.int 19), some (.int 0), some (.int 0), some (.int 0), some (.int 0)]) f103_8 rfl rfl).trans ?_
        refine (r_iload f103_10 rfl).trans ?_
        refine (r_aloadn f103_12 rfl).trans ?_
        refine (r_get (v := .int 0) f103_13 g124 rfl).trans ?_
        refine (r_icmp_ge_t f103_16 (by decide)).trans ?_
        refine (r_iloadn f103_81 rfl).trans ?_
        refine (r_iloadn f103_82 rfl).trans ?_
        refine (r_iload f103_83 rfl).trans ?_
        refine (r_iand (v := 0) f103_85 (by decide)).trans ?_
        refine (r_ior (v := 0) f103_86 (by decide)).trans ?_
        exact r_ireturn f103_87 rfl
      refine (r_virt (as := [.int 19]) (v := (some (.int 0))) (h1 := z123) f97_104 g124 zg103 rfl rfl rfl rfl rfl rfl hc60).trans ?_
      refine (r_iast (h' := z127) f97_107 g125 (by decide) q127).trans ?_
      refine (r_aloadn f97_108 rfl).trans ?_
      refine (r_iloadn f97_109 rfl).trans ?_
      have hc61 : arun X (n + 5631) (d + 8) zM104 0 [some (.ref 146), some (.int 19), none, none, none, none] [] z127 = some (none, z127) := by
        refine (r_aloadn f104_0 rfl).trans ?_
        refine (r_get (v := .ref 150) f104_1 g128 rfl).trans ?_
        refine (r_iloadn f104_4 rfl).trans ?_
        refine (r_iald (v := 0) f104_5 g129 (by decide) rfl).trans ?_
        refine (r_aloadn f104_6 rfl).trans ?_
        refine (r_get (v := .ref 16) f104_7 g128 rfl).trans ?_
        refine (r_iloadn f104_10 rfl).trans ?_
        refine (r_aloadn f104_11 rfl).trans ?_
        refine (r_get (v := .int x1) f104_12 g128 rfl).trans ?_
        refine (r_aloadn f104_15 rfl).trans ?_
        refine (r_get (v := .int 0) f104_16 g128 rfl).trans ?_
        have hc62 : arun X (n + 5619) (d + 7) zM33 0 [some (.ref 16), some (.int 19), some (.int x1), some (.int 0), none, none, none] [] z127 = some ((some (.int 0)), z127) := by
          refine (r_iconst (v := 0) f33_0 rfl).trans ?_
          refine (r_istore (L' := [some (.ref 16), some (.int 19), some (.int x1), some (.int 0), some (.int 0), none, none]) f33_1 rfl rfl).trans ?_
          refine (r_iconst (v := 0) f33_3 rfl).trans ?_
          refine (r_istore (L' := [some (.ref 16), some (.int 19), some (.int x1), some (.int 0), some (.int 0), some (.int 0), none]) f33_4 rfl rfl).trans ?_
          refine (r_iload f33_6 rfl).trans ?_
          refine (r_aloadn f33_8 rfl).trans ?_
          refine (r_get (v := .int 0) f33_9 g130 rfl).trans ?_
          refine (r_icmp_ge_t f33_12 (by decide)).trans ?_
          refine (r_iload f33_117 rfl).trans ?_
          exact r_ireturn f33_119 rfl
        refine (r_virt (as := [.int 19, .int x1, .int 0]) (v := (some (.int 0))) (h1 := z127) f104_19 g130 zg33 rfl rfl rfl rfl rfl rfl hc62).trans ?_
        refine (r_ior (v := 0) f104_22 (by decide)).trans ?_
        refine (r_istoren (L' := [some (.ref 146), some (.int 19), some (.int 0), none, none, none]) f104_23 rfl rfl).trans ?_
        refine (r_iconst (v := 0) f104_24 rfl).trans ?_
        refine (r_istoren (L' := [some (.ref 146), some (.int 19), some (.int 0), some (.int 0), none, none]) f104_25 rfl rfl).trans ?_
        refine (r_iconst (v := 0) f104_26 rfl).trans ?_
        refine (r_istore (L' := [some (.ref 146), some (.int 19), some (.int 0), some (.int 0), some (.int 0), none]) f104_27 rfl rfl).trans ?_
        refine (r_iload f104_29 rfl).trans ?_
        refine (r_aloadn f104_31 rfl).trans ?_
        refine (r_get (v := .int 0) f104_32 g128 rfl).trans ?_
        refine (r_icmp_ge_t f104_35 (by decide)).trans ?_
        exact r_vreturn f104_112 rfl
      refine (r_virt (as := [.int 19]) (v := none) (h1 := z127) f97_110 g128 zg104 rfl rfl rfl rfl rfl rfl hc61).trans ?_
      refine (r_iinc (v := 20) (L' := [some (.ref 146), some (.int 0), some (.int 0), some (.int 20)]) f97_113 rfl rfl rfl).trans ?_
      refine (r_goto f97_116).trans ?_
      refine (r_iloadn f97_91 rfl).trans ?_
      refine (r_bipush (v := 24) f97_92 rfl).trans ?_
      refine (r_icmp_ge_f f97_94 (by decide)).trans ?_
      refine (r_aloadn f97_97 rfl).trans ?_
      refine (r_get (v := .ref 150) f97_98 g128 rfl).trans ?_
      refine (r_iloadn f97_101 rfl).trans ?_
      refine (r_aloadn f97_102 rfl).trans ?_
      refine (r_iloadn f97_103 rfl).trans ?_
      have hc63 : arun X (n + 5620) (d + 8) zM103 0 [some (.ref 146), some (.int 20), none, none, none, none] [] z127 = some ((some (.int 0)), z127) := by
        refine (r_iconst (v := 0) f103_0 rfl).trans ?_
        refine (r_istoren (L' := [some (.ref 146), some (.int 20), some (.int 0), none, none, none]) f103_1 rfl rfl).trans ?_
        refine (r_iconst (v := 0) f103_2 rfl).trans ?_
        refine (r_istoren (L' := [some (.ref 146), some (.int 20), some (.int 0), some (.int 0), none, none]) f103_3 rfl rfl).trans ?_
        refine (r_iconst (v := 0) f103_4 rfl).trans ?_
        refine (r_istore (L' := [some (.ref 146), some (.int 20), some (.int 0), some (.int 0), some (.int 0), none]) f103_5 rfl rfl).trans ?_
        refine (r_iconst (v := 0) f103_7 rfl).trans ?_
        refine (r_istore (L' := [some (.ref 146), some (.int 20), some (.int 0), some (.int 0), some (.int 0), some (.int 0)]) f103_8 rfl rfl).trans ?_
        refine (r_iload f103_10 rfl).trans ?_
        refine (r_aloadn f103_12 rfl).trans ?_
        refine (r_get (v := .int 0) f103_13 g128 rfl).trans ?_
        refine (r_icmp_ge_t f103_16 (by decide)).trans ?_
        refine (r_iloadn f103_81 rfl).trans ?_
        refine (r_iloadn f103_82 rfl).trans ?_
        refine (r_iload f103_83 rfl).trans ?_
        refine (r_iand (v := 0) f103_85 (by decide)).trans ?_
        refine (r_ior (v := 0) f103_86 (by decide)).trans ?_
        exact r_ireturn f103_87 rfl
      refine (r_virt (as := [.int 20]) (v := (some (.int 0))) (h1 := z127) f97_104 g128 zg103 rfl rfl rfl rfl rfl rfl hc63).trans ?_
      refine (r_iast (h' := z131) f97_107 g129 (by decide) q131).trans ?_
      refine (r_aloadn f97_108 rfl).trans ?_
      refine (r_iloadn f97_109 rfl).trans ?_
      have hc64 : arun X (n + 5616) (d + 8) zM104 0 [some (.ref 146), some (.int 20), none, none, none, none] [] z131 = some (none, z131) := by
        refine (r_aloadn f104_0 rfl).trans ?_
        refine (r_get (v := .ref 150) f104_1 g132 rfl).trans ?_
        refine (r_iloadn f104_4 rfl).trans ?_
        refine (r_iald (v := 0) f104_5 g133 (by decide) rfl).trans ?_
        refine (r_aloadn f104_6 rfl).trans ?_
        refine (r_get (v := .ref 16) f104_7 g132 rfl).trans ?_
        refine (r_iloadn f104_10 rfl).trans ?_
        refine (r_aloadn f104_11 rfl).trans ?_
        refine (r_get (v := .int x1) f104_12 g132 rfl).trans ?_
        refine (r_aloadn f104_15 rfl).trans ?_
        refine (r_get (v := .int 0) f104_16 g132 rfl).trans ?_
        have hc65 : arun X (n + 5604) (d + 7) zM33 0 [some (.ref 16), some (.int 20), some (.int x1), some (.int 0), none, none, none] [] z131 = some ((some (.int 0)), z131) := by
          refine (r_iconst (v := 0) f33_0 rfl).trans ?_
          refine (r_istore (L' := [some (.ref 16), some (.int 20), some (.int x1), some (.int 0), some (.int 0), none, none]) f33_1 rfl rfl).trans ?_
          refine (r_iconst (v := 0) f33_3 rfl).trans ?_
          refine (r_istore (L' := [some (.ref 16), some (.int 20), some (.int x1), some (.int 0), some (.int 0), some (.int 0), none]) f33_4 rfl rfl).trans ?_
          refine (r_iload f33_6 rfl).trans ?_
          refine (r_aloadn f33_8 rfl).trans ?_
          refine (r_get (v := .int 0) f33_9 g134 rfl).trans ?_
          refine (r_icmp_ge_t f33_12 (by decide)).trans ?_
          refine (r_iload f33_117 rfl).trans ?_
          exact r_ireturn f33_119 rfl
        refine (r_virt (as := [.int 20, .int x1, .int 0]) (v := (some (.int 0))) (h1 := z131) f104_19 g134 zg33 rfl rfl rfl rfl rfl rfl hc65).trans ?_
        refine (r_ior (v := 0) f104_22 (by decide)).trans ?_
        refine (r_istoren (L' := [some (.ref 146), some (.int 20), some (.int 0), none, none, none]) f104_23 rfl rfl).trans ?_
        refine (r_iconst (v := 0) f104_24 rfl).trans ?_
        refine (r_istoren (L' := [some (.ref 146), some (.int 20), some (.int 0), some (.int 0), none, none]) f104_25 rfl rfl).trans ?_
        refine (r_iconst (v := 0) f104_26 rfl).trans ?_
        refine (r_istore (L' := [some (.ref 146), some (.int 20), some (.int 0), some (.int 0), some (.int 0), none]) f104_27 rfl rfl).trans ?_
        refine (r_iload f104_29 rfl).trans ?_
        refine (r_aloadn f104_31 rfl).trans ?_
        refine (r_get (v := .int 0) f104_32 g132 rfl).trans ?_
        refine (r_icmp_ge_t f104_35 (by decide)).trans ?_
        exact r_vreturn f104_112 rfl
      refine (r_virt (as := [.int 20]) (v := none) (h1 := z131) f97_110 g132 zg104 rfl rfl rfl rfl rfl rfl hc64).trans ?_
      refine (r_iinc (v := 21) (L' := [some (.ref 146), some (.int 0), some (.int 0), some (.int 21)]) f97_113 rfl rfl rfl).trans ?_
      refine (r_goto f97_116).trans ?_
      refine (r_iloadn f97_91 rfl).trans ?_
      refine (r_bipush (v := 24) f97_92 rfl).trans ?_
      refine (r_icmp_ge_f f97_94 (by decide)).trans ?_
      refine (r_aloadn f97_97 rfl).trans ?_
      refine (r_get (v := .ref 150) f97_98 g132 rfl).trans ?_
      refine (r_iloadn f97_101 rfl).trans ?_
      refine (r_aloadn f97_102 rfl).trans ?_
      refine (r_iloadn f97_103 rfl).trans ?_
      have hc66 : arun X (n + 5605) (d + 8) zM103 0 [some (.ref 146), some (.int 21), none, none, none, none] [] z131 = some ((some (.int 0)), z131) := by
        refine (r_iconst (v := 0) f103_0 rfl).trans ?_
        refine (r_istoren (L' := [some (.ref 146), some (.int 21), some (.int 0), none, none, none]) f103_1 rfl rfl).trans ?_
        refine (r_iconst (v := 0) f103_2 rfl).trans ?_
        refine (r_istoren (L' := [some (.ref 146), some (.int 21), some (.int 0), some (.int 0), none, none]) f103_3 rfl rfl).trans ?_
        refine (r_iconst (v := 0) f103_4 rfl).trans ?_
        refine (r_istore (L' := [some (.ref 146), some (.int 21), some (.int 0), some (.int 0), some (.int 0), none]) f103_5 rfl rfl).trans ?_
        refine (r_iconst (v := 0) f103_7 rfl).trans ?_
        refine (r_istore (L' := [some (.ref 146), some (.int 21), some (.int 0), some (.int 0), some (.int 0), some (.int 0)]) f103_8 rfl rfl).trans ?_
        refine (r_iload f103_10 rfl).trans ?_
        refine (r_aloadn f103_12 rfl).trans ?_
        refine (r_get (v := .int 0) f103_13 g132 rfl).trans ?_
        refine (r_icmp_ge_t f103_16 (by decide)).trans ?_
        refine (r_iloadn f103_81 rfl).trans ?_
        refine (r_iloadn f103_82 rfl).trans ?_
        refine (r_iload f103_83 rfl).trans ?_
        refine (r_iand (v := 0) f103_85 (by decide)).trans ?_
        refine (r_ior (v := 0) f103_86 (by decide)).trans ?_
        exact r_ireturn f103_87 rfl
      refine (r_virt (as := [.int 21]) (v := (some (.int 0))) (h1 := z131) f97_104 g132 zg103 rfl rfl rfl rfl rfl rfl hc66).trans ?_
      refine (r_iast (h' := z135) f97_107 g133 (by decide) q135).trans ?_
      refine (r_aloadn f97_108 rfl).trans ?_
      refine (r_iloadn f97_109 rfl).trans ?_
      have hc67 : arun X (n + 5601) (d + 8) zM104 0 [some (.ref 146), some (.int 21), none, none, none, none] [] z135 = some (none, z135) := by
        refine (r_aloadn f104_0 rfl).trans ?_
        refine (r_get (v := .ref 150) f104_1 g136 rfl).trans ?_
        refine (r_iloadn f104_4 rfl).trans ?_
        refine (r_iald (v := 0) f104_5 g137 (by decide) rfl).trans ?_
        refine (r_aloadn f104_6 rfl).trans ?_
        refine (r_get (v := .ref 16) f104_7 g136 rfl).trans ?_
        refine (r_iloadn f104_10 rfl).trans ?_
        refine (r_aloadn f104_11 rfl).trans ?_
        refine (r_get (v := .int x1) f104_12 g136 rfl).trans ?_
        refine (r_aloadn f104_15 rfl).trans ?_
        refine (r_get (v := .int 0) f104_16 g136 rfl).trans ?_
        have hc68 : arun X (n + 5589) (d + 7) zM33 0 [some (.ref 16), some (.int 21), some (.int x1), some (.int 0), none, none, none] [] z135 = some ((some (.int 0)), z135) := by
          refine (r_iconst (v := 0) f33_0 rfl).trans ?_
          refine (r_istore (L' := [some (.ref 16), some (.int 21), some (.int x1), some (.int 0), some (.int 0), none, none]) f33_1 rfl rfl).trans ?_
          refine (r_iconst (v := 0) f33_3 rfl).trans ?_
          refine (r_istore (L' := [some (.ref 16), some (.int 21), some (.int x1), some (.int 0), some (.int 0), some (.int 0), none]) f33_4 rfl rfl).trans ?_
          refine (r_iload f33_6 rfl).trans ?_
          refine (r_aloadn f33_8 rfl).trans ?_
          refine (r_get (v := .int 0) f33_9 g138 rfl).trans ?_
          refine (r_icmp_ge_t f33_12 (by decide)).trans ?_
          refine (r_iload f33_117 rfl).trans ?_
          exact r_ireturn f33_119 rfl
        refine (r_virt (as := [.int 21, .int x1, .int 0]) (v := (some (.int 0))) (h1 := z135) f104_19 g138 zg33 rfl rfl rfl rfl rfl rfl hc68).trans ?_
        refine (r_ior (v := 0) f104_22 (by decide)).trans ?_
        refine (r_istoren (L' := [some (.ref 146), some (.int 21), some (.int 0), none, none, none]) f104_23 rfl rfl).trans ?_
        refine (r_iconst (v := 0) f104_24 rfl).trans ?_
        refine (r_istoren (L' := [some (.ref 146), some (.int 21), some (.int 0), some (.int 0), none, none]) f104_25 rfl rfl).trans ?_
        refine (r_iconst (v := 0) f104_26 rfl).trans ?_
        refine (r_istore (L' := [some (.ref 146), some (.int 21), some (.int 0), some (.int 0), some (.int 0), none]) f104_27 rfl rfl).trans ?_
        refine (r_iload f104_29 rfl).trans ?_
        refine (r_aloadn f104_31 rfl).trans ?_
        refine (r_get (v := .int 0) f104_32 g136 rfl).trans ?_
        refine (r_icmp_ge_t f104_35 (by decide)).trans ?_
        exact r_vreturn f104_112 rfl
      refine (r_virt (as := [.int 21]) (v := none) (h1 := z135) f97_110 g136 zg104 rfl rfl rfl rfl rfl rfl hc67).trans ?_
      refine (r_iinc (v := 22) (L' := [some (.ref 146), some (.int 0), some (.int 0), some (.int 22)]) f97_113 rfl rfl rfl).trans ?_
      refine (r_goto f97_116).trans ?_
      refine (r_iloadn f97_91 rfl).trans ?_
      refine (r_bipush (v := 24) f97_92 rfl).trans ?_
      refine (r_icmp_ge_f f97_94 (by decide)).trans ?_
      refine (r_aloadn f97_97 rfl).trans ?_
      refine (r_get (v := .ref 150) f97_98 g136 rfl).trans ?_
      refine (r_iloadn f97_101 rfl).trans ?_
      refine (r_aloadn f97_102 rfl).trans ?_
      refine (r_iloadn f97_103 rfl).trans ?_
      have hc69 : arun X (n + 5590) (d + 8) zM103 0 [some (.ref 146), some (.int 22), none, none, none, none] [] z135 = some ((some (.int 0)), z135) := by
        refine (r_iconst (v := 0) f103_0 rfl).trans ?_
        refine (r_istoren (L' := [some (.ref 146), some (.int 22), some (.int 0), none, none, none]) f103_1 rfl rfl).trans ?_
        refine (r_iconst (v := 0) f103_2 rfl).trans ?_
        refine (r_istoren (L' := [some (.ref 146), some (.int 22), some (.int 0), some (.int 0), none, none]) f103_3 rfl rfl).trans ?_
        refine (r_iconst (v := 0) f103_4 rfl).trans ?_
        refine (r_istore (L' := [some (.ref 146), some (.int 22), some (.int 0), some (.int 0), some (.int 0), none]) f103_5 rfl rfl).trans ?_
        refine (r_iconst (v := 0) f103_7 rfl).trans ?_
        refine (r_istore (L' := [some (.ref 146), some (.int 22), some (.int 0), some (.int 0), some (.int 0), some (.int 0)]) f103_8 rfl rfl).trans ?_
        refine (r_iload f103_10 rfl).trans ?_
        refine (r_aloadn f103_12 rfl).trans ?_
        refine (r_get (v := .int 0) f103_13 g136 rfl).trans ?_
        refine (r_icmp_ge_t f103_16 (by decide)).trans ?_
        refine (r_iloadn f103_81 rfl).trans ?_
        refine (r_iloadn f103_82 rfl).trans ?_
        refine (r_iload f103_83 rfl).trans ?_
        refine (r_iand (v := 0) f103_85 (by decide)).trans ?_
        refine (r_ior (v := 0) f103_86 (by decide)).trans ?_
        exact r_ireturn f103_87 rfl
      refine (r_virt (as := [.int 22]) (v := (some (.int 0))) (h1 := z135) f97_104 g136 zg103 rfl rfl rfl rfl rfl rfl hc69).trans ?_
      refine (r_iast (h' := z139) f97_107 g137 (by decide) q139).trans ?_
      refine (r_aloadn f97_108 rfl).trans ?_
      refine (r_iloadn f97_109 rfl).trans ?_
      have hc70 : arun X (n + 5586) (d + 8) zM104 0 [some (.ref 146), some (.int 22), none, none, none, none] [] z139 = some (none, z139) := by
        refine (r_aloadn f104_0 rfl).trans ?_
        refine (r_get (v := .ref 150) f104_1 g140 rfl).trans ?_
        refine (r_iloadn f104_4 rfl).trans ?_
        refine (r_iald (v := 0) f104_5 g141 (by decide) rfl).trans ?_
        refine (r_aloadn f104_6 rfl).trans ?_
        refine (r_get (v := .ref 16) f104_7 g140 rfl).trans ?_
        refine (r_iloadn f104_10 rfl).trans ?_
        refine (r_aloadn f104_11 rfl).trans ?_
        refine (r_get (v := .int x1) f104_12 g140 rfl).trans ?_
        refine (r_aloadn f104_15 rfl).trans ?_
        refine (r_get (v := .int 0) f104_16 g140 rfl).trans ?_
        have hc71 : arun X (n + 5574) (d + 7) zM33 0 [some (.ref 16), some (.int 22), some (.int x1), some (.int 0), none, none, none] [] z139 = some ((some (.int 0)), z139) := by
          refine (r_iconst (v := 0) f33_0 rfl).trans ?_
          refine (r_istore (L' := [some (.ref 16), some (.int 22), some (.int x1), some (.int 0), some (.int 0), none, none]) f33_1 rfl rfl).trans ?_
          refine (r_iconst (v := 0) f33_3 rfl).trans ?_
          refine (r_istore (L' := [some (.ref 16), some (.int 22), some (.int x1), some (.int 0), some (.int 0), some (.int 0), none]) f33_4 rfl rfl).trans ?_
          refine (r_iload f33_6 rfl).trans ?_
          refine (r_aloadn f33_8 rfl).trans ?_
          refine (r_get (v := .int 0) f33_9 g142 rfl).trans ?_
          refine (r_icmp_ge_t f33_12 (by decide)).trans ?_
          refine (r_iload f33_117 rfl).trans ?_
          exact r_ireturn f33_119 rfl
        refine (r_virt (as := [.int 22, .int x1, .int 0]) (v := (some (.int 0))) (h1 := z139) f104_19 g142 zg33 rfl rfl rfl rfl rfl rfl hc71).trans ?_
        refine (r_ior (v := 0) f104_22 (by decide)).trans ?_
        refine (r_istoren (L' := [some (.ref 146), some (.int 22), some (.int 0), none, none, none]) f104_23 rfl rfl).trans ?_
        refine (r_iconst (v := 0) f104_24 rfl).trans ?_
        refine (r_istoren (L' := [some (.ref 146), some (.int 22), some (.int 0), some (.int 0), none, none]) f104_25 rfl rfl).trans ?_
        refine (r_iconst (v := 0) f104_26 rfl).trans ?_
        refine (r_istore (L' := [some (.ref 146), some (.int 22), some (.int 0), some (.int 0), some (.int 0), none]) f104_27 rfl rfl).trans ?_
        refine (r_iload f104_29 rfl).trans ?_
        refine (r_aloadn f104_31 rfl).trans ?_
        refine (r_get (v := .int 0) f104_32 g140 rfl).trans ?_
        refine (r_icmp_ge_t f104_35 (by decide)).trans ?_
        exact r_vreturn f104_112 rfl
      refine (r_virt (as := [.int 22]) (v := none) (h1 := z139) f97_110 g140 zg104 rfl rfl rfl rfl rfl rfl hc70).trans ?_
      refine (r_iinc (v := 23) (L' := [some (.ref 146), some (.int 0), some (.int 0), some (.int 23)]) f97_113 rfl rfl rfl).trans ?_
      refine (r_goto f97_116).trans ?_
      refine (r_iloadn f97_91 rfl).trans ?_
      refine (r_bipush (v := 24) f97_92 rfl).trans ?_
      refine (r_icmp_ge_f f97_94 (by decide)).trans ?_
      refine (r_aloadn f97_97 rfl).trans ?_
      refine (r_get (v := .ref 150) f97_98 g140 rfl).trans ?_
      refine (r_iloadn f97_101 rfl).trans ?_
      refine (r_aloadn f97_102 rfl).trans ?_
      refine (r_iloadn f97_103 rfl).trans ?_
      have hc72 : arun X (n + 5575) (d + 8) zM103 0 [some (.ref 146), some (.int 23), none, none, none, none] [] z139 = some ((some (.int 0)), z139) := by
        refine (r_iconst (v := 0) f103_0 rfl).trans ?_
        refine (r_istoren (L' := [some (.ref 146), some (.int 23), some (.int 0), none, none, none]) f103_1 rfl rfl).trans ?_
        refine (r_iconst (v := 0) f103_2 rfl).trans ?_
        refine (r_istoren (L' := [some (.ref 146), some (.int 23), some (.int 0), some (.int 0), none, none]) f103_3 rfl rfl).trans ?_
        refine (r_iconst (v := 0) f103_4 rfl).trans ?_
        refine (r_istore (L' := [some (.ref 146), some (.int 23), some (.int 0), some (.int 0), some (.int 0), none]) f103_5 rfl rfl).trans ?_
        refine (r_iconst (v := 0) f103_7 rfl).trans ?_
        refine (r_istore (L' := [some (.ref 146), some (.int 23), some (.int 0), some (.int 0), some (.int 0), some (.int 0)]) f103_8 rfl rfl).trans ?_
        refine (r_iload f103_10 rfl).trans ?_
        refine (r_aloadn f103_12 rfl).trans ?_
        refine (r_get (v := .int 0) f103_13 g140 rfl).trans ?_
        refine (r_icmp_ge_t f103_16 (by decide)).trans ?_
        refine (r_iloadn f103_81 rfl).trans ?_
        refine (r_iloadn f103_82 rfl).trans ?_
        refine (r_iload f103_83 rfl).trans ?_
        refine (r_iand (v := 0) f103_85 (by decide)).trans ?_
        refine (r_ior (v := 0) f103_86 (by decide)).trans ?_
        exact r_ireturn f103_87 rfl
      refine (r_virt (as := [.int 23]) (v := (some (.int 0))) (h1 := z139) f97_104 g140 zg103 rfl rfl rfl rfl rfl rfl hc72).trans ?_
      refine (r_iast (h' := z143) f97_107 g141 (by decide) q143).trans ?_
      refine (r_aloadn f97_108 rfl).trans ?_
      refine (r_iloadn f97_109 rfl).trans ?_
      have hc73 : arun X (n + 5571) (d + 8) zM104 0 [some (.ref 146), some (.int 23), none, none, none, none] [] z143 = some (none, z143) := by
        refine (r_aloadn f104_0 rfl).trans ?_
        refine (r_get (v := .ref 150) f104_1 g144 rfl).trans ?_
        refine (r_iloadn f104_4 rfl).trans ?_
        refine (r_iald (v := 0) f104_5 g145 (by decide) rfl).trans ?_
        refine (r_aloadn f104_6 rfl).trans ?_
        refine (r_get (v := .ref 16) f104_7 g144 rfl).trans ?_
        refine (r_iloadn f104_10 rfl).trans ?_
        refine (r_aloadn f104_11 rfl).trans ?_
        refine (r_get (v := .int x1) f104_12 g144 rfl).trans ?_
        refine (r_aloadn f104_15 rfl).trans ?_
        refine (r_get (v := .int 0) f104_16 g144 rfl).trans ?_
        have hc74 : arun X (n + 5559) (d + 7) zM33 0 [some (.ref 16), some (.int 23), some (.int x1), some (.int 0), none, none, none] [] z143 = some ((some (.int 0)), z143) := by
          refine (r_iconst (v := 0) f33_0 rfl).trans ?_
          refine (r_istore (L' := [some (.ref 16), some (.int 23), some (.int x1), some (.int 0), some (.int 0), none, none]) f33_1 rfl rfl).trans ?_
          refine (r_iconst (v := 0) f33_3 rfl).trans ?_
          refine (r_istore (L' := [some (.ref 16), some (.int 23), some (.int x1), some (.int 0), some (.int 0), some (.int 0), none]) f33_4 rfl rfl).trans ?_
          refine (r_iload f33_6 rfl).trans ?_
          refine (r_aloadn f33_8 rfl).trans ?_
          refine (r_get (v := .int 0) f33_9 g146 rfl).trans ?_
          refine (r_icmp_ge_t f33_12 (by decide)).trans ?_
          refine (r_iload f33_117 rfl).trans ?_
          exact r_ireturn f33_119 rfl
        refine (r_virt (as := [.int 23, .int x1, .int 0]) (v := (some (.int 0))) (h1 := z143) f104_19 g146 zg33 rfl rfl rfl rfl rfl rfl hc74).trans ?_
        refine (r_ior (v := 0) f104_22 (by decide)).trans ?_
        refine (r_istoren (L' := [some (.ref 146), some (.int 23), some (.int 0), none, none, none]) f104_23 rfl rfl).trans ?_
        refine (r_iconst (v := 0) f104_24 rfl).trans ?_
        refine (r_istoren (L' := [some (.ref 146), some (.int 23), some (.int 0), some (.int 0), none, none]) f104_25 rfl rfl).trans ?_
        refine (r_iconst (v := 0) f104_26 rfl).trans ?_
        refine (r_istore (L' := [some (.ref 146), some (.int 23), some (.int 0), some (.int 0), some (.int 0), none]) f104_27 rfl rfl).trans ?_
        refine (r_iload f104_29 rfl).trans ?_
        refine (r_aloadn f104_31 rfl).trans ?_
        refine (r_get (v := .int 0) f104_32 g144 rfl).trans ?_
        refine (r_icmp_ge_t f104_35 (by decide)).trans ?_
        exact r_vreturn f104_112 rfl
      refine (r_virt (as := [.int 23]) (v := none) (h1 := z143) f97_110 g144 zg104 rfl rfl rfl rfl rfl rfl hc73).trans ?_
      refine (r_iinc (v := 24) (L' := [some (.ref 146), some (.int 0), some (.int 0), some (.int 24)]) f97_113 rfl rfl rfl).trans ?_
      refine (r_goto f97_116).trans ?_
      refine (r_iloadn f97_91 rfl).trans ?_
      refine (r_bipush (v := 24) f97_92 rfl).trans ?_
      refine (r_icmp_ge_t f97_94 (by decide)).trans ?_
      refine (r_aloadn f97_119 rfl).trans ?_
      have hc75 : arun X (n + 5564) (d + 8) zM105 0 [some (.ref 146), none, none] [] z143 = some (none, z157) := by
        refine (r_aloadn f105_0 rfl).trans ?_
        refine (r_get (v := .ref 151) f105_1 g144 rfl).trans ?_
        refine (r_iconst (v := 0) f105_4 rfl).trans ?_
        refine (r_stat (as := [.ref 151, .int 0]) (v := none) (h1 := z149) f105_5 rfl zg332 rfl rfl rfl rfl rfl rfl (e_147 X (n + 4201) (d + 7))).trans ?_
        refine (r_aloadn f105_8 rfl).trans ?_
        refine (r_get (v := .ref 152) f105_9 g150 rfl).trans ?_
        refine (r_iconst (v := 0) f105_12 rfl).trans ?_
        refine (r_stat (as := [.ref 152, .int 0]) (v := none) (h1 := z153) f105_13 rfl zg332 rfl rfl rfl rfl rfl rfl (e_151 X (n + 4197) (d + 7))).trans ?_
        refine (r_aloadn f105_16 rfl).trans ?_
        refine (r_get (v := .ref 153) f105_17 g154 rfl).trans ?_
        refine (r_iconst (v := (-1)) f105_20 rfl).trans ?_
        refine (r_stat (as := [.ref 153, .int (-1)]) (v := none) (h1 := z157) f105_21 rfl zg332 rfl rfl rfl rfl rfl rfl (e_155 X (n + 4193) (d + 7))).trans ?_
        refine (r_iconst (v := 0) f105_24 rfl).trans ?_
        refine (r_istoren (L' := [some (.ref 146), some (.int 0), none]) f105_25 rfl rfl).trans ?_
        refine (r_iloadn f105_26 rfl).trans ?_
        refine (r_aloadn f105_27 rfl).trans ?_
        refine (r_get (v := .int 0) f105_28 g158 rfl).trans ?_
        refine (r_icmp_ge_t f105_31 (by decide)).trans ?_
        exact r_vreturn f105_133 rfl
      refine (r_virt (as := []) (v := none) (h1 := z157) f97_120 g144 zg105 rfl rfl rfl rfl rfl rfl hc75).trans ?_
      exact r_vreturn f97_123 rfl
    refine (r_virt (as := [.int 0, .int 0]) (v := none) (h1 := z157) f1_101 g38 zg97 rfl rfl rfl rfl rfl rfl hc2).trans ?_
    refine (r_aload f1_104 rfl).trans ?_
    exact r_areturn f1_106 rfl
  · exact Lq157
  · rw [U157, U153, U149, U143, U139, U135, U131, U127, U123, U119, U115, U111, U107, U103, U99, U95, U91, U87, U83, U79, U75, U71, U67, U63, U59, U55, U51, U48, U43, U41, U39, U36, U33, U31, U29, U27, U25, U24, U22, U21, U19, U18, U16, U15, U13, U12, U10, U9, U7, U6, U4, U1]
    decide
  · have kn : ∀ i : Nat, decide (i = 42 ∨ 146 ≤ i) = true → i ≠ k := fun i hi he => by
      have := of_decide_eq_true hi
      omega
    exact (gz_ne q157 (gz_ne q153 (gz_ne q149 (gz_ne q143 (gz_ne q139 (gz_ne q135 (gz_ne q131 (gz_ne q127 (gz_ne q123 (gz_ne q119 (gz_ne q115 (gz_ne q111 (gz_ne q107 (gz_ne q103 (gz_ne q99 (gz_ne q95 (gz_ne q91 (gz_ne q87 (gz_ne q83 (gz_ne q79 (gz_ne q75 (gz_ne q71 (gz_ne q67 (gz_ne q63 (gz_ne q59 (gz_ne q55 (gz_ne q51 (gz_ne q48 (gz_ne q43 (gz_ne q41 (gz_ne q39 (gz_ne q36 (gz_ne q33 (gz_ne q31 (gz_ne q29 (gz_ne q27 (gz_ap q25 (gz_ne q24 (gz_ap q22 (gz_ne q21 (gz_ap q19 (gz_ne q18 (gz_ap q16 (gz_ne q15 (gz_ap q13 (gz_ne q12 (gz_ap q10 (gz_ne q9 (gz_ap q7 (gz_ne q6 (gz_ne q4 (gz_ap q1 hk) (kn 146 (by decide))) (kn 146 (by decide)))) (kn 146 (by decide)))) (kn 146 (by decide)))) (kn 146 (by decide)))) (kn 146 (by decide)))) (kn 146 (by decide)))) (kn 146 (by decide)))) (kn 146 (by decide))) (kn 146 (by decide))) (kn 146 (by decide))) (kn 146 (by decide))) (kn 42 (by decide))) (kn 146 (by decide))) (kn 146 (by decide))) (kn 146 (by decide))) (kn 148 (by decide))) (kn 150 (by decide))) (kn 150 (by decide))) (kn 150 (by decide))) (kn 150 (by decide))) (kn 150 (by decide))) (kn 150 (by decide))) (kn 150 (by decide))) (kn 150 (by decide))) (kn 150 (by decide))) (kn 150 (by decide))) (kn 150 (by decide))) (kn 150 (by decide))) (kn 150 (by decide))) (kn 150 (by decide))) (kn 150 (by decide))) (kn 150 (by decide))) (kn 150 (by decide))) (kn 150 (by decide))) (kn 150 (by decide))) (kn 150 (by decide))) (kn 150 (by decide))) (kn 150 (by decide))) (kn 150 (by decide))) (kn 150 (by decide))) (kn 151 (by decide))) (kn 152 (by decide))) (kn 153 (by decide)))

-- ===== cases of the law on a fresh object (by program) =====
set_option maxHeartbeats 40000000 in
theorem pc_0 (x1 : Int32)  : ∃ (v : Int32) (h1 h2 : aH), (∀ (X : aX) (n d : Nat), arun X (n + 1000000) (d + 20) zM144 0 [some (.ref 0), some (.int x1)] [] zH0 = some (some (.int v), h1)) ∧ (∀ (X : aX) (n d : Nat), arun X (n + 1000000) (d + 20) zM199 0 [some (.ref 72), some (.int x1)] [] h1 = some (some (.int v), h2)) ∧ h1.1[72]? = some (.inr (12, zF72)) ∧ h2.1.length ≤ 600000 ∧ h2.2 ≤ 7302250 := by
  by_cases ec0 : x1 < 1
  ·
    exact ⟨_, zH0, zH0, fun X n d => qc0_0 (n := n + 999991) (d := d + 18) (ec0 := ec0), fun X n d => qm0_0_0 (n := n + 999991) (d := d + 18) (ec0 := ec0), zh72, by simp [zH0_len], (by decide : zH0.2 ≤ 7302250)⟩
  ·
    by_cases ec1 : 365 < x1
    ·
      exact ⟨_, zH0, zH0, fun X n d => qc0_1 (n := n + 999988) (d := d + 18) (ec0 := ec0) (ec1 := ec1), fun X n d => qm0_1_0 (n := n + 999988) (d := d + 18) (ec0 := ec0) (ec1 := ec1), zh72, by simp [zH0_len], (by decide : zH0.2 ≤ 7302250)⟩
    ·
      by_cases ec2 : (0 + x1) ≤ 3649
      ·
        exact ⟨_, ((zH0.1.set 1 (.inr (6, [.int (0 + x1), .int 0, .int 0, .int 0, .int 0, .int 0, .int 0, .ref 2, .ref 3, .ref 4, .ref 5, .ref 6, .ref 7, .ref 8, .ref 9, .ref 10, .ref 11, .ref 12]))), zH0.2), ((((zH0.1.set 1 (.inr (6, [.int (0 + x1), .int 0, .int 0, .int 0, .int 0, .int 0, .int 0, .ref 2, .ref 3, .ref 4, .ref 5, .ref 6, .ref 7, .ref 8, .ref 9, .ref 10, .ref 11, .ref 12]))), zH0.2).1.set 72 (.inr (12, (zF72.set 1 (.int (0 + x1)))))), ((zH0.1.set 1 (.inr (6, [.int (0 + x1), .int 0, .int 0, .int 0, .int 0, .int 0, .int 0, .ref 2, .ref 3, .ref 4, .ref 5, .ref 6, .ref 7, .ref 8, .ref 9, .ref 10, .ref 11, .ref 12]))), zH0.2).2), fun X n d => qc0_2 (n := n + 999977) (d := d + 18) (g0 := zh0) (g1 := zh1) (ec0 := ec0) (ec1 := ec1) (ec2 := ec2), fun X n d => qm0_2_0 (n := n + 999980) (d := d + 18) (g72 := (gs_ne zh72 (by decide))) (ec0 := ec0) (ec1 := ec1) (ec2 := ec2), (gs_ne zh72 (by decide)), by simp [zH0_len], (by decide : zH0.2 ≤ 7302250)⟩
      ·
        exact ⟨_, zH0, zH0, fun X n d => qc0_3 (n := n + 999986) (d := d + 18) (g0 := zh0) (g1 := zh1) (ec0 := ec0) (ec1 := ec1) (ec2 := ec2), fun X n d => qm0_3_0 (n := n + 999987) (d := d + 18) (g72 := zh72) (ec0 := ec0) (ec1 := ec1) (ec2 := ec2), zh72, by simp [zH0_len], (by decide : zH0.2 ≤ 7302250)⟩
set_option maxHeartbeats 40000000 in
theorem pc_1  : ∃ (v : Int32) (h1 h2 : aH), (∀ (X : aX) (n d : Nat), arun X (n + 1000000) (d + 20) zM145 0 [some (.ref 0)] [] zH0 = some (some (.int v), h1)) ∧ (∀ (X : aX) (n d : Nat), arun X (n + 1000000) (d + 20) zM205 0 [some (.ref 72)] [] h1 = some (some (.int v), h2)) ∧ h1.1[72]? = some (.inr (12, zF72)) ∧ h2.1.length ≤ 600000 ∧ h2.2 ≤ 7302250 := by
  exact ⟨_, (((((((zH0.1.set 2 (.inl (0, 150, .inl (upd (fun _ => 0) (Int32.toNatClampNeg 0) 0)))).set 3 (.inl (0, 150, .inl (upd (fun _ => 0) (Int32.toNatClampNeg 0) 0)))).set 7 (.inl (0, 150, .inl (upd (fun _ => 0) (Int32.toNatClampNeg 0) (-1))))).set 4 (.inl (0, 150, .inl (upd (fun _ => 0) (Int32.toNatClampNeg 0) 0)))).set 5 (.inl (0, 150, .inl (upd (fun _ => 0) (Int32.toNatClampNeg 0) (-1))))).set 1 (.inr (6, [.int 0, .int 1, .int 0, .int 0, .int 0, .int 0, .int 0, .ref 2, .ref 3, .ref 4, .ref 5, .ref 6, .ref 7, .ref 8, .ref 9, .ref 10, .ref 11, .ref 12]))), zH0.2), (((((((((((((zH0.1.set 2 (.inl (0, 150, .inl (upd (fun _ => 0) (Int32.toNatClampNeg 0) 0)))).set 3 (.inl (0, 150, .inl (upd (fun _ => 0) (Int32.toNatClampNeg 0) 0)))).set 7 (.inl (0, 150, .inl (upd (fun _ => 0) (Int32.toNatClampNeg 0) (-1))))).set 4 (.inl (0, 150, .inl (upd (fun _ => 0) (Int32.toNatClampNeg 0) 0)))).set 5 (.inl (0, 150, .inl (upd (fun _ => 0) (Int32.toNatClampNeg 0) (-1))))).set 1 (.inr (6, [.int 0, .int 1, .int 0, .int 0, .int 0, .int 0, .int 0, .ref 2, .ref 3, .ref 4, .ref 5, .ref 6, .ref 7, .ref 8, .ref 9, .ref 10, .ref 11, .ref 12]))), zH0.2).1.set 73 (.inl (0, 150, .inl (upd (fun _ => 0) (Int32.toNatClampNeg 0) 0)))).set 75 (.inl (0, 150, .inl (upd (fun _ => 0) (Int32.toNatClampNeg 0) (-1))))).set 76 (.inl (0, 150, .inl (upd (fun _ => 0) (Int32.toNatClampNeg 0) 0)))).set 77 (.inl (0, 150, .inl (upd (fun _ => 0) (Int32.toNatClampNeg 0) (-1))))).set 72 (.inr (12, (zF72.set 2 (.int 1))))), (((((((zH0.1.set 2 (.inl (0, 150, .inl (upd (fun _ => 0) (Int32.toNatClampNeg 0) 0)))).set 3 (.inl (0, 150, .inl (upd (fun _ => 0) (Int32.toNatClampNeg 0) 0)))).set 7 (.inl (0, 150, .inl (upd (fun _ => 0) (Int32.toNatClampNeg 0) (-1))))).set 4 (.inl (0, 150, .inl (upd (fun _ => 0) (Int32.toNatClampNeg 0) 0)))).set 5 (.inl (0, 150, .inl (upd (fun _ => 0) (Int32.toNatClampNeg 0) (-1))))).set 1 (.inr (6, [.int 0, .int 1, .int 0, .int 0, .int 0, .int 0, .int 0, .ref 2, .ref 3, .ref 4, .ref 5, .ref 6, .ref 7, .ref 8, .ref 9, .ref 10, .ref 11, .ref 12]))), zH0.2).2), fun X n d => qc1_0 (n := n + 999930) (d := d + 16) (g0 := zh0) (g1 := zh1) (g2 := zh2) (g3 := zh3) (g4 := zh4) (g5 := zh5) (g7 := zh7), fun X n d => qm1_0_0 (n := n + 999957) (d := d + 18) (g72 := (gs_ne (gs_ne (gs_ne (gs_ne (gs_ne (gs_ne zh72 (by decide)) (by decide)) (by decide)) (by decide)) (by decide)) (by decide))) (g73 := (gs_ne (gs_ne (gs_ne (gs_ne (gs_ne (gs_ne zh73 (by decide)) (by decide)) (by decide)) (by decide)) (by decide)) (by decide))) (g75 := (gs_ne (gs_ne (gs_ne (gs_ne (gs_ne (gs_ne zh75 (by decide)) (by decide)) (by decide)) (by decide)) (by decide)) (by decide))) (g76 := (gs_ne (gs_ne (gs_ne (gs_ne (gs_ne (gs_ne zh76 (by decide)) (by decide)) (by decide)) (by decide)) (by decide)) (by decide))) (g77 := (gs_ne (gs_ne (gs_ne (gs_ne (gs_ne (gs_ne zh77 (by decide)) (by decide)) (by decide)) (by decide)) (by decide)) (by decide))), (gs_ne (gs_ne (gs_ne (gs_ne (gs_ne (gs_ne zh72 (by decide)) (by decide)) (by decide)) (by decide)) (by decide)) (by decide)), by simp [zH0_len], (by decide : zH0.2 ≤ 7302250)⟩
set_option maxHeartbeats 40000000 in
theorem pc_2 (x1 : Int32) (x2 : Int32)  : ∃ (v : Int32) (h1 h2 : aH), (∀ (X : aX) (n d : Nat), arun X (n + 1000000) (d + 20) zM146 0 [some (.ref 0), some (.int x1), some (.int x2)] [] zH0 = some (some (.int v), h1)) ∧ (∀ (X : aX) (n d : Nat), arun X (n + 1000000) (d + 20) zM207 0 [some (.ref 72), some (.int x1), some (.int x2), none] [] h1 = some (some (.int v), h2)) ∧ h1.1[72]? = some (.inr (12, zF72)) ∧ h2.1.length ≤ 600000 ∧ h2.2 ≤ 7302250 := by
  by_cases ec0 : x1 < 1
  ·
    have ec1 : ¬ x1 = 7 := by
      have l0 : (1 : Int32).toInt = 1 := by decide
      have l1 : (7 : Int32).toInt = 7 := by decide
      simp only [Int32.lt_iff_toInt_lt, Int32.le_iff_toInt_le, ← Int32.toInt_inj] at *
      omega
    have em0 : ¬ x1 = 1 := by
      have l0 : (1 : Int32).toInt = 1 := by decide
      have l1 : (7 : Int32).toInt = 7 := by decide
      simp only [Int32.lt_iff_toInt_lt, Int32.le_iff_toInt_le, ← Int32.toInt_inj] at *
      omega
    have em1 : ¬ x1 = 2 := by
      have l0 : (1 : Int32).toInt = 1 := by decide
      have l1 : (2 : Int32).toInt = 2 := by decide
      have l2 : (7 : Int32).toInt = 7 := by decide
      simp only [Int32.lt_iff_toInt_lt, Int32.le_iff_toInt_le, ← Int32.toInt_inj] at *
      omega
    have em2 : ¬ x1 = 3 := by
      have l0 : (1 : Int32).toInt = 1 := by decide
      have l1 : (2 : Int32).toInt = 2 := by decide
      have l2 : (3 : Int32).toInt = 3 := by decide
      have l3 : (7 : Int32).toInt = 7 := by decide
      simp only [Int32.lt_iff_toInt_lt, Int32.le_iff_toInt_le, ← Int32.toInt_inj] at *
      omega
    exact ⟨_, zH0, zH0, fun X n d => qc2_0 (n := n + 999988) (d := d + 17) (ec0 := ec0) (ec1 := ec1), fun X n d => qm2_0_0 (n := n + 999978) (d := d + 18) (ec1 := ec1) (em0 := em0) (em1 := em1) (em2 := em2), zh72, by simp [zH0_len], (by decide : zH0.2 ≤ 7302250)⟩
  ·
    by_cases ec1 : 3 < x1
    ·
      by_cases ec2 : ¬ x1 = 7
      ·
        have em0 : ¬ x1 = 1 := by
          have l0 : (1 : Int32).toInt = 1 := by decide
          have l1 : (3 : Int32).toInt = 3 := by decide
          have l2 : (7 : Int32).toInt = 7 := by decide
          simp only [Int32.lt_iff_toInt_lt, Int32.le_iff_toInt_le, ← Int32.toInt_inj] at *
          omega
        have em1 : ¬ x1 = 2 := by
          have l0 : (1 : Int32).toInt = 1 := by decide
          have l1 : (2 : Int32).toInt = 2 := by decide
          have l2 : (3 : Int32).toInt = 3 := by decide
          have l3 : (7 : Int32).toInt = 7 := by decide
          simp only [Int32.lt_iff_toInt_lt, Int32.le_iff_toInt_le, ← Int32.toInt_inj] at *
          omega
        have em2 : ¬ x1 = 3 := by
          have l0 : (1 : Int32).toInt = 1 := by decide
          have l1 : (2 : Int32).toInt = 2 := by decide
          have l2 : (3 : Int32).toInt = 3 := by decide
          have l3 : (7 : Int32).toInt = 7 := by decide
          simp only [Int32.lt_iff_toInt_lt, Int32.le_iff_toInt_le, ← Int32.toInt_inj] at *
          omega
        exact ⟨_, zH0, zH0, fun X n d => qc2_1 (n := n + 999986) (d := d + 17) (ec0 := ec0) (ec1 := ec1) (ec2 := ec2), fun X n d => qm2_1_0 (n := n + 999978) (d := d + 18) (ec2 := ec2) (em0 := em0) (em1 := em1) (em2 := em2), zh72, by simp [zH0_len], (by decide : zH0.2 ≤ 7302250)⟩
      ·
        have ec2 : x1 = 7 := Decidable.not_not.mp ec2
        by_cases ec3 : x2 < 0
        ·
          have em0 : ¬ x1 = 1 := by
            have l0 : (0 : Int32).toInt = 0 := by decide
            have l1 : (1 : Int32).toInt = 1 := by decide
            have l2 : (3 : Int32).toInt = 3 := by decide
            have l3 : (7 : Int32).toInt = 7 := by decide
            simp only [Int32.lt_iff_toInt_lt, Int32.le_iff_toInt_le, ← Int32.toInt_inj] at *
            omega
          have em1 : ¬ x1 = 2 := by
            have l0 : (0 : Int32).toInt = 0 := by decide
            have l1 : (1 : Int32).toInt = 1 := by decide
            have l2 : (2 : Int32).toInt = 2 := by decide
            have l3 : (3 : Int32).toInt = 3 := by decide
            have l4 : (7 : Int32).toInt = 7 := by decide
            simp only [Int32.lt_iff_toInt_lt, Int32.le_iff_toInt_le, ← Int32.toInt_inj] at *
            omega
          have em2 : ¬ x1 = 3 := by
            have l0 : (0 : Int32).toInt = 0 := by decide
            have l1 : (1 : Int32).toInt = 1 := by decide
            have l2 : (2 : Int32).toInt = 2 := by decide
            have l3 : (3 : Int32).toInt = 3 := by decide
            have l4 : (7 : Int32).toInt = 7 := by decide
            simp only [Int32.lt_iff_toInt_lt, Int32.le_iff_toInt_le, ← Int32.toInt_inj] at *
            omega
          have em3 : ¬ x1 < 0 := by
            have l0 : (0 : Int32).toInt = 0 := by decide
            have l1 : (1 : Int32).toInt = 1 := by decide
            have l2 : (2 : Int32).toInt = 2 := by decide
            have l3 : (3 : Int32).toInt = 3 := by decide
            have l4 : (7 : Int32).toInt = 7 := by decide
            simp only [Int32.lt_iff_toInt_lt, Int32.le_iff_toInt_le, ← Int32.toInt_inj] at *
            omega
          have em4 : ¬ 7 < x1 := by
            have l0 : (0 : Int32).toInt = 0 := by decide
            have l1 : (1 : Int32).toInt = 1 := by decide
            have l2 : (2 : Int32).toInt = 2 := by decide
            have l3 : (3 : Int32).toInt = 3 := by decide
            have l4 : (7 : Int32).toInt = 7 := by decide
            simp only [Int32.lt_iff_toInt_lt, Int32.le_iff_toInt_le, ← Int32.toInt_inj] at *
            omega
          exact ⟨_, zH0, zH0, fun X n d => qc2_2 (n := n + 999986) (d := d + 17) (ec0 := ec0) (ec1 := ec1) (ec2 := ec2) (ec3 := ec3), fun X n d => qm2_2_0 (n := n + 999977) (d := d + 17) (ec2 := ec2) (ec3 := ec3) (em0 := em0) (em1 := em1) (em2 := em2) (em3 := em3) (em4 := em4), zh72, by simp [zH0_len], (by decide : zH0.2 ≤ 7302250)⟩
        ·
          by_cases ec4 : 3 < x2
          ·
            have em0 : ¬ x1 = 1 := by
              have l0 : (0 : Int32).toInt = 0 := by decide
              have l1 : (1 : Int32).toInt = 1 := by decide
              have l2 : (3 : Int32).toInt = 3 := by decide
              have l3 : (7 : Int32).toInt = 7 := by decide
              simp only [Int32.lt_iff_toInt_lt, Int32.le_iff_toInt_le, ← Int32.toInt_inj] at *
              omega
            have em1 : ¬ x1 = 2 := by
              have l0 : (0 : Int32).toInt = 0 := by decide
              have l1 : (1 : Int32).toInt = 1 := by decide
              have l2 : (2 : Int32).toInt = 2 := by decide
              have l3 : (3 : Int32).toInt = 3 := by decide
              have l4 : (7 : Int32).toInt = 7 := by decide
              simp only [Int32.lt_iff_toInt_lt, Int32.le_iff_toInt_le, ← Int32.toInt_inj] at *
              omega
            have em2 : ¬ x1 = 3 := by
              have l0 : (0 : Int32).toInt = 0 := by decide
              have l1 : (1 : Int32).toInt = 1 := by decide
              have l2 : (2 : Int32).toInt = 2 := by decide
              have l3 : (3 : Int32).toInt = 3 := by decide
              have l4 : (7 : Int32).toInt = 7 := by decide
              simp only [Int32.lt_iff_toInt_lt, Int32.le_iff_toInt_le, ← Int32.toInt_inj] at *
              omega
            have em3 : ¬ x1 < 0 := by
              have l0 : (0 : Int32).toInt = 0 := by decide
              have l1 : (1 : Int32).toInt = 1 := by decide
              have l2 : (2 : Int32).toInt = 2 := by decide
              have l3 : (3 : Int32).toInt = 3 := by decide
              have l4 : (7 : Int32).toInt = 7 := by decide
              simp only [Int32.lt_iff_toInt_lt, Int32.le_iff_toInt_le, ← Int32.toInt_inj] at *
              omega
            have em4 : ¬ 7 < x1 := by
              have l0 : (0 : Int32).toInt = 0 := by decide
              have l1 : (1 : Int32).toInt = 1 := by decide
              have l2 : (2 : Int32).toInt = 2 := by decide
              have l3 : (3 : Int32).toInt = 3 := by decide
              have l4 : (7 : Int32).toInt = 7 := by decide
              simp only [Int32.lt_iff_toInt_lt, Int32.le_iff_toInt_le, ← Int32.toInt_inj] at *
              omega
            exact ⟨_, zH0, zH0, fun X n d => qc2_3 (n := n + 999983) (d := d + 17) (ec0 := ec0) (ec1 := ec1) (ec2 := ec2) (ec3 := ec3) (ec4 := ec4), fun X n d => qm2_3_0 (n := n + 999977) (d := d + 17) (ec2 := ec2) (ec3 := ec3) (ec4 := ec4) (em0 := em0) (em1 := em1) (em2 := em2) (em3 := em3) (em4 := em4), zh72, by simp [zH0_len], (by decide : zH0.2 ≤ 7302250)⟩
          ·
            have ec5 : ¬ x1 < 4 := by
              have l0 : (0 : Int32).toInt = 0 := by decide
              have l1 : (1 : Int32).toInt = 1 := by decide
              have l2 : (3 : Int32).toInt = 3 := by decide
              have l3 : (4 : Int32).toInt = 4 := by decide
              have l4 : (7 : Int32).toInt = 7 := by decide
              simp only [Int32.lt_iff_toInt_lt, Int32.le_iff_toInt_le, ← Int32.toInt_inj] at *
              omega
            have ec6 : 5 < x1 := by
              have l0 : (0 : Int32).toInt = 0 := by decide
              have l1 : (1 : Int32).toInt = 1 := by decide
              have l2 : (3 : Int32).toInt = 3 := by decide
              have l3 : (4 : Int32).toInt = 4 := by decide
              have l4 : (5 : Int32).toInt = 5 := by decide
              have l5 : (7 : Int32).toInt = 7 := by decide
              simp only [Int32.lt_iff_toInt_lt, Int32.le_iff_toInt_le, ← Int32.toInt_inj] at *
              omega
            have em0 : ¬ x1 = 1 := by
              have l0 : (0 : Int32).toInt = 0 := by decide
              have l1 : (1 : Int32).toInt = 1 := by decide
              have l2 : (3 : Int32).toInt = 3 := by decide
              have l3 : (4 : Int32).toInt = 4 := by decide
              have l4 : (5 : Int32).toInt = 5 := by decide
              have l5 : (7 : Int32).toInt = 7 := by decide
              simp only [Int32.lt_iff_toInt_lt, Int32.le_iff_toInt_le, ← Int32.toInt_inj] at *
              omega
            have em1 : ¬ x1 = 2 := by
              have l0 : (0 : Int32).toInt = 0 := by decide
              have l1 : (1 : Int32).toInt = 1 := by decide
              have l2 : (2 : Int32).toInt = 2 := by decide
              have l3 : (3 : Int32).toInt = 3 := by decide
              have l4 : (4 : Int32).toInt = 4 := by decide
              have l5 : (5 : Int32).toInt = 5 := by decide
              have l6 : (7 : Int32).toInt = 7 := by decide
              simp only [Int32.lt_iff_toInt_lt, Int32.le_iff_toInt_le, ← Int32.toInt_inj] at *
              omega
            have em2 : ¬ x1 = 3 := by
              have l0 : (0 : Int32).toInt = 0 := by decide
              have l1 : (1 : Int32).toInt = 1 := by decide
              have l2 : (2 : Int32).toInt = 2 := by decide
              have l3 : (3 : Int32).toInt = 3 := by decide
              have l4 : (4 : Int32).toInt = 4 := by decide
              have l5 : (5 : Int32).toInt = 5 := by decide
              have l6 : (7 : Int32).toInt = 7 := by decide
              simp only [Int32.lt_iff_toInt_lt, Int32.le_iff_toInt_le, ← Int32.toInt_inj] at *
              omega
            have em3 : ¬ x1 < 0 := by
              have l0 : (0 : Int32).toInt = 0 := by decide
              have l1 : (1 : Int32).toInt = 1 := by decide
              have l2 : (2 : Int32).toInt = 2 := by decide
              have l3 : (3 : Int32).toInt = 3 := by decide
              have l4 : (4 : Int32).toInt = 4 := by decide
              have l5 : (5 : Int32).toInt = 5 := by decide
              have l6 : (7 : Int32).toInt = 7 := by decide
              simp only [Int32.lt_iff_toInt_lt, Int32.le_iff_toInt_le, ← Int32.toInt_inj] at *
              omega
            have em4 : ¬ 7 < x1 := by
              have l0 : (0 : Int32).toInt = 0 := by decide
              have l1 : (1 : Int32).toInt = 1 := by decide
              have l2 : (2 : Int32).toInt = 2 := by decide
              have l3 : (3 : Int32).toInt = 3 := by decide
              have l4 : (4 : Int32).toInt = 4 := by decide
              have l5 : (5 : Int32).toInt = 5 := by decide
              have l6 : (7 : Int32).toInt = 7 := by decide
              simp only [Int32.lt_iff_toInt_lt, Int32.le_iff_toInt_le, ← Int32.toInt_inj] at *
              omega
            exact ⟨_, (((((((zH0.1.set 2 (.inl (0, 150, .inl (upd (fun _ => 0) (Int32.toNatClampNeg 0) x1)))).set 3 (.inl (0, 150, .inl (upd (fun _ => 0) (Int32.toNatClampNeg 0) x2)))).set 7 (.inl (0, 150, .inl (upd (fun _ => 0) (Int32.toNatClampNeg 0) (-1))))).set 4 (.inl (0, 150, .inl (upd (fun _ => 0) (Int32.toNatClampNeg 0) 0)))).set 5 (.inl (0, 150, .inl (upd (fun _ => 0) (Int32.toNatClampNeg 0) (-1))))).set 1 (.inr (6, [.int 0, .int 1, .int 1, .int 0, .int 0, .int 0, .int 0, .ref 2, .ref 3, .ref 4, .ref 5, .ref 6, .ref 7, .ref 8, .ref 9, .ref 10, .ref 11, .ref 12]))), zH0.2), ((((((((((((((zH0.1.set 2 (.inl (0, 150, .inl (upd (fun _ => 0) (Int32.toNatClampNeg 0) x1)))).set 3 (.inl (0, 150, .inl (upd (fun _ => 0) (Int32.toNatClampNeg 0) x2)))).set 7 (.inl (0, 150, .inl (upd (fun _ => 0) (Int32.toNatClampNeg 0) (-1))))).set 4 (.inl (0, 150, .inl (upd (fun _ => 0) (Int32.toNatClampNeg 0) 0)))).set 5 (.inl (0, 150, .inl (upd (fun _ => 0) (Int32.toNatClampNeg 0) (-1))))).set 1 (.inr (6, [.int 0, .int 1, .int 1, .int 0, .int 0, .int 0, .int 0, .ref 2, .ref 3, .ref 4, .ref 5, .ref 6, .ref 7, .ref 8, .ref 9, .ref 10, .ref 11, .ref 12]))), zH0.2).1.set 73 (.inl (0, 150, .inl (upd (fun _ => 0) (Int32.toNatClampNeg 0) x1)))).set 75 (.inl (0, 150, .inl (upd (fun _ => 0) (Int32.toNatClampNeg 0) (-1))))).set 76 (.inl (0, 150, .inl (upd (fun _ => 0) (Int32.toNatClampNeg 0) 0)))).set 77 (.inl (0, 150, .inl (upd (fun _ => 0) (Int32.toNatClampNeg 0) (-1))))).set 72 (.inr (12, (zF72.set 2 (.int 1))))).set 74 (.inl (0, 150, .inl (upd (fun _ => 0) (Int32.toNatClampNeg 0) x2)))), (((((((zH0.1.set 2 (.inl (0, 150, .inl (upd (fun _ => 0) (Int32.toNatClampNeg 0) x1)))).set 3 (.inl (0, 150, .inl (upd (fun _ => 0) (Int32.toNatClampNeg 0) x2)))).set 7 (.inl (0, 150, .inl (upd (fun _ => 0) (Int32.toNatClampNeg 0) (-1))))).set 4 (.inl (0, 150, .inl (upd (fun _ => 0) (Int32.toNatClampNeg 0) 0)))).set 5 (.inl (0, 150, .inl (upd (fun _ => 0) (Int32.toNatClampNeg 0) (-1))))).set 1 (.inr (6, [.int 0, .int 1, .int 1, .int 0, .int 0, .int 0, .int 0, .ref 2, .ref 3, .ref 4, .ref 5, .ref 6, .ref 7, .ref 8, .ref 9, .ref 10, .ref 11, .ref 12]))), zH0.2).2), fun X n d => qc2_4 (n := n + 999923) (d := d + 16) (g0 := zh0) (g1 := zh1) (g2 := zh2) (g3 := zh3) (g4 := zh4) (g5 := zh5) (g7 := zh7) (ec0 := ec0) (ec1 := ec1) (ec2 := ec2) (ec3 := ec3) (ec4 := ec4) (ec5 := ec5) (ec6 := ec6), fun X n d => qm2_4_0 (n := n + 999945) (d := d + 17) (g72 := (gs_ne (gs_ne (gs_ne (gs_ne (gs_ne (gs_ne zh72 (by decide)) (by decide)) (by decide)) (by decide)) (by decide)) (by decide))) (g73 := (gs_ne (gs_ne (gs_ne (gs_ne (gs_ne (gs_ne zh73 (by decide)) (by decide)) (by decide)) (by decide)) (by decide)) (by decide))) (g74 := (gs_ne (gs_ne (gs_ne (gs_ne (gs_ne (gs_ne zh74 (by decide)) (by decide)) (by decide)) (by decide)) (by decide)) (by decide))) (g75 := (gs_ne (gs_ne (gs_ne (gs_ne (gs_ne (gs_ne zh75 (by decide)) (by decide)) (by decide)) (by decide)) (by decide)) (by decide))) (g76 := (gs_ne (gs_ne (gs_ne (gs_ne (gs_ne (gs_ne zh76 (by decide)) (by decide)) (by decide)) (by decide)) (by decide)) (by decide))) (g77 := (gs_ne (gs_ne (gs_ne (gs_ne (gs_ne (gs_ne zh77 (by decide)) (by decide)) (by decide)) (by decide)) (by decide)) (by decide))) (ec2 := ec2) (ec3 := ec3) (ec4 := ec4) (em0 := em0) (em1 := em1) (em2 := em2) (em3 := em3) (em4 := em4), (gs_ne (gs_ne (gs_ne (gs_ne (gs_ne (gs_ne zh72 (by decide)) (by decide)) (by decide)) (by decide)) (by decide)) (by decide)), by simp [zH0_len], (by decide : zH0.2 ≤ 7302250)⟩
    ·
      by_cases ec2 : x2 < 0
      ·
        by_cases em0 : ¬ x1 = 1
        ·
          by_cases em1 : x1 = 2
          ·
            have em2 : ¬ x1 < 0 := by
              have l0 : (0 : Int32).toInt = 0 := by decide
              have l1 : (1 : Int32).toInt = 1 := by decide
              have l2 : (2 : Int32).toInt = 2 := by decide
              have l3 : (3 : Int32).toInt = 3 := by decide
              simp only [Int32.lt_iff_toInt_lt, Int32.le_iff_toInt_le, ← Int32.toInt_inj] at *
              omega
            have em3 : ¬ 7 < x1 := by
              have l0 : (0 : Int32).toInt = 0 := by decide
              have l1 : (1 : Int32).toInt = 1 := by decide
              have l2 : (2 : Int32).toInt = 2 := by decide
              have l3 : (3 : Int32).toInt = 3 := by decide
              have l4 : (7 : Int32).toInt = 7 := by decide
              simp only [Int32.lt_iff_toInt_lt, Int32.le_iff_toInt_le, ← Int32.toInt_inj] at *
              omega
            exact ⟨_, zH0, zH0, fun X n d => qc2_5 (n := n + 999985) (d := d + 17) (ec0 := ec0) (ec1 := ec1) (ec2 := ec2), fun X n d => qm2_5_0 (n := n + 999980) (d := d + 17) (ec2 := ec2) (em0 := em0) (em1 := em1) (em2 := em2) (em3 := em3), zh72, by simp [zH0_len], (by decide : zH0.2 ≤ 7302250)⟩
          ·
            have em2 : x1 = 3 := by
              have l0 : (0 : Int32).toInt = 0 := by decide
              have l1 : (1 : Int32).toInt = 1 := by decide
              have l2 : (2 : Int32).toInt = 2 := by decide
              have l3 : (3 : Int32).toInt = 3 := by decide
              simp only [Int32.lt_iff_toInt_lt, Int32.le_iff_toInt_le, ← Int32.toInt_inj] at *
              omega
            have em3 : ¬ x1 < 0 := by
              have l0 : (0 : Int32).toInt = 0 := by decide
              have l1 : (1 : Int32).toInt = 1 := by decide
              have l2 : (2 : Int32).toInt = 2 := by decide
              have l3 : (3 : Int32).toInt = 3 := by decide
              simp only [Int32.lt_iff_toInt_lt, Int32.le_iff_toInt_le, ← Int32.toInt_inj] at *
              omega
            have em4 : ¬ 7 < x1 := by
              have l0 : (0 : Int32).toInt = 0 := by decide
              have l1 : (1 : Int32).toInt = 1 := by decide
              have l2 : (2 : Int32).toInt = 2 := by decide
              have l3 : (3 : Int32).toInt = 3 := by decide
              have l4 : (7 : Int32).toInt = 7 := by decide
              simp only [Int32.lt_iff_toInt_lt, Int32.le_iff_toInt_le, ← Int32.toInt_inj] at *
              omega
            exact ⟨_, zH0, zH0, fun X n d => qc2_5 (n := n + 999985) (d := d + 17) (ec0 := ec0) (ec1 := ec1) (ec2 := ec2), fun X n d => qm2_5_1 (n := n + 999980) (d := d + 17) (ec2 := ec2) (em0 := em0) (em1 := em1) (em2 := em2) (em3 := em3) (em4 := em4), zh72, by simp [zH0_len], (by decide : zH0.2 ≤ 7302250)⟩
        ·
          have em0 : x1 = 1 := Decidable.not_not.mp em0
          have em1 : ¬ x1 < 0 := by
            have l0 : (0 : Int32).toInt = 0 := by decide
            have l1 : (1 : Int32).toInt = 1 := by decide
            have l2 : (3 : Int32).toInt = 3 := by decide
            simp only [Int32.lt_iff_toInt_lt, Int32.le_iff_toInt_le, ← Int32.toInt_inj] at *
            omega
          have em2 : ¬ 7 < x1 := by
            have l0 : (0 : Int32).toInt = 0 := by decide
            have l1 : (1 : Int32).toInt = 1 := by decide
            have l2 : (3 : Int32).toInt = 3 := by decide
            have l3 : (7 : Int32).toInt = 7 := by decide
            simp only [Int32.lt_iff_toInt_lt, Int32.le_iff_toInt_le, ← Int32.toInt_inj] at *
            omega
          exact ⟨_, zH0, zH0, fun X n d => qc2_5 (n := n + 999985) (d := d + 17) (ec0 := ec0) (ec1 := ec1) (ec2 := ec2), fun X n d => qm2_5_2 (n := n + 999980) (d := d + 17) (ec2 := ec2) (em0 := em0) (em1 := em1) (em2 := em2), zh72, by simp [zH0_len], (by decide : zH0.2 ≤ 7302250)⟩
      ·
        by_cases ec3 : 3 < x2
        ·
          by_cases em0 : ¬ x1 = 1
          ·
            by_cases em1 : x1 = 2
            ·
              have em2 : ¬ x1 < 0 := by
                have l0 : (0 : Int32).toInt = 0 := by decide
                have l1 : (1 : Int32).toInt = 1 := by decide
                have l2 : (2 : Int32).toInt = 2 := by decide
                have l3 : (3 : Int32).toInt = 3 := by decide
                simp only [Int32.lt_iff_toInt_lt, Int32.le_iff_toInt_le, ← Int32.toInt_inj] at *
                omega
              have em3 : ¬ 7 < x1 := by
                have l0 : (0 : Int32).toInt = 0 := by decide
                have l1 : (1 : Int32).toInt = 1 := by decide
                have l2 : (2 : Int32).toInt = 2 := by decide
                have l3 : (3 : Int32).toInt = 3 := by decide
                have l4 : (7 : Int32).toInt = 7 := by decide
                simp only [Int32.lt_iff_toInt_lt, Int32.le_iff_toInt_le, ← Int32.toInt_inj] at *
                omega
              exact ⟨_, zH0, zH0, fun X n d => qc2_6 (n := n + 999983) (d := d + 17) (ec0 := ec0) (ec1 := ec1) (ec2 := ec2) (ec3 := ec3), fun X n d => qm2_6_0 (n := n + 999977) (d := d + 17) (ec2 := ec2) (ec3 := ec3) (em0 := em0) (em1 := em1) (em2 := em2) (em3 := em3), zh72, by simp [zH0_len], (by decide : zH0.2 ≤ 7302250)⟩
            ·
              have em2 : x1 = 3 := by
                have l0 : (0 : Int32).toInt = 0 := by decide
                have l1 : (1 : Int32).toInt = 1 := by decide
                have l2 : (2 : Int32).toInt = 2 := by decide
                have l3 : (3 : Int32).toInt = 3 := by decide
                simp only [Int32.lt_iff_toInt_lt, Int32.le_iff_toInt_le, ← Int32.toInt_inj] at *
                omega
              have em3 : ¬ x1 < 0 := by
                have l0 : (0 : Int32).toInt = 0 := by decide
                have l1 : (1 : Int32).toInt = 1 := by decide
                have l2 : (2 : Int32).toInt = 2 := by decide
                have l3 : (3 : Int32).toInt = 3 := by decide
                simp only [Int32.lt_iff_toInt_lt, Int32.le_iff_toInt_le, ← Int32.toInt_inj] at *
                omega
              have em4 : ¬ 7 < x1 := by
                have l0 : (0 : Int32).toInt = 0 := by decide
                have l1 : (1 : Int32).toInt = 1 := by decide
                have l2 : (2 : Int32).toInt = 2 := by decide
                have l3 : (3 : Int32).toInt = 3 := by decide
                have l4 : (7 : Int32).toInt = 7 := by decide
                simp only [Int32.lt_iff_toInt_lt, Int32.le_iff_toInt_le, ← Int32.toInt_inj] at *
                omega
              exact ⟨_, zH0, zH0, fun X n d => qc2_6 (n := n + 999983) (d := d + 17) (ec0 := ec0) (ec1 := ec1) (ec2 := ec2) (ec3 := ec3), fun X n d => qm2_6_1 (n := n + 999977) (d := d + 17) (ec2 := ec2) (ec3 := ec3) (em0 := em0) (em1 := em1) (em2 := em2) (em3 := em3) (em4 := em4), zh72, by simp [zH0_len], (by decide : zH0.2 ≤ 7302250)⟩
          ·
            have em0 : x1 = 1 := Decidable.not_not.mp em0
            have em1 : ¬ x1 < 0 := by
              have l0 : (0 : Int32).toInt = 0 := by decide
              have l1 : (1 : Int32).toInt = 1 := by decide
              have l2 : (3 : Int32).toInt = 3 := by decide
              simp only [Int32.lt_iff_toInt_lt, Int32.le_iff_toInt_le, ← Int32.toInt_inj] at *
              omega
            have em2 : ¬ 7 < x1 := by
              have l0 : (0 : Int32).toInt = 0 := by decide
              have l1 : (1 : Int32).toInt = 1 := by decide
              have l2 : (3 : Int32).toInt = 3 := by decide
              have l3 : (7 : Int32).toInt = 7 := by decide
              simp only [Int32.lt_iff_toInt_lt, Int32.le_iff_toInt_le, ← Int32.toInt_inj] at *
              omega
            exact ⟨_, zH0, zH0, fun X n d => qc2_6 (n := n + 999983) (d := d + 17) (ec0 := ec0) (ec1 := ec1) (ec2 := ec2) (ec3 := ec3), fun X n d => qm2_6_2 (n := n + 999977) (d := d + 17) (ec2 := ec2) (ec3 := ec3) (em0 := em0) (em1 := em1) (em2 := em2), zh72, by simp [zH0_len], (by decide : zH0.2 ≤ 7302250)⟩
        ·
          have ec4 : x1 < 4 := by
            have l0 : (0 : Int32).toInt = 0 := by decide
            have l1 : (1 : Int32).toInt = 1 := by decide
            have l2 : (3 : Int32).toInt = 3 := by decide
            have l3 : (4 : Int32).toInt = 4 := by decide
            simp only [Int32.lt_iff_toInt_lt, Int32.le_iff_toInt_le, ← Int32.toInt_inj] at *
            omega
          by_cases em0 : ¬ x1 = 1
          ·
            by_cases em1 : x1 = 2
            ·
              have em2 : ¬ x1 < 0 := by
                have l0 : (0 : Int32).toInt = 0 := by decide
                have l1 : (1 : Int32).toInt = 1 := by decide
                have l2 : (2 : Int32).toInt = 2 := by decide
                have l3 : (3 : Int32).toInt = 3 := by decide
                have l4 : (4 : Int32).toInt = 4 := by decide
                simp only [Int32.lt_iff_toInt_lt, Int32.le_iff_toInt_le, ← Int32.toInt_inj] at *
                omega
              have em3 : ¬ 7 < x1 := by
                have l0 : (0 : Int32).toInt = 0 := by decide
                have l1 : (1 : Int32).toInt = 1 := by decide
                have l2 : (2 : Int32).toInt = 2 := by decide
                have l3 : (3 : Int32).toInt = 3 := by decide
                have l4 : (4 : Int32).toInt = 4 := by decide
                have l5 : (7 : Int32).toInt = 7 := by decide
                simp only [Int32.lt_iff_toInt_lt, Int32.le_iff_toInt_le, ← Int32.toInt_inj] at *
                omega
              exact ⟨_, (((((((zH0.1.set 2 (.inl (0, 150, .inl (upd (fun _ => 0) (Int32.toNatClampNeg 0) x1)))).set 3 (.inl (0, 150, .inl (upd (fun _ => 0) (Int32.toNatClampNeg 0) x2)))).set 7 (.inl (0, 150, .inl (upd (fun _ => 0) (Int32.toNatClampNeg 0) (-1))))).set 4 (.inl (0, 150, .inl (upd (fun _ => 0) (Int32.toNatClampNeg 0) 0)))).set 5 (.inl (0, 150, .inl (upd (fun _ => 0) (Int32.toNatClampNeg 0) (-1))))).set 1 (.inr (6, [.int 0, .int 1, .int 1, .int 0, .int 0, .int 0, .int 0, .ref 2, .ref 3, .ref 4, .ref 5, .ref 6, .ref 7, .ref 8, .ref 9, .ref 10, .ref 11, .ref 12]))), zH0.2), ((((((((((((((zH0.1.set 2 (.inl (0, 150, .inl (upd (fun _ => 0) (Int32.toNatClampNeg 0) x1)))).set 3 (.inl (0, 150, .inl (upd (fun _ => 0) (Int32.toNatClampNeg 0) x2)))).set 7 (.inl (0, 150, .inl (upd (fun _ => 0) (Int32.toNatClampNeg 0) (-1))))).set 4 (.inl (0, 150, .inl (upd (fun _ => 0) (Int32.toNatClampNeg 0) 0)))).set 5 (.inl (0, 150, .inl (upd (fun _ => 0) (Int32.toNatClampNeg 0) (-1))))).set 1 (.inr (6, [.int 0, .int 1, .int 1, .int 0, .int 0, .int 0, .int 0, .ref 2, .ref 3, .ref 4, .ref 5, .ref 6, .ref 7, .ref 8, .ref 9, .ref 10, .ref 11, .ref 12]))), zH0.2).1.set 73 (.inl (0, 150, .inl (upd (fun _ => 0) (Int32.toNatClampNeg 0) x1)))).set 75 (.inl (0, 150, .inl (upd (fun _ => 0) (Int32.toNatClampNeg 0) (-1))))).set 76 (.inl (0, 150, .inl (upd (fun _ => 0) (Int32.toNatClampNeg 0) 0)))).set 77 (.inl (0, 150, .inl (upd (fun _ => 0) (Int32.toNatClampNeg 0) (-1))))).set 72 (.inr (12, (zF72.set 2 (.int 1))))).set 74 (.inl (0, 150, .inl (upd (fun _ => 0) (Int32.toNatClampNeg 0) x2)))), (((((((zH0.1.set 2 (.inl (0, 150, .inl (upd (fun _ => 0) (Int32.toNatClampNeg 0) x1)))).set 3 (.inl (0, 150, .inl (upd (fun _ => 0) (Int32.toNatClampNeg 0) x2)))).set 7 (.inl (0, 150, .inl (upd (fun _ => 0) (Int32.toNatClampNeg 0) (-1))))).set 4 (.inl (0, 150, .inl (upd (fun _ => 0) (Int32.toNatClampNeg 0) 0)))).set 5 (.inl (0, 150, .inl (upd (fun _ => 0) (Int32.toNatClampNeg 0) (-1))))).set 1 (.inr (6, [.int 0, .int 1, .int 1, .int 0, .int 0, .int 0, .int 0, .ref 2, .ref 3, .ref 4, .ref 5, .ref 6, .ref 7, .ref 8, .ref 9, .ref 10, .ref 11, .ref 12]))), zH0.2).2), fun X n d => qc2_7 (n := n + 999923) (d := d + 16) (g0 := zh0) (g1 := zh1) (g2 := zh2) (g3 := zh3) (g4 := zh4) (g5 := zh5) (g7 := zh7) (ec0 := ec0) (ec1 := ec1) (ec2 := ec2) (ec3 := ec3) (ec4 := ec4), fun X n d => qm2_7_0 (n := n + 999945) (d := d + 17) (g72 := (gs_ne (gs_ne (gs_ne (gs_ne (gs_ne (gs_ne zh72 (by decide)) (by decide)) (by decide)) (by decide)) (by decide)) (by decide))) (g73 := (gs_ne (gs_ne (gs_ne (gs_ne (gs_ne (gs_ne zh73 (by decide)) (by decide)) (by decide)) (by decide)) (by decide)) (by decide))) (g74 := (gs_ne (gs_ne (gs_ne (gs_ne (gs_ne (gs_ne zh74 (by decide)) (by decide)) (by decide)) (by decide)) (by decide)) (by decide))) (g75 := (gs_ne (gs_ne (gs_ne (gs_ne (gs_ne (gs_ne zh75 (by decide)) (by decide)) (by decide)) (by decide)) (by decide)) (by decide))) (g76 := (gs_ne (gs_ne (gs_ne (gs_ne (gs_ne (gs_ne zh76 (by decide)) (by decide)) (by decide)) (by decide)) (by decide)) (by decide))) (g77 := (gs_ne (gs_ne (gs_ne (gs_ne (gs_ne (gs_ne zh77 (by decide)) (by decide)) (by decide)) (by decide)) (by decide)) (by decide))) (ec2 := ec2) (ec3 := ec3) (em0 := em0) (em1 := em1) (em2 := em2) (em3 := em3), (gs_ne (gs_ne (gs_ne (gs_ne (gs_ne (gs_ne zh72 (by decide)) (by decide)) (by decide)) (by decide)) (by decide)) (by decide)), by simp [zH0_len], (by decide : zH0.2 ≤ 7302250)⟩
            ·
              have em2 : x1 = 3 := by
                have l0 : (0 : Int32).toInt = 0 := by decide
                have l1 : (1 : Int32).toInt = 1 := by decide
                have l2 : (2 : Int32).toInt = 2 := by decide
                have l3 : (3 : Int32).toInt = 3 := by decide
                have l4 : (4 : Int32).toInt = 4 := by decide
                simp only [Int32.lt_iff_toInt_lt, Int32.le_iff_toInt_le, ← Int32.toInt_inj] at *
                omega
              have em3 : ¬ x1 < 0 := by
                have l0 : (0 : Int32).toInt = 0 := by decide
                have l1 : (1 : Int32).toInt = 1 := by decide
                have l2 : (2 : Int32).toInt = 2 := by decide
                have l3 : (3 : Int32).toInt = 3 := by decide
                have l4 : (4 : Int32).toInt = 4 := by decide
                simp only [Int32.lt_iff_toInt_lt, Int32.le_iff_toInt_le, ← Int32.toInt_inj] at *
                omega
              have em4 : ¬ 7 < x1 := by
                have l0 : (0 : Int32).toInt = 0 := by decide
                have l1 : (1 : Int32).toInt = 1 := by decide
                have l2 : (2 : Int32).toInt = 2 := by decide
                have l3 : (3 : Int32).toInt = 3 := by decide
                have l4 : (4 : Int32).toInt = 4 := by decide
                have l5 : (7 : Int32).toInt = 7 := by decide
                simp only [Int32.lt_iff_toInt_lt, Int32.le_iff_toInt_le, ← Int32.toInt_inj] at *
                omega
              exact ⟨_, (((((((zH0.1.set 2 (.inl (0, 150, .inl (upd (fun _ => 0) (Int32.toNatClampNeg 0) x1)))).set 3 (.inl (0, 150, .inl (upd (fun _ => 0) (Int32.toNatClampNeg 0) x2)))).set 7 (.inl (0, 150, .inl (upd (fun _ => 0) (Int32.toNatClampNeg 0) (-1))))).set 4 (.inl (0, 150, .inl (upd (fun _ => 0) (Int32.toNatClampNeg 0) 0)))).set 5 (.inl (0, 150, .inl (upd (fun _ => 0) (Int32.toNatClampNeg 0) (-1))))).set 1 (.inr (6, [.int 0, .int 1, .int 1, .int 0, .int 0, .int 0, .int 0, .ref 2, .ref 3, .ref 4, .ref 5, .ref 6, .ref 7, .ref 8, .ref 9, .ref 10, .ref 11, .ref 12]))), zH0.2), ((((((((((((((zH0.1.set 2 (.inl (0, 150, .inl (upd (fun _ => 0) (Int32.toNatClampNeg 0) x1)))).set 3 (.inl (0, 150, .inl (upd (fun _ => 0) (Int32.toNatClampNeg 0) x2)))).set 7 (.inl (0, 150, .inl (upd (fun _ => 0) (Int32.toNatClampNeg 0) (-1))))).set 4 (.inl (0, 150, .inl (upd (fun _ => 0) (Int32.toNatClampNeg 0) 0)))).set 5 (.inl (0, 150, .inl (upd (fun _ => 0) (Int32.toNatClampNeg 0) (-1))))).set 1 (.inr (6, [.int 0, .int 1, .int 1, .int 0, .int 0, .int 0, .int 0, .ref 2, .ref 3, .ref 4, .ref 5, .ref 6, .ref 7, .ref 8, .ref 9, .ref 10, .ref 11, .ref 12]))), zH0.2).1.set 73 (.inl (0, 150, .inl (upd (fun _ => 0) (Int32.toNatClampNeg 0) x1)))).set 75 (.inl (0, 150, .inl (upd (fun _ => 0) (Int32.toNatClampNeg 0) (-1))))).set 76 (.inl (0, 150, .inl (upd (fun _ => 0) (Int32.toNatClampNeg 0) 0)))).set 77 (.inl (0, 150, .inl (upd (fun _ => 0) (Int32.toNatClampNeg 0) (-1))))).set 72 (.inr (12, (zF72.set 2 (.int 1))))).set 74 (.inl (0, 150, .inl (upd (fun _ => 0) (Int32.toNatClampNeg 0) x2)))), (((((((zH0.1.set 2 (.inl (0, 150, .inl (upd (fun _ => 0) (Int32.toNatClampNeg 0) x1)))).set 3 (.inl (0, 150, .inl (upd (fun _ => 0) (Int32.toNatClampNeg 0) x2)))).set 7 (.inl (0, 150, .inl (upd (fun _ => 0) (Int32.toNatClampNeg 0) (-1))))).set 4 (.inl (0, 150, .inl (upd (fun _ => 0) (Int32.toNatClampNeg 0) 0)))).set 5 (.inl (0, 150, .inl (upd (fun _ => 0) (Int32.toNatClampNeg 0) (-1))))).set 1 (.inr (6, [.int 0, .int 1, .int 1, .int 0, .int 0, .int 0, .int 0, .ref 2, .ref 3, .ref 4, .ref 5, .ref 6, .ref 7, .ref 8, .ref 9, .ref 10, .ref 11, .ref 12]))), zH0.2).2), fun X n d => qc2_7 (n := n + 999923) (d := d + 16) (g0 := zh0) (g1 := zh1) (g2 := zh2) (g3 := zh3) (g4 := zh4) (g5 := zh5) (g7 := zh7) (ec0 := ec0) (ec1 := ec1) (ec2 := ec2) (ec3 := ec3) (ec4 := ec4), fun X n d => qm2_7_1 (n := n + 999945) (d := d + 17) (g72 := (gs_ne (gs_ne (gs_ne (gs_ne (gs_ne (gs_ne zh72 (by decide)) (by decide)) (by decide)) (by decide)) (by decide)) (by decide))) (g73 := (gs_ne (gs_ne (gs_ne (gs_ne (gs_ne (gs_ne zh73 (by decide)) (by decide)) (by decide)) (by decide)) (by decide)) (by decide))) (g74 := (gs_ne (gs_ne (gs_ne (gs_ne (gs_ne (gs_ne zh74 (by decide)) (by decide)) (by decide)) (by decide)) (by decide)) (by decide))) (g75 := (gs_ne (gs_ne (gs_ne (gs_ne (gs_ne (gs_ne zh75 (by decide)) (by decide)) (by decide)) (by decide)) (by decide)) (by decide))) (g76 := (gs_ne (gs_ne (gs_ne (gs_ne (gs_ne (gs_ne zh76 (by decide)) (by decide)) (by decide)) (by decide)) (by decide)) (by decide))) (g77 := (gs_ne (gs_ne (gs_ne (gs_ne (gs_ne (gs_ne zh77 (by decide)) (by decide)) (by decide)) (by decide)) (by decide)) (by decide))) (ec2 := ec2) (ec3 := ec3) (em0 := em0) (em1 := em1) (em2 := em2) (em3 := em3) (em4 := em4), (gs_ne (gs_ne (gs_ne (gs_ne (gs_ne (gs_ne zh72 (by decide)) (by decide)) (by decide)) (by decide)) (by decide)) (by decide)), by simp [zH0_len], (by decide : zH0.2 ≤ 7302250)⟩
          ·
            have em0 : x1 = 1 := Decidable.not_not.mp em0
            have em1 : ¬ x1 < 0 := by
              have l0 : (0 : Int32).toInt = 0 := by decide
              have l1 : (1 : Int32).toInt = 1 := by decide
              have l2 : (3 : Int32).toInt = 3 := by decide
              have l3 : (4 : Int32).toInt = 4 := by decide
              simp only [Int32.lt_iff_toInt_lt, Int32.le_iff_toInt_le, ← Int32.toInt_inj] at *
              omega
            have em2 : ¬ 7 < x1 := by
              have l0 : (0 : Int32).toInt = 0 := by decide
              have l1 : (1 : Int32).toInt = 1 := by decide
              have l2 : (3 : Int32).toInt = 3 := by decide
              have l3 : (4 : Int32).toInt = 4 := by decide
              have l4 : (7 : Int32).toInt = 7 := by decide
              simp only [Int32.lt_iff_toInt_lt, Int32.le_iff_toInt_le, ← Int32.toInt_inj] at *
              omega
            exact ⟨_, (((((((zH0.1.set 2 (.inl (0, 150, .inl (upd (fun _ => 0) (Int32.toNatClampNeg 0) x1)))).set 3 (.inl (0, 150, .inl (upd (fun _ => 0) (Int32.toNatClampNeg 0) x2)))).set 7 (.inl (0, 150, .inl (upd (fun _ => 0) (Int32.toNatClampNeg 0) (-1))))).set 4 (.inl (0, 150, .inl (upd (fun _ => 0) (Int32.toNatClampNeg 0) 0)))).set 5 (.inl (0, 150, .inl (upd (fun _ => 0) (Int32.toNatClampNeg 0) (-1))))).set 1 (.inr (6, [.int 0, .int 1, .int 1, .int 0, .int 0, .int 0, .int 0, .ref 2, .ref 3, .ref 4, .ref 5, .ref 6, .ref 7, .ref 8, .ref 9, .ref 10, .ref 11, .ref 12]))), zH0.2), ((((((((((((((zH0.1.set 2 (.inl (0, 150, .inl (upd (fun _ => 0) (Int32.toNatClampNeg 0) x1)))).set 3 (.inl (0, 150, .inl (upd (fun _ => 0) (Int32.toNatClampNeg 0) x2)))).set 7 (.inl (0, 150, .inl (upd (fun _ => 0) (Int32.toNatClampNeg 0) (-1))))).set 4 (.inl (0, 150, .inl (upd (fun _ => 0) (Int32.toNatClampNeg 0) 0)))).set 5 (.inl (0, 150, .inl (upd (fun _ => 0) (Int32.toNatClampNeg 0) (-1))))).set 1 (.inr (6, [.int 0, .int 1, .int 1, .int 0, .int 0, .int 0, .int 0, .ref 2, .ref 3, .ref 4, .ref 5, .ref 6, .ref 7, .ref 8, .ref 9, .ref 10, .ref 11, .ref 12]))), zH0.2).1.set 73 (.inl (0, 150, .inl (upd (fun _ => 0) (Int32.toNatClampNeg 0) x1)))).set 75 (.inl (0, 150, .inl (upd (fun _ => 0) (Int32.toNatClampNeg 0) (-1))))).set 76 (.inl (0, 150, .inl (upd (fun _ => 0) (Int32.toNatClampNeg 0) 0)))).set 77 (.inl (0, 150, .inl (upd (fun _ => 0) (Int32.toNatClampNeg 0) (-1))))).set 72 (.inr (12, (zF72.set 2 (.int 1))))).set 74 (.inl (0, 150, .inl (upd (fun _ => 0) (Int32.toNatClampNeg 0) x2)))), (((((((zH0.1.set 2 (.inl (0, 150, .inl (upd (fun _ => 0) (Int32.toNatClampNeg 0) x1)))).set 3 (.inl (0, 150, .inl (upd (fun _ => 0) (Int32.toNatClampNeg 0) x2)))).set 7 (.inl (0, 150, .inl (upd (fun _ => 0) (Int32.toNatClampNeg 0) (-1))))).set 4 (.inl (0, 150, .inl (upd (fun _ => 0) (Int32.toNatClampNeg 0) 0)))).set 5 (.inl (0, 150, .inl (upd (fun _ => 0) (Int32.toNatClampNeg 0) (-1))))).set 1 (.inr (6, [.int 0, .int 1, .int 1, .int 0, .int 0, .int 0, .int 0, .ref 2, .ref 3, .ref 4, .ref 5, .ref 6, .ref 7, .ref 8, .ref 9, .ref 10, .ref 11, .ref 12]))), zH0.2).2), fun X n d => qc2_7 (n := n + 999923) (d := d + 16) (g0 := zh0) (g1 := zh1) (g2 := zh2) (g3 := zh3) (g4 := zh4) (g5 := zh5) (g7 := zh7) (ec0 := ec0) (ec1 := ec1) (ec2 := ec2) (ec3 := ec3) (ec4 := ec4), fun X n d => qm2_7_2 (n := n + 999945) (d := d + 17) (g72 := (gs_ne (gs_ne (gs_ne (gs_ne (gs_ne (gs_ne zh72 (by decide)) (by decide)) (by decide)) (by decide)) (by decide)) (by decide))) (g73 := (gs_ne (gs_ne (gs_ne (gs_ne (gs_ne (gs_ne zh73 (by decide)) (by decide)) (by decide)) (by decide)) (by decide)) (by decide))) (g74 := (gs_ne (gs_ne (gs_ne (gs_ne (gs_ne (gs_ne zh74 (by decide)) (by decide)) (by decide)) (by decide)) (by decide)) (by decide))) (g75 := (gs_ne (gs_ne (gs_ne (gs_ne (gs_ne (gs_ne zh75 (by decide)) (by decide)) (by decide)) (by decide)) (by decide)) (by decide))) (g76 := (gs_ne (gs_ne (gs_ne (gs_ne (gs_ne (gs_ne zh76 (by decide)) (by decide)) (by decide)) (by decide)) (by decide)) (by decide))) (g77 := (gs_ne (gs_ne (gs_ne (gs_ne (gs_ne (gs_ne zh77 (by decide)) (by decide)) (by decide)) (by decide)) (by decide)) (by decide))) (ec2 := ec2) (ec3 := ec3) (em0 := em0) (em1 := em1) (em2 := em2), (gs_ne (gs_ne (gs_ne (gs_ne (gs_ne (gs_ne zh72 (by decide)) (by decide)) (by decide)) (by decide)) (by decide)) (by decide)), by simp [zH0_len], (by decide : zH0.2 ≤ 7302250)⟩
set_option maxHeartbeats 40000000 in
theorem pc_3 (x1 : Int32) (x2 : Int32)  : ∃ (v : Int32) (h1 h2 : aH), (∀ (X : aX) (n d : Nat), arun X (n + 1000000) (d + 20) zM147 0 [some (.ref 0), some (.int x1), some (.int x2)] [] zH0 = some (some (.int v), h1)) ∧ (∀ (X : aX) (n d : Nat), arun X (n + 1000000) (d + 20) zM209 0 [some (.ref 72), some (.int x1), some (.int x2)] [] h1 = some (some (.int v), h2)) ∧ h1.1[72]? = some (.inr (12, zF72)) ∧ h2.1.length ≤ 600000 ∧ h2.2 ≤ 7302250 := by
  by_cases ec0 : x1 < 0
  ·
    exact ⟨_, zH0, zH0, fun X n d => qc3_0 (n := n + 999991) (d := d + 18) (ec0 := ec0), fun X n d => qm3_0_0 (n := n + 999991) (d := d + 18) (ec0 := ec0), zh72, by simp [zH0_len], (by decide : zH0.2 ≤ 7302250)⟩
  ·
    by_cases ec1 : 24 < x1
    ·
      exact ⟨_, zH0, zH0, fun X n d => qc3_1 (n := n + 999988) (d := d + 18) (ec0 := ec0) (ec1 := ec1), fun X n d => qm3_1_0 (n := n + 999988) (d := d + 18) (ec0 := ec0) (ec1 := ec1), zh72, by simp [zH0_len], (by decide : zH0.2 ≤ 7302250)⟩
    ·
      by_cases ec2 : x2 < 0
      ·
        exact ⟨_, zH0, zH0, fun X n d => qc3_2 (n := n + 999986) (d := d + 18) (ec0 := ec0) (ec1 := ec1) (ec2 := ec2), fun X n d => qm3_2_0 (n := n + 999986) (d := d + 18) (ec0 := ec0) (ec1 := ec1) (ec2 := ec2), zh72, by simp [zH0_len], (by decide : zH0.2 ≤ 7302250)⟩
      ·
        by_cases ec3 : 24 < x2
        ·
          exact ⟨_, zH0, zH0, fun X n d => qc3_3 (n := n + 999983) (d := d + 18) (ec0 := ec0) (ec1 := ec1) (ec2 := ec2) (ec3 := ec3), fun X n d => qm3_3_0 (n := n + 999983) (d := d + 18) (ec0 := ec0) (ec1 := ec1) (ec2 := ec2) (ec3 := ec3), zh72, by simp [zH0_len], (by decide : zH0.2 ≤ 7302250)⟩
        ·
          exact ⟨_, ((((zH0.1.set 14 (.inl (0, 12, .inl (upd (fun _ => 0) (Int32.toNatClampNeg 0) x1)))).set 15 (.inl (0, 12, .inl (upd (fun _ => 0) (Int32.toNatClampNeg 0) x2)))).set 13 (.inr (7, [.ref 14, .ref 15, .int 1]))), zH0.2), ((((((((zH0.1.set 14 (.inl (0, 12, .inl (upd (fun _ => 0) (Int32.toNatClampNeg 0) x1)))).set 15 (.inl (0, 12, .inl (upd (fun _ => 0) (Int32.toNatClampNeg 0) x2)))).set 13 (.inr (7, [.ref 14, .ref 15, .int 1]))), zH0.2).1.set 81 (.inl (0, 12, .inl (upd (fun _ => 0) (Int32.toNatClampNeg 0) x1)))).set 82 (.inl (0, 12, .inl (upd (fun _ => 0) (Int32.toNatClampNeg 0) x2)))).set 72 (.inr (12, (zF72.set 11 (.int 1))))), ((((zH0.1.set 14 (.inl (0, 12, .inl (upd (fun _ => 0) (Int32.toNatClampNeg 0) x1)))).set 15 (.inl (0, 12, .inl (upd (fun _ => 0) (Int32.toNatClampNeg 0) x2)))).set 13 (.inr (7, [.ref 14, .ref 15, .int 1]))), zH0.2).2), fun X n d => qc3_4 (n := n + 999955) (d := d + 18) (g0 := zh0) (g13 := zh13) (g14 := zh14) (g15 := zh15) (ec0 := ec0) (ec1 := ec1) (ec2 := ec2) (ec3 := ec3), fun X n d => qm3_4_0 (n := n + 999965) (d := d + 18) (g72 := (gs_ne (gs_ne (gs_ne zh72 (by decide)) (by decide)) (by decide))) (g81 := (gs_ne (gs_ne (gs_ne zh81 (by decide)) (by decide)) (by decide))) (g82 := (gs_ne (gs_ne (gs_ne zh82 (by decide)) (by decide)) (by decide))) (ec0 := ec0) (ec1 := ec1) (ec2 := ec2) (ec3 := ec3), (gs_ne (gs_ne (gs_ne zh72 (by decide)) (by decide)) (by decide)), by simp [zH0_len], (by decide : zH0.2 ≤ 7302250)⟩
set_option maxHeartbeats 40000000 in
theorem pc_4  : ∃ (v : Int32) (h1 h2 : aH), (∀ (X : aX) (n d : Nat), arun X (n + 1000000) (d + 20) zM148 0 [some (.ref 0), none] [] zH0 = some (some (.int v), h1)) ∧ (∀ (X : aX) (n d : Nat), arun X (n + 1000000) (d + 20) zM210 0 [some (.ref 72), none] [] h1 = some (some (.int v), h2)) ∧ h1.1[72]? = some (.inr (12, zF72)) ∧ h2.1.length ≤ 600000 ∧ h2.2 ≤ 7302250 := by
  exact ⟨_, ((zH0.1.set 13 (.inr (7, [.ref 14, .ref 15, .int 0]))), zH0.2), ((((zH0.1.set 13 (.inr (7, [.ref 14, .ref 15, .int 0]))), zH0.2).1.set 72 (.inr (12, (zF72.set 11 (.int 0))))), ((zH0.1.set 13 (.inr (7, [.ref 14, .ref 15, .int 0]))), zH0.2).2), fun X n d => qc4_0 (n := n + 999990) (d := d + 19) (g0 := zh0) (g13 := zh13), fun X n d => qm4_0_0 (n := n + 999992) (d := d + 19) (g72 := (gs_ne zh72 (by decide))), (gs_ne zh72 (by decide)), by simp [zH0_len], (by decide : zH0.2 ≤ 7302250)⟩
set_option maxHeartbeats 40000000 in
theorem pc_5  : ∃ (v : Int32) (h1 h2 : aH), (∀ (X : aX) (n d : Nat), arun X (n + 1000000) (d + 20) zM149 0 [some (.ref 0)] [] zH0 = some (some (.int v), h1)) ∧ (∀ (X : aX) (n d : Nat), arun X (n + 1000000) (d + 20) zM220 0 [some (.ref 72)] [] h1 = some (some (.int v), h2)) ∧ h1.1[72]? = some (.inr (12, zF72)) ∧ h2.1.length ≤ 600000 ∧ h2.2 ≤ 7302250 := by
  exact ⟨_, zH0, zH0, fun X n d => qc5_0 (n := n + 999991) (d := d + 18) (g0 := zh0) (g13 := zh13), fun X n d => qm5_0_0 (n := n + 999992) (d := d + 18) (g72 := zh72), zh72, by simp [zH0_len], (by decide : zH0.2 ≤ 7302250)⟩
set_option maxHeartbeats 40000000 in
theorem pc_6 (x1 : Int32) (x2 : Int32)  : ∃ (v : Int32) (h1 h2 : aH), (∀ (X : aX) (n d : Nat), arun X (n + 1000000) (d + 20) zM150 0 [some (.ref 0), some (.int x1), some (.int x2), none] [] zH0 = some (some (.int v), h1)) ∧ (∀ (X : aX) (n d : Nat), arun X (n + 1000000) (d + 20) zM222 0 [some (.ref 72), some (.int x1), some (.int x2), none, none, none, none] [] h1 = some (some (.int v), h2)) ∧ h1.1[72]? = some (.inr (12, zF72)) ∧ h2.1.length ≤ 600000 ∧ h2.2 ≤ 7302250 := by
  by_cases ec0 : x1 < 0
  ·
    exact ⟨_, zH0, zH0, fun X n d => qc6_0 (n := n + 999981) (d := d + 16) (g0 := zh0) (g1 := zh1) (ec0 := ec0), fun X n d => qm6_0_0 (n := n + 999982) (d := d + 16) (g72 := zh72) (ec0 := ec0), zh72, by simp [zH0_len], (by decide : zH0.2 ≤ 7302250)⟩
  ·
    have ec1 : (-1) < x1 := by
      have l0 : ((-1) : Int32).toInt = -1 := by decide
      have l1 : (0 : Int32).toInt = 0 := by decide
      simp only [Int32.lt_iff_toInt_lt, Int32.le_iff_toInt_le, ← Int32.toInt_inj] at *
      omega
    exact ⟨_, zH0, zH0, fun X n d => qc6_1 (n := n + 999978) (d := d + 16) (g0 := zh0) (g1 := zh1) (ec0 := ec0) (ec1 := ec1), fun X n d => qm6_1_0 (n := n + 999979) (d := d + 16) (g72 := zh72) (ec0 := ec0) (ec1 := ec1), zh72, by simp [zH0_len], (by decide : zH0.2 ≤ 7302250)⟩
set_option maxHeartbeats 40000000 in
theorem pc_7 (x1 : Int32)  : ∃ (v : Int32) (h1 h2 : aH), (∀ (X : aX) (n d : Nat), arun X (n + 1000000) (d + 20) zM151 0 [some (.ref 0), some (.int x1)] [] zH0 = some (some (.int v), h1)) ∧ (∀ (X : aX) (n d : Nat), arun X (n + 1000000) (d + 20) zM208 0 [some (.ref 72), some (.int x1), none] [] h1 = some (some (.int v), h2)) ∧ h1.1[72]? = some (.inr (12, zF72)) ∧ h2.1.length ≤ 600000 ∧ h2.2 ≤ 7302250 := by
  by_cases ec0 : x1 < 1
  ·
    exact ⟨_, zH0, zH0, fun X n d => qc7_0 (n := n + 999991) (d := d + 18) (ec0 := ec0), fun X n d => qm7_0_0 (n := n + 999991) (d := d + 18) (ec0 := ec0), zh72, by simp [zH0_len], (by decide : zH0.2 ≤ 7302250)⟩
  ·
    by_cases ec1 : 999 < x1
    ·
      exact ⟨_, zH0, zH0, fun X n d => qc7_1 (n := n + 999988) (d := d + 18) (ec0 := ec0) (ec1 := ec1), fun X n d => qm7_1_0 (n := n + 999988) (d := d + 18) (ec0 := ec0) (ec1 := ec1), zh72, by simp [zH0_len], (by decide : zH0.2 ≤ 7302250)⟩
    ·
      exact ⟨_, (((((((((zH0.1.set 2 (.inl (0, 150, .inl (upd (fun _ => 0) (Int32.toNatClampNeg 0) 6)))).set 3 (.inl (0, 150, .inl (upd (fun _ => 0) (Int32.toNatClampNeg 0) x1)))).set 7 (.inl (0, 150, .inl (upd (fun _ => 0) (Int32.toNatClampNeg 0) (-1))))).set 4 (.inl (0, 150, .inl (upd (fun _ => 0) (Int32.toNatClampNeg 0) 0)))).set 5 (.inl (0, 150, .inl (upd (fun _ => 0) (Int32.toNatClampNeg 0) (-1))))).set 1 (.inr (6, [.int 0, .int 1, .int 0, .int 0, .int 0, .int 0, .int 0, .ref 2, .ref 3, .ref 4, .ref 5, .ref 6, .ref 7, .ref 8, .ref 9, .ref 10, .ref 11, .ref 12]))).set 6 (.inl (0, 150, .inl (upd (fun _ => 0) (Int32.toNatClampNeg 0) 0)))).set 1 (.inr (6, [.int 0, .int 1, .int 0, .int 0, .int 1, .int 0, .int 0, .ref 2, .ref 3, .ref 4, .ref 5, .ref 6, .ref 7, .ref 8, .ref 9, .ref 10, .ref 11, .ref 12]))), zH0.2), ((((((((((((((((zH0.1.set 2 (.inl (0, 150, .inl (upd (fun _ => 0) (Int32.toNatClampNeg 0) 6)))).set 3 (.inl (0, 150, .inl (upd (fun _ => 0) (Int32.toNatClampNeg 0) x1)))).set 7 (.inl (0, 150, .inl (upd (fun _ => 0) (Int32.toNatClampNeg 0) (-1))))).set 4 (.inl (0, 150, .inl (upd (fun _ => 0) (Int32.toNatClampNeg 0) 0)))).set 5 (.inl (0, 150, .inl (upd (fun _ => 0) (Int32.toNatClampNeg 0) (-1))))).set 1 (.inr (6, [.int 0, .int 1, .int 0, .int 0, .int 0, .int 0, .int 0, .ref 2, .ref 3, .ref 4, .ref 5, .ref 6, .ref 7, .ref 8, .ref 9, .ref 10, .ref 11, .ref 12]))).set 6 (.inl (0, 150, .inl (upd (fun _ => 0) (Int32.toNatClampNeg 0) 0)))).set 1 (.inr (6, [.int 0, .int 1, .int 0, .int 0, .int 1, .int 0, .int 0, .ref 2, .ref 3, .ref 4, .ref 5, .ref 6, .ref 7, .ref 8, .ref 9, .ref 10, .ref 11, .ref 12]))), zH0.2).1.set 73 (.inl (0, 150, .inl (upd (fun _ => 0) (Int32.toNatClampNeg 0) 6)))).set 75 (.inl (0, 150, .inl (upd (fun _ => 0) (Int32.toNatClampNeg 0) (-1))))).set 76 (.inl (0, 150, .inl (upd (fun _ => 0) (Int32.toNatClampNeg 0) 0)))).set 77 (.inl (0, 150, .inl (upd (fun _ => 0) (Int32.toNatClampNeg 0) (-1))))).set 72 (.inr (12, (zF72.set 2 (.int 1))))).set 79 (.inl (0, 150, .inl (upd (fun _ => 0) (Int32.toNatClampNeg 0) x1)))), (((((((((zH0.1.set 2 (.inl (0, 150, .inl (upd (fun _ => 0) (Int32.toNatClampNeg 0) 6)))).set 3 (.inl (0, 150, .inl (upd (fun _ => 0) (Int32.toNatClampNeg 0) x1)))).set 7 (.inl (0, 150, .inl (upd (fun _ => 0) (Int32.toNatClampNeg 0) (-1))))).set 4 (.inl (0, 150, .inl (upd (fun _ => 0) (Int32.toNatClampNeg 0) 0)))).set 5 (.inl (0, 150, .inl (upd (fun _ => 0) (Int32.toNatClampNeg 0) (-1))))).set 1 (.inr (6, [.int 0, .int 1, .int 0, .int 0, .int 0, .int 0, .int 0, .ref 2, .ref 3, .ref 4, .ref 5, .ref 6, .ref 7, .ref 8, .ref 9, .ref 10, .ref 11, .ref 12]))).set 6 (.inl (0, 150, .inl (upd (fun _ => 0) (Int32.toNatClampNeg 0) 0)))).set 1 (.inr (6, [.int 0, .int 1, .int 0, .int 0, .int 1, .int 0, .int 0, .ref 2, .ref 3, .ref 4, .ref 5, .ref 6, .ref 7, .ref 8, .ref 9, .ref 10, .ref 11, .ref 12]))), zH0.2).2), fun X n d => qc7_2 (n := n + 999922) (d := d + 15) (g0 := zh0) (g1 := zh1) (g2 := zh2) (g3 := zh3) (g4 := zh4) (g5 := zh5) (g6 := zh6) (g7 := zh7) (ec0 := ec0) (ec1 := ec1), fun X n d => qm7_2_0 (n := n + 999952) (d := d + 18) (g72 := (gs_ne (gs_ne (gs_ne (gs_ne (gs_ne (gs_ne (gs_ne (gs_ne zh72 (by decide)) (by decide)) (by decide)) (by decide)) (by decide)) (by decide)) (by decide)) (by decide))) (g73 := (gs_ne (gs_ne (gs_ne (gs_ne (gs_ne (gs_ne (gs_ne (gs_ne zh73 (by decide)) (by decide)) (by decide)) (by decide)) (by decide)) (by decide)) (by decide)) (by decide))) (g75 := (gs_ne (gs_ne (gs_ne (gs_ne (gs_ne (gs_ne (gs_ne (gs_ne zh75 (by decide)) (by decide)) (by decide)) (by decide)) (by decide)) (by decide)) (by decide)) (by decide))) (g76 := (gs_ne (gs_ne (gs_ne (gs_ne (gs_ne (gs_ne (gs_ne (gs_ne zh76 (by decide)) (by decide)) (by decide)) (by decide)) (by decide)) (by decide)) (by decide)) (by decide))) (g77 := (gs_ne (gs_ne (gs_ne (gs_ne (gs_ne (gs_ne (gs_ne (gs_ne zh77 (by decide)) (by decide)) (by decide)) (by decide)) (by decide)) (by decide)) (by decide)) (by decide))) (g79 := (gs_ne (gs_ne (gs_ne (gs_ne (gs_ne (gs_ne (gs_ne (gs_ne zh79 (by decide)) (by decide)) (by decide)) (by decide)) (by decide)) (by decide)) (by decide)) (by decide))) (ec0 := ec0) (ec1 := ec1), (gs_ne (gs_ne (gs_ne (gs_ne (gs_ne (gs_ne (gs_ne (gs_ne zh72 (by decide)) (by decide)) (by decide)) (by decide)) (by decide)) (by decide)) (by decide)) (by decide)), by simp [zH0_len], (by decide : zH0.2 ≤ 7302250)⟩
set_option maxHeartbeats 40000000 in
theorem pc_8 (x1 : Int32) (x2 : Int32)  : ∃ (v : Int32) (h1 h2 : aH), (∀ (X : aX) (n d : Nat), arun X (n + 1000000) (d + 20) zM152 0 [some (.ref 0), some (.int x1), some (.int x2), none, none] [] zH0 = some (some (.int v), h1)) ∧ (∀ (X : aX) (n d : Nat), arun X (n + 1000000) (d + 20) zM228 0 [some (.ref 72), some (.int x1), some (.int x2)] [] h1 = some (some (.int v), h2)) ∧ h1.1[72]? = some (.inr (12, zF72)) ∧ h2.1.length ≤ 600000 ∧ h2.2 ≤ 7302250 := by
  by_cases ec0 : x1 < 0
  ·
    exact ⟨_, zH0, zH0, fun X n d => qc8_0 (n := n + 999984) (d := d + 17) (g0 := zh0) (g1 := zh1) (ec0 := ec0), fun X n d => qm8_0_0 (n := n + 999985) (d := d + 17) (g72 := zh72) (ec0 := ec0), zh72, by simp [zH0_len], (by decide : zH0.2 ≤ 7302250)⟩
  ·
    have ec1 : (-1) < x1 := by
      have l0 : ((-1) : Int32).toInt = -1 := by decide
      have l1 : (0 : Int32).toInt = 0 := by decide
      simp only [Int32.lt_iff_toInt_lt, Int32.le_iff_toInt_le, ← Int32.toInt_inj] at *
      omega
    exact ⟨_, zH0, zH0, fun X n d => qc8_1 (n := n + 999981) (d := d + 17) (g0 := zh0) (g1 := zh1) (ec0 := ec0) (ec1 := ec1), fun X n d => qm8_1_0 (n := n + 999982) (d := d + 17) (g72 := zh72) (ec0 := ec0) (ec1 := ec1), zh72, by simp [zH0_len], (by decide : zH0.2 ≤ 7302250)⟩
set_option maxHeartbeats 40000000 in
theorem pc_9 (x1 : Int32) (x2 : Int32) (x3 : Int32)  : ∃ (v : Int32) (h1 h2 : aH), (∀ (X : aX) (n d : Nat), arun X (n + 1000000) (d + 20) zM153 0 [some (.ref 0), some (.int x1), some (.int x2), some (.int x3)] [] zH0 = some (some (.int v), h1)) ∧ (∀ (X : aX) (n d : Nat), arun X (n + 1000000) (d + 20) zM223 0 [some (.ref 72), some (.int x1), some (.int x2), some (.int x3)] [] h1 = some (some (.int v), h2)) ∧ h1.1[72]? = some (.inr (12, zF72)) ∧ h2.1.length ≤ 600000 ∧ h2.2 ≤ 7302250 := by
  by_cases ec0 : x1 < 0
  ·
    exact ⟨_, zH0, zH0, fun X n d => qc9_0 (n := n + 999981) (d := d + 16) (g0 := zh0) (g1 := zh1) (ec0 := ec0), fun X n d => qm9_0_0 (n := n + 999982) (d := d + 16) (g72 := zh72) (ec0 := ec0), zh72, by simp [zH0_len], (by decide : zH0.2 ≤ 7302250)⟩
  ·
    have ec1 : (-1) < x1 := by
      have l0 : ((-1) : Int32).toInt = -1 := by decide
      have l1 : (0 : Int32).toInt = 0 := by decide
      simp only [Int32.lt_iff_toInt_lt, Int32.le_iff_toInt_le, ← Int32.toInt_inj] at *
      omega
    exact ⟨_, zH0, zH0, fun X n d => qc9_1 (n := n + 999978) (d := d + 16) (g0 := zh0) (g1 := zh1) (ec0 := ec0) (ec1 := ec1), fun X n d => qm9_1_0 (n := n + 999979) (d := d + 16) (g72 := zh72) (ec0 := ec0) (ec1 := ec1), zh72, by simp [zH0_len], (by decide : zH0.2 ≤ 7302250)⟩
set_option maxHeartbeats 40000000 in
theorem pc_10 (x1 : Int32)  : ∃ (v : Int32) (h1 h2 : aH), (∀ (X : aX) (n d : Nat), arun X (n + 1000000) (d + 20) zM154 0 [some (.ref 0), some (.int x1)] [] zH0 = some (some (.int v), h1)) ∧ (∀ (X : aX) (n d : Nat), arun X (n + 1000000) (d + 20) zM224 0 [some (.ref 72), some (.int x1)] [] h1 = some (some (.int v), h2)) ∧ h1.1[72]? = some (.inr (12, zF72)) ∧ h2.1.length ≤ 600000 ∧ h2.2 ≤ 7302250 := by
  by_cases ec0 : x1 < 0
  ·
    exact ⟨_, zH0, zH0, fun X n d => qc10_0 (n := n + 999981) (d := d + 16) (g0 := zh0) (g1 := zh1) (ec0 := ec0), fun X n d => qm10_0_0 (n := n + 999982) (d := d + 16) (g72 := zh72) (ec0 := ec0), zh72, by simp [zH0_len], (by decide : zH0.2 ≤ 7302250)⟩
  ·
    have ec1 : (-1) < x1 := by
      have l0 : ((-1) : Int32).toInt = -1 := by decide
      have l1 : (0 : Int32).toInt = 0 := by decide
      simp only [Int32.lt_iff_toInt_lt, Int32.le_iff_toInt_le, ← Int32.toInt_inj] at *
      omega
    exact ⟨_, zH0, zH0, fun X n d => qc10_1 (n := n + 999978) (d := d + 16) (g0 := zh0) (g1 := zh1) (ec0 := ec0) (ec1 := ec1), fun X n d => qm10_1_0 (n := n + 999979) (d := d + 16) (g72 := zh72) (ec0 := ec0) (ec1 := ec1), zh72, by simp [zH0_len], (by decide : zH0.2 ≤ 7302250)⟩
set_option maxHeartbeats 40000000 in
theorem pc_11 (x1 : Int32) (x2 : Int32) (x3 : Int32)  : ∃ (v : Int32) (h1 h2 : aH), (∀ (X : aX) (n d : Nat), arun X (n + 1000000) (d + 20) zM155 0 [some (.ref 0), some (.int x1), some (.int x2), some (.int x3)] [] zH0 = some (some (.int v), h1)) ∧ (∀ (X : aX) (n d : Nat), arun X (n + 1000000) (d + 20) zM225 0 [some (.ref 72), some (.int x1), some (.int x2), some (.int x3)] [] h1 = some (some (.int v), h2)) ∧ h1.1[72]? = some (.inr (12, zF72)) ∧ h2.1.length ≤ 600000 ∧ h2.2 ≤ 7302250 := by
  by_cases ec0 : x1 < 0
  ·
    exact ⟨_, zH0, zH0, fun X n d => qc11_0 (n := n + 999981) (d := d + 16) (g0 := zh0) (g1 := zh1) (ec0 := ec0), fun X n d => qm11_0_0 (n := n + 999985) (d := d + 17) (g72 := zh72) (ec0 := ec0), zh72, by simp [zH0_len], (by decide : zH0.2 ≤ 7302250)⟩
  ·
    have ec1 : (-1) < x1 := by
      have l0 : ((-1) : Int32).toInt = -1 := by decide
      have l1 : (0 : Int32).toInt = 0 := by decide
      simp only [Int32.lt_iff_toInt_lt, Int32.le_iff_toInt_le, ← Int32.toInt_inj] at *
      omega
    exact ⟨_, zH0, zH0, fun X n d => qc11_1 (n := n + 999978) (d := d + 16) (g0 := zh0) (g1 := zh1) (ec0 := ec0) (ec1 := ec1), fun X n d => qm11_1_0 (n := n + 999982) (d := d + 17) (g72 := zh72) (ec0 := ec0) (ec1 := ec1), zh72, by simp [zH0_len], (by decide : zH0.2 ≤ 7302250)⟩
set_option maxHeartbeats 40000000 in
theorem pc_12 (x1 : Int32) (x2 : Int32) (x3 : Int32)  : ∃ (v : Int32) (h1 h2 : aH), (∀ (X : aX) (n d : Nat), arun X (n + 1000000) (d + 20) zM156 0 [some (.ref 0), some (.int x1), some (.int x2), some (.int x3), none] [] zH0 = some (some (.int v), h1)) ∧ (∀ (X : aX) (n d : Nat), arun X (n + 1000000) (d + 20) zM227 0 [some (.ref 72), some (.int x1), some (.int x2), some (.int x3), none] [] h1 = some (some (.int v), h2)) ∧ h1.1[72]? = some (.inr (12, zF72)) ∧ h2.1.length ≤ 600000 ∧ h2.2 ≤ 7302250 := by
  by_cases ec0 : x1 < 0
  ·
    exact ⟨_, zH0, zH0, fun X n d => qc12_0 (n := n + 999981) (d := d + 16) (g0 := zh0) (g1 := zh1) (ec0 := ec0), fun X n d => qm12_0_0 (n := n + 999985) (d := d + 17) (g72 := zh72) (ec0 := ec0), zh72, by simp [zH0_len], (by decide : zH0.2 ≤ 7302250)⟩
  ·
    have ec1 : (-1) < x1 := by
      have l0 : ((-1) : Int32).toInt = -1 := by decide
      have l1 : (0 : Int32).toInt = 0 := by decide
      simp only [Int32.lt_iff_toInt_lt, Int32.le_iff_toInt_le, ← Int32.toInt_inj] at *
      omega
    exact ⟨_, zH0, zH0, fun X n d => qc12_1 (n := n + 999978) (d := d + 16) (g0 := zh0) (g1 := zh1) (ec0 := ec0) (ec1 := ec1), fun X n d => qm12_1_0 (n := n + 999982) (d := d + 17) (g72 := zh72) (ec0 := ec0) (ec1 := ec1), zh72, by simp [zH0_len], (by decide : zH0.2 ≤ 7302250)⟩
set_option maxHeartbeats 40000000 in
theorem pc_13 (x1 : Int32) (x2 : Int32) (x3 : Int32)  : ∃ (v : Int32) (h1 h2 : aH), (∀ (X : aX) (n d : Nat), arun X (n + 1000000) (d + 20) zM157 0 [some (.ref 0), some (.int x1), some (.int x2), some (.int x3)] [] zH0 = some (some (.int v), h1)) ∧ (∀ (X : aX) (n d : Nat), arun X (n + 1000000) (d + 20) zM230 0 [some (.ref 72), some (.int x1), some (.int x2), some (.int x3)] [] h1 = some (some (.int v), h2)) ∧ h1.1[72]? = some (.inr (12, zF72)) ∧ h2.1.length ≤ 600000 ∧ h2.2 ≤ 7302250 := by
  by_cases ec0 : x1 < 0
  ·
    exact ⟨_, zH0, zH0, fun X n d => qc13_0 (n := n + 999981) (d := d + 16) (g0 := zh0) (g1 := zh1) (ec0 := ec0), fun X n d => qm13_0_0 (n := n + 999982) (d := d + 16) (g72 := zh72) (ec0 := ec0), zh72, by simp [zH0_len], (by decide : zH0.2 ≤ 7302250)⟩
  ·
    have ec1 : (-1) < x1 := by
      have l0 : ((-1) : Int32).toInt = -1 := by decide
      have l1 : (0 : Int32).toInt = 0 := by decide
      simp only [Int32.lt_iff_toInt_lt, Int32.le_iff_toInt_le, ← Int32.toInt_inj] at *
      omega
    exact ⟨_, zH0, zH0, fun X n d => qc13_1 (n := n + 999978) (d := d + 16) (g0 := zh0) (g1 := zh1) (ec0 := ec0) (ec1 := ec1), fun X n d => qm13_1_0 (n := n + 999979) (d := d + 16) (g72 := zh72) (ec0 := ec0) (ec1 := ec1), zh72, by simp [zH0_len], (by decide : zH0.2 ≤ 7302250)⟩
set_option maxHeartbeats 40000000 in
theorem pc_14 (x1 : Int32) (x2 : Int32)  : ∃ (v : Int32) (h1 h2 : aH), (∀ (X : aX) (n d : Nat), arun X (n + 1000000) (d + 20) zM158 0 [some (.ref 0), some (.int x1), some (.int x2), none] [] zH0 = some (some (.int v), h1)) ∧ (∀ (X : aX) (n d : Nat), arun X (n + 1000000) (d + 20) zM231 0 [some (.ref 72), some (.int x1), some (.int x2), none] [] h1 = some (some (.int v), h2)) ∧ h1.1[72]? = some (.inr (12, zF72)) ∧ h2.1.length ≤ 600000 ∧ h2.2 ≤ 7302250 := by
  by_cases ec0 : x1 < 0
  ·
    exact ⟨_, zH0, zH0, fun X n d => qc14_0 (n := n + 999989) (d := d + 17) (ec0 := ec0), fun X n d => qm14_0_0 (n := n + 999989) (d := d + 17) (ec0 := ec0), zh72, by simp [zH0_len], (by decide : zH0.2 ≤ 7302250)⟩
  ·
    by_cases ec1 : 3 < x1
    ·
      exact ⟨_, zH0, zH0, fun X n d => qc14_1 (n := n + 999986) (d := d + 17) (ec0 := ec0) (ec1 := ec1), fun X n d => qm14_1_0 (n := n + 999986) (d := d + 17) (ec0 := ec0) (ec1 := ec1), zh72, by simp [zH0_len], (by decide : zH0.2 ≤ 7302250)⟩
    ·
      by_cases ec2 : x2 < 0
      ·
        exact ⟨_, zH0, zH0, fun X n d => qc14_2 (n := n + 999985) (d := d + 17) (ec0 := ec0) (ec1 := ec1) (ec2 := ec2), fun X n d => qm14_2_0 (n := n + 999985) (d := d + 17) (ec0 := ec0) (ec1 := ec1) (ec2 := ec2), zh72, by simp [zH0_len], (by decide : zH0.2 ≤ 7302250)⟩
      ·
        by_cases ec3 : 364 < x2
        ·
          exact ⟨_, zH0, zH0, fun X n d => qc14_3 (n := n + 999985) (d := d + 17) (ec0 := ec0) (ec1 := ec1) (ec2 := ec2) (ec3 := ec3), fun X n d => qm14_3_0 (n := n + 999985) (d := d + 17) (ec0 := ec0) (ec1 := ec1) (ec2 := ec2) (ec3 := ec3), zh72, by simp [zH0_len], (by decide : zH0.2 ≤ 7302250)⟩
        ·
          have jc0 : ¬ (x1 < 0 ∨ 4 ≤ Int32.toNatClampNeg x1) := vp_in_iff.mpr (by
            have l0 : (0 : Int32).toInt = 0 := by decide
            have l1 : (3 : Int32).toInt = 3 := by decide
            have l2 : (364 : Int32).toInt = 364 := by decide
            simp only [Int32.lt_iff_toInt_lt, Int32.le_iff_toInt_le, ← Int32.toInt_inj] at *
            omega)
          have jm0 : ¬ (x1 < 0 ∨ 4 ≤ Int32.toNatClampNeg x1) := vp_in_iff.mpr (by
            have l0 : (0 : Int32).toInt = 0 := by decide
            have l1 : (3 : Int32).toInt = 3 := by decide
            have l2 : (364 : Int32).toInt = 364 := by decide
            simp only [Int32.lt_iff_toInt_lt, Int32.le_iff_toInt_le, ← Int32.toInt_inj] at *
            omega)
          exact ⟨_, ((zH0.1.set 22 (.inl (0, 4, .inl (upd (fun _ => 135) (Int32.toNatClampNeg x1) x2)))), zH0.2), ((((zH0.1.set 22 (.inl (0, 4, .inl (upd (fun _ => 135) (Int32.toNatClampNeg x1) x2)))), zH0.2).1.set 91 (.inl (0, 4, .inl (upd (fun _ => 135) (Int32.toNatClampNeg x1) x2)))), ((zH0.1.set 22 (.inl (0, 4, .inl (upd (fun _ => 135) (Int32.toNatClampNeg x1) x2)))), zH0.2).2), fun X n d => qc14_4 (n := n + 999978) (d := d + 17) (g0 := zh0) (g16 := zh16) (g22 := zh22) (ec0 := ec0) (ec1 := ec1) (ec2 := ec2) (ec3 := ec3) (jc0 := jc0), fun X n d => qm14_4_0 (n := n + 999980) (d := d + 17) (g72 := (gs_ne zh72 (by decide))) (g91 := (gs_ne zh91 (by decide))) (ec0 := ec0) (ec1 := ec1) (ec2 := ec2) (ec3 := ec3) (jm0 := jm0), (gs_ne zh72 (by decide)), by simp [zH0_len], (by decide : zH0.2 ≤ 7302250)⟩
set_option maxHeartbeats 40000000 in
theorem pc_15 (x1 : Int32) (x2 : Int32) (x3 : Int32)  : ∃ (v : Int32) (h1 h2 : aH), (∀ (X : aX) (n d : Nat), arun X (n + 1000000) (d + 20) zM159 0 [some (.ref 0), some (.int x1), some (.int x2), some (.int x3), none, none, none, none] [] zH0 = some (some (.int v), h1)) ∧ (∀ (X : aX) (n d : Nat), arun X (n + 1000000) (d + 20) zM232 0 [some (.ref 72), some (.int x1), some (.int x2), some (.int x3)] [] h1 = some (some (.int v), h2)) ∧ h1.1[72]? = some (.inr (12, zF72)) ∧ h2.1.length ≤ 600000 ∧ h2.2 ≤ 7302250 := by
  by_cases ec0 : x1 < 0
  ·
    exact ⟨_, zH0, zH0, fun X n d => qc15_0 (n := n + 999996) (d := d + 19) (ec0 := ec0), fun X n d => qm15_0_0 (n := n + 999996) (d := d + 19) (ec0 := ec0), zh72, by simp [zH0_len], (by decide : zH0.2 ≤ 7302250)⟩
  ·
    by_cases ec1 : x2 < 0
    ·
      exact ⟨_, zH0, zH0, fun X n d => qc15_1 (n := n + 999994) (d := d + 19) (ec0 := ec0) (ec1 := ec1), fun X n d => qm15_1_0 (n := n + 999994) (d := d + 19) (ec0 := ec0) (ec1 := ec1), zh72, by simp [zH0_len], (by decide : zH0.2 ≤ 7302250)⟩
    ·
      by_cases ec2 : x3 < 0
      ·
        by_cases em0 : (x1 / 100) < 0
        ·
          exact ⟨_, zH0, zH0, fun X n d => qc15_2 (n := n + 999985) (d := d + 17) (ec0 := ec0) (ec1 := ec1) (ec2 := ec2), fun X n d => qm15_2_0 (n := n + 999985) (d := d + 18) (ec0 := ec0) (ec1 := ec1) (em0 := em0), zh72, by simp [zH0_len], (by decide : zH0.2 ≤ 7302250)⟩
        ·
          by_cases em1 : 23 < (x1 / 100)
          ·
            exact ⟨_, zH0, zH0, fun X n d => qc15_2 (n := n + 999985) (d := d + 17) (ec0 := ec0) (ec1 := ec1) (ec2 := ec2), fun X n d => qm15_2_1 (n := n + 999982) (d := d + 18) (ec0 := ec0) (ec1 := ec1) (em0 := em0) (em1 := em1), zh72, by simp [zH0_len], (by decide : zH0.2 ≤ 7302250)⟩
          ·
            by_cases em2 : (x1 - x1 / 100 * 100) < 0
            ·
              exact ⟨_, zH0, zH0, fun X n d => qc15_2 (n := n + 999985) (d := d + 17) (ec0 := ec0) (ec1 := ec1) (ec2 := ec2), fun X n d => qm15_2_2 (n := n + 999978) (d := d + 18) (ec0 := ec0) (ec1 := ec1) (em0 := em0) (em1 := em1) (em2 := em2), zh72, by simp [zH0_len], (by decide : zH0.2 ≤ 7302250)⟩
            ·
              by_cases em3 : 23 < (x1 - x1 / 100 * 100)
              ·
                exact ⟨_, zH0, zH0, fun X n d => qc15_2 (n := n + 999985) (d := d + 17) (ec0 := ec0) (ec1 := ec1) (ec2 := ec2), fun X n d => qm15_2_3 (n := n + 999975) (d := d + 18) (ec0 := ec0) (ec1 := ec1) (em0 := em0) (em1 := em1) (em2 := em2) (em3 := em3), zh72, by simp [zH0_len], (by decide : zH0.2 ≤ 7302250)⟩
              ·
                by_cases em4 : (x2 / 100) < (x1 / 100)
                ·
                  exact ⟨_, zH0, zH0, fun X n d => qc15_2 (n := n + 999985) (d := d + 17) (ec0 := ec0) (ec1 := ec1) (ec2 := ec2), fun X n d => qm15_2_4 (n := n + 999969) (d := d + 18) (ec0 := ec0) (ec1 := ec1) (em0 := em0) (em1 := em1) (em2 := em2) (em3 := em3) (em4 := em4), zh72, by simp [zH0_len], (by decide : zH0.2 ≤ 7302250)⟩
                ·
                  by_cases em5 : 23 < (x2 / 100)
                  ·
                    exact ⟨_, zH0, zH0, fun X n d => qc15_2 (n := n + 999985) (d := d + 17) (ec0 := ec0) (ec1 := ec1) (ec2 := ec2), fun X n d => qm15_2_5 (n := n + 999966) (d := d + 18) (ec0 := ec0) (ec1 := ec1) (em0 := em0) (em1 := em1) (em2 := em2) (em3 := em3) (em4 := em4) (em5 := em5), zh72, by simp [zH0_len], (by decide : zH0.2 ≤ 7302250)⟩
                  ·
                    by_cases em6 : (x2 - x2 / 100 * 100) < (x1 - x1 / 100 * 100)
                    ·
                      exact ⟨_, zH0, zH0, fun X n d => qc15_2 (n := n + 999985) (d := d + 17) (ec0 := ec0) (ec1 := ec1) (ec2 := ec2), fun X n d => qm15_2_6 (n := n + 999960) (d := d + 18) (ec0 := ec0) (ec1 := ec1) (em0 := em0) (em1 := em1) (em2 := em2) (em3 := em3) (em4 := em4) (em5 := em5) (em6 := em6), zh72, by simp [zH0_len], (by decide : zH0.2 ≤ 7302250)⟩
                    ·
                      by_cases em7 : 23 < (x2 - x2 / 100 * 100)
                      ·
                        exact ⟨_, zH0, zH0, fun X n d => qc15_2 (n := n + 999985) (d := d + 17) (ec0 := ec0) (ec1 := ec1) (ec2 := ec2), fun X n d => qm15_2_7 (n := n + 999957) (d := d + 18) (ec0 := ec0) (ec1 := ec1) (em0 := em0) (em1 := em1) (em2 := em2) (em3 := em3) (em4 := em4) (em5 := em5) (em6 := em6) (em7 := em7), zh72, by simp [zH0_len], (by decide : zH0.2 ≤ 7302250)⟩
                      ·
                        exact ⟨_, zH0, zH0, fun X n d => qc15_2 (n := n + 999985) (d := d + 17) (ec0 := ec0) (ec1 := ec1) (ec2 := ec2), fun X n d => qm15_2_8 (n := n + 999953) (d := d + 17) (ec0 := ec0) (ec1 := ec1) (ec2 := ec2) (em0 := em0) (em1 := em1) (em2 := em2) (em3 := em3) (em4 := em4) (em5 := em5) (em6 := em6) (em7 := em7), zh72, by simp [zH0_len], (by decide : zH0.2 ≤ 7302250)⟩
      ·
        by_cases ec3 : 3649 < x3
        ·
          by_cases em0 : (x1 / 100) < 0
          ·
            exact ⟨_, zH0, zH0, fun X n d => qc15_3 (n := n + 999982) (d := d + 17) (ec0 := ec0) (ec1 := ec1) (ec2 := ec2) (ec3 := ec3), fun X n d => qm15_3_0 (n := n + 999985) (d := d + 18) (ec0 := ec0) (ec1 := ec1) (em0 := em0), zh72, by simp [zH0_len], (by decide : zH0.2 ≤ 7302250)⟩
          ·
            by_cases em1 : 23 < (x1 / 100)
            ·
              exact ⟨_, zH0, zH0, fun X n d => qc15_3 (n := n + 999982) (d := d + 17) (ec0 := ec0) (ec1 := ec1) (ec2 := ec2) (ec3 := ec3), fun X n d => qm15_3_1 (n := n + 999982) (d := d + 18) (ec0 := ec0) (ec1 := ec1) (em0 := em0) (em1 := em1), zh72, by simp [zH0_len], (by decide : zH0.2 ≤ 7302250)⟩
            ·
              by_cases em2 : (x1 - x1 / 100 * 100) < 0
              ·
                exact ⟨_, zH0, zH0, fun X n d => qc15_3 (n := n + 999982) (d := d + 17) (ec0 := ec0) (ec1 := ec1) (ec2 := ec2) (ec3 := ec3), fun X n d => qm15_3_2 (n := n + 999978) (d := d + 18) (ec0 := ec0) (ec1 := ec1) (em0 := em0) (em1 := em1) (em2 := em2), zh72, by simp [zH0_len], (by decide : zH0.2 ≤ 7302250)⟩
              ·
                by_cases em3 : 23 < (x1 - x1 / 100 * 100)
                ·
                  exact ⟨_, zH0, zH0, fun X n d => qc15_3 (n := n + 999982) (d := d + 17) (ec0 := ec0) (ec1 := ec1) (ec2 := ec2) (ec3 := ec3), fun X n d => qm15_3_3 (n := n + 999975) (d := d + 18) (ec0 := ec0) (ec1 := ec1) (em0 := em0) (em1 := em1) (em2 := em2) (em3 := em3), zh72, by simp [zH0_len], (by decide : zH0.2 ≤ 7302250)⟩
                ·
                  by_cases em4 : (x2 / 100) < (x1 / 100)
                  ·
                    exact ⟨_, zH0, zH0, fun X n d => qc15_3 (n := n + 999982) (d := d + 17) (ec0 := ec0) (ec1 := ec1) (ec2 := ec2) (ec3 := ec3), fun X n d => qm15_3_4 (n := n + 999969) (d := d + 18) (ec0 := ec0) (ec1 := ec1) (em0 := em0) (em1 := em1) (em2 := em2) (em3 := em3) (em4 := em4), zh72, by simp [zH0_len], (by decide : zH0.2 ≤ 7302250)⟩
                  ·
                    by_cases em5 : 23 < (x2 / 100)
                    ·
                      exact ⟨_, zH0, zH0, fun X n d => qc15_3 (n := n + 999982) (d := d + 17) (ec0 := ec0) (ec1 := ec1) (ec2 := ec2) (ec3 := ec3), fun X n d => qm15_3_5 (n := n + 999966) (d := d + 18) (ec0 := ec0) (ec1 := ec1) (em0 := em0) (em1 := em1) (em2 := em2) (em3 := em3) (em4 := em4) (em5 := em5), zh72, by simp [zH0_len], (by decide : zH0.2 ≤ 7302250)⟩
                    ·
                      by_cases em6 : (x2 - x2 / 100 * 100) < (x1 - x1 / 100 * 100)
                      ·
                        exact ⟨_, zH0, zH0, fun X n d => qc15_3 (n := n + 999982) (d := d + 17) (ec0 := ec0) (ec1 := ec1) (ec2 := ec2) (ec3 := ec3), fun X n d => qm15_3_6 (n := n + 999960) (d := d + 18) (ec0 := ec0) (ec1 := ec1) (em0 := em0) (em1 := em1) (em2 := em2) (em3 := em3) (em4 := em4) (em5 := em5) (em6 := em6), zh72, by simp [zH0_len], (by decide : zH0.2 ≤ 7302250)⟩
                      ·
                        by_cases em7 : 23 < (x2 - x2 / 100 * 100)
                        ·
                          exact ⟨_, zH0, zH0, fun X n d => qc15_3 (n := n + 999982) (d := d + 17) (ec0 := ec0) (ec1 := ec1) (ec2 := ec2) (ec3 := ec3), fun X n d => qm15_3_7 (n := n + 999957) (d := d + 18) (ec0 := ec0) (ec1 := ec1) (em0 := em0) (em1 := em1) (em2 := em2) (em3 := em3) (em4 := em4) (em5 := em5) (em6 := em6) (em7 := em7), zh72, by simp [zH0_len], (by decide : zH0.2 ≤ 7302250)⟩
                        ·
                          exact ⟨_, zH0, zH0, fun X n d => qc15_3 (n := n + 999982) (d := d + 17) (ec0 := ec0) (ec1 := ec1) (ec2 := ec2) (ec3 := ec3), fun X n d => qm15_3_8 (n := n + 999950) (d := d + 17) (ec0 := ec0) (ec1 := ec1) (ec2 := ec2) (ec3 := ec3) (em0 := em0) (em1 := em1) (em2 := em2) (em3 := em3) (em4 := em4) (em5 := em5) (em6 := em6) (em7 := em7), zh72, by simp [zH0_len], (by decide : zH0.2 ≤ 7302250)⟩
        ·
          by_cases ec4 : (x2 / 100) < (x1 / 100)
          ·
            by_cases em0 : (x1 / 100) < 0
            ·
              exact ⟨_, zH0, zH0, fun X n d => qc15_4 (n := n + 999972) (d := d + 17) (ec0 := ec0) (ec1 := ec1) (ec2 := ec2) (ec3 := ec3) (ec4 := ec4), fun X n d => qm15_4_0 (n := n + 999985) (d := d + 18) (ec0 := ec0) (ec1 := ec1) (em0 := em0), zh72, by simp [zH0_len], (by decide : zH0.2 ≤ 7302250)⟩
            ·
              by_cases em1 : 23 < (x1 / 100)
              ·
                exact ⟨_, zH0, zH0, fun X n d => qc15_4 (n := n + 999972) (d := d + 17) (ec0 := ec0) (ec1 := ec1) (ec2 := ec2) (ec3 := ec3) (ec4 := ec4), fun X n d => qm15_4_1 (n := n + 999982) (d := d + 18) (ec0 := ec0) (ec1 := ec1) (em0 := em0) (em1 := em1), zh72, by simp [zH0_len], (by decide : zH0.2 ≤ 7302250)⟩
              ·
                by_cases em2 : (x1 - x1 / 100 * 100) < 0
                ·
                  exact ⟨_, zH0, zH0, fun X n d => qc15_4 (n := n + 999972) (d := d + 17) (ec0 := ec0) (ec1 := ec1) (ec2 := ec2) (ec3 := ec3) (ec4 := ec4), fun X n d => qm15_4_2 (n := n + 999978) (d := d + 18) (ec0 := ec0) (ec1 := ec1) (em0 := em0) (em1 := em1) (em2 := em2), zh72, by simp [zH0_len], (by decide : zH0.2 ≤ 7302250)⟩
                ·
                  by_cases em3 : 23 < (x1 - x1 / 100 * 100)
                  ·
                    exact ⟨_, zH0, zH0, fun X n d => qc15_4 (n := n + 999972) (d := d + 17) (ec0 := ec0) (ec1 := ec1) (ec2 := ec2) (ec3 := ec3) (ec4 := ec4), fun X n d => qm15_4_3 (n := n + 999975) (d := d + 18) (ec0 := ec0) (ec1 := ec1) (em0 := em0) (em1 := em1) (em2 := em2) (em3 := em3), zh72, by simp [zH0_len], (by decide : zH0.2 ≤ 7302250)⟩
                  ·
                    exact ⟨_, zH0, zH0, fun X n d => qc15_4 (n := n + 999972) (d := d + 17) (ec0 := ec0) (ec1 := ec1) (ec2 := ec2) (ec3 := ec3) (ec4 := ec4), fun X n d => qm15_4_4 (n := n + 999969) (d := d + 18) (ec0 := ec0) (ec1 := ec1) (ec4 := ec4) (em0 := em0) (em1 := em1) (em2 := em2) (em3 := em3), zh72, by simp [zH0_len], (by decide : zH0.2 ≤ 7302250)⟩
          ·
            by_cases ec5 : (x2 - x2 / 100 * 100) < (x1 - x1 / 100 * 100)
            ·
              by_cases em0 : (x1 / 100) < 0
              ·
                exact ⟨_, zH0, zH0, fun X n d => qc15_5 (n := n + 999969) (d := d + 17) (ec0 := ec0) (ec1 := ec1) (ec2 := ec2) (ec3 := ec3) (ec4 := ec4) (ec5 := ec5), fun X n d => qm15_5_0 (n := n + 999985) (d := d + 18) (ec0 := ec0) (ec1 := ec1) (em0 := em0), zh72, by simp [zH0_len], (by decide : zH0.2 ≤ 7302250)⟩
              ·
                by_cases em1 : 23 < (x1 / 100)
                ·
                  exact ⟨_, zH0, zH0, fun X n d => qc15_5 (n := n + 999969) (d := d + 17) (ec0 := ec0) (ec1 := ec1) (ec2 := ec2) (ec3 := ec3) (ec4 := ec4) (ec5 := ec5), fun X n d => qm15_5_1 (n := n + 999982) (d := d + 18) (ec0 := ec0) (ec1 := ec1) (em0 := em0) (em1 := em1), zh72, by simp [zH0_len], (by decide : zH0.2 ≤ 7302250)⟩
                ·
                  by_cases em2 : (x1 - x1 / 100 * 100) < 0
                  ·
                    exact ⟨_, zH0, zH0, fun X n d => qc15_5 (n := n + 999969) (d := d + 17) (ec0 := ec0) (ec1 := ec1) (ec2 := ec2) (ec3 := ec3) (ec4 := ec4) (ec5 := ec5), fun X n d => qm15_5_2 (n := n + 999978) (d := d + 18) (ec0 := ec0) (ec1 := ec1) (em0 := em0) (em1 := em1) (em2 := em2), zh72, by simp [zH0_len], (by decide : zH0.2 ≤ 7302250)⟩
                  ·
                    by_cases em3 : 23 < (x1 - x1 / 100 * 100)
                    ·
                      exact ⟨_, zH0, zH0, fun X n d => qc15_5 (n := n + 999969) (d := d + 17) (ec0 := ec0) (ec1 := ec1) (ec2 := ec2) (ec3 := ec3) (ec4 := ec4) (ec5 := ec5), fun X n d => qm15_5_3 (n := n + 999975) (d := d + 18) (ec0 := ec0) (ec1 := ec1) (em0 := em0) (em1 := em1) (em2 := em2) (em3 := em3), zh72, by simp [zH0_len], (by decide : zH0.2 ≤ 7302250)⟩
                    ·
                      by_cases em4 : 23 < (x2 / 100)
                      ·
                        exact ⟨_, zH0, zH0, fun X n d => qc15_5 (n := n + 999969) (d := d + 17) (ec0 := ec0) (ec1 := ec1) (ec2 := ec2) (ec3 := ec3) (ec4 := ec4) (ec5 := ec5), fun X n d => qm15_5_4 (n := n + 999966) (d := d + 18) (ec0 := ec0) (ec1 := ec1) (ec4 := ec4) (em0 := em0) (em1 := em1) (em2 := em2) (em3 := em3) (em4 := em4), zh72, by simp [zH0_len], (by decide : zH0.2 ≤ 7302250)⟩
                      ·
                        exact ⟨_, zH0, zH0, fun X n d => qc15_5 (n := n + 999969) (d := d + 17) (ec0 := ec0) (ec1 := ec1) (ec2 := ec2) (ec3 := ec3) (ec4 := ec4) (ec5 := ec5), fun X n d => qm15_5_5 (n := n + 999960) (d := d + 18) (ec0 := ec0) (ec1 := ec1) (ec4 := ec4) (ec5 := ec5) (em0 := em0) (em1 := em1) (em2 := em2) (em3 := em3) (em4 := em4), zh72, by simp [zH0_len], (by decide : zH0.2 ≤ 7302250)⟩
            ·
              by_cases ec6 : 24 ≤ (x2 / 100)
              ·
                by_cases em0 : (x1 / 100) < 0
                ·
                  exact ⟨_, zH0, zH0, fun X n d => qc15_6 (n := n + 999966) (d := d + 17) (ec0 := ec0) (ec1 := ec1) (ec2 := ec2) (ec3 := ec3) (ec4 := ec4) (ec5 := ec5) (ec6 := ec6), fun X n d => qm15_6_0 (n := n + 999985) (d := d + 18) (ec0 := ec0) (ec1 := ec1) (em0 := em0), zh72, by simp [zH0_len], (by decide : zH0.2 ≤ 7302250)⟩
                ·
                  by_cases em1 : 23 < (x1 / 100)
                  ·
                    exact ⟨_, zH0, zH0, fun X n d => qc15_6 (n := n + 999966) (d := d + 17) (ec0 := ec0) (ec1 := ec1) (ec2 := ec2) (ec3 := ec3) (ec4 := ec4) (ec5 := ec5) (ec6 := ec6), fun X n d => qm15_6_1 (n := n + 999982) (d := d + 18) (ec0 := ec0) (ec1 := ec1) (em0 := em0) (em1 := em1), zh72, by simp [zH0_len], (by decide : zH0.2 ≤ 7302250)⟩
                  ·
                    by_cases em2 : (x1 - x1 / 100 * 100) < 0
                    ·
                      exact ⟨_, zH0, zH0, fun X n d => qc15_6 (n := n + 999966) (d := d + 17) (ec0 := ec0) (ec1 := ec1) (ec2 := ec2) (ec3 := ec3) (ec4 := ec4) (ec5 := ec5) (ec6 := ec6), fun X n d => qm15_6_2 (n := n + 999978) (d := d + 18) (ec0 := ec0) (ec1 := ec1) (em0 := em0) (em1 := em1) (em2 := em2), zh72, by simp [zH0_len], (by decide : zH0.2 ≤ 7302250)⟩
                    ·
                      by_cases em3 : 23 < (x1 - x1 / 100 * 100)
                      ·
                        exact ⟨_, zH0, zH0, fun X n d => qc15_6 (n := n + 999966) (d := d + 17) (ec0 := ec0) (ec1 := ec1) (ec2 := ec2) (ec3 := ec3) (ec4 := ec4) (ec5 := ec5) (ec6 := ec6), fun X n d => qm15_6_3 (n := n + 999975) (d := d + 18) (ec0 := ec0) (ec1 := ec1) (em0 := em0) (em1 := em1) (em2 := em2) (em3 := em3), zh72, by simp [zH0_len], (by decide : zH0.2 ≤ 7302250)⟩
                      ·
                        have em4 : 23 < (x2 / 100) := by
                          have az1 := @az_d x1
                          have az2 := @az_d x2
                          have l0 : (0 : Int32).toInt = 0 := by decide
                          have l1 : (23 : Int32).toInt = 23 := by decide
                          have l2 : (24 : Int32).toInt = 24 := by decide
                          have l3 : (100 : Int32).toInt = 100 := by decide
                          have l4 : (3649 : Int32).toInt = 3649 := by decide
                          simp only [Int32.lt_iff_toInt_lt, Int32.le_iff_toInt_le, ← Int32.toInt_inj] at *
                          omega
                        exact ⟨_, zH0, zH0, fun X n d => qc15_6 (n := n + 999966) (d := d + 17) (ec0 := ec0) (ec1 := ec1) (ec2 := ec2) (ec3 := ec3) (ec4 := ec4) (ec5 := ec5) (ec6 := ec6), fun X n d => qm15_6_4 (n := n + 999966) (d := d + 18) (ec0 := ec0) (ec1 := ec1) (ec4 := ec4) (em0 := em0) (em1 := em1) (em2 := em2) (em3 := em3) (em4 := em4), zh72, by simp [zH0_len], (by decide : zH0.2 ≤ 7302250)⟩
              ·
                by_cases ec7 : (x2 - x2 / 100 * 100) < 24
                ·
                  by_cases em0 : (x1 / 100) < 0
                  ·
                    exfalso
                    exact (by
                      have az1 := @az_d x1
                      have az2 := @az_d x2
                      have l0 : (0 : Int32).toInt = 0 := by decide
                      have l1 : (24 : Int32).toInt = 24 := by decide
                      have l2 : (100 : Int32).toInt = 100 := by decide
                      have l3 : (3649 : Int32).toInt = 3649 := by decide
                      simp only [Int32.lt_iff_toInt_lt, Int32.le_iff_toInt_le, ← Int32.toInt_inj] at *
                      omega)
                  ·
                    by_cases em1 : 23 < (x1 / 100)
                    ·
                      exfalso
                      exact (by
                        have az1 := @az_d x1
                        have az2 := @az_d x2
                        have l0 : (0 : Int32).toInt = 0 := by decide
                        have l1 : (23 : Int32).toInt = 23 := by decide
                        have l2 : (24 : Int32).toInt = 24 := by decide
                        have l3 : (100 : Int32).toInt = 100 := by decide
                        have l4 : (3649 : Int32).toInt = 3649 := by decide
                        simp only [Int32.lt_iff_toInt_lt, Int32.le_iff_toInt_le, ← Int32.toInt_inj] at *
                        omega)
                    ·
                      by_cases em2 : (x1 - x1 / 100 * 100) < 0
                      ·
                        exfalso
                        exact (by
                          have az1 := @az_d x1
                          have az2 := @az_d x2
                          have l0 : (0 : Int32).toInt = 0 := by decide
                          have l1 : (23 : Int32).toInt = 23 := by decide
                          have l2 : (24 : Int32).toInt = 24 := by decide
                          have l3 : (100 : Int32).toInt = 100 := by decide
                          have l4 : (3649 : Int32).toInt = 3649 := by decide
                          simp only [Int32.lt_iff_toInt_lt, Int32.le_iff_toInt_le, ← Int32.toInt_inj] at *
                          omega)
                      ·
                        by_cases em3 : 23 < (x1 - x1 / 100 * 100)
                        ·
                          exfalso
                          exact (by
                            have az1 := @az_d x1
                            have az2 := @az_d x2
                            have l0 : (0 : Int32).toInt = 0 := by decide
                            have l1 : (23 : Int32).toInt = 23 := by decide
                            have l2 : (24 : Int32).toInt = 24 := by decide
                            have l3 : (100 : Int32).toInt = 100 := by decide
                            have l4 : (3649 : Int32).toInt = 3649 := by decide
                            simp only [Int32.lt_iff_toInt_lt, Int32.le_iff_toInt_le, ← Int32.toInt_inj] at *
                            omega)
                        ·
                          have em4 : ¬ 23 < (x2 / 100) := by
                            have az1 := @az_d x1
                            have az2 := @az_d x2
                            have l0 : (0 : Int32).toInt = 0 := by decide
                            have l1 : (23 : Int32).toInt = 23 := by decide
                            have l2 : (24 : Int32).toInt = 24 := by decide
                            have l3 : (100 : Int32).toInt = 100 := by decide
                            have l4 : (3649 : Int32).toInt = 3649 := by decide
                            simp only [Int32.lt_iff_toInt_lt, Int32.le_iff_toInt_le, ← Int32.toInt_inj] at *
                            omega
                          have em5 : ¬ 23 < (x2 - x2 / 100 * 100) := by
                            have az1 := @az_d x1
                            have az2 := @az_d x2
                            have l0 : (0 : Int32).toInt = 0 := by decide
                            have l1 : (23 : Int32).toInt = 23 := by decide
                            have l2 : (24 : Int32).toInt = 24 := by decide
                            have l3 : (100 : Int32).toInt = 100 := by decide
                            have l4 : (3649 : Int32).toInt = 3649 := by decide
                            simp only [Int32.lt_iff_toInt_lt, Int32.le_iff_toInt_le, ← Int32.toInt_inj] at *
                            omega
                          exact ⟨_, ((((((zH0.1.set 23 (.inl (0, 40, .inl (upd (fun _ => 0) (Int32.toNatClampNeg 0) x1)))).set 24 (.inl (0, 40, .inl (upd (fun _ => 0) (Int32.toNatClampNeg 0) x2)))).set 25 (.inl (0, 40, .inl (upd (fun _ => 0) (Int32.toNatClampNeg 0) x3)))).set 26 (.inl (0, 40, .inl (upd (fun _ => 0) (Int32.toNatClampNeg 0) 0)))).set 16 (.inr (2, [.ref 1, .int 0, .int 1, .int 0, .ref 17, .ref 18, .ref 19, .ref 20, .ref 21, .ref 22, .ref 23, .ref 24, .ref 25, .ref 26, .ref 27, .ref 28, .ref 29, .ref 30, .ref 31, .ref 32]))), zH0.2), ((((((((((((((zH0.1.set 23 (.inl (0, 40, .inl (upd (fun _ => 0) (Int32.toNatClampNeg 0) x1)))).set 24 (.inl (0, 40, .inl (upd (fun _ => 0) (Int32.toNatClampNeg 0) x2)))).set 25 (.inl (0, 40, .inl (upd (fun _ => 0) (Int32.toNatClampNeg 0) x3)))).set 26 (.inl (0, 40, .inl (upd (fun _ => 0) (Int32.toNatClampNeg 0) 0)))).set 16 (.inr (2, [.ref 1, .int 0, .int 1, .int 0, .ref 17, .ref 18, .ref 19, .ref 20, .ref 21, .ref 22, .ref 23, .ref 24, .ref 25, .ref 26, .ref 27, .ref 28, .ref 29, .ref 30, .ref 31, .ref 32]))), zH0.2).1.set 92 (.inl (0, 40, .inl (upd (fun _ => 0) (Int32.toNatClampNeg 0) (x1 / 100))))).set 93 (.inl (0, 40, .inl (upd (fun _ => 0) (Int32.toNatClampNeg 0) (x1 - x1 / 100 * 100))))).set 94 (.inl (0, 40, .inl (upd (fun _ => 0) (Int32.toNatClampNeg 0) (x2 / 100))))).set 95 (.inl (0, 40, .inl (upd (fun _ => 0) (Int32.toNatClampNeg 0) (x2 - x2 / 100 * 100))))).set 96 (.inl (0, 40, .inl (upd (fun _ => 0) (Int32.toNatClampNeg 0) x3)))).set 97 (.inl (0, 40, .inl (upd (fun _ => 0) (Int32.toNatClampNeg 0) 0)))).set 72 (.inr (12, ((zF72.set 25 (.int 1)).set 38 (.int 1))))), ((((((zH0.1.set 23 (.inl (0, 40, .inl (upd (fun _ => 0) (Int32.toNatClampNeg 0) x1)))).set 24 (.inl (0, 40, .inl (upd (fun _ => 0) (Int32.toNatClampNeg 0) x2)))).set 25 (.inl (0, 40, .inl (upd (fun _ => 0) (Int32.toNatClampNeg 0) x3)))).set 26 (.inl (0, 40, .inl (upd (fun _ => 0) (Int32.toNatClampNeg 0) 0)))).set 16 (.inr (2, [.ref 1, .int 0, .int 1, .int 0, .ref 17, .ref 18, .ref 19, .ref 20, .ref 21, .ref 22, .ref 23, .ref 24, .ref 25, .ref 26, .ref 27, .ref 28, .ref 29, .ref 30, .ref 31, .ref 32]))), zH0.2).2), fun X n d => qc15_7 (n := n + 999915) (d := d + 17) (g0 := zh0) (g1 := zh1) (g16 := zh16) (g23 := zh23) (g24 := zh24) (g25 := zh25) (g26 := zh26) (ec0 := ec0) (ec1 := ec1) (ec2 := ec2) (ec3 := ec3) (ec4 := ec4) (ec5 := ec5) (ec6 := ec6) (ec7 := ec7), fun X n d => qm15_7_4 (n := n + 999900) (d := d + 17) (g72 := (gs_ne (gs_ne (gs_ne (gs_ne (gs_ne zh72 (by decide)) (by decide)) (by decide)) (by decide)) (by decide))) (g92 := (gs_ne (gs_ne (gs_ne (gs_ne (gs_ne zh92 (by decide)) (by decide)) (by decide)) (by decide)) (by decide))) (g93 := (gs_ne (gs_ne (gs_ne (gs_ne (gs_ne zh93 (by decide)) (by decide)) (by decide)) (by decide)) (by decide))) (g94 := (gs_ne (gs_ne (gs_ne (gs_ne (gs_ne zh94 (by decide)) (by decide)) (by decide)) (by decide)) (by decide))) (g95 := (gs_ne (gs_ne (gs_ne (gs_ne (gs_ne zh95 (by decide)) (by decide)) (by decide)) (by decide)) (by decide))) (g96 := (gs_ne (gs_ne (gs_ne (gs_ne (gs_ne zh96 (by decide)) (by decide)) (by decide)) (by decide)) (by decide))) (g97 := (gs_ne (gs_ne (gs_ne (gs_ne (gs_ne zh97 (by decide)) (by decide)) (by decide)) (by decide)) (by decide))) (ec0 := ec0) (ec1 := ec1) (ec2 := ec2) (ec3 := ec3) (ec4 := ec4) (ec5 := ec5) (em0 := em0) (em1 := em1) (em2 := em2) (em3 := em3) (em4 := em4) (em5 := em5), (gs_ne (gs_ne (gs_ne (gs_ne (gs_ne zh72 (by decide)) (by decide)) (by decide)) (by decide)) (by decide)), by simp [zH0_len], (by decide : zH0.2 ≤ 7302250)⟩
                ·
                  by_cases em0 : (x1 / 100) < 0
                  ·
                    exact ⟨_, zH0, zH0, fun X n d => qc15_8 (n := n + 999963) (d := d + 17) (ec0 := ec0) (ec1 := ec1) (ec2 := ec2) (ec3 := ec3) (ec4 := ec4) (ec5 := ec5) (ec6 := ec6) (ec7 := ec7), fun X n d => qm15_8_0 (n := n + 999985) (d := d + 18) (ec0 := ec0) (ec1 := ec1) (em0 := em0), zh72, by simp [zH0_len], (by decide : zH0.2 ≤ 7302250)⟩
                  ·
                    by_cases em1 : 23 < (x1 / 100)
                    ·
                      exact ⟨_, zH0, zH0, fun X n d => qc15_8 (n := n + 999963) (d := d + 17) (ec0 := ec0) (ec1 := ec1) (ec2 := ec2) (ec3 := ec3) (ec4 := ec4) (ec5 := ec5) (ec6 := ec6) (ec7 := ec7), fun X n d => qm15_8_1 (n := n + 999982) (d := d + 18) (ec0 := ec0) (ec1 := ec1) (em0 := em0) (em1 := em1), zh72, by simp [zH0_len], (by decide : zH0.2 ≤ 7302250)⟩
                    ·
                      by_cases em2 : (x1 - x1 / 100 * 100) < 0
                      ·
                        exact ⟨_, zH0, zH0, fun X n d => qc15_8 (n := n + 999963) (d := d + 17) (ec0 := ec0) (ec1 := ec1) (ec2 := ec2) (ec3 := ec3) (ec4 := ec4) (ec5 := ec5) (ec6 := ec6) (ec7 := ec7), fun X n d => qm15_8_2 (n := n + 999978) (d := d + 18) (ec0 := ec0) (ec1 := ec1) (em0 := em0) (em1 := em1) (em2 := em2), zh72, by simp [zH0_len], (by decide : zH0.2 ≤ 7302250)⟩
                      ·
                        by_cases em3 : 23 < (x1 - x1 / 100 * 100)
                        ·
                          exact ⟨_, zH0, zH0, fun X n d => qc15_8 (n := n + 999963) (d := d + 17) (ec0 := ec0) (ec1 := ec1) (ec2 := ec2) (ec3 := ec3) (ec4 := ec4) (ec5 := ec5) (ec6 := ec6) (ec7 := ec7), fun X n d => qm15_8_3 (n := n + 999975) (d := d + 18) (ec0 := ec0) (ec1 := ec1) (em0 := em0) (em1 := em1) (em2 := em2) (em3 := em3), zh72, by simp [zH0_len], (by decide : zH0.2 ≤ 7302250)⟩
                        ·
                          have em4 : ¬ 23 < (x2 / 100) := by
                            have az1 := @az_d x1
                            have az2 := @az_d x2
                            have l0 : (0 : Int32).toInt = 0 := by decide
                            have l1 : (23 : Int32).toInt = 23 := by decide
                            have l2 : (24 : Int32).toInt = 24 := by decide
                            have l3 : (100 : Int32).toInt = 100 := by decide
                            have l4 : (3649 : Int32).toInt = 3649 := by decide
                            simp only [Int32.lt_iff_toInt_lt, Int32.le_iff_toInt_le, ← Int32.toInt_inj] at *
                            omega
                          have em5 : 23 < (x2 - x2 / 100 * 100) := by
                            have az1 := @az_d x1
                            have az2 := @az_d x2
                            have l0 : (0 : Int32).toInt = 0 := by decide
                            have l1 : (23 : Int32).toInt = 23 := by decide
                            have l2 : (24 : Int32).toInt = 24 := by decide
                            have l3 : (100 : Int32).toInt = 100 := by decide
                            have l4 : (3649 : Int32).toInt = 3649 := by decide
                            simp only [Int32.lt_iff_toInt_lt, Int32.le_iff_toInt_le, ← Int32.toInt_inj] at *
                            omega
                          exact ⟨_, zH0, zH0, fun X n d => qc15_8 (n := n + 999963) (d := d + 17) (ec0 := ec0) (ec1 := ec1) (ec2 := ec2) (ec3 := ec3) (ec4 := ec4) (ec5 := ec5) (ec6 := ec6) (ec7 := ec7), fun X n d => qm15_8_4 (n := n + 999957) (d := d + 18) (ec0 := ec0) (ec1 := ec1) (ec4 := ec4) (ec5 := ec5) (em0 := em0) (em1 := em1) (em2 := em2) (em3 := em3) (em4 := em4) (em5 := em5), zh72, by simp [zH0_len], (by decide : zH0.2 ≤ 7302250)⟩

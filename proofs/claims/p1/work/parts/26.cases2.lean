-- ===== cases of the law on a fresh object (by program) =====
set_option maxHeartbeats 40000000 in
theorem pc_33 (x1 : Int32)  : ∃ (v : Int32) (h1 h2 : aH), (∀ (X : aX) (n d : Nat), arun X (n + 1000000) (d + 20) zM177 0 [some (.ref 0), some (.int x1)] [] zH0 = some (some (.int v), h1)) ∧ (∀ (X : aX) (n d : Nat), arun X (n + 1000000) (d + 20) zM290 0 [some (.ref 72), some (.int x1)] [] h1 = some (some (.int v), h2)) ∧ h1.1[72]? = some (.inr (12, zF72)) ∧ h2.1.length ≤ 600000 ∧ h2.2 ≤ 7302250 := by
  exact ⟨_, ((zH0.1.set 48 (.inr (5, [.ref 1, .ref 16, .ref 41, .ref 49, .int 0, .ref 50, .ref 51, .int x1, .ref 52, .int 0, .ref 53, .ref 54, .int 0, .int 0, .int 0, .int 0, .int 0]))), zH0.2), ((((zH0.1.set 48 (.inr (5, [.ref 1, .ref 16, .ref 41, .ref 49, .int 0, .ref 50, .ref 51, .int x1, .ref 52, .int 0, .ref 53, .ref 54, .int 0, .int 0, .int 0, .int 0, .int 0]))), zH0.2).1.set 72 (.inr (12, (zF72.set 83 (.int x1))))), ((zH0.1.set 48 (.inr (5, [.ref 1, .ref 16, .ref 41, .ref 49, .int 0, .ref 50, .ref 51, .int x1, .ref 52, .int 0, .ref 53, .ref 54, .int 0, .int 0, .int 0, .int 0, .int 0]))), zH0.2).2), fun X n d => qc33_0 (n := n + 999994) (d := d + 19) (g0 := zh0) (g48 := zh48), fun X n d => qm33_0_0 (n := n + 999995) (d := d + 19) (g72 := (gs_ne zh72 (by decide))), (gs_ne zh72 (by decide)), by simp [zH0_len], (by decide : zH0.2 ≤ 7302250)⟩
set_option maxHeartbeats 40000000 in
theorem pc_35 (x1 : Int32)  : ∃ (v : Int32) (h1 h2 : aH), (∀ (X : aX) (n d : Nat), arun X (n + 1000000) (d + 20) zM179 0 [some (.ref 0), some (.int x1)] [] zH0 = some (some (.int v), h1)) ∧ (∀ (X : aX) (n d : Nat), arun X (n + 1000000) (d + 20) zM294 0 [some (.ref 72), some (.int x1)] [] h1 = some (some (.int v), h2)) ∧ h1.1[72]? = some (.inr (12, zF72)) ∧ h2.1.length ≤ 600000 ∧ h2.2 ≤ 7302250 := by
  by_cases ec0 : x1 < 0
  ·
    exact ⟨_, zH0, zH0, fun X n d => qc35_0 (n := n + 999987) (d := d + 18) (g0 := zh0) (g48 := zh48) (ec0 := ec0), fun X n d => qm35_0_0 (n := n + 999988) (d := d + 18) (g72 := zh72) (ec0 := ec0), zh72, by simp [zH0_len], (by decide : zH0.2 ≤ 7302250)⟩
  ·
    have ec1 : (-1) < x1 := by
      have l0 : ((-1) : Int32).toInt = -1 := by decide
      have l1 : (0 : Int32).toInt = 0 := by decide
      simp only [Int32.lt_iff_toInt_lt, Int32.le_iff_toInt_le, ← Int32.toInt_inj] at *
      omega
    have em0 : (-2) < x1 := by
      have l0 : ((-2) : Int32).toInt = -2 := by decide
      have l1 : ((-1) : Int32).toInt = -1 := by decide
      have l2 : (0 : Int32).toInt = 0 := by decide
      simp only [Int32.lt_iff_toInt_lt, Int32.le_iff_toInt_le, ← Int32.toInt_inj] at *
      omega
    exact ⟨_, zH0, zH0, fun X n d => qc35_1 (n := n + 999984) (d := d + 18) (g0 := zh0) (g48 := zh48) (ec0 := ec0) (ec1 := ec1), fun X n d => qm35_1_0 (n := n + 999985) (d := d + 18) (g72 := zh72) (ec0 := ec0) (em0 := em0), zh72, by simp [zH0_len], (by decide : zH0.2 ≤ 7302250)⟩
set_option maxHeartbeats 40000000 in
theorem pc_37 (x1 : Int32)  : ∃ (v : Int32) (h1 h2 : aH), (∀ (X : aX) (n d : Nat), arun X (n + 1000000) (d + 20) zM181 0 [some (.ref 0), some (.int x1)] [] zH0 = some (some (.int v), h1)) ∧ (∀ (X : aX) (n d : Nat), arun X (n + 1000000) (d + 20) zM299 0 [some (.ref 72), some (.int x1)] [] h1 = some (some (.int v), h2)) ∧ h1.1[72]? = some (.inr (12, zF72)) ∧ h2.1.length ≤ 600000 ∧ h2.2 ≤ 7302250 := by
  by_cases ec0 : x1 < 1
  ·
    exact ⟨_, zH0, zH0, fun X n d => qc37_0 (n := n + 999991) (d := d + 18) (ec0 := ec0), fun X n d => qm37_0_0 (n := n + 999991) (d := d + 18) (ec0 := ec0), zh72, by simp [zH0_len], (by decide : zH0.2 ≤ 7302250)⟩
  ·
    by_cases ec1 : 576 < x1
    ·
      exact ⟨_, zH0, zH0, fun X n d => qc37_1 (n := n + 999988) (d := d + 18) (ec0 := ec0) (ec1 := ec1), fun X n d => qm37_1_0 (n := n + 999988) (d := d + 18) (ec0 := ec0) (ec1 := ec1), zh72, by simp [zH0_len], (by decide : zH0.2 ≤ 7302250)⟩
    ·
      exact ⟨_, (((zH0.1.set 56 (.inl (0, 6, .inl (upd (fun _ => 0) (Int32.toNatClampNeg 0) x1)))).set 55 (.inr (4, [.ref 56, .int 1, .ref 57, .ref 58, .int 0, .ref 59, .ref 60, .ref 61, .ref 62, .int 0, .int 0, .int 0]))), zH0.2), ((((((zH0.1.set 56 (.inl (0, 6, .inl (upd (fun _ => 0) (Int32.toNatClampNeg 0) x1)))).set 55 (.inr (4, [.ref 56, .int 1, .ref 57, .ref 58, .int 0, .ref 59, .ref 60, .ref 61, .ref 62, .int 0, .int 0, .int 0]))), zH0.2).1.set 136 (.inl (0, 6, .inl (upd (fun _ => 0) (Int32.toNatClampNeg 0) x1)))).set 72 (.inr (12, (zF72.set 87 (.int 1))))), (((zH0.1.set 56 (.inl (0, 6, .inl (upd (fun _ => 0) (Int32.toNatClampNeg 0) x1)))).set 55 (.inr (4, [.ref 56, .int 1, .ref 57, .ref 58, .int 0, .ref 59, .ref 60, .ref 61, .ref 62, .int 0, .int 0, .int 0]))), zH0.2).2), fun X n d => qc37_2 (n := n + 999967) (d := d + 18) (g0 := zh0) (g55 := zh55) (g56 := zh56) (ec0 := ec0) (ec1 := ec1), fun X n d => qm37_2_0 (n := n + 999976) (d := d + 18) (g72 := (gs_ne (gs_ne zh72 (by decide)) (by decide))) (g136 := (gs_ne (gs_ne zh136 (by decide)) (by decide))) (ec0 := ec0) (ec1 := ec1), (gs_ne (gs_ne zh72 (by decide)) (by decide)), by simp [zH0_len], (by decide : zH0.2 ≤ 7302250)⟩
set_option maxHeartbeats 40000000 in
theorem pc_38 (x1 : Int32) (x2 : Int32)  : ∃ (v : Int32) (h1 h2 : aH), (∀ (X : aX) (n d : Nat), arun X (n + 1000000) (d + 20) zM182 0 [some (.ref 0), some (.int x1), some (.int x2), none] [] zH0 = some (some (.int v), h1)) ∧ (∀ (X : aX) (n d : Nat), arun X (n + 1000000) (d + 20) zM300 0 [some (.ref 72), some (.int x1), some (.int x2), none] [] h1 = some (some (.int v), h2)) ∧ h1.1[72]? = some (.inr (12, zF72)) ∧ h2.1.length ≤ 600000 ∧ h2.2 ≤ 7302250 := by
  by_cases ec0 : x1 < 0
  ·
    exact ⟨_, zH0, zH0, fun X n d => qc38_0 (n := n + 999989) (d := d + 17) (ec0 := ec0), fun X n d => qm38_0_0 (n := n + 999991) (d := d + 18) (ec0 := ec0), zh72, by simp [zH0_len], (by decide : zH0.2 ≤ 7302250)⟩
  ·
    by_cases ec1 : 7 < x1
    ·
      exact ⟨_, zH0, zH0, fun X n d => qc38_1 (n := n + 999986) (d := d + 17) (ec0 := ec0) (ec1 := ec1), fun X n d => qm38_1_0 (n := n + 999988) (d := d + 18) (ec0 := ec0) (ec1 := ec1), zh72, by simp [zH0_len], (by decide : zH0.2 ≤ 7302250)⟩
    ·
      by_cases ec2 : x2 < 0
      ·
        exact ⟨_, zH0, zH0, fun X n d => qc38_2 (n := n + 999985) (d := d + 17) (ec0 := ec0) (ec1 := ec1) (ec2 := ec2), fun X n d => qm38_2_0 (n := n + 999986) (d := d + 18) (ec0 := ec0) (ec1 := ec1) (ec2 := ec2), zh72, by simp [zH0_len], (by decide : zH0.2 ≤ 7302250)⟩
      ·
        by_cases ec3 : 99 < x2
        ·
          exact ⟨_, zH0, zH0, fun X n d => qc38_3 (n := n + 999985) (d := d + 17) (ec0 := ec0) (ec1 := ec1) (ec2 := ec2) (ec3 := ec3), fun X n d => qm38_3_0 (n := n + 999983) (d := d + 18) (ec0 := ec0) (ec1 := ec1) (ec2 := ec2) (ec3 := ec3), zh72, by simp [zH0_len], (by decide : zH0.2 ≤ 7302250)⟩
        ·
          have jc0 : ¬ (x1 < 0 ∨ 8 ≤ Int32.toNatClampNeg x1) := vp_in_iff.mpr (by
            have l0 : (0 : Int32).toInt = 0 := by decide
            have l1 : (7 : Int32).toInt = 7 := by decide
            have l2 : (99 : Int32).toInt = 99 := by decide
            simp only [Int32.lt_iff_toInt_lt, Int32.le_iff_toInt_le, ← Int32.toInt_inj] at *
            omega)
          have jm0 : ¬ (x1 < 0 ∨ 8 ≤ Int32.toNatClampNeg x1) := vp_in_iff.mpr (by
            have l0 : (0 : Int32).toInt = 0 := by decide
            have l1 : (7 : Int32).toInt = 7 := by decide
            have l2 : (99 : Int32).toInt = 99 := by decide
            simp only [Int32.lt_iff_toInt_lt, Int32.le_iff_toInt_le, ← Int32.toInt_inj] at *
            omega)
          exact ⟨_, ((zH0.1.set 57 (.inl (0, 8, .inl (upd (fun _ => 0) (Int32.toNatClampNeg x1) x2)))), zH0.2), ((((zH0.1.set 57 (.inl (0, 8, .inl (upd (fun _ => 0) (Int32.toNatClampNeg x1) x2)))), zH0.2).1.set 137 (.inl (0, 8, .inl (upd (fun _ => 0) (Int32.toNatClampNeg x1) x2)))), ((zH0.1.set 57 (.inl (0, 8, .inl (upd (fun _ => 0) (Int32.toNatClampNeg x1) x2)))), zH0.2).2), fun X n d => qc38_4 (n := n + 999978) (d := d + 17) (g0 := zh0) (g55 := zh55) (g57 := zh57) (ec0 := ec0) (ec1 := ec1) (ec2 := ec2) (ec3 := ec3) (jc0 := jc0), fun X n d => qm38_4_0 (n := n + 999978) (d := d + 18) (g72 := (gs_ne zh72 (by decide))) (g137 := (gs_ne zh137 (by decide))) (ec0 := ec0) (ec1 := ec1) (ec2 := ec2) (ec3 := ec3) (jm0 := jm0), (gs_ne zh72 (by decide)), by simp [zH0_len], (by decide : zH0.2 ≤ 7302250)⟩
set_option maxHeartbeats 40000000 in
theorem pc_39 (x1 : Int32) (x2 : Int32)  : ∃ (v : Int32) (h1 h2 : aH), (∀ (X : aX) (n d : Nat), arun X (n + 1000000) (d + 20) zM183 0 [some (.ref 0), some (.int x1), some (.int x2)] [] zH0 = some (some (.int v), h1)) ∧ (∀ (X : aX) (n d : Nat), arun X (n + 1000000) (d + 20) zM302 0 [some (.ref 72), some (.int x1), some (.int x2), none, none] [] h1 = some (some (.int v), h2)) ∧ h1.1[72]? = some (.inr (12, zF72)) ∧ h2.1.length ≤ 600000 ∧ h2.2 ≤ 7302250 := by
  by_cases ec0 : x1 < 1
  ·
    exact ⟨_, zH0, zH0, fun X n d => qc39_0 (n := n + 999991) (d := d + 18) (ec0 := ec0), fun X n d => qm39_0_0 (n := n + 999995) (d := d + 19) (g72 := zh72), zh72, by simp [zH0_len], (by decide : zH0.2 ≤ 7302250)⟩
  ·
    by_cases ec1 : 100 < x1
    ·
      exact ⟨_, zH0, zH0, fun X n d => qc39_1 (n := n + 999988) (d := d + 18) (ec0 := ec0) (ec1 := ec1), fun X n d => qm39_1_0 (n := n + 999995) (d := d + 19) (g72 := zh72), zh72, by simp [zH0_len], (by decide : zH0.2 ≤ 7302250)⟩
    ·
      by_cases ec2 : x2 < 1
      ·
        exact ⟨_, zH0, zH0, fun X n d => qc39_2 (n := n + 999986) (d := d + 18) (ec0 := ec0) (ec1 := ec1) (ec2 := ec2), fun X n d => qm39_2_0 (n := n + 999995) (d := d + 19) (g72 := zh72), zh72, by simp [zH0_len], (by decide : zH0.2 ≤ 7302250)⟩
      ·
        by_cases ec3 : 3 < x2
        ·
          exact ⟨_, zH0, zH0, fun X n d => qc39_3 (n := n + 999983) (d := d + 18) (ec0 := ec0) (ec1 := ec1) (ec2 := ec2) (ec3 := ec3), fun X n d => qm39_3_0 (n := n + 999995) (d := d + 19) (g72 := zh72), zh72, by simp [zH0_len], (by decide : zH0.2 ≤ 7302250)⟩
        ·
          exact ⟨_, zH0, zH0, fun X n d => qc39_4 (n := n + 999982) (d := d + 18) (g0 := zh0) (g55 := zh55) (ec0 := ec0) (ec1 := ec1) (ec2 := ec2) (ec3 := ec3), fun X n d => qm39_4_0 (n := n + 999995) (d := d + 19) (g72 := zh72), zh72, by simp [zH0_len], (by decide : zH0.2 ≤ 7302250)⟩
set_option maxHeartbeats 40000000 in
theorem pc_40 (x1 : Int32)  : ∃ (v : Int32) (h1 h2 : aH), (∀ (X : aX) (n d : Nat), arun X (n + 1000000) (d + 20) zM184 0 [some (.ref 0), some (.int x1)] [] zH0 = some (some (.int v), h1)) ∧ (∀ (X : aX) (n d : Nat), arun X (n + 1000000) (d + 20) zM303 0 [some (.ref 72), some (.int x1)] [] h1 = some (some (.int v), h2)) ∧ h1.1[72]? = some (.inr (12, zF72)) ∧ h2.1.length ≤ 600000 ∧ h2.2 ≤ 7302250 := by
  by_cases ec0 : x1 < 0
  ·
    exact ⟨_, zH0, zH0, fun X n d => qc40_0 (n := n + 999987) (d := d + 18) (g0 := zh0) (g55 := zh55) (ec0 := ec0), fun X n d => qm40_0_0 (n := n + 999988) (d := d + 18) (g72 := zh72) (ec0 := ec0), zh72, by simp [zH0_len], (by decide : zH0.2 ≤ 7302250)⟩
  ·
    have ec1 : (-1) < x1 := by
      have l0 : ((-1) : Int32).toInt = -1 := by decide
      have l1 : (0 : Int32).toInt = 0 := by decide
      simp only [Int32.lt_iff_toInt_lt, Int32.le_iff_toInt_le, ← Int32.toInt_inj] at *
      omega
    have em0 : (-2) < x1 := by
      have l0 : ((-2) : Int32).toInt = -2 := by decide
      have l1 : ((-1) : Int32).toInt = -1 := by decide
      have l2 : (0 : Int32).toInt = 0 := by decide
      simp only [Int32.lt_iff_toInt_lt, Int32.le_iff_toInt_le, ← Int32.toInt_inj] at *
      omega
    exact ⟨_, zH0, zH0, fun X n d => qc40_1 (n := n + 999984) (d := d + 18) (g0 := zh0) (g55 := zh55) (ec0 := ec0) (ec1 := ec1), fun X n d => qm40_1_0 (n := n + 999985) (d := d + 18) (g72 := zh72) (ec0 := ec0) (em0 := em0), zh72, by simp [zH0_len], (by decide : zH0.2 ≤ 7302250)⟩
set_option maxHeartbeats 40000000 in
theorem pc_41 (x1 : Int32) (x2 : Int32) (x3 : Int32) (x4 : Int32)  : ∃ (v : Int32) (h1 h2 : aH), (∀ (X : aX) (n d : Nat), arun X (n + 1000000) (d + 20) zM185 0 [some (.ref 0), some (.int x1), some (.int x2), some (.int x3), some (.int x4)] [] zH0 = some (some (.int v), h1)) ∧ (∀ (X : aX) (n d : Nat), arun X (n + 1000000) (d + 20) zM304 0 [some (.ref 72), some (.int x1), some (.int x2), some (.int x3), some (.int x4), none, none, none, none] [] h1 = some (some (.int v), h2)) ∧ h1.1[72]? = some (.inr (12, zF72)) ∧ h2.1.length ≤ 600000 ∧ h2.2 ≤ 7302250 := by
  by_cases ec0 : x1 < 0
  ·
    exact ⟨_, zH0, zH0, fun X n d => qc41_0 (n := n + 999984) (d := d + 17) (g0 := zh0) (g33 := zh33) (ec0 := ec0), fun X n d => qm41_0_0 (n := n + 999988) (d := d + 18) (g72 := zh72) (ec0 := ec0), zh72, by simp [zH0_len], (by decide : zH0.2 ≤ 7302250)⟩
  ·
    have ec1 : (-1) < x1 := by
      have l0 : ((-1) : Int32).toInt = -1 := by decide
      have l1 : (0 : Int32).toInt = 0 := by decide
      simp only [Int32.lt_iff_toInt_lt, Int32.le_iff_toInt_le, ← Int32.toInt_inj] at *
      omega
    exact ⟨_, zH0, zH0, fun X n d => qc41_1 (n := n + 999981) (d := d + 17) (g0 := zh0) (g33 := zh33) (ec0 := ec0) (ec1 := ec1), fun X n d => qm41_1_0 (n := n + 999985) (d := d + 18) (g72 := zh72) (ec0 := ec0) (ec1 := ec1), zh72, by simp [zH0_len], (by decide : zH0.2 ≤ 7302250)⟩
set_option maxHeartbeats 40000000 in
theorem pc_42 (x1 : Int32) (x2 : Int32) (x3 : Int32)  : ∃ (v : Int32) (h1 h2 : aH), (∀ (X : aX) (n d : Nat), arun X (n + 1000000) (d + 20) zM186 0 [some (.ref 0), some (.int x1), some (.int x2), some (.int x3)] [] zH0 = some (some (.int v), h1)) ∧ (∀ (X : aX) (n d : Nat), arun X (n + 1000000) (d + 20) zM316 0 [some (.ref 72), some (.int x1), some (.int x2), some (.int x3)] [] h1 = some (some (.int v), h2)) ∧ h1.1[72]? = some (.inr (12, zF72)) ∧ h2.1.length ≤ 600000 ∧ h2.2 ≤ 7302250 := by
  by_cases ec0 : x1 < 0
  ·
    exact ⟨_, ((zH0.1.set 66 (.inr (1, [.ref 67, .int 0, .int 0, .int 0, .int 0]))), zH0.2), ((((zH0.1.set 66 (.inr (1, [.ref 67, .int 0, .int 0, .int 0, .int 0]))), zH0.2).1.set 72 (.inr (12, (zF72.set 95 (.int 0))))), ((zH0.1.set 66 (.inr (1, [.ref 67, .int 0, .int 0, .int 0, .int 0]))), zH0.2).2), fun X n d => qc42_0 (n := n + 999984) (d := d + 17) (g0 := zh0) (g1 := zh1) (g66 := zh66) (ec0 := ec0), fun X n d => qm42_0_0 (n := n + 999982) (d := d + 17) (g72 := (gs_ne zh72 (by decide))) (ec0 := ec0), (gs_ne zh72 (by decide)), by simp [zH0_len], (by decide : zH0.2 ≤ 7302250)⟩
  ·
    have ec1 : (-1) < x1 := by
      have l0 : ((-1) : Int32).toInt = -1 := by decide
      have l1 : (0 : Int32).toInt = 0 := by decide
      simp only [Int32.lt_iff_toInt_lt, Int32.le_iff_toInt_le, ← Int32.toInt_inj] at *
      omega
    exact ⟨_, ((zH0.1.set 66 (.inr (1, [.ref 67, .int 0, .int 0, .int 0, .int 0]))), zH0.2), ((((zH0.1.set 66 (.inr (1, [.ref 67, .int 0, .int 0, .int 0, .int 0]))), zH0.2).1.set 72 (.inr (12, (zF72.set 95 (.int 0))))), ((zH0.1.set 66 (.inr (1, [.ref 67, .int 0, .int 0, .int 0, .int 0]))), zH0.2).2), fun X n d => qc42_1 (n := n + 999981) (d := d + 17) (g0 := zh0) (g1 := zh1) (g66 := zh66) (ec0 := ec0) (ec1 := ec1), fun X n d => qm42_1_0 (n := n + 999979) (d := d + 17) (g72 := (gs_ne zh72 (by decide))) (ec0 := ec0) (ec1 := ec1), (gs_ne zh72 (by decide)), by simp [zH0_len], (by decide : zH0.2 ≤ 7302250)⟩
set_option maxHeartbeats 40000000 in
theorem pc_43 (x1 : Int32)  : ∃ (v : Int32) (h1 h2 : aH), (∀ (X : aX) (n d : Nat), arun X (n + 1000000) (d + 20) zM187 0 [some (.ref 0), some (.int x1)] [] zH0 = some (some (.int v), h1)) ∧ (∀ (X : aX) (n d : Nat), arun X (n + 1000000) (d + 20) zM317 0 [some (.ref 72), some (.int x1)] [] h1 = some (some (.int v), h2)) ∧ h1.1[72]? = some (.inr (12, zF72)) ∧ h2.1.length ≤ 600000 ∧ h2.2 ≤ 7302250 := by
  by_cases ec0 : x1 < 0
  ·
    exact ⟨_, zH0, zH0, fun X n d => qc43_0 (n := n + 999985) (d := d + 18) (g0 := zh0) (g66 := zh66) (ec0 := ec0), fun X n d => qm43_0_0 (n := n + 999996) (d := d + 19) (ec0 := ec0), zh72, by simp [zH0_len], (by decide : zH0.2 ≤ 7302250)⟩
  ·
    have ec1 : (-1) < x1 := by
      have l0 : ((-1) : Int32).toInt = -1 := by decide
      have l1 : (0 : Int32).toInt = 0 := by decide
      simp only [Int32.lt_iff_toInt_lt, Int32.le_iff_toInt_le, ← Int32.toInt_inj] at *
      omega
    exact ⟨_, zH0, zH0, fun X n d => qc43_1 (n := n + 999982) (d := d + 18) (g0 := zh0) (g66 := zh66) (ec0 := ec0) (ec1 := ec1), fun X n d => qm43_1_0 (n := n + 999992) (d := d + 19) (g72 := zh72) (ec0 := ec0), zh72, by simp [zH0_len], (by decide : zH0.2 ≤ 7302250)⟩
set_option maxHeartbeats 40000000 in
theorem pc_44 (x1 : Int32) (x2 : Int32)  : ∃ (v : Int32) (h1 h2 : aH), (∀ (X : aX) (n d : Nat), arun X (n + 1000000) (d + 20) zM188 0 [some (.ref 0), some (.int x1), some (.int x2)] [] zH0 = some (some (.int v), h1)) ∧ (∀ (X : aX) (n d : Nat), arun X (n + 1000000) (d + 20) zM319 0 [some (.ref 72), some (.int x1), some (.int x2)] [] h1 = some (some (.int v), h2)) ∧ h1.1[72]? = some (.inr (12, zF72)) ∧ h2.1.length ≤ 600000 ∧ h2.2 ≤ 7302250 := by
  by_cases ec0 : x1 < 0
  ·
    exact ⟨_, zH0, zH0, fun X n d => qc44_0 (n := n + 999989) (d := d + 17) (ec0 := ec0), fun X n d => qm44_0_0 (n := n + 999989) (d := d + 17) (ec0 := ec0), zh72, by simp [zH0_len], (by decide : zH0.2 ≤ 7302250)⟩
  ·
    by_cases ec1 : 5 < x1
    ·
      exact ⟨_, zH0, zH0, fun X n d => qc44_1 (n := n + 999986) (d := d + 17) (ec0 := ec0) (ec1 := ec1), fun X n d => qm44_1_0 (n := n + 999986) (d := d + 17) (ec0 := ec0) (ec1 := ec1), zh72, by simp [zH0_len], (by decide : zH0.2 ≤ 7302250)⟩
    ·
      by_cases ec2 : x2 = (-1)
      ·
        have jc0 : ¬ (x1 < 0 ∨ 6 ≤ Int32.toNatClampNeg x1) := vp_in_iff.mpr (by
          have l0 : ((-1) : Int32).toInt = -1 := by decide
          have l1 : (0 : Int32).toInt = 0 := by decide
          have l2 : (5 : Int32).toInt = 5 := by decide
          simp only [Int32.lt_iff_toInt_lt, Int32.le_iff_toInt_le, ← Int32.toInt_inj] at *
          omega)
        have jm0 : ¬ (x1 < 0 ∨ 6 ≤ Int32.toNatClampNeg x1) := vp_in_iff.mpr (by
          have l0 : ((-1) : Int32).toInt = -1 := by decide
          have l1 : (0 : Int32).toInt = 0 := by decide
          have l2 : (5 : Int32).toInt = 5 := by decide
          simp only [Int32.lt_iff_toInt_lt, Int32.le_iff_toInt_le, ← Int32.toInt_inj] at *
          omega)
        exact ⟨_, (((zH0.1.set 69 (.inl (0, 6, .inl (upd (fun _ => (-1)) (Int32.toNatClampNeg x1) (-1))))).set 70 (.inl (0, 6, .inl (upd (fun _ => 0) (Int32.toNatClampNeg x1) 0)))), zH0.2), (((((zH0.1.set 69 (.inl (0, 6, .inl (upd (fun _ => (-1)) (Int32.toNatClampNeg x1) (-1))))).set 70 (.inl (0, 6, .inl (upd (fun _ => 0) (Int32.toNatClampNeg x1) 0)))), zH0.2).1.set 142 (.inl (0, 6, .inl (upd (fun _ => (-1)) (Int32.toNatClampNeg x1) x2)))), (((zH0.1.set 69 (.inl (0, 6, .inl (upd (fun _ => (-1)) (Int32.toNatClampNeg x1) (-1))))).set 70 (.inl (0, 6, .inl (upd (fun _ => 0) (Int32.toNatClampNeg x1) 0)))), zH0.2).2), fun X n d => qc44_2 (n := n + 999975) (d := d + 17) (g0 := zh0) (g68 := zh68) (g69 := zh69) (g70 := zh70) (ec0 := ec0) (ec1 := ec1) (ec2 := ec2) (jc0 := jc0), fun X n d => qm44_2_0 (n := n + 999985) (d := d + 17) (g72 := (gs_ne (gs_ne zh72 (by decide)) (by decide))) (g142 := (gs_ne (gs_ne zh142 (by decide)) (by decide))) (ec0 := ec0) (ec1 := ec1) (ec2 := ec2) (jm0 := jm0), (gs_ne (gs_ne zh72 (by decide)) (by decide)), by simp [zH0_len], (by decide : zH0.2 ≤ 7302250)⟩
      ·
        by_cases ec3 : x2 < 0
        ·
          exact ⟨_, zH0, zH0, fun X n d => qc44_3 (n := n + 999978) (d := d + 17) (g0 := zh0) (g1 := zh1) (ec0 := ec0) (ec1 := ec1) (ec2 := ec2) (ec3 := ec3), fun X n d => qm44_3_0 (n := n + 999979) (d := d + 17) (g72 := zh72) (ec0 := ec0) (ec1 := ec1) (ec2 := ec2) (ec3 := ec3), zh72, by simp [zH0_len], (by decide : zH0.2 ≤ 7302250)⟩
        ·
          have ec4 : (-1) < x2 := by
            have l0 : ((-1) : Int32).toInt = -1 := by decide
            have l1 : (0 : Int32).toInt = 0 := by decide
            have l2 : (5 : Int32).toInt = 5 := by decide
            simp only [Int32.lt_iff_toInt_lt, Int32.le_iff_toInt_le, ← Int32.toInt_inj] at *
            omega
          exact ⟨_, zH0, zH0, fun X n d => qc44_4 (n := n + 999975) (d := d + 17) (g0 := zh0) (g1 := zh1) (ec0 := ec0) (ec1 := ec1) (ec2 := ec2) (ec3 := ec3) (ec4 := ec4), fun X n d => qm44_4_0 (n := n + 999976) (d := d + 17) (g72 := zh72) (ec0 := ec0) (ec1 := ec1) (ec2 := ec2) (ec3 := ec3) (ec4 := ec4), zh72, by simp [zH0_len], (by decide : zH0.2 ≤ 7302250)⟩
set_option maxHeartbeats 40000000 in
theorem pc_46 (x1 : Int32) (x2 : Int32) (x3 : Int64)  : ∃ (v : Int32) (h1 h2 : aH), (∀ (X : aX) (n d : Nat), arun X (n + 1000000) (d + 20) zM190 0 [some (.ref 0), some (.int x1), some (.int x2), some (.long x3), none] [] zH0 = some (some (.int v), h1)) ∧ (∀ (X : aX) (n d : Nat), arun X (n + 1000000) (d + 20) zM322 0 [some (.ref 72), some (.int x1), some (.int x2), some (.long x3), none, none, none] [] h1 = some (some (.int v), h2)) ∧ h1.1[72]? = some (.inr (12, zF72)) ∧ h2.1.length ≤ 600000 ∧ h2.2 ≤ 7302250 := by
  by_cases ec0 : x1 < 0
  ·
    exact ⟨_, zH0, zH0, fun X n d => qc46_0 (n := n + 999989) (d := d + 17) (ec0 := ec0), fun X n d => qm46_0_0 (n := n + 999985) (d := d + 16) (g72 := zh72) (ec0 := ec0), zh72, by simp [zH0_len], (by decide : zH0.2 ≤ 7302250)⟩
  ·
    by_cases ec1 : 5 < x1
    ·
      exact ⟨_, zH0, zH0, fun X n d => qc46_1 (n := n + 999986) (d := d + 17) (ec0 := ec0) (ec1 := ec1), fun X n d => qm46_1_0 (n := n + 999982) (d := d + 16) (g72 := zh72) (ec0 := ec0) (ec1 := ec1), zh72, by simp [zH0_len], (by decide : zH0.2 ≤ 7302250)⟩
    ·
      have jc0 : ¬ (x1 < 0 ∨ 6 ≤ Int32.toNatClampNeg x1) := vp_in_iff.mpr (by
        have l0 : (0 : Int32).toInt = 0 := by decide
        have l1 : (5 : Int32).toInt = 5 := by decide
        simp only [Int32.lt_iff_toInt_lt, Int32.le_iff_toInt_le, ← Int32.toInt_inj] at *
        omega)
      have jm0 : ¬ (x1 < 0 ∨ 6 ≤ Int32.toNatClampNeg x1) := vp_in_iff.mpr (by
        have l0 : (0 : Int32).toInt = 0 := by decide
        have l1 : (5 : Int32).toInt = 5 := by decide
        simp only [Int32.lt_iff_toInt_lt, Int32.le_iff_toInt_le, ← Int32.toInt_inj] at *
        omega)
      exact ⟨_, zH0, zH0, fun X n d => qc46_2 (n := n + 999980) (d := d + 17) (g0 := zh0) (g68 := zh68) (g69 := zh69) (ec0 := ec0) (ec1 := ec1) (jc0 := jc0), fun X n d => qm46_2_0 (n := n + 999981) (d := d + 16) (g72 := zh72) (g142 := zh142) (ec0 := ec0) (ec1 := ec1) (jm0 := jm0), zh72, by simp [zH0_len], (by decide : zH0.2 ≤ 7302250)⟩
set_option maxHeartbeats 40000000 in
theorem pc_47 (x1 : Int32) (x2 : Int32)  : ∃ (v : Int64) (h1 h2 : aH), (∀ (X : aX) (n d : Nat), arun X (n + 1000000) (d + 20) zM191 0 [some (.ref 0), some (.int x1), some (.int x2)] [] zH0 = some (some (.long v), h1)) ∧ (∀ (X : aX) (n d : Nat), arun X (n + 1000000) (d + 20) zM323 0 [some (.ref 72), some (.int x1), some (.int x2)] [] h1 = some (some (.long v), h2)) ∧ h1.1[72]? = some (.inr (12, zF72)) ∧ h2.1.length ≤ 600000 ∧ h2.2 ≤ 7302250 := by
  by_cases ec0 : x1 < 0
  ·
    exact ⟨_, zH0, zH0, fun X n d => qc47_0 (n := n + 999989) (d := d + 17) (ec0 := ec0), fun X n d => qm47_0_0 (n := n + 999985) (d := d + 16) (g72 := zh72) (ec0 := ec0), zh72, by simp [zH0_len], (by decide : zH0.2 ≤ 7302250)⟩
  ·
    by_cases ec1 : 5 < x1
    ·
      exact ⟨_, zH0, zH0, fun X n d => qc47_1 (n := n + 999986) (d := d + 17) (ec0 := ec0) (ec1 := ec1), fun X n d => qm47_1_0 (n := n + 999982) (d := d + 16) (g72 := zh72) (ec0 := ec0) (ec1 := ec1), zh72, by simp [zH0_len], (by decide : zH0.2 ≤ 7302250)⟩
    ·
      have jc0 : ¬ (x1 < 0 ∨ 6 ≤ Int32.toNatClampNeg x1) := vp_in_iff.mpr (by
        have l0 : (0 : Int32).toInt = 0 := by decide
        have l1 : (5 : Int32).toInt = 5 := by decide
        simp only [Int32.lt_iff_toInt_lt, Int32.le_iff_toInt_le, ← Int32.toInt_inj] at *
        omega)
      have jm0 : ¬ (x1 < 0 ∨ 6 ≤ Int32.toNatClampNeg x1) := vp_in_iff.mpr (by
        have l0 : (0 : Int32).toInt = 0 := by decide
        have l1 : (5 : Int32).toInt = 5 := by decide
        simp only [Int32.lt_iff_toInt_lt, Int32.le_iff_toInt_le, ← Int32.toInt_inj] at *
        omega)
      exact ⟨_, zH0, zH0, fun X n d => qc47_2 (n := n + 999976) (d := d + 16) (g0 := zh0) (g68 := zh68) (g69 := zh69) (ec0 := ec0) (ec1 := ec1) (jc0 := jc0), fun X n d => qm47_2_0 (n := n + 999981) (d := d + 16) (g72 := zh72) (g142 := zh142) (ec0 := ec0) (ec1 := ec1) (jm0 := jm0), zh72, by simp [zH0_len], (by decide : zH0.2 ≤ 7302250)⟩
set_option maxHeartbeats 40000000 in
theorem pc_48 (x1 : Int32) (x2 : Int32) (x3 : Int32) (x4 : Int32) (x5 : Int32)  : ∃ (v : Int32) (h1 h2 : aH), (∀ (X : aX) (n d : Nat), arun X (n + 1000000) (d + 20) zM192 0 [some (.ref 0), some (.int x1), some (.int x2), some (.int x3), some (.int x4), some (.int x5)] [] zH0 = some (some (.int v), h1)) ∧ (∀ (X : aX) (n d : Nat), arun X (n + 1000000) (d + 20) zM324 0 [some (.ref 72), some (.int x1), some (.int x2), some (.int x3), some (.int x4), some (.int x5), none] [] h1 = some (some (.int v), h2)) ∧ h1.1[72]? = some (.inr (12, zF72)) ∧ h2.1.length ≤ 600000 ∧ h2.2 ≤ 7302250 := by
  by_cases ec0 : x1 < 0
  ·
    exact ⟨_, zH0, zH0, fun X n d => qc48_0 (n := n + 999989) (d := d + 17) (ec0 := ec0), fun X n d => qm48_0_0 (n := n + 999989) (d := d + 17) (ec0 := ec0), zh72, by simp [zH0_len], (by decide : zH0.2 ≤ 7302250)⟩
  ·
    by_cases ec1 : 5 < x1
    ·
      exact ⟨_, zH0, zH0, fun X n d => qc48_1 (n := n + 999986) (d := d + 17) (ec0 := ec0) (ec1 := ec1), fun X n d => qm48_1_0 (n := n + 999986) (d := d + 17) (ec0 := ec0) (ec1 := ec1), zh72, by simp [zH0_len], (by decide : zH0.2 ≤ 7302250)⟩
    ·
      by_cases ec2 : x3 < 0
      ·
        exact ⟨_, zH0, zH0, fun X n d => qc48_2 (n := n + 999985) (d := d + 17) (ec0 := ec0) (ec1 := ec1) (ec2 := ec2), fun X n d => qm48_2_0 (n := n + 999985) (d := d + 17) (ec0 := ec0) (ec1 := ec1) (ec2 := ec2), zh72, by simp [zH0_len], (by decide : zH0.2 ≤ 7302250)⟩
      ·
        by_cases ec3 : 5 < x3
        ·
          exact ⟨_, zH0, zH0, fun X n d => qc48_3 (n := n + 999983) (d := d + 17) (ec0 := ec0) (ec1 := ec1) (ec2 := ec2) (ec3 := ec3), fun X n d => qm48_3_0 (n := n + 999983) (d := d + 17) (ec0 := ec0) (ec1 := ec1) (ec2 := ec2) (ec3 := ec3), zh72, by simp [zH0_len], (by decide : zH0.2 ≤ 7302250)⟩
        ·
          have jc0 : ¬ (x1 < 0 ∨ 6 ≤ Int32.toNatClampNeg x1) := vp_in_iff.mpr (by
            have l0 : (0 : Int32).toInt = 0 := by decide
            have l1 : (5 : Int32).toInt = 5 := by decide
            simp only [Int32.lt_iff_toInt_lt, Int32.le_iff_toInt_le, ← Int32.toInt_inj] at *
            omega)
          have jc1 : ¬ (x3 < 0 ∨ 6 ≤ Int32.toNatClampNeg x3) := vp_in_iff.mpr (by
            have l0 : (0 : Int32).toInt = 0 := by decide
            have l1 : (5 : Int32).toInt = 5 := by decide
            simp only [Int32.lt_iff_toInt_lt, Int32.le_iff_toInt_le, ← Int32.toInt_inj] at *
            omega)
          have jm0 : ¬ (x1 < 0 ∨ 6 ≤ Int32.toNatClampNeg x1) := vp_in_iff.mpr (by
            have l0 : (0 : Int32).toInt = 0 := by decide
            have l1 : (5 : Int32).toInt = 5 := by decide
            simp only [Int32.lt_iff_toInt_lt, Int32.le_iff_toInt_le, ← Int32.toInt_inj] at *
            omega)
          exact ⟨_, zH0, zH0, fun X n d => qc48_4 (n := n + 999971) (d := d + 17) (g0 := zh0) (g68 := zh68) (g69 := zh69) (ec0 := ec0) (ec1 := ec1) (ec2 := ec2) (ec3 := ec3) (jc0 := jc0) (jc1 := jc1), fun X n d => qm48_4_0 (n := n + 999982) (d := d + 17) (g72 := zh72) (g142 := zh142) (ec0 := ec0) (ec1 := ec1) (ec2 := ec2) (ec3 := ec3) (jm0 := jm0), zh72, by simp [zH0_len], (by decide : zH0.2 ≤ 7302250)⟩
set_option maxHeartbeats 40000000 in
theorem pc_49 (x1 : Int32) (x2 : Int32)  : ∃ (v : Int32) (h1 h2 : aH), (∀ (X : aX) (n d : Nat), arun X (n + 1000000) (d + 20) zM193 0 [some (.ref 0), some (.int x1), some (.int x2), none, none] [] zH0 = some (some (.int v), h1)) ∧ (∀ (X : aX) (n d : Nat), arun X (n + 1000000) (d + 20) zM325 0 [some (.ref 72), some (.int x1), some (.int x2)] [] h1 = some (some (.int v), h2)) ∧ h1.1[72]? = some (.inr (12, zF72)) ∧ h2.1.length ≤ 600000 ∧ h2.2 ≤ 7302250 := by
  by_cases ec0 : x1 < 0
  ·
    exact ⟨_, zH0, zH0, fun X n d => qc49_0 (n := n + 999989) (d := d + 17) (ec0 := ec0), fun X n d => qm49_0_0 (n := n + 999989) (d := d + 17) (ec0 := ec0), zh72, by simp [zH0_len], (by decide : zH0.2 ≤ 7302250)⟩
  ·
    by_cases ec1 : 5 < x1
    ·
      exact ⟨_, zH0, zH0, fun X n d => qc49_1 (n := n + 999986) (d := d + 17) (ec0 := ec0) (ec1 := ec1), fun X n d => qm49_1_0 (n := n + 999986) (d := d + 17) (ec0 := ec0) (ec1 := ec1), zh72, by simp [zH0_len], (by decide : zH0.2 ≤ 7302250)⟩
    ·
      by_cases ec2 : x2 < 0
      ·
        exact ⟨_, zH0, zH0, fun X n d => qc49_2 (n := n + 999985) (d := d + 17) (ec0 := ec0) (ec1 := ec1) (ec2 := ec2), fun X n d => qm49_2_0 (n := n + 999985) (d := d + 17) (ec0 := ec0) (ec1 := ec1) (ec2 := ec2), zh72, by simp [zH0_len], (by decide : zH0.2 ≤ 7302250)⟩
      ·
        by_cases ec3 : 7 < x2
        ·
          exact ⟨_, zH0, zH0, fun X n d => qc49_3 (n := n + 999985) (d := d + 17) (ec0 := ec0) (ec1 := ec1) (ec2 := ec2) (ec3 := ec3), fun X n d => qm49_3_0 (n := n + 999985) (d := d + 17) (ec0 := ec0) (ec1 := ec1) (ec2 := ec2) (ec3 := ec3), zh72, by simp [zH0_len], (by decide : zH0.2 ≤ 7302250)⟩
        ·
          have jc0 : ¬ (x1 < 0 ∨ 6 ≤ Int32.toNatClampNeg x1) := vp_in_iff.mpr (by
            have l0 : (0 : Int32).toInt = 0 := by decide
            have l1 : (5 : Int32).toInt = 5 := by decide
            have l2 : (7 : Int32).toInt = 7 := by decide
            simp only [Int32.lt_iff_toInt_lt, Int32.le_iff_toInt_le, ← Int32.toInt_inj] at *
            omega)
          have jm0 : ¬ (x1 < 0 ∨ 6 ≤ Int32.toNatClampNeg x1) := vp_in_iff.mpr (by
            have l0 : (0 : Int32).toInt = 0 := by decide
            have l1 : (5 : Int32).toInt = 5 := by decide
            have l2 : (7 : Int32).toInt = 7 := by decide
            simp only [Int32.lt_iff_toInt_lt, Int32.le_iff_toInt_le, ← Int32.toInt_inj] at *
            omega)
          exact ⟨_, zH0, zH0, fun X n d => qc49_4 (n := n + 999981) (d := d + 17) (g0 := zh0) (g68 := zh68) (g69 := zh69) (ec0 := ec0) (ec1 := ec1) (ec2 := ec2) (ec3 := ec3) (jc0 := jc0), fun X n d => qm49_4_0 (n := n + 999984) (d := d + 17) (g72 := zh72) (g142 := zh142) (ec0 := ec0) (ec1 := ec1) (ec2 := ec2) (ec3 := ec3) (jm0 := jm0), zh72, by simp [zH0_len], (by decide : zH0.2 ≤ 7302250)⟩
set_option maxHeartbeats 40000000 in
theorem pc_50 (x1 : Int32)  : ∃ (v : Int32) (h1 h2 : aH), (∀ (X : aX) (n d : Nat), arun X (n + 1000000) (d + 20) zM194 0 [some (.ref 0), some (.int x1)] [] zH0 = some (some (.int v), h1)) ∧ (∀ (X : aX) (n d : Nat), arun X (n + 1000000) (d + 20) zM327 0 [some (.ref 72), some (.int x1)] [] h1 = some (some (.int v), h2)) ∧ h1.1[72]? = some (.inr (12, zF72)) ∧ h2.1.length ≤ 600000 ∧ h2.2 ≤ 7302250 := by
  by_cases ec0 : x1 = 0
  ·
    exact ⟨_, zH0, zH0, fun X n d => qc50_0 (n := n + 999993) (d := d + 19) (g0 := zh0) (g1 := zh1) (ec0 := ec0), fun X n d => qm50_0_0 (n := n + 999994) (d := d + 19) (g72 := zh72) (ec0 := ec0), zh72, by simp [zH0_len], (by decide : zH0.2 ≤ 7302250)⟩
  ·
    by_cases ec1 : x1 = 1
    ·
      exact ⟨_, zH0, zH0, fun X n d => qc50_1 (n := n + 999992) (d := d + 19) (g0 := zh0) (g1 := zh1) (ec0 := ec0) (ec1 := ec1), fun X n d => qm50_1_0 (n := n + 999985) (d := d + 18) (g72 := zh72) (ec0 := ec0) (ec1 := ec1), zh72, by simp [zH0_len], (by decide : zH0.2 ≤ 7302250)⟩
    ·
      by_cases ec2 : x1 = 2
      ·
        exact ⟨_, zH0, zH0, fun X n d => qc50_2 (n := n + 999991) (d := d + 19) (g0 := zh0) (g1 := zh1) (ec0 := ec0) (ec1 := ec1) (ec2 := ec2), fun X n d => qm50_2_0 (n := n + 999985) (d := d + 18) (g72 := zh72) (ec0 := ec0) (ec1 := ec1) (ec2 := ec2), zh72, by simp [zH0_len], (by decide : zH0.2 ≤ 7302250)⟩
      ·
        by_cases ec3 : x1 = 3
        ·
          exact ⟨_, zH0, zH0, fun X n d => qc50_3 (n := n + 999990) (d := d + 19) (g0 := zh0) (g1 := zh1) (ec0 := ec0) (ec1 := ec1) (ec2 := ec2) (ec3 := ec3), fun X n d => qm50_3_0 (n := n + 999985) (d := d + 18) (g72 := zh72) (ec0 := ec0) (ec1 := ec1) (ec2 := ec2) (ec3 := ec3), zh72, by simp [zH0_len], (by decide : zH0.2 ≤ 7302250)⟩
        ·
          by_cases ec4 : x1 = 4
          ·
            exact ⟨_, zH0, zH0, fun X n d => qc50_4 (n := n + 999989) (d := d + 19) (g0 := zh0) (g16 := zh16) (ec0 := ec0) (ec1 := ec1) (ec2 := ec2) (ec3 := ec3) (ec4 := ec4), fun X n d => qm50_4_0 (n := n + 999990) (d := d + 19) (g72 := zh72) (ec0 := ec0) (ec1 := ec1) (ec2 := ec2) (ec3 := ec3) (ec4 := ec4), zh72, by simp [zH0_len], (by decide : zH0.2 ≤ 7302250)⟩
          ·
            by_cases ec5 : x1 = 5
            ·
              exact ⟨_, zH0, zH0, fun X n d => qc50_5 (n := n + 999988) (d := d + 19) (g0 := zh0) (g1 := zh1) (ec0 := ec0) (ec1 := ec1) (ec2 := ec2) (ec3 := ec3) (ec4 := ec4) (ec5 := ec5), fun X n d => qm50_5_0 (n := n + 999989) (d := d + 19) (g72 := zh72) (ec0 := ec0) (ec1 := ec1) (ec2 := ec2) (ec3 := ec3) (ec4 := ec4) (ec5 := ec5), zh72, by simp [zH0_len], (by decide : zH0.2 ≤ 7302250)⟩
            ·
              by_cases ec6 : x1 = 6
              ·
                exact ⟨_, zH0, zH0, fun X n d => qc50_6 (n := n + 999987) (d := d + 19) (g0 := zh0) (g16 := zh16) (ec0 := ec0) (ec1 := ec1) (ec2 := ec2) (ec3 := ec3) (ec4 := ec4) (ec5 := ec5) (ec6 := ec6), fun X n d => qm50_6_0 (n := n + 999988) (d := d + 19) (g72 := zh72) (ec0 := ec0) (ec1 := ec1) (ec2 := ec2) (ec3 := ec3) (ec4 := ec4) (ec5 := ec5) (ec6 := ec6), zh72, by simp [zH0_len], (by decide : zH0.2 ≤ 7302250)⟩
              ·
                by_cases ec7 : x1 = 7
                ·
                  exact ⟨_, zH0, zH0, fun X n d => qc50_7 (n := n + 999986) (d := d + 19) (g0 := zh0) (g1 := zh1) (ec0 := ec0) (ec1 := ec1) (ec2 := ec2) (ec3 := ec3) (ec4 := ec4) (ec5 := ec5) (ec6 := ec6) (ec7 := ec7), fun X n d => qm50_7_0 (n := n + 999987) (d := d + 19) (g72 := zh72) (ec0 := ec0) (ec1 := ec1) (ec2 := ec2) (ec3 := ec3) (ec4 := ec4) (ec5 := ec5) (ec6 := ec6) (ec7 := ec7), zh72, by simp [zH0_len], (by decide : zH0.2 ≤ 7302250)⟩
                ·
                  by_cases ec8 : x1 = 8
                  ·
                    exact ⟨_, zH0, zH0, fun X n d => qc50_8 (n := n + 999985) (d := d + 19) (g0 := zh0) (g33 := zh33) (ec0 := ec0) (ec1 := ec1) (ec2 := ec2) (ec3 := ec3) (ec4 := ec4) (ec5 := ec5) (ec6 := ec6) (ec7 := ec7) (ec8 := ec8), fun X n d => qm50_8_0 (n := n + 999986) (d := d + 19) (g72 := zh72) (ec0 := ec0) (ec1 := ec1) (ec2 := ec2) (ec3 := ec3) (ec4 := ec4) (ec5 := ec5) (ec6 := ec6) (ec7 := ec7) (ec8 := ec8), zh72, by simp [zH0_len], (by decide : zH0.2 ≤ 7302250)⟩
                  ·
                    by_cases ec9 : x1 = 9
                    ·
                      exact ⟨_, zH0, zH0, fun X n d => qc50_9 (n := n + 999984) (d := d + 19) (g0 := zh0) (g33 := zh33) (ec0 := ec0) (ec1 := ec1) (ec2 := ec2) (ec3 := ec3) (ec4 := ec4) (ec5 := ec5) (ec6 := ec6) (ec7 := ec7) (ec8 := ec8) (ec9 := ec9), fun X n d => qm50_9_0 (n := n + 999985) (d := d + 19) (g72 := zh72) (ec0 := ec0) (ec1 := ec1) (ec2 := ec2) (ec3 := ec3) (ec4 := ec4) (ec5 := ec5) (ec6 := ec6) (ec7 := ec7) (ec8 := ec8) (ec9 := ec9), zh72, by simp [zH0_len], (by decide : zH0.2 ≤ 7302250)⟩
                    ·
                      by_cases ec10 : x1 = 10
                      ·
                        exact ⟨_, zH0, zH0, fun X n d => qc50_10 (n := n + 999983) (d := d + 19) (g0 := zh0) (g13 := zh13) (ec0 := ec0) (ec1 := ec1) (ec2 := ec2) (ec3 := ec3) (ec4 := ec4) (ec5 := ec5) (ec6 := ec6) (ec7 := ec7) (ec8 := ec8) (ec9 := ec9) (ec10 := ec10), fun X n d => qm50_10_0 (n := n + 999984) (d := d + 19) (g72 := zh72) (ec0 := ec0) (ec1 := ec1) (ec2 := ec2) (ec3 := ec3) (ec4 := ec4) (ec5 := ec5) (ec6 := ec6) (ec7 := ec7) (ec8 := ec8) (ec9 := ec9) (ec10 := ec10), zh72, by simp [zH0_len], (by decide : zH0.2 ≤ 7302250)⟩
                      ·
                        by_cases ec11 : x1 = 11
                        ·
                          exact ⟨_, zH0, zH0, fun X n d => qc50_11 (n := n + 999982) (d := d + 19) (g0 := zh0) (g66 := zh66) (ec0 := ec0) (ec1 := ec1) (ec2 := ec2) (ec3 := ec3) (ec4 := ec4) (ec5 := ec5) (ec6 := ec6) (ec7 := ec7) (ec8 := ec8) (ec9 := ec9) (ec10 := ec10) (ec11 := ec11), fun X n d => qm50_11_0 (n := n + 999983) (d := d + 19) (g72 := zh72) (ec0 := ec0) (ec1 := ec1) (ec2 := ec2) (ec3 := ec3) (ec4 := ec4) (ec5 := ec5) (ec6 := ec6) (ec7 := ec7) (ec8 := ec8) (ec9 := ec9) (ec10 := ec10) (ec11 := ec11), zh72, by simp [zH0_len], (by decide : zH0.2 ≤ 7302250)⟩
                        ·
                          exact ⟨_, zH0, zH0, fun X n d => qc50_12 (n := n + 999983) (d := d + 19) (ec0 := ec0) (ec1 := ec1) (ec2 := ec2) (ec3 := ec3) (ec4 := ec4) (ec5 := ec5) (ec6 := ec6) (ec7 := ec7) (ec8 := ec8) (ec9 := ec9) (ec10 := ec10) (ec11 := ec11), fun X n d => qm50_12_0 (n := n + 999983) (d := d + 19) (ec0 := ec0) (ec1 := ec1) (ec2 := ec2) (ec3 := ec3) (ec4 := ec4) (ec5 := ec5) (ec6 := ec6) (ec7 := ec7) (ec8 := ec8) (ec9 := ec9) (ec10 := ec10) (ec11 := ec11), zh72, by simp [zH0_len], (by decide : zH0.2 ≤ 7302250)⟩

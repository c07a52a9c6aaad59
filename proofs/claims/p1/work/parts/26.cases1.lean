-- ===== cases of the law on a fresh object (by program) =====
set_option maxHeartbeats 40000000 in
theorem pc_16 (x1 : Int32) (x2 : Int32) (x3 : Int32) (x4 : Int32) (x5 : Int32)  : ∃ (v : Int32) (h1 h2 : aH), (∀ (X : aX) (n d : Nat), arun X (n + 1000000) (d + 20) zM160 0 [some (.ref 0), some (.int x1), some (.int x2), some (.int x3), some (.int x4), some (.int x5), none, none] [] zH0 = some (some (.int v), h1)) ∧ (∀ (X : aX) (n d : Nat), arun X (n + 1000000) (d + 20) zM242 0 [some (.ref 72), some (.int x1), some (.int x2), some (.int x3), some (.int x4), some (.int x5), none] [] h1 = some (some (.int v), h2)) ∧ h1.1[72]? = some (.inr (12, zF72)) ∧ h2.1.length ≤ 600000 ∧ h2.2 ≤ 7302250 := by
  by_cases ec0 : x1 < 0
  ·
    exact ⟨_, zH0, zH0, fun X n d => qc16_0 (n := n + 999981) (d := d + 16) (g0 := zh0) (g1 := zh1) (ec0 := ec0), fun X n d => qm16_0_0 (n := n + 999982) (d := d + 16) (g72 := zh72) (ec0 := ec0), zh72, by simp [zH0_len], (by decide : zH0.2 ≤ 7302250)⟩
  ·
    have ec1 : (-1) < x1 := by
      have l0 : ((-1) : Int32).toInt = -1 := by decide
      have l1 : (0 : Int32).toInt = 0 := by decide
      simp only [Int32.lt_iff_toInt_lt, Int32.le_iff_toInt_le, ← Int32.toInt_inj] at *
      omega
    exact ⟨_, zH0, zH0, fun X n d => qc16_1 (n := n + 999978) (d := d + 16) (g0 := zh0) (g1 := zh1) (ec0 := ec0) (ec1 := ec1), fun X n d => qm16_1_0 (n := n + 999979) (d := d + 16) (g72 := zh72) (ec0 := ec0) (ec1 := ec1), zh72, by simp [zH0_len], (by decide : zH0.2 ≤ 7302250)⟩
set_option maxHeartbeats 40000000 in
theorem pc_17 (x1 : Int32) (x2 : Int32) (x3 : Int32) (x4 : Int32)  : ∃ (v : Int32) (h1 h2 : aH), (∀ (X : aX) (n d : Nat), arun X (n + 1000000) (d + 20) zM161 0 [some (.ref 0), some (.int x1), some (.int x2), some (.int x3), some (.int x4)] [] zH0 = some (some (.int v), h1)) ∧ (∀ (X : aX) (n d : Nat), arun X (n + 1000000) (d + 20) zM243 0 [some (.ref 72), some (.int x1), some (.int x2), some (.int x3), some (.int x4)] [] h1 = some (some (.int v), h2)) ∧ h1.1[72]? = some (.inr (12, zF72)) ∧ h2.1.length ≤ 600000 ∧ h2.2 ≤ 7302250 := by
  by_cases ec0 : x1 < 0
  ·
    exact ⟨_, zH0, zH0, fun X n d => qc17_0 (n := n + 999981) (d := d + 16) (g0 := zh0) (g1 := zh1) (ec0 := ec0), fun X n d => qm17_0_0 (n := n + 999982) (d := d + 16) (g72 := zh72) (ec0 := ec0), zh72, by simp [zH0_len], (by decide : zH0.2 ≤ 7302250)⟩
  ·
    have ec1 : (-1) < x1 := by
      have l0 : ((-1) : Int32).toInt = -1 := by decide
      have l1 : (0 : Int32).toInt = 0 := by decide
      simp only [Int32.lt_iff_toInt_lt, Int32.le_iff_toInt_le, ← Int32.toInt_inj] at *
      omega
    exact ⟨_, zH0, zH0, fun X n d => qc17_1 (n := n + 999978) (d := d + 16) (g0 := zh0) (g1 := zh1) (ec0 := ec0) (ec1 := ec1), fun X n d => qm17_1_0 (n := n + 999979) (d := d + 16) (g72 := zh72) (ec0 := ec0) (ec1 := ec1), zh72, by simp [zH0_len], (by decide : zH0.2 ≤ 7302250)⟩
set_option maxHeartbeats 40000000 in
theorem pc_18 (x1 : Int32) (x2 : Int32)  : ∃ (v : Int32) (h1 h2 : aH), (∀ (X : aX) (n d : Nat), arun X (n + 1000000) (d + 20) zM162 0 [some (.ref 0), some (.int x1), some (.int x2)] [] zH0 = some (some (.int v), h1)) ∧ (∀ (X : aX) (n d : Nat), arun X (n + 1000000) (d + 20) zM244 0 [some (.ref 72), some (.int x1), some (.int x2)] [] h1 = some (some (.int v), h2)) ∧ h1.1[72]? = some (.inr (12, zF72)) ∧ h2.1.length ≤ 600000 ∧ h2.2 ≤ 7302250 := by
  by_cases ec0 : x1 < 0
  ·
    exact ⟨_, zH0, zH0, fun X n d => qc18_0 (n := n + 999981) (d := d + 16) (g0 := zh0) (g1 := zh1) (ec0 := ec0), fun X n d => qm18_0_0 (n := n + 999982) (d := d + 16) (g72 := zh72) (ec0 := ec0), zh72, by simp [zH0_len], (by decide : zH0.2 ≤ 7302250)⟩
  ·
    have ec1 : (-1) < x1 := by
      have l0 : ((-1) : Int32).toInt = -1 := by decide
      have l1 : (0 : Int32).toInt = 0 := by decide
      simp only [Int32.lt_iff_toInt_lt, Int32.le_iff_toInt_le, ← Int32.toInt_inj] at *
      omega
    exact ⟨_, zH0, zH0, fun X n d => qc18_1 (n := n + 999978) (d := d + 16) (g0 := zh0) (g1 := zh1) (ec0 := ec0) (ec1 := ec1), fun X n d => qm18_1_0 (n := n + 999979) (d := d + 16) (g72 := zh72) (ec0 := ec0) (ec1 := ec1), zh72, by simp [zH0_len], (by decide : zH0.2 ≤ 7302250)⟩
set_option maxHeartbeats 40000000 in
theorem pc_19 (x1 : Int32) (x2 : Int32) (x3 : Int32)  : ∃ (v : Int32) (h1 h2 : aH), (∀ (X : aX) (n d : Nat), arun X (n + 1000000) (d + 20) zM163 0 [some (.ref 0), some (.int x1), some (.int x2), some (.int x3)] [] zH0 = some (some (.int v), h1)) ∧ (∀ (X : aX) (n d : Nat), arun X (n + 1000000) (d + 20) zM245 0 [some (.ref 72), some (.int x1), some (.int x2), some (.int x3), none] [] h1 = some (some (.int v), h2)) ∧ h1.1[72]? = some (.inr (12, zF72)) ∧ h2.1.length ≤ 600000 ∧ h2.2 ≤ 7302250 := by
  by_cases ec0 : x1 < 0
  ·
    exact ⟨_, zH0, zH0, fun X n d => qc19_0 (n := n + 999989) (d := d + 17) (ec0 := ec0), fun X n d => qm19_0_0 (n := n + 999991) (d := d + 18) (ec0 := ec0), zh72, by simp [zH0_len], (by decide : zH0.2 ≤ 7302250)⟩
  ·
    by_cases ec1 : 7 < x1
    ·
      exact ⟨_, zH0, zH0, fun X n d => qc19_1 (n := n + 999986) (d := d + 17) (ec0 := ec0) (ec1 := ec1), fun X n d => qm19_1_0 (n := n + 999988) (d := d + 18) (ec0 := ec0) (ec1 := ec1), zh72, by simp [zH0_len], (by decide : zH0.2 ≤ 7302250)⟩
    ·
      by_cases ec2 : x2 < 0
      ·
        exact ⟨_, zH0, zH0, fun X n d => qc19_2 (n := n + 999985) (d := d + 17) (ec0 := ec0) (ec1 := ec1) (ec2 := ec2), fun X n d => qm19_2_0 (n := n + 999986) (d := d + 18) (ec0 := ec0) (ec1 := ec1) (ec2 := ec2), zh72, by simp [zH0_len], (by decide : zH0.2 ≤ 7302250)⟩
      ·
        by_cases ec3 : 5 < x2
        ·
          exact ⟨_, zH0, zH0, fun X n d => qc19_3 (n := n + 999985) (d := d + 17) (ec0 := ec0) (ec1 := ec1) (ec2 := ec2) (ec3 := ec3), fun X n d => qm19_3_0 (n := n + 999983) (d := d + 18) (ec0 := ec0) (ec1 := ec1) (ec2 := ec2) (ec3 := ec3), zh72, by simp [zH0_len], (by decide : zH0.2 ≤ 7302250)⟩
        ·
          by_cases ec4 : x3 < 0
          ·
            exact ⟨_, zH0, zH0, fun X n d => qc19_4 (n := n + 999983) (d := d + 17) (ec0 := ec0) (ec1 := ec1) (ec2 := ec2) (ec3 := ec3) (ec4 := ec4), fun X n d => qm19_4_0 (n := n + 999981) (d := d + 18) (ec0 := ec0) (ec1 := ec1) (ec2 := ec2) (ec3 := ec3) (ec4 := ec4), zh72, by simp [zH0_len], (by decide : zH0.2 ≤ 7302250)⟩
          ·
            by_cases ec5 : 99 < x3
            ·
              exact ⟨_, zH0, zH0, fun X n d => qc19_5 (n := n + 999980) (d := d + 17) (ec0 := ec0) (ec1 := ec1) (ec2 := ec2) (ec3 := ec3) (ec4 := ec4) (ec5 := ec5), fun X n d => qm19_5_0 (n := n + 999978) (d := d + 18) (ec0 := ec0) (ec1 := ec1) (ec2 := ec2) (ec3 := ec3) (ec4 := ec4) (ec5 := ec5), zh72, by simp [zH0_len], (by decide : zH0.2 ≤ 7302250)⟩
            ·
              have jc0 : ¬ (((x1 * 6) + x2) < 0 ∨ 48 ≤ Int32.toNatClampNeg ((x1 * 6) + x2)) := ix_col (vp_in_iff.mpr (by
                have l0 : (0 : Int32).toInt = 0 := by decide
                have l1 : (5 : Int32).toInt = 5 := by decide
                have l2 : (7 : Int32).toInt = 7 := by decide
                have l3 : (99 : Int32).toInt = 99 := by decide
                simp only [Int32.lt_iff_toInt_lt, Int32.le_iff_toInt_le, ← Int32.toInt_inj] at *
                omega))
                (vp_in_iff.mpr (by
                have l0 : (0 : Int32).toInt = 0 := by decide
                have l1 : (5 : Int32).toInt = 5 := by decide
                have l2 : (7 : Int32).toInt = 7 := by decide
                have l3 : (99 : Int32).toInt = 99 := by decide
                simp only [Int32.lt_iff_toInt_lt, Int32.le_iff_toInt_le, ← Int32.toInt_inj] at *
                omega))
              have jm0 : ¬ (((6 * x1) + x2) < 0 ∨ 48 ≤ Int32.toNatClampNeg ((6 * x1) + x2)) := ix_col2 (vp_in_iff.mpr (by
                have l0 : (0 : Int32).toInt = 0 := by decide
                have l1 : (5 : Int32).toInt = 5 := by decide
                have l2 : (7 : Int32).toInt = 7 := by decide
                have l3 : (99 : Int32).toInt = 99 := by decide
                simp only [Int32.lt_iff_toInt_lt, Int32.le_iff_toInt_le, ← Int32.toInt_inj] at *
                omega))
                (vp_in_iff.mpr (by
                have l0 : (0 : Int32).toInt = 0 := by decide
                have l1 : (5 : Int32).toInt = 5 := by decide
                have l2 : (7 : Int32).toInt = 7 := by decide
                have l3 : (99 : Int32).toInt = 99 := by decide
                simp only [Int32.lt_iff_toInt_lt, Int32.le_iff_toInt_le, ← Int32.toInt_inj] at *
                omega))
              exact ⟨_, ((zH0.1.set 64 (.inl (0, 48, .inl (upd (fun _ => 0) (Int32.toNatClampNeg ((x1 * 6) + x2)) x3)))), zH0.2), ((((zH0.1.set 64 (.inl (0, 48, .inl (upd (fun _ => 0) (Int32.toNatClampNeg ((x1 * 6) + x2)) x3)))), zH0.2).1.set 112 (.inl (0, 48, .inl (upd (fun _ => 0) (Int32.toNatClampNeg ((6 * x1) + x2)) x3)))), ((zH0.1.set 64 (.inl (0, 48, .inl (upd (fun _ => 0) (Int32.toNatClampNeg ((x1 * 6) + x2)) x3)))), zH0.2).2), fun X n d => qc19_6 (n := n + 999963) (d := d + 17) (g0 := zh0) (g63 := zh63) (g64 := zh64) (ec0 := ec0) (ec1 := ec1) (ec2 := ec2) (ec3 := ec3) (ec4 := ec4) (ec5 := ec5) (jc0 := jc0), fun X n d => qm19_6_0 (n := n + 999965) (d := d + 18) (g72 := (gs_ne zh72 (by decide))) (g112 := (gs_ne zh112 (by decide))) (ec0 := ec0) (ec1 := ec1) (ec2 := ec2) (ec3 := ec3) (ec4 := ec4) (ec5 := ec5) (jm0 := jm0), (gs_ne zh72 (by decide)), by simp [zH0_len], (by decide : zH0.2 ≤ 7302250)⟩
set_option maxHeartbeats 40000000 in
theorem pc_20 (x1 : Int32) (x2 : Int32) (x3 : Int32) (x4 : Int32)  : ∃ (v : Int32) (h1 h2 : aH), (∀ (X : aX) (n d : Nat), arun X (n + 1000000) (d + 20) zM164 0 [some (.ref 0), some (.int x1), some (.int x2), some (.int x3), some (.int x4), none] [] zH0 = some (some (.int v), h1)) ∧ (∀ (X : aX) (n d : Nat), arun X (n + 1000000) (d + 20) zM247 0 [some (.ref 72), some (.int x1), some (.int x2), some (.int x3), some (.int x4), none, none, none, none, none, none] [] h1 = some (some (.int v), h2)) ∧ h1.1[72]? = some (.inr (12, zF72)) ∧ h2.1.length ≤ 600000 ∧ h2.2 ≤ 7302250 := by
  by_cases ec0 : x1 < 0
  ·
    exact ⟨_, zH0, zH0, fun X n d => qc20_0 (n := n + 999981) (d := d + 16) (g0 := zh0) (g1 := zh1) (ec0 := ec0), fun X n d => qm20_0_0 (n := n + 999982) (d := d + 16) (g72 := zh72) (ec0 := ec0), zh72, by simp [zH0_len], (by decide : zH0.2 ≤ 7302250)⟩
  ·
    have ec1 : (-1) < x1 := by
      have l0 : ((-1) : Int32).toInt = -1 := by decide
      have l1 : (0 : Int32).toInt = 0 := by decide
      simp only [Int32.lt_iff_toInt_lt, Int32.le_iff_toInt_le, ← Int32.toInt_inj] at *
      omega
    exact ⟨_, zH0, zH0, fun X n d => qc20_1 (n := n + 999978) (d := d + 16) (g0 := zh0) (g1 := zh1) (ec0 := ec0) (ec1 := ec1), fun X n d => qm20_1_0 (n := n + 999979) (d := d + 16) (g72 := zh72) (ec0 := ec0) (ec1 := ec1), zh72, by simp [zH0_len], (by decide : zH0.2 ≤ 7302250)⟩
set_option maxHeartbeats 40000000 in
theorem pc_21 (x1 : Int32)  : ∃ (v : Int32) (h1 h2 : aH), (∀ (X : aX) (n d : Nat), arun X (n + 1000000) (d + 20) zM165 0 [some (.ref 0), some (.int x1), none] [] zH0 = some (some (.int v), h1)) ∧ (∀ (X : aX) (n d : Nat), arun X (n + 1000000) (d + 20) zM246 0 [some (.ref 72), some (.int x1), none] [] h1 = some (some (.int v), h2)) ∧ h1.1[72]? = some (.inr (12, zF72)) ∧ h2.1.length ≤ 600000 ∧ h2.2 ≤ 7302250 := by
  exact ⟨_, ((zH0.1.set 63 (.inr (3, [.ref 64, .int x1, .ref 65]))), zH0.2), ((((zH0.1.set 63 (.inr (3, [.ref 64, .int x1, .ref 65]))), zH0.2).1.set 72 (.inr (12, (zF72.set 52 (.int x1))))), ((zH0.1.set 63 (.inr (3, [.ref 64, .int x1, .ref 65]))), zH0.2).2), fun X n d => qc21_0 (n := n + 999990) (d := d + 19) (g0 := zh0) (g63 := zh63), fun X n d => qm21_0_0 (n := n + 999992) (d := d + 19) (g72 := (gs_ne zh72 (by decide))), (gs_ne zh72 (by decide)), by simp [zH0_len], (by decide : zH0.2 ≤ 7302250)⟩
set_option maxHeartbeats 40000000 in
theorem pc_22 (x1 : Int32) (x2 : Int32) (x3 : Int32)  : ∃ (v : Int32) (h1 h2 : aH), (∀ (X : aX) (n d : Nat), arun X (n + 1000000) (d + 20) zM166 0 [some (.ref 0), some (.int x1), some (.int x2), some (.int x3)] [] zH0 = some (some (.int v), h1)) ∧ (∀ (X : aX) (n d : Nat), arun X (n + 1000000) (d + 20) zM249 0 [some (.ref 72), some (.int x1), some (.int x2), some (.int x3), none, none, none, none] [] h1 = some (some (.int v), h2)) ∧ h1.1[72]? = some (.inr (12, zF72)) ∧ h2.1.length ≤ 600000 ∧ h2.2 ≤ 7302250 := by
  by_cases ec0 : x1 < 0
  ·
    exact ⟨_, zH0, zH0, fun X n d => qc22_0 (n := n + 999981) (d := d + 16) (g0 := zh0) (g1 := zh1) (ec0 := ec0), fun X n d => qm22_0_0 (n := n + 999982) (d := d + 16) (g72 := zh72) (ec0 := ec0), zh72, by simp [zH0_len], (by decide : zH0.2 ≤ 7302250)⟩
  ·
    have ec1 : (-1) < x1 := by
      have l0 : ((-1) : Int32).toInt = -1 := by decide
      have l1 : (0 : Int32).toInt = 0 := by decide
      simp only [Int32.lt_iff_toInt_lt, Int32.le_iff_toInt_le, ← Int32.toInt_inj] at *
      omega
    exact ⟨_, zH0, zH0, fun X n d => qc22_1 (n := n + 999978) (d := d + 16) (g0 := zh0) (g1 := zh1) (ec0 := ec0) (ec1 := ec1), fun X n d => qm22_1_0 (n := n + 999979) (d := d + 16) (g72 := zh72) (ec0 := ec0) (ec1 := ec1), zh72, by simp [zH0_len], (by decide : zH0.2 ≤ 7302250)⟩
set_option maxHeartbeats 40000000 in
theorem pc_23 (x1 : Int32) (x2 : Int32)  : ∃ (v : Int32) (h1 h2 : aH), (∀ (X : aX) (n d : Nat), arun X (n + 1000000) (d + 20) zM167 0 [some (.ref 0), some (.int x1), some (.int x2)] [] zH0 = some (some (.int v), h1)) ∧ (∀ (X : aX) (n d : Nat), arun X (n + 1000000) (d + 20) zM250 0 [some (.ref 72), some (.int x1), some (.int x2), none] [] h1 = some (some (.int v), h2)) ∧ h1.1[72]? = some (.inr (12, zF72)) ∧ h2.1.length ≤ 600000 ∧ h2.2 ≤ 7302250 := by
  by_cases ec0 : x1 < 1
  ·
    exact ⟨_, zH0, zH0, fun X n d => qc23_0 (n := n + 999991) (d := d + 18) (ec0 := ec0), fun X n d => qm23_0_0 (n := n + 999991) (d := d + 18) (ec0 := ec0), zh72, by simp [zH0_len], (by decide : zH0.2 ≤ 7302250)⟩
  ·
    by_cases ec1 : 4 < x1
    ·
      exact ⟨_, zH0, zH0, fun X n d => qc23_1 (n := n + 999988) (d := d + 18) (ec0 := ec0) (ec1 := ec1), fun X n d => qm23_1_0 (n := n + 999988) (d := d + 18) (ec0 := ec0) (ec1 := ec1), zh72, by simp [zH0_len], (by decide : zH0.2 ≤ 7302250)⟩
    ·
      by_cases ec2 : (0 + x1) ≤ 160
      ·
        have ec3 : ¬ x1 ≤ 0 := by
          have l0 : (0 : Int32).toInt = 0 := by decide
          have l1 : (1 : Int32).toInt = 1 := by decide
          have l2 : (4 : Int32).toInt = 4 := by decide
          have l3 : (160 : Int32).toInt = 160 := by decide
          simp only [Int32.lt_iff_toInt_lt, Int32.le_iff_toInt_le, ← Int32.toInt_inj] at *
          omega
        by_cases ec4 : x1 ≤ 1
        ·
          exact ⟨_, (((zH0.1.set 34 (.inl (3, 160, .inl (upd (fun _ => 0) (Int32.toNatClampNeg 0) (((x2 >>> (0 &&& 31))).toInt8.toInt32).toInt8.toInt32)))).set 33 (.inr (10, [.ref 34, .int 1, .ref 35, .ref 36, .ref 37, .ref 38, .ref 39, .int 0, .ref 40, .int 0, .int 0, .int 0, .int 0, .ref 40, .int 0]))), zH0.2), ((((((zH0.1.set 34 (.inl (3, 160, .inl (upd (fun _ => 0) (Int32.toNatClampNeg 0) (((x2 >>> (0 &&& 31))).toInt8.toInt32).toInt8.toInt32)))).set 33 (.inr (10, [.ref 34, .int 1, .ref 35, .ref 36, .ref 37, .ref 38, .ref 39, .int 0, .ref 40, .int 0, .int 0, .int 0, .int 0, .ref 40, .int 0]))), zH0.2).1.set 115 (.inl (3, 160, .inl (upd (fun _ => 0) (Int32.toNatClampNeg 0) (((x2 >>> (0 &&& 31))).toInt8.toInt32).toInt8.toInt32)))).set 72 (.inr (12, (zF72.set 54 (.int 1))))), (((zH0.1.set 34 (.inl (3, 160, .inl (upd (fun _ => 0) (Int32.toNatClampNeg 0) (((x2 >>> (0 &&& 31))).toInt8.toInt32).toInt8.toInt32)))).set 33 (.inr (10, [.ref 34, .int 1, .ref 35, .ref 36, .ref 37, .ref 38, .ref 39, .int 0, .ref 40, .int 0, .int 0, .int 0, .int 0, .ref 40, .int 0]))), zH0.2).2), fun X n d => qc23_2 (n := n + 999949) (d := d + 18) (g0 := zh0) (g33 := zh33) (g34 := zh34) (ec0 := ec0) (ec1 := ec1) (ec2 := ec2) (ec3 := ec3) (ec4 := ec4), fun X n d => qm23_2_0 (n := n + 999959) (d := d + 18) (g72 := (gs_ne (gs_ne zh72 (by decide)) (by decide))) (g115 := (gs_ne (gs_ne zh115 (by decide)) (by decide))) (ec0 := ec0) (ec1 := ec1) (ec2 := ec2) (ec3 := ec3) (ec4 := ec4), (gs_ne (gs_ne zh72 (by decide)) (by decide)), by simp [zH0_len], (by decide : zH0.2 ≤ 7302250)⟩
        ·
          by_cases ec5 : x1 ≤ 2
          ·
            exact ⟨_, (((((zH0.1.set 34 (.inl (3, 160, .inl (upd (fun _ => 0) (Int32.toNatClampNeg 0) (((x2 >>> (0 &&& 31))).toInt8.toInt32).toInt8.toInt32)))).set 33 (.inr (10, [.ref 34, .int 1, .ref 35, .ref 36, .ref 37, .ref 38, .ref 39, .int 0, .ref 40, .int 0, .int 0, .int 0, .int 0, .ref 40, .int 0]))).set 34 (.inl (3, 160, .inl (upd (upd (fun _ => 0) (Int32.toNatClampNeg 0) (((x2 >>> (0 &&& 31))).toInt8.toInt32).toInt8.toInt32) (Int32.toNatClampNeg 1) (((x2 >>> (8 &&& 31))).toInt8.toInt32).toInt8.toInt32)))).set 33 (.inr (10, [.ref 34, .int 2, .ref 35, .ref 36, .ref 37, .ref 38, .ref 39, .int 0, .ref 40, .int 0, .int 0, .int 0, .int 0, .ref 40, .int 0]))), zH0.2), ((((((((((zH0.1.set 34 (.inl (3, 160, .inl (upd (fun _ => 0) (Int32.toNatClampNeg 0) (((x2 >>> (0 &&& 31))).toInt8.toInt32).toInt8.toInt32)))).set 33 (.inr (10, [.ref 34, .int 1, .ref 35, .ref 36, .ref 37, .ref 38, .ref 39, .int 0, .ref 40, .int 0, .int 0, .int 0, .int 0, .ref 40, .int 0]))).set 34 (.inl (3, 160, .inl (upd (upd (fun _ => 0) (Int32.toNatClampNeg 0) (((x2 >>> (0 &&& 31))).toInt8.toInt32).toInt8.toInt32) (Int32.toNatClampNeg 1) (((x2 >>> (8 &&& 31))).toInt8.toInt32).toInt8.toInt32)))).set 33 (.inr (10, [.ref 34, .int 2, .ref 35, .ref 36, .ref 37, .ref 38, .ref 39, .int 0, .ref 40, .int 0, .int 0, .int 0, .int 0, .ref 40, .int 0]))), zH0.2).1.set 115 (.inl (3, 160, .inl (upd (fun _ => 0) (Int32.toNatClampNeg 0) (((x2 >>> (0 &&& 31))).toInt8.toInt32).toInt8.toInt32)))).set 72 (.inr (12, (zF72.set 54 (.int 1))))).set 115 (.inl (3, 160, .inl (upd (upd (fun _ => 0) (Int32.toNatClampNeg 0) (((x2 >>> (0 &&& 31))).toInt8.toInt32).toInt8.toInt32) (Int32.toNatClampNeg 1) (((x2 >>> (8 &&& 31))).toInt8.toInt32).toInt8.toInt32)))).set 72 (.inr (12, ((zF72.set 54 (.int 1)).set 54 (.int 2))))), (((((zH0.1.set 34 (.inl (3, 160, .inl (upd (fun _ => 0) (Int32.toNatClampNeg 0) (((x2 >>> (0 &&& 31))).toInt8.toInt32).toInt8.toInt32)))).set 33 (.inr (10, [.ref 34, .int 1, .ref 35, .ref 36, .ref 37, .ref 38, .ref 39, .int 0, .ref 40, .int 0, .int 0, .int 0, .int 0, .ref 40, .int 0]))).set 34 (.inl (3, 160, .inl (upd (upd (fun _ => 0) (Int32.toNatClampNeg 0) (((x2 >>> (0 &&& 31))).toInt8.toInt32).toInt8.toInt32) (Int32.toNatClampNeg 1) (((x2 >>> (8 &&& 31))).toInt8.toInt32).toInt8.toInt32)))).set 33 (.inr (10, [.ref 34, .int 2, .ref 35, .ref 36, .ref 37, .ref 38, .ref 39, .int 0, .ref 40, .int 0, .int 0, .int 0, .int 0, .ref 40, .int 0]))), zH0.2).2), fun X n d => qc23_3 (n := n + 999923) (d := d + 18) (g0 := zh0) (g33 := zh33) (g34 := zh34) (ec0 := ec0) (ec1 := ec1) (ec2 := ec2) (ec3 := ec3) (ec4 := ec4) (ec5 := ec5), fun X n d => qm23_3_0 (n := n + 999937) (d := d + 18) (g72 := (gs_ne (gs_ne (gs_ne (gs_ne zh72 (by decide)) (by decide)) (by decide)) (by decide))) (g115 := (gs_ne (gs_ne (gs_ne (gs_ne zh115 (by decide)) (by decide)) (by decide)) (by decide))) (ec0 := ec0) (ec1 := ec1) (ec2 := ec2) (ec3 := ec3) (ec4 := ec4) (ec5 := ec5), (gs_ne (gs_ne (gs_ne (gs_ne zh72 (by decide)) (by decide)) (by decide)) (by decide)), by simp [zH0_len], (by decide : zH0.2 ≤ 7302250)⟩
          ·
            by_cases ec6 : x1 ≤ 3
            ·
              exact ⟨_, (((((((zH0.1.set 34 (.inl (3, 160, .inl (upd (fun _ => 0) (Int32.toNatClampNeg 0) (((x2 >>> (0 &&& 31))).toInt8.toInt32).toInt8.toInt32)))).set 33 (.inr (10, [.ref 34, .int 1, .ref 35, .ref 36, .ref 37, .ref 38, .ref 39, .int 0, .ref 40, .int 0, .int 0, .int 0, .int 0, .ref 40, .int 0]))).set 34 (.inl (3, 160, .inl (upd (upd (fun _ => 0) (Int32.toNatClampNeg 0) (((x2 >>> (0 &&& 31))).toInt8.toInt32).toInt8.toInt32) (Int32.toNatClampNeg 1) (((x2 >>> (8 &&& 31))).toInt8.toInt32).toInt8.toInt32)))).set 33 (.inr (10, [.ref 34, .int 2, .ref 35, .ref 36, .ref 37, .ref 38, .ref 39, .int 0, .ref 40, .int 0, .int 0, .int 0, .int 0, .ref 40, .int 0]))).set 34 (.inl (3, 160, .inl (upd (upd (upd (fun _ => 0) (Int32.toNatClampNeg 0) (((x2 >>> (0 &&& 31))).toInt8.toInt32).toInt8.toInt32) (Int32.toNatClampNeg 1) (((x2 >>> (8 &&& 31))).toInt8.toInt32).toInt8.toInt32) (Int32.toNatClampNeg 2) (((x2 >>> (16 &&& 31))).toInt8.toInt32).toInt8.toInt32)))).set 33 (.inr (10, [.ref 34, .int 3, .ref 35, .ref 36, .ref 37, .ref 38, .ref 39, .int 0, .ref 40, .int 0, .int 0, .int 0, .int 0, .ref 40, .int 0]))), zH0.2), ((((((((((((((zH0.1.set 34 (.inl (3, 160, .inl (upd (fun _ => 0) (Int32.toNatClampNeg 0) (((x2 >>> (0 &&& 31))).toInt8.toInt32).toInt8.toInt32)))).set 33 (.inr (10, [.ref 34, .int 1, .ref 35, .ref 36, .ref 37, .ref 38, .ref 39, .int 0, .ref 40, .int 0, .int 0, .int 0, .int 0, .ref 40, .int 0]))).set 34 (.inl (3, 160, .inl (upd (upd (fun _ => 0) (Int32.toNatClampNeg 0) (((x2 >>> (0 &&& 31))).toInt8.toInt32).toInt8.toInt32) (Int32.toNatClampNeg 1) (((x2 >>> (8 &&& 31))).toInt8.toInt32).toInt8.toInt32)))).set 33 (.inr (10, [.ref 34, .int 2, .ref 35, .ref 36, .ref 37, .ref 38, .ref 39, .int 0, .ref 40, .int 0, .int 0, .int 0, .int 0, .ref 40, .int 0]))).set 34 (.inl (3, 160, .inl (upd (upd (upd (fun _ => 0) (Int32.toNatClampNeg 0) (((x2 >>> (0 &&& 31))).toInt8.toInt32).toInt8.toInt32) (Int32.toNatClampNeg 1) (((x2 >>> (8 &&& 31))).toInt8.toInt32).toInt8.toInt32) (Int32.toNatClampNeg 2) (((x2 >>> (16 &&& 31))).toInt8.toInt32).toInt8.toInt32)))).set 33 (.inr (10, [.ref 34, .int 3, .ref 35, .ref 36, .ref 37, .ref 38, .ref 39, .int 0, .ref 40, .int 0, .int 0, .int 0, .int 0, .ref 40, .int 0]))), zH0.2).1.set 115 (.inl (3, 160, .inl (upd (fun _ => 0) (Int32.toNatClampNeg 0) (((x2 >>> (0 &&& 31))).toInt8.toInt32).toInt8.toInt32)))).set 72 (.inr (12, (zF72.set 54 (.int 1))))).set 115 (.inl (3, 160, .inl (upd (upd (fun _ => 0) (Int32.toNatClampNeg 0) (((x2 >>> (0 &&& 31))).toInt8.toInt32).toInt8.toInt32) (Int32.toNatClampNeg 1) (((x2 >>> (8 &&& 31))).toInt8.toInt32).toInt8.toInt32)))).set 72 (.inr (12, ((zF72.set 54 (.int 1)).set 54 (.int 2))))).set 115 (.inl (3, 160, .inl (upd (upd (upd (fun _ => 0) (Int32.toNatClampNeg 0) (((x2 >>> (0 &&& 31))).toInt8.toInt32).toInt8.toInt32) (Int32.toNatClampNeg 1) (((x2 >>> (8 &&& 31))).toInt8.toInt32).toInt8.toInt32) (Int32.toNatClampNeg 2) (((x2 >>> (16 &&& 31))).toInt8.toInt32).toInt8.toInt32)))).set 72 (.inr (12, (((zF72.set 54 (.int 1)).set 54 (.int 2)).set 54 (.int 3))))), (((((((zH0.1.set 34 (.inl (3, 160, .inl (upd (fun _ => 0) (Int32.toNatClampNeg 0) (((x2 >>> (0 &&& 31))).toInt8.toInt32).toInt8.toInt32)))).set 33 (.inr (10, [.ref 34, .int 1, .ref 35, .ref 36, .ref 37, .ref 38, .ref 39, .int 0, .ref 40, .int 0, .int 0, .int 0, .int 0, .ref 40, .int 0]))).set 34 (.inl (3, 160, .inl (upd (upd (fun _ => 0) (Int32.toNatClampNeg 0) (((x2 >>> (0 &&& 31))).toInt8.toInt32).toInt8.toInt32) (Int32.toNatClampNeg 1) (((x2 >>> (8 &&& 31))).toInt8.toInt32).toInt8.toInt32)))).set 33 (.inr (10, [.ref 34, .int 2, .ref 35, .ref 36, .ref 37, .ref 38, .ref 39, .int 0, .ref 40, .int 0, .int 0, .int 0, .int 0, .ref 40, .int 0]))).set 34 (.inl (3, 160, .inl (upd (upd (upd (fun _ => 0) (Int32.toNatClampNeg 0) (((x2 >>> (0 &&& 31))).toInt8.toInt32).toInt8.toInt32) (Int32.toNatClampNeg 1) (((x2 >>> (8 &&& 31))).toInt8.toInt32).toInt8.toInt32) (Int32.toNatClampNeg 2) (((x2 >>> (16 &&& 31))).toInt8.toInt32).toInt8.toInt32)))).set 33 (.inr (10, [.ref 34, .int 3, .ref 35, .ref 36, .ref 37, .ref 38, .ref 39, .int 0, .ref 40, .int 0, .int 0, .int 0, .int 0, .ref 40, .int 0]))), zH0.2).2), fun X n d => qc23_4 (n := n + 999897) (d := d + 18) (g0 := zh0) (g33 := zh33) (g34 := zh34) (ec0 := ec0) (ec1 := ec1) (ec2 := ec2) (ec3 := ec3) (ec4 := ec4) (ec5 := ec5) (ec6 := ec6), fun X n d => qm23_4_0 (n := n + 999915) (d := d + 18) (g72 := (gs_ne (gs_ne (gs_ne (gs_ne (gs_ne (gs_ne zh72 (by decide)) (by decide)) (by decide)) (by decide)) (by decide)) (by decide))) (g115 := (gs_ne (gs_ne (gs_ne (gs_ne (gs_ne (gs_ne zh115 (by decide)) (by decide)) (by decide)) (by decide)) (by decide)) (by decide))) (ec0 := ec0) (ec1 := ec1) (ec2 := ec2) (ec3 := ec3) (ec4 := ec4) (ec5 := ec5) (ec6 := ec6), (gs_ne (gs_ne (gs_ne (gs_ne (gs_ne (gs_ne zh72 (by decide)) (by decide)) (by decide)) (by decide)) (by decide)) (by decide)), by simp [zH0_len], (by decide : zH0.2 ≤ 7302250)⟩
            ·
              exact ⟨_, (((((((((zH0.1.set 34 (.inl (3, 160, .inl (upd (fun _ => 0) (Int32.toNatClampNeg 0) (((x2 >>> (0 &&& 31))).toInt8.toInt32).toInt8.toInt32)))).set 33 (.inr (10, [.ref 34, .int 1, .ref 35, .ref 36, .ref 37, .ref 38, .ref 39, .int 0, .ref 40, .int 0, .int 0, .int 0, .int 0, .ref 40, .int 0]))).set 34 (.inl (3, 160, .inl (upd (upd (fun _ => 0) (Int32.toNatClampNeg 0) (((x2 >>> (0 &&& 31))).toInt8.toInt32).toInt8.toInt32) (Int32.toNatClampNeg 1) (((x2 >>> (8 &&& 31))).toInt8.toInt32).toInt8.toInt32)))).set 33 (.inr (10, [.ref 34, .int 2, .ref 35, .ref 36, .ref 37, .ref 38, .ref 39, .int 0, .ref 40, .int 0, .int 0, .int 0, .int 0, .ref 40, .int 0]))).set 34 (.inl (3, 160, .inl (upd (upd (upd (fun _ => 0) (Int32.toNatClampNeg 0) (((x2 >>> (0 &&& 31))).toInt8.toInt32).toInt8.toInt32) (Int32.toNatClampNeg 1) (((x2 >>> (8 &&& 31))).toInt8.toInt32).toInt8.toInt32) (Int32.toNatClampNeg 2) (((x2 >>> (16 &&& 31))).toInt8.toInt32).toInt8.toInt32)))).set 33 (.inr (10, [.ref 34, .int 3, .ref 35, .ref 36, .ref 37, .ref 38, .ref 39, .int 0, .ref 40, .int 0, .int 0, .int 0, .int 0, .ref 40, .int 0]))).set 34 (.inl (3, 160, .inl (upd (upd (upd (upd (fun _ => 0) (Int32.toNatClampNeg 0) (((x2 >>> (0 &&& 31))).toInt8.toInt32).toInt8.toInt32) (Int32.toNatClampNeg 1) (((x2 >>> (8 &&& 31))).toInt8.toInt32).toInt8.toInt32) (Int32.toNatClampNeg 2) (((x2 >>> (16 &&& 31))).toInt8.toInt32).toInt8.toInt32) (Int32.toNatClampNeg 3) (((x2 >>> (24 &&& 31))).toInt8.toInt32).toInt8.toInt32)))).set 33 (.inr (10, [.ref 34, .int 4, .ref 35, .ref 36, .ref 37, .ref 38, .ref 39, .int 0, .ref 40, .int 0, .int 0, .int 0, .int 0, .ref 40, .int 0]))), zH0.2), ((((((((((((((((((zH0.1.set 34 (.inl (3, 160, .inl (upd (fun _ => 0) (Int32.toNatClampNeg 0) (((x2 >>> (0 &&& 31))).toInt8.toInt32).toInt8.toInt32)))).set 33 (.inr (10, [.ref 34, .int 1, .ref 35, .ref 36, .ref 37, .ref 38, .ref 39, .int 0, .ref 40, .int 0, .int 0, .int 0, .int 0, .ref 40, .int 0]))).set 34 (.inl (3, 160, .inl (upd (upd (fun _ => 0) (Int32.toNatClampNeg 0) (((x2 >>> (0 &&& 31))).toInt8.toInt32).toInt8.toInt32) (Int32.toNatClampNeg 1) (((x2 >>> (8 &&& 31))).toInt8.toInt32).toInt8.toInt32)))).set 33 (.inr (10, [.ref 34, .int 2, .ref 35, .ref 36, .ref 37, .ref 38, .ref 39, .int 0, .ref 40, .int 0, .int 0, .int 0, .int 0, .ref 40, .int 0]))).set 34 (.inl (3, 160, .inl (upd (upd (upd (fun _ => 0) (Int32.toNatClampNeg 0) (((x2 >>> (0 &&& 31))).toInt8.toInt32).toInt8.toInt32) (Int32.toNatClampNeg 1) (((x2 >>> (8 &&& 31))).toInt8.toInt32).toInt8.toInt32) (Int32.toNatClampNeg 2) (((x2 >>> (16 &&& 31))).toInt8.toInt32).toInt8.toInt32)))).set 33 (.inr (10, [.ref 34, .int 3, .ref 35, .ref 36, .ref 37, .ref 38, .ref 39, .int 0, .ref 40, .int 0, .int 0, .int 0, .int 0, .ref 40, .int 0]))).set 34 (.inl (3, 160, .inl (upd (upd (upd (upd (fun _ => 0) (Int32.toNatClampNeg 0) (((x2 >>> (0 &&& 31))).toInt8.toInt32).toInt8.toInt32) (Int32.toNatClampNeg 1) (((x2 >>> (8 &&& 31))).toInt8.toInt32).toInt8.toInt32) (Int32.toNatClampNeg 2) (((x2 >>> (16 &&& 31))).toInt8.toInt32).toInt8.toInt32) (Int32.toNatClampNeg 3) (((x2 >>> (24 &&& 31))).toInt8.toInt32).toInt8.toInt32)))).set 33 (.inr (10, [.ref 34, .int 4, .ref 35, .ref 36, .ref 37, .ref 38, .ref 39, .int 0, .ref 40, .int 0, .int 0, .int 0, .int 0, .ref 40, .int 0]))), zH0.2).1.set 115 (.inl (3, 160, .inl (upd (fun _ => 0) (Int32.toNatClampNeg 0) (((x2 >>> (0 &&& 31))).toInt8.toInt32).toInt8.toInt32)))).set 72 (.inr (12, (zF72.set 54 (.int 1))))).set 115 (.inl (3, 160, .inl (upd (upd (fun _ => 0) (Int32.toNatClampNeg 0) (((x2 >>> (0 &&& 31))).toInt8.toInt32).toInt8.toInt32) (Int32.toNatClampNeg 1) (((x2 >>> (8 &&& 31))).toInt8.toInt32).toInt8.toInt32)))).set 72 (.inr (12, ((zF72.set 54 (.int 1)).set 54 (.int 2))))).set 115 (.inl (3, 160, .inl (upd (upd (upd (fun _ => 0) (Int32.toNatClampNeg 0) (((x2 >>> (0 &&& 31))).toInt8.toInt32).toInt8.toInt32) (Int32.toNatClampNeg 1) (((x2 >>> (8 &&& 31))).toInt8.toInt32).toInt8.toInt32) (Int32.toNatClampNeg 2) (((x2 >>> (16 &&& 31))).toInt8.toInt32).toInt8.toInt32)))).set 72 (.inr (12, (((zF72.set 54 (.int 1)).set 54 (.int 2)).set 54 (.int 3))))).set 115 (.inl (3, 160, .inl (upd (upd (upd (upd (fun _ => 0) (Int32.toNatClampNeg 0) (((x2 >>> (0 &&& 31))).toInt8.toInt32).toInt8.toInt32) (Int32.toNatClampNeg 1) (((x2 >>> (8 &&& 31))).toInt8.toInt32).toInt8.toInt32) (Int32.toNatClampNeg 2) (((x2 >>> (16 &&& 31))).toInt8.toInt32).toInt8.toInt32) (Int32.toNatClampNeg 3) (((x2 >>> (24 &&& 31))).toInt8.toInt32).toInt8.toInt32)))).set 72 (.inr (12, ((((zF72.set 54 (.int 1)).set 54 (.int 2)).set 54 (.int 3)).set 54 (.int 4))))), (((((((((zH0.1.set 34 (.inl (3, 160, .inl (upd (fun _ => 0) (Int32.toNatClampNeg 0) (((x2 >>> (0 &&& 31))).toInt8.toInt32).toInt8.toInt32)))).set 33 (.inr (10, [.ref 34, .int 1, .ref 35, .ref 36, .ref 37, .ref 38, .ref 39, .int 0, .ref 40, .int 0, .int 0, .int 0, .int 0, .ref 40, .int 0]))).set 34 (.inl (3, 160, .inl (upd (upd (fun _ => 0) (Int32.toNatClampNeg 0) (((x2 >>> (0 &&& 31))).toInt8.toInt32).toInt8.toInt32) (Int32.toNatClampNeg 1) (((x2 >>> (8 &&& 31))).toInt8.toInt32).toInt8.toInt32)))).set 33 (.inr (10, [.ref 34, .int 2, .ref 35, .ref 36, .ref 37, .ref 38, .ref 39, .int 0, .ref 40, .int 0, .int 0, .int 0, .int 0, .ref 40, .int 0]))).set 34 (.inl (3, 160, .inl (upd (upd (upd (fun _ => 0) (Int32.toNatClampNeg 0) (((x2 >>> (0 &&& 31))).toInt8.toInt32).toInt8.toInt32) (Int32.toNatClampNeg 1) (((x2 >>> (8 &&& 31))).toInt8.toInt32).toInt8.toInt32) (Int32.toNatClampNeg 2) (((x2 >>> (16 &&& 31))).toInt8.toInt32).toInt8.toInt32)))).set 33 (.inr (10, [.ref 34, .int 3, .ref 35, .ref 36, .ref 37, .ref 38, .ref 39, .int 0, .ref 40, .int 0, .int 0, .int 0, .int 0, .ref 40, .int 0]))).set 34 (.inl (3, 160, .inl (upd (upd (upd (upd (fun _ => 0) (Int32.toNatClampNeg 0) (((x2 >>> (0 &&& 31))).toInt8.toInt32).toInt8.toInt32) (Int32.toNatClampNeg 1) (((x2 >>> (8 &&& 31))).toInt8.toInt32).toInt8.toInt32) (Int32.toNatClampNeg 2) (((x2 >>> (16 &&& 31))).toInt8.toInt32).toInt8.toInt32) (Int32.toNatClampNeg 3) (((x2 >>> (24 &&& 31))).toInt8.toInt32).toInt8.toInt32)))).set 33 (.inr (10, [.ref 34, .int 4, .ref 35, .ref 36, .ref 37, .ref 38, .ref 39, .int 0, .ref 40, .int 0, .int 0, .int 0, .int 0, .ref 40, .int 0]))), zH0.2).2), fun X n d => qc23_5 (n := n + 999871) (d := d + 18) (g0 := zh0) (g33 := zh33) (g34 := zh34) (ec0 := ec0) (ec1 := ec1) (ec2 := ec2) (ec3 := ec3) (ec4 := ec4) (ec5 := ec5) (ec6 := ec6), fun X n d => qm23_5_0 (n := n + 999893) (d := d + 18) (g72 := (gs_ne (gs_ne (gs_ne (gs_ne (gs_ne (gs_ne (gs_ne (gs_ne zh72 (by decide)) (by decide)) (by decide)) (by decide)) (by decide)) (by decide)) (by decide)) (by decide))) (g115 := (gs_ne (gs_ne (gs_ne (gs_ne (gs_ne (gs_ne (gs_ne (gs_ne zh115 (by decide)) (by decide)) (by decide)) (by decide)) (by decide)) (by decide)) (by decide)) (by decide))) (ec0 := ec0) (ec1 := ec1) (ec2 := ec2) (ec3 := ec3) (ec4 := ec4) (ec5 := ec5) (ec6 := ec6), (gs_ne (gs_ne (gs_ne (gs_ne (gs_ne (gs_ne (gs_ne (gs_ne zh72 (by decide)) (by decide)) (by decide)) (by decide)) (by decide)) (by decide)) (by decide)) (by decide)), by simp [zH0_len], (by decide : zH0.2 ≤ 7302250)⟩
      ·
        exact ⟨_, zH0, zH0, fun X n d => qc23_6 (n := n + 999985) (d := d + 18) (g0 := zh0) (g33 := zh33) (ec0 := ec0) (ec1 := ec1) (ec2 := ec2), fun X n d => qm23_6_0 (n := n + 999987) (d := d + 18) (g72 := zh72) (ec0 := ec0) (ec1 := ec1) (ec2 := ec2), zh72, by simp [zH0_len], (by decide : zH0.2 ≤ 7302250)⟩
set_option maxHeartbeats 40000000 in
theorem pc_24 (x1 : Int32) (x2 : Int32)  : ∃ (v : Int32) (h1 h2 : aH), (∀ (X : aX) (n d : Nat), arun X (n + 1000000) (d + 20) zM168 0 [some (.ref 0), some (.int x1), some (.int x2)] [] zH0 = some (some (.int v), h1)) ∧ (∀ (X : aX) (n d : Nat), arun X (n + 1000000) (d + 20) zM264 0 [some (.ref 72), some (.int x1), some (.int x2)] [] h1 = some (some (.int v), h2)) ∧ h1.1[72]? = some (.inr (12, zF72)) ∧ h2.1.length ≤ 600000 ∧ h2.2 ≤ 7302250 := by
  by_cases ec0 : x1 < 0
  ·
    exact ⟨_, zH0, zH0, fun X n d => qc24_0 (n := n + 999994) (d := d + 18) (ec0 := ec0), fun X n d => qm24_0_0 (n := n + 999989) (d := d + 17) (ec0 := ec0), zh72, by simp [zH0_len], (by decide : zH0.2 ≤ 7302250)⟩
  ·
    by_cases ec1 : (x1 / 10) < 0
    ·
      by_cases em0 : 33 < x1
      ·
        exact ⟨_, zH0, zH0, fun X n d => qc24_1 (n := n + 999983) (d := d + 16) (ec0 := ec0) (ec1 := ec1), fun X n d => qm24_1_0 (n := n + 999986) (d := d + 17) (ec0 := ec0) (em0 := em0), zh72, by simp [zH0_len], (by decide : zH0.2 ≤ 7302250)⟩
      ·
        by_cases em1 : 3 < (x1 - x1 / 10 * 10)
        ·
          exact ⟨_, zH0, zH0, fun X n d => qc24_1 (n := n + 999983) (d := d + 16) (ec0 := ec0) (ec1 := ec1), fun X n d => qm24_1_1 (n := n + 999985) (d := d + 17) (ec0 := ec0) (em0 := em0) (em1 := em1), zh72, by simp [zH0_len], (by decide : zH0.2 ≤ 7302250)⟩
        ·
          by_cases em2 : x2 < 0
          ·
            exact ⟨_, zH0, zH0, fun X n d => qc24_1 (n := n + 999983) (d := d + 16) (ec0 := ec0) (ec1 := ec1), fun X n d => qm24_1_2 (n := n + 999985) (d := d + 17) (ec0 := ec0) (em0 := em0) (em1 := em1) (em2 := em2), zh72, by simp [zH0_len], (by decide : zH0.2 ≤ 7302250)⟩
          ·
            by_cases em3 : 9 < x2
            ·
              exact ⟨_, zH0, zH0, fun X n d => qc24_1 (n := n + 999983) (d := d + 16) (ec0 := ec0) (ec1 := ec1), fun X n d => qm24_1_3 (n := n + 999983) (d := d + 17) (ec0 := ec0) (em0 := em0) (em1 := em1) (em2 := em2) (em3 := em3), zh72, by simp [zH0_len], (by decide : zH0.2 ≤ 7302250)⟩
            ·
              exfalso
              exact (by
                have az1 := @az_t x1
                have l0 : (0 : Int32).toInt = 0 := by decide
                have l1 : (3 : Int32).toInt = 3 := by decide
                have l2 : (9 : Int32).toInt = 9 := by decide
                have l3 : (10 : Int32).toInt = 10 := by decide
                have l4 : (33 : Int32).toInt = 33 := by decide
                simp only [Int32.lt_iff_toInt_lt, Int32.le_iff_toInt_le, ← Int32.toInt_inj] at *
                omega)
    ·
      by_cases ec2 : 3 < (x1 / 10)
      ·
        by_cases em0 : 33 < x1
        ·
          exact ⟨_, zH0, zH0, fun X n d => qc24_2 (n := n + 999980) (d := d + 16) (ec0 := ec0) (ec1 := ec1) (ec2 := ec2), fun X n d => qm24_2_0 (n := n + 999986) (d := d + 17) (ec0 := ec0) (em0 := em0), zh72, by simp [zH0_len], (by decide : zH0.2 ≤ 7302250)⟩
        ·
          by_cases em1 : 3 < (x1 - x1 / 10 * 10)
          ·
            exact ⟨_, zH0, zH0, fun X n d => qc24_2 (n := n + 999980) (d := d + 16) (ec0 := ec0) (ec1 := ec1) (ec2 := ec2), fun X n d => qm24_2_1 (n := n + 999985) (d := d + 17) (ec0 := ec0) (em0 := em0) (em1 := em1), zh72, by simp [zH0_len], (by decide : zH0.2 ≤ 7302250)⟩
          ·
            by_cases em2 : x2 < 0
            ·
              exact ⟨_, zH0, zH0, fun X n d => qc24_2 (n := n + 999980) (d := d + 16) (ec0 := ec0) (ec1 := ec1) (ec2 := ec2), fun X n d => qm24_2_2 (n := n + 999985) (d := d + 17) (ec0 := ec0) (em0 := em0) (em1 := em1) (em2 := em2), zh72, by simp [zH0_len], (by decide : zH0.2 ≤ 7302250)⟩
            ·
              by_cases em3 : 9 < x2
              ·
                exact ⟨_, zH0, zH0, fun X n d => qc24_2 (n := n + 999980) (d := d + 16) (ec0 := ec0) (ec1 := ec1) (ec2 := ec2), fun X n d => qm24_2_3 (n := n + 999983) (d := d + 17) (ec0 := ec0) (em0 := em0) (em1 := em1) (em2 := em2) (em3 := em3), zh72, by simp [zH0_len], (by decide : zH0.2 ≤ 7302250)⟩
              ·
                exfalso
                exact (by
                  have az1 := @az_t x1
                  have l0 : (0 : Int32).toInt = 0 := by decide
                  have l1 : (3 : Int32).toInt = 3 := by decide
                  have l2 : (9 : Int32).toInt = 9 := by decide
                  have l3 : (10 : Int32).toInt = 10 := by decide
                  have l4 : (33 : Int32).toInt = 33 := by decide
                  simp only [Int32.lt_iff_toInt_lt, Int32.le_iff_toInt_le, ← Int32.toInt_inj] at *
                  omega)
      ·
        by_cases ec3 : 4 ≤ (x1 - x1 / 10 * 10)
        ·
          by_cases em0 : 33 < x1
          ·
            exact ⟨_, zH0, zH0, fun X n d => qc24_3 (n := n + 999979) (d := d + 16) (ec0 := ec0) (ec1 := ec1) (ec2 := ec2) (ec3 := ec3), fun X n d => qm24_3_0 (n := n + 999986) (d := d + 17) (ec0 := ec0) (em0 := em0), zh72, by simp [zH0_len], (by decide : zH0.2 ≤ 7302250)⟩
          ·
            have em1 : 3 < (x1 - x1 / 10 * 10) := by
              have az1 := @az_t x1
              have l0 : (0 : Int32).toInt = 0 := by decide
              have l1 : (3 : Int32).toInt = 3 := by decide
              have l2 : (4 : Int32).toInt = 4 := by decide
              have l3 : (10 : Int32).toInt = 10 := by decide
              have l4 : (33 : Int32).toInt = 33 := by decide
              simp only [Int32.lt_iff_toInt_lt, Int32.le_iff_toInt_le, ← Int32.toInt_inj] at *
              omega
            exact ⟨_, zH0, zH0, fun X n d => qc24_3 (n := n + 999979) (d := d + 16) (ec0 := ec0) (ec1 := ec1) (ec2 := ec2) (ec3 := ec3), fun X n d => qm24_3_1 (n := n + 999985) (d := d + 17) (ec0 := ec0) (em0 := em0) (em1 := em1), zh72, by simp [zH0_len], (by decide : zH0.2 ≤ 7302250)⟩
        ·
          by_cases ec4 : x2 < 0
          ·
            by_cases em0 : 33 < x1
            ·
              exact ⟨_, zH0, zH0, fun X n d => qc24_4 (n := n + 999979) (d := d + 16) (ec0 := ec0) (ec1 := ec1) (ec2 := ec2) (ec3 := ec3) (ec4 := ec4), fun X n d => qm24_4_0 (n := n + 999986) (d := d + 17) (ec0 := ec0) (em0 := em0), zh72, by simp [zH0_len], (by decide : zH0.2 ≤ 7302250)⟩
            ·
              have em1 : ¬ 3 < (x1 - x1 / 10 * 10) := by
                have az1 := @az_t x1
                have l0 : (0 : Int32).toInt = 0 := by decide
                have l1 : (3 : Int32).toInt = 3 := by decide
                have l2 : (4 : Int32).toInt = 4 := by decide
                have l3 : (10 : Int32).toInt = 10 := by decide
                have l4 : (33 : Int32).toInt = 33 := by decide
                simp only [Int32.lt_iff_toInt_lt, Int32.le_iff_toInt_le, ← Int32.toInt_inj] at *
                omega
              exact ⟨_, zH0, zH0, fun X n d => qc24_4 (n := n + 999979) (d := d + 16) (ec0 := ec0) (ec1 := ec1) (ec2 := ec2) (ec3 := ec3) (ec4 := ec4), fun X n d => qm24_4_1 (n := n + 999985) (d := d + 17) (ec0 := ec0) (ec4 := ec4) (em0 := em0) (em1 := em1), zh72, by simp [zH0_len], (by decide : zH0.2 ≤ 7302250)⟩
          ·
            by_cases ec5 : 9 < x2
            ·
              by_cases em0 : 33 < x1
              ·
                exact ⟨_, zH0, zH0, fun X n d => qc24_5 (n := n + 999979) (d := d + 16) (ec0 := ec0) (ec1 := ec1) (ec2 := ec2) (ec3 := ec3) (ec4 := ec4) (ec5 := ec5), fun X n d => qm24_5_0 (n := n + 999986) (d := d + 17) (ec0 := ec0) (em0 := em0), zh72, by simp [zH0_len], (by decide : zH0.2 ≤ 7302250)⟩
              ·
                have em1 : ¬ 3 < (x1 - x1 / 10 * 10) := by
                  have az1 := @az_t x1
                  have l0 : (0 : Int32).toInt = 0 := by decide
                  have l1 : (3 : Int32).toInt = 3 := by decide
                  have l2 : (4 : Int32).toInt = 4 := by decide
                  have l3 : (9 : Int32).toInt = 9 := by decide
                  have l4 : (10 : Int32).toInt = 10 := by decide
                  have l5 : (33 : Int32).toInt = 33 := by decide
                  simp only [Int32.lt_iff_toInt_lt, Int32.le_iff_toInt_le, ← Int32.toInt_inj] at *
                  omega
                exact ⟨_, zH0, zH0, fun X n d => qc24_5 (n := n + 999979) (d := d + 16) (ec0 := ec0) (ec1 := ec1) (ec2 := ec2) (ec3 := ec3) (ec4 := ec4) (ec5 := ec5), fun X n d => qm24_5_1 (n := n + 999983) (d := d + 17) (ec0 := ec0) (ec4 := ec4) (ec5 := ec5) (em0 := em0) (em1 := em1), zh72, by simp [zH0_len], (by decide : zH0.2 ≤ 7302250)⟩
            ·
              by_cases em0 : 33 < x1
              ·
                exfalso
                exact (by
                  have az1 := @az_t x1
                  have l0 : (0 : Int32).toInt = 0 := by decide
                  have l1 : (3 : Int32).toInt = 3 := by decide
                  have l2 : (4 : Int32).toInt = 4 := by decide
                  have l3 : (9 : Int32).toInt = 9 := by decide
                  have l4 : (10 : Int32).toInt = 10 := by decide
                  have l5 : (33 : Int32).toInt = 33 := by decide
                  simp only [Int32.lt_iff_toInt_lt, Int32.le_iff_toInt_le, ← Int32.toInt_inj] at *
                  omega)
              ·
                have em1 : ¬ 3 < (x1 - x1 / 10 * 10) := by
                  have az1 := @az_t x1
                  have l0 : (0 : Int32).toInt = 0 := by decide
                  have l1 : (3 : Int32).toInt = 3 := by decide
                  have l2 : (4 : Int32).toInt = 4 := by decide
                  have l3 : (9 : Int32).toInt = 9 := by decide
                  have l4 : (10 : Int32).toInt = 10 := by decide
                  have l5 : (33 : Int32).toInt = 33 := by decide
                  simp only [Int32.lt_iff_toInt_lt, Int32.le_iff_toInt_le, ← Int32.toInt_inj] at *
                  omega
                exact ⟨_, ((((zH0.1.set 35 (.inl (3, 2560, .inl ((va_cpy (fun _ => 0) (fun _ => 0) (Int32.toNatClampNeg 0) (Int32.toNatClampNeg 0) (Int32.toNatClampNeg 0)))))).set 36 (.inl (0, 16, .inl (upd (fun _ => 0) (Int32.toNatClampNeg 0) 0)))).set 33 (.inr (10, [.ref 34, .int 0, .ref 35, .ref 36, .ref 37, .ref 38, .ref 39, .int 0, .ref 40, .int 0, .int 0, .int 0, .int 0, .ref 40, .int (-1)]))), zH0.2), ((((((((((((zH0.1.set 35 (.inl (3, 2560, .inl ((va_cpy (fun _ => 0) (fun _ => 0) (Int32.toNatClampNeg 0) (Int32.toNatClampNeg 0) (Int32.toNatClampNeg 0)))))).set 36 (.inl (0, 16, .inl (upd (fun _ => 0) (Int32.toNatClampNeg 0) 0)))).set 33 (.inr (10, [.ref 34, .int 0, .ref 35, .ref 36, .ref 37, .ref 38, .ref 39, .int 0, .ref 40, .int 0, .int 0, .int 0, .int 0, .ref 40, .int (-1)]))), zH0.2).1.set 72 (.inr (12, (zF72.set 67 (.int 0))))).set 119 (.inl (0, 17, .inl (upd (fun _ => 0) (Int32.toNatClampNeg 0) 0)))).set 72 (.inr (12, ((((((zF72.set 67 (.int 0)).set 68 (.int 0)).set 64 (.int 0)).set 65 (.int (-1))).set 66 (.int 0)).set 65 (.int 0))))).set 120 (.inl (0, 1530, .inl (upd (fun _ => 0) (Int32.toNatClampNeg 0) 0)))).set 121 (.inl (0, 1530, .inl (upd (fun _ => 0) (Int32.toNatClampNeg 0) 0)))).set 119 (.inl (0, 17, .inl (upd (upd (fun _ => 0) (Int32.toNatClampNeg 0) 0) (Int32.toNatClampNeg 0) 1)))).set 72 (.inr (12, (((((((zF72.set 67 (.int 0)).set 68 (.int 0)).set 64 (.int 0)).set 65 (.int (-1))).set 66 (.int 0)).set 65 (.int 0)).set 54 (.int 0))))), ((((zH0.1.set 35 (.inl (3, 2560, .inl ((va_cpy (fun _ => 0) (fun _ => 0) (Int32.toNatClampNeg 0) (Int32.toNatClampNeg 0) (Int32.toNatClampNeg 0)))))).set 36 (.inl (0, 16, .inl (upd (fun _ => 0) (Int32.toNatClampNeg 0) 0)))).set 33 (.inr (10, [.ref 34, .int 0, .ref 35, .ref 36, .ref 37, .ref 38, .ref 39, .int 0, .ref 40, .int 0, .int 0, .int 0, .int 0, .ref 40, .int (-1)]))), zH0.2).2), fun X n d => qc24_6 (n := n + 999874) (d := d + 9) (g0 := zh0) (g1 := zh1) (g33 := zh33) (g34 := zh34) (g35 := zh35) (g36 := zh36) (ec0 := ec0) (ec1 := ec1) (ec2 := ec2) (ec3 := ec3) (ec4 := ec4) (ec5 := ec5), fun X n d => qm24_6_1 (n := n + 999900) (d := d + 11) (g72 := (gs_ne (gs_ne (gs_ne zh72 (by decide)) (by decide)) (by decide))) (g119 := (gs_ne (gs_ne (gs_ne zh119 (by decide)) (by decide)) (by decide))) (g120 := (gs_ne (gs_ne (gs_ne zh120 (by decide)) (by decide)) (by decide))) (g121 := (gs_ne (gs_ne (gs_ne zh121 (by decide)) (by decide)) (by decide))) (ec0 := ec0) (ec4 := ec4) (ec5 := ec5) (em0 := em0) (em1 := em1), (gs_ne (gs_ne (gs_ne zh72 (by decide)) (by decide)) (by decide)), by simp [zH0_len], (by decide : zH0.2 ≤ 7302250)⟩
set_option maxHeartbeats 40000000 in
theorem pc_25 (x1 : Int32) (x2 : Int32) (x3 : Int32)  : ∃ (v : Int32) (h1 h2 : aH), (∀ (X : aX) (n d : Nat), arun X (n + 1000000) (d + 20) zM169 0 [some (.ref 0), some (.int x1), some (.int x2), some (.int x3), none] [] zH0 = some (some (.int v), h1)) ∧ (∀ (X : aX) (n d : Nat), arun X (n + 1000000) (d + 20) zM266 0 [some (.ref 72), some (.int x1), some (.int x2), some (.int x3)] [] h1 = some (some (.int v), h2)) ∧ h1.1[72]? = some (.inr (12, zF72)) ∧ h2.1.length ≤ 600000 ∧ h2.2 ≤ 7302250 := by
  by_cases ec0 : x1 < 0
  ·
    exact ⟨_, zH0, zH0, fun X n d => qc25_0 (n := n + 999994) (d := d + 18) (ec0 := ec0), fun X n d => qm25_0_0 (n := n + 999989) (d := d + 17) (ec0 := ec0), zh72, by simp [zH0_len], (by decide : zH0.2 ≤ 7302250)⟩
  ·
    by_cases ec1 : (x1 / 10) < 0
    ·
      by_cases em0 : 33 < x1
      ·
        exact ⟨_, zH0, zH0, fun X n d => qc25_1 (n := n + 999983) (d := d + 16) (ec0 := ec0) (ec1 := ec1), fun X n d => qm25_1_0 (n := n + 999986) (d := d + 17) (ec0 := ec0) (em0 := em0), zh72, by simp [zH0_len], (by decide : zH0.2 ≤ 7302250)⟩
      ·
        by_cases em1 : 3 < (x1 - x1 / 10 * 10)
        ·
          exact ⟨_, zH0, zH0, fun X n d => qc25_1 (n := n + 999983) (d := d + 16) (ec0 := ec0) (ec1 := ec1), fun X n d => qm25_1_1 (n := n + 999985) (d := d + 17) (ec0 := ec0) (em0 := em0) (em1 := em1), zh72, by simp [zH0_len], (by decide : zH0.2 ≤ 7302250)⟩
        ·
          by_cases em2 : x2 < 0
          ·
            exact ⟨_, zH0, zH0, fun X n d => qc25_1 (n := n + 999983) (d := d + 16) (ec0 := ec0) (ec1 := ec1), fun X n d => qm25_1_2 (n := n + 999985) (d := d + 17) (ec0 := ec0) (em0 := em0) (em1 := em1) (em2 := em2), zh72, by simp [zH0_len], (by decide : zH0.2 ≤ 7302250)⟩
          ·
            by_cases em3 : 9 < x2
            ·
              exact ⟨_, zH0, zH0, fun X n d => qc25_1 (n := n + 999983) (d := d + 16) (ec0 := ec0) (ec1 := ec1), fun X n d => qm25_1_3 (n := n + 999983) (d := d + 17) (ec0 := ec0) (em0 := em0) (em1 := em1) (em2 := em2) (em3 := em3), zh72, by simp [zH0_len], (by decide : zH0.2 ≤ 7302250)⟩
            ·
              by_cases em4 : x3 < 0
              ·
                exact ⟨_, zH0, zH0, fun X n d => qc25_1 (n := n + 999983) (d := d + 16) (ec0 := ec0) (ec1 := ec1), fun X n d => qm25_1_4 (n := n + 999982) (d := d + 17) (ec0 := ec0) (em0 := em0) (em1 := em1) (em2 := em2) (em3 := em3) (em4 := em4), zh72, by simp [zH0_len], (by decide : zH0.2 ≤ 7302250)⟩
              ·
                by_cases em5 : 3649 < x3
                ·
                  exact ⟨_, zH0, zH0, fun X n d => qc25_1 (n := n + 999983) (d := d + 16) (ec0 := ec0) (ec1 := ec1), fun X n d => qm25_1_5 (n := n + 999980) (d := d + 17) (ec0 := ec0) (em0 := em0) (em1 := em1) (em2 := em2) (em3 := em3) (em4 := em4) (em5 := em5), zh72, by simp [zH0_len], (by decide : zH0.2 ≤ 7302250)⟩
                ·
                  exfalso
                  exact (by
                    have az1 := @az_t x1
                    have l0 : (0 : Int32).toInt = 0 := by decide
                    have l1 : (3 : Int32).toInt = 3 := by decide
                    have l2 : (9 : Int32).toInt = 9 := by decide
                    have l3 : (10 : Int32).toInt = 10 := by decide
                    have l4 : (33 : Int32).toInt = 33 := by decide
                    have l5 : (3649 : Int32).toInt = 3649 := by decide
                    simp only [Int32.lt_iff_toInt_lt, Int32.le_iff_toInt_le, ← Int32.toInt_inj] at *
                    omega)
    ·
      by_cases ec2 : 3 < (x1 / 10)
      ·
        by_cases em0 : 33 < x1
        ·
          exact ⟨_, zH0, zH0, fun X n d => qc25_2 (n := n + 999980) (d := d + 16) (ec0 := ec0) (ec1 := ec1) (ec2 := ec2), fun X n d => qm25_2_0 (n := n + 999986) (d := d + 17) (ec0 := ec0) (em0 := em0), zh72, by simp [zH0_len], (by decide : zH0.2 ≤ 7302250)⟩
        ·
          by_cases em1 : 3 < (x1 - x1 / 10 * 10)
          ·
            exact ⟨_, zH0, zH0, fun X n d => qc25_2 (n := n + 999980) (d := d + 16) (ec0 := ec0) (ec1 := ec1) (ec2 := ec2), fun X n d => qm25_2_1 (n := n + 999985) (d := d + 17) (ec0 := ec0) (em0 := em0) (em1 := em1), zh72, by simp [zH0_len], (by decide : zH0.2 ≤ 7302250)⟩
          ·
            by_cases em2 : x2 < 0
            ·
              exact ⟨_, zH0, zH0, fun X n d => qc25_2 (n := n + 999980) (d := d + 16) (ec0 := ec0) (ec1 := ec1) (ec2 := ec2), fun X n d => qm25_2_2 (n := n + 999985) (d := d + 17) (ec0 := ec0) (em0 := em0) (em1 := em1) (em2 := em2), zh72, by simp [zH0_len], (by decide : zH0.2 ≤ 7302250)⟩
            ·
              by_cases em3 : 9 < x2
              ·
                exact ⟨_, zH0, zH0, fun X n d => qc25_2 (n := n + 999980) (d := d + 16) (ec0 := ec0) (ec1 := ec1) (ec2 := ec2), fun X n d => qm25_2_3 (n := n + 999983) (d := d + 17) (ec0 := ec0) (em0 := em0) (em1 := em1) (em2 := em2) (em3 := em3), zh72, by simp [zH0_len], (by decide : zH0.2 ≤ 7302250)⟩
              ·
                by_cases em4 : x3 < 0
                ·
                  exact ⟨_, zH0, zH0, fun X n d => qc25_2 (n := n + 999980) (d := d + 16) (ec0 := ec0) (ec1 := ec1) (ec2 := ec2), fun X n d => qm25_2_4 (n := n + 999982) (d := d + 17) (ec0 := ec0) (em0 := em0) (em1 := em1) (em2 := em2) (em3 := em3) (em4 := em4), zh72, by simp [zH0_len], (by decide : zH0.2 ≤ 7302250)⟩
                ·
                  by_cases em5 : 3649 < x3
                  ·
                    exact ⟨_, zH0, zH0, fun X n d => qc25_2 (n := n + 999980) (d := d + 16) (ec0 := ec0) (ec1 := ec1) (ec2 := ec2), fun X n d => qm25_2_5 (n := n + 999980) (d := d + 17) (ec0 := ec0) (em0 := em0) (em1 := em1) (em2 := em2) (em3 := em3) (em4 := em4) (em5 := em5), zh72, by simp [zH0_len], (by decide : zH0.2 ≤ 7302250)⟩
                  ·
                    exfalso
                    exact (by
                      have az1 := @az_t x1
                      have l0 : (0 : Int32).toInt = 0 := by decide
                      have l1 : (3 : Int32).toInt = 3 := by decide
                      have l2 : (9 : Int32).toInt = 9 := by decide
                      have l3 : (10 : Int32).toInt = 10 := by decide
                      have l4 : (33 : Int32).toInt = 33 := by decide
                      have l5 : (3649 : Int32).toInt = 3649 := by decide
                      simp only [Int32.lt_iff_toInt_lt, Int32.le_iff_toInt_le, ← Int32.toInt_inj] at *
                      omega)
      ·
        by_cases ec3 : 4 ≤ (x1 - x1 / 10 * 10)
        ·
          by_cases em0 : 33 < x1
          ·
            exact ⟨_, zH0, zH0, fun X n d => qc25_3 (n := n + 999979) (d := d + 16) (ec0 := ec0) (ec1 := ec1) (ec2 := ec2) (ec3 := ec3), fun X n d => qm25_3_0 (n := n + 999986) (d := d + 17) (ec0 := ec0) (em0 := em0), zh72, by simp [zH0_len], (by decide : zH0.2 ≤ 7302250)⟩
          ·
            have em1 : 3 < (x1 - x1 / 10 * 10) := by
              have az1 := @az_t x1
              have l0 : (0 : Int32).toInt = 0 := by decide
              have l1 : (3 : Int32).toInt = 3 := by decide
              have l2 : (4 : Int32).toInt = 4 := by decide
              have l3 : (10 : Int32).toInt = 10 := by decide
              have l4 : (33 : Int32).toInt = 33 := by decide
              simp only [Int32.lt_iff_toInt_lt, Int32.le_iff_toInt_le, ← Int32.toInt_inj] at *
              omega
            exact ⟨_, zH0, zH0, fun X n d => qc25_3 (n := n + 999979) (d := d + 16) (ec0 := ec0) (ec1 := ec1) (ec2 := ec2) (ec3 := ec3), fun X n d => qm25_3_1 (n := n + 999985) (d := d + 17) (ec0 := ec0) (em0 := em0) (em1 := em1), zh72, by simp [zH0_len], (by decide : zH0.2 ≤ 7302250)⟩
        ·
          by_cases ec4 : x2 < 0
          ·
            by_cases em0 : 33 < x1
            ·
              exact ⟨_, zH0, zH0, fun X n d => qc25_4 (n := n + 999979) (d := d + 16) (ec0 := ec0) (ec1 := ec1) (ec2 := ec2) (ec3 := ec3) (ec4 := ec4), fun X n d => qm25_4_0 (n := n + 999986) (d := d + 17) (ec0 := ec0) (em0 := em0), zh72, by simp [zH0_len], (by decide : zH0.2 ≤ 7302250)⟩
            ·
              have em1 : ¬ 3 < (x1 - x1 / 10 * 10) := by
                have az1 := @az_t x1
                have l0 : (0 : Int32).toInt = 0 := by decide
                have l1 : (3 : Int32).toInt = 3 := by decide
                have l2 : (4 : Int32).toInt = 4 := by decide
                have l3 : (10 : Int32).toInt = 10 := by decide
                have l4 : (33 : Int32).toInt = 33 := by decide
                simp only [Int32.lt_iff_toInt_lt, Int32.le_iff_toInt_le, ← Int32.toInt_inj] at *
                omega
              exact ⟨_, zH0, zH0, fun X n d => qc25_4 (n := n + 999979) (d := d + 16) (ec0 := ec0) (ec1 := ec1) (ec2 := ec2) (ec3 := ec3) (ec4 := ec4), fun X n d => qm25_4_1 (n := n + 999985) (d := d + 17) (ec0 := ec0) (ec4 := ec4) (em0 := em0) (em1 := em1), zh72, by simp [zH0_len], (by decide : zH0.2 ≤ 7302250)⟩
          ·
            by_cases ec5 : 9 < x2
            ·
              by_cases em0 : 33 < x1
              ·
                exact ⟨_, zH0, zH0, fun X n d => qc25_5 (n := n + 999979) (d := d + 16) (ec0 := ec0) (ec1 := ec1) (ec2 := ec2) (ec3 := ec3) (ec4 := ec4) (ec5 := ec5), fun X n d => qm25_5_0 (n := n + 999986) (d := d + 17) (ec0 := ec0) (em0 := em0), zh72, by simp [zH0_len], (by decide : zH0.2 ≤ 7302250)⟩
              ·
                have em1 : ¬ 3 < (x1 - x1 / 10 * 10) := by
                  have az1 := @az_t x1
                  have l0 : (0 : Int32).toInt = 0 := by decide
                  have l1 : (3 : Int32).toInt = 3 := by decide
                  have l2 : (4 : Int32).toInt = 4 := by decide
                  have l3 : (9 : Int32).toInt = 9 := by decide
                  have l4 : (10 : Int32).toInt = 10 := by decide
                  have l5 : (33 : Int32).toInt = 33 := by decide
                  simp only [Int32.lt_iff_toInt_lt, Int32.le_iff_toInt_le, ← Int32.toInt_inj] at *
                  omega
                exact ⟨_, zH0, zH0, fun X n d => qc25_5 (n := n + 999979) (d := d + 16) (ec0 := ec0) (ec1 := ec1) (ec2 := ec2) (ec3 := ec3) (ec4 := ec4) (ec5 := ec5), fun X n d => qm25_5_1 (n := n + 999983) (d := d + 17) (ec0 := ec0) (ec4 := ec4) (ec5 := ec5) (em0 := em0) (em1 := em1), zh72, by simp [zH0_len], (by decide : zH0.2 ≤ 7302250)⟩
            ·
              by_cases ec6 : x3 < 0
              ·
                by_cases em0 : 33 < x1
                ·
                  exact ⟨_, zH0, zH0, fun X n d => qc25_6 (n := n + 999979) (d := d + 16) (ec0 := ec0) (ec1 := ec1) (ec2 := ec2) (ec3 := ec3) (ec4 := ec4) (ec5 := ec5) (ec6 := ec6), fun X n d => qm25_6_0 (n := n + 999986) (d := d + 17) (ec0 := ec0) (em0 := em0), zh72, by simp [zH0_len], (by decide : zH0.2 ≤ 7302250)⟩
                ·
                  have em1 : ¬ 3 < (x1 - x1 / 10 * 10) := by
                    have az1 := @az_t x1
                    have l0 : (0 : Int32).toInt = 0 := by decide
                    have l1 : (3 : Int32).toInt = 3 := by decide
                    have l2 : (4 : Int32).toInt = 4 := by decide
                    have l3 : (9 : Int32).toInt = 9 := by decide
                    have l4 : (10 : Int32).toInt = 10 := by decide
                    have l5 : (33 : Int32).toInt = 33 := by decide
                    simp only [Int32.lt_iff_toInt_lt, Int32.le_iff_toInt_le, ← Int32.toInt_inj] at *
                    omega
                  exact ⟨_, zH0, zH0, fun X n d => qc25_6 (n := n + 999979) (d := d + 16) (ec0 := ec0) (ec1 := ec1) (ec2 := ec2) (ec3 := ec3) (ec4 := ec4) (ec5 := ec5) (ec6 := ec6), fun X n d => qm25_6_1 (n := n + 999982) (d := d + 17) (ec0 := ec0) (ec4 := ec4) (ec5 := ec5) (ec6 := ec6) (em0 := em0) (em1 := em1), zh72, by simp [zH0_len], (by decide : zH0.2 ≤ 7302250)⟩
              ·
                by_cases ec7 : 3649 < x3
                ·
                  by_cases em0 : 33 < x1
                  ·
                    exact ⟨_, zH0, zH0, fun X n d => qc25_7 (n := n + 999979) (d := d + 16) (ec0 := ec0) (ec1 := ec1) (ec2 := ec2) (ec3 := ec3) (ec4 := ec4) (ec5 := ec5) (ec6 := ec6) (ec7 := ec7), fun X n d => qm25_7_0 (n := n + 999986) (d := d + 17) (ec0 := ec0) (em0 := em0), zh72, by simp [zH0_len], (by decide : zH0.2 ≤ 7302250)⟩
                  ·
                    have em1 : ¬ 3 < (x1 - x1 / 10 * 10) := by
                      have az1 := @az_t x1
                      have l0 : (0 : Int32).toInt = 0 := by decide
                      have l1 : (3 : Int32).toInt = 3 := by decide
                      have l2 : (4 : Int32).toInt = 4 := by decide
                      have l3 : (9 : Int32).toInt = 9 := by decide
                      have l4 : (10 : Int32).toInt = 10 := by decide
                      have l5 : (33 : Int32).toInt = 33 := by decide
                      have l6 : (3649 : Int32).toInt = 3649 := by decide
                      simp only [Int32.lt_iff_toInt_lt, Int32.le_iff_toInt_le, ← Int32.toInt_inj] at *
                      omega
                    exact ⟨_, zH0, zH0, fun X n d => qc25_7 (n := n + 999979) (d := d + 16) (ec0 := ec0) (ec1 := ec1) (ec2 := ec2) (ec3 := ec3) (ec4 := ec4) (ec5 := ec5) (ec6 := ec6) (ec7 := ec7), fun X n d => qm25_7_1 (n := n + 999980) (d := d + 17) (ec0 := ec0) (ec4 := ec4) (ec5 := ec5) (ec6 := ec6) (ec7 := ec7) (em0 := em0) (em1 := em1), zh72, by simp [zH0_len], (by decide : zH0.2 ≤ 7302250)⟩
                ·
                  by_cases em0 : 33 < x1
                  ·
                    exfalso
                    exact (by
                      have az1 := @az_t x1
                      have l0 : (0 : Int32).toInt = 0 := by decide
                      have l1 : (3 : Int32).toInt = 3 := by decide
                      have l2 : (4 : Int32).toInt = 4 := by decide
                      have l3 : (9 : Int32).toInt = 9 := by decide
                      have l4 : (10 : Int32).toInt = 10 := by decide
                      have l5 : (33 : Int32).toInt = 33 := by decide
                      have l6 : (3649 : Int32).toInt = 3649 := by decide
                      simp only [Int32.lt_iff_toInt_lt, Int32.le_iff_toInt_le, ← Int32.toInt_inj] at *
                      omega)
                  ·
                    have em1 : ¬ 3 < (x1 - x1 / 10 * 10) := by
                      have az1 := @az_t x1
                      have l0 : (0 : Int32).toInt = 0 := by decide
                      have l1 : (3 : Int32).toInt = 3 := by decide
                      have l2 : (4 : Int32).toInt = 4 := by decide
                      have l3 : (9 : Int32).toInt = 9 := by decide
                      have l4 : (10 : Int32).toInt = 10 := by decide
                      have l5 : (33 : Int32).toInt = 33 := by decide
                      have l6 : (3649 : Int32).toInt = 3649 := by decide
                      simp only [Int32.lt_iff_toInt_lt, Int32.le_iff_toInt_le, ← Int32.toInt_inj] at *
                      omega
                    exact ⟨_, zH0, zH0, fun X n d => qc25_8 (n := n + 999976) (d := d + 16) (g0 := zh0) (g33 := zh33) (ec0 := ec0) (ec1 := ec1) (ec2 := ec2) (ec3 := ec3) (ec4 := ec4) (ec5 := ec5) (ec6 := ec6) (ec7 := ec7), fun X n d => qm25_8_1 (n := n + 999977) (d := d + 17) (g72 := zh72) (ec0 := ec0) (ec4 := ec4) (ec5 := ec5) (ec6 := ec6) (ec7 := ec7) (em0 := em0) (em1 := em1), zh72, by simp [zH0_len], (by decide : zH0.2 ≤ 7302250)⟩
set_option maxHeartbeats 40000000 in
theorem pc_26 (x1 : Int32) (x2 : Int32) (x3 : Int32) (x4 : Int32)  : ∃ (v : Int32) (h1 h2 : aH), (∀ (X : aX) (n d : Nat), arun X (n + 1000000) (d + 20) zM170 0 [some (.ref 0), some (.int x1), some (.int x2), some (.int x3), some (.int x4)] [] zH0 = some (some (.int v), h1)) ∧ (∀ (X : aX) (n d : Nat), arun X (n + 1000000) (d + 20) zM274 0 [some (.ref 72), some (.int x1), some (.int x2), some (.int x3), some (.int x4)] [] h1 = some (some (.int v), h2)) ∧ h1.1[72]? = some (.inr (12, zF72)) ∧ h2.1.length ≤ 600000 ∧ h2.2 ≤ 7302250 := by
  by_cases ec0 : x1 < 0
  ·
    exact ⟨_, zH0, zH0, fun X n d => qc26_0 (n := n + 999981) (d := d + 16) (g0 := zh0) (g1 := zh1) (ec0 := ec0), fun X n d => qm26_0_0 (n := n + 999982) (d := d + 16) (g72 := zh72) (ec0 := ec0), zh72, by simp [zH0_len], (by decide : zH0.2 ≤ 7302250)⟩
  ·
    have ec1 : (-1) < x1 := by
      have l0 : ((-1) : Int32).toInt = -1 := by decide
      have l1 : (0 : Int32).toInt = 0 := by decide
      simp only [Int32.lt_iff_toInt_lt, Int32.le_iff_toInt_le, ← Int32.toInt_inj] at *
      omega
    exact ⟨_, zH0, zH0, fun X n d => qc26_1 (n := n + 999978) (d := d + 16) (g0 := zh0) (g1 := zh1) (ec0 := ec0) (ec1 := ec1), fun X n d => qm26_1_0 (n := n + 999979) (d := d + 16) (g72 := zh72) (ec0 := ec0) (ec1 := ec1), zh72, by simp [zH0_len], (by decide : zH0.2 ≤ 7302250)⟩
set_option maxHeartbeats 40000000 in
theorem pc_27 (x1 : Int32) (x2 : Int32) (x3 : Int32) (x4 : Int32)  : ∃ (v : Int32) (h1 h2 : aH), (∀ (X : aX) (n d : Nat), arun X (n + 1000000) (d + 20) zM171 0 [some (.ref 0), some (.int x1), some (.int x2), some (.int x3), some (.int x4), none] [] zH0 = some (some (.int v), h1)) ∧ (∀ (X : aX) (n d : Nat), arun X (n + 1000000) (d + 20) zM278 0 [some (.ref 72), some (.int x1), some (.int x2), some (.int x3), some (.int x4)] [] h1 = some (some (.int v), h2)) ∧ h1.1[72]? = some (.inr (12, zF72)) ∧ h2.1.length ≤ 600000 ∧ h2.2 ≤ 7302250 := by
  by_cases ec0 : x1 < 0
  ·
    exact ⟨_, zH0, zH0, fun X n d => qc27_0 (n := n + 999981) (d := d + 16) (g0 := zh0) (g1 := zh1) (ec0 := ec0), fun X n d => qm27_0_0 (n := n + 999982) (d := d + 16) (g72 := zh72) (ec0 := ec0), zh72, by simp [zH0_len], (by decide : zH0.2 ≤ 7302250)⟩
  ·
    have ec1 : (-1) < x1 := by
      have l0 : ((-1) : Int32).toInt = -1 := by decide
      have l1 : (0 : Int32).toInt = 0 := by decide
      simp only [Int32.lt_iff_toInt_lt, Int32.le_iff_toInt_le, ← Int32.toInt_inj] at *
      omega
    exact ⟨_, zH0, zH0, fun X n d => qc27_1 (n := n + 999978) (d := d + 16) (g0 := zh0) (g1 := zh1) (ec0 := ec0) (ec1 := ec1), fun X n d => qm27_1_0 (n := n + 999979) (d := d + 16) (g72 := zh72) (ec0 := ec0) (ec1 := ec1), zh72, by simp [zH0_len], (by decide : zH0.2 ≤ 7302250)⟩
set_option maxHeartbeats 40000000 in
theorem pc_28 (x1 : Int32) (x2 : Int32)  : ∃ (v : Int32) (h1 h2 : aH), (∀ (X : aX) (n d : Nat), arun X (n + 1000000) (d + 20) zM172 0 [some (.ref 0), some (.int x1), some (.int x2)] [] zH0 = some (some (.int v), h1)) ∧ (∀ (X : aX) (n d : Nat), arun X (n + 1000000) (d + 20) zM279 0 [some (.ref 72), some (.int x1), some (.int x2)] [] h1 = some (some (.int v), h2)) ∧ h1.1[72]? = some (.inr (12, zF72)) ∧ h2.1.length ≤ 600000 ∧ h2.2 ≤ 7302250 := by
  by_cases ec0 : x1 < 0
  ·
    exact ⟨_, zH0, zH0, fun X n d => qc28_0 (n := n + 999981) (d := d + 16) (g0 := zh0) (g1 := zh1) (ec0 := ec0), fun X n d => qm28_0_0 (n := n + 999982) (d := d + 16) (g72 := zh72) (ec0 := ec0), zh72, by simp [zH0_len], (by decide : zH0.2 ≤ 7302250)⟩
  ·
    have ec1 : (-1) < x1 := by
      have l0 : ((-1) : Int32).toInt = -1 := by decide
      have l1 : (0 : Int32).toInt = 0 := by decide
      simp only [Int32.lt_iff_toInt_lt, Int32.le_iff_toInt_le, ← Int32.toInt_inj] at *
      omega
    exact ⟨_, zH0, zH0, fun X n d => qc28_1 (n := n + 999978) (d := d + 16) (g0 := zh0) (g1 := zh1) (ec0 := ec0) (ec1 := ec1), fun X n d => qm28_1_0 (n := n + 999979) (d := d + 16) (g72 := zh72) (ec0 := ec0) (ec1 := ec1), zh72, by simp [zH0_len], (by decide : zH0.2 ≤ 7302250)⟩
set_option maxHeartbeats 40000000 in
theorem pc_29 (x1 : Int32)  : ∃ (v : Int32) (h1 h2 : aH), (∀ (X : aX) (n d : Nat), arun X (n + 1000000) (d + 20) zM173 0 [some (.ref 0), some (.int x1)] [] zH0 = some (some (.int v), h1)) ∧ (∀ (X : aX) (n d : Nat), arun X (n + 1000000) (d + 20) zM280 0 [some (.ref 72), some (.int x1), none, none, none] [] h1 = some (some (.int v), h2)) ∧ h1.1[72]? = some (.inr (12, zF72)) ∧ h2.1.length ≤ 600000 ∧ h2.2 ≤ 7302250 := by
  by_cases ec0 : x1 < 0
  ·
    exact ⟨_, zH0, zH0, fun X n d => qc29_0 (n := n + 999981) (d := d + 16) (g0 := zh0) (g1 := zh1) (ec0 := ec0), fun X n d => qm29_0_0 (n := n + 999982) (d := d + 16) (g72 := zh72) (ec0 := ec0), zh72, by simp [zH0_len], (by decide : zH0.2 ≤ 7302250)⟩
  ·
    have ec1 : (-1) < x1 := by
      have l0 : ((-1) : Int32).toInt = -1 := by decide
      have l1 : (0 : Int32).toInt = 0 := by decide
      simp only [Int32.lt_iff_toInt_lt, Int32.le_iff_toInt_le, ← Int32.toInt_inj] at *
      omega
    exact ⟨_, zH0, zH0, fun X n d => qc29_1 (n := n + 999978) (d := d + 16) (g0 := zh0) (g1 := zh1) (ec0 := ec0) (ec1 := ec1), fun X n d => qm29_1_0 (n := n + 999979) (d := d + 16) (g72 := zh72) (ec0 := ec0) (ec1 := ec1), zh72, by simp [zH0_len], (by decide : zH0.2 ≤ 7302250)⟩
set_option maxHeartbeats 40000000 in
theorem pc_30 (x1 : Int32) (x2 : Int32) (x3 : Int32)  : ∃ (v : Int32) (h1 h2 : aH), (∀ (X : aX) (n d : Nat), arun X (n + 1000000) (d + 20) zM174 0 [some (.ref 0), some (.int x1), some (.int x2), some (.int x3)] [] zH0 = some (some (.int v), h1)) ∧ (∀ (X : aX) (n d : Nat), arun X (n + 1000000) (d + 20) zM281 0 [some (.ref 72), some (.int x1), some (.int x2), some (.int x3), none, none, none, none, none, none] [] h1 = some (some (.int v), h2)) ∧ h1.1[72]? = some (.inr (12, zF72)) ∧ h2.1.length ≤ 600000 ∧ h2.2 ≤ 7302250 := by
  by_cases ec0 : x1 < 0
  ·
    exact ⟨_, zH0, zH0, fun X n d => qc30_0 (n := n + 999981) (d := d + 16) (g0 := zh0) (g1 := zh1) (ec0 := ec0), fun X n d => qm30_0_0 (n := n + 999982) (d := d + 16) (g72 := zh72) (ec0 := ec0), zh72, by simp [zH0_len], (by decide : zH0.2 ≤ 7302250)⟩
  ·
    have ec1 : (-1) < x1 := by
      have l0 : ((-1) : Int32).toInt = -1 := by decide
      have l1 : (0 : Int32).toInt = 0 := by decide
      simp only [Int32.lt_iff_toInt_lt, Int32.le_iff_toInt_le, ← Int32.toInt_inj] at *
      omega
    exact ⟨_, zH0, zH0, fun X n d => qc30_1 (n := n + 999978) (d := d + 16) (g0 := zh0) (g1 := zh1) (ec0 := ec0) (ec1 := ec1), fun X n d => qm30_1_0 (n := n + 999979) (d := d + 16) (g72 := zh72) (ec0 := ec0) (ec1 := ec1), zh72, by simp [zH0_len], (by decide : zH0.2 ≤ 7302250)⟩
set_option maxHeartbeats 40000000 in
theorem pc_32 (x1 : Int32)  : ∃ (v : Int32) (h1 h2 : aH), (∀ (X : aX) (n d : Nat), arun X (n + 1000000) (d + 20) zM176 0 [some (.ref 0), some (.int x1)] [] zH0 = some (some (.int v), h1)) ∧ (∀ (X : aX) (n d : Nat), arun X (n + 1000000) (d + 20) zM289 0 [some (.ref 72), some (.int x1)] [] h1 = some (some (.int v), h2)) ∧ h1.1[72]? = some (.inr (12, zF72)) ∧ h2.1.length ≤ 600000 ∧ h2.2 ≤ 7302250 := by
  by_cases ec0 : x1 < 0
  ·
    exact ⟨_, zH0, zH0, fun X n d => qc32_0 (n := n + 999987) (d := d + 18) (g0 := zh0) (g48 := zh48) (ec0 := ec0), fun X n d => qm32_0_0 (n := n + 999988) (d := d + 18) (g72 := zh72) (ec0 := ec0), zh72, by simp [zH0_len], (by decide : zH0.2 ≤ 7302250)⟩
  ·
    have ec1 : (-1) < x1 := by
      have l0 : ((-1) : Int32).toInt = -1 := by decide
      have l1 : (0 : Int32).toInt = 0 := by decide
      simp only [Int32.lt_iff_toInt_lt, Int32.le_iff_toInt_le, ← Int32.toInt_inj] at *
      omega
    have em0 : (-2) < x1 := by
      have l0 : ((-2) : Int32).toInt = -2 := by decide
      have l1 : ((-1) : Int32).toInt = -1 := by decide
      have l2 : (0 : Int32).toInt = 0 := by decide
      simp only [Int32.lt_iff_toInt_lt, Int32.le_iff_toInt_le, ← Int32.toInt_inj] at *
      omega
    exact ⟨_, zH0, zH0, fun X n d => qc32_1 (n := n + 999984) (d := d + 18) (g0 := zh0) (g48 := zh48) (ec0 := ec0) (ec1 := ec1), fun X n d => qm32_1_0 (n := n + 999985) (d := d + 18) (g72 := zh72) (ec0 := ec0) (em0 := em0), zh72, by simp [zH0_len], (by decide : zH0.2 ≤ 7302250)⟩

-- ===== a call with loops (by program) =====
set_option maxHeartbeats 40000000 in
set_option maxRecDepth 20000 in
theorem pc_45 (x1 : Int32) (x2 : Int32) (x3 : Int32) : ∃ (v : Int32) (h1 h2 : aH), (∀ (X : aX) (n d : Nat), arun X (n + 1000000) (d + 20) zM189 0 [some (.ref 0), some (.int x1), some (.int x2), some (.int x3)] [] zH0 = some (some (.int v), h1)) ∧ (∀ (X : aX) (n d : Nat), arun X (n + 1000000) (d + 20) zM320 0 [some (.ref 72), some (.int x1), some (.int x2), some (.int x3), none] [] h1 = some (some (.int v), h2)) ∧ h1.1[72]? = some (.inr (12, zF72)) ∧ h2.1.length ≤ 600000 ∧ h2.2 ≤ 7302250 := by
  by_cases ec0 : x1 < 0
  ·
    refine ⟨(-1), zH0, zH0, fun X n d => ?_, fun X n d => ?_, zh72, ?_, ?_⟩
    ·
      refine (r_iloadn f189_0 rfl).trans ?_
      have hc1 : arun X (n + 999998) (d + 19) zM142 0 [some (.int x1)] [] zH0 = some ((some (.int 0)), zH0) := by
        refine (r_iloadn f142_0 rfl).trans ?_
        refine (r_iconst (v := 0) f142_1 rfl).trans ?_
        refine (r_iconst (v := 5) f142_2 rfl).trans ?_
        have hc2 : arun X (n + 999994) (d + 18) zM137 0 [some (.int x1), some (.int 0), some (.int 5)] [] zH0 = some ((some (.int 0)), zH0) := by
          refine (r_iloadn f137_0 rfl).trans ?_
          refine (r_iloadn f137_1 rfl).trans ?_
          refine (r_icmp_gt_t f137_2 ec0).trans ?_
          refine (r_iconst (v := 0) f137_14 rfl).trans ?_
          exact r_zreturn f137_15 rfl (by decide)
        refine (r_stat (as := [.int x1, .int 0, .int 5]) (v := (some (.int 0))) (h1 := zH0) f142_3 rfl zg137 rfl rfl rfl rfl rfl rfl hc2).trans ?_
        exact r_zreturn f142_6 rfl (by decide)
      refine (r_stat (as := [.int x1]) (v := (some (.int 0))) (h1 := zH0) f189_1 rfl zg142 rfl rfl rfl rfl rfl rfl hc1).trans ?_
      refine (r_if_eq_t f189_4 (by decide)).trans ?_
      refine (r_iconst (v := (-1)) f189_22 rfl).trans ?_
      exact r_ireturn f189_23 rfl
    ·
      refine (r_iloadn f320_0 rfl).trans ?_
      have hc1 : arun X (n + 999998) (d + 19) zM318 0 [some (.int x1)] [] zH0 = some ((some (.int 0)), zH0) := by
        refine (r_iloadn f318_0 rfl).trans ?_
        refine (r_iconst (v := 0) f318_1 rfl).trans ?_
        refine (r_iconst (v := 5) f318_2 rfl).trans ?_
        have hc2 : arun X (n + 999994) (d + 18) zM196 0 [some (.int x1), some (.int 0), some (.int 5)] [] zH0 = some ((some (.int 0)), zH0) := by
          refine (r_iloadn f196_0 rfl).trans ?_
          refine (r_iloadn f196_1 rfl).trans ?_
          refine (r_icmp_lt_t f196_2 ec0).trans ?_
          refine (r_iconst (v := 0) f196_14 rfl).trans ?_
          exact r_zreturn f196_15 rfl (by decide)
        refine (r_stat (as := [.int x1, .int 0, .int 5]) (v := (some (.int 0))) (h1 := zH0) f318_3 rfl zg196 rfl rfl rfl rfl rfl rfl hc2).trans ?_
        exact r_zreturn f318_6 rfl (by decide)
      refine (r_stat (as := [.int x1]) (v := (some (.int 0))) (h1 := zH0) f320_1 rfl zg318 rfl rfl rfl rfl rfl rfl hc1).trans ?_
      refine (r_if_eq_t f320_4 (by decide)).trans ?_
      refine (r_iconst (v := (-1)) f320_22 rfl).trans ?_
      exact r_ireturn f320_23 rfl
    · exact Nat.le_trans (Nat.le_of_eq zH0_len) (by decide)
    · show zH0.2 ≤ 7302250
      decide
  ·
    by_cases ec1 : 5 < x1
    ·
      refine ⟨(-1), zH0, zH0, fun X n d => ?_, fun X n d => ?_, zh72, ?_, ?_⟩
      ·
        refine (r_iloadn f189_0 rfl).trans ?_
        have hc1 : arun X (n + 999998) (d + 19) zM142 0 [some (.int x1)] [] zH0 = some ((some (.int 0)), zH0) := by
          refine (r_iloadn f142_0 rfl).trans ?_
          refine (r_iconst (v := 0) f142_1 rfl).trans ?_
          refine (r_iconst (v := 5) f142_2 rfl).trans ?_
          have hc2 : arun X (n + 999994) (d + 18) zM137 0 [some (.int x1), some (.int 0), some (.int 5)] [] zH0 = some ((some (.int 0)), zH0) := by
            refine (r_iloadn f137_0 rfl).trans ?_
            refine (r_iloadn f137_1 rfl).trans ?_
            refine (r_icmp_gt_f f137_2 ec0).trans ?_
            refine (r_iloadn f137_5 rfl).trans ?_
            refine (r_iloadn f137_6 rfl).trans ?_
            refine (r_icmp_gt_t f137_7 ec1).trans ?_
            refine (r_iconst (v := 0) f137_14 rfl).trans ?_
            exact r_zreturn f137_15 rfl (by decide)
          refine (r_stat (as := [.int x1, .int 0, .int 5]) (v := (some (.int 0))) (h1 := zH0) f142_3 rfl zg137 rfl rfl rfl rfl rfl rfl hc2).trans ?_
          exact r_zreturn f142_6 rfl (by decide)
        refine (r_stat (as := [.int x1]) (v := (some (.int 0))) (h1 := zH0) f189_1 rfl zg142 rfl rfl rfl rfl rfl rfl hc1).trans ?_
        refine (r_if_eq_t f189_4 (by decide)).trans ?_
        refine (r_iconst (v := (-1)) f189_22 rfl).trans ?_
        exact r_ireturn f189_23 rfl
      ·
        refine (r_iloadn f320_0 rfl).trans ?_
        have hc1 : arun X (n + 999998) (d + 19) zM318 0 [some (.int x1)] [] zH0 = some ((some (.int 0)), zH0) := by
          refine (r_iloadn f318_0 rfl).trans ?_
          refine (r_iconst (v := 0) f318_1 rfl).trans ?_
          refine (r_iconst (v := 5) f318_2 rfl).trans ?_
          have hc2 : arun X (n + 999994) (d + 18) zM196 0 [some (.int x1), some (.int 0), some (.int 5)] [] zH0 = some ((some (.int 0)), zH0) := by
            refine (r_iloadn f196_0 rfl).trans ?_
            refine (r_iloadn f196_1 rfl).trans ?_
            refine (r_icmp_lt_f f196_2 ec0).trans ?_
            refine (r_iloadn f196_5 rfl).trans ?_
            refine (r_iloadn f196_6 rfl).trans ?_
            refine (r_icmp_gt_t f196_7 ec1).trans ?_
            refine (r_iconst (v := 0) f196_14 rfl).trans ?_
            exact r_zreturn f196_15 rfl (by decide)
          refine (r_stat (as := [.int x1, .int 0, .int 5]) (v := (some (.int 0))) (h1 := zH0) f318_3 rfl zg196 rfl rfl rfl rfl rfl rfl hc2).trans ?_
          exact r_zreturn f318_6 rfl (by decide)
        refine (r_stat (as := [.int x1]) (v := (some (.int 0))) (h1 := zH0) f320_1 rfl zg318 rfl rfl rfl rfl rfl rfl hc1).trans ?_
        refine (r_if_eq_t f320_4 (by decide)).trans ?_
        refine (r_iconst (v := (-1)) f320_22 rfl).trans ?_
        exact r_ireturn f320_23 rfl
      · exact Nat.le_trans (Nat.le_of_eq zH0_len) (by decide)
      · show zH0.2 ≤ 7302250
        decide
    ·
      by_cases ec2 : x2 < 0
      ·
        refine ⟨(-1), zH0, zH0, fun X n d => ?_, fun X n d => ?_, zh72, ?_, ?_⟩
        ·
          refine (r_iloadn f189_0 rfl).trans ?_
          have hc1 : arun X (n + 999998) (d + 19) zM142 0 [some (.int x1)] [] zH0 = some ((some (.int 1)), zH0) := by
            refine (r_iloadn f142_0 rfl).trans ?_
            refine (r_iconst (v := 0) f142_1 rfl).trans ?_
            refine (r_iconst (v := 5) f142_2 rfl).trans ?_
            have hc2 : arun X (n + 999994) (d + 18) zM137 0 [some (.int x1), some (.int 0), some (.int 5)] [] zH0 = some ((some (.int 1)), zH0) := by
              refine (r_iloadn f137_0 rfl).trans ?_
              refine (r_iloadn f137_1 rfl).trans ?_
              refine (r_icmp_gt_f f137_2 ec0).trans ?_
              refine (r_iloadn f137_5 rfl).trans ?_
              refine (r_iloadn f137_6 rfl).trans ?_
              refine (r_icmp_gt_f f137_7 ec1).trans ?_
              refine (r_iconst (v := 1) f137_10 rfl).trans ?_
              refine (r_goto f137_11).trans ?_
              exact r_zreturn f137_15 rfl (by decide)
            refine (r_stat (as := [.int x1, .int 0, .int 5]) (v := (some (.int 1))) (h1 := zH0) f142_3 rfl zg137 rfl rfl rfl rfl rfl rfl hc2).trans ?_
            exact r_zreturn f142_6 rfl (by decide)
          refine (r_stat (as := [.int x1]) (v := (some (.int 1))) (h1 := zH0) f189_1 rfl zg142 rfl rfl rfl rfl rfl rfl hc1).trans ?_
          refine (r_if_eq_f f189_4 (by decide)).trans ?_
          refine (r_iloadn f189_7 rfl).trans ?_
          refine (r_iconst (v := 0) f189_8 rfl).trans ?_
          refine (r_iconst (v := 4) f189_9 rfl).trans ?_
          have hc3 : arun X (n + 999993) (d + 19) zM137 0 [some (.int x2), some (.int 0), some (.int 4)] [] zH0 = some ((some (.int 0)), zH0) := by
            refine (r_iloadn f137_0 rfl).trans ?_
            refine (r_iloadn f137_1 rfl).trans ?_
            refine (r_icmp_gt_t f137_2 ec2).trans ?_
            refine (r_iconst (v := 0) f137_14 rfl).trans ?_
            exact r_zreturn f137_15 rfl (by decide)
          refine (r_stat (as := [.int x2, .int 0, .int 4]) (v := (some (.int 0))) (h1 := zH0) f189_10 rfl zg137 rfl rfl rfl rfl rfl rfl hc3).trans ?_
          refine (r_if_eq_t f189_13 (by decide)).trans ?_
          refine (r_iconst (v := (-1)) f189_22 rfl).trans ?_
          exact r_ireturn f189_23 rfl
        ·
          refine (r_iloadn f320_0 rfl).trans ?_
          have hc1 : arun X (n + 999998) (d + 19) zM318 0 [some (.int x1)] [] zH0 = some ((some (.int 1)), zH0) := by
            refine (r_iloadn f318_0 rfl).trans ?_
            refine (r_iconst (v := 0) f318_1 rfl).trans ?_
            refine (r_iconst (v := 5) f318_2 rfl).trans ?_
            have hc2 : arun X (n + 999994) (d + 18) zM196 0 [some (.int x1), some (.int 0), some (.int 5)] [] zH0 = some ((some (.int 1)), zH0) := by
              refine (r_iloadn f196_0 rfl).trans ?_
              refine (r_iloadn f196_1 rfl).trans ?_
              refine (r_icmp_lt_f f196_2 ec0).trans ?_
              refine (r_iloadn f196_5 rfl).trans ?_
              refine (r_iloadn f196_6 rfl).trans ?_
              refine (r_icmp_gt_f f196_7 ec1).trans ?_
              refine (r_iconst (v := 1) f196_10 rfl).trans ?_
              refine (r_goto f196_11).trans ?_
              exact r_zreturn f196_15 rfl (by decide)
            refine (r_stat (as := [.int x1, .int 0, .int 5]) (v := (some (.int 1))) (h1 := zH0) f318_3 rfl zg196 rfl rfl rfl rfl rfl rfl hc2).trans ?_
            exact r_zreturn f318_6 rfl (by decide)
          refine (r_stat (as := [.int x1]) (v := (some (.int 1))) (h1 := zH0) f320_1 rfl zg318 rfl rfl rfl rfl rfl rfl hc1).trans ?_
          refine (r_if_eq_f f320_4 (by decide)).trans ?_
          refine (r_iloadn f320_7 rfl).trans ?_
          refine (r_iconst (v := 0) f320_8 rfl).trans ?_
          refine (r_iconst (v := 4) f320_9 rfl).trans ?_
          have hc3 : arun X (n + 999993) (d + 19) zM196 0 [some (.int x2), some (.int 0), some (.int 4)] [] zH0 = some ((some (.int 0)), zH0) := by
            refine (r_iloadn f196_0 rfl).trans ?_
            refine (r_iloadn f196_1 rfl).trans ?_
            refine (r_icmp_lt_t f196_2 ec2).trans ?_
            refine (r_iconst (v := 0) f196_14 rfl).trans ?_
            exact r_zreturn f196_15 rfl (by decide)
          refine (r_stat (as := [.int x2, .int 0, .int 4]) (v := (some (.int 0))) (h1 := zH0) f320_10 rfl zg196 rfl rfl rfl rfl rfl rfl hc3).trans ?_
          refine (r_if_eq_t f320_13 (by decide)).trans ?_
          refine (r_iconst (v := (-1)) f320_22 rfl).trans ?_
          exact r_ireturn f320_23 rfl
        · exact Nat.le_trans (Nat.le_of_eq zH0_len) (by decide)
        · show zH0.2 ≤ 7302250
          decide
      ·
        by_cases ec3 : 4 < x2
        ·
          refine ⟨(-1), zH0, zH0, fun X n d => ?_, fun X n d => ?_, zh72, ?_, ?_⟩
          ·
            refine (r_iloadn f189_0 rfl).trans ?_
            have hc1 : arun X (n + 999998) (d + 19) zM142 0 [some (.int x1)] [] zH0 = some ((some (.int 1)), zH0) := by
              refine (r_iloadn f142_0 rfl).trans ?_
              refine (r_iconst (v := 0) f142_1 rfl).trans ?_
              refine (r_iconst (v := 5) f142_2 rfl).trans ?_
              have hc2 : arun X (n + 999994) (d + 18) zM137 0 [some (.int x1), some (.int 0), some (.int 5)] [] zH0 = some ((some (.int 1)), zH0) := by
                refine (r_iloadn f137_0 rfl).trans ?_
                refine (r_iloadn f137_1 rfl).trans ?_
                refine (r_icmp_gt_f f137_2 ec0).trans ?_
                refine (r_iloadn f137_5 rfl).trans ?_
                refine (r_iloadn f137_6 rfl).trans ?_
                refine (r_icmp_gt_f f137_7 ec1).trans ?_
                refine (r_iconst (v := 1) f137_10 rfl).trans ?_
                refine (r_goto f137_11).trans ?_
                exact r_zreturn f137_15 rfl (by decide)
              refine (r_stat (as := [.int x1, .int 0, .int 5]) (v := (some (.int 1))) (h1 := zH0) f142_3 rfl zg137 rfl rfl rfl rfl rfl rfl hc2).trans ?_
              exact r_zreturn f142_6 rfl (by decide)
            refine (r_stat (as := [.int x1]) (v := (some (.int 1))) (h1 := zH0) f189_1 rfl zg142 rfl rfl rfl rfl rfl rfl hc1).trans ?_
            refine (r_if_eq_f f189_4 (by decide)).trans ?_
            refine (r_iloadn f189_7 rfl).trans ?_
            refine (r_iconst (v := 0) f189_8 rfl).trans ?_
            refine (r_iconst (v := 4) f189_9 rfl).trans ?_
            have hc3 : arun X (n + 999993) (d + 19) zM137 0 [some (.int x2), some (.int 0), some (.int 4)] [] zH0 = some ((some (.int 0)), zH0) := by
              refine (r_iloadn f137_0 rfl).trans ?_
              refine (r_iloadn f137_1 rfl).trans ?_
              refine (r_icmp_gt_f f137_2 ec2).trans ?_
              refine (r_iloadn f137_5 rfl).trans ?_
              refine (r_iloadn f137_6 rfl).trans ?_
              refine (r_icmp_gt_t f137_7 ec3).trans ?_
              refine (r_iconst (v := 0) f137_14 rfl).trans ?_
              exact r_zreturn f137_15 rfl (by decide)
            refine (r_stat (as := [.int x2, .int 0, .int 4]) (v := (some (.int 0))) (h1 := zH0) f189_10 rfl zg137 rfl rfl rfl rfl rfl rfl hc3).trans ?_
            refine (r_if_eq_t f189_13 (by decide)).trans ?_
            refine (r_iconst (v := (-1)) f189_22 rfl).trans ?_
            exact r_ireturn f189_23 rfl
          ·
            refine (r_iloadn f320_0 rfl).trans ?_
            have hc1 : arun X (n + 999998) (d + 19) zM318 0 [some (.int x1)] [] zH0 = some ((some (.int 1)), zH0) := by
              refine (r_iloadn f318_0 rfl).trans ?_
              refine (r_iconst (v := 0) f318_1 rfl).trans ?_
              refine (r_iconst (v := 5) f318_2 rfl).trans ?_
              have hc2 : arun X (n + 999994) (d + 18) zM196 0 [some (.int x1), some (.int 0), some (.int 5)] [] zH0 = some ((some (.int 1)), zH0) := by
                refine (r_iloadn f196_0 rfl).trans ?_
                refine (r_iloadn f196_1 rfl).trans ?_
                refine (r_icmp_lt_f f196_2 ec0).trans ?_
                refine (r_iloadn f196_5 rfl).trans ?_
                refine (r_iloadn f196_6 rfl).trans ?_
                refine (r_icmp_gt_f f196_7 ec1).trans ?_
                refine (r_iconst (v := 1) f196_10 rfl).trans ?_
                refine (r_goto f196_11).trans ?_
                exact r_zreturn f196_15 rfl (by decide)
              refine (r_stat (as := [.int x1, .int 0, .int 5]) (v := (some (.int 1))) (h1 := zH0) f318_3 rfl zg196 rfl rfl rfl rfl rfl rfl hc2).trans ?_
              exact r_zreturn f318_6 rfl (by decide)
            refine (r_stat (as := [.int x1]) (v := (some (.int 1))) (h1 := zH0) f320_1 rfl zg318 rfl rfl rfl rfl rfl rfl hc1).trans ?_
            refine (r_if_eq_f f320_4 (by decide)).trans ?_
            refine (r_iloadn f320_7 rfl).trans ?_
            refine (r_iconst (v := 0) f320_8 rfl).trans ?_
            refine (r_iconst (v := 4) f320_9 rfl).trans ?_
            have hc3 : arun X (n + 999993) (d + 19) zM196 0 [some (.int x2), some (.int 0), some (.int 4)] [] zH0 = some ((some (.int 0)), zH0) := by
              refine (r_iloadn f196_0 rfl).trans ?_
              refine (r_iloadn f196_1 rfl).trans ?_
              refine (r_icmp_lt_f f196_2 ec2).trans ?_
              refine (r_iloadn f196_5 rfl).trans ?_
              refine (r_iloadn f196_6 rfl).trans ?_
              refine (r_icmp_gt_t f196_7 ec3).trans ?_
              refine (r_iconst (v := 0) f196_14 rfl).trans ?_
              exact r_zreturn f196_15 rfl (by decide)
            refine (r_stat (as := [.int x2, .int 0, .int 4]) (v := (some (.int 0))) (h1 := zH0) f320_10 rfl zg196 rfl rfl rfl rfl rfl rfl hc3).trans ?_
            refine (r_if_eq_t f320_13 (by decide)).trans ?_
            refine (r_iconst (v := (-1)) f320_22 rfl).trans ?_
            exact r_ireturn f320_23 rfl
          · exact Nat.le_trans (Nat.le_of_eq zH0_len) (by decide)
          · show zH0.2 ≤ 7302250
            decide
        ·
          by_cases ec4 : x3 ≤ 60
          ·
            by_cases ec5 : 0 ≤ x3
            ·
              have jc0 : ¬ (x1 < 0 ∨ 6 ≤ Int32.toNatClampNeg x1) := vp_in_iff.mpr (by
                have l0 : (0 : Int32).toInt = 0 := by decide
                have l1 : (4 : Int32).toInt = 4 := by decide
                have l2 : (5 : Int32).toInt = 5 := by decide
                have l3 : (60 : Int32).toInt = 60 := by decide
                simp only [Int32.lt_iff_toInt_lt, Int32.le_iff_toInt_le, ← Int32.toInt_inj] at *
                omega)
              have ja : ¬ (x1 < 0 ∨ 6 ≤ Int32.toNatClampNeg x1) := vp_in_iff.mpr (by
                have l0 : (0 : Int32).toInt = 0 := by decide
                have l1 : (4 : Int32).toInt = 4 := by decide
                have l2 : (5 : Int32).toInt = 5 := by decide
                have l3 : (60 : Int32).toInt = 60 := by decide
                simp only [Int32.lt_iff_toInt_lt, Int32.le_iff_toInt_le, ← Int32.toInt_inj] at *
                omega)
              obtain ⟨a0, ha, ha0⟩ := vp_in_of ja (by decide)
              have jb : ¬ (x3 < 0 ∨ 61 ≤ Int32.toNatClampNeg x3) := vp_in_iff.mpr (by
                have l0 : (0 : Int32).toInt = 0 := by decide
                have l1 : (4 : Int32).toInt = 4 := by decide
                have l2 : (5 : Int32).toInt = 5 := by decide
                have l3 : (60 : Int32).toInt = 60 := by decide
                simp only [Int32.lt_iff_toInt_lt, Int32.le_iff_toInt_le, ← Int32.toInt_inj] at *
                omega)
              obtain ⟨c0, hc, hc0⟩ := vp_in_of jb (by decide)
              obtain ⟨y185, w185⟩ := fill_long (o := 71) (N := 360) (a := a0 * 60) (b := a0 * 60 + c0) (v := 0) (x1 := (x1 * 60)) (x2 := ((x1 * 60) + x3)) (h := (((zH0.1.set 69 (.inl (0, 6, .inl (upd (fun _ => (-1)) (Int32.toNatClampNeg x1) x2)))).set 70 (.inl (0, 6, .inl (upd (fun _ => 0) (Int32.toNatClampNeg x1) x3)))), zH0.2)) (gs_ne (gs_ne zh71 (by decide)) (by decide)) (by rw [ha0, show (60 : Int32) = nI 60 from rfl, pk_mul]) (by rw [ha0, hc0, show (60 : Int32) = nI 60 from rfl, pk_mul, nI_add]) (by omega) (by omega) (by decide)
              have e_185 : ∀ (X : aX) (n d : Nat), arun X (n + 700) (d + 2) zM331 0 [some (.ref 71), some (.int (x1 * 60)), some (.int ((x1 * 60) + x3)), some (.long 0), none, none] [] (((zH0.1.set 69 (.inl (0, 6, .inl (upd (fun _ => (-1)) (Int32.toNatClampNeg x1) x2)))).set 70 (.inl (0, 6, .inl (upd (fun _ => 0) (Int32.toNatClampNeg x1) x3)))), zH0.2) = some (none, ((((zH0.1.set 69 (.inl (0, 6, .inl (upd (fun _ => (-1)) (Int32.toNatClampNeg x1) x2)))).set 70 (.inl (0, 6, .inl (upd (fun _ => 0) (Int32.toNatClampNeg x1) x3)))).set 71 (.inl (1, 360, .inr (.inl (y185))))), zH0.2)) := fun X n d => by
                have := w185 X (n + (700 - (9 * (a0 * 60 + c0 - a0 * 60) + 30))) d
                rw [show n + (700 - (9 * (a0 * 60 + c0 - a0 * 60) + 30)) + (9 * (a0 * 60 + c0 - a0 * 60) + 30) = n + 700 by omega] at this
                exact this
              have jm0 : ¬ (x1 < 0 ∨ 6 ≤ Int32.toNatClampNeg x1) := vp_in_iff.mpr (by
                have l0 : (0 : Int32).toInt = 0 := by decide
                have l1 : (4 : Int32).toInt = 4 := by decide
                have l2 : (5 : Int32).toInt = 5 := by decide
                have l3 : (60 : Int32).toInt = 60 := by decide
                simp only [Int32.lt_iff_toInt_lt, Int32.le_iff_toInt_le, ← Int32.toInt_inj] at *
                omega)
              obtain ⟨y186, e_186⟩ := rw_loop (x1 := x1) (x2 := x2) (x3 := x3) (a := a0) ha0 (by omega) 60 (60 * a0) ((((((zH0.1.set 69 (.inl (0, 6, .inl (upd (fun _ => (-1)) (Int32.toNatClampNeg x1) x2)))).set 70 (.inl (0, 6, .inl (upd (fun _ => 0) (Int32.toNatClampNeg x1) x3)))).set 71 (.inl (1, 360, .inr (.inl (y185))))).set 142 (.inl (0, 6, .inl (upd (fun _ => (-1)) (Int32.toNatClampNeg x1) ((-2) - x2))))).set 143 (.inl (0, 6, .inl (upd (fun _ => 0) (Int32.toNatClampNeg x1) x3)))), zH0.2) _ (by omega) (gs_ne (gs_ne (gs_ne (gs_ne (gs_ne zh72 (by decide)) (by decide)) (by decide)) (by decide)) (by decide)) rfl (gs_ne (gs_ne (gs_ne (gs_ne (gs_ne zh144 (by decide)) (by decide)) (by decide)) (by decide)) (by decide))
              refine ⟨1, ((((zH0.1.set 69 (.inl (0, 6, .inl (upd (fun _ => (-1)) (Int32.toNatClampNeg x1) x2)))).set 70 (.inl (0, 6, .inl (upd (fun _ => 0) (Int32.toNatClampNeg x1) x3)))).set 71 (.inl (1, 360, .inr (.inl (y185))))), zH0.2), (((((((zH0.1.set 69 (.inl (0, 6, .inl (upd (fun _ => (-1)) (Int32.toNatClampNeg x1) x2)))).set 70 (.inl (0, 6, .inl (upd (fun _ => 0) (Int32.toNatClampNeg x1) x3)))).set 71 (.inl (1, 360, .inr (.inl (y185))))).set 142 (.inl (0, 6, .inl (upd (fun _ => (-1)) (Int32.toNatClampNeg x1) ((-2) - x2))))).set 143 (.inl (0, 6, .inl (upd (fun _ => 0) (Int32.toNatClampNeg x1) x3)))).set 144 (.inl (1, 360, .inr (.inl (y186))))), zH0.2), fun X n d => ?_, fun X n d => ?_, (gs_ne (gs_ne (gs_ne zh72 (by decide)) (by decide)) (by decide)), ?_, ?_⟩
              ·
                refine (r_iloadn f189_0 rfl).trans ?_
                have hc1 : arun X (n + 999998) (d + 19) zM142 0 [some (.int x1)] [] zH0 = some ((some (.int 1)), zH0) := by
                  refine (r_iloadn f142_0 rfl).trans ?_
                  refine (r_iconst (v := 0) f142_1 rfl).trans ?_
                  refine (r_iconst (v := 5) f142_2 rfl).trans ?_
                  have hc2 : arun X (n + 999994) (d + 18) zM137 0 [some (.int x1), some (.int 0), some (.int 5)] [] zH0 = some ((some (.int 1)), zH0) := by
                    refine (r_iloadn f137_0 rfl).trans ?_
                    refine (r_iloadn f137_1 rfl).trans ?_
                    refine (r_icmp_gt_f f137_2 ec0).trans ?_
                    refine (r_iloadn f137_5 rfl).trans ?_
                    refine (r_iloadn f137_6 rfl).trans ?_
                    refine (r_icmp_gt_f f137_7 ec1).trans ?_
                    refine (r_iconst (v := 1) f137_10 rfl).trans ?_
                    refine (r_goto f137_11).trans ?_
                    exact r_zreturn f137_15 rfl (by decide)
                  refine (r_stat (as := [.int x1, .int 0, .int 5]) (v := (some (.int 1))) (h1 := zH0) f142_3 rfl zg137 rfl rfl rfl rfl rfl rfl hc2).trans ?_
                  exact r_zreturn f142_6 rfl (by decide)
                refine (r_stat (as := [.int x1]) (v := (some (.int 1))) (h1 := zH0) f189_1 rfl zg142 rfl rfl rfl rfl rfl rfl hc1).trans ?_
                refine (r_if_eq_f f189_4 (by decide)).trans ?_
                refine (r_iloadn f189_7 rfl).trans ?_
                refine (r_iconst (v := 0) f189_8 rfl).trans ?_
                refine (r_iconst (v := 4) f189_9 rfl).trans ?_
                have hc3 : arun X (n + 999993) (d + 19) zM137 0 [some (.int x2), some (.int 0), some (.int 4)] [] zH0 = some ((some (.int 1)), zH0) := by
                  refine (r_iloadn f137_0 rfl).trans ?_
                  refine (r_iloadn f137_1 rfl).trans ?_
                  refine (r_icmp_gt_f f137_2 ec2).trans ?_
                  refine (r_iloadn f137_5 rfl).trans ?_
                  refine (r_iloadn f137_6 rfl).trans ?_
                  refine (r_icmp_gt_f f137_7 ec3).trans ?_
                  refine (r_iconst (v := 1) f137_10 rfl).trans ?_
                  refine (r_goto f137_11).trans ?_
                  exact r_zreturn f137_15 rfl (by decide)
                refine (r_stat (as := [.int x2, .int 0, .int 4]) (v := (some (.int 1))) (h1 := zH0) f189_10 rfl zg137 rfl rfl rfl rfl rfl rfl hc3).trans ?_
                refine (r_if_eq_f f189_13 (by decide)).trans ?_
                refine (r_iloadn f189_16 rfl).trans ?_
                refine (r_bipush (v := 60) f189_17 rfl).trans ?_
                refine (r_icmp_le_t f189_19 ec4).trans ?_
                refine (r_iloadn f189_24 rfl).trans ?_
                refine (r_if_ge_t f189_25 ec5).trans ?_
                refine (r_aloadn f189_33 rfl).trans ?_
                refine (r_get (v := .ref 68) f189_34 zh0 rfl).trans ?_
                refine (r_iloadn f189_37 rfl).trans ?_
                refine (r_iloadn f189_38 rfl).trans ?_
                refine (r_iloadn f189_39 rfl).trans ?_
                have hc4 : arun X (n + 999981) (d + 19) zM109 0 [some (.ref 68), some (.int x1), some (.int x2), some (.int x3)] [] zH0 = some ((some (.int 1)), ((((zH0.1.set 69 (.inl (0, 6, .inl (upd (fun _ => (-1)) (Int32.toNatClampNeg x1) x2)))).set 70 (.inl (0, 6, .inl (upd (fun _ => 0) (Int32.toNatClampNeg x1) x3)))).set 71 (.inl (1, 360, .inr (.inl (y185))))), zH0.2)) := by
                  refine (r_aloadn f109_0 rfl).trans ?_
                  refine (r_get (v := .ref 69) f109_1 zh68 rfl).trans ?_
                  refine (r_iloadn f109_4 rfl).trans ?_
                  refine (r_iloadn f109_5 rfl).trans ?_
                  refine (r_iast (h' := ((zH0.1.set 69 (.inl (0, 6, .inl (upd (fun _ => (-1)) (Int32.toNatClampNeg x1) x2)))), zH0.2)) f109_6 zh69 jc0 rfl).trans ?_
                  refine (r_aloadn f109_7 rfl).trans ?_
                  refine (r_get (v := .ref 70) f109_8 (gs_ne zh68 (by decide)) rfl).trans ?_
                  refine (r_iloadn f109_11 rfl).trans ?_
                  refine (r_iloadn f109_12 rfl).trans ?_
                  refine (r_iast (h' := (((zH0.1.set 69 (.inl (0, 6, .inl (upd (fun _ => (-1)) (Int32.toNatClampNeg x1) x2)))).set 70 (.inl (0, 6, .inl (upd (fun _ => 0) (Int32.toNatClampNeg x1) x3)))), zH0.2)) f109_13 (gs_ne zh70 (by decide)) jc0 rfl).trans ?_
                  refine (r_aloadn f109_14 rfl).trans ?_
                  refine (r_get (v := .ref 71) f109_15 (gs_ne (gs_ne zh68 (by decide)) (by decide)) rfl).trans ?_
                  refine (r_iloadn f109_18 rfl).trans ?_
                  refine (r_bipush (v := 60) f109_19 rfl).trans ?_
                  refine (r_imul (v := (x1 * 60)) f109_21 rfl).trans ?_
                  refine (r_iloadn f109_22 rfl).trans ?_
                  refine (r_bipush (v := 60) f109_23 rfl).trans ?_
                  refine (r_imul (v := (x1 * 60)) f109_25 rfl).trans ?_
                  refine (r_iloadn f109_26 rfl).trans ?_
                  refine (r_iadd (v := ((x1 * 60) + x3)) f109_27 rfl).trans ?_
                  refine (r_lconst (v := 0) f109_28 rfl).trans ?_
                  refine (r_stat (as := [.ref 71, .int (x1 * 60), .int ((x1 * 60) + x3), .long 0]) (v := none) (h1 := ((((zH0.1.set 69 (.inl (0, 6, .inl (upd (fun _ => (-1)) (Int32.toNatClampNeg x1) x2)))).set 70 (.inl (0, 6, .inl (upd (fun _ => 0) (Int32.toNatClampNeg x1) x3)))).set 71 (.inl (1, 360, .inr (.inl (y185))))), zH0.2)) f109_29 rfl zg331 rfl rfl rfl rfl rfl rfl (e_185 X (n + 999259) (d + 16))).trans ?_
                  refine (r_iconst (v := 1) f109_32 rfl).trans ?_
                  exact r_ireturn f109_33 rfl
                refine (r_virt (as := [.int x1, .int x2, .int x3]) (v := (some (.int 1))) (h1 := ((((zH0.1.set 69 (.inl (0, 6, .inl (upd (fun _ => (-1)) (Int32.toNatClampNeg x1) x2)))).set 70 (.inl (0, 6, .inl (upd (fun _ => 0) (Int32.toNatClampNeg x1) x3)))).set 71 (.inl (1, 360, .inr (.inl (y185))))), zH0.2)) f189_40 zh68 zg109 rfl rfl rfl rfl rfl rfl hc4).trans ?_
                exact r_ireturn f189_43 rfl
              ·
                refine (r_iloadn f320_0 rfl).trans ?_
                have hc1 : arun X (n + 999998) (d + 19) zM318 0 [some (.int x1)] [] ((((zH0.1.set 69 (.inl (0, 6, .inl (upd (fun _ => (-1)) (Int32.toNatClampNeg x1) x2)))).set 70 (.inl (0, 6, .inl (upd (fun _ => 0) (Int32.toNatClampNeg x1) x3)))).set 71 (.inl (1, 360, .inr (.inl (y185))))), zH0.2) = some ((some (.int 1)), ((((zH0.1.set 69 (.inl (0, 6, .inl (upd (fun _ => (-1)) (Int32.toNatClampNeg x1) x2)))).set 70 (.inl (0, 6, .inl (upd (fun _ => 0) (Int32.toNatClampNeg x1) x3)))).set 71 (.inl (1, 360, .inr (.inl (y185))))), zH0.2)) := by
                  refine (r_iloadn f318_0 rfl).trans ?_
                  refine (r_iconst (v := 0) f318_1 rfl).trans ?_
                  refine (r_iconst (v := 5) f318_2 rfl).trans ?_
                  have hc2 : arun X (n + 999994) (d + 18) zM196 0 [some (.int x1), some (.int 0), some (.int 5)] [] ((((zH0.1.set 69 (.inl (0, 6, .inl (upd (fun _ => (-1)) (Int32.toNatClampNeg x1) x2)))).set 70 (.inl (0, 6, .inl (upd (fun _ => 0) (Int32.toNatClampNeg x1) x3)))).set 71 (.inl (1, 360, .inr (.inl (y185))))), zH0.2) = some ((some (.int 1)), ((((zH0.1.set 69 (.inl (0, 6, .inl (upd (fun _ => (-1)) (Int32.toNatClampNeg x1) x2)))).set 70 (.inl (0, 6, .inl (upd (fun _ => 0) (Int32.toNatClampNeg x1) x3)))).set 71 (.inl (1, 360, .inr (.inl (y185))))), zH0.2)) := by
                    refine (r_iloadn f196_0 rfl).trans ?_
                    refine (r_iloadn f196_1 rfl).trans ?_
                    refine (r_icmp_lt_f f196_2 ec0).trans ?_
                    refine (r_iloadn f196_5 rfl).trans ?_
                    refine (r_iloadn f196_6 rfl).trans ?_
                    refine (r_icmp_gt_f f196_7 ec1).trans ?_
                    refine (r_iconst (v := 1) f196_10 rfl).trans ?_
                    refine (r_goto f196_11).trans ?_
                    exact r_zreturn f196_15 rfl (by decide)
                  refine (r_stat (as := [.int x1, .int 0, .int 5]) (v := (some (.int 1))) (h1 := ((((zH0.1.set 69 (.inl (0, 6, .inl (upd (fun _ => (-1)) (Int32.toNatClampNeg x1) x2)))).set 70 (.inl (0, 6, .inl (upd (fun _ => 0) (Int32.toNatClampNeg x1) x3)))).set 71 (.inl (1, 360, .inr (.inl (y185))))), zH0.2)) f318_3 rfl zg196 rfl rfl rfl rfl rfl rfl hc2).trans ?_
                  exact r_zreturn f318_6 rfl (by decide)
                refine (r_stat (as := [.int x1]) (v := (some (.int 1))) (h1 := ((((zH0.1.set 69 (.inl (0, 6, .inl (upd (fun _ => (-1)) (Int32.toNatClampNeg x1) x2)))).set 70 (.inl (0, 6, .inl (upd (fun _ => 0) (Int32.toNatClampNeg x1) x3)))).set 71 (.inl (1, 360, .inr (.inl (y185))))), zH0.2)) f320_1 rfl zg318 rfl rfl rfl rfl rfl rfl hc1).trans ?_
                refine (r_if_eq_f f320_4 (by decide)).trans ?_
                refine (r_iloadn f320_7 rfl).trans ?_
                refine (r_iconst (v := 0) f320_8 rfl).trans ?_
                refine (r_iconst (v := 4) f320_9 rfl).trans ?_
                have hc3 : arun X (n + 999993) (d + 19) zM196 0 [some (.int x2), some (.int 0), some (.int 4)] [] ((((zH0.1.set 69 (.inl (0, 6, .inl (upd (fun _ => (-1)) (Int32.toNatClampNeg x1) x2)))).set 70 (.inl (0, 6, .inl (upd (fun _ => 0) (Int32.toNatClampNeg x1) x3)))).set 71 (.inl (1, 360, .inr (.inl (y185))))), zH0.2) = some ((some (.int 1)), ((((zH0.1.set 69 (.inl (0, 6, .inl (upd (fun _ => (-1)) (Int32.toNatClampNeg x1) x2)))).set 70 (.inl (0, 6, .inl (upd (fun _ => 0) (Int32.toNatClampNeg x1) x3)))).set 71 (.inl (1, 360, .inr (.inl (y185))))), zH0.2)) := by
                  refine (r_iloadn f196_0 rfl).trans ?_
                  refine (r_iloadn f196_1 rfl).trans ?_
                  refine (r_icmp_lt_f f196_2 ec2).trans ?_
                  refine (r_iloadn f196_5 rfl).trans ?_
                  refine (r_iloadn f196_6 rfl).trans ?_
                  refine (r_icmp_gt_f f196_7 ec3).trans ?_
                  refine (r_iconst (v := 1) f196_10 rfl).trans ?_
                  refine (r_goto f196_11).trans ?_
                  exact r_zreturn f196_15 rfl (by decide)
                refine (r_stat (as := [.int x2, .int 0, .int 4]) (v := (some (.int 1))) (h1 := ((((zH0.1.set 69 (.inl (0, 6, .inl (upd (fun _ => (-1)) (Int32.toNatClampNeg x1) x2)))).set 70 (.inl (0, 6, .inl (upd (fun _ => 0) (Int32.toNatClampNeg x1) x3)))).set 71 (.inl (1, 360, .inr (.inl (y185))))), zH0.2)) f320_10 rfl zg196 rfl rfl rfl rfl rfl rfl hc3).trans ?_
                refine (r_if_eq_f f320_13 (by decide)).trans ?_
                refine (r_iloadn f320_16 rfl).trans ?_
                refine (r_bipush (v := 60) f320_17 rfl).trans ?_
                refine (r_icmp_le_t f320_19 ec4).trans ?_
                refine (r_iloadn f320_24 rfl).trans ?_
                refine (r_if_ge_t f320_25 ec5).trans ?_
                refine (r_aloadn f320_31 rfl).trans ?_
                refine (r_get (v := .ref 142) f320_32 (gs_ne (gs_ne (gs_ne zh72 (by decide)) (by decide)) (by decide)) rfl).trans ?_
                refine (r_iloadn f320_35 rfl).trans ?_
                refine (r_bipush (v := (-2)) f320_36 rfl).trans ?_
                refine (r_iloadn f320_38 rfl).trans ?_
                refine (r_isub (v := ((-2) - x2)) f320_39 rfl).trans ?_
                refine (r_iast (h' := (((((zH0.1.set 69 (.inl (0, 6, .inl (upd (fun _ => (-1)) (Int32.toNatClampNeg x1) x2)))).set 70 (.inl (0, 6, .inl (upd (fun _ => 0) (Int32.toNatClampNeg x1) x3)))).set 71 (.inl (1, 360, .inr (.inl (y185))))).set 142 (.inl (0, 6, .inl (upd (fun _ => (-1)) (Int32.toNatClampNeg x1) ((-2) - x2))))), zH0.2)) f320_40 (gs_ne (gs_ne (gs_ne zh142 (by decide)) (by decide)) (by decide)) jm0 rfl).trans ?_
                refine (r_aloadn f320_41 rfl).trans ?_
                refine (r_get (v := .ref 143) f320_42 (gs_ne (gs_ne (gs_ne (gs_ne zh72 (by decide)) (by decide)) (by decide)) (by decide)) rfl).trans ?_
                refine (r_iloadn f320_45 rfl).trans ?_
                refine (r_iloadn f320_46 rfl).trans ?_
                refine (r_iast (h' := ((((((zH0.1.set 69 (.inl (0, 6, .inl (upd (fun _ => (-1)) (Int32.toNatClampNeg x1) x2)))).set 70 (.inl (0, 6, .inl (upd (fun _ => 0) (Int32.toNatClampNeg x1) x3)))).set 71 (.inl (1, 360, .inr (.inl (y185))))).set 142 (.inl (0, 6, .inl (upd (fun _ => (-1)) (Int32.toNatClampNeg x1) ((-2) - x2))))).set 143 (.inl (0, 6, .inl (upd (fun _ => 0) (Int32.toNatClampNeg x1) x3)))), zH0.2)) f320_47 (gs_ne (gs_ne (gs_ne (gs_ne zh143 (by decide)) (by decide)) (by decide)) (by decide)) jm0 rfl).trans ?_
                refine (r_bipush (v := 60) f320_48 rfl).trans ?_
                refine (r_iloadn f320_50 rfl).trans ?_
                refine (r_imul (v := (60 * x1)) f320_51 rfl).trans ?_
                refine (r_istore (L' := [some (.ref 72), some (.int x1), some (.int x2), some (.int x3), some (.int (60 * x1))]) f320_52 rfl rfl).trans ?_
                rw [show (60 * x1) = nI (60 * a0) from by rw [ha0, show (60 : Int32) = nI 60 from rfl, pk_mul]]
                exact e_186 X (n + 999122) (d + 20)
              · exact Nat.le_trans (Nat.le_of_eq (gs_ls (gs_ls (gs_ls (gs_ls (gs_ls (gs_ls zH0_len))))))) (by decide)
              · show zH0.2 ≤ 7302250
                decide
            ·
              refine ⟨(-14), zH0, zH0, fun X n d => ?_, fun X n d => ?_, zh72, ?_, ?_⟩
              ·
                refine (r_iloadn f189_0 rfl).trans ?_
                have hc1 : arun X (n + 999998) (d + 19) zM142 0 [some (.int x1)] [] zH0 = some ((some (.int 1)), zH0) := by
                  refine (r_iloadn f142_0 rfl).trans ?_
                  refine (r_iconst (v := 0) f142_1 rfl).trans ?_
                  refine (r_iconst (v := 5) f142_2 rfl).trans ?_
                  have hc2 : arun X (n + 999994) (d + 18) zM137 0 [some (.int x1), some (.int 0), some (.int 5)] [] zH0 = some ((some (.int 1)), zH0) := by
                    refine (r_iloadn f137_0 rfl).trans ?_
                    refine (r_iloadn f137_1 rfl).trans ?_
                    refine (r_icmp_gt_f f137_2 ec0).trans ?_
                    refine (r_iloadn f137_5 rfl).trans ?_
                    refine (r_iloadn f137_6 rfl).trans ?_
                    refine (r_icmp_gt_f f137_7 ec1).trans ?_
                    refine (r_iconst (v := 1) f137_10 rfl).trans ?_
                    refine (r_goto f137_11).trans ?_
                    exact r_zreturn f137_15 rfl (by decide)
                  refine (r_stat (as := [.int x1, .int 0, .int 5]) (v := (some (.int 1))) (h1 := zH0) f142_3 rfl zg137 rfl rfl rfl rfl rfl rfl hc2).trans ?_
                  exact r_zreturn f142_6 rfl (by decide)
                refine (r_stat (as := [.int x1]) (v := (some (.int 1))) (h1 := zH0) f189_1 rfl zg142 rfl rfl rfl rfl rfl rfl hc1).trans ?_
                refine (r_if_eq_f f189_4 (by decide)).trans ?_
                refine (r_iloadn f189_7 rfl).trans ?_
                refine (r_iconst (v := 0) f189_8 rfl).trans ?_
                refine (r_iconst (v := 4) f189_9 rfl).trans ?_
                have hc3 : arun X (n + 999993) (d + 19) zM137 0 [some (.int x2), some (.int 0), some (.int 4)] [] zH0 = some ((some (.int 1)), zH0) := by
                  refine (r_iloadn f137_0 rfl).trans ?_
                  refine (r_iloadn f137_1 rfl).trans ?_
                  refine (r_icmp_gt_f f137_2 ec2).trans ?_
                  refine (r_iloadn f137_5 rfl).trans ?_
                  refine (r_iloadn f137_6 rfl).trans ?_
                  refine (r_icmp_gt_f f137_7 ec3).trans ?_
                  refine (r_iconst (v := 1) f137_10 rfl).trans ?_
                  refine (r_goto f137_11).trans ?_
                  exact r_zreturn f137_15 rfl (by decide)
                refine (r_stat (as := [.int x2, .int 0, .int 4]) (v := (some (.int 1))) (h1 := zH0) f189_10 rfl zg137 rfl rfl rfl rfl rfl rfl hc3).trans ?_
                refine (r_if_eq_f f189_13 (by decide)).trans ?_
                refine (r_iloadn f189_16 rfl).trans ?_
                refine (r_bipush (v := 60) f189_17 rfl).trans ?_
                refine (r_icmp_le_t f189_19 ec4).trans ?_
                refine (r_iloadn f189_24 rfl).trans ?_
                refine (r_if_ge_f f189_25 ec5).trans ?_
                refine (r_bipush (v := (-14)) f189_28 rfl).trans ?_
                refine (r_goto f189_30).trans ?_
                exact r_ireturn f189_43 rfl
              ·
                refine (r_iloadn f320_0 rfl).trans ?_
                have hc1 : arun X (n + 999998) (d + 19) zM318 0 [some (.int x1)] [] zH0 = some ((some (.int 1)), zH0) := by
                  refine (r_iloadn f318_0 rfl).trans ?_
                  refine (r_iconst (v := 0) f318_1 rfl).trans ?_
                  refine (r_iconst (v := 5) f318_2 rfl).trans ?_
                  have hc2 : arun X (n + 999994) (d + 18) zM196 0 [some (.int x1), some (.int 0), some (.int 5)] [] zH0 = some ((some (.int 1)), zH0) := by
                    refine (r_iloadn f196_0 rfl).trans ?_
                    refine (r_iloadn f196_1 rfl).trans ?_
                    refine (r_icmp_lt_f f196_2 ec0).trans ?_
                    refine (r_iloadn f196_5 rfl).trans ?_
                    refine (r_iloadn f196_6 rfl).trans ?_
                    refine (r_icmp_gt_f f196_7 ec1).trans ?_
                    refine (r_iconst (v := 1) f196_10 rfl).trans ?_
                    refine (r_goto f196_11).trans ?_
                    exact r_zreturn f196_15 rfl (by decide)
                  refine (r_stat (as := [.int x1, .int 0, .int 5]) (v := (some (.int 1))) (h1 := zH0) f318_3 rfl zg196 rfl rfl rfl rfl rfl rfl hc2).trans ?_
                  exact r_zreturn f318_6 rfl (by decide)
                refine (r_stat (as := [.int x1]) (v := (some (.int 1))) (h1 := zH0) f320_1 rfl zg318 rfl rfl rfl rfl rfl rfl hc1).trans ?_
                refine (r_if_eq_f f320_4 (by decide)).trans ?_
                refine (r_iloadn f320_7 rfl).trans ?_
                refine (r_iconst (v := 0) f320_8 rfl).trans ?_
                refine (r_iconst (v := 4) f320_9 rfl).trans ?_
                have hc3 : arun X (n + 999993) (d + 19) zM196 0 [some (.int x2), some (.int 0), some (.int 4)] [] zH0 = some ((some (.int 1)), zH0) := by
                  refine (r_iloadn f196_0 rfl).trans ?_
                  refine (r_iloadn f196_1 rfl).trans ?_
                  refine (r_icmp_lt_f f196_2 ec2).trans ?_
                  refine (r_iloadn f196_5 rfl).trans ?_
                  refine (r_iloadn f196_6 rfl).trans ?_
                  refine (r_icmp_gt_f f196_7 ec3).trans ?_
                  refine (r_iconst (v := 1) f196_10 rfl).trans ?_
                  refine (r_goto f196_11).trans ?_
                  exact r_zreturn f196_15 rfl (by decide)
                refine (r_stat (as := [.int x2, .int 0, .int 4]) (v := (some (.int 1))) (h1 := zH0) f320_10 rfl zg196 rfl rfl rfl rfl rfl rfl hc3).trans ?_
                refine (r_if_eq_f f320_13 (by decide)).trans ?_
                refine (r_iloadn f320_16 rfl).trans ?_
                refine (r_bipush (v := 60) f320_17 rfl).trans ?_
                refine (r_icmp_le_t f320_19 ec4).trans ?_
                refine (r_iloadn f320_24 rfl).trans ?_
                refine (r_if_ge_f f320_25 ec5).trans ?_
                refine (r_bipush (v := (-14)) f320_28 rfl).trans ?_
                exact r_ireturn f320_30 rfl
              · exact Nat.le_trans (Nat.le_of_eq zH0_len) (by decide)
              · show zH0.2 ≤ 7302250
                decide
          ·
            refine ⟨(-1), zH0, zH0, fun X n d => ?_, fun X n d => ?_, zh72, ?_, ?_⟩
            ·
              refine (r_iloadn f189_0 rfl).trans ?_
              have hc1 : arun X (n + 999998) (d + 19) zM142 0 [some (.int x1)] [] zH0 = some ((some (.int 1)), zH0) := by
                refine (r_iloadn f142_0 rfl).trans ?_
                refine (r_iconst (v := 0) f142_1 rfl).trans ?_
                refine (r_iconst (v := 5) f142_2 rfl).trans ?_
                have hc2 : arun X (n + 999994) (d + 18) zM137 0 [some (.int x1), some (.int 0), some (.int 5)] [] zH0 = some ((some (.int 1)), zH0) := by
                  refine (r_iloadn f137_0 rfl).trans ?_
                  refine (r_iloadn f137_1 rfl).trans ?_
                  refine (r_icmp_gt_f f137_2 ec0).trans ?_
                  refine (r_iloadn f137_5 rfl).trans ?_
                  refine (r_iloadn f137_6 rfl).trans ?_
                  refine (r_icmp_gt_f f137_7 ec1).trans ?_
                  refine (r_iconst (v := 1) f137_10 rfl).trans ?_
                  refine (r_goto f137_11).trans ?_
                  exact r_zreturn f137_15 rfl (by decide)
                refine (r_stat (as := [.int x1, .int 0, .int 5]) (v := (some (.int 1))) (h1 := zH0) f142_3 rfl zg137 rfl rfl rfl rfl rfl rfl hc2).trans ?_
                exact r_zreturn f142_6 rfl (by decide)
              refine (r_stat (as := [.int x1]) (v := (some (.int 1))) (h1 := zH0) f189_1 rfl zg142 rfl rfl rfl rfl rfl rfl hc1).trans ?_
              refine (r_if_eq_f f189_4 (by decide)).trans ?_
              refine (r_iloadn f189_7 rfl).trans ?_
              refine (r_iconst (v := 0) f189_8 rfl).trans ?_
              refine (r_iconst (v := 4) f189_9 rfl).trans ?_
              have hc3 : arun X (n + 999993) (d + 19) zM137 0 [some (.int x2), some (.int 0), some (.int 4)] [] zH0 = some ((some (.int 1)), zH0) := by
                refine (r_iloadn f137_0 rfl).trans ?_
                refine (r_iloadn f137_1 rfl).trans ?_
                refine (r_icmp_gt_f f137_2 ec2).trans ?_
                refine (r_iloadn f137_5 rfl).trans ?_
                refine (r_iloadn f137_6 rfl).trans ?_
                refine (r_icmp_gt_f f137_7 ec3).trans ?_
                refine (r_iconst (v := 1) f137_10 rfl).trans ?_
                refine (r_goto f137_11).trans ?_
                exact r_zreturn f137_15 rfl (by decide)
              refine (r_stat (as := [.int x2, .int 0, .int 4]) (v := (some (.int 1))) (h1 := zH0) f189_10 rfl zg137 rfl rfl rfl rfl rfl rfl hc3).trans ?_
              refine (r_if_eq_f f189_13 (by decide)).trans ?_
              refine (r_iloadn f189_16 rfl).trans ?_
              refine (r_bipush (v := 60) f189_17 rfl).trans ?_
              refine (r_icmp_le_f f189_19 ec4).trans ?_
              refine (r_iconst (v := (-1)) f189_22 rfl).trans ?_
              exact r_ireturn f189_23 rfl
            ·
              refine (r_iloadn f320_0 rfl).trans ?_
              have hc1 : arun X (n + 999998) (d + 19) zM318 0 [some (.int x1)] [] zH0 = some ((some (.int 1)), zH0) := by
                refine (r_iloadn f318_0 rfl).trans ?_
                refine (r_iconst (v := 0) f318_1 rfl).trans ?_
                refine (r_iconst (v := 5) f318_2 rfl).trans ?_
                have hc2 : arun X (n + 999994) (d + 18) zM196 0 [some (.int x1), some (.int 0), some (.int 5)] [] zH0 = some ((some (.int 1)), zH0) := by
                  refine (r_iloadn f196_0 rfl).trans ?_
                  refine (r_iloadn f196_1 rfl).trans ?_
                  refine (r_icmp_lt_f f196_2 ec0).trans ?_
                  refine (r_iloadn f196_5 rfl).trans ?_
                  refine (r_iloadn f196_6 rfl).trans ?_
                  refine (r_icmp_gt_f f196_7 ec1).trans ?_
                  refine (r_iconst (v := 1) f196_10 rfl).trans ?_
                  refine (r_goto f196_11).trans ?_
                  exact r_zreturn f196_15 rfl (by decide)
                refine (r_stat (as := [.int x1, .int 0, .int 5]) (v := (some (.int 1))) (h1 := zH0) f318_3 rfl zg196 rfl rfl rfl rfl rfl rfl hc2).trans ?_
                exact r_zreturn f318_6 rfl (by decide)
              refine (r_stat (as := [.int x1]) (v := (some (.int 1))) (h1 := zH0) f320_1 rfl zg318 rfl rfl rfl rfl rfl rfl hc1).trans ?_
              refine (r_if_eq_f f320_4 (by decide)).trans ?_
              refine (r_iloadn f320_7 rfl).trans ?_
              refine (r_iconst (v := 0) f320_8 rfl).trans ?_
              refine (r_iconst (v := 4) f320_9 rfl).trans ?_
              have hc3 : arun X (n + 999993) (d + 19) zM196 0 [some (.int x2), some (.int 0), some (.int 4)] [] zH0 = some ((some (.int 1)), zH0) := by
                refine (r_iloadn f196_0 rfl).trans ?_
                refine (r_iloadn f196_1 rfl).trans ?_
                refine (r_icmp_lt_f f196_2 ec2).trans ?_
                refine (r_iloadn f196_5 rfl).trans ?_
                refine (r_iloadn f196_6 rfl).trans ?_
                refine (r_icmp_gt_f f196_7 ec3).trans ?_
                refine (r_iconst (v := 1) f196_10 rfl).trans ?_
                refine (r_goto f196_11).trans ?_
                exact r_zreturn f196_15 rfl (by decide)
              refine (r_stat (as := [.int x2, .int 0, .int 4]) (v := (some (.int 1))) (h1 := zH0) f320_10 rfl zg196 rfl rfl rfl rfl rfl rfl hc3).trans ?_
              refine (r_if_eq_f f320_13 (by decide)).trans ?_
              refine (r_iloadn f320_16 rfl).trans ?_
              refine (r_bipush (v := 60) f320_17 rfl).trans ?_
              refine (r_icmp_le_f f320_19 ec4).trans ?_
              refine (r_iconst (v := (-1)) f320_22 rfl).trans ?_
              exact r_ireturn f320_23 rfl
            · exact Nat.le_trans (Nat.le_of_eq zH0_len) (by decide)
            · show zH0.2 ≤ 7302250
              decide

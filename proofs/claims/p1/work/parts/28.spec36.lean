-- ===== a call with loops (by program) =====
set_option maxHeartbeats 40000000 in
set_option maxRecDepth 20000 in
theorem pc_36 (x1 : Int32) (x2 : Int32) (x3 : Int32) : ∃ (v : Int32) (h1 h2 : aH), (∀ (X : aX) (n d : Nat), arun X (n + 1000000) (d + 20) zM180 0 [some (.ref 0), some (.int x1), some (.int x2), some (.int x3)] [] zH0 = some (some (.int v), h1)) ∧ (∀ (X : aX) (n d : Nat), arun X (n + 1000000) (d + 20) zM298 0 [some (.ref 72), some (.int x1), some (.int x2), some (.int x3), none, none, none, none, none, none] [] h1 = some (some (.int v), h2)) ∧ h1.1[72]? = some (.inr (12, zF72)) ∧ h2.1.length ≤ 600000 ∧ h2.2 ≤ 7302250 := by
  by_cases ec0 : x1 < 0
  ·
    refine ⟨(-1), zH0, zH0, fun X n d => ?_, fun X n d => ?_, zh72, ?_, ?_⟩
    ·
      refine (r_iloadn f180_0 rfl).trans ?_
      have hc1 : arun X (n + 999998) (d + 19) zM139 0 [some (.int x1)] [] zH0 = some ((some (.int 0)), zH0) := by
        refine (r_iloadn f139_0 rfl).trans ?_
        refine (r_iconst (v := 0) f139_1 rfl).trans ?_
        refine (r_bipush (v := 9) f139_2 rfl).trans ?_
        have hc2 : arun X (n + 999994) (d + 18) zM137 0 [some (.int x1), some (.int 0), some (.int 9)] [] zH0 = some ((some (.int 0)), zH0) := by
          refine (r_iloadn f137_0 rfl).trans ?_
          refine (r_iloadn f137_1 rfl).trans ?_
          refine (r_icmp_gt_t f137_2 ec0).trans ?_
          refine (r_iconst (v := 0) f137_14 rfl).trans ?_
          exact r_zreturn f137_15 rfl (by decide)
        refine (r_stat (as := [.int x1, .int 0, .int 9]) (v := (some (.int 0))) (h1 := zH0) f139_4 rfl zg137 rfl rfl rfl rfl rfl rfl hc2).trans ?_
        exact r_zreturn f139_7 rfl (by decide)
      refine (r_stat (as := [.int x1]) (v := (some (.int 0))) (h1 := zH0) f180_1 rfl zg139 rfl rfl rfl rfl rfl rfl hc1).trans ?_
      refine (r_if_eq_t f180_4 (by decide)).trans ?_
      refine (r_iconst (v := (-1)) f180_16 rfl).trans ?_
      exact r_ireturn f180_17 rfl
    ·
      refine (r_iloadn f298_0 rfl).trans ?_
      have hc1 : arun X (n + 999998) (d + 19) zM198 0 [some (.int x1)] [] zH0 = some ((some (.int 0)), zH0) := by
        refine (r_iloadn f198_0 rfl).trans ?_
        refine (r_iconst (v := 0) f198_1 rfl).trans ?_
        refine (r_bipush (v := 9) f198_2 rfl).trans ?_
        have hc2 : arun X (n + 999994) (d + 18) zM196 0 [some (.int x1), some (.int 0), some (.int 9)] [] zH0 = some ((some (.int 0)), zH0) := by
          refine (r_iloadn f196_0 rfl).trans ?_
          refine (r_iloadn f196_1 rfl).trans ?_
          refine (r_icmp_lt_t f196_2 ec0).trans ?_
          refine (r_iconst (v := 0) f196_14 rfl).trans ?_
          exact r_zreturn f196_15 rfl (by decide)
        refine (r_stat (as := [.int x1, .int 0, .int 9]) (v := (some (.int 0))) (h1 := zH0) f198_4 rfl zg196 rfl rfl rfl rfl rfl rfl hc2).trans ?_
        exact r_zreturn f198_7 rfl (by decide)
      refine (r_stat (as := [.int x1]) (v := (some (.int 0))) (h1 := zH0) f298_1 rfl zg198 rfl rfl rfl rfl rfl rfl hc1).trans ?_
      refine (r_if_eq_t f298_4 (by decide)).trans ?_
      refine (r_iconst (v := (-1)) f298_46 rfl).trans ?_
      exact r_ireturn f298_47 rfl
    · exact Nat.le_trans (Nat.le_of_eq zH0_len) (by decide)
    · decide
  ·
    by_cases ec1 : 9 < x1
    ·
      refine ⟨(-1), zH0, zH0, fun X n d => ?_, fun X n d => ?_, zh72, ?_, ?_⟩
      ·
        refine (r_iloadn f180_0 rfl).trans ?_
        have hc1 : arun X (n + 999998) (d + 19) zM139 0 [some (.int x1)] [] zH0 = some ((some (.int 0)), zH0) := by
          refine (r_iloadn f139_0 rfl).trans ?_
          refine (r_iconst (v := 0) f139_1 rfl).trans ?_
          refine (r_bipush (v := 9) f139_2 rfl).trans ?_
          have hc2 : arun X (n + 999994) (d + 18) zM137 0 [some (.int x1), some (.int 0), some (.int 9)] [] zH0 = some ((some (.int 0)), zH0) := by
            refine (r_iloadn f137_0 rfl).trans ?_
            refine (r_iloadn f137_1 rfl).trans ?_
            refine (r_icmp_gt_f f137_2 ec0).trans ?_
            refine (r_iloadn f137_5 rfl).trans ?_
            refine (r_iloadn f137_6 rfl).trans ?_
            refine (r_icmp_gt_t f137_7 ec1).trans ?_
            refine (r_iconst (v := 0) f137_14 rfl).trans ?_
            exact r_zreturn f137_15 rfl (by decide)
          refine (r_stat (as := [.int x1, .int 0, .int 9]) (v := (some (.int 0))) (h1 := zH0) f139_4 rfl zg137 rfl rfl rfl rfl rfl rfl hc2).trans ?_
          exact r_zreturn f139_7 rfl (by decide)
        refine (r_stat (as := [.int x1]) (v := (some (.int 0))) (h1 := zH0) f180_1 rfl zg139 rfl rfl rfl rfl rfl rfl hc1).trans ?_
        refine (r_if_eq_t f180_4 (by decide)).trans ?_
        refine (r_iconst (v := (-1)) f180_16 rfl).trans ?_
        exact r_ireturn f180_17 rfl
      ·
        refine (r_iloadn f298_0 rfl).trans ?_
        have hc1 : arun X (n + 999998) (d + 19) zM198 0 [some (.int x1)] [] zH0 = some ((some (.int 0)), zH0) := by
          refine (r_iloadn f198_0 rfl).trans ?_
          refine (r_iconst (v := 0) f198_1 rfl).trans ?_
          refine (r_bipush (v := 9) f198_2 rfl).trans ?_
          have hc2 : arun X (n + 999994) (d + 18) zM196 0 [some (.int x1), some (.int 0), some (.int 9)] [] zH0 = some ((some (.int 0)), zH0) := by
            refine (r_iloadn f196_0 rfl).trans ?_
            refine (r_iloadn f196_1 rfl).trans ?_
            refine (r_icmp_lt_f f196_2 ec0).trans ?_
            refine (r_iloadn f196_5 rfl).trans ?_
            refine (r_iloadn f196_6 rfl).trans ?_
            refine (r_icmp_gt_t f196_7 ec1).trans ?_
            refine (r_iconst (v := 0) f196_14 rfl).trans ?_
            exact r_zreturn f196_15 rfl (by decide)
          refine (r_stat (as := [.int x1, .int 0, .int 9]) (v := (some (.int 0))) (h1 := zH0) f198_4 rfl zg196 rfl rfl rfl rfl rfl rfl hc2).trans ?_
          exact r_zreturn f198_7 rfl (by decide)
        refine (r_stat (as := [.int x1]) (v := (some (.int 0))) (h1 := zH0) f298_1 rfl zg198 rfl rfl rfl rfl rfl rfl hc1).trans ?_
        refine (r_if_eq_t f298_4 (by decide)).trans ?_
        refine (r_iconst (v := (-1)) f298_46 rfl).trans ?_
        exact r_ireturn f298_47 rfl
      · exact Nat.le_trans (Nat.le_of_eq zH0_len) (by decide)
      · decide
    ·
      by_cases ec2 : x2 < 0
      ·
        refine ⟨(-1), zH0, zH0, fun X n d => ?_, fun X n d => ?_, zh72, ?_, ?_⟩
        ·
          refine (r_iloadn f180_0 rfl).trans ?_
          have hc1 : arun X (n + 999998) (d + 19) zM139 0 [some (.int x1)] [] zH0 = some ((some (.int 1)), zH0) := by
            refine (r_iloadn f139_0 rfl).trans ?_
            refine (r_iconst (v := 0) f139_1 rfl).trans ?_
            refine (r_bipush (v := 9) f139_2 rfl).trans ?_
            have hc2 : arun X (n + 999994) (d + 18) zM137 0 [some (.int x1), some (.int 0), some (.int 9)] [] zH0 = some ((some (.int 1)), zH0) := by
              refine (r_iloadn f137_0 rfl).trans ?_
              refine (r_iloadn f137_1 rfl).trans ?_
              refine (r_icmp_gt_f f137_2 ec0).trans ?_
              refine (r_iloadn f137_5 rfl).trans ?_
              refine (r_iloadn f137_6 rfl).trans ?_
              refine (r_icmp_gt_f f137_7 ec1).trans ?_
              refine (r_iconst (v := 1) f137_10 rfl).trans ?_
              refine (r_goto f137_11).trans ?_
              exact r_zreturn f137_15 rfl (by decide)
            refine (r_stat (as := [.int x1, .int 0, .int 9]) (v := (some (.int 1))) (h1 := zH0) f139_4 rfl zg137 rfl rfl rfl rfl rfl rfl hc2).trans ?_
            exact r_zreturn f139_7 rfl (by decide)
          refine (r_stat (as := [.int x1]) (v := (some (.int 1))) (h1 := zH0) f180_1 rfl zg139 rfl rfl rfl rfl rfl rfl hc1).trans ?_
          refine (r_if_eq_f f180_4 (by decide)).trans ?_
          refine (r_iloadn f180_7 rfl).trans ?_
          refine (r_iconst (v := 0) f180_8 rfl).trans ?_
          refine (r_iconst (v := 2) f180_9 rfl).trans ?_
          have hc3 : arun X (n + 999993) (d + 19) zM137 0 [some (.int x2), some (.int 0), some (.int 2)] [] zH0 = some ((some (.int 0)), zH0) := by
            refine (r_iloadn f137_0 rfl).trans ?_
            refine (r_iloadn f137_1 rfl).trans ?_
            refine (r_icmp_gt_t f137_2 ec2).trans ?_
            refine (r_iconst (v := 0) f137_14 rfl).trans ?_
            exact r_zreturn f137_15 rfl (by decide)
          refine (r_stat (as := [.int x2, .int 0, .int 2]) (v := (some (.int 0))) (h1 := zH0) f180_10 rfl zg137 rfl rfl rfl rfl rfl rfl hc3).trans ?_
          refine (r_if_ne_f f180_13 (by decide)).trans ?_
          refine (r_iconst (v := (-1)) f180_16 rfl).trans ?_
          exact r_ireturn f180_17 rfl
        ·
          refine (r_iloadn f298_0 rfl).trans ?_
          have hc1 : arun X (n + 999998) (d + 19) zM198 0 [some (.int x1)] [] zH0 = some ((some (.int 1)), zH0) := by
            refine (r_iloadn f198_0 rfl).trans ?_
            refine (r_iconst (v := 0) f198_1 rfl).trans ?_
            refine (r_bipush (v := 9) f198_2 rfl).trans ?_
            have hc2 : arun X (n + 999994) (d + 18) zM196 0 [some (.int x1), some (.int 0), some (.int 9)] [] zH0 = some ((some (.int 1)), zH0) := by
              refine (r_iloadn f196_0 rfl).trans ?_
              refine (r_iloadn f196_1 rfl).trans ?_
              refine (r_icmp_lt_f f196_2 ec0).trans ?_
              refine (r_iloadn f196_5 rfl).trans ?_
              refine (r_iloadn f196_6 rfl).trans ?_
              refine (r_icmp_gt_f f196_7 ec1).trans ?_
              refine (r_iconst (v := 1) f196_10 rfl).trans ?_
              refine (r_goto f196_11).trans ?_
              exact r_zreturn f196_15 rfl (by decide)
            refine (r_stat (as := [.int x1, .int 0, .int 9]) (v := (some (.int 1))) (h1 := zH0) f198_4 rfl zg196 rfl rfl rfl rfl rfl rfl hc2).trans ?_
            exact r_zreturn f198_7 rfl (by decide)
          refine (r_stat (as := [.int x1]) (v := (some (.int 1))) (h1 := zH0) f298_1 rfl zg198 rfl rfl rfl rfl rfl rfl hc1).trans ?_
          refine (r_if_eq_f f298_4 (by decide)).trans ?_
          refine (r_iloadn f298_7 rfl).trans ?_
          refine (r_iconst (v := 0) f298_8 rfl).trans ?_
          refine (r_iconst (v := 2) f298_9 rfl).trans ?_
          have hc3 : arun X (n + 999993) (d + 19) zM196 0 [some (.int x2), some (.int 0), some (.int 2)] [] zH0 = some ((some (.int 0)), zH0) := by
            refine (r_iloadn f196_0 rfl).trans ?_
            refine (r_iloadn f196_1 rfl).trans ?_
            refine (r_icmp_lt_t f196_2 ec2).trans ?_
            refine (r_iconst (v := 0) f196_14 rfl).trans ?_
            exact r_zreturn f196_15 rfl (by decide)
          refine (r_stat (as := [.int x2, .int 0, .int 2]) (v := (some (.int 0))) (h1 := zH0) f298_10 rfl zg196 rfl rfl rfl rfl rfl rfl hc3).trans ?_
          refine (r_if_eq_t f298_13 (by decide)).trans ?_
          refine (r_iconst (v := (-1)) f298_46 rfl).trans ?_
          exact r_ireturn f298_47 rfl
        · exact Nat.le_trans (Nat.le_of_eq zH0_len) (by decide)
        · decide
      ·
        by_cases ec3 : 2 < x2
        ·
          refine ⟨(-1), zH0, zH0, fun X n d => ?_, fun X n d => ?_, zh72, ?_, ?_⟩
          ·
            refine (r_iloadn f180_0 rfl).trans ?_
            have hc1 : arun X (n + 999998) (d + 19) zM139 0 [some (.int x1)] [] zH0 = some ((some (.int 1)), zH0) := by
              refine (r_iloadn f139_0 rfl).trans ?_
              refine (r_iconst (v := 0) f139_1 rfl).trans ?_
              refine (r_bipush (v := 9) f139_2 rfl).trans ?_
              have hc2 : arun X (n + 999994) (d + 18) zM137 0 [some (.int x1), some (.int 0), some (.int 9)] [] zH0 = some ((some (.int 1)), zH0) := by
                refine (r_iloadn f137_0 rfl).trans ?_
                refine (r_iloadn f137_1 rfl).trans ?_
                refine (r_icmp_gt_f f137_2 ec0).trans ?_
                refine (r_iloadn f137_5 rfl).trans ?_
                refine (r_iloadn f137_6 rfl).trans ?_
                refine (r_icmp_gt_f f137_7 ec1).trans ?_
                refine (r_iconst (v := 1) f137_10 rfl).trans ?_
                refine (r_goto f137_11).trans ?_
                exact r_zreturn f137_15 rfl (by decide)
              refine (r_stat (as := [.int x1, .int 0, .int 9]) (v := (some (.int 1))) (h1 := zH0) f139_4 rfl zg137 rfl rfl rfl rfl rfl rfl hc2).trans ?_
              exact r_zreturn f139_7 rfl (by decide)
            refine (r_stat (as := [.int x1]) (v := (some (.int 1))) (h1 := zH0) f180_1 rfl zg139 rfl rfl rfl rfl rfl rfl hc1).trans ?_
            refine (r_if_eq_f f180_4 (by decide)).trans ?_
            refine (r_iloadn f180_7 rfl).trans ?_
            refine (r_iconst (v := 0) f180_8 rfl).trans ?_
            refine (r_iconst (v := 2) f180_9 rfl).trans ?_
            have hc3 : arun X (n + 999993) (d + 19) zM137 0 [some (.int x2), some (.int 0), some (.int 2)] [] zH0 = some ((some (.int 0)), zH0) := by
              refine (r_iloadn f137_0 rfl).trans ?_
              refine (r_iloadn f137_1 rfl).trans ?_
              refine (r_icmp_gt_f f137_2 ec2).trans ?_
              refine (r_iloadn f137_5 rfl).trans ?_
              refine (r_iloadn f137_6 rfl).trans ?_
              refine (r_icmp_gt_t f137_7 ec3).trans ?_
              refine (r_iconst (v := 0) f137_14 rfl).trans ?_
              exact r_zreturn f137_15 rfl (by decide)
            refine (r_stat (as := [.int x2, .int 0, .int 2]) (v := (some (.int 0))) (h1 := zH0) f180_10 rfl zg137 rfl rfl rfl rfl rfl rfl hc3).trans ?_
            refine (r_if_ne_f f180_13 (by decide)).trans ?_
            refine (r_iconst (v := (-1)) f180_16 rfl).trans ?_
            exact r_ireturn f180_17 rfl
          ·
            refine (r_iloadn f298_0 rfl).trans ?_
            have hc1 : arun X (n + 999998) (d + 19) zM198 0 [some (.int x1)] [] zH0 = some ((some (.int 1)), zH0) := by
              refine (r_iloadn f198_0 rfl).trans ?_
              refine (r_iconst (v := 0) f198_1 rfl).trans ?_
              refine (r_bipush (v := 9) f198_2 rfl).trans ?_
              have hc2 : arun X (n + 999994) (d + 18) zM196 0 [some (.int x1), some (.int 0), some (.int 9)] [] zH0 = some ((some (.int 1)), zH0) := by
                refine (r_iloadn f196_0 rfl).trans ?_
                refine (r_iloadn f196_1 rfl).trans ?_
                refine (r_icmp_lt_f f196_2 ec0).trans ?_
                refine (r_iloadn f196_5 rfl).trans ?_
                refine (r_iloadn f196_6 rfl).trans ?_
                refine (r_icmp_gt_f f196_7 ec1).trans ?_
                refine (r_iconst (v := 1) f196_10 rfl).trans ?_
                refine (r_goto f196_11).trans ?_
                exact r_zreturn f196_15 rfl (by decide)
              refine (r_stat (as := [.int x1, .int 0, .int 9]) (v := (some (.int 1))) (h1 := zH0) f198_4 rfl zg196 rfl rfl rfl rfl rfl rfl hc2).trans ?_
              exact r_zreturn f198_7 rfl (by decide)
            refine (r_stat (as := [.int x1]) (v := (some (.int 1))) (h1 := zH0) f298_1 rfl zg198 rfl rfl rfl rfl rfl rfl hc1).trans ?_
            refine (r_if_eq_f f298_4 (by decide)).trans ?_
            refine (r_iloadn f298_7 rfl).trans ?_
            refine (r_iconst (v := 0) f298_8 rfl).trans ?_
            refine (r_iconst (v := 2) f298_9 rfl).trans ?_
            have hc3 : arun X (n + 999993) (d + 19) zM196 0 [some (.int x2), some (.int 0), some (.int 2)] [] zH0 = some ((some (.int 0)), zH0) := by
              refine (r_iloadn f196_0 rfl).trans ?_
              refine (r_iloadn f196_1 rfl).trans ?_
              refine (r_icmp_lt_f f196_2 ec2).trans ?_
              refine (r_iloadn f196_5 rfl).trans ?_
              refine (r_iloadn f196_6 rfl).trans ?_
              refine (r_icmp_gt_t f196_7 ec3).trans ?_
              refine (r_iconst (v := 0) f196_14 rfl).trans ?_
              exact r_zreturn f196_15 rfl (by decide)
            refine (r_stat (as := [.int x2, .int 0, .int 2]) (v := (some (.int 0))) (h1 := zH0) f298_10 rfl zg196 rfl rfl rfl rfl rfl rfl hc3).trans ?_
            refine (r_if_eq_t f298_13 (by decide)).trans ?_
            refine (r_iconst (v := (-1)) f298_46 rfl).trans ?_
            exact r_ireturn f298_47 rfl
          · exact Nat.le_trans (Nat.le_of_eq zH0_len) (by decide)
          · decide
        ·
          by_cases ec4 : ¬ x2 = 2
          ·
            by_cases ec5 : x2 = 0
            ·
              have jc0 : ¬ (x1 < 0 ∨ 10 ≤ Int32.toNatClampNeg x1) := vp_in_iff.mpr (by
                have az3 := az_e (x := x3)
                have l0 : (0 : Int32).toInt = 0 := by decide
                have l1 : (2 : Int32).toInt = 2 := by decide
                have l2 : (9 : Int32).toInt = 9 := by decide
                simp only [Int32.lt_iff_toInt_lt, Int32.le_iff_toInt_le, ← Int32.toInt_inj] at *
                omega)
              obtain ⟨y173, e_173, l_173, u_173, r_173⟩ := season_fresh (x1 := x1) jc0
              have em0 : ¬ 2 ≤ x2 := (by
                have az3 := az_e (x := x3)
                have l0 : (0 : Int32).toInt = 0 := by decide
                have l1 : (2 : Int32).toInt = 2 := by decide
                have l2 : (9 : Int32).toInt = 9 := by decide
                simp only [Int32.lt_iff_toInt_lt, Int32.le_iff_toInt_le, ← Int32.toInt_inj] at *
                omega)
              obtain ⟨y177, e_177, l_177, u_177, r_177, q_177⟩ := reckon_fresh (h := ((y173.1.set 48 (.inr (5, [.ref 1, .ref 16, .ref 41, .ref 49, .int 0, .ref 50, .ref 51, .int 0, .ref 52, .int 0, .ref 53, .ref 54, .int 0, .int 0, .int 0, .int 0, .int 0]))), y173.2)) (gs_ne (r_173 72 _ (by decide) (by decide) zh72) (by decide)) (gs_ne (r_173 107 _ (by decide) (by decide) zh107) (by decide)) (gs_ne (r_173 108 _ (by decide) (by decide) zh108) (by decide)) (gs_ne (r_173 109 _ (by decide) (by decide) zh109) (by decide))
              refine ⟨0, ((y173.1.set 48 (.inr (5, [.ref 1, .ref 16, .ref 41, .ref 49, .int 0, .ref 50, .ref 51, .int 0, .ref 52, .int 0, .ref 53, .ref 54, .int 0, .int 0, .int 0, .int 0, .int 0]))), y173.2), y177, fun X n d => ?_, fun X n d => ?_, (gs_ne (r_173 72 _ (by decide) (by decide) zh72) (by decide)), ?_, ?_⟩
              ·
                refine (r_iloadn f180_0 rfl).trans ?_
                have hc1 : arun X (n + 999998) (d + 19) zM139 0 [some (.int x1)] [] zH0 = some ((some (.int 1)), zH0) := by
                  refine (r_iloadn f139_0 rfl).trans ?_
                  refine (r_iconst (v := 0) f139_1 rfl).trans ?_
                  refine (r_bipush (v := 9) f139_2 rfl).trans ?_
                  have hc2 : arun X (n + 999994) (d + 18) zM137 0 [some (.int x1), some (.int 0), some (.int 9)] [] zH0 = some ((some (.int 1)), zH0) := by
                    refine (r_iloadn f137_0 rfl).trans ?_
                    refine (r_iloadn f137_1 rfl).trans ?_
                    refine (r_icmp_gt_f f137_2 ec0).trans ?_
                    refine (r_iloadn f137_5 rfl).trans ?_
                    refine (r_iloadn f137_6 rfl).trans ?_
                    refine (r_icmp_gt_f f137_7 ec1).trans ?_
                    refine (r_iconst (v := 1) f137_10 rfl).trans ?_
                    refine (r_goto f137_11).trans ?_
                    exact r_zreturn f137_15 rfl (by decide)
                  refine (r_stat (as := [.int x1, .int 0, .int 9]) (v := (some (.int 1))) (h1 := zH0) f139_4 rfl zg137 rfl rfl rfl rfl rfl rfl hc2).trans ?_
                  exact r_zreturn f139_7 rfl (by decide)
                refine (r_stat (as := [.int x1]) (v := (some (.int 1))) (h1 := zH0) f180_1 rfl zg139 rfl rfl rfl rfl rfl rfl hc1).trans ?_
                refine (r_if_eq_f f180_4 (by decide)).trans ?_
                refine (r_iloadn f180_7 rfl).trans ?_
                refine (r_iconst (v := 0) f180_8 rfl).trans ?_
                refine (r_iconst (v := 2) f180_9 rfl).trans ?_
                have hc3 : arun X (n + 999993) (d + 19) zM137 0 [some (.int x2), some (.int 0), some (.int 2)] [] zH0 = some ((some (.int 1)), zH0) := by
                  refine (r_iloadn f137_0 rfl).trans ?_
                  refine (r_iloadn f137_1 rfl).trans ?_
                  refine (r_icmp_gt_f f137_2 ec2).trans ?_
                  refine (r_iloadn f137_5 rfl).trans ?_
                  refine (r_iloadn f137_6 rfl).trans ?_
                  refine (r_icmp_gt_f f137_7 ec3).trans ?_
                  refine (r_iconst (v := 1) f137_10 rfl).trans ?_
                  refine (r_goto f137_11).trans ?_
                  exact r_zreturn f137_15 rfl (by decide)
                refine (r_stat (as := [.int x2, .int 0, .int 2]) (v := (some (.int 1))) (h1 := zH0) f180_10 rfl zg137 rfl rfl rfl rfl rfl rfl hc3).trans ?_
                refine (r_if_ne_t f180_13 (by decide)).trans ?_
                refine (r_iloadn f180_18 rfl).trans ?_
                refine (r_iconst (v := 2) f180_19 rfl).trans ?_
                refine (r_icmp_ne_t f180_20 ec4).trans ?_
                refine (r_aloadn f180_51 rfl).trans ?_
                refine (r_get (v := .ref 48) f180_52 zh0 rfl).trans ?_
                refine (r_iloadn f180_55 rfl).trans ?_
                have hc4 : arun X (n + 999985) (d + 19) zM66 0 [some (.ref 48), some (.int x1), none, none] [] zH0 = some (none, ((y173.1.set 48 (.inr (5, [.ref 1, .ref 16, .ref 41, .ref 49, .int 0, .ref 50, .ref 51, .int 0, .ref 52, .int 0, .ref 53, .ref 54, .int 0, .int 0, .int 0, .int 0, .int 0]))), y173.2)) := by
                  refine (r_aloadn f66_0 rfl).trans ?_
                  refine (r_get (v := .ref 41) f66_1 zh48 rfl).trans ?_
                  refine (r_iloadn f66_4 rfl).trans ?_
                  refine (r_aloadn f66_5 rfl).trans ?_
                  refine (r_get (v := .ref 1) f66_6 zh48 rfl).trans ?_
                  refine (r_get (v := .int 0) f66_9 zh1 rfl).trans ?_
                  refine (r_virt (as := [.int x1, .int 0]) (v := (some (.ref 146))) (h1 := y173) f66_12 zh41 zg1 rfl rfl rfl rfl rfl rfl (e_173 X (n + 993978) (d + 8))).trans ?_
                  refine (r_astoren (L' := [some (.ref 48), some (.int x1), some (.ref 146), none]) f66_15 rfl rfl).trans ?_
                  refine (r_aloadn f66_16 rfl).trans ?_
                  refine (r_iconst (v := 0) f66_17 rfl).trans ?_
                  refine (r_put (h' := ((y173.1.set 48 (.inr (5, [.ref 1, .ref 16, .ref 41, .ref 49, .int 0, .ref 50, .ref 51, .int 0, .ref 52, .int 0, .ref 53, .ref 54, .int 0, .int 0, .int 0, .int 0, .int 0]))), y173.2)) f66_18 (r_173 48 _ (by decide) (by decide) zh48) rfl rfl).trans ?_
                  refine (r_aloadn f66_21 rfl).trans ?_
                  refine (r_iconst (v := 0) f66_22 rfl).trans ?_
                  refine (r_put (h' := ((y173.1.set 48 (.inr (5, [.ref 1, .ref 16, .ref 41, .ref 49, .int 0, .ref 50, .ref 51, .int 0, .ref 52, .int 0, .ref 53, .ref 54, .int 0, .int 0, .int 0, .int 0, .int 0]))), y173.2)) f66_23 (gs_eq (r_173 48 _ (by decide) (by decide) zh48)) rfl hss).trans ?_
                  refine (r_iconst (v := 0) f66_26 rfl).trans ?_
                  refine (r_istoren (L' := [some (.ref 48), some (.int x1), some (.ref 146), some (.int 0)]) f66_27 rfl rfl).trans ?_
                  refine (r_iloadn f66_28 rfl).trans ?_
                  refine (r_aloadn f66_29 rfl).trans ?_
                  refine (r_get (v := .ref 1) f66_30 (gs_eq (r_173 48 _ (by decide) (by decide) zh48)) rfl).trans ?_
                  refine (r_get (v := .int 0) f66_33 (gs_ne (r_173 1 _ (by decide) (by decide) zh1) (by decide)) rfl).trans ?_
                  refine (r_icmp_ge_t f66_36 (by decide)).trans ?_
                  refine (r_aloadn f66_126 rfl).trans ?_
                  refine (r_get (v := .int 0) f66_127 (gs_eq (r_173 48 _ (by decide) (by decide) zh48)) rfl).trans ?_
                  refine (r_if_ne_f f66_130 (by decide)).trans ?_
                  refine (r_aloadn f66_133 rfl).trans ?_
                  refine (r_iconst (v := 0) f66_134 rfl).trans ?_
                  refine (r_put (h' := ((y173.1.set 48 (.inr (5, [.ref 1, .ref 16, .ref 41, .ref 49, .int 0, .ref 50, .ref 51, .int 0, .ref 52, .int 0, .ref 53, .ref 54, .int 0, .int 0, .int 0, .int 0, .int 0]))), y173.2)) f66_135 (gs_eq (r_173 48 _ (by decide) (by decide) zh48)) rfl hss).trans ?_
                  refine (r_aloadn f66_138 rfl).trans ?_
                  refine (r_iconst (v := 0) f66_139 rfl).trans ?_
                  refine (r_put (h' := ((y173.1.set 48 (.inr (5, [.ref 1, .ref 16, .ref 41, .ref 49, .int 0, .ref 50, .ref 51, .int 0, .ref 52, .int 0, .ref 53, .ref 54, .int 0, .int 0, .int 0, .int 0, .int 0]))), y173.2)) f66_140 (gs_eq (r_173 48 _ (by decide) (by decide) zh48)) rfl hss).trans ?_
                  exact r_vreturn f66_143 rfl
                refine (r_virt (as := [.int x1]) (v := none) (h1 := ((y173.1.set 48 (.inr (5, [.ref 1, .ref 16, .ref 41, .ref 49, .int 0, .ref 50, .ref 51, .int 0, .ref 52, .int 0, .ref 53, .ref 54, .int 0, .int 0, .int 0, .int 0, .int 0]))), y173.2)) f180_56 zh48 zg66 rfl rfl rfl rfl rfl rfl hc4).trans ?_
                refine (r_iloadn f180_59 rfl).trans ?_
                refine (r_lsw f180_60).trans ?_
                refine (alw_t ec5).trans ?_
                refine (r_aloadn f180_88 rfl).trans ?_
                refine (r_get (v := .ref 48) f180_89 (gs_ne (r_173 0 _ (by decide) (by decide) zh0) (by decide)) rfl).trans ?_
                refine (r_get (v := .int 0) f180_92 (gs_eq (r_173 48 _ (by decide) (by decide) zh48)) rfl).trans ?_
                exact r_ireturn f180_95 rfl
              ·
                refine (r_iloadn f298_0 rfl).trans ?_
                have hc1 : arun X (n + 999998) (d + 19) zM198 0 [some (.int x1)] [] ((y173.1.set 48 (.inr (5, [.ref 1, .ref 16, .ref 41, .ref 49, .int 0, .ref 50, .ref 51, .int 0, .ref 52, .int 0, .ref 53, .ref 54, .int 0, .int 0, .int 0, .int 0, .int 0]))), y173.2) = some ((some (.int 1)), ((y173.1.set 48 (.inr (5, [.ref 1, .ref 16, .ref 41, .ref 49, .int 0, .ref 50, .ref 51, .int 0, .ref 52, .int 0, .ref 53, .ref 54, .int 0, .int 0, .int 0, .int 0, .int 0]))), y173.2)) := by
                  refine (r_iloadn f198_0 rfl).trans ?_
                  refine (r_iconst (v := 0) f198_1 rfl).trans ?_
                  refine (r_bipush (v := 9) f198_2 rfl).trans ?_
                  have hc2 : arun X (n + 999994) (d + 18) zM196 0 [some (.int x1), some (.int 0), some (.int 9)] [] ((y173.1.set 48 (.inr (5, [.ref 1, .ref 16, .ref 41, .ref 49, .int 0, .ref 50, .ref 51, .int 0, .ref 52, .int 0, .ref 53, .ref 54, .int 0, .int 0, .int 0, .int 0, .int 0]))), y173.2) = some ((some (.int 1)), ((y173.1.set 48 (.inr (5, [.ref 1, .ref 16, .ref 41, .ref 49, .int 0, .ref 50, .ref 51, .int 0, .ref 52, .int 0, .ref 53, .ref 54, .int 0, .int 0, .int 0, .int 0, .int 0]))), y173.2)) := by
                    refine (r_iloadn f196_0 rfl).trans ?_
                    refine (r_iloadn f196_1 rfl).trans ?_
                    refine (r_icmp_lt_f f196_2 ec0).trans ?_
                    refine (r_iloadn f196_5 rfl).trans ?_
                    refine (r_iloadn f196_6 rfl).trans ?_
                    refine (r_icmp_gt_f f196_7 ec1).trans ?_
                    refine (r_iconst (v := 1) f196_10 rfl).trans ?_
                    refine (r_goto f196_11).trans ?_
                    exact r_zreturn f196_15 rfl (by decide)
                  refine (r_stat (as := [.int x1, .int 0, .int 9]) (v := (some (.int 1))) (h1 := ((y173.1.set 48 (.inr (5, [.ref 1, .ref 16, .ref 41, .ref 49, .int 0, .ref 50, .ref 51, .int 0, .ref 52, .int 0, .ref 53, .ref 54, .int 0, .int 0, .int 0, .int 0, .int 0]))), y173.2)) f198_4 rfl zg196 rfl rfl rfl rfl rfl rfl hc2).trans ?_
                  exact r_zreturn f198_7 rfl (by decide)
                refine (r_stat (as := [.int x1]) (v := (some (.int 1))) (h1 := ((y173.1.set 48 (.inr (5, [.ref 1, .ref 16, .ref 41, .ref 49, .int 0, .ref 50, .ref 51, .int 0, .ref 52, .int 0, .ref 53, .ref 54, .int 0, .int 0, .int 0, .int 0, .int 0]))), y173.2)) f298_1 rfl zg198 rfl rfl rfl rfl rfl rfl hc1).trans ?_
                refine (r_if_eq_f f298_4 (by decide)).trans ?_
                refine (r_iloadn f298_7 rfl).trans ?_
                refine (r_iconst (v := 0) f298_8 rfl).trans ?_
                refine (r_iconst (v := 2) f298_9 rfl).trans ?_
                have hc3 : arun X (n + 999993) (d + 19) zM196 0 [some (.int x2), some (.int 0), some (.int 2)] [] ((y173.1.set 48 (.inr (5, [.ref 1, .ref 16, .ref 41, .ref 49, .int 0, .ref 50, .ref 51, .int 0, .ref 52, .int 0, .ref 53, .ref 54, .int 0, .int 0, .int 0, .int 0, .int 0]))), y173.2) = some ((some (.int 1)), ((y173.1.set 48 (.inr (5, [.ref 1, .ref 16, .ref 41, .ref 49, .int 0, .ref 50, .ref 51, .int 0, .ref 52, .int 0, .ref 53, .ref 54, .int 0, .int 0, .int 0, .int 0, .int 0]))), y173.2)) := by
                  refine (r_iloadn f196_0 rfl).trans ?_
                  refine (r_iloadn f196_1 rfl).trans ?_
                  refine (r_icmp_lt_f f196_2 ec2).trans ?_
                  refine (r_iloadn f196_5 rfl).trans ?_
                  refine (r_iloadn f196_6 rfl).trans ?_
                  refine (r_icmp_gt_f f196_7 ec3).trans ?_
                  refine (r_iconst (v := 1) f196_10 rfl).trans ?_
                  refine (r_goto f196_11).trans ?_
                  exact r_zreturn f196_15 rfl (by decide)
                refine (r_stat (as := [.int x2, .int 0, .int 2]) (v := (some (.int 1))) (h1 := ((y173.1.set 48 (.inr (5, [.ref 1, .ref 16, .ref 41, .ref 49, .int 0, .ref 50, .ref 51, .int 0, .ref 52, .int 0, .ref 53, .ref 54, .int 0, .int 0, .int 0, .int 0, .int 0]))), y173.2)) f298_10 rfl zg196 rfl rfl rfl rfl rfl rfl hc3).trans ?_
                refine (r_if_eq_f f298_13 (by decide)).trans ?_
                refine (r_iloadn f298_16 rfl).trans ?_
                refine (r_iconst (v := 2) f298_17 rfl).trans ?_
                refine (r_icmp_ne_t f298_18 ec4).trans ?_
                refine (r_aloadn f298_48 rfl).trans ?_
                refine (r_aloadn f298_49 rfl).trans ?_
                refine (r_get (v := .int 0) f298_50 (gs_ne (r_173 72 _ (by decide) (by decide) zh72) (by decide)) rfl).trans ?_
                refine (r_virt (as := [.int 0]) (v := none) (h1 := y177) f298_53 (gs_ne (r_173 72 _ (by decide) (by decide) zh72) (by decide)) zg239 rfl rfl rfl rfl rfl rfl (e_177 X (n + 799985) (d + 15))).trans ?_
                refine (r_iconst (v := 0) f298_56 rfl).trans ?_
                refine (r_istore (L' := [some (.ref 72), some (.int x1), some (.int x2), some (.int x3), some (.int 0), none, none, none, none, none]) f298_57 rfl rfl).trans ?_
                refine (r_iconst (v := 0) f298_59 rfl).trans ?_
                refine (r_istore (L' := [some (.ref 72), some (.int x1), some (.int x2), some (.int x3), some (.int 0), some (.int 0), none, none, none, none]) f298_60 rfl rfl).trans ?_
                refine (r_iconst (v := 0) f298_62 rfl).trans ?_
                refine (r_istore (L' := [some (.ref 72), some (.int x1), some (.int x2), some (.int x3), some (.int 0), some (.int 0), some (.int 0), none, none, none]) f298_63 rfl rfl).trans ?_
                refine (r_iconst (v := 0) f298_65 rfl).trans ?_
                refine (r_istore (L' := [some (.ref 72), some (.int x1), some (.int x2), some (.int x3), some (.int 0), some (.int 0), some (.int 0), some (.int 0), none, none]) f298_66 rfl rfl).trans ?_
                refine (r_iconst (v := 0) f298_68 rfl).trans ?_
                refine (r_istore (L' := [some (.ref 72), some (.int x1), some (.int x2), some (.int x3), some (.int 0), some (.int 0), some (.int 0), some (.int 0), some (.int 0), none]) f298_69 rfl rfl).trans ?_
                refine (r_iload f298_71 rfl).trans ?_
                refine (r_aloadn f298_73 rfl).trans ?_
                refine (r_get (v := .int 0) f298_74 q_177 rfl).trans ?_
                refine (r_icmp_ge_t f298_77 (by decide)).trans ?_
                refine (r_iloadn f298_169 rfl).trans ?_
                refine (r_iconst (v := 2) f298_170 rfl).trans ?_
                refine (r_icmp_ge_f f298_171 em0).trans ?_
                refine (r_iloadn f298_174 rfl).trans ?_
                refine (r_if_ne_f f298_175 ec5).trans ?_
                refine (r_iload f298_178 rfl).trans ?_
                refine (r_goto f298_180).trans ?_
                exact r_ireturn f298_185 rfl
              · exact Nat.le_trans (Nat.le_of_eq (l_177.trans (gs_ls l_173))) (by decide)
              · show y177.2 ≤ 7302250
                have hz : zH0.2 ≤ 100000 := by decide
                dsimp only at *
                omega
            ·
              have ec6 : x2 = 1 := (by
                have az3 := az_e (x := x3)
                have l0 : (0 : Int32).toInt = 0 := by decide
                have l1 : (1 : Int32).toInt = 1 := by decide
                have l2 : (2 : Int32).toInt = 2 := by decide
                have l3 : (9 : Int32).toInt = 9 := by decide
                simp only [Int32.lt_iff_toInt_lt, Int32.le_iff_toInt_le, ← Int32.toInt_inj] at *
                omega)
              have jc0 : ¬ (x1 < 0 ∨ 10 ≤ Int32.toNatClampNeg x1) := vp_in_iff.mpr (by
                have az3 := az_e (x := x3)
                have l0 : (0 : Int32).toInt = 0 := by decide
                have l1 : (1 : Int32).toInt = 1 := by decide
                have l2 : (2 : Int32).toInt = 2 := by decide
                have l3 : (9 : Int32).toInt = 9 := by decide
                simp only [Int32.lt_iff_toInt_lt, Int32.le_iff_toInt_le, ← Int32.toInt_inj] at *
                omega)
              obtain ⟨y174, e_174, l_174, u_174, r_174⟩ := season_fresh (x1 := x1) jc0
              have em0 : ¬ 2 ≤ x2 := (by
                have az3 := az_e (x := x3)
                have l0 : (0 : Int32).toInt = 0 := by decide
                have l1 : (1 : Int32).toInt = 1 := by decide
                have l2 : (2 : Int32).toInt = 2 := by decide
                have l3 : (9 : Int32).toInt = 9 := by decide
                simp only [Int32.lt_iff_toInt_lt, Int32.le_iff_toInt_le, ← Int32.toInt_inj] at *
                omega)
              obtain ⟨y178, e_178, l_178, u_178, r_178, q_178⟩ := reckon_fresh (h := ((y174.1.set 48 (.inr (5, [.ref 1, .ref 16, .ref 41, .ref 49, .int 0, .ref 50, .ref 51, .int 0, .ref 52, .int 0, .ref 53, .ref 54, .int 0, .int 0, .int 0, .int 0, .int 0]))), y174.2)) (gs_ne (r_174 72 _ (by decide) (by decide) zh72) (by decide)) (gs_ne (r_174 107 _ (by decide) (by decide) zh107) (by decide)) (gs_ne (r_174 108 _ (by decide) (by decide) zh108) (by decide)) (gs_ne (r_174 109 _ (by decide) (by decide) zh109) (by decide))
              refine ⟨0, ((y174.1.set 48 (.inr (5, [.ref 1, .ref 16, .ref 41, .ref 49, .int 0, .ref 50, .ref 51, .int 0, .ref 52, .int 0, .ref 53, .ref 54, .int 0, .int 0, .int 0, .int 0, .int 0]))), y174.2), y178, fun X n d => ?_, fun X n d => ?_, (gs_ne (r_174 72 _ (by decide) (by decide) zh72) (by decide)), ?_, ?_⟩
              ·
                refine (r_iloadn f180_0 rfl).trans ?_
                have hc1 : arun X (n + 999998) (d + 19) zM139 0 [some (.int x1)] [] zH0 = some ((some (.int 1)), zH0) := by
                  refine (r_iloadn f139_0 rfl).trans ?_
                  refine (r_iconst (v := 0) f139_1 rfl).trans ?_
                  refine (r_bipush (v := 9) f139_2 rfl).trans ?_
                  have hc2 : arun X (n + 999994) (d + 18) zM137 0 [some (.int x1), some (.int 0), some (.int 9)] [] zH0 = some ((some (.int 1)), zH0) := by
                    refine (r_iloadn f137_0 rfl).trans ?_
                    refine (r_iloadn f137_1 rfl).trans ?_
                    refine (r_icmp_gt_f f137_2 ec0).trans ?_
                    refine (r_iloadn f137_5 rfl).trans ?_
                    refine (r_iloadn f137_6 rfl).trans ?_
                    refine (r_icmp_gt_f f137_7 ec1).trans ?_
                    refine (r_iconst (v := 1) f137_10 rfl).trans ?_
                    refine (r_goto f137_11).trans ?_
                    exact r_zreturn f137_15 rfl (by decide)
                  refine (r_stat (as := [.int x1, .int 0, .int 9]) (v := (some (.int 1))) (h1 := zH0) f139_4 rfl zg137 rfl rfl rfl rfl rfl rfl hc2).trans ?_
                  exact r_zreturn f139_7 rfl (by decide)
                refine (r_stat (as := [.int x1]) (v := (some (.int 1))) (h1 := zH0) f180_1 rfl zg139 rfl rfl rfl rfl rfl rfl hc1).trans ?_
                refine (r_if_eq_f f180_4 (by decide)).trans ?_
                refine (r_iloadn f180_7 rfl).trans ?_
                refine (r_iconst (v := 0) f180_8 rfl).trans ?_
                refine (r_iconst (v := 2) f180_9 rfl).trans ?_
                have hc3 : arun X (n + 999993) (d + 19) zM137 0 [some (.int x2), some (.int 0), some (.int 2)] [] zH0 = some ((some (.int 1)), zH0) := by
                  refine (r_iloadn f137_0 rfl).trans ?_
                  refine (r_iloadn f137_1 rfl).trans ?_
                  refine (r_icmp_gt_f f137_2 ec2).trans ?_
                  refine (r_iloadn f137_5 rfl).trans ?_
                  refine (r_iloadn f137_6 rfl).trans ?_
                  refine (r_icmp_gt_f f137_7 ec3).trans ?_
                  refine (r_iconst (v := 1) f137_10 rfl).trans ?_
                  refine (r_goto f137_11).trans ?_
                  exact r_zreturn f137_15 rfl (by decide)
                refine (r_stat (as := [.int x2, .int 0, .int 2]) (v := (some (.int 1))) (h1 := zH0) f180_10 rfl zg137 rfl rfl rfl rfl rfl rfl hc3).trans ?_
                refine (r_if_ne_t f180_13 (by decide)).trans ?_
                refine (r_iloadn f180_18 rfl).trans ?_
                refine (r_iconst (v := 2) f180_19 rfl).trans ?_
                refine (r_icmp_ne_t f180_20 ec4).trans ?_
                refine (r_aloadn f180_51 rfl).trans ?_
                refine (r_get (v := .ref 48) f180_52 zh0 rfl).trans ?_
                refine (r_iloadn f180_55 rfl).trans ?_
                have hc4 : arun X (n + 999985) (d + 19) zM66 0 [some (.ref 48), some (.int x1), none, none] [] zH0 = some (none, ((y174.1.set 48 (.inr (5, [.ref 1, .ref 16, .ref 41, .ref 49, .int 0, .ref 50, .ref 51, .int 0, .ref 52, .int 0, .ref 53, .ref 54, .int 0, .int 0, .int 0, .int 0, .int 0]))), y174.2)) := by
                  refine (r_aloadn f66_0 rfl).trans ?_
                  refine (r_get (v := .ref 41) f66_1 zh48 rfl).trans ?_
                  refine (r_iloadn f66_4 rfl).trans ?_
                  refine (r_aloadn f66_5 rfl).trans ?_
                  refine (r_get (v := .ref 1) f66_6 zh48 rfl).trans ?_
                  refine (r_get (v := .int 0) f66_9 zh1 rfl).trans ?_
                  refine (r_virt (as := [.int x1, .int 0]) (v := (some (.ref 146))) (h1 := y174) f66_12 zh41 zg1 rfl rfl rfl rfl rfl rfl (e_174 X (n + 993978) (d + 8))).trans ?_
                  refine (r_astoren (L' := [some (.ref 48), some (.int x1), some (.ref 146), none]) f66_15 rfl rfl).trans ?_
                  refine (r_aloadn f66_16 rfl).trans ?_
                  refine (r_iconst (v := 0) f66_17 rfl).trans ?_
                  refine (r_put (h' := ((y174.1.set 48 (.inr (5, [.ref 1, .ref 16, .ref 41, .ref 49, .int 0, .ref 50, .ref 51, .int 0, .ref 52, .int 0, .ref 53, .ref 54, .int 0, .int 0, .int 0, .int 0, .int 0]))), y174.2)) f66_18 (r_174 48 _ (by decide) (by decide) zh48) rfl rfl).trans ?_
                  refine (r_aloadn f66_21 rfl).trans ?_
                  refine (r_iconst (v := 0) f66_22 rfl).trans ?_
                  refine (r_put (h' := ((y174.1.set 48 (.inr (5, [.ref 1, .ref 16, .ref 41, .ref 49, .int 0, .ref 50, .ref 51, .int 0, .ref 52, .int 0, .ref 53, .ref 54, .int 0, .int 0, .int 0, .int 0, .int 0]))), y174.2)) f66_23 (gs_eq (r_174 48 _ (by decide) (by decide) zh48)) rfl hss).trans ?_
                  refine (r_iconst (v := 0) f66_26 rfl).trans ?_
                  refine (r_istoren (L' := [some (.ref 48), some (.int x1), some (.ref 146), some (.int 0)]) f66_27 rfl rfl).trans ?_
                  refine (r_iloadn f66_28 rfl).trans ?_
                  refine (r_aloadn f66_29 rfl).trans ?_
                  refine (r_get (v := .ref 1) f66_30 (gs_eq (r_174 48 _ (by decide) (by decide) zh48)) rfl).trans ?_
                  refine (r_get (v := .int 0) f66_33 (gs_ne (r_174 1 _ (by decide) (by decide) zh1) (by decide)) rfl).trans ?_
                  refine (r_icmp_ge_t f66_36 (by decide)).trans ?_
                  refine (r_aloadn f66_126 rfl).trans ?_
                  refine (r_get (v := .int 0) f66_127 (gs_eq (r_174 48 _ (by decide) (by decide) zh48)) rfl).trans ?_
                  refine (r_if_ne_f f66_130 (by decide)).trans ?_
                  refine (r_aloadn f66_133 rfl).trans ?_
                  refine (r_iconst (v := 0) f66_134 rfl).trans ?_
                  refine (r_put (h' := ((y174.1.set 48 (.inr (5, [.ref 1, .ref 16, .ref 41, .ref 49, .int 0, .ref 50, .ref 51, .int 0, .ref 52, .int 0, .ref 53, .ref 54, .int 0, .int 0, .int 0, .int 0, .int 0]))), y174.2)) f66_135 (gs_eq (r_174 48 _ (by decide) (by decide) zh48)) rfl hss).trans ?_
                  refine (r_aloadn f66_138 rfl).trans ?_
                  refine (r_iconst (v := 0) f66_139 rfl).trans ?_
                  refine (r_put (h' := ((y174.1.set 48 (.inr (5, [.ref 1, .ref 16, .ref 41, .ref 49, .int 0, .ref 50, .ref 51, .int 0, .ref 52, .int 0, .ref 53, .ref 54, .int 0, .int 0, .int 0, .int 0, .int 0]))), y174.2)) f66_140 (gs_eq (r_174 48 _ (by decide) (by decide) zh48)) rfl hss).trans ?_
                  exact r_vreturn f66_143 rfl
                refine (r_virt (as := [.int x1]) (v := none) (h1 := ((y174.1.set 48 (.inr (5, [.ref 1, .ref 16, .ref 41, .ref 49, .int 0, .ref 50, .ref 51, .int 0, .ref 52, .int 0, .ref 53, .ref 54, .int 0, .int 0, .int 0, .int 0, .int 0]))), y174.2)) f180_56 zh48 zg66 rfl rfl rfl rfl rfl rfl hc4).trans ?_
                refine (r_iloadn f180_59 rfl).trans ?_
                refine (r_lsw f180_60).trans ?_
                refine (alw_f ec5).trans ?_
                refine (alw_t ec6).trans ?_
                refine (r_aloadn f180_96 rfl).trans ?_
                refine (r_get (v := .ref 48) f180_97 (gs_ne (r_174 0 _ (by decide) (by decide) zh0) (by decide)) rfl).trans ?_
                refine (r_get (v := .int 0) f180_100 (gs_eq (r_174 48 _ (by decide) (by decide) zh48)) rfl).trans ?_
                exact r_ireturn f180_103 rfl
              ·
                refine (r_iloadn f298_0 rfl).trans ?_
                have hc1 : arun X (n + 999998) (d + 19) zM198 0 [some (.int x1)] [] ((y174.1.set 48 (.inr (5, [.ref 1, .ref 16, .ref 41, .ref 49, .int 0, .ref 50, .ref 51, .int 0, .ref 52, .int 0, .ref 53, .ref 54, .int 0, .int 0, .int 0, .int 0, .int 0]))), y174.2) = some ((some (.int 1)), ((y174.1.set 48 (.inr (5, [.ref 1, .ref 16, .ref 41, .ref 49, .int 0, .ref 50, .ref 51, .int 0, .ref 52, .int 0, .ref 53, .ref 54, .int 0, .int 0, .int 0, .int 0, .int 0]))), y174.2)) := by
                  refine (r_iloadn f198_0 rfl).trans ?_
                  refine (r_iconst (v := 0) f198_1 rfl).trans ?_
                  refine (r_bipush (v := 9) f198_2 rfl).trans ?_
                  have hc2 : arun X (n + 999994) (d + 18) zM196 0 [some (.int x1), some (.int 0), some (.int 9)] [] ((y174.1.set 48 (.inr (5, [.ref 1, .ref 16, .ref 41, .ref 49, .int 0, .ref 50, .ref 51, .int 0, .ref 52, .int 0, .ref 53, .ref 54, .int 0, .int 0, .int 0, .int 0, .int 0]))), y174.2) = some ((some (.int 1)), ((y174.1.set 48 (.inr (5, [.ref 1, .ref 16, .ref 41, .ref 49, .int 0, .ref 50, .ref 51, .int 0, .ref 52, .int 0, .ref 53, .ref 54, .int 0, .int 0, .int 0, .int 0, .int 0]))), y174.2)) := by
                    refine (r_iloadn f196_0 rfl).trans ?_
                    refine (r_iloadn f196_1 rfl).trans ?_
                    refine (r_icmp_lt_f f196_2 ec0).trans ?_
                    refine (r_iloadn f196_5 rfl).trans ?_
                    refine (r_iloadn f196_6 rfl).trans ?_
                    refine (r_icmp_gt_f f196_7 ec1).trans ?_
                    refine (r_iconst (v := 1) f196_10 rfl).trans ?_
                    refine (r_goto f196_11).trans ?_
                    exact r_zreturn f196_15 rfl (by decide)
                  refine (r_stat (as := [.int x1, .int 0, .int 9]) (v := (some (.int 1))) (h1 := ((y174.1.set 48 (.inr (5, [.ref 1, .ref 16, .ref 41, .ref 49, .int 0, .ref 50, .ref 51, .int 0, .ref 52, .int 0, .ref 53, .ref 54, .int 0, .int 0, .int 0, .int 0, .int 0]))), y174.2)) f198_4 rfl zg196 rfl rfl rfl rfl rfl rfl hc2).trans ?_
                  exact r_zreturn f198_7 rfl (by decide)
                refine (r_stat (as := [.int x1]) (v := (some (.int 1))) (h1 := ((y174.1.set 48 (.inr (5, [.ref 1, .ref 16, .ref 41, .ref 49, .int 0, .ref 50, .ref 51, .int 0, .ref 52, .int 0, .ref 53, .ref 54, .int 0, .int 0, .int 0, .int 0, .int 0]))), y174.2)) f298_1 rfl zg198 rfl rfl rfl rfl rfl rfl hc1).trans ?_
                refine (r_if_eq_f f298_4 (by decide)).trans ?_
                refine (r_iloadn f298_7 rfl).trans ?_
                refine (r_iconst (v := 0) f298_8 rfl).trans ?_
                refine (r_iconst (v := 2) f298_9 rfl).trans ?_
                have hc3 : arun X (n + 999993) (d + 19) zM196 0 [some (.int x2), some (.int 0), some (.int 2)] [] ((y174.1.set 48 (.inr (5, [.ref 1, .ref 16, .ref 41, .ref 49, .int 0, .ref 50, .ref 51, .int 0, .ref 52, .int 0, .ref 53, .ref 54, .int 0, .int 0, .int 0, .int 0, .int 0]))), y174.2) = some ((some (.int 1)), ((y174.1.set 48 (.inr (5, [.ref 1, .ref 16, .ref 41, .ref 49, .int 0, .ref 50, .ref 51, .int 0, .ref 52, .int 0, .ref 53, .ref 54, .int 0, .int 0, .int 0, .int 0, .int 0]))), y174.2)) := by
                  refine (r_iloadn f196_0 rfl).trans ?_
                  refine (r_iloadn f196_1 rfl).trans ?_
                  refine (r_icmp_lt_f f196_2 ec2).trans ?_
                  refine (r_iloadn f196_5 rfl).trans ?_
                  refine (r_iloadn f196_6 rfl).trans ?_
                  refine (r_icmp_gt_f f196_7 ec3).trans ?_
                  refine (r_iconst (v := 1) f196_10 rfl).trans ?_
                  refine (r_goto f196_11).trans ?_
                  exact r_zreturn f196_15 rfl (by decide)
                refine (r_stat (as := [.int x2, .int 0, .int 2]) (v := (some (.int 1))) (h1 := ((y174.1.set 48 (.inr (5, [.ref 1, .ref 16, .ref 41, .ref 49, .int 0, .ref 50, .ref 51, .int 0, .ref 52, .int 0, .ref 53, .ref 54, .int 0, .int 0, .int 0, .int 0, .int 0]))), y174.2)) f298_10 rfl zg196 rfl rfl rfl rfl rfl rfl hc3).trans ?_
                refine (r_if_eq_f f298_13 (by decide)).trans ?_
                refine (r_iloadn f298_16 rfl).trans ?_
                refine (r_iconst (v := 2) f298_17 rfl).trans ?_
                refine (r_icmp_ne_t f298_18 ec4).trans ?_
                refine (r_aloadn f298_48 rfl).trans ?_
                refine (r_aloadn f298_49 rfl).trans ?_
                refine (r_get (v := .int 0) f298_50 (gs_ne (r_174 72 _ (by decide) (by decide) zh72) (by decide)) rfl).trans ?_
                refine (r_virt (as := [.int 0]) (v := none) (h1 := y178) f298_53 (gs_ne (r_174 72 _ (by decide) (by decide) zh72) (by decide)) zg239 rfl rfl rfl rfl rfl rfl (e_178 X (n + 799985) (d + 15))).trans ?_
                refine (r_iconst (v := 0) f298_56 rfl).trans ?_
                refine (r_istore (L' := [some (.ref 72), some (.int x1), some (.int x2), some (.int x3), some (.int 0), none, none, none, none, none]) f298_57 rfl rfl).trans ?_
                refine (r_iconst (v := 0) f298_59 rfl).trans ?_
                refine (r_istore (L' := [some (.ref 72), some (.int x1), some (.int x2), some (.int x3), some (.int 0), some (.int 0), none, none, none, none]) f298_60 rfl rfl).trans ?_
                refine (r_iconst (v := 0) f298_62 rfl).trans ?_
                refine (r_istore (L' := [some (.ref 72), some (.int x1), some (.int x2), some (.int x3), some (.int 0), some (.int 0), some (.int 0), none, none, none]) f298_63 rfl rfl).trans ?_
                refine (r_iconst (v := 0) f298_65 rfl).trans ?_
                refine (r_istore (L' := [some (.ref 72), some (.int x1), some (.int x2), some (.int x3), some (.int 0), some (.int 0), some (.int 0), some (.int 0), none, none]) f298_66 rfl rfl).trans ?_
                refine (r_iconst (v := 0) f298_68 rfl).trans ?_
                refine (r_istore (L' := [some (.ref 72), some (.int x1), some (.int x2), some (.int x3), some (.int 0), some (.int 0), some (.int 0), some (.int 0), some (.int 0), none]) f298_69 rfl rfl).trans ?_
                refine (r_iload f298_71 rfl).trans ?_
                refine (r_aloadn f298_73 rfl).trans ?_
                refine (r_get (v := .int 0) f298_74 q_178 rfl).trans ?_
                refine (r_icmp_ge_t f298_77 (by decide)).trans ?_
                refine (r_iloadn f298_169 rfl).trans ?_
                refine (r_iconst (v := 2) f298_170 rfl).trans ?_
                refine (r_icmp_ge_f f298_171 em0).trans ?_
                refine (r_iloadn f298_174 rfl).trans ?_
                refine (r_if_ne_t f298_175 ec5).trans ?_
                refine (r_iload f298_183 rfl).trans ?_
                exact r_ireturn f298_185 rfl
              · exact Nat.le_trans (Nat.le_of_eq (l_178.trans (gs_ls l_174))) (by decide)
              · show y178.2 ≤ 7302250
                have hz : zH0.2 ≤ 100000 := by decide
                dsimp only at *
                omega
          ·
            have ec4 : x2 = 2 := Decidable.not_not.mp ec4
            by_cases ec5 : (x3 / 100) < 1
            ·
              by_cases em0 : x3 < 100
              ·
                refine ⟨(-1), zH0, zH0, fun X n d => ?_, fun X n d => ?_, zh72, ?_, ?_⟩
                ·
                  refine (r_iloadn f180_0 rfl).trans ?_
                  have hc1 : arun X (n + 999998) (d + 19) zM139 0 [some (.int x1)] [] zH0 = some ((some (.int 1)), zH0) := by
                    refine (r_iloadn f139_0 rfl).trans ?_
                    refine (r_iconst (v := 0) f139_1 rfl).trans ?_
                    refine (r_bipush (v := 9) f139_2 rfl).trans ?_
                    have hc2 : arun X (n + 999994) (d + 18) zM137 0 [some (.int x1), some (.int 0), some (.int 9)] [] zH0 = some ((some (.int 1)), zH0) := by
                      refine (r_iloadn f137_0 rfl).trans ?_
                      refine (r_iloadn f137_1 rfl).trans ?_
                      refine (r_icmp_gt_f f137_2 ec0).trans ?_
                      refine (r_iloadn f137_5 rfl).trans ?_
                      refine (r_iloadn f137_6 rfl).trans ?_
                      refine (r_icmp_gt_f f137_7 ec1).trans ?_
                      refine (r_iconst (v := 1) f137_10 rfl).trans ?_
                      refine (r_goto f137_11).trans ?_
                      exact r_zreturn f137_15 rfl (by decide)
                    refine (r_stat (as := [.int x1, .int 0, .int 9]) (v := (some (.int 1))) (h1 := zH0) f139_4 rfl zg137 rfl rfl rfl rfl rfl rfl hc2).trans ?_
                    exact r_zreturn f139_7 rfl (by decide)
                  refine (r_stat (as := [.int x1]) (v := (some (.int 1))) (h1 := zH0) f180_1 rfl zg139 rfl rfl rfl rfl rfl rfl hc1).trans ?_
                  refine (r_if_eq_f f180_4 (by decide)).trans ?_
                  refine (r_iloadn f180_7 rfl).trans ?_
                  refine (r_iconst (v := 0) f180_8 rfl).trans ?_
                  refine (r_iconst (v := 2) f180_9 rfl).trans ?_
                  have hc3 : arun X (n + 999993) (d + 19) zM137 0 [some (.int x2), some (.int 0), some (.int 2)] [] zH0 = some ((some (.int 1)), zH0) := by
                    refine (r_iloadn f137_0 rfl).trans ?_
                    refine (r_iloadn f137_1 rfl).trans ?_
                    refine (r_icmp_gt_f f137_2 ec2).trans ?_
                    refine (r_iloadn f137_5 rfl).trans ?_
                    refine (r_iloadn f137_6 rfl).trans ?_
                    refine (r_icmp_gt_f f137_7 ec3).trans ?_
                    refine (r_iconst (v := 1) f137_10 rfl).trans ?_
                    refine (r_goto f137_11).trans ?_
                    exact r_zreturn f137_15 rfl (by decide)
                  refine (r_stat (as := [.int x2, .int 0, .int 2]) (v := (some (.int 1))) (h1 := zH0) f180_10 rfl zg137 rfl rfl rfl rfl rfl rfl hc3).trans ?_
                  refine (r_if_ne_t f180_13 (by decide)).trans ?_
                  refine (r_iloadn f180_18 rfl).trans ?_
                  refine (r_iconst (v := 2) f180_19 rfl).trans ?_
                  refine (r_icmp_ne_f f180_20 ec4).trans ?_
                  refine (r_iloadn f180_23 rfl).trans ?_
                  refine (r_bipush (v := 100) f180_24 rfl).trans ?_
                  refine (r_idiv (v := (x3 / 100)) f180_26 (by decide) rfl).trans ?_
                  refine (r_iconst (v := 1) f180_27 rfl).trans ?_
                  refine (r_bipush (v := 99) f180_28 rfl).trans ?_
                  have hc4 : arun X (n + 999983) (d + 19) zM137 0 [some (.int (x3 / 100)), some (.int 1), some (.int 99)] [] zH0 = some ((some (.int 0)), zH0) := by
                    refine (r_iloadn f137_0 rfl).trans ?_
                    refine (r_iloadn f137_1 rfl).trans ?_
                    refine (r_icmp_gt_t f137_2 ec5).trans ?_
                    refine (r_iconst (v := 0) f137_14 rfl).trans ?_
                    exact r_zreturn f137_15 rfl (by decide)
                  refine (r_stat (as := [.int (x3 / 100), .int 1, .int 99]) (v := (some (.int 0))) (h1 := zH0) f180_30 rfl zg137 rfl rfl rfl rfl rfl rfl hc4).trans ?_
                  refine (r_if_eq_t f180_33 (by decide)).trans ?_
                  refine (r_iconst (v := (-1)) f180_49 rfl).trans ?_
                  exact r_ireturn f180_50 rfl
                ·
                  refine (r_iloadn f298_0 rfl).trans ?_
                  have hc1 : arun X (n + 999998) (d + 19) zM198 0 [some (.int x1)] [] zH0 = some ((some (.int 1)), zH0) := by
                    refine (r_iloadn f198_0 rfl).trans ?_
                    refine (r_iconst (v := 0) f198_1 rfl).trans ?_
                    refine (r_bipush (v := 9) f198_2 rfl).trans ?_
                    have hc2 : arun X (n + 999994) (d + 18) zM196 0 [some (.int x1), some (.int 0), some (.int 9)] [] zH0 = some ((some (.int 1)), zH0) := by
                      refine (r_iloadn f196_0 rfl).trans ?_
                      refine (r_iloadn f196_1 rfl).trans ?_
                      refine (r_icmp_lt_f f196_2 ec0).trans ?_
                      refine (r_iloadn f196_5 rfl).trans ?_
                      refine (r_iloadn f196_6 rfl).trans ?_
                      refine (r_icmp_gt_f f196_7 ec1).trans ?_
                      refine (r_iconst (v := 1) f196_10 rfl).trans ?_
                      refine (r_goto f196_11).trans ?_
                      exact r_zreturn f196_15 rfl (by decide)
                    refine (r_stat (as := [.int x1, .int 0, .int 9]) (v := (some (.int 1))) (h1 := zH0) f198_4 rfl zg196 rfl rfl rfl rfl rfl rfl hc2).trans ?_
                    exact r_zreturn f198_7 rfl (by decide)
                  refine (r_stat (as := [.int x1]) (v := (some (.int 1))) (h1 := zH0) f298_1 rfl zg198 rfl rfl rfl rfl rfl rfl hc1).trans ?_
                  refine (r_if_eq_f f298_4 (by decide)).trans ?_
                  refine (r_iloadn f298_7 rfl).trans ?_
                  refine (r_iconst (v := 0) f298_8 rfl).trans ?_
                  refine (r_iconst (v := 2) f298_9 rfl).trans ?_
                  have hc3 : arun X (n + 999993) (d + 19) zM196 0 [some (.int x2), some (.int 0), some (.int 2)] [] zH0 = some ((some (.int 1)), zH0) := by
                    refine (r_iloadn f196_0 rfl).trans ?_
                    refine (r_iloadn f196_1 rfl).trans ?_
                    refine (r_icmp_lt_f f196_2 ec2).trans ?_
                    refine (r_iloadn f196_5 rfl).trans ?_
                    refine (r_iloadn f196_6 rfl).trans ?_
                    refine (r_icmp_gt_f f196_7 ec3).trans ?_
                    refine (r_iconst (v := 1) f196_10 rfl).trans ?_
                    refine (r_goto f196_11).trans ?_
                    exact r_zreturn f196_15 rfl (by decide)
                  refine (r_stat (as := [.int x2, .int 0, .int 2]) (v := (some (.int 1))) (h1 := zH0) f298_10 rfl zg196 rfl rfl rfl rfl rfl rfl hc3).trans ?_
                  refine (r_if_eq_f f298_13 (by decide)).trans ?_
                  refine (r_iloadn f298_16 rfl).trans ?_
                  refine (r_iconst (v := 2) f298_17 rfl).trans ?_
                  refine (r_icmp_ne_f f298_18 ec4).trans ?_
                  refine (r_iloadn f298_21 rfl).trans ?_
                  refine (r_bipush (v := 100) f298_22 rfl).trans ?_
                  refine (r_sipush (v := 9949) f298_24 rfl).trans ?_
                  have hc4 : arun X (n + 999985) (d + 19) zM196 0 [some (.int x3), some (.int 100), some (.int 9949)] [] zH0 = some ((some (.int 0)), zH0) := by
                    refine (r_iloadn f196_0 rfl).trans ?_
                    refine (r_iloadn f196_1 rfl).trans ?_
                    refine (r_icmp_lt_t f196_2 em0).trans ?_
                    refine (r_iconst (v := 0) f196_14 rfl).trans ?_
                    exact r_zreturn f196_15 rfl (by decide)
                  refine (r_stat (as := [.int x3, .int 100, .int 9949]) (v := (some (.int 0))) (h1 := zH0) f298_27 rfl zg196 rfl rfl rfl rfl rfl rfl hc4).trans ?_
                  refine (r_if_eq_t f298_30 (by decide)).trans ?_
                  refine (r_iconst (v := (-1)) f298_46 rfl).trans ?_
                  exact r_ireturn f298_47 rfl
                · exact Nat.le_trans (Nat.le_of_eq zH0_len) (by decide)
                · decide
              ·
                by_cases em1 : 9949 < x3
                ·
                  refine ⟨(-1), zH0, zH0, fun X n d => ?_, fun X n d => ?_, zh72, ?_, ?_⟩
                  ·
                    refine (r_iloadn f180_0 rfl).trans ?_
                    have hc1 : arun X (n + 999998) (d + 19) zM139 0 [some (.int x1)] [] zH0 = some ((some (.int 1)), zH0) := by
                      refine (r_iloadn f139_0 rfl).trans ?_
                      refine (r_iconst (v := 0) f139_1 rfl).trans ?_
                      refine (r_bipush (v := 9) f139_2 rfl).trans ?_
                      have hc2 : arun X (n + 999994) (d + 18) zM137 0 [some (.int x1), some (.int 0), some (.int 9)] [] zH0 = some ((some (.int 1)), zH0) := by
                        refine (r_iloadn f137_0 rfl).trans ?_
                        refine (r_iloadn f137_1 rfl).trans ?_
                        refine (r_icmp_gt_f f137_2 ec0).trans ?_
                        refine (r_iloadn f137_5 rfl).trans ?_
                        refine (r_iloadn f137_6 rfl).trans ?_
                        refine (r_icmp_gt_f f137_7 ec1).trans ?_
                        refine (r_iconst (v := 1) f137_10 rfl).trans ?_
                        refine (r_goto f137_11).trans ?_
                        exact r_zreturn f137_15 rfl (by decide)
                      refine (r_stat (as := [.int x1, .int 0, .int 9]) (v := (some (.int 1))) (h1 := zH0) f139_4 rfl zg137 rfl rfl rfl rfl rfl rfl hc2).trans ?_
                      exact r_zreturn f139_7 rfl (by decide)
                    refine (r_stat (as := [.int x1]) (v := (some (.int 1))) (h1 := zH0) f180_1 rfl zg139 rfl rfl rfl rfl rfl rfl hc1).trans ?_
                    refine (r_if_eq_f f180_4 (by decide)).trans ?_
                    refine (r_iloadn f180_7 rfl).trans ?_
                    refine (r_iconst (v := 0) f180_8 rfl).trans ?_
                    refine (r_iconst (v := 2) f180_9 rfl).trans ?_
                    have hc3 : arun X (n + 999993) (d + 19) zM137 0 [some (.int x2), some (.int 0), some (.int 2)] [] zH0 = some ((some (.int 1)), zH0) := by
                      refine (r_iloadn f137_0 rfl).trans ?_
                      refine (r_iloadn f137_1 rfl).trans ?_
                      refine (r_icmp_gt_f f137_2 ec2).trans ?_
                      refine (r_iloadn f137_5 rfl).trans ?_
                      refine (r_iloadn f137_6 rfl).trans ?_
                      refine (r_icmp_gt_f f137_7 ec3).trans ?_
                      refine (r_iconst (v := 1) f137_10 rfl).trans ?_
                      refine (r_goto f137_11).trans ?_
                      exact r_zreturn f137_15 rfl (by decide)
                    refine (r_stat (as := [.int x2, .int 0, .int 2]) (v := (some (.int 1))) (h1 := zH0) f180_10 rfl zg137 rfl rfl rfl rfl rfl rfl hc3).trans ?_
                    refine (r_if_ne_t f180_13 (by decide)).trans ?_
                    refine (r_iloadn f180_18 rfl).trans ?_
                    refine (r_iconst (v := 2) f180_19 rfl).trans ?_
                    refine (r_icmp_ne_f f180_20 ec4).trans ?_
                    refine (r_iloadn f180_23 rfl).trans ?_
                    refine (r_bipush (v := 100) f180_24 rfl).trans ?_
                    refine (r_idiv (v := (x3 / 100)) f180_26 (by decide) rfl).trans ?_
                    refine (r_iconst (v := 1) f180_27 rfl).trans ?_
                    refine (r_bipush (v := 99) f180_28 rfl).trans ?_
                    have hc4 : arun X (n + 999983) (d + 19) zM137 0 [some (.int (x3 / 100)), some (.int 1), some (.int 99)] [] zH0 = some ((some (.int 0)), zH0) := by
                      refine (r_iloadn f137_0 rfl).trans ?_
                      refine (r_iloadn f137_1 rfl).trans ?_
                      refine (r_icmp_gt_t f137_2 ec5).trans ?_
                      refine (r_iconst (v := 0) f137_14 rfl).trans ?_
                      exact r_zreturn f137_15 rfl (by decide)
                    refine (r_stat (as := [.int (x3 / 100), .int 1, .int 99]) (v := (some (.int 0))) (h1 := zH0) f180_30 rfl zg137 rfl rfl rfl rfl rfl rfl hc4).trans ?_
                    refine (r_if_eq_t f180_33 (by decide)).trans ?_
                    refine (r_iconst (v := (-1)) f180_49 rfl).trans ?_
                    exact r_ireturn f180_50 rfl
                  ·
                    refine (r_iloadn f298_0 rfl).trans ?_
                    have hc1 : arun X (n + 999998) (d + 19) zM198 0 [some (.int x1)] [] zH0 = some ((some (.int 1)), zH0) := by
                      refine (r_iloadn f198_0 rfl).trans ?_
                      refine (r_iconst (v := 0) f198_1 rfl).trans ?_
                      refine (r_bipush (v := 9) f198_2 rfl).trans ?_
                      have hc2 : arun X (n + 999994) (d + 18) zM196 0 [some (.int x1), some (.int 0), some (.int 9)] [] zH0 = some ((some (.int 1)), zH0) := by
                        refine (r_iloadn f196_0 rfl).trans ?_
                        refine (r_iloadn f196_1 rfl).trans ?_
                        refine (r_icmp_lt_f f196_2 ec0).trans ?_
                        refine (r_iloadn f196_5 rfl).trans ?_
                        refine (r_iloadn f196_6 rfl).trans ?_
                        refine (r_icmp_gt_f f196_7 ec1).trans ?_
                        refine (r_iconst (v := 1) f196_10 rfl).trans ?_
                        refine (r_goto f196_11).trans ?_
                        exact r_zreturn f196_15 rfl (by decide)
                      refine (r_stat (as := [.int x1, .int 0, .int 9]) (v := (some (.int 1))) (h1 := zH0) f198_4 rfl zg196 rfl rfl rfl rfl rfl rfl hc2).trans ?_
                      exact r_zreturn f198_7 rfl (by decide)
                    refine (r_stat (as := [.int x1]) (v := (some (.int 1))) (h1 := zH0) f298_1 rfl zg198 rfl rfl rfl rfl rfl rfl hc1).trans ?_
                    refine (r_if_eq_f f298_4 (by decide)).trans ?_
                    refine (r_iloadn f298_7 rfl).trans ?_
                    refine (r_iconst (v := 0) f298_8 rfl).trans ?_
                    refine (r_iconst (v := 2) f298_9 rfl).trans ?_
                    have hc3 : arun X (n + 999993) (d + 19) zM196 0 [some (.int x2), some (.int 0), some (.int 2)] [] zH0 = some ((some (.int 1)), zH0) := by
                      refine (r_iloadn f196_0 rfl).trans ?_
                      refine (r_iloadn f196_1 rfl).trans ?_
                      refine (r_icmp_lt_f f196_2 ec2).trans ?_
                      refine (r_iloadn f196_5 rfl).trans ?_
                      refine (r_iloadn f196_6 rfl).trans ?_
                      refine (r_icmp_gt_f f196_7 ec3).trans ?_
                      refine (r_iconst (v := 1) f196_10 rfl).trans ?_
                      refine (r_goto f196_11).trans ?_
                      exact r_zreturn f196_15 rfl (by decide)
                    refine (r_stat (as := [.int x2, .int 0, .int 2]) (v := (some (.int 1))) (h1 := zH0) f298_10 rfl zg196 rfl rfl rfl rfl rfl rfl hc3).trans ?_
                    refine (r_if_eq_f f298_13 (by decide)).trans ?_
                    refine (r_iloadn f298_16 rfl).trans ?_
                    refine (r_iconst (v := 2) f298_17 rfl).trans ?_
                    refine (r_icmp_ne_f f298_18 ec4).trans ?_
                    refine (r_iloadn f298_21 rfl).trans ?_
                    refine (r_bipush (v := 100) f298_22 rfl).trans ?_
                    refine (r_sipush (v := 9949) f298_24 rfl).trans ?_
                    have hc4 : arun X (n + 999985) (d + 19) zM196 0 [some (.int x3), some (.int 100), some (.int 9949)] [] zH0 = some ((some (.int 0)), zH0) := by
                      refine (r_iloadn f196_0 rfl).trans ?_
                      refine (r_iloadn f196_1 rfl).trans ?_
                      refine (r_icmp_lt_f f196_2 em0).trans ?_
                      refine (r_iloadn f196_5 rfl).trans ?_
                      refine (r_iloadn f196_6 rfl).trans ?_
                      refine (r_icmp_gt_t f196_7 em1).trans ?_
                      refine (r_iconst (v := 0) f196_14 rfl).trans ?_
                      exact r_zreturn f196_15 rfl (by decide)
                    refine (r_stat (as := [.int x3, .int 100, .int 9949]) (v := (some (.int 0))) (h1 := zH0) f298_27 rfl zg196 rfl rfl rfl rfl rfl rfl hc4).trans ?_
                    refine (r_if_eq_t f298_30 (by decide)).trans ?_
                    refine (r_iconst (v := (-1)) f298_46 rfl).trans ?_
                    exact r_ireturn f298_47 rfl
                  · exact Nat.le_trans (Nat.le_of_eq zH0_len) (by decide)
                  · decide
                ·
                  by_cases em2 : (x3 - x3 / 100 * 100) < 1
                  ·
                    refine ⟨(-1), zH0, zH0, fun X n d => ?_, fun X n d => ?_, zh72, ?_, ?_⟩
                    ·
                      refine (r_iloadn f180_0 rfl).trans ?_
                      have hc1 : arun X (n + 999998) (d + 19) zM139 0 [some (.int x1)] [] zH0 = some ((some (.int 1)), zH0) := by
                        refine (r_iloadn f139_0 rfl).trans ?_
                        refine (r_iconst (v := 0) f139_1 rfl).trans ?_
                        refine (r_bipush (v := 9) f139_2 rfl).trans ?_
                        have hc2 : arun X (n + 999994) (d + 18) zM137 0 [some (.int x1), some (.int 0), some (.int 9)] [] zH0 = some ((some (.int 1)), zH0) := by
                          refine (r_iloadn f137_0 rfl).trans ?_
                          refine (r_iloadn f137_1 rfl).trans ?_
                          refine (r_icmp_gt_f f137_2 ec0).trans ?_
                          refine (r_iloadn f137_5 rfl).trans ?_
                          refine (r_iloadn f137_6 rfl).trans ?_
                          refine (r_icmp_gt_f f137_7 ec1).trans ?_
                          refine (r_iconst (v := 1) f137_10 rfl).trans ?_
                          refine (r_goto f137_11).trans ?_
                          exact r_zreturn f137_15 rfl (by decide)
                        refine (r_stat (as := [.int x1, .int 0, .int 9]) (v := (some (.int 1))) (h1 := zH0) f139_4 rfl zg137 rfl rfl rfl rfl rfl rfl hc2).trans ?_
                        exact r_zreturn f139_7 rfl (by decide)
                      refine (r_stat (as := [.int x1]) (v := (some (.int 1))) (h1 := zH0) f180_1 rfl zg139 rfl rfl rfl rfl rfl rfl hc1).trans ?_
                      refine (r_if_eq_f f180_4 (by decide)).trans ?_
                      refine (r_iloadn f180_7 rfl).trans ?_
                      refine (r_iconst (v := 0) f180_8 rfl).trans ?_
                      refine (r_iconst (v := 2) f180_9 rfl).trans ?_
                      have hc3 : arun X (n + 999993) (d + 19) zM137 0 [some (.int x2), some (.int 0), some (.int 2)] [] zH0 = some ((some (.int 1)), zH0) := by
                        refine (r_iloadn f137_0 rfl).trans ?_
                        refine (r_iloadn f137_1 rfl).trans ?_
                        refine (r_icmp_gt_f f137_2 ec2).trans ?_
                        refine (r_iloadn f137_5 rfl).trans ?_
                        refine (r_iloadn f137_6 rfl).trans ?_
                        refine (r_icmp_gt_f f137_7 ec3).trans ?_
                        refine (r_iconst (v := 1) f137_10 rfl).trans ?_
                        refine (r_goto f137_11).trans ?_
                        exact r_zreturn f137_15 rfl (by decide)
                      refine (r_stat (as := [.int x2, .int 0, .int 2]) (v := (some (.int 1))) (h1 := zH0) f180_10 rfl zg137 rfl rfl rfl rfl rfl rfl hc3).trans ?_
                      refine (r_if_ne_t f180_13 (by decide)).trans ?_
                      refine (r_iloadn f180_18 rfl).trans ?_
                      refine (r_iconst (v := 2) f180_19 rfl).trans ?_
                      refine (r_icmp_ne_f f180_20 ec4).trans ?_
                      refine (r_iloadn f180_23 rfl).trans ?_
                      refine (r_bipush (v := 100) f180_24 rfl).trans ?_
                      refine (r_idiv (v := (x3 / 100)) f180_26 (by decide) rfl).trans ?_
                      refine (r_iconst (v := 1) f180_27 rfl).trans ?_
                      refine (r_bipush (v := 99) f180_28 rfl).trans ?_
                      have hc4 : arun X (n + 999983) (d + 19) zM137 0 [some (.int (x3 / 100)), some (.int 1), some (.int 99)] [] zH0 = some ((some (.int 0)), zH0) := by
                        refine (r_iloadn f137_0 rfl).trans ?_
                        refine (r_iloadn f137_1 rfl).trans ?_
                        refine (r_icmp_gt_t f137_2 ec5).trans ?_
                        refine (r_iconst (v := 0) f137_14 rfl).trans ?_
                        exact r_zreturn f137_15 rfl (by decide)
                      refine (r_stat (as := [.int (x3 / 100), .int 1, .int 99]) (v := (some (.int 0))) (h1 := zH0) f180_30 rfl zg137 rfl rfl rfl rfl rfl rfl hc4).trans ?_
                      refine (r_if_eq_t f180_33 (by decide)).trans ?_
                      refine (r_iconst (v := (-1)) f180_49 rfl).trans ?_
                      exact r_ireturn f180_50 rfl
                    ·
                      refine (r_iloadn f298_0 rfl).trans ?_
                      have hc1 : arun X (n + 999998) (d + 19) zM198 0 [some (.int x1)] [] zH0 = some ((some (.int 1)), zH0) := by
                        refine (r_iloadn f198_0 rfl).trans ?_
                        refine (r_iconst (v := 0) f198_1 rfl).trans ?_
                        refine (r_bipush (v := 9) f198_2 rfl).trans ?_
                        have hc2 : arun X (n + 999994) (d + 18) zM196 0 [some (.int x1), some (.int 0), some (.int 9)] [] zH0 = some ((some (.int 1)), zH0) := by
                          refine (r_iloadn f196_0 rfl).trans ?_
                          refine (r_iloadn f196_1 rfl).trans ?_
                          refine (r_icmp_lt_f f196_2 ec0).trans ?_
                          refine (r_iloadn f196_5 rfl).trans ?_
                          refine (r_iloadn f196_6 rfl).trans ?_
                          refine (r_icmp_gt_f f196_7 ec1).trans ?_
                          refine (r_iconst (v := 1) f196_10 rfl).trans ?_
                          refine (r_goto f196_11).trans ?_
                          exact r_zreturn f196_15 rfl (by decide)
                        refine (r_stat (as := [.int x1, .int 0, .int 9]) (v := (some (.int 1))) (h1 := zH0) f198_4 rfl zg196 rfl rfl rfl rfl rfl rfl hc2).trans ?_
                        exact r_zreturn f198_7 rfl (by decide)
                      refine (r_stat (as := [.int x1]) (v := (some (.int 1))) (h1 := zH0) f298_1 rfl zg198 rfl rfl rfl rfl rfl rfl hc1).trans ?_
                      refine (r_if_eq_f f298_4 (by decide)).trans ?_
                      refine (r_iloadn f298_7 rfl).trans ?_
                      refine (r_iconst (v := 0) f298_8 rfl).trans ?_
                      refine (r_iconst (v := 2) f298_9 rfl).trans ?_
                      have hc3 : arun X (n + 999993) (d + 19) zM196 0 [some (.int x2), some (.int 0), some (.int 2)] [] zH0 = some ((some (.int 1)), zH0) := by
                        refine (r_iloadn f196_0 rfl).trans ?_
                        refine (r_iloadn f196_1 rfl).trans ?_
                        refine (r_icmp_lt_f f196_2 ec2).trans ?_
                        refine (r_iloadn f196_5 rfl).trans ?_
                        refine (r_iloadn f196_6 rfl).trans ?_
                        refine (r_icmp_gt_f f196_7 ec3).trans ?_
                        refine (r_iconst (v := 1) f196_10 rfl).trans ?_
                        refine (r_goto f196_11).trans ?_
                        exact r_zreturn f196_15 rfl (by decide)
                      refine (r_stat (as := [.int x2, .int 0, .int 2]) (v := (some (.int 1))) (h1 := zH0) f298_10 rfl zg196 rfl rfl rfl rfl rfl rfl hc3).trans ?_
                      refine (r_if_eq_f f298_13 (by decide)).trans ?_
                      refine (r_iloadn f298_16 rfl).trans ?_
                      refine (r_iconst (v := 2) f298_17 rfl).trans ?_
                      refine (r_icmp_ne_f f298_18 ec4).trans ?_
                      refine (r_iloadn f298_21 rfl).trans ?_
                      refine (r_bipush (v := 100) f298_22 rfl).trans ?_
                      refine (r_sipush (v := 9949) f298_24 rfl).trans ?_
                      have hc4 : arun X (n + 999985) (d + 19) zM196 0 [some (.int x3), some (.int 100), some (.int 9949)] [] zH0 = some ((some (.int 1)), zH0) := by
                        refine (r_iloadn f196_0 rfl).trans ?_
                        refine (r_iloadn f196_1 rfl).trans ?_
                        refine (r_icmp_lt_f f196_2 em0).trans ?_
                        refine (r_iloadn f196_5 rfl).trans ?_
                        refine (r_iloadn f196_6 rfl).trans ?_
                        refine (r_icmp_gt_f f196_7 em1).trans ?_
                        refine (r_iconst (v := 1) f196_10 rfl).trans ?_
                        refine (r_goto f196_11).trans ?_
                        exact r_zreturn f196_15 rfl (by decide)
                      refine (r_stat (as := [.int x3, .int 100, .int 9949]) (v := (some (.int 1))) (h1 := zH0) f298_27 rfl zg196 rfl rfl rfl rfl rfl rfl hc4).trans ?_
                      refine (r_if_eq_f f298_30 (by decide)).trans ?_
                      refine (r_iloadn f298_33 rfl).trans ?_
                      refine (r_bipush (v := 100) f298_34 rfl).trans ?_
                      refine (r_irem (v := (x3 - x3 / 100 * 100)) f298_36 (by decide) rfl).trans ?_
                      refine (r_iconst (v := 1) f298_37 rfl).trans ?_
                      refine (r_bipush (v := 49) f298_38 rfl).trans ?_
                      have hc5 : arun X (n + 999978) (d + 19) zM196 0 [some (.int (x3 - x3 / 100 * 100)), some (.int 1), some (.int 49)] [] zH0 = some ((some (.int 0)), zH0) := by
                        refine (r_iloadn f196_0 rfl).trans ?_
                        refine (r_iloadn f196_1 rfl).trans ?_
                        refine (r_icmp_lt_t f196_2 em2).trans ?_
                        refine (r_iconst (v := 0) f196_14 rfl).trans ?_
                        exact r_zreturn f196_15 rfl (by decide)
                      refine (r_stat (as := [.int (x3 - x3 / 100 * 100), .int 1, .int 49]) (v := (some (.int 0))) (h1 := zH0) f298_40 rfl zg196 rfl rfl rfl rfl rfl rfl hc5).trans ?_
                      refine (r_if_ne_f f298_43 (by decide)).trans ?_
                      refine (r_iconst (v := (-1)) f298_46 rfl).trans ?_
                      exact r_ireturn f298_47 rfl
                    · exact Nat.le_trans (Nat.le_of_eq zH0_len) (by decide)
                    · decide
                  ·
                    by_cases em3 : 49 < (x3 - x3 / 100 * 100)
                    ·
                      refine ⟨(-1), zH0, zH0, fun X n d => ?_, fun X n d => ?_, zh72, ?_, ?_⟩
                      ·
                        refine (r_iloadn f180_0 rfl).trans ?_
                        have hc1 : arun X (n + 999998) (d + 19) zM139 0 [some (.int x1)] [] zH0 = some ((some (.int 1)), zH0) := by
                          refine (r_iloadn f139_0 rfl).trans ?_
                          refine (r_iconst (v := 0) f139_1 rfl).trans ?_
                          refine (r_bipush (v := 9) f139_2 rfl).trans ?_
                          have hc2 : arun X (n + 999994) (d + 18) zM137 0 [some (.int x1), some (.int 0), some (.int 9)] [] zH0 = some ((some (.int 1)), zH0) := by
                            refine (r_iloadn f137_0 rfl).trans ?_
                            refine (r_iloadn f137_1 rfl).trans ?_
                            refine (r_icmp_gt_f f137_2 ec0).trans ?_
                            refine (r_iloadn f137_5 rfl).trans ?_
                            refine (r_iloadn f137_6 rfl).trans ?_
                            refine (r_icmp_gt_f f137_7 ec1).trans ?_
                            refine (r_iconst (v := 1) f137_10 rfl).trans ?_
                            refine (r_goto f137_11).trans ?_
                            exact r_zreturn f137_15 rfl (by decide)
                          refine (r_stat (as := [.int x1, .int 0, .int 9]) (v := (some (.int 1))) (h1 := zH0) f139_4 rfl zg137 rfl rfl rfl rfl rfl rfl hc2).trans ?_
                          exact r_zreturn f139_7 rfl (by decide)
                        refine (r_stat (as := [.int x1]) (v := (some (.int 1))) (h1 := zH0) f180_1 rfl zg139 rfl rfl rfl rfl rfl rfl hc1).trans ?_
                        refine (r_if_eq_f f180_4 (by decide)).trans ?_
                        refine (r_iloadn f180_7 rfl).trans ?_
                        refine (r_iconst (v := 0) f180_8 rfl).trans ?_
                        refine (r_iconst (v := 2) f180_9 rfl).trans ?_
                        have hc3 : arun X (n + 999993) (d + 19) zM137 0 [some (.int x2), some (.int 0), some (.int 2)] [] zH0 = some ((some (.int 1)), zH0) := by
                          refine (r_iloadn f137_0 rfl).trans ?_
                          refine (r_iloadn f137_1 rfl).trans ?_
                          refine (r_icmp_gt_f f137_2 ec2).trans ?_
                          refine (r_iloadn f137_5 rfl).trans ?_
                          refine (r_iloadn f137_6 rfl).trans ?_
                          refine (r_icmp_gt_f f137_7 ec3).trans ?_
                          refine (r_iconst (v := 1) f137_10 rfl).trans ?_
                          refine (r_goto f137_11).trans ?_
                          exact r_zreturn f137_15 rfl (by decide)
                        refine (r_stat (as := [.int x2, .int 0, .int 2]) (v := (some (.int 1))) (h1 := zH0) f180_10 rfl zg137 rfl rfl rfl rfl rfl rfl hc3).trans ?_
                        refine (r_if_ne_t f180_13 (by decide)).trans ?_
                        refine (r_iloadn f180_18 rfl).trans ?_
                        refine (r_iconst (v := 2) f180_19 rfl).trans ?_
                        refine (r_icmp_ne_f f180_20 ec4).trans ?_
                        refine (r_iloadn f180_23 rfl).trans ?_
                        refine (r_bipush (v := 100) f180_24 rfl).trans ?_
                        refine (r_idiv (v := (x3 / 100)) f180_26 (by decide) rfl).trans ?_
                        refine (r_iconst (v := 1) f180_27 rfl).trans ?_
                        refine (r_bipush (v := 99) f180_28 rfl).trans ?_
                        have hc4 : arun X (n + 999983) (d + 19) zM137 0 [some (.int (x3 / 100)), some (.int 1), some (.int 99)] [] zH0 = some ((some (.int 0)), zH0) := by
                          refine (r_iloadn f137_0 rfl).trans ?_
                          refine (r_iloadn f137_1 rfl).trans ?_
                          refine (r_icmp_gt_t f137_2 ec5).trans ?_
                          refine (r_iconst (v := 0) f137_14 rfl).trans ?_
                          exact r_zreturn f137_15 rfl (by decide)
                        refine (r_stat (as := [.int (x3 / 100), .int 1, .int 99]) (v := (some (.int 0))) (h1 := zH0) f180_30 rfl zg137 rfl rfl rfl rfl rfl rfl hc4).trans ?_
                        refine (r_if_eq_t f180_33 (by decide)).trans ?_
                        refine (r_iconst (v := (-1)) f180_49 rfl).trans ?_
                        exact r_ireturn f180_50 rfl
                      ·
                        refine (r_iloadn f298_0 rfl).trans ?_
                        have hc1 : arun X (n + 999998) (d + 19) zM198 0 [some (.int x1)] [] zH0 = some ((some (.int 1)), zH0) := by
                          refine (r_iloadn f198_0 rfl).trans ?_
                          refine (r_iconst (v := 0) f198_1 rfl).trans ?_
                          refine (r_bipush (v := 9) f198_2 rfl).trans ?_
                          have hc2 : arun X (n + 999994) (d + 18) zM196 0 [some (.int x1), some (.int 0), some (.int 9)] [] zH0 = some ((some (.int 1)), zH0) := by
                            refine (r_iloadn f196_0 rfl).trans ?_
                            refine (r_iloadn f196_1 rfl).trans ?_
                            refine (r_icmp_lt_f f196_2 ec0).trans ?_
                            refine (r_iloadn f196_5 rfl).trans ?_
                            refine (r_iloadn f196_6 rfl).trans ?_
                            refine (r_icmp_gt_f f196_7 ec1).trans ?_
                            refine (r_iconst (v := 1) f196_10 rfl).trans ?_
                            refine (r_goto f196_11).trans ?_
                            exact r_zreturn f196_15 rfl (by decide)
                          refine (r_stat (as := [.int x1, .int 0, .int 9]) (v := (some (.int 1))) (h1 := zH0) f198_4 rfl zg196 rfl rfl rfl rfl rfl rfl hc2).trans ?_
                          exact r_zreturn f198_7 rfl (by decide)
                        refine (r_stat (as := [.int x1]) (v := (some (.int 1))) (h1 := zH0) f298_1 rfl zg198 rfl rfl rfl rfl rfl rfl hc1).trans ?_
                        refine (r_if_eq_f f298_4 (by decide)).trans ?_
                        refine (r_iloadn f298_7 rfl).trans ?_
                        refine (r_iconst (v := 0) f298_8 rfl).trans ?_
                        refine (r_iconst (v := 2) f298_9 rfl).trans ?_
                        have hc3 : arun X (n + 999993) (d + 19) zM196 0 [some (.int x2), some (.int 0), some (.int 2)] [] zH0 = some ((some (.int 1)), zH0) := by
                          refine (r_iloadn f196_0 rfl).trans ?_
                          refine (r_iloadn f196_1 rfl).trans ?_
                          refine (r_icmp_lt_f f196_2 ec2).trans ?_
                          refine (r_iloadn f196_5 rfl).trans ?_
                          refine (r_iloadn f196_6 rfl).trans ?_
                          refine (r_icmp_gt_f f196_7 ec3).trans ?_
                          refine (r_iconst (v := 1) f196_10 rfl).trans ?_
                          refine (r_goto f196_11).trans ?_
                          exact r_zreturn f196_15 rfl (by decide)
                        refine (r_stat (as := [.int x2, .int 0, .int 2]) (v := (some (.int 1))) (h1 := zH0) f298_10 rfl zg196 rfl rfl rfl rfl rfl rfl hc3).trans ?_
                        refine (r_if_eq_f f298_13 (by decide)).trans ?_
                        refine (r_iloadn f298_16 rfl).trans ?_
                        refine (r_iconst (v := 2) f298_17 rfl).trans ?_
                        refine (r_icmp_ne_f f298_18 ec4).trans ?_
                        refine (r_iloadn f298_21 rfl).trans ?_
                        refine (r_bipush (v := 100) f298_22 rfl).trans ?_
                        refine (r_sipush (v := 9949) f298_24 rfl).trans ?_
                        have hc4 : arun X (n + 999985) (d + 19) zM196 0 [some (.int x3), some (.int 100), some (.int 9949)] [] zH0 = some ((some (.int 1)), zH0) := by
                          refine (r_iloadn f196_0 rfl).trans ?_
                          refine (r_iloadn f196_1 rfl).trans ?_
                          refine (r_icmp_lt_f f196_2 em0).trans ?_
                          refine (r_iloadn f196_5 rfl).trans ?_
                          refine (r_iloadn f196_6 rfl).trans ?_
                          refine (r_icmp_gt_f f196_7 em1).trans ?_
                          refine (r_iconst (v := 1) f196_10 rfl).trans ?_
                          refine (r_goto f196_11).trans ?_
                          exact r_zreturn f196_15 rfl (by decide)
                        refine (r_stat (as := [.int x3, .int 100, .int 9949]) (v := (some (.int 1))) (h1 := zH0) f298_27 rfl zg196 rfl rfl rfl rfl rfl rfl hc4).trans ?_
                        refine (r_if_eq_f f298_30 (by decide)).trans ?_
                        refine (r_iloadn f298_33 rfl).trans ?_
                        refine (r_bipush (v := 100) f298_34 rfl).trans ?_
                        refine (r_irem (v := (x3 - x3 / 100 * 100)) f298_36 (by decide) rfl).trans ?_
                        refine (r_iconst (v := 1) f298_37 rfl).trans ?_
                        refine (r_bipush (v := 49) f298_38 rfl).trans ?_
                        have hc5 : arun X (n + 999978) (d + 19) zM196 0 [some (.int (x3 - x3 / 100 * 100)), some (.int 1), some (.int 49)] [] zH0 = some ((some (.int 0)), zH0) := by
                          refine (r_iloadn f196_0 rfl).trans ?_
                          refine (r_iloadn f196_1 rfl).trans ?_
                          refine (r_icmp_lt_f f196_2 em2).trans ?_
                          refine (r_iloadn f196_5 rfl).trans ?_
                          refine (r_iloadn f196_6 rfl).trans ?_
                          refine (r_icmp_gt_t f196_7 em3).trans ?_
                          refine (r_iconst (v := 0) f196_14 rfl).trans ?_
                          exact r_zreturn f196_15 rfl (by decide)
                        refine (r_stat (as := [.int (x3 - x3 / 100 * 100), .int 1, .int 49]) (v := (some (.int 0))) (h1 := zH0) f298_40 rfl zg196 rfl rfl rfl rfl rfl rfl hc5).trans ?_
                        refine (r_if_ne_f f298_43 (by decide)).trans ?_
                        refine (r_iconst (v := (-1)) f298_46 rfl).trans ?_
                        exact r_ireturn f298_47 rfl
                      · exact Nat.le_trans (Nat.le_of_eq zH0_len) (by decide)
                      · decide
                    ·
                      have em4 : 2 ≤ x2 := (by
                        have az3 := az_e (x := x3)
                        have l0 : (0 : Int32).toInt = 0 := by decide
                        have l1 : (1 : Int32).toInt = 1 := by decide
                        have l2 : (2 : Int32).toInt = 2 := by decide
                        have l3 : (9 : Int32).toInt = 9 := by decide
                        have l4 : (49 : Int32).toInt = 49 := by decide
                        have l5 : (100 : Int32).toInt = 100 := by decide
                        have l6 : (9949 : Int32).toInt = 9949 := by decide
                        simp only [Int32.lt_iff_toInt_lt, Int32.le_iff_toInt_le, ← Int32.toInt_inj] at *
                        omega)
                      by_cases em5 : 0 ≤ (lg_cmp 100 (((x3 - x3 / 100 * 100)).toInt64 * 1))
                      ·
                        exfalso
                        exact (by
                          have az3 := az_e (x := x3)
                          have l0 : (0 : Int32).toInt = 0 := by decide
                          have l1 : (1 : Int32).toInt = 1 := by decide
                          have l2 : (2 : Int32).toInt = 2 := by decide
                          have l3 : (9 : Int32).toInt = 9 := by decide
                          have l4 : (49 : Int32).toInt = 49 := by decide
                          have l5 : (100 : Int32).toInt = 100 := by decide
                          have l6 : (9949 : Int32).toInt = 9949 := by decide
                          simp only [Int32.lt_iff_toInt_lt, Int32.le_iff_toInt_le, ← Int32.toInt_inj] at *
                          omega)
                      ·
                        exfalso
                        exact (by
                          have az3 := az_e (x := x3)
                          have l0 : (0 : Int32).toInt = 0 := by decide
                          have l1 : (1 : Int32).toInt = 1 := by decide
                          have l2 : (2 : Int32).toInt = 2 := by decide
                          have l3 : (9 : Int32).toInt = 9 := by decide
                          have l4 : (49 : Int32).toInt = 49 := by decide
                          have l5 : (100 : Int32).toInt = 100 := by decide
                          have l6 : (9949 : Int32).toInt = 9949 := by decide
                          simp only [Int32.lt_iff_toInt_lt, Int32.le_iff_toInt_le, ← Int32.toInt_inj] at *
                          omega)
            ·
              by_cases ec6 : 99 < (x3 / 100)
              ·
                by_cases em0 : x3 < 100
                ·
                  refine ⟨(-1), zH0, zH0, fun X n d => ?_, fun X n d => ?_, zh72, ?_, ?_⟩
                  ·
                    refine (r_iloadn f180_0 rfl).trans ?_
                    have hc1 : arun X (n + 999998) (d + 19) zM139 0 [some (.int x1)] [] zH0 = some ((some (.int 1)), zH0) := by
                      refine (r_iloadn f139_0 rfl).trans ?_
                      refine (r_iconst (v := 0) f139_1 rfl).trans ?_
                      refine (r_bipush (v := 9) f139_2 rfl).trans ?_
                      have hc2 : arun X (n + 999994) (d + 18) zM137 0 [some (.int x1), some (.int 0), some (.int 9)] [] zH0 = some ((some (.int 1)), zH0) := by
                        refine (r_iloadn f137_0 rfl).trans ?_
                        refine (r_iloadn f137_1 rfl).trans ?_
                        refine (r_icmp_gt_f f137_2 ec0).trans ?_
                        refine (r_iloadn f137_5 rfl).trans ?_
                        refine (r_iloadn f137_6 rfl).trans ?_
                        refine (r_icmp_gt_f f137_7 ec1).trans ?_
                        refine (r_iconst (v := 1) f137_10 rfl).trans ?_
                        refine (r_goto f137_11).trans ?_
                        exact r_zreturn f137_15 rfl (by decide)
                      refine (r_stat (as := [.int x1, .int 0, .int 9]) (v := (some (.int 1))) (h1 := zH0) f139_4 rfl zg137 rfl rfl rfl rfl rfl rfl hc2).trans ?_
                      exact r_zreturn f139_7 rfl (by decide)
                    refine (r_stat (as := [.int x1]) (v := (some (.int 1))) (h1 := zH0) f180_1 rfl zg139 rfl rfl rfl rfl rfl rfl hc1).trans ?_
                    refine (r_if_eq_f f180_4 (by decide)).trans ?_
                    refine (r_iloadn f180_7 rfl).trans ?_
                    refine (r_iconst (v := 0) f180_8 rfl).trans ?_
                    refine (r_iconst (v := 2) f180_9 rfl).trans ?_
                    have hc3 : arun X (n + 999993) (d + 19) zM137 0 [some (.int x2), some (.int 0), some (.int 2)] [] zH0 = some ((some (.int 1)), zH0) := by
                      refine (r_iloadn f137_0 rfl).trans ?_
                      refine (r_iloadn f137_1 rfl).trans ?_
                      refine (r_icmp_gt_f f137_2 ec2).trans ?_
                      refine (r_iloadn f137_5 rfl).trans ?_
                      refine (r_iloadn f137_6 rfl).trans ?_
                      refine (r_icmp_gt_f f137_7 ec3).trans ?_
                      refine (r_iconst (v := 1) f137_10 rfl).trans ?_
                      refine (r_goto f137_11).trans ?_
                      exact r_zreturn f137_15 rfl (by decide)
                    refine (r_stat (as := [.int x2, .int 0, .int 2]) (v := (some (.int 1))) (h1 := zH0) f180_10 rfl zg137 rfl rfl rfl rfl rfl rfl hc3).trans ?_
                    refine (r_if_ne_t f180_13 (by decide)).trans ?_
                    refine (r_iloadn f180_18 rfl).trans ?_
                    refine (r_iconst (v := 2) f180_19 rfl).trans ?_
                    refine (r_icmp_ne_f f180_20 ec4).trans ?_
                    refine (r_iloadn f180_23 rfl).trans ?_
                    refine (r_bipush (v := 100) f180_24 rfl).trans ?_
                    refine (r_idiv (v := (x3 / 100)) f180_26 (by decide) rfl).trans ?_
                    refine (r_iconst (v := 1) f180_27 rfl).trans ?_
                    refine (r_bipush (v := 99) f180_28 rfl).trans ?_
                    have hc4 : arun X (n + 999983) (d + 19) zM137 0 [some (.int (x3 / 100)), some (.int 1), some (.int 99)] [] zH0 = some ((some (.int 0)), zH0) := by
                      refine (r_iloadn f137_0 rfl).trans ?_
                      refine (r_iloadn f137_1 rfl).trans ?_
                      refine (r_icmp_gt_f f137_2 ec5).trans ?_
                      refine (r_iloadn f137_5 rfl).trans ?_
                      refine (r_iloadn f137_6 rfl).trans ?_
                      refine (r_icmp_gt_t f137_7 ec6).trans ?_
                      refine (r_iconst (v := 0) f137_14 rfl).trans ?_
                      exact r_zreturn f137_15 rfl (by decide)
                    refine (r_stat (as := [.int (x3 / 100), .int 1, .int 99]) (v := (some (.int 0))) (h1 := zH0) f180_30 rfl zg137 rfl rfl rfl rfl rfl rfl hc4).trans ?_
                    refine (r_if_eq_t f180_33 (by decide)).trans ?_
                    refine (r_iconst (v := (-1)) f180_49 rfl).trans ?_
                    exact r_ireturn f180_50 rfl
                  ·
                    refine (r_iloadn f298_0 rfl).trans ?_
                    have hc1 : arun X (n + 999998) (d + 19) zM198 0 [some (.int x1)] [] zH0 = some ((some (.int 1)), zH0) := by
                      refine (r_iloadn f198_0 rfl).trans ?_
                      refine (r_iconst (v := 0) f198_1 rfl).trans ?_
                      refine (r_bipush (v := 9) f198_2 rfl).trans ?_
                      have hc2 : arun X (n + 999994) (d + 18) zM196 0 [some (.int x1), some (.int 0), some (.int 9)] [] zH0 = some ((some (.int 1)), zH0) := by
                        refine (r_iloadn f196_0 rfl).trans ?_
                        refine (r_iloadn f196_1 rfl).trans ?_
                        refine (r_icmp_lt_f f196_2 ec0).trans ?_
                        refine (r_iloadn f196_5 rfl).trans ?_
                        refine (r_iloadn f196_6 rfl).trans ?_
                        refine (r_icmp_gt_f f196_7 ec1).trans ?_
                        refine (r_iconst (v := 1) f196_10 rfl).trans ?_
                        refine (r_goto f196_11).trans ?_
                        exact r_zreturn f196_15 rfl (by decide)
                      refine (r_stat (as := [.int x1, .int 0, .int 9]) (v := (some (.int 1))) (h1 := zH0) f198_4 rfl zg196 rfl rfl rfl rfl rfl rfl hc2).trans ?_
                      exact r_zreturn f198_7 rfl (by decide)
                    refine (r_stat (as := [.int x1]) (v := (some (.int 1))) (h1 := zH0) f298_1 rfl zg198 rfl rfl rfl rfl rfl rfl hc1).trans ?_
                    refine (r_if_eq_f f298_4 (by decide)).trans ?_
                    refine (r_iloadn f298_7 rfl).trans ?_
                    refine (r_iconst (v := 0) f298_8 rfl).trans ?_
                    refine (r_iconst (v := 2) f298_9 rfl).trans ?_
                    have hc3 : arun X (n + 999993) (d + 19) zM196 0 [some (.int x2), some (.int 0), some (.int 2)] [] zH0 = some ((some (.int 1)), zH0) := by
                      refine (r_iloadn f196_0 rfl).trans ?_
                      refine (r_iloadn f196_1 rfl).trans ?_
                      refine (r_icmp_lt_f f196_2 ec2).trans ?_
                      refine (r_iloadn f196_5 rfl).trans ?_
                      refine (r_iloadn f196_6 rfl).trans ?_
                      refine (r_icmp_gt_f f196_7 ec3).trans ?_
                      refine (r_iconst (v := 1) f196_10 rfl).trans ?_
                      refine (r_goto f196_11).trans ?_
                      exact r_zreturn f196_15 rfl (by decide)
                    refine (r_stat (as := [.int x2, .int 0, .int 2]) (v := (some (.int 1))) (h1 := zH0) f298_10 rfl zg196 rfl rfl rfl rfl rfl rfl hc3).trans ?_
                    refine (r_if_eq_f f298_13 (by decide)).trans ?_
                    refine (r_iloadn f298_16 rfl).trans ?_
                    refine (r_iconst (v := 2) f298_17 rfl).trans ?_
                    refine (r_icmp_ne_f f298_18 ec4).trans ?_
                    refine (r_iloadn f298_21 rfl).trans ?_
                    refine (r_bipush (v := 100) f298_22 rfl).trans ?_
                    refine (r_sipush (v := 9949) f298_24 rfl).trans ?_
                    have hc4 : arun X (n + 999985) (d + 19) zM196 0 [some (.int x3), some (.int 100), some (.int 9949)] [] zH0 = some ((some (.int 0)), zH0) := by
                      refine (r_iloadn f196_0 rfl).trans ?_
                      refine (r_iloadn f196_1 rfl).trans ?_
                      refine (r_icmp_lt_t f196_2 em0).trans ?_
                      refine (r_iconst (v := 0) f196_14 rfl).trans ?_
                      exact r_zreturn f196_15 rfl (by decide)
                    refine (r_stat (as := [.int x3, .int 100, .int 9949]) (v := (some (.int 0))) (h1 := zH0) f298_27 rfl zg196 rfl rfl rfl rfl rfl rfl hc4).trans ?_
                    refine (r_if_eq_t f298_30 (by decide)).trans ?_
                    refine (r_iconst (v := (-1)) f298_46 rfl).trans ?_
                    exact r_ireturn f298_47 rfl
                  · exact Nat.le_trans (Nat.le_of_eq zH0_len) (by decide)
                  · decide
                ·
                  by_cases em1 : 9949 < x3
                  ·
                    refine ⟨(-1), zH0, zH0, fun X n d => ?_, fun X n d => ?_, zh72, ?_, ?_⟩
                    ·
                      refine (r_iloadn f180_0 rfl).trans ?_
                      have hc1 : arun X (n + 999998) (d + 19) zM139 0 [some (.int x1)] [] zH0 = some ((some (.int 1)), zH0) := by
                        refine (r_iloadn f139_0 rfl).trans ?_
                        refine (r_iconst (v := 0) f139_1 rfl).trans ?_
                        refine (r_bipush (v := 9) f139_2 rfl).trans ?_
                        have hc2 : arun X (n + 999994) (d + 18) zM137 0 [some (.int x1), some (.int 0), some (.int 9)] [] zH0 = some ((some (.int 1)), zH0) := by
                          refine (r_iloadn f137_0 rfl).trans ?_
                          refine (r_iloadn f137_1 rfl).trans ?_
                          refine (r_icmp_gt_f f137_2 ec0).trans ?_
                          refine (r_iloadn f137_5 rfl).trans ?_
                          refine (r_iloadn f137_6 rfl).trans ?_
                          refine (r_icmp_gt_f f137_7 ec1).trans ?_
                          refine (r_iconst (v := 1) f137_10 rfl).trans ?_
                          refine (r_goto f137_11).trans ?_
                          exact r_zreturn f137_15 rfl (by decide)
                        refine (r_stat (as := [.int x1, .int 0, .int 9]) (v := (some (.int 1))) (h1 := zH0) f139_4 rfl zg137 rfl rfl rfl rfl rfl rfl hc2).trans ?_
                        exact r_zreturn f139_7 rfl (by decide)
                      refine (r_stat (as := [.int x1]) (v := (some (.int 1))) (h1 := zH0) f180_1 rfl zg139 rfl rfl rfl rfl rfl rfl hc1).trans ?_
                      refine (r_if_eq_f f180_4 (by decide)).trans ?_
                      refine (r_iloadn f180_7 rfl).trans ?_
                      refine (r_iconst (v := 0) f180_8 rfl).trans ?_
                      refine (r_iconst (v := 2) f180_9 rfl).trans ?_
                      have hc3 : arun X (n + 999993) (d + 19) zM137 0 [some (.int x2), some (.int 0), some (.int 2)] [] zH0 = some ((some (.int 1)), zH0) := by
                        refine (r_iloadn f137_0 rfl).trans ?_
                        refine (r_iloadn f137_1 rfl).trans ?_
                        refine (r_icmp_gt_f f137_2 ec2).trans ?_
                        refine (r_iloadn f137_5 rfl).trans ?_
                        refine (r_iloadn f137_6 rfl).trans ?_
                        refine (r_icmp_gt_f f137_7 ec3).trans ?_
                        refine (r_iconst (v := 1) f137_10 rfl).trans ?_
                        refine (r_goto f137_11).trans ?_
                        exact r_zreturn f137_15 rfl (by decide)
                      refine (r_stat (as := [.int x2, .int 0, .int 2]) (v := (some (.int 1))) (h1 := zH0) f180_10 rfl zg137 rfl rfl rfl rfl rfl rfl hc3).trans ?_
                      refine (r_if_ne_t f180_13 (by decide)).trans ?_
                      refine (r_iloadn f180_18 rfl).trans ?_
                      refine (r_iconst (v := 2) f180_19 rfl).trans ?_
                      refine (r_icmp_ne_f f180_20 ec4).trans ?_
                      refine (r_iloadn f180_23 rfl).trans ?_
                      refine (r_bipush (v := 100) f180_24 rfl).trans ?_
                      refine (r_idiv (v := (x3 / 100)) f180_26 (by decide) rfl).trans ?_
                      refine (r_iconst (v := 1) f180_27 rfl).trans ?_
                      refine (r_bipush (v := 99) f180_28 rfl).trans ?_
                      have hc4 : arun X (n + 999983) (d + 19) zM137 0 [some (.int (x3 / 100)), some (.int 1), some (.int 99)] [] zH0 = some ((some (.int 0)), zH0) := by
                        refine (r_iloadn f137_0 rfl).trans ?_
                        refine (r_iloadn f137_1 rfl).trans ?_
                        refine (r_icmp_gt_f f137_2 ec5).trans ?_
                        refine (r_iloadn f137_5 rfl).trans ?_
                        refine (r_iloadn f137_6 rfl).trans ?_
                        refine (r_icmp_gt_t f137_7 ec6).trans ?_
                        refine (r_iconst (v := 0) f137_14 rfl).trans ?_
                        exact r_zreturn f137_15 rfl (by decide)
                      refine (r_stat (as := [.int (x3 / 100), .int 1, .int 99]) (v := (some (.int 0))) (h1 := zH0) f180_30 rfl zg137 rfl rfl rfl rfl rfl rfl hc4).trans ?_
                      refine (r_if_eq_t f180_33 (by decide)).trans ?_
                      refine (r_iconst (v := (-1)) f180_49 rfl).trans ?_
                      exact r_ireturn f180_50 rfl
                    ·
                      refine (r_iloadn f298_0 rfl).trans ?_
                      have hc1 : arun X (n + 999998) (d + 19) zM198 0 [some (.int x1)] [] zH0 = some ((some (.int 1)), zH0) := by
                        refine (r_iloadn f198_0 rfl).trans ?_
                        refine (r_iconst (v := 0) f198_1 rfl).trans ?_
                        refine (r_bipush (v := 9) f198_2 rfl).trans ?_
                        have hc2 : arun X (n + 999994) (d + 18) zM196 0 [some (.int x1), some (.int 0), some (.int 9)] [] zH0 = some ((some (.int 1)), zH0) := by
                          refine (r_iloadn f196_0 rfl).trans ?_
                          refine (r_iloadn f196_1 rfl).trans ?_
                          refine (r_icmp_lt_f f196_2 ec0).trans ?_
                          refine (r_iloadn f196_5 rfl).trans ?_
                          refine (r_iloadn f196_6 rfl).trans ?_
                          refine (r_icmp_gt_f f196_7 ec1).trans ?_
                          refine (r_iconst (v := 1) f196_10 rfl).trans ?_
                          refine (r_goto f196_11).trans ?_
                          exact r_zreturn f196_15 rfl (by decide)
                        refine (r_stat (as := [.int x1, .int 0, .int 9]) (v := (some (.int 1))) (h1 := zH0) f198_4 rfl zg196 rfl rfl rfl rfl rfl rfl hc2).trans ?_
                        exact r_zreturn f198_7 rfl (by decide)
                      refine (r_stat (as := [.int x1]) (v := (some (.int 1))) (h1 := zH0) f298_1 rfl zg198 rfl rfl rfl rfl rfl rfl hc1).trans ?_
                      refine (r_if_eq_f f298_4 (by decide)).trans ?_
                      refine (r_iloadn f298_7 rfl).trans ?_
                      refine (r_iconst (v := 0) f298_8 rfl).trans ?_
                      refine (r_iconst (v := 2) f298_9 rfl).trans ?_
                      have hc3 : arun X (n + 999993) (d + 19) zM196 0 [some (.int x2), some (.int 0), some (.int 2)] [] zH0 = some ((some (.int 1)), zH0) := by
                        refine (r_iloadn f196_0 rfl).trans ?_
                        refine (r_iloadn f196_1 rfl).trans ?_
                        refine (r_icmp_lt_f f196_2 ec2).trans ?_
                        refine (r_iloadn f196_5 rfl).trans ?_
                        refine (r_iloadn f196_6 rfl).trans ?_
                        refine (r_icmp_gt_f f196_7 ec3).trans ?_
                        refine (r_iconst (v := 1) f196_10 rfl).trans ?_
                        refine (r_goto f196_11).trans ?_
                        exact r_zreturn f196_15 rfl (by decide)
                      refine (r_stat (as := [.int x2, .int 0, .int 2]) (v := (some (.int 1))) (h1 := zH0) f298_10 rfl zg196 rfl rfl rfl rfl rfl rfl hc3).trans ?_
                      refine (r_if_eq_f f298_13 (by decide)).trans ?_
                      refine (r_iloadn f298_16 rfl).trans ?_
                      refine (r_iconst (v := 2) f298_17 rfl).trans ?_
                      refine (r_icmp_ne_f f298_18 ec4).trans ?_
                      refine (r_iloadn f298_21 rfl).trans ?_
                      refine (r_bipush (v := 100) f298_22 rfl).trans ?_
                      refine (r_sipush (v := 9949) f298_24 rfl).trans ?_
                      have hc4 : arun X (n + 999985) (d + 19) zM196 0 [some (.int x3), some (.int 100), some (.int 9949)] [] zH0 = some ((some (.int 0)), zH0) := by
                        refine (r_iloadn f196_0 rfl).trans ?_
                        refine (r_iloadn f196_1 rfl).trans ?_
                        refine (r_icmp_lt_f f196_2 em0).trans ?_
                        refine (r_iloadn f196_5 rfl).trans ?_
                        refine (r_iloadn f196_6 rfl).trans ?_
                        refine (r_icmp_gt_t f196_7 em1).trans ?_
                        refine (r_iconst (v := 0) f196_14 rfl).trans ?_
                        exact r_zreturn f196_15 rfl (by decide)
                      refine (r_stat (as := [.int x3, .int 100, .int 9949]) (v := (some (.int 0))) (h1 := zH0) f298_27 rfl zg196 rfl rfl rfl rfl rfl rfl hc4).trans ?_
                      refine (r_if_eq_t f298_30 (by decide)).trans ?_
                      refine (r_iconst (v := (-1)) f298_46 rfl).trans ?_
                      exact r_ireturn f298_47 rfl
                    · exact Nat.le_trans (Nat.le_of_eq zH0_len) (by decide)
                    · decide
                  ·
                    by_cases em2 : (x3 - x3 / 100 * 100) < 1
                    ·
                      refine ⟨(-1), zH0, zH0, fun X n d => ?_, fun X n d => ?_, zh72, ?_, ?_⟩
                      ·
                        refine (r_iloadn f180_0 rfl).trans ?_
                        have hc1 : arun X (n + 999998) (d + 19) zM139 0 [some (.int x1)] [] zH0 = some ((some (.int 1)), zH0) := by
                          refine (r_iloadn f139_0 rfl).trans ?_
                          refine (r_iconst (v := 0) f139_1 rfl).trans ?_
                          refine (r_bipush (v := 9) f139_2 rfl).trans ?_
                          have hc2 : arun X (n + 999994) (d + 18) zM137 0 [some (.int x1), some (.int 0), some (.int 9)] [] zH0 = some ((some (.int 1)), zH0) := by
                            refine (r_iloadn f137_0 rfl).trans ?_
                            refine (r_iloadn f137_1 rfl).trans ?_
                            refine (r_icmp_gt_f f137_2 ec0).trans ?_
                            refine (r_iloadn f137_5 rfl).trans ?_
                            refine (r_iloadn f137_6 rfl).trans ?_
                            refine (r_icmp_gt_f f137_7 ec1).trans ?_
                            refine (r_iconst (v := 1) f137_10 rfl).trans ?_
                            refine (r_goto f137_11).trans ?_
                            exact r_zreturn f137_15 rfl (by decide)
                          refine (r_stat (as := [.int x1, .int 0, .int 9]) (v := (some (.int 1))) (h1 := zH0) f139_4 rfl zg137 rfl rfl rfl rfl rfl rfl hc2).trans ?_
                          exact r_zreturn f139_7 rfl (by decide)
                        refine (r_stat (as := [.int x1]) (v := (some (.int 1))) (h1 := zH0) f180_1 rfl zg139 rfl rfl rfl rfl rfl rfl hc1).trans ?_
                        refine (r_if_eq_f f180_4 (by decide)).trans ?_
                        refine (r_iloadn f180_7 rfl).trans ?_
                        refine (r_iconst (v := 0) f180_8 rfl).trans ?_
                        refine (r_iconst (v := 2) f180_9 rfl).trans ?_
                        have hc3 : arun X (n + 999993) (d + 19) zM137 0 [some (.int x2), some (.int 0), some (.int 2)] [] zH0 = some ((some (.int 1)), zH0) := by
                          refine (r_iloadn f137_0 rfl).trans ?_
                          refine (r_iloadn f137_1 rfl).trans ?_
                          refine (r_icmp_gt_f f137_2 ec2).trans ?_
                          refine (r_iloadn f137_5 rfl).trans ?_
                          refine (r_iloadn f137_6 rfl).trans ?_
                          refine (r_icmp_gt_f f137_7 ec3).trans ?_
                          refine (r_iconst (v := 1) f137_10 rfl).trans ?_
                          refine (r_goto f137_11).trans ?_
                          exact r_zreturn f137_15 rfl (by decide)
                        refine (r_stat (as := [.int x2, .int 0, .int 2]) (v := (some (.int 1))) (h1 := zH0) f180_10 rfl zg137 rfl rfl rfl rfl rfl rfl hc3).trans ?_
                        refine (r_if_ne_t f180_13 (by decide)).trans ?_
                        refine (r_iloadn f180_18 rfl).trans ?_
                        refine (r_iconst (v := 2) f180_19 rfl).trans ?_
                        refine (r_icmp_ne_f f180_20 ec4).trans ?_
                        refine (r_iloadn f180_23 rfl).trans ?_
                        refine (r_bipush (v := 100) f180_24 rfl).trans ?_
                        refine (r_idiv (v := (x3 / 100)) f180_26 (by decide) rfl).trans ?_
                        refine (r_iconst (v := 1) f180_27 rfl).trans ?_
                        refine (r_bipush (v := 99) f180_28 rfl).trans ?_
                        have hc4 : arun X (n + 999983) (d + 19) zM137 0 [some (.int (x3 / 100)), some (.int 1), some (.int 99)] [] zH0 = some ((some (.int 0)), zH0) := by
                          refine (r_iloadn f137_0 rfl).trans ?_
                          refine (r_iloadn f137_1 rfl).trans ?_
                          refine (r_icmp_gt_f f137_2 ec5).trans ?_
                          refine (r_iloadn f137_5 rfl).trans ?_
                          refine (r_iloadn f137_6 rfl).trans ?_
                          refine (r_icmp_gt_t f137_7 ec6).trans ?_
                          refine (r_iconst (v := 0) f137_14 rfl).trans ?_
                          exact r_zreturn f137_15 rfl (by decide)
                        refine (r_stat (as := [.int (x3 / 100), .int 1, .int 99]) (v := (some (.int 0))) (h1 := zH0) f180_30 rfl zg137 rfl rfl rfl rfl rfl rfl hc4).trans ?_
                        refine (r_if_eq_t f180_33 (by decide)).trans ?_
                        refine (r_iconst (v := (-1)) f180_49 rfl).trans ?_
                        exact r_ireturn f180_50 rfl
                      ·
                        refine (r_iloadn f298_0 rfl).trans ?_
                        have hc1 : arun X (n + 999998) (d + 19) zM198 0 [some (.int x1)] [] zH0 = some ((some (.int 1)), zH0) := by
                          refine (r_iloadn f198_0 rfl).trans ?_
                          refine (r_iconst (v := 0) f198_1 rfl).trans ?_
                          refine (r_bipush (v := 9) f198_2 rfl).trans ?_
                          have hc2 : arun X (n + 999994) (d + 18) zM196 0 [some (.int x1), some (.int 0), some (.int 9)] [] zH0 = some ((some (.int 1)), zH0) := by
                            refine (r_iloadn f196_0 rfl).trans ?_
                            refine (r_iloadn f196_1 rfl).trans ?_
                            refine (r_icmp_lt_f f196_2 ec0).trans ?_
                            refine (r_iloadn f196_5 rfl).trans ?_
                            refine (r_iloadn f196_6 rfl).trans ?_
                            refine (r_icmp_gt_f f196_7 ec1).trans ?_
                            refine (r_iconst (v := 1) f196_10 rfl).trans ?_
                            refine (r_goto f196_11).trans ?_
                            exact r_zreturn f196_15 rfl (by decide)
                          refine (r_stat (as := [.int x1, .int 0, .int 9]) (v := (some (.int 1))) (h1 := zH0) f198_4 rfl zg196 rfl rfl rfl rfl rfl rfl hc2).trans ?_
                          exact r_zreturn f198_7 rfl (by decide)
                        refine (r_stat (as := [.int x1]) (v := (some (.int 1))) (h1 := zH0) f298_1 rfl zg198 rfl rfl rfl rfl rfl rfl hc1).trans ?_
                        refine (r_if_eq_f f298_4 (by decide)).trans ?_
                        refine (r_iloadn f298_7 rfl).trans ?_
                        refine (r_iconst (v := 0) f298_8 rfl).trans ?_
                        refine (r_iconst (v := 2) f298_9 rfl).trans ?_
                        have hc3 : arun X (n + 999993) (d + 19) zM196 0 [some (.int x2), some (.int 0), some (.int 2)] [] zH0 = some ((some (.int 1)), zH0) := by
                          refine (r_iloadn f196_0 rfl).trans ?_
                          refine (r_iloadn f196_1 rfl).trans ?_
                          refine (r_icmp_lt_f f196_2 ec2).trans ?_
                          refine (r_iloadn f196_5 rfl).trans ?_
                          refine (r_iloadn f196_6 rfl).trans ?_
                          refine (r_icmp_gt_f f196_7 ec3).trans ?_
                          refine (r_iconst (v := 1) f196_10 rfl).trans ?_
                          refine (r_goto f196_11).trans ?_
                          exact r_zreturn f196_15 rfl (by decide)
                        refine (r_stat (as := [.int x2, .int 0, .int 2]) (v := (some (.int 1))) (h1 := zH0) f298_10 rfl zg196 rfl rfl rfl rfl rfl rfl hc3).trans ?_
                        refine (r_if_eq_f f298_13 (by decide)).trans ?_
                        refine (r_iloadn f298_16 rfl).trans ?_
                        refine (r_iconst (v := 2) f298_17 rfl).trans ?_
                        refine (r_icmp_ne_f f298_18 ec4).trans ?_
                        refine (r_iloadn f298_21 rfl).trans ?_
                        refine (r_bipush (v := 100) f298_22 rfl).trans ?_
                        refine (r_sipush (v := 9949) f298_24 rfl).trans ?_
                        have hc4 : arun X (n + 999985) (d + 19) zM196 0 [some (.int x3), some (.int 100), some (.int 9949)] [] zH0 = some ((some (.int 1)), zH0) := by
                          refine (r_iloadn f196_0 rfl).trans ?_
                          refine (r_iloadn f196_1 rfl).trans ?_
                          refine (r_icmp_lt_f f196_2 em0).trans ?_
                          refine (r_iloadn f196_5 rfl).trans ?_
                          refine (r_iloadn f196_6 rfl).trans ?_
                          refine (r_icmp_gt_f f196_7 em1).trans ?_
                          refine (r_iconst (v := 1) f196_10 rfl).trans ?_
                          refine (r_goto f196_11).trans ?_
                          exact r_zreturn f196_15 rfl (by decide)
                        refine (r_stat (as := [.int x3, .int 100, .int 9949]) (v := (some (.int 1))) (h1 := zH0) f298_27 rfl zg196 rfl rfl rfl rfl rfl rfl hc4).trans ?_
                        refine (r_if_eq_f f298_30 (by decide)).trans ?_
                        refine (r_iloadn f298_33 rfl).trans ?_
                        refine (r_bipush (v := 100) f298_34 rfl).trans ?_
                        refine (r_irem (v := (x3 - x3 / 100 * 100)) f298_36 (by decide) rfl).trans ?_
                        refine (r_iconst (v := 1) f298_37 rfl).trans ?_
                        refine (r_bipush (v := 49) f298_38 rfl).trans ?_
                        have hc5 : arun X (n + 999978) (d + 19) zM196 0 [some (.int (x3 - x3 / 100 * 100)), some (.int 1), some (.int 49)] [] zH0 = some ((some (.int 0)), zH0) := by
                          refine (r_iloadn f196_0 rfl).trans ?_
                          refine (r_iloadn f196_1 rfl).trans ?_
                          refine (r_icmp_lt_t f196_2 em2).trans ?_
                          refine (r_iconst (v := 0) f196_14 rfl).trans ?_
                          exact r_zreturn f196_15 rfl (by decide)
                        refine (r_stat (as := [.int (x3 - x3 / 100 * 100), .int 1, .int 49]) (v := (some (.int 0))) (h1 := zH0) f298_40 rfl zg196 rfl rfl rfl rfl rfl rfl hc5).trans ?_
                        refine (r_if_ne_f f298_43 (by decide)).trans ?_
                        refine (r_iconst (v := (-1)) f298_46 rfl).trans ?_
                        exact r_ireturn f298_47 rfl
                      · exact Nat.le_trans (Nat.le_of_eq zH0_len) (by decide)
                      · decide
                    ·
                      by_cases em3 : 49 < (x3 - x3 / 100 * 100)
                      ·
                        refine ⟨(-1), zH0, zH0, fun X n d => ?_, fun X n d => ?_, zh72, ?_, ?_⟩
                        ·
                          refine (r_iloadn f180_0 rfl).trans ?_
                          have hc1 : arun X (n + 999998) (d + 19) zM139 0 [some (.int x1)] [] zH0 = some ((some (.int 1)), zH0) := by
                            refine (r_iloadn f139_0 rfl).trans ?_
                            refine (r_iconst (v := 0) f139_1 rfl).trans ?_
                            refine (r_bipush (v := 9) f139_2 rfl).trans ?_
                            have hc2 : arun X (n + 999994) (d + 18) zM137 0 [some (.int x1), some (.int 0), some (.int 9)] [] zH0 = some ((some (.int 1)), zH0) := by
                              refine (r_iloadn f137_0 rfl).trans ?_
                              refine (r_iloadn f137_1 rfl).trans ?_
                              refine (r_icmp_gt_f f137_2 ec0).trans ?_
                              refine (r_iloadn f137_5 rfl).trans ?_
                              refine (r_iloadn f137_6 rfl).trans ?_
                              refine (r_icmp_gt_f f137_7 ec1).trans ?_
                              refine (r_iconst (v := 1) f137_10 rfl).trans ?_
                              refine (r_goto f137_11).trans ?_
                              exact r_zreturn f137_15 rfl (by decide)
                            refine (r_stat (as := [.int x1, .int 0, .int 9]) (v := (some (.int 1))) (h1 := zH0) f139_4 rfl zg137 rfl rfl rfl rfl rfl rfl hc2).trans ?_
                            exact r_zreturn f139_7 rfl (by decide)
                          refine (r_stat (as := [.int x1]) (v := (some (.int 1))) (h1 := zH0) f180_1 rfl zg139 rfl rfl rfl rfl rfl rfl hc1).trans ?_
                          refine (r_if_eq_f f180_4 (by decide)).trans ?_
                          refine (r_iloadn f180_7 rfl).trans ?_
                          refine (r_iconst (v := 0) f180_8 rfl).trans ?_
                          refine (r_iconst (v := 2) f180_9 rfl).trans ?_
                          have hc3 : arun X (n + 999993) (d + 19) zM137 0 [some (.int x2), some (.int 0), some (.int 2)] [] zH0 = some ((some (.int 1)), zH0) := by
                            refine (r_iloadn f137_0 rfl).trans ?_
                            refine (r_iloadn f137_1 rfl).trans ?_
                            refine (r_icmp_gt_f f137_2 ec2).trans ?_
                            refine (r_iloadn f137_5 rfl).trans ?_
                            refine (r_iloadn f137_6 rfl).trans ?_
                            refine (r_icmp_gt_f f137_7 ec3).trans ?_
                            refine (r_iconst (v := 1) f137_10 rfl).trans ?_
                            refine (r_goto f137_11).trans ?_
                            exact r_zreturn f137_15 rfl (by decide)
                          refine (r_stat (as := [.int x2, .int 0, .int 2]) (v := (some (.int 1))) (h1 := zH0) f180_10 rfl zg137 rfl rfl rfl rfl rfl rfl hc3).trans ?_
                          refine (r_if_ne_t f180_13 (by decide)).trans ?_
                          refine (r_iloadn f180_18 rfl).trans ?_
                          refine (r_iconst (v := 2) f180_19 rfl).trans ?_
                          refine (r_icmp_ne_f f180_20 ec4).trans ?_
                          refine (r_iloadn f180_23 rfl).trans ?_
                          refine (r_bipush (v := 100) f180_24 rfl).trans ?_
                          refine (r_idiv (v := (x3 / 100)) f180_26 (by decide) rfl).trans ?_
                          refine (r_iconst (v := 1) f180_27 rfl).trans ?_
                          refine (r_bipush (v := 99) f180_28 rfl).trans ?_
                          have hc4 : arun X (n + 999983) (d + 19) zM137 0 [some (.int (x3 / 100)), some (.int 1), some (.int 99)] [] zH0 = some ((some (.int 0)), zH0) := by
                            refine (r_iloadn f137_0 rfl).trans ?_
                            refine (r_iloadn f137_1 rfl).trans ?_
                            refine (r_icmp_gt_f f137_2 ec5).trans ?_
                            refine (r_iloadn f137_5 rfl).trans ?_
                            refine (r_iloadn f137_6 rfl).trans ?_
                            refine (r_icmp_gt_t f137_7 ec6).trans ?_
                            refine (r_iconst (v := 0) f137_14 rfl).trans ?_
                            exact r_zreturn f137_15 rfl (by decide)
                          refine (r_stat (as := [.int (x3 / 100), .int 1, .int 99]) (v := (some (.int 0))) (h1 := zH0) f180_30 rfl zg137 rfl rfl rfl rfl rfl rfl hc4).trans ?_
                          refine (r_if_eq_t f180_33 (by decide)).trans ?_
                          refine (r_iconst (v := (-1)) f180_49 rfl).trans ?_
                          exact r_ireturn f180_50 rfl
                        ·
                          refine (r_iloadn f298_0 rfl).trans ?_
                          have hc1 : arun X (n + 999998) (d + 19) zM198 0 [some (.int x1)] [] zH0 = some ((some (.int 1)), zH0) := by
                            refine (r_iloadn f198_0 rfl).trans ?_
                            refine (r_iconst (v := 0) f198_1 rfl).trans ?_
                            refine (r_bipush (v := 9) f198_2 rfl).trans ?_
                            have hc2 : arun X (n + 999994) (d + 18) zM196 0 [some (.int x1), some (.int 0), some (.int 9)] [] zH0 = some ((some (.int 1)), zH0) := by
                              refine (r_iloadn f196_0 rfl).trans ?_
                              refine (r_iloadn f196_1 rfl).trans ?_
                              refine (r_icmp_lt_f f196_2 ec0).trans ?_
                              refine (r_iloadn f196_5 rfl).trans ?_
                              refine (r_iloadn f196_6 rfl).trans ?_
                              refine (r_icmp_gt_f f196_7 ec1).trans ?_
                              refine (r_iconst (v := 1) f196_10 rfl).trans ?_
                              refine (r_goto f196_11).trans ?_
                              exact r_zreturn f196_15 rfl (by decide)
                            refine (r_stat (as := [.int x1, .int 0, .int 9]) (v := (some (.int 1))) (h1 := zH0) f198_4 rfl zg196 rfl rfl rfl rfl rfl rfl hc2).trans ?_
                            exact r_zreturn f198_7 rfl (by decide)
                          refine (r_stat (as := [.int x1]) (v := (some (.int 1))) (h1 := zH0) f298_1 rfl zg198 rfl rfl rfl rfl rfl rfl hc1).trans ?_
                          refine (r_if_eq_f f298_4 (by decide)).trans ?_
                          refine (r_iloadn f298_7 rfl).trans ?_
                          refine (r_iconst (v := 0) f298_8 rfl).trans ?_
                          refine (r_iconst (v := 2) f298_9 rfl).trans ?_
                          have hc3 : arun X (n + 999993) (d + 19) zM196 0 [some (.int x2), some (.int 0), some (.int 2)] [] zH0 = some ((some (.int 1)), zH0) := by
                            refine (r_iloadn f196_0 rfl).trans ?_
                            refine (r_iloadn f196_1 rfl).trans ?_
                            refine (r_icmp_lt_f f196_2 ec2).trans ?_
                            refine (r_iloadn f196_5 rfl).trans ?_
                            refine (r_iloadn f196_6 rfl).trans ?_
                            refine (r_icmp_gt_f f196_7 ec3).trans ?_
                            refine (r_iconst (v := 1) f196_10 rfl).trans ?_
                            refine (r_goto f196_11).trans ?_
                            exact r_zreturn f196_15 rfl (by decide)
                          refine (r_stat (as := [.int x2, .int 0, .int 2]) (v := (some (.int 1))) (h1 := zH0) f298_10 rfl zg196 rfl rfl rfl rfl rfl rfl hc3).trans ?_
                          refine (r_if_eq_f f298_13 (by decide)).trans ?_
                          refine (r_iloadn f298_16 rfl).trans ?_
                          refine (r_iconst (v := 2) f298_17 rfl).trans ?_
                          refine (r_icmp_ne_f f298_18 ec4).trans ?_
                          refine (r_iloadn f298_21 rfl).trans ?_
                          refine (r_bipush (v := 100) f298_22 rfl).trans ?_
                          refine (r_sipush (v := 9949) f298_24 rfl).trans ?_
                          have hc4 : arun X (n + 999985) (d + 19) zM196 0 [some (.int x3), some (.int 100), some (.int 9949)] [] zH0 = some ((some (.int 1)), zH0) := by
                            refine (r_iloadn f196_0 rfl).trans ?_
                            refine (r_iloadn f196_1 rfl).trans ?_
                            refine (r_icmp_lt_f f196_2 em0).trans ?_
                            refine (r_iloadn f196_5 rfl).trans ?_
                            refine (r_iloadn f196_6 rfl).trans ?_
                            refine (r_icmp_gt_f f196_7 em1).trans ?_
                            refine (r_iconst (v := 1) f196_10 rfl).trans ?_
                            refine (r_goto f196_11).trans ?_
                            exact r_zreturn f196_15 rfl (by decide)
                          refine (r_stat (as := [.int x3, .int 100, .int 9949]) (v := (some (.int 1))) (h1 := zH0) f298_27 rfl zg196 rfl rfl rfl rfl rfl rfl hc4).trans ?_
                          refine (r_if_eq_f f298_30 (by decide)).trans ?_
                          refine (r_iloadn f298_33 rfl).trans ?_
                          refine (r_bipush (v := 100) f298_34 rfl).trans ?_
                          refine (r_irem (v := (x3 - x3 / 100 * 100)) f298_36 (by decide) rfl).trans ?_
                          refine (r_iconst (v := 1) f298_37 rfl).trans ?_
                          refine (r_bipush (v := 49) f298_38 rfl).trans ?_
                          have hc5 : arun X (n + 999978) (d + 19) zM196 0 [some (.int (x3 - x3 / 100 * 100)), some (.int 1), some (.int 49)] [] zH0 = some ((some (.int 0)), zH0) := by
                            refine (r_iloadn f196_0 rfl).trans ?_
                            refine (r_iloadn f196_1 rfl).trans ?_
                            refine (r_icmp_lt_f f196_2 em2).trans ?_
                            refine (r_iloadn f196_5 rfl).trans ?_
                            refine (r_iloadn f196_6 rfl).trans ?_
                            refine (r_icmp_gt_t f196_7 em3).trans ?_
                            refine (r_iconst (v := 0) f196_14 rfl).trans ?_
                            exact r_zreturn f196_15 rfl (by decide)
                          refine (r_stat (as := [.int (x3 - x3 / 100 * 100), .int 1, .int 49]) (v := (some (.int 0))) (h1 := zH0) f298_40 rfl zg196 rfl rfl rfl rfl rfl rfl hc5).trans ?_
                          refine (r_if_ne_f f298_43 (by decide)).trans ?_
                          refine (r_iconst (v := (-1)) f298_46 rfl).trans ?_
                          exact r_ireturn f298_47 rfl
                        · exact Nat.le_trans (Nat.le_of_eq zH0_len) (by decide)
                        · decide
                      ·
                        have em4 : 2 ≤ x2 := (by
                          have az3 := az_e (x := x3)
                          have l0 : (0 : Int32).toInt = 0 := by decide
                          have l1 : (1 : Int32).toInt = 1 := by decide
                          have l2 : (2 : Int32).toInt = 2 := by decide
                          have l3 : (9 : Int32).toInt = 9 := by decide
                          have l4 : (49 : Int32).toInt = 49 := by decide
                          have l5 : (99 : Int32).toInt = 99 := by decide
                          have l6 : (100 : Int32).toInt = 100 := by decide
                          have l7 : (9949 : Int32).toInt = 9949 := by decide
                          simp only [Int32.lt_iff_toInt_lt, Int32.le_iff_toInt_le, ← Int32.toInt_inj] at *
                          omega)
                        by_cases em5 : 0 ≤ (lg_cmp 100 (((x3 - x3 / 100 * 100)).toInt64 * 1))
                        ·
                          exfalso
                          exact (by
                            have az3 := az_e (x := x3)
                            have l0 : (0 : Int32).toInt = 0 := by decide
                            have l1 : (1 : Int32).toInt = 1 := by decide
                            have l2 : (2 : Int32).toInt = 2 := by decide
                            have l3 : (9 : Int32).toInt = 9 := by decide
                            have l4 : (49 : Int32).toInt = 49 := by decide
                            have l5 : (99 : Int32).toInt = 99 := by decide
                            have l6 : (100 : Int32).toInt = 100 := by decide
                            have l7 : (9949 : Int32).toInt = 9949 := by decide
                            simp only [Int32.lt_iff_toInt_lt, Int32.le_iff_toInt_le, ← Int32.toInt_inj] at *
                            omega)
                        ·
                          exfalso
                          exact (by
                            have az3 := az_e (x := x3)
                            have l0 : (0 : Int32).toInt = 0 := by decide
                            have l1 : (1 : Int32).toInt = 1 := by decide
                            have l2 : (2 : Int32).toInt = 2 := by decide
                            have l3 : (9 : Int32).toInt = 9 := by decide
                            have l4 : (49 : Int32).toInt = 49 := by decide
                            have l5 : (99 : Int32).toInt = 99 := by decide
                            have l6 : (100 : Int32).toInt = 100 := by decide
                            have l7 : (9949 : Int32).toInt = 9949 := by decide
                            simp only [Int32.lt_iff_toInt_lt, Int32.le_iff_toInt_le, ← Int32.toInt_inj] at *
                            omega)
              ·
                by_cases ec7 : (x3 - x3 / 100 * 100) < 1
                ·
                  by_cases em0 : x3 < 100
                  ·
                    refine ⟨(-1), zH0, zH0, fun X n d => ?_, fun X n d => ?_, zh72, ?_, ?_⟩
                    ·
                      refine (r_iloadn f180_0 rfl).trans ?_
                      have hc1 : arun X (n + 999998) (d + 19) zM139 0 [some (.int x1)] [] zH0 = some ((some (.int 1)), zH0) := by
                        refine (r_iloadn f139_0 rfl).trans ?_
                        refine (r_iconst (v := 0) f139_1 rfl).trans ?_
                        refine (r_bipush (v := 9) f139_2 rfl).trans ?_
                        have hc2 : arun X (n + 999994) (d + 18) zM137 0 [some (.int x1), some (.int 0), some (.int 9)] [] zH0 = some ((some (.int 1)), zH0) := by
                          refine (r_iloadn f137_0 rfl).trans ?_
                          refine (r_iloadn f137_1 rfl).trans ?_
                          refine (r_icmp_gt_f f137_2 ec0).trans ?_
                          refine (r_iloadn f137_5 rfl).trans ?_
                          refine (r_iloadn f137_6 rfl).trans ?_
                          refine (r_icmp_gt_f f137_7 ec1).trans ?_
                          refine (r_iconst (v := 1) f137_10 rfl).trans ?_
                          refine (r_goto f137_11).trans ?_
                          exact r_zreturn f137_15 rfl (by decide)
                        refine (r_stat (as := [.int x1, .int 0, .int 9]) (v := (some (.int 1))) (h1 := zH0) f139_4 rfl zg137 rfl rfl rfl rfl rfl rfl hc2).trans ?_
                        exact r_zreturn f139_7 rfl (by decide)
                      refine (r_stat (as := [.int x1]) (v := (some (.int 1))) (h1 := zH0) f180_1 rfl zg139 rfl rfl rfl rfl rfl rfl hc1).trans ?_
                      refine (r_if_eq_f f180_4 (by decide)).trans ?_
                      refine (r_iloadn f180_7 rfl).trans ?_
                      refine (r_iconst (v := 0) f180_8 rfl).trans ?_
                      refine (r_iconst (v := 2) f180_9 rfl).trans ?_
                      have hc3 : arun X (n + 999993) (d + 19) zM137 0 [some (.int x2), some (.int 0), some (.int 2)] [] zH0 = some ((some (.int 1)), zH0) := by
                        refine (r_iloadn f137_0 rfl).trans ?_
                        refine (r_iloadn f137_1 rfl).trans ?_
                        refine (r_icmp_gt_f f137_2 ec2).trans ?_
                        refine (r_iloadn f137_5 rfl).trans ?_
                        refine (r_iloadn f137_6 rfl).trans ?_
                        refine (r_icmp_gt_f f137_7 ec3).trans ?_
                        refine (r_iconst (v := 1) f137_10 rfl).trans ?_
                        refine (r_goto f137_11).trans ?_
                        exact r_zreturn f137_15 rfl (by decide)
                      refine (r_stat (as := [.int x2, .int 0, .int 2]) (v := (some (.int 1))) (h1 := zH0) f180_10 rfl zg137 rfl rfl rfl rfl rfl rfl hc3).trans ?_
                      refine (r_if_ne_t f180_13 (by decide)).trans ?_
                      refine (r_iloadn f180_18 rfl).trans ?_
                      refine (r_iconst (v := 2) f180_19 rfl).trans ?_
                      refine (r_icmp_ne_f f180_20 ec4).trans ?_
                      refine (r_iloadn f180_23 rfl).trans ?_
                      refine (r_bipush (v := 100) f180_24 rfl).trans ?_
                      refine (r_idiv (v := (x3 / 100)) f180_26 (by decide) rfl).trans ?_
                      refine (r_iconst (v := 1) f180_27 rfl).trans ?_
                      refine (r_bipush (v := 99) f180_28 rfl).trans ?_
                      have hc4 : arun X (n + 999983) (d + 19) zM137 0 [some (.int (x3 / 100)), some (.int 1), some (.int 99)] [] zH0 = some ((some (.int 1)), zH0) := by
                        refine (r_iloadn f137_0 rfl).trans ?_
                        refine (r_iloadn f137_1 rfl).trans ?_
                        refine (r_icmp_gt_f f137_2 ec5).trans ?_
                        refine (r_iloadn f137_5 rfl).trans ?_
                        refine (r_iloadn f137_6 rfl).trans ?_
                        refine (r_icmp_gt_f f137_7 ec6).trans ?_
                        refine (r_iconst (v := 1) f137_10 rfl).trans ?_
                        refine (r_goto f137_11).trans ?_
                        exact r_zreturn f137_15 rfl (by decide)
                      refine (r_stat (as := [.int (x3 / 100), .int 1, .int 99]) (v := (some (.int 1))) (h1 := zH0) f180_30 rfl zg137 rfl rfl rfl rfl rfl rfl hc4).trans ?_
                      refine (r_if_eq_f f180_33 (by decide)).trans ?_
                      refine (r_iloadn f180_36 rfl).trans ?_
                      refine (r_bipush (v := 100) f180_37 rfl).trans ?_
                      refine (r_irem (v := (x3 - x3 / 100 * 100)) f180_39 (by decide) rfl).trans ?_
                      refine (r_iconst (v := 1) f180_40 rfl).trans ?_
                      refine (r_bipush (v := 49) f180_41 rfl).trans ?_
                      have hc5 : arun X (n + 999976) (d + 19) zM137 0 [some (.int (x3 - x3 / 100 * 100)), some (.int 1), some (.int 49)] [] zH0 = some ((some (.int 0)), zH0) := by
                        refine (r_iloadn f137_0 rfl).trans ?_
                        refine (r_iloadn f137_1 rfl).trans ?_
                        refine (r_icmp_gt_t f137_2 ec7).trans ?_
                        refine (r_iconst (v := 0) f137_14 rfl).trans ?_
                        exact r_zreturn f137_15 rfl (by decide)
                      refine (r_stat (as := [.int (x3 - x3 / 100 * 100), .int 1, .int 49]) (v := (some (.int 0))) (h1 := zH0) f180_43 rfl zg137 rfl rfl rfl rfl rfl rfl hc5).trans ?_
                      refine (r_if_ne_f f180_46 (by decide)).trans ?_
                      refine (r_iconst (v := (-1)) f180_49 rfl).trans ?_
                      exact r_ireturn f180_50 rfl
                    ·
                      refine (r_iloadn f298_0 rfl).trans ?_
                      have hc1 : arun X (n + 999998) (d + 19) zM198 0 [some (.int x1)] [] zH0 = some ((some (.int 1)), zH0) := by
                        refine (r_iloadn f198_0 rfl).trans ?_
                        refine (r_iconst (v := 0) f198_1 rfl).trans ?_
                        refine (r_bipush (v := 9) f198_2 rfl).trans ?_
                        have hc2 : arun X (n + 999994) (d + 18) zM196 0 [some (.int x1), some (.int 0), some (.int 9)] [] zH0 = some ((some (.int 1)), zH0) := by
                          refine (r_iloadn f196_0 rfl).trans ?_
                          refine (r_iloadn f196_1 rfl).trans ?_
                          refine (r_icmp_lt_f f196_2 ec0).trans ?_
                          refine (r_iloadn f196_5 rfl).trans ?_
                          refine (r_iloadn f196_6 rfl).trans ?_
                          refine (r_icmp_gt_f f196_7 ec1).trans ?_
                          refine (r_iconst (v := 1) f196_10 rfl).trans ?_
                          refine (r_goto f196_11).trans ?_
                          exact r_zreturn f196_15 rfl (by decide)
                        refine (r_stat (as := [.int x1, .int 0, .int 9]) (v := (some (.int 1))) (h1 := zH0) f198_4 rfl zg196 rfl rfl rfl rfl rfl rfl hc2).trans ?_
                        exact r_zreturn f198_7 rfl (by decide)
                      refine (r_stat (as := [.int x1]) (v := (some (.int 1))) (h1 := zH0) f298_1 rfl zg198 rfl rfl rfl rfl rfl rfl hc1).trans ?_
                      refine (r_if_eq_f f298_4 (by decide)).trans ?_
                      refine (r_iloadn f298_7 rfl).trans ?_
                      refine (r_iconst (v := 0) f298_8 rfl).trans ?_
                      refine (r_iconst (v := 2) f298_9 rfl).trans ?_
                      have hc3 : arun X (n + 999993) (d + 19) zM196 0 [some (.int x2), some (.int 0), some (.int 2)] [] zH0 = some ((some (.int 1)), zH0) := by
                        refine (r_iloadn f196_0 rfl).trans ?_
                        refine (r_iloadn f196_1 rfl).trans ?_
                        refine (r_icmp_lt_f f196_2 ec2).trans ?_
                        refine (r_iloadn f196_5 rfl).trans ?_
                        refine (r_iloadn f196_6 rfl).trans ?_
                        refine (r_icmp_gt_f f196_7 ec3).trans ?_
                        refine (r_iconst (v := 1) f196_10 rfl).trans ?_
                        refine (r_goto f196_11).trans ?_
                        exact r_zreturn f196_15 rfl (by decide)
                      refine (r_stat (as := [.int x2, .int 0, .int 2]) (v := (some (.int 1))) (h1 := zH0) f298_10 rfl zg196 rfl rfl rfl rfl rfl rfl hc3).trans ?_
                      refine (r_if_eq_f f298_13 (by decide)).trans ?_
                      refine (r_iloadn f298_16 rfl).trans ?_
                      refine (r_iconst (v := 2) f298_17 rfl).trans ?_
                      refine (r_icmp_ne_f f298_18 ec4).trans ?_
                      refine (r_iloadn f298_21 rfl).trans ?_
                      refine (r_bipush (v := 100) f298_22 rfl).trans ?_
                      refine (r_sipush (v := 9949) f298_24 rfl).trans ?_
                      have hc4 : arun X (n + 999985) (d + 19) zM196 0 [some (.int x3), some (.int 100), some (.int 9949)] [] zH0 = some ((some (.int 0)), zH0) := by
                        refine (r_iloadn f196_0 rfl).trans ?_
                        refine (r_iloadn f196_1 rfl).trans ?_
                        refine (r_icmp_lt_t f196_2 em0).trans ?_
                        refine (r_iconst (v := 0) f196_14 rfl).trans ?_
                        exact r_zreturn f196_15 rfl (by decide)
                      refine (r_stat (as := [.int x3, .int 100, .int 9949]) (v := (some (.int 0))) (h1 := zH0) f298_27 rfl zg196 rfl rfl rfl rfl rfl rfl hc4).trans ?_
                      refine (r_if_eq_t f298_30 (by decide)).trans ?_
                      refine (r_iconst (v := (-1)) f298_46 rfl).trans ?_
                      exact r_ireturn f298_47 rfl
                    · exact Nat.le_trans (Nat.le_of_eq zH0_len) (by decide)
                    · decide
                  ·
                    by_cases em1 : 9949 < x3
                    ·
                      refine ⟨(-1), zH0, zH0, fun X n d => ?_, fun X n d => ?_, zh72, ?_, ?_⟩
                      ·
                        refine (r_iloadn f180_0 rfl).trans ?_
                        have hc1 : arun X (n + 999998) (d + 19) zM139 0 [some (.int x1)] [] zH0 = some ((some (.int 1)), zH0) := by
                          refine (r_iloadn f139_0 rfl).trans ?_
                          refine (r_iconst (v := 0) f139_1 rfl).trans ?_
                          refine (r_bipush (v := 9) f139_2 rfl).trans ?_
                          have hc2 : arun X (n + 999994) (d + 18) zM137 0 [some (.int x1), some (.int 0), some (.int 9)] [] zH0 = some ((some (.int 1)), zH0) := by
                            refine (r_iloadn f137_0 rfl).trans ?_
                            refine (r_iloadn f137_1 rfl).trans ?_
                            refine (r_icmp_gt_f f137_2 ec0).trans ?_
                            refine (r_iloadn f137_5 rfl).trans ?_
                            refine (r_iloadn f137_6 rfl).trans ?_
                            refine (r_icmp_gt_f f137_7 ec1).trans ?_
                            refine (r_iconst (v := 1) f137_10 rfl).trans ?_
                            refine (r_goto f137_11).trans ?_
                            exact r_zreturn f137_15 rfl (by decide)
                          refine (r_stat (as := [.int x1, .int 0, .int 9]) (v := (some (.int 1))) (h1 := zH0) f139_4 rfl zg137 rfl rfl rfl rfl rfl rfl hc2).trans ?_
                          exact r_zreturn f139_7 rfl (by decide)
                        refine (r_stat (as := [.int x1]) (v := (some (.int 1))) (h1 := zH0) f180_1 rfl zg139 rfl rfl rfl rfl rfl rfl hc1).trans ?_
                        refine (r_if_eq_f f180_4 (by decide)).trans ?_
                        refine (r_iloadn f180_7 rfl).trans ?_
                        refine (r_iconst (v := 0) f180_8 rfl).trans ?_
                        refine (r_iconst (v := 2) f180_9 rfl).trans ?_
                        have hc3 : arun X (n + 999993) (d + 19) zM137 0 [some (.int x2), some (.int 0), some (.int 2)] [] zH0 = some ((some (.int 1)), zH0) := by
                          refine (r_iloadn f137_0 rfl).trans ?_
                          refine (r_iloadn f137_1 rfl).trans ?_
                          refine (r_icmp_gt_f f137_2 ec2).trans ?_
                          refine (r_iloadn f137_5 rfl).trans ?_
                          refine (r_iloadn f137_6 rfl).trans ?_
                          refine (r_icmp_gt_f f137_7 ec3).trans ?_
                          refine (r_iconst (v := 1) f137_10 rfl).trans ?_
                          refine (r_goto f137_11).trans ?_
                          exact r_zreturn f137_15 rfl (by decide)
                        refine (r_stat (as := [.int x2, .int 0, .int 2]) (v := (some (.int 1))) (h1 := zH0) f180_10 rfl zg137 rfl rfl rfl rfl rfl rfl hc3).trans ?_
                        refine (r_if_ne_t f180_13 (by decide)).trans ?_
                        refine (r_iloadn f180_18 rfl).trans ?_
                        refine (r_iconst (v := 2) f180_19 rfl).trans ?_
                        refine (r_icmp_ne_f f180_20 ec4).trans ?_
                        refine (r_iloadn f180_23 rfl).trans ?_
                        refine (r_bipush (v := 100) f180_24 rfl).trans ?_
                        refine (r_idiv (v := (x3 / 100)) f180_26 (by decide) rfl).trans ?_
                        refine (r_iconst (v := 1) f180_27 rfl).trans ?_
                        refine (r_bipush (v := 99) f180_28 rfl).trans ?_
                        have hc4 : arun X (n + 999983) (d + 19) zM137 0 [some (.int (x3 / 100)), some (.int 1), some (.int 99)] [] zH0 = some ((some (.int 1)), zH0) := by
                          refine (r_iloadn f137_0 rfl).trans ?_
                          refine (r_iloadn f137_1 rfl).trans ?_
                          refine (r_icmp_gt_f f137_2 ec5).trans ?_
                          refine (r_iloadn f137_5 rfl).trans ?_
                          refine (r_iloadn f137_6 rfl).trans ?_
                          refine (r_icmp_gt_f f137_7 ec6).trans ?_
                          refine (r_iconst (v := 1) f137_10 rfl).trans ?_
                          refine (r_goto f137_11).trans ?_
                          exact r_zreturn f137_15 rfl (by decide)
                        refine (r_stat (as := [.int (x3 / 100), .int 1, .int 99]) (v := (some (.int 1))) (h1 := zH0) f180_30 rfl zg137 rfl rfl rfl rfl rfl rfl hc4).trans ?_
                        refine (r_if_eq_f f180_33 (by decide)).trans ?_
                        refine (r_iloadn f180_36 rfl).trans ?_
                        refine (r_bipush (v := 100) f180_37 rfl).trans ?_
                        refine (r_irem (v := (x3 - x3 / 100 * 100)) f180_39 (by decide) rfl).trans ?_
                        refine (r_iconst (v := 1) f180_40 rfl).trans ?_
                        refine (r_bipush (v := 49) f180_41 rfl).trans ?_
                        have hc5 : arun X (n + 999976) (d + 19) zM137 0 [some (.int (x3 - x3 / 100 * 100)), some (.int 1), some (.int 49)] [] zH0 = some ((some (.int 0)), zH0) := by
                          refine (r_iloadn f137_0 rfl).trans ?_
                          refine (r_iloadn f137_1 rfl).trans ?_
                          refine (r_icmp_gt_t f137_2 ec7).trans ?_
                          refine (r_iconst (v := 0) f137_14 rfl).trans ?_
                          exact r_zreturn f137_15 rfl (by decide)
                        refine (r_stat (as := [.int (x3 - x3 / 100 * 100), .int 1, .int 49]) (v := (some (.int 0))) (h1 := zH0) f180_43 rfl zg137 rfl rfl rfl rfl rfl rfl hc5).trans ?_
                        refine (r_if_ne_f f180_46 (by decide)).trans ?_
                        refine (r_iconst (v := (-1)) f180_49 rfl).trans ?_
                        exact r_ireturn f180_50 rfl
                      ·
                        refine (r_iloadn f298_0 rfl).trans ?_
                        have hc1 : arun X (n + 999998) (d + 19) zM198 0 [some (.int x1)] [] zH0 = some ((some (.int 1)), zH0) := by
                          refine (r_iloadn f198_0 rfl).trans ?_
                          refine (r_iconst (v := 0) f198_1 rfl).trans ?_
                          refine (r_bipush (v := 9) f198_2 rfl).trans ?_
                          have hc2 : arun X (n + 999994) (d + 18) zM196 0 [some (.int x1), some (.int 0), some (.int 9)] [] zH0 = some ((some (.int 1)), zH0) := by
                            refine (r_iloadn f196_0 rfl).trans ?_
                            refine (r_iloadn f196_1 rfl).trans ?_
                            refine (r_icmp_lt_f f196_2 ec0).trans ?_
                            refine (r_iloadn f196_5 rfl).trans ?_
                            refine (r_iloadn f196_6 rfl).trans ?_
                            refine (r_icmp_gt_f f196_7 ec1).trans ?_
                            refine (r_iconst (v := 1) f196_10 rfl).trans ?_
                            refine (r_goto f196_11).trans ?_
                            exact r_zreturn f196_15 rfl (by decide)
                          refine (r_stat (as := [.int x1, .int 0, .int 9]) (v := (some (.int 1))) (h1 := zH0) f198_4 rfl zg196 rfl rfl rfl rfl rfl rfl hc2).trans ?_
                          exact r_zreturn f198_7 rfl (by decide)
                        refine (r_stat (as := [.int x1]) (v := (some (.int 1))) (h1 := zH0) f298_1 rfl zg198 rfl rfl rfl rfl rfl rfl hc1).trans ?_
                        refine (r_if_eq_f f298_4 (by decide)).trans ?_
                        refine (r_iloadn f298_7 rfl).trans ?_
                        refine (r_iconst (v := 0) f298_8 rfl).trans ?_
                        refine (r_iconst (v := 2) f298_9 rfl).trans ?_
                        have hc3 : arun X (n + 999993) (d + 19) zM196 0 [some (.int x2), some (.int 0), some (.int 2)] [] zH0 = some ((some (.int 1)), zH0) := by
                          refine (r_iloadn f196_0 rfl).trans ?_
                          refine (r_iloadn f196_1 rfl).trans ?_
                          refine (r_icmp_lt_f f196_2 ec2).trans ?_
                          refine (r_iloadn f196_5 rfl).trans ?_
                          refine (r_iloadn f196_6 rfl).trans ?_
                          refine (r_icmp_gt_f f196_7 ec3).trans ?_
                          refine (r_iconst (v := 1) f196_10 rfl).trans ?_
                          refine (r_goto f196_11).trans ?_
                          exact r_zreturn f196_15 rfl (by decide)
                        refine (r_stat (as := [.int x2, .int 0, .int 2]) (v := (some (.int 1))) (h1 := zH0) f298_10 rfl zg196 rfl rfl rfl rfl rfl rfl hc3).trans ?_
                        refine (r_if_eq_f f298_13 (by decide)).trans ?_
                        refine (r_iloadn f298_16 rfl).trans ?_
                        refine (r_iconst (v := 2) f298_17 rfl).trans ?_
                        refine (r_icmp_ne_f f298_18 ec4).trans ?_
                        refine (r_iloadn f298_21 rfl).trans ?_
                        refine (r_bipush (v := 100) f298_22 rfl).trans ?_
                        refine (r_sipush (v := 9949) f298_24 rfl).trans ?_
                        have hc4 : arun X (n + 999985) (d + 19) zM196 0 [some (.int x3), some (.int 100), some (.int 9949)] [] zH0 = some ((some (.int 0)), zH0) := by
                          refine (r_iloadn f196_0 rfl).trans ?_
                          refine (r_iloadn f196_1 rfl).trans ?_
                          refine (r_icmp_lt_f f196_2 em0).trans ?_
                          refine (r_iloadn f196_5 rfl).trans ?_
                          refine (r_iloadn f196_6 rfl).trans ?_
                          refine (r_icmp_gt_t f196_7 em1).trans ?_
                          refine (r_iconst (v := 0) f196_14 rfl).trans ?_
                          exact r_zreturn f196_15 rfl (by decide)
                        refine (r_stat (as := [.int x3, .int 100, .int 9949]) (v := (some (.int 0))) (h1 := zH0) f298_27 rfl zg196 rfl rfl rfl rfl rfl rfl hc4).trans ?_
                        refine (r_if_eq_t f298_30 (by decide)).trans ?_
                        refine (r_iconst (v := (-1)) f298_46 rfl).trans ?_
                        exact r_ireturn f298_47 rfl
                      · exact Nat.le_trans (Nat.le_of_eq zH0_len) (by decide)
                      · decide
                    ·
                      refine ⟨(-1), zH0, zH0, fun X n d => ?_, fun X n d => ?_, zh72, ?_, ?_⟩
                      ·
                        refine (r_iloadn f180_0 rfl).trans ?_
                        have hc1 : arun X (n + 999998) (d + 19) zM139 0 [some (.int x1)] [] zH0 = some ((some (.int 1)), zH0) := by
                          refine (r_iloadn f139_0 rfl).trans ?_
                          refine (r_iconst (v := 0) f139_1 rfl).trans ?_
                          refine (r_bipush (v := 9) f139_2 rfl).trans ?_
                          have hc2 : arun X (n + 999994) (d + 18) zM137 0 [some (.int x1), some (.int 0), some (.int 9)] [] zH0 = some ((some (.int 1)), zH0) := by
                            refine (r_iloadn f137_0 rfl).trans ?_
                            refine (r_iloadn f137_1 rfl).trans ?_
                            refine (r_icmp_gt_f f137_2 ec0).trans ?_
                            refine (r_iloadn f137_5 rfl).trans ?_
                            refine (r_iloadn f137_6 rfl).trans ?_
                            refine (r_icmp_gt_f f137_7 ec1).trans ?_
                            refine (r_iconst (v := 1) f137_10 rfl).trans ?_
                            refine (r_goto f137_11).trans ?_
                            exact r_zreturn f137_15 rfl (by decide)
                          refine (r_stat (as := [.int x1, .int 0, .int 9]) (v := (some (.int 1))) (h1 := zH0) f139_4 rfl zg137 rfl rfl rfl rfl rfl rfl hc2).trans ?_
                          exact r_zreturn f139_7 rfl (by decide)
                        refine (r_stat (as := [.int x1]) (v := (some (.int 1))) (h1 := zH0) f180_1 rfl zg139 rfl rfl rfl rfl rfl rfl hc1).trans ?_
                        refine (r_if_eq_f f180_4 (by decide)).trans ?_
                        refine (r_iloadn f180_7 rfl).trans ?_
                        refine (r_iconst (v := 0) f180_8 rfl).trans ?_
                        refine (r_iconst (v := 2) f180_9 rfl).trans ?_
                        have hc3 : arun X (n + 999993) (d + 19) zM137 0 [some (.int x2), some (.int 0), some (.int 2)] [] zH0 = some ((some (.int 1)), zH0) := by
                          refine (r_iloadn f137_0 rfl).trans ?_
                          refine (r_iloadn f137_1 rfl).trans ?_
                          refine (r_icmp_gt_f f137_2 ec2).trans ?_
                          refine (r_iloadn f137_5 rfl).trans ?_
                          refine (r_iloadn f137_6 rfl).trans ?_
                          refine (r_icmp_gt_f f137_7 ec3).trans ?_
                          refine (r_iconst (v := 1) f137_10 rfl).trans ?_
                          refine (r_goto f137_11).trans ?_
                          exact r_zreturn f137_15 rfl (by decide)
                        refine (r_stat (as := [.int x2, .int 0, .int 2]) (v := (some (.int 1))) (h1 := zH0) f180_10 rfl zg137 rfl rfl rfl rfl rfl rfl hc3).trans ?_
                        refine (r_if_ne_t f180_13 (by decide)).trans ?_
                        refine (r_iloadn f180_18 rfl).trans ?_
                        refine (r_iconst (v := 2) f180_19 rfl).trans ?_
                        refine (r_icmp_ne_f f180_20 ec4).trans ?_
                        refine (r_iloadn f180_23 rfl).trans ?_
                        refine (r_bipush (v := 100) f180_24 rfl).trans ?_
                        refine (r_idiv (v := (x3 / 100)) f180_26 (by decide) rfl).trans ?_
                        refine (r_iconst (v := 1) f180_27 rfl).trans ?_
                        refine (r_bipush (v := 99) f180_28 rfl).trans ?_
                        have hc4 : arun X (n + 999983) (d + 19) zM137 0 [some (.int (x3 / 100)), some (.int 1), some (.int 99)] [] zH0 = some ((some (.int 1)), zH0) := by
                          refine (r_iloadn f137_0 rfl).trans ?_
                          refine (r_iloadn f137_1 rfl).trans ?_
                          refine (r_icmp_gt_f f137_2 ec5).trans ?_
                          refine (r_iloadn f137_5 rfl).trans ?_
                          refine (r_iloadn f137_6 rfl).trans ?_
                          refine (r_icmp_gt_f f137_7 ec6).trans ?_
                          refine (r_iconst (v := 1) f137_10 rfl).trans ?_
                          refine (r_goto f137_11).trans ?_
                          exact r_zreturn f137_15 rfl (by decide)
                        refine (r_stat (as := [.int (x3 / 100), .int 1, .int 99]) (v := (some (.int 1))) (h1 := zH0) f180_30 rfl zg137 rfl rfl rfl rfl rfl rfl hc4).trans ?_
                        refine (r_if_eq_f f180_33 (by decide)).trans ?_
                        refine (r_iloadn f180_36 rfl).trans ?_
                        refine (r_bipush (v := 100) f180_37 rfl).trans ?_
                        refine (r_irem (v := (x3 - x3 / 100 * 100)) f180_39 (by decide) rfl).trans ?_
                        refine (r_iconst (v := 1) f180_40 rfl).trans ?_
                        refine (r_bipush (v := 49) f180_41 rfl).trans ?_
                        have hc5 : arun X (n + 999976) (d + 19) zM137 0 [some (.int (x3 - x3 / 100 * 100)), some (.int 1), some (.int 49)] [] zH0 = some ((some (.int 0)), zH0) := by
                          refine (r_iloadn f137_0 rfl).trans ?_
                          refine (r_iloadn f137_1 rfl).trans ?_
                          refine (r_icmp_gt_t f137_2 ec7).trans ?_
                          refine (r_iconst (v := 0) f137_14 rfl).trans ?_
                          exact r_zreturn f137_15 rfl (by decide)
                        refine (r_stat (as := [.int (x3 - x3 / 100 * 100), .int 1, .int 49]) (v := (some (.int 0))) (h1 := zH0) f180_43 rfl zg137 rfl rfl rfl rfl rfl rfl hc5).trans ?_
                        refine (r_if_ne_f f180_46 (by decide)).trans ?_
                        refine (r_iconst (v := (-1)) f180_49 rfl).trans ?_
                        exact r_ireturn f180_50 rfl
                      ·
                        refine (r_iloadn f298_0 rfl).trans ?_
                        have hc1 : arun X (n + 999998) (d + 19) zM198 0 [some (.int x1)] [] zH0 = some ((some (.int 1)), zH0) := by
                          refine (r_iloadn f198_0 rfl).trans ?_
                          refine (r_iconst (v := 0) f198_1 rfl).trans ?_
                          refine (r_bipush (v := 9) f198_2 rfl).trans ?_
                          have hc2 : arun X (n + 999994) (d + 18) zM196 0 [some (.int x1), some (.int 0), some (.int 9)] [] zH0 = some ((some (.int 1)), zH0) := by
                            refine (r_iloadn f196_0 rfl).trans ?_
                            refine (r_iloadn f196_1 rfl).trans ?_
                            refine (r_icmp_lt_f f196_2 ec0).trans ?_
                            refine (r_iloadn f196_5 rfl).trans ?_
                            refine (r_iloadn f196_6 rfl).trans ?_
                            refine (r_icmp_gt_f f196_7 ec1).trans ?_
                            refine (r_iconst (v := 1) f196_10 rfl).trans ?_
                            refine (r_goto f196_11).trans ?_
                            exact r_zreturn f196_15 rfl (by decide)
                          refine (r_stat (as := [.int x1, .int 0, .int 9]) (v := (some (.int 1))) (h1 := zH0) f198_4 rfl zg196 rfl rfl rfl rfl rfl rfl hc2).trans ?_
                          exact r_zreturn f198_7 rfl (by decide)
                        refine (r_stat (as := [.int x1]) (v := (some (.int 1))) (h1 := zH0) f298_1 rfl zg198 rfl rfl rfl rfl rfl rfl hc1).trans ?_
                        refine (r_if_eq_f f298_4 (by decide)).trans ?_
                        refine (r_iloadn f298_7 rfl).trans ?_
                        refine (r_iconst (v := 0) f298_8 rfl).trans ?_
                        refine (r_iconst (v := 2) f298_9 rfl).trans ?_
                        have hc3 : arun X (n + 999993) (d + 19) zM196 0 [some (.int x2), some (.int 0), some (.int 2)] [] zH0 = some ((some (.int 1)), zH0) := by
                          refine (r_iloadn f196_0 rfl).trans ?_
                          refine (r_iloadn f196_1 rfl).trans ?_
                          refine (r_icmp_lt_f f196_2 ec2).trans ?_
                          refine (r_iloadn f196_5 rfl).trans ?_
                          refine (r_iloadn f196_6 rfl).trans ?_
                          refine (r_icmp_gt_f f196_7 ec3).trans ?_
                          refine (r_iconst (v := 1) f196_10 rfl).trans ?_
                          refine (r_goto f196_11).trans ?_
                          exact r_zreturn f196_15 rfl (by decide)
                        refine (r_stat (as := [.int x2, .int 0, .int 2]) (v := (some (.int 1))) (h1 := zH0) f298_10 rfl zg196 rfl rfl rfl rfl rfl rfl hc3).trans ?_
                        refine (r_if_eq_f f298_13 (by decide)).trans ?_
                        refine (r_iloadn f298_16 rfl).trans ?_
                        refine (r_iconst (v := 2) f298_17 rfl).trans ?_
                        refine (r_icmp_ne_f f298_18 ec4).trans ?_
                        refine (r_iloadn f298_21 rfl).trans ?_
                        refine (r_bipush (v := 100) f298_22 rfl).trans ?_
                        refine (r_sipush (v := 9949) f298_24 rfl).trans ?_
                        have hc4 : arun X (n + 999985) (d + 19) zM196 0 [some (.int x3), some (.int 100), some (.int 9949)] [] zH0 = some ((some (.int 1)), zH0) := by
                          refine (r_iloadn f196_0 rfl).trans ?_
                          refine (r_iloadn f196_1 rfl).trans ?_
                          refine (r_icmp_lt_f f196_2 em0).trans ?_
                          refine (r_iloadn f196_5 rfl).trans ?_
                          refine (r_iloadn f196_6 rfl).trans ?_
                          refine (r_icmp_gt_f f196_7 em1).trans ?_
                          refine (r_iconst (v := 1) f196_10 rfl).trans ?_
                          refine (r_goto f196_11).trans ?_
                          exact r_zreturn f196_15 rfl (by decide)
                        refine (r_stat (as := [.int x3, .int 100, .int 9949]) (v := (some (.int 1))) (h1 := zH0) f298_27 rfl zg196 rfl rfl rfl rfl rfl rfl hc4).trans ?_
                        refine (r_if_eq_f f298_30 (by decide)).trans ?_
                        refine (r_iloadn f298_33 rfl).trans ?_
                        refine (r_bipush (v := 100) f298_34 rfl).trans ?_
                        refine (r_irem (v := (x3 - x3 / 100 * 100)) f298_36 (by decide) rfl).trans ?_
                        refine (r_iconst (v := 1) f298_37 rfl).trans ?_
                        refine (r_bipush (v := 49) f298_38 rfl).trans ?_
                        have hc5 : arun X (n + 999978) (d + 19) zM196 0 [some (.int (x3 - x3 / 100 * 100)), some (.int 1), some (.int 49)] [] zH0 = some ((some (.int 0)), zH0) := by
                          refine (r_iloadn f196_0 rfl).trans ?_
                          refine (r_iloadn f196_1 rfl).trans ?_
                          refine (r_icmp_lt_t f196_2 ec7).trans ?_
                          refine (r_iconst (v := 0) f196_14 rfl).trans ?_
                          exact r_zreturn f196_15 rfl (by decide)
                        refine (r_stat (as := [.int (x3 - x3 / 100 * 100), .int 1, .int 49]) (v := (some (.int 0))) (h1 := zH0) f298_40 rfl zg196 rfl rfl rfl rfl rfl rfl hc5).trans ?_
                        refine (r_if_ne_f f298_43 (by decide)).trans ?_
                        refine (r_iconst (v := (-1)) f298_46 rfl).trans ?_
                        exact r_ireturn f298_47 rfl
                      · exact Nat.le_trans (Nat.le_of_eq zH0_len) (by decide)
                      · decide
                ·
                  by_cases ec8 : 49 < (x3 - x3 / 100 * 100)
                  ·
                    by_cases em0 : x3 < 100
                    ·
                      refine ⟨(-1), zH0, zH0, fun X n d => ?_, fun X n d => ?_, zh72, ?_, ?_⟩
                      ·
                        refine (r_iloadn f180_0 rfl).trans ?_
                        have hc1 : arun X (n + 999998) (d + 19) zM139 0 [some (.int x1)] [] zH0 = some ((some (.int 1)), zH0) := by
                          refine (r_iloadn f139_0 rfl).trans ?_
                          refine (r_iconst (v := 0) f139_1 rfl).trans ?_
                          refine (r_bipush (v := 9) f139_2 rfl).trans ?_
                          have hc2 : arun X (n + 999994) (d + 18) zM137 0 [some (.int x1), some (.int 0), some (.int 9)] [] zH0 = some ((some (.int 1)), zH0) := by
                            refine (r_iloadn f137_0 rfl).trans ?_
                            refine (r_iloadn f137_1 rfl).trans ?_
                            refine (r_icmp_gt_f f137_2 ec0).trans ?_
                            refine (r_iloadn f137_5 rfl).trans ?_
                            refine (r_iloadn f137_6 rfl).trans ?_
                            refine (r_icmp_gt_f f137_7 ec1).trans ?_
                            refine (r_iconst (v := 1) f137_10 rfl).trans ?_
                            refine (r_goto f137_11).trans ?_
                            exact r_zreturn f137_15 rfl (by decide)
                          refine (r_stat (as := [.int x1, .int 0, .int 9]) (v := (some (.int 1))) (h1 := zH0) f139_4 rfl zg137 rfl rfl rfl rfl rfl rfl hc2).trans ?_
                          exact r_zreturn f139_7 rfl (by decide)
                        refine (r_stat (as := [.int x1]) (v := (some (.int 1))) (h1 := zH0) f180_1 rfl zg139 rfl rfl rfl rfl rfl rfl hc1).trans ?_
                        refine (r_if_eq_f f180_4 (by decide)).trans ?_
                        refine (r_iloadn f180_7 rfl).trans ?_
                        refine (r_iconst (v := 0) f180_8 rfl).trans ?_
                        refine (r_iconst (v := 2) f180_9 rfl).trans ?_
                        have hc3 : arun X (n + 999993) (d + 19) zM137 0 [some (.int x2), some (.int 0), some (.int 2)] [] zH0 = some ((some (.int 1)), zH0) := by
                          refine (r_iloadn f137_0 rfl).trans ?_
                          refine (r_iloadn f137_1 rfl).trans ?_
                          refine (r_icmp_gt_f f137_2 ec2).trans ?_
                          refine (r_iloadn f137_5 rfl).trans ?_
                          refine (r_iloadn f137_6 rfl).trans ?_
                          refine (r_icmp_gt_f f137_7 ec3).trans ?_
                          refine (r_iconst (v := 1) f137_10 rfl).trans ?_
                          refine (r_goto f137_11).trans ?_
                          exact r_zreturn f137_15 rfl (by decide)
                        refine (r_stat (as := [.int x2, .int 0, .int 2]) (v := (some (.int 1))) (h1 := zH0) f180_10 rfl zg137 rfl rfl rfl rfl rfl rfl hc3).trans ?_
                        refine (r_if_ne_t f180_13 (by decide)).trans ?_
                        refine (r_iloadn f180_18 rfl).trans ?_
                        refine (r_iconst (v := 2) f180_19 rfl).trans ?_
                        refine (r_icmp_ne_f f180_20 ec4).trans ?_
                        refine (r_iloadn f180_23 rfl).trans ?_
                        refine (r_bipush (v := 100) f180_24 rfl).trans ?_
                        refine (r_idiv (v := (x3 / 100)) f180_26 (by decide) rfl).trans ?_
                        refine (r_iconst (v := 1) f180_27 rfl).trans ?_
                        refine (r_bipush (v := 99) f180_28 rfl).trans ?_
                        have hc4 : arun X (n + 999983) (d + 19) zM137 0 [some (.int (x3 / 100)), some (.int 1), some (.int 99)] [] zH0 = some ((some (.int 1)), zH0) := by
                          refine (r_iloadn f137_0 rfl).trans ?_
                          refine (r_iloadn f137_1 rfl).trans ?_
                          refine (r_icmp_gt_f f137_2 ec5).trans ?_
                          refine (r_iloadn f137_5 rfl).trans ?_
                          refine (r_iloadn f137_6 rfl).trans ?_
                          refine (r_icmp_gt_f f137_7 ec6).trans ?_
                          refine (r_iconst (v := 1) f137_10 rfl).trans ?_
                          refine (r_goto f137_11).trans ?_
                          exact r_zreturn f137_15 rfl (by decide)
                        refine (r_stat (as := [.int (x3 / 100), .int 1, .int 99]) (v := (some (.int 1))) (h1 := zH0) f180_30 rfl zg137 rfl rfl rfl rfl rfl rfl hc4).trans ?_
                        refine (r_if_eq_f f180_33 (by decide)).trans ?_
                        refine (r_iloadn f180_36 rfl).trans ?_
                        refine (r_bipush (v := 100) f180_37 rfl).trans ?_
                        refine (r_irem (v := (x3 - x3 / 100 * 100)) f180_39 (by decide) rfl).trans ?_
                        refine (r_iconst (v := 1) f180_40 rfl).trans ?_
                        refine (r_bipush (v := 49) f180_41 rfl).trans ?_
                        have hc5 : arun X (n + 999976) (d + 19) zM137 0 [some (.int (x3 - x3 / 100 * 100)), some (.int 1), some (.int 49)] [] zH0 = some ((some (.int 0)), zH0) := by
                          refine (r_iloadn f137_0 rfl).trans ?_
                          refine (r_iloadn f137_1 rfl).trans ?_
                          refine (r_icmp_gt_f f137_2 ec7).trans ?_
                          refine (r_iloadn f137_5 rfl).trans ?_
                          refine (r_iloadn f137_6 rfl).trans ?_
                          refine (r_icmp_gt_t f137_7 ec8).trans ?_
                          refine (r_iconst (v := 0) f137_14 rfl).trans ?_
                          exact r_zreturn f137_15 rfl (by decide)
                        refine (r_stat (as := [.int (x3 - x3 / 100 * 100), .int 1, .int 49]) (v := (some (.int 0))) (h1 := zH0) f180_43 rfl zg137 rfl rfl rfl rfl rfl rfl hc5).trans ?_
                        refine (r_if_ne_f f180_46 (by decide)).trans ?_
                        refine (r_iconst (v := (-1)) f180_49 rfl).trans ?_
                        exact r_ireturn f180_50 rfl
                      ·
                        refine (r_iloadn f298_0 rfl).trans ?_
                        have hc1 : arun X (n + 999998) (d + 19) zM198 0 [some (.int x1)] [] zH0 = some ((some (.int 1)), zH0) := by
                          refine (r_iloadn f198_0 rfl).trans ?_
                          refine (r_iconst (v := 0) f198_1 rfl).trans ?_
                          refine (r_bipush (v := 9) f198_2 rfl).trans ?_
                          have hc2 : arun X (n + 999994) (d + 18) zM196 0 [some (.int x1), some (.int 0), some (.int 9)] [] zH0 = some ((some (.int 1)), zH0) := by
                            refine (r_iloadn f196_0 rfl).trans ?_
                            refine (r_iloadn f196_1 rfl).trans ?_
                            refine (r_icmp_lt_f f196_2 ec0).trans ?_
                            refine (r_iloadn f196_5 rfl).trans ?_
                            refine (r_iloadn f196_6 rfl).trans ?_
                            refine (r_icmp_gt_f f196_7 ec1).trans ?_
                            refine (r_iconst (v := 1) f196_10 rfl).trans ?_
                            refine (r_goto f196_11).trans ?_
                            exact r_zreturn f196_15 rfl (by decide)
                          refine (r_stat (as := [.int x1, .int 0, .int 9]) (v := (some (.int 1))) (h1 := zH0) f198_4 rfl zg196 rfl rfl rfl rfl rfl rfl hc2).trans ?_
                          exact r_zreturn f198_7 rfl (by decide)
                        refine (r_stat (as := [.int x1]) (v := (some (.int 1))) (h1 := zH0) f298_1 rfl zg198 rfl rfl rfl rfl rfl rfl hc1).trans ?_
                        refine (r_if_eq_f f298_4 (by decide)).trans ?_
                        refine (r_iloadn f298_7 rfl).trans ?_
                        refine (r_iconst (v := 0) f298_8 rfl).trans ?_
                        refine (r_iconst (v := 2) f298_9 rfl).trans ?_
                        have hc3 : arun X (n + 999993) (d + 19) zM196 0 [some (.int x2), some (.int 0), some (.int 2)] [] zH0 = some ((some (.int 1)), zH0) := by
                          refine (r_iloadn f196_0 rfl).trans ?_
                          refine (r_iloadn f196_1 rfl).trans ?_
                          refine (r_icmp_lt_f f196_2 ec2).trans ?_
                          refine (r_iloadn f196_5 rfl).trans ?_
                          refine (r_iloadn f196_6 rfl).trans ?_
                          refine (r_icmp_gt_f f196_7 ec3).trans ?_
                          refine (r_iconst (v := 1) f196_10 rfl).trans ?_
                          refine (r_goto f196_11).trans ?_
                          exact r_zreturn f196_15 rfl (by decide)
                        refine (r_stat (as := [.int x2, .int 0, .int 2]) (v := (some (.int 1))) (h1 := zH0) f298_10 rfl zg196 rfl rfl rfl rfl rfl rfl hc3).trans ?_
                        refine (r_if_eq_f f298_13 (by decide)).trans ?_
                        refine (r_iloadn f298_16 rfl).trans ?_
                        refine (r_iconst (v := 2) f298_17 rfl).trans ?_
                        refine (r_icmp_ne_f f298_18 ec4).trans ?_
                        refine (r_iloadn f298_21 rfl).trans ?_
                        refine (r_bipush (v := 100) f298_22 rfl).trans ?_
                        refine (r_sipush (v := 9949) f298_24 rfl).trans ?_
                        have hc4 : arun X (n + 999985) (d + 19) zM196 0 [some (.int x3), some (.int 100), some (.int 9949)] [] zH0 = some ((some (.int 0)), zH0) := by
                          refine (r_iloadn f196_0 rfl).trans ?_
                          refine (r_iloadn f196_1 rfl).trans ?_
                          refine (r_icmp_lt_t f196_2 em0).trans ?_
                          refine (r_iconst (v := 0) f196_14 rfl).trans ?_
                          exact r_zreturn f196_15 rfl (by decide)
                        refine (r_stat (as := [.int x3, .int 100, .int 9949]) (v := (some (.int 0))) (h1 := zH0) f298_27 rfl zg196 rfl rfl rfl rfl rfl rfl hc4).trans ?_
                        refine (r_if_eq_t f298_30 (by decide)).trans ?_
                        refine (r_iconst (v := (-1)) f298_46 rfl).trans ?_
                        exact r_ireturn f298_47 rfl
                      · exact Nat.le_trans (Nat.le_of_eq zH0_len) (by decide)
                      · decide
                    ·
                      by_cases em1 : 9949 < x3
                      ·
                        refine ⟨(-1), zH0, zH0, fun X n d => ?_, fun X n d => ?_, zh72, ?_, ?_⟩
                        ·
                          refine (r_iloadn f180_0 rfl).trans ?_
                          have hc1 : arun X (n + 999998) (d + 19) zM139 0 [some (.int x1)] [] zH0 = some ((some (.int 1)), zH0) := by
                            refine (r_iloadn f139_0 rfl).trans ?_
                            refine (r_iconst (v := 0) f139_1 rfl).trans ?_
                            refine (r_bipush (v := 9) f139_2 rfl).trans ?_
                            have hc2 : arun X (n + 999994) (d + 18) zM137 0 [some (.int x1), some (.int 0), some (.int 9)] [] zH0 = some ((some (.int 1)), zH0) := by
                              refine (r_iloadn f137_0 rfl).trans ?_
                              refine (r_iloadn f137_1 rfl).trans ?_
                              refine (r_icmp_gt_f f137_2 ec0).trans ?_
                              refine (r_iloadn f137_5 rfl).trans ?_
                              refine (r_iloadn f137_6 rfl).trans ?_
                              refine (r_icmp_gt_f f137_7 ec1).trans ?_
                              refine (r_iconst (v := 1) f137_10 rfl).trans ?_
                              refine (r_goto f137_11).trans ?_
                              exact r_zreturn f137_15 rfl (by decide)
                            refine (r_stat (as := [.int x1, .int 0, .int 9]) (v := (some (.int 1))) (h1 := zH0) f139_4 rfl zg137 rfl rfl rfl rfl rfl rfl hc2).trans ?_
                            exact r_zreturn f139_7 rfl (by decide)
                          refine (r_stat (as := [.int x1]) (v := (some (.int 1))) (h1 := zH0) f180_1 rfl zg139 rfl rfl rfl rfl rfl rfl hc1).trans ?_
                          refine (r_if_eq_f f180_4 (by decide)).trans ?_
                          refine (r_iloadn f180_7 rfl).trans ?_
                          refine (r_iconst (v := 0) f180_8 rfl).trans ?_
                          refine (r_iconst (v := 2) f180_9 rfl).trans ?_
                          have hc3 : arun X (n + 999993) (d + 19) zM137 0 [some (.int x2), some (.int 0), some (.int 2)] [] zH0 = some ((some (.int 1)), zH0) := by
                            refine (r_iloadn f137_0 rfl).trans ?_
                            refine (r_iloadn f137_1 rfl).trans ?_
                            refine (r_icmp_gt_f f137_2 ec2).trans ?_
                            refine (r_iloadn f137_5 rfl).trans ?_
                            refine (r_iloadn f137_6 rfl).trans ?_
                            refine (r_icmp_gt_f f137_7 ec3).trans ?_
                            refine (r_iconst (v := 1) f137_10 rfl).trans ?_
                            refine (r_goto f137_11).trans ?_
                            exact r_zreturn f137_15 rfl (by decide)
                          refine (r_stat (as := [.int x2, .int 0, .int 2]) (v := (some (.int 1))) (h1 := zH0) f180_10 rfl zg137 rfl rfl rfl rfl rfl rfl hc3).trans ?_
                          refine (r_if_ne_t f180_13 (by decide)).trans ?_
                          refine (r_iloadn f180_18 rfl).trans ?_
                          refine (r_iconst (v := 2) f180_19 rfl).trans ?_
                          refine (r_icmp_ne_f f180_20 ec4).trans ?_
                          refine (r_iloadn f180_23 rfl).trans ?_
                          refine (r_bipush (v := 100) f180_24 rfl).trans ?_
                          refine (r_idiv (v := (x3 / 100)) f180_26 (by decide) rfl).trans ?_
                          refine (r_iconst (v := 1) f180_27 rfl).trans ?_
                          refine (r_bipush (v := 99) f180_28 rfl).trans ?_
                          have hc4 : arun X (n + 999983) (d + 19) zM137 0 [some (.int (x3 / 100)), some (.int 1), some (.int 99)] [] zH0 = some ((some (.int 1)), zH0) := by
                            refine (r_iloadn f137_0 rfl).trans ?_
                            refine (r_iloadn f137_1 rfl).trans ?_
                            refine (r_icmp_gt_f f137_2 ec5).trans ?_
                            refine (r_iloadn f137_5 rfl).trans ?_
                            refine (r_iloadn f137_6 rfl).trans ?_
                            refine (r_icmp_gt_f f137_7 ec6).trans ?_
                            refine (r_iconst (v := 1) f137_10 rfl).trans ?_
                            refine (r_goto f137_11).trans ?_
                            exact r_zreturn f137_15 rfl (by decide)
                          refine (r_stat (as := [.int (x3 / 100), .int 1, .int 99]) (v := (some (.int 1))) (h1 := zH0) f180_30 rfl zg137 rfl rfl rfl rfl rfl rfl hc4).trans ?_
                          refine (r_if_eq_f f180_33 (by decide)).trans ?_
                          refine (r_iloadn f180_36 rfl).trans ?_
                          refine (r_bipush (v := 100) f180_37 rfl).trans ?_
                          refine (r_irem (v := (x3 - x3 / 100 * 100)) f180_39 (by decide) rfl).trans ?_
                          refine (r_iconst (v := 1) f180_40 rfl).trans ?_
                          refine (r_bipush (v := 49) f180_41 rfl).trans ?_
                          have hc5 : arun X (n + 999976) (d + 19) zM137 0 [some (.int (x3 - x3 / 100 * 100)), some (.int 1), some (.int 49)] [] zH0 = some ((some (.int 0)), zH0) := by
                            refine (r_iloadn f137_0 rfl).trans ?_
                            refine (r_iloadn f137_1 rfl).trans ?_
                            refine (r_icmp_gt_f f137_2 ec7).trans ?_
                            refine (r_iloadn f137_5 rfl).trans ?_
                            refine (r_iloadn f137_6 rfl).trans ?_
                            refine (r_icmp_gt_t f137_7 ec8).trans ?_
                            refine (r_iconst (v := 0) f137_14 rfl).trans ?_
                            exact r_zreturn f137_15 rfl (by decide)
                          refine (r_stat (as := [.int (x3 - x3 / 100 * 100), .int 1, .int 49]) (v := (some (.int 0))) (h1 := zH0) f180_43 rfl zg137 rfl rfl rfl rfl rfl rfl hc5).trans ?_
                          refine (r_if_ne_f f180_46 (by decide)).trans ?_
                          refine (r_iconst (v := (-1)) f180_49 rfl).trans ?_
                          exact r_ireturn f180_50 rfl
                        ·
                          refine (r_iloadn f298_0 rfl).trans ?_
                          have hc1 : arun X (n + 999998) (d + 19) zM198 0 [some (.int x1)] [] zH0 = some ((some (.int 1)), zH0) := by
                            refine (r_iloadn f198_0 rfl).trans ?_
                            refine (r_iconst (v := 0) f198_1 rfl).trans ?_
                            refine (r_bipush (v := 9) f198_2 rfl).trans ?_
                            have hc2 : arun X (n + 999994) (d + 18) zM196 0 [some (.int x1), some (.int 0), some (.int 9)] [] zH0 = some ((some (.int 1)), zH0) := by
                              refine (r_iloadn f196_0 rfl).trans ?_
                              refine (r_iloadn f196_1 rfl).trans ?_
                              refine (r_icmp_lt_f f196_2 ec0).trans ?_
                              refine (r_iloadn f196_5 rfl).trans ?_
                              refine (r_iloadn f196_6 rfl).trans ?_
                              refine (r_icmp_gt_f f196_7 ec1).trans ?_
                              refine (r_iconst (v := 1) f196_10 rfl).trans ?_
                              refine (r_goto f196_11).trans ?_
                              exact r_zreturn f196_15 rfl (by decide)
                            refine (r_stat (as := [.int x1, .int 0, .int 9]) (v := (some (.int 1))) (h1 := zH0) f198_4 rfl zg196 rfl rfl rfl rfl rfl rfl hc2).trans ?_
                            exact r_zreturn f198_7 rfl (by decide)
                          refine (r_stat (as := [.int x1]) (v := (some (.int 1))) (h1 := zH0) f298_1 rfl zg198 rfl rfl rfl rfl rfl rfl hc1).trans ?_
                          refine (r_if_eq_f f298_4 (by decide)).trans ?_
                          refine (r_iloadn f298_7 rfl).trans ?_
                          refine (r_iconst (v := 0) f298_8 rfl).trans ?_
                          refine (r_iconst (v := 2) f298_9 rfl).trans ?_
                          have hc3 : arun X (n + 999993) (d + 19) zM196 0 [some (.int x2), some (.int 0), some (.int 2)] [] zH0 = some ((some (.int 1)), zH0) := by
                            refine (r_iloadn f196_0 rfl).trans ?_
                            refine (r_iloadn f196_1 rfl).trans ?_
                            refine (r_icmp_lt_f f196_2 ec2).trans ?_
                            refine (r_iloadn f196_5 rfl).trans ?_
                            refine (r_iloadn f196_6 rfl).trans ?_
                            refine (r_icmp_gt_f f196_7 ec3).trans ?_
                            refine (r_iconst (v := 1) f196_10 rfl).trans ?_
                            refine (r_goto f196_11).trans ?_
                            exact r_zreturn f196_15 rfl (by decide)
                          refine (r_stat (as := [.int x2, .int 0, .int 2]) (v := (some (.int 1))) (h1 := zH0) f298_10 rfl zg196 rfl rfl rfl rfl rfl rfl hc3).trans ?_
                          refine (r_if_eq_f f298_13 (by decide)).trans ?_
                          refine (r_iloadn f298_16 rfl).trans ?_
                          refine (r_iconst (v := 2) f298_17 rfl).trans ?_
                          refine (r_icmp_ne_f f298_18 ec4).trans ?_
                          refine (r_iloadn f298_21 rfl).trans ?_
                          refine (r_bipush (v := 100) f298_22 rfl).trans ?_
                          refine (r_sipush (v := 9949) f298_24 rfl).trans ?_
                          have hc4 : arun X (n + 999985) (d + 19) zM196 0 [some (.int x3), some (.int 100), some (.int 9949)] [] zH0 = some ((some (.int 0)), zH0) := by
                            refine (r_iloadn f196_0 rfl).trans ?_
                            refine (r_iloadn f196_1 rfl).trans ?_
                            refine (r_icmp_lt_f f196_2 em0).trans ?_
                            refine (r_iloadn f196_5 rfl).trans ?_
                            refine (r_iloadn f196_6 rfl).trans ?_
                            refine (r_icmp_gt_t f196_7 em1).trans ?_
                            refine (r_iconst (v := 0) f196_14 rfl).trans ?_
                            exact r_zreturn f196_15 rfl (by decide)
                          refine (r_stat (as := [.int x3, .int 100, .int 9949]) (v := (some (.int 0))) (h1 := zH0) f298_27 rfl zg196 rfl rfl rfl rfl rfl rfl hc4).trans ?_
                          refine (r_if_eq_t f298_30 (by decide)).trans ?_
                          refine (r_iconst (v := (-1)) f298_46 rfl).trans ?_
                          exact r_ireturn f298_47 rfl
                        · exact Nat.le_trans (Nat.le_of_eq zH0_len) (by decide)
                        · decide
                      ·
                        refine ⟨(-1), zH0, zH0, fun X n d => ?_, fun X n d => ?_, zh72, ?_, ?_⟩
                        ·
                          refine (r_iloadn f180_0 rfl).trans ?_
                          have hc1 : arun X (n + 999998) (d + 19) zM139 0 [some (.int x1)] [] zH0 = some ((some (.int 1)), zH0) := by
                            refine (r_iloadn f139_0 rfl).trans ?_
                            refine (r_iconst (v := 0) f139_1 rfl).trans ?_
                            refine (r_bipush (v := 9) f139_2 rfl).trans ?_
                            have hc2 : arun X (n + 999994) (d + 18) zM137 0 [some (.int x1), some (.int 0), some (.int 9)] [] zH0 = some ((some (.int 1)), zH0) := by
                              refine (r_iloadn f137_0 rfl).trans ?_
                              refine (r_iloadn f137_1 rfl).trans ?_
                              refine (r_icmp_gt_f f137_2 ec0).trans ?_
                              refine (r_iloadn f137_5 rfl).trans ?_
                              refine (r_iloadn f137_6 rfl).trans ?_
                              refine (r_icmp_gt_f f137_7 ec1).trans ?_
                              refine (r_iconst (v := 1) f137_10 rfl).trans ?_
                              refine (r_goto f137_11).trans ?_
                              exact r_zreturn f137_15 rfl (by decide)
                            refine (r_stat (as := [.int x1, .int 0, .int 9]) (v := (some (.int 1))) (h1 := zH0) f139_4 rfl zg137 rfl rfl rfl rfl rfl rfl hc2).trans ?_
                            exact r_zreturn f139_7 rfl (by decide)
                          refine (r_stat (as := [.int x1]) (v := (some (.int 1))) (h1 := zH0) f180_1 rfl zg139 rfl rfl rfl rfl rfl rfl hc1).trans ?_
                          refine (r_if_eq_f f180_4 (by decide)).trans ?_
                          refine (r_iloadn f180_7 rfl).trans ?_
                          refine (r_iconst (v := 0) f180_8 rfl).trans ?_
                          refine (r_iconst (v := 2) f180_9 rfl).trans ?_
                          have hc3 : arun X (n + 999993) (d + 19) zM137 0 [some (.int x2), some (.int 0), some (.int 2)] [] zH0 = some ((some (.int 1)), zH0) := by
                            refine (r_iloadn f137_0 rfl).trans ?_
                            refine (r_iloadn f137_1 rfl).trans ?_
                            refine (r_icmp_gt_f f137_2 ec2).trans ?_
                            refine (r_iloadn f137_5 rfl).trans ?_
                            refine (r_iloadn f137_6 rfl).trans ?_
                            refine (r_icmp_gt_f f137_7 ec3).trans ?_
                            refine (r_iconst (v := 1) f137_10 rfl).trans ?_
                            refine (r_goto f137_11).trans ?_
                            exact r_zreturn f137_15 rfl (by decide)
                          refine (r_stat (as := [.int x2, .int 0, .int 2]) (v := (some (.int 1))) (h1 := zH0) f180_10 rfl zg137 rfl rfl rfl rfl rfl rfl hc3).trans ?_
                          refine (r_if_ne_t f180_13 (by decide)).trans ?_
                          refine (r_iloadn f180_18 rfl).trans ?_
                          refine (r_iconst (v := 2) f180_19 rfl).trans ?_
                          refine (r_icmp_ne_f f180_20 ec4).trans ?_
                          refine (r_iloadn f180_23 rfl).trans ?_
                          refine (r_bipush (v := 100) f180_24 rfl).trans ?_
                          refine (r_idiv (v := (x3 / 100)) f180_26 (by decide) rfl).trans ?_
                          refine (r_iconst (v := 1) f180_27 rfl).trans ?_
                          refine (r_bipush (v := 99) f180_28 rfl).trans ?_
                          have hc4 : arun X (n + 999983) (d + 19) zM137 0 [some (.int (x3 / 100)), some (.int 1), some (.int 99)] [] zH0 = some ((some (.int 1)), zH0) := by
                            refine (r_iloadn f137_0 rfl).trans ?_
                            refine (r_iloadn f137_1 rfl).trans ?_
                            refine (r_icmp_gt_f f137_2 ec5).trans ?_
                            refine (r_iloadn f137_5 rfl).trans ?_
                            refine (r_iloadn f137_6 rfl).trans ?_
                            refine (r_icmp_gt_f f137_7 ec6).trans ?_
                            refine (r_iconst (v := 1) f137_10 rfl).trans ?_
                            refine (r_goto f137_11).trans ?_
                            exact r_zreturn f137_15 rfl (by decide)
                          refine (r_stat (as := [.int (x3 / 100), .int 1, .int 99]) (v := (some (.int 1))) (h1 := zH0) f180_30 rfl zg137 rfl rfl rfl rfl rfl rfl hc4).trans ?_
                          refine (r_if_eq_f f180_33 (by decide)).trans ?_
                          refine (r_iloadn f180_36 rfl).trans ?_
                          refine (r_bipush (v := 100) f180_37 rfl).trans ?_
                          refine (r_irem (v := (x3 - x3 / 100 * 100)) f180_39 (by decide) rfl).trans ?_
                          refine (r_iconst (v := 1) f180_40 rfl).trans ?_
                          refine (r_bipush (v := 49) f180_41 rfl).trans ?_
                          have hc5 : arun X (n + 999976) (d + 19) zM137 0 [some (.int (x3 - x3 / 100 * 100)), some (.int 1), some (.int 49)] [] zH0 = some ((some (.int 0)), zH0) := by
                            refine (r_iloadn f137_0 rfl).trans ?_
                            refine (r_iloadn f137_1 rfl).trans ?_
                            refine (r_icmp_gt_f f137_2 ec7).trans ?_
                            refine (r_iloadn f137_5 rfl).trans ?_
                            refine (r_iloadn f137_6 rfl).trans ?_
                            refine (r_icmp_gt_t f137_7 ec8).trans ?_
                            refine (r_iconst (v := 0) f137_14 rfl).trans ?_
                            exact r_zreturn f137_15 rfl (by decide)
                          refine (r_stat (as := [.int (x3 - x3 / 100 * 100), .int 1, .int 49]) (v := (some (.int 0))) (h1 := zH0) f180_43 rfl zg137 rfl rfl rfl rfl rfl rfl hc5).trans ?_
                          refine (r_if_ne_f f180_46 (by decide)).trans ?_
                          refine (r_iconst (v := (-1)) f180_49 rfl).trans ?_
                          exact r_ireturn f180_50 rfl
                        ·
                          refine (r_iloadn f298_0 rfl).trans ?_
                          have hc1 : arun X (n + 999998) (d + 19) zM198 0 [some (.int x1)] [] zH0 = some ((some (.int 1)), zH0) := by
                            refine (r_iloadn f198_0 rfl).trans ?_
                            refine (r_iconst (v := 0) f198_1 rfl).trans ?_
                            refine (r_bipush (v := 9) f198_2 rfl).trans ?_
                            have hc2 : arun X (n + 999994) (d + 18) zM196 0 [some (.int x1), some (.int 0), some (.int 9)] [] zH0 = some ((some (.int 1)), zH0) := by
                              refine (r_iloadn f196_0 rfl).trans ?_
                              refine (r_iloadn f196_1 rfl).trans ?_
                              refine (r_icmp_lt_f f196_2 ec0).trans ?_
                              refine (r_iloadn f196_5 rfl).trans ?_
                              refine (r_iloadn f196_6 rfl).trans ?_
                              refine (r_icmp_gt_f f196_7 ec1).trans ?_
                              refine (r_iconst (v := 1) f196_10 rfl).trans ?_
                              refine (r_goto f196_11).trans ?_
                              exact r_zreturn f196_15 rfl (by decide)
                            refine (r_stat (as := [.int x1, .int 0, .int 9]) (v := (some (.int 1))) (h1 := zH0) f198_4 rfl zg196 rfl rfl rfl rfl rfl rfl hc2).trans ?_
                            exact r_zreturn f198_7 rfl (by decide)
                          refine (r_stat (as := [.int x1]) (v := (some (.int 1))) (h1 := zH0) f298_1 rfl zg198 rfl rfl rfl rfl rfl rfl hc1).trans ?_
                          refine (r_if_eq_f f298_4 (by decide)).trans ?_
                          refine (r_iloadn f298_7 rfl).trans ?_
                          refine (r_iconst (v := 0) f298_8 rfl).trans ?_
                          refine (r_iconst (v := 2) f298_9 rfl).trans ?_
                          have hc3 : arun X (n + 999993) (d + 19) zM196 0 [some (.int x2), some (.int 0), some (.int 2)] [] zH0 = some ((some (.int 1)), zH0) := by
                            refine (r_iloadn f196_0 rfl).trans ?_
                            refine (r_iloadn f196_1 rfl).trans ?_
                            refine (r_icmp_lt_f f196_2 ec2).trans ?_
                            refine (r_iloadn f196_5 rfl).trans ?_
                            refine (r_iloadn f196_6 rfl).trans ?_
                            refine (r_icmp_gt_f f196_7 ec3).trans ?_
                            refine (r_iconst (v := 1) f196_10 rfl).trans ?_
                            refine (r_goto f196_11).trans ?_
                            exact r_zreturn f196_15 rfl (by decide)
                          refine (r_stat (as := [.int x2, .int 0, .int 2]) (v := (some (.int 1))) (h1 := zH0) f298_10 rfl zg196 rfl rfl rfl rfl rfl rfl hc3).trans ?_
                          refine (r_if_eq_f f298_13 (by decide)).trans ?_
                          refine (r_iloadn f298_16 rfl).trans ?_
                          refine (r_iconst (v := 2) f298_17 rfl).trans ?_
                          refine (r_icmp_ne_f f298_18 ec4).trans ?_
                          refine (r_iloadn f298_21 rfl).trans ?_
                          refine (r_bipush (v := 100) f298_22 rfl).trans ?_
                          refine (r_sipush (v := 9949) f298_24 rfl).trans ?_
                          have hc4 : arun X (n + 999985) (d + 19) zM196 0 [some (.int x3), some (.int 100), some (.int 9949)] [] zH0 = some ((some (.int 1)), zH0) := by
                            refine (r_iloadn f196_0 rfl).trans ?_
                            refine (r_iloadn f196_1 rfl).trans ?_
                            refine (r_icmp_lt_f f196_2 em0).trans ?_
                            refine (r_iloadn f196_5 rfl).trans ?_
                            refine (r_iloadn f196_6 rfl).trans ?_
                            refine (r_icmp_gt_f f196_7 em1).trans ?_
                            refine (r_iconst (v := 1) f196_10 rfl).trans ?_
                            refine (r_goto f196_11).trans ?_
                            exact r_zreturn f196_15 rfl (by decide)
                          refine (r_stat (as := [.int x3, .int 100, .int 9949]) (v := (some (.int 1))) (h1 := zH0) f298_27 rfl zg196 rfl rfl rfl rfl rfl rfl hc4).trans ?_
                          refine (r_if_eq_f f298_30 (by decide)).trans ?_
                          refine (r_iloadn f298_33 rfl).trans ?_
                          refine (r_bipush (v := 100) f298_34 rfl).trans ?_
                          refine (r_irem (v := (x3 - x3 / 100 * 100)) f298_36 (by decide) rfl).trans ?_
                          refine (r_iconst (v := 1) f298_37 rfl).trans ?_
                          refine (r_bipush (v := 49) f298_38 rfl).trans ?_
                          have hc5 : arun X (n + 999978) (d + 19) zM196 0 [some (.int (x3 - x3 / 100 * 100)), some (.int 1), some (.int 49)] [] zH0 = some ((some (.int 0)), zH0) := by
                            refine (r_iloadn f196_0 rfl).trans ?_
                            refine (r_iloadn f196_1 rfl).trans ?_
                            refine (r_icmp_lt_f f196_2 ec7).trans ?_
                            refine (r_iloadn f196_5 rfl).trans ?_
                            refine (r_iloadn f196_6 rfl).trans ?_
                            refine (r_icmp_gt_t f196_7 ec8).trans ?_
                            refine (r_iconst (v := 0) f196_14 rfl).trans ?_
                            exact r_zreturn f196_15 rfl (by decide)
                          refine (r_stat (as := [.int (x3 - x3 / 100 * 100), .int 1, .int 49]) (v := (some (.int 0))) (h1 := zH0) f298_40 rfl zg196 rfl rfl rfl rfl rfl rfl hc5).trans ?_
                          refine (r_if_ne_f f298_43 (by decide)).trans ?_
                          refine (r_iconst (v := (-1)) f298_46 rfl).trans ?_
                          exact r_ireturn f298_47 rfl
                        · exact Nat.le_trans (Nat.le_of_eq zH0_len) (by decide)
                        · decide
                  ·
                    have ec9 : ¬ x2 = 0 := (by
                      have az3 := az_e (x := x3)
                      have l0 : (0 : Int32).toInt = 0 := by decide
                      have l1 : (1 : Int32).toInt = 1 := by decide
                      have l2 : (2 : Int32).toInt = 2 := by decide
                      have l3 : (9 : Int32).toInt = 9 := by decide
                      have l4 : (49 : Int32).toInt = 49 := by decide
                      have l5 : (99 : Int32).toInt = 99 := by decide
                      have l6 : (100 : Int32).toInt = 100 := by decide
                      simp only [Int32.lt_iff_toInt_lt, Int32.le_iff_toInt_le, ← Int32.toInt_inj] at *
                      omega)
                    have ec10 : ¬ x2 = 1 := (by
                      have az3 := az_e (x := x3)
                      have l0 : (0 : Int32).toInt = 0 := by decide
                      have l1 : (1 : Int32).toInt = 1 := by decide
                      have l2 : (2 : Int32).toInt = 2 := by decide
                      have l3 : (9 : Int32).toInt = 9 := by decide
                      have l4 : (49 : Int32).toInt = 49 := by decide
                      have l5 : (99 : Int32).toInt = 99 := by decide
                      have l6 : (100 : Int32).toInt = 100 := by decide
                      simp only [Int32.lt_iff_toInt_lt, Int32.le_iff_toInt_le, ← Int32.toInt_inj] at *
                      omega)
                    by_cases ec11 : 0 ≤ (lg_cmp 100 (((x3 - x3 / 100 * 100)).toInt64 * 1))
                    ·
                      have jc0 : ¬ (x1 < 0 ∨ 10 ≤ Int32.toNatClampNeg x1) := vp_in_iff.mpr (by
                        have az3 := az_e (x := x3)
                        have l0 : (0 : Int32).toInt = 0 := by decide
                        have l1 : (1 : Int32).toInt = 1 := by decide
                        have l2 : (2 : Int32).toInt = 2 := by decide
                        have l3 : (9 : Int32).toInt = 9 := by decide
                        have l4 : (49 : Int32).toInt = 49 := by decide
                        have l5 : (99 : Int32).toInt = 99 := by decide
                        have l6 : (100 : Int32).toInt = 100 := by decide
                        simp only [Int32.lt_iff_toInt_lt, Int32.le_iff_toInt_le, ← Int32.toInt_inj] at *
                        omega)
                      obtain ⟨y175, e_175, l_175, u_175, r_175⟩ := season_fresh (x1 := x1) jc0
                      by_cases em0 : x3 < 100
                      ·
                        exfalso
                        exact (by
                          have az3 := az_e (x := x3)
                          have l0 : (0 : Int32).toInt = 0 := by decide
                          have l1 : (1 : Int32).toInt = 1 := by decide
                          have l2 : (2 : Int32).toInt = 2 := by decide
                          have l3 : (9 : Int32).toInt = 9 := by decide
                          have l4 : (49 : Int32).toInt = 49 := by decide
                          have l5 : (99 : Int32).toInt = 99 := by decide
                          have l6 : (100 : Int32).toInt = 100 := by decide
                          simp only [Int32.lt_iff_toInt_lt, Int32.le_iff_toInt_le, ← Int32.toInt_inj] at *
                          omega)
                      ·
                        by_cases em1 : 9949 < x3
                        ·
                          exfalso
                          exact (by
                            have az3 := az_e (x := x3)
                            have l0 : (0 : Int32).toInt = 0 := by decide
                            have l1 : (1 : Int32).toInt = 1 := by decide
                            have l2 : (2 : Int32).toInt = 2 := by decide
                            have l3 : (9 : Int32).toInt = 9 := by decide
                            have l4 : (49 : Int32).toInt = 49 := by decide
                            have l5 : (99 : Int32).toInt = 99 := by decide
                            have l6 : (100 : Int32).toInt = 100 := by decide
                            have l7 : (9949 : Int32).toInt = 9949 := by decide
                            simp only [Int32.lt_iff_toInt_lt, Int32.le_iff_toInt_le, ← Int32.toInt_inj] at *
                            omega)
                        ·
                          have em2 : 2 ≤ x2 := (by
                            have az3 := az_e (x := x3)
                            have l0 : (0 : Int32).toInt = 0 := by decide
                            have l1 : (1 : Int32).toInt = 1 := by decide
                            have l2 : (2 : Int32).toInt = 2 := by decide
                            have l3 : (9 : Int32).toInt = 9 := by decide
                            have l4 : (49 : Int32).toInt = 49 := by decide
                            have l5 : (99 : Int32).toInt = 99 := by decide
                            have l6 : (100 : Int32).toInt = 100 := by decide
                            have l7 : (9949 : Int32).toInt = 9949 := by decide
                            simp only [Int32.lt_iff_toInt_lt, Int32.le_iff_toInt_le, ← Int32.toInt_inj] at *
                            omega)
                          obtain ⟨y183, e_183, l_183, u_183, r_183, q_183⟩ := reckon_fresh (h := ((y175.1.set 48 (.inr (5, [.ref 1, .ref 16, .ref 41, .ref 49, .int 0, .ref 50, .ref 51, .int 0, .ref 52, .int 0, .ref 53, .ref 54, .int 0, .int 0, .int 0, .int 0, .int 0]))), y175.2)) (gs_ne (r_175 72 _ (by decide) (by decide) zh72) (by decide)) (gs_ne (r_175 107 _ (by decide) (by decide) zh107) (by decide)) (gs_ne (r_175 108 _ (by decide) (by decide) zh108) (by decide)) (gs_ne (r_175 109 _ (by decide) (by decide) zh109) (by decide))
                          refine ⟨0, ((y175.1.set 48 (.inr (5, [.ref 1, .ref 16, .ref 41, .ref 49, .int 0, .ref 50, .ref 51, .int 0, .ref 52, .int 0, .ref 53, .ref 54, .int 0, .int 0, .int 0, .int 0, .int 0]))), y175.2), y183, fun X n d => ?_, fun X n d => ?_, (gs_ne (r_175 72 _ (by decide) (by decide) zh72) (by decide)), ?_, ?_⟩
                          ·
                            refine (r_iloadn f180_0 rfl).trans ?_
                            have hc1 : arun X (n + 999998) (d + 19) zM139 0 [some (.int x1)] [] zH0 = some ((some (.int 1)), zH0) := by
                              refine (r_iloadn f139_0 rfl).trans ?_
                              refine (r_iconst (v := 0) f139_1 rfl).trans ?_
                              refine (r_bipush (v := 9) f139_2 rfl).trans ?_
                              have hc2 : arun X (n + 999994) (d + 18) zM137 0 [some (.int x1), some (.int 0), some (.int 9)] [] zH0 = some ((some (.int 1)), zH0) := by
                                refine (r_iloadn f137_0 rfl).trans ?_
                                refine (r_iloadn f137_1 rfl).trans ?_
                                refine (r_icmp_gt_f f137_2 ec0).trans ?_
                                refine (r_iloadn f137_5 rfl).trans ?_
                                refine (r_iloadn f137_6 rfl).trans ?_
                                refine (r_icmp_gt_f f137_7 ec1).trans ?_
                                refine (r_iconst (v := 1) f137_10 rfl).trans ?_
                                refine (r_goto f137_11).trans ?_
                                exact r_zreturn f137_15 rfl (by decide)
                              refine (r_stat (as := [.int x1, .int 0, .int 9]) (v := (some (.int 1))) (h1 := zH0) f139_4 rfl zg137 rfl rfl rfl rfl rfl rfl hc2).trans ?_
                              exact r_zreturn f139_7 rfl (by decide)
                            refine (r_stat (as := [.int x1]) (v := (some (.int 1))) (h1 := zH0) f180_1 rfl zg139 rfl rfl rfl rfl rfl rfl hc1).trans ?_
                            refine (r_if_eq_f f180_4 (by decide)).trans ?_
                            refine (r_iloadn f180_7 rfl).trans ?_
                            refine (r_iconst (v := 0) f180_8 rfl).trans ?_
                            refine (r_iconst (v := 2) f180_9 rfl).trans ?_
                            have hc3 : arun X (n + 999993) (d + 19) zM137 0 [some (.int x2), some (.int 0), some (.int 2)] [] zH0 = some ((some (.int 1)), zH0) := by
                              refine (r_iloadn f137_0 rfl).trans ?_
                              refine (r_iloadn f137_1 rfl).trans ?_
                              refine (r_icmp_gt_f f137_2 ec2).trans ?_
                              refine (r_iloadn f137_5 rfl).trans ?_
                              refine (r_iloadn f137_6 rfl).trans ?_
                              refine (r_icmp_gt_f f137_7 ec3).trans ?_
                              refine (r_iconst (v := 1) f137_10 rfl).trans ?_
                              refine (r_goto f137_11).trans ?_
                              exact r_zreturn f137_15 rfl (by decide)
                            refine (r_stat (as := [.int x2, .int 0, .int 2]) (v := (some (.int 1))) (h1 := zH0) f180_10 rfl zg137 rfl rfl rfl rfl rfl rfl hc3).trans ?_
                            refine (r_if_ne_t f180_13 (by decide)).trans ?_
                            refine (r_iloadn f180_18 rfl).trans ?_
                            refine (r_iconst (v := 2) f180_19 rfl).trans ?_
                            refine (r_icmp_ne_f f180_20 ec4).trans ?_
                            refine (r_iloadn f180_23 rfl).trans ?_
                            refine (r_bipush (v := 100) f180_24 rfl).trans ?_
                            refine (r_idiv (v := (x3 / 100)) f180_26 (by decide) rfl).trans ?_
                            refine (r_iconst (v := 1) f180_27 rfl).trans ?_
                            refine (r_bipush (v := 99) f180_28 rfl).trans ?_
                            have hc4 : arun X (n + 999983) (d + 19) zM137 0 [some (.int (x3 / 100)), some (.int 1), some (.int 99)] [] zH0 = some ((some (.int 1)), zH0) := by
                              refine (r_iloadn f137_0 rfl).trans ?_
                              refine (r_iloadn f137_1 rfl).trans ?_
                              refine (r_icmp_gt_f f137_2 ec5).trans ?_
                              refine (r_iloadn f137_5 rfl).trans ?_
                              refine (r_iloadn f137_6 rfl).trans ?_
                              refine (r_icmp_gt_f f137_7 ec6).trans ?_
                              refine (r_iconst (v := 1) f137_10 rfl).trans ?_
                              refine (r_goto f137_11).trans ?_
                              exact r_zreturn f137_15 rfl (by decide)
                            refine (r_stat (as := [.int (x3 / 100), .int 1, .int 99]) (v := (some (.int 1))) (h1 := zH0) f180_30 rfl zg137 rfl rfl rfl rfl rfl rfl hc4).trans ?_
                            refine (r_if_eq_f f180_33 (by decide)).trans ?_
                            refine (r_iloadn f180_36 rfl).trans ?_
                            refine (r_bipush (v := 100) f180_37 rfl).trans ?_
                            refine (r_irem (v := (x3 - x3 / 100 * 100)) f180_39 (by decide) rfl).trans ?_
                            refine (r_iconst (v := 1) f180_40 rfl).trans ?_
                            refine (r_bipush (v := 49) f180_41 rfl).trans ?_
                            have hc5 : arun X (n + 999976) (d + 19) zM137 0 [some (.int (x3 - x3 / 100 * 100)), some (.int 1), some (.int 49)] [] zH0 = some ((some (.int 1)), zH0) := by
                              refine (r_iloadn f137_0 rfl).trans ?_
                              refine (r_iloadn f137_1 rfl).trans ?_
                              refine (r_icmp_gt_f f137_2 ec7).trans ?_
                              refine (r_iloadn f137_5 rfl).trans ?_
                              refine (r_iloadn f137_6 rfl).trans ?_
                              refine (r_icmp_gt_f f137_7 ec8).trans ?_
                              refine (r_iconst (v := 1) f137_10 rfl).trans ?_
                              refine (r_goto f137_11).trans ?_
                              exact r_zreturn f137_15 rfl (by decide)
                            refine (r_stat (as := [.int (x3 - x3 / 100 * 100), .int 1, .int 49]) (v := (some (.int 1))) (h1 := zH0) f180_43 rfl zg137 rfl rfl rfl rfl rfl rfl hc5).trans ?_
                            refine (r_if_ne_t f180_46 (by decide)).trans ?_
                            refine (r_aloadn f180_51 rfl).trans ?_
                            refine (r_get (v := .ref 48) f180_52 zh0 rfl).trans ?_
                            refine (r_iloadn f180_55 rfl).trans ?_
                            have hc6 : arun X (n + 999971) (d + 19) zM66 0 [some (.ref 48), some (.int x1), none, none] [] zH0 = some (none, ((y175.1.set 48 (.inr (5, [.ref 1, .ref 16, .ref 41, .ref 49, .int 0, .ref 50, .ref 51, .int 0, .ref 52, .int 0, .ref 53, .ref 54, .int 0, .int 0, .int 0, .int 0, .int 0]))), y175.2)) := by
                              refine (r_aloadn f66_0 rfl).trans ?_
                              refine (r_get (v := .ref 41) f66_1 zh48 rfl).trans ?_
                              refine (r_iloadn f66_4 rfl).trans ?_
                              refine (r_aloadn f66_5 rfl).trans ?_
                              refine (r_get (v := .ref 1) f66_6 zh48 rfl).trans ?_
                              refine (r_get (v := .int 0) f66_9 zh1 rfl).trans ?_
                              refine (r_virt (as := [.int x1, .int 0]) (v := (some (.ref 146))) (h1 := y175) f66_12 zh41 zg1 rfl rfl rfl rfl rfl rfl (e_175 X (n + 993964) (d + 8))).trans ?_
                              refine (r_astoren (L' := [some (.ref 48), some (.int x1), some (.ref 146), none]) f66_15 rfl rfl).trans ?_
                              refine (r_aloadn f66_16 rfl).trans ?_
                              refine (r_iconst (v := 0) f66_17 rfl).trans ?_
                              refine (r_put (h' := ((y175.1.set 48 (.inr (5, [.ref 1, .ref 16, .ref 41, .ref 49, .int 0, .ref 50, .ref 51, .int 0, .ref 52, .int 0, .ref 53, .ref 54, .int 0, .int 0, .int 0, .int 0, .int 0]))), y175.2)) f66_18 (r_175 48 _ (by decide) (by decide) zh48) rfl rfl).trans ?_
                              refine (r_aloadn f66_21 rfl).trans ?_
                              refine (r_iconst (v := 0) f66_22 rfl).trans ?_
                              refine (r_put (h' := ((y175.1.set 48 (.inr (5, [.ref 1, .ref 16, .ref 41, .ref 49, .int 0, .ref 50, .ref 51, .int 0, .ref 52, .int 0, .ref 53, .ref 54, .int 0, .int 0, .int 0, .int 0, .int 0]))), y175.2)) f66_23 (gs_eq (r_175 48 _ (by decide) (by decide) zh48)) rfl hss).trans ?_
                              refine (r_iconst (v := 0) f66_26 rfl).trans ?_
                              refine (r_istoren (L' := [some (.ref 48), some (.int x1), some (.ref 146), some (.int 0)]) f66_27 rfl rfl).trans ?_
                              refine (r_iloadn f66_28 rfl).trans ?_
                              refine (r_aloadn f66_29 rfl).trans ?_
                              refine (r_get (v := .ref 1) f66_30 (gs_eq (r_175 48 _ (by decide) (by decide) zh48)) rfl).trans ?_
                              refine (r_get (v := .int 0) f66_33 (gs_ne (r_175 1 _ (by decide) (by decide) zh1) (by decide)) rfl).trans ?_
                              refine (r_icmp_ge_t f66_36 (by decide)).trans ?_
                              refine (r_aloadn f66_126 rfl).trans ?_
                              refine (r_get (v := .int 0) f66_127 (gs_eq (r_175 48 _ (by decide) (by decide) zh48)) rfl).trans ?_
                              refine (r_if_ne_f f66_130 (by decide)).trans ?_
                              refine (r_aloadn f66_133 rfl).trans ?_
                              refine (r_iconst (v := 0) f66_134 rfl).trans ?_
                              refine (r_put (h' := ((y175.1.set 48 (.inr (5, [.ref 1, .ref 16, .ref 41, .ref 49, .int 0, .ref 50, .ref 51, .int 0, .ref 52, .int 0, .ref 53, .ref 54, .int 0, .int 0, .int 0, .int 0, .int 0]))), y175.2)) f66_135 (gs_eq (r_175 48 _ (by decide) (by decide) zh48)) rfl hss).trans ?_
                              refine (r_aloadn f66_138 rfl).trans ?_
                              refine (r_iconst (v := 0) f66_139 rfl).trans ?_
                              refine (r_put (h' := ((y175.1.set 48 (.inr (5, [.ref 1, .ref 16, .ref 41, .ref 49, .int 0, .ref 50, .ref 51, .int 0, .ref 52, .int 0, .ref 53, .ref 54, .int 0, .int 0, .int 0, .int 0, .int 0]))), y175.2)) f66_140 (gs_eq (r_175 48 _ (by decide) (by decide) zh48)) rfl hss).trans ?_
                              exact r_vreturn f66_143 rfl
                            refine (r_virt (as := [.int x1]) (v := none) (h1 := ((y175.1.set 48 (.inr (5, [.ref 1, .ref 16, .ref 41, .ref 49, .int 0, .ref 50, .ref 51, .int 0, .ref 52, .int 0, .ref 53, .ref 54, .int 0, .int 0, .int 0, .int 0, .int 0]))), y175.2)) f180_56 zh48 zg66 rfl rfl rfl rfl rfl rfl hc6).trans ?_
                            refine (r_iloadn f180_59 rfl).trans ?_
                            refine (r_lsw f180_60).trans ?_
                            refine (alw_f ec9).trans ?_
                            refine (alw_f ec10).trans ?_
                            refine (alw_d).trans ?_
                            refine (r_aloadn f180_104 rfl).trans ?_
                            refine (r_get (v := .ref 48) f180_105 (gs_ne (r_175 0 _ (by decide) (by decide) zh0) (by decide)) rfl).trans ?_
                            refine (r_iloadn f180_108 rfl).trans ?_
                            refine (r_bipush (v := 100) f180_109 rfl).trans ?_
                            refine (r_idiv (v := (x3 / 100)) f180_111 (by decide) rfl).trans ?_
                            refine (r_iloadn f180_112 rfl).trans ?_
                            refine (r_bipush (v := 100) f180_113 rfl).trans ?_
                            refine (r_irem (v := (x3 - x3 / 100 * 100)) f180_115 (by decide) rfl).trans ?_
                            have hc7 : arun X (n + 999960) (d + 19) zM67 0 [some (.ref 48), some (.int (x3 / 100)), some (.int (x3 - x3 / 100 * 100)), none, none] [] ((y175.1.set 48 (.inr (5, [.ref 1, .ref 16, .ref 41, .ref 49, .int 0, .ref 50, .ref 51, .int 0, .ref 52, .int 0, .ref 53, .ref 54, .int 0, .int 0, .int 0, .int 0, .int 0]))), y175.2) = some ((some (.int 0)), ((y175.1.set 48 (.inr (5, [.ref 1, .ref 16, .ref 41, .ref 49, .int 0, .ref 50, .ref 51, .int 0, .ref 52, .int 0, .ref 53, .ref 54, .int 0, .int 0, .int 0, .int 0, .int 0]))), y175.2)) := by
                              refine (r_iloadn f67_0 rfl).trans ?_
                              refine (r_i2l (v := ((x3 - x3 / 100 * 100)).toInt64) f67_1 rfl).trans ?_
                              refine (r_ldc2 (v := 100) f67_2 (by decide)).trans ?_
                              refine (r_aloadn f67_5 rfl).trans ?_
                              refine (r_get (v := .int 0) f67_6 (gs_eq (r_175 48 _ (by decide) (by decide) zh48)) rfl).trans ?_
                              have hc8 : arun X (n + 999954) (d + 18) zM69 0 [some (.long 100), none, some (.int 0), none, none, none] [] ((y175.1.set 48 (.inr (5, [.ref 1, .ref 16, .ref 41, .ref 49, .int 0, .ref 50, .ref 51, .int 0, .ref 52, .int 0, .ref 53, .ref 54, .int 0, .int 0, .int 0, .int 0, .int 0]))), y175.2) = some ((some (.long 1)), ((y175.1.set 48 (.inr (5, [.ref 1, .ref 16, .ref 41, .ref 49, .int 0, .ref 50, .ref 51, .int 0, .ref 52, .int 0, .ref 53, .ref 54, .int 0, .int 0, .int 0, .int 0, .int 0]))), y175.2)) := by
                                refine (r_lconst (v := 1) f69_0 rfl).trans ?_
                                refine (r_lstoren (L' := [some (.long 100), none, some (.int 0), some (.long 1), none, none]) f69_1 rfl rfl).trans ?_
                                refine (r_iconst (v := 0) f69_2 rfl).trans ?_
                                refine (r_istore (L' := [some (.long 100), none, some (.int 0), some (.long 1), none, some (.int 0)]) f69_3 rfl rfl).trans ?_
                                refine (r_iload f69_5 rfl).trans ?_
                                refine (r_iloadn f69_7 rfl).trans ?_
                                refine (r_icmp_ge_t f69_8 (by decide)).trans ?_
                                refine (r_lloadn f69_21 rfl).trans ?_
                                exact r_lreturn f69_22 rfl
                              refine (r_stat (as := [.long 100, .int 0]) (v := (some (.long 1))) (h1 := ((y175.1.set 48 (.inr (5, [.ref 1, .ref 16, .ref 41, .ref 49, .int 0, .ref 50, .ref 51, .int 0, .ref 52, .int 0, .ref 53, .ref 54, .int 0, .int 0, .int 0, .int 0, .int 0]))), y175.2)) f67_9 rfl zg69 rfl rfl rfl rfl rfl rfl hc8).trans ?_
                              refine (r_lmul (v := (((x3 - x3 / 100 * 100)).toInt64 * 1)) f67_12 rfl).trans ?_
                              refine (r_lstoren (L' := [some (.ref 48), some (.int (x3 / 100)), some (.int (x3 - x3 / 100 * 100)), some (.long (((x3 - x3 / 100 * 100)).toInt64 * 1)), none]) f67_13 rfl rfl).trans ?_
                              refine (r_ldc2 (v := 100) f67_14 (by decide)).trans ?_
                              refine (r_aloadn f67_17 rfl).trans ?_
                              refine (r_aloadn f67_18 rfl).trans ?_
                              refine (r_get (v := .int 0) f67_19 (gs_eq (r_175 48 _ (by decide) (by decide) zh48)) rfl).trans ?_
                              refine (r_aloadn f67_22 rfl).trans ?_
                              refine (r_get (v := .int 0) f67_23 (gs_eq (r_175 48 _ (by decide) (by decide) zh48)) rfl).trans ?_
                              refine (r_iloadn f67_26 rfl).trans ?_
                              have hc9 : arun X (n + 999944) (d + 18) zM68 0 [some (.ref 48), some (.int 0), some (.int 0), some (.int (x3 / 100)), none, none, none, none, none] [] ((y175.1.set 48 (.inr (5, [.ref 1, .ref 16, .ref 41, .ref 49, .int 0, .ref 50, .ref 51, .int 0, .ref 52, .int 0, .ref 53, .ref 54, .int 0, .int 0, .int 0, .int 0, .int 0]))), y175.2) = some ((some (.long 1)), ((y175.1.set 48 (.inr (5, [.ref 1, .ref 16, .ref 41, .ref 49, .int 0, .ref 50, .ref 51, .int 0, .ref 52, .int 0, .ref 53, .ref 54, .int 0, .int 0, .int 0, .int 0, .int 0]))), y175.2)) := by
                                refine (r_lconst (v := 0) f68_0 rfl).trans ?_
                                refine (r_lstore (L' := [some (.ref 48), some (.int 0), some (.int 0), some (.int (x3 / 100)), some (.long 0), none, none, none, none]) f68_1 rfl rfl).trans ?_
                                refine (r_lconst (v := 1) f68_3 rfl).trans ?_
                                refine (r_lstore (L' := [some (.ref 48), some (.int 0), some (.int 0), some (.int (x3 / 100)), some (.long 0), none, some (.long 1), none, none]) f68_4 rfl rfl).trans ?_
                                refine (r_iconst (v := 0) f68_6 rfl).trans ?_
                                refine (r_istore (L' := [some (.ref 48), some (.int 0), some (.int 0), some (.int (x3 / 100)), some (.long 0), none, some (.long 1), none, some (.int 0)]) f68_7 rfl rfl).trans ?_
                                refine (r_iload f68_9 rfl).trans ?_
                                refine (r_aloadn f68_11 rfl).trans ?_
                                refine (r_get (v := .int 0) f68_12 (gs_eq (r_175 48 _ (by decide) (by decide) zh48)) rfl).trans ?_
                                refine (r_icmp_gt_f f68_15 (by decide)).trans ?_
                                refine (r_iload f68_18 rfl).trans ?_
                                refine (r_iloadn f68_20 rfl).trans ?_
                                refine (r_iloadn f68_21 rfl).trans ?_
                                have hc10 : arun X (n + 999930) (d + 17) zM137 0 [some (.int 0), some (.int 0), some (.int 0)] [] ((y175.1.set 48 (.inr (5, [.ref 1, .ref 16, .ref 41, .ref 49, .int 0, .ref 50, .ref 51, .int 0, .ref 52, .int 0, .ref 53, .ref 54, .int 0, .int 0, .int 0, .int 0, .int 0]))), y175.2) = some ((some (.int 1)), ((y175.1.set 48 (.inr (5, [.ref 1, .ref 16, .ref 41, .ref 49, .int 0, .ref 50, .ref 51, .int 0, .ref 52, .int 0, .ref 53, .ref 54, .int 0, .int 0, .int 0, .int 0, .int 0]))), y175.2)) := by
                                  refine (r_iloadn f137_0 rfl).trans ?_
                                  refine (r_iloadn f137_1 rfl).trans ?_
                                  refine (r_icmp_gt_f f137_2 (by decide)).trans ?_
                                  refine (r_iloadn f137_5 rfl).trans ?_
                                  refine (r_iloadn f137_6 rfl).trans ?_
                                  refine (r_icmp_gt_f f137_7 (by decide)).trans ?_
                                  refine (r_iconst (v := 1) f137_10 rfl).trans ?_
                                  refine (r_goto f137_11).trans ?_
                                  exact r_zreturn f137_15 rfl (by decide)
                                refine (r_stat (as := [.int 0, .int 0, .int 0]) (v := (some (.int 1))) (h1 := ((y175.1.set 48 (.inr (5, [.ref 1, .ref 16, .ref 41, .ref 49, .int 0, .ref 50, .ref 51, .int 0, .ref 52, .int 0, .ref 53, .ref 54, .int 0, .int 0, .int 0, .int 0, .int 0]))), y175.2)) f68_22 rfl zg137 rfl rfl rfl rfl rfl rfl hc10).trans ?_
                                refine (r_if_eq_f f68_25 (by decide)).trans ?_
                                refine (r_lload f68_28 rfl).trans ?_
                                refine (r_lload f68_30 rfl).trans ?_
                                refine (r_iloadn f68_32 rfl).trans ?_
                                refine (r_i2l (v := ((x3 / 100)).toInt64) f68_33 rfl).trans ?_
                                refine (r_iload f68_34 rfl).trans ?_
                                have hc11 : arun X (n + 999923) (d + 17) zM69 0 [some (.long ((x3 / 100)).toInt64), none, some (.int 0), none, none, none] [] ((y175.1.set 48 (.inr (5, [.ref 1, .ref 16, .ref 41, .ref 49, .int 0, .ref 50, .ref 51, .int 0, .ref 52, .int 0, .ref 53, .ref 54, .int 0, .int 0, .int 0, .int 0, .int 0]))), y175.2) = some ((some (.long 1)), ((y175.1.set 48 (.inr (5, [.ref 1, .ref 16, .ref 41, .ref 49, .int 0, .ref 50, .ref 51, .int 0, .ref 52, .int 0, .ref 53, .ref 54, .int 0, .int 0, .int 0, .int 0, .int 0]))), y175.2)) := by
                                  refine (r_lconst (v := 1) f69_0 rfl).trans ?_
                                  refine (r_lstoren (L' := [some (.long ((x3 / 100)).toInt64), none, some (.int 0), some (.long 1), none, none]) f69_1 rfl rfl).trans ?_
                                  refine (r_iconst (v := 0) f69_2 rfl).trans ?_
                                  refine (r_istore (L' := [some (.long ((x3 / 100)).toInt64), none, some (.int 0), some (.long 1), none, some (.int 0)]) f69_3 rfl rfl).trans ?_
                                  refine (r_iload f69_5 rfl).trans ?_
                                  refine (r_iloadn f69_7 rfl).trans ?_
                                  refine (r_icmp_ge_t f69_8 (by decide)).trans ?_
                                  refine (r_lloadn f69_21 rfl).trans ?_
                                  exact r_lreturn f69_22 rfl
                                refine (r_stat (as := [.long ((x3 / 100)).toInt64, .int 0]) (v := (some (.long 1))) (h1 := ((y175.1.set 48 (.inr (5, [.ref 1, .ref 16, .ref 41, .ref 49, .int 0, .ref 50, .ref 51, .int 0, .ref 52, .int 0, .ref 53, .ref 54, .int 0, .int 0, .int 0, .int 0, .int 0]))), y175.2)) f68_36 rfl zg69 rfl rfl rfl rfl rfl rfl hc11).trans ?_
                                refine (r_lmul (v := 1) f68_39 (by decide)).trans ?_
                                refine (r_bipush (v := 100) f68_40 rfl).trans ?_
                                refine (r_iloadn f68_42 rfl).trans ?_
                                refine (r_isub (v := (100 - (x3 / 100))) f68_43 rfl).trans ?_
                                refine (r_i2l (v := ((100 - (x3 / 100))).toInt64) f68_44 rfl).trans ?_
                                refine (r_aloadn f68_45 rfl).trans ?_
                                refine (r_get (v := .int 0) f68_46 (gs_eq (r_175 48 _ (by decide) (by decide) zh48)) rfl).trans ?_
                                refine (r_iload f68_49 rfl).trans ?_
                                refine (r_isub (v := 0) f68_51 (by decide)).trans ?_
                                have hc12 : arun X (n + 999913) (d + 17) zM69 0 [some (.long ((100 - (x3 / 100))).toInt64), none, some (.int 0), none, none, none] [] ((y175.1.set 48 (.inr (5, [.ref 1, .ref 16, .ref 41, .ref 49, .int 0, .ref 50, .ref 51, .int 0, .ref 52, .int 0, .ref 53, .ref 54, .int 0, .int 0, .int 0, .int 0, .int 0]))), y175.2) = some ((some (.long 1)), ((y175.1.set 48 (.inr (5, [.ref 1, .ref 16, .ref 41, .ref 49, .int 0, .ref 50, .ref 51, .int 0, .ref 52, .int 0, .ref 53, .ref 54, .int 0, .int 0, .int 0, .int 0, .int 0]))), y175.2)) := by
                                  refine (r_lconst (v := 1) f69_0 rfl).trans ?_
                                  refine (r_lstoren (L' := [some (.long ((100 - (x3 / 100))).toInt64), none, some (.int 0), some (.long 1), none, none]) f69_1 rfl rfl).trans ?_
                                  refine (r_iconst (v := 0) f69_2 rfl).trans ?_
                                  refine (r_istore (L' := [some (.long ((100 - (x3 / 100))).toInt64), none, some (.int 0), some (.long 1), none, some (.int 0)]) f69_3 rfl rfl).trans ?_
                                  refine (r_iload f69_5 rfl).trans ?_
                                  refine (r_iloadn f69_7 rfl).trans ?_
                                  refine (r_icmp_ge_t f69_8 (by decide)).trans ?_
                                  refine (r_lloadn f69_21 rfl).trans ?_
                                  exact r_lreturn f69_22 rfl
                                refine (r_stat (as := [.long ((100 - (x3 / 100))).toInt64, .int 0]) (v := (some (.long 1))) (h1 := ((y175.1.set 48 (.inr (5, [.ref 1, .ref 16, .ref 41, .ref 49, .int 0, .ref 50, .ref 51, .int 0, .ref 52, .int 0, .ref 53, .ref 54, .int 0, .int 0, .int 0, .int 0, .int 0]))), y175.2)) f68_52 rfl zg69 rfl rfl rfl rfl rfl rfl hc12).trans ?_
                                refine (r_lmul (v := 1) f68_55 (by decide)).trans ?_
                                refine (r_ladd (v := 1) f68_56 (by decide)).trans ?_
                                refine (r_lstore (L' := [some (.ref 48), some (.int 0), some (.int 0), some (.int (x3 / 100)), some (.long 1), none, some (.long 1), none, some (.int 0)]) f68_57 rfl rfl).trans ?_
                                refine (r_lload f68_59 rfl).trans ?_
                                refine (r_aloadn f68_61 rfl).trans ?_
                                refine (r_get (v := .int 0) f68_62 (gs_eq (r_175 48 _ (by decide) (by decide) zh48)) rfl).trans ?_
                                refine (r_iload f68_65 rfl).trans ?_
                                refine (r_isub (v := 0) f68_67 (by decide)).trans ?_
                                refine (r_i2l (v := 0) f68_68 (by decide)).trans ?_
                                refine (r_lmul (v := 0) f68_69 (by decide)).trans ?_
                                refine (r_iload f68_70 rfl).trans ?_
                                refine (r_iconst (v := 1) f68_72 rfl).trans ?_
                                refine (r_iadd (v := 1) f68_73 (by decide)).trans ?_
                                refine (r_i2l (v := 1) f68_74 (by decide)).trans ?_
                                refine (r_ldiv (v := 0) f68_75 (by decide) (by decide)).trans ?_
                                refine (r_lstore (L' := [some (.ref 48), some (.int 0), some (.int 0), some (.int (x3 / 100)), some (.long 1), none, some (.long 0), none, some (.int 0)]) f68_76 rfl rfl).trans ?_
                                refine (r_iinc (v := 1) (L' := [some (.ref 48), some (.int 0), some (.int 0), some (.int (x3 / 100)), some (.long 1), none, some (.long 0), none, some (.int 1)]) f68_78 rfl rfl rfl).trans ?_
                                refine (r_goto f68_81).trans ?_
                                refine (r_iload f68_9 rfl).trans ?_
                                refine (r_aloadn f68_11 rfl).trans ?_
                                refine (r_get (v := .int 0) f68_12 (gs_eq (r_175 48 _ (by decide) (by decide) zh48)) rfl).trans ?_
                                refine (r_icmp_gt_t f68_15 (by decide)).trans ?_
                                refine (r_lload f68_84 rfl).trans ?_
                                exact r_lreturn f68_86 rfl
                              refine (r_virt (as := [.int 0, .int 0, .int (x3 / 100)]) (v := (some (.long 1))) (h1 := ((y175.1.set 48 (.inr (5, [.ref 1, .ref 16, .ref 41, .ref 49, .int 0, .ref 50, .ref 51, .int 0, .ref 52, .int 0, .ref 53, .ref 54, .int 0, .int 0, .int 0, .int 0, .int 0]))), y175.2)) f67_27 (gs_eq (r_175 48 _ (by decide) (by decide) zh48)) zg68 rfl rfl rfl rfl rfl rfl hc9).trans ?_
                              refine (r_lmul (v := 100) f67_30 (by decide)).trans ?_
                              refine (r_lloadn f67_31 rfl).trans ?_
                              refine (r_lcmp (v := (lg_cmp 100 (((x3 - x3 / 100 * 100)).toInt64 * 1))) f67_32 rfl).trans ?_
                              refine (r_if_ge_t f67_33 ec11).trans ?_
                              refine (r_ldc2 (v := 100) f67_38 (by decide)).trans ?_
                              refine (r_aloadn f67_41 rfl).trans ?_
                              refine (r_iconst (v := 0) f67_42 rfl).trans ?_
                              refine (r_aloadn f67_43 rfl).trans ?_
                              refine (r_get (v := .int 0) f67_44 (gs_eq (r_175 48 _ (by decide) (by decide) zh48)) rfl).trans ?_
                              refine (r_iloadn f67_47 rfl).trans ?_
                              have hc13 : arun X (n + 999933) (d + 18) zM68 0 [some (.ref 48), some (.int 0), some (.int 0), some (.int (x3 / 100)), none, none, none, none, none] [] ((y175.1.set 48 (.inr (5, [.ref 1, .ref 16, .ref 41, .ref 49, .int 0, .ref 50, .ref 51, .int 0, .ref 52, .int 0, .ref 53, .ref 54, .int 0, .int 0, .int 0, .int 0, .int 0]))), y175.2) = some ((some (.long 1)), ((y175.1.set 48 (.inr (5, [.ref 1, .ref 16, .ref 41, .ref 49, .int 0, .ref 50, .ref 51, .int 0, .ref 52, .int 0, .ref 53, .ref 54, .int 0, .int 0, .int 0, .int 0, .int 0]))), y175.2)) := by
                                refine (r_lconst (v := 0) f68_0 rfl).trans ?_
                                refine (r_lstore (L' := [some (.ref 48), some (.int 0), some (.int 0), some (.int (x3 / 100)), some (.long 0), none, none, none, none]) f68_1 rfl rfl).trans ?_
                                refine (r_lconst (v := 1) f68_3 rfl).trans ?_
                                refine (r_lstore (L' := [some (.ref 48), some (.int 0), some (.int 0), some (.int (x3 / 100)), some (.long 0), none, some (.long 1), none, none]) f68_4 rfl rfl).trans ?_
                                refine (r_iconst (v := 0) f68_6 rfl).trans ?_
                                refine (r_istore (L' := [some (.ref 48), some (.int 0), some (.int 0), some (.int (x3 / 100)), some (.long 0), none, some (.long 1), none, some (.int 0)]) f68_7 rfl rfl).trans ?_
                                refine (r_iload f68_9 rfl).trans ?_
                                refine (r_aloadn f68_11 rfl).trans ?_
                                refine (r_get (v := .int 0) f68_12 (gs_eq (r_175 48 _ (by decide) (by decide) zh48)) rfl).trans ?_
                                refine (r_icmp_gt_f f68_15 (by decide)).trans ?_
                                refine (r_iload f68_18 rfl).trans ?_
                                refine (r_iloadn f68_20 rfl).trans ?_
                                refine (r_iloadn f68_21 rfl).trans ?_
                                have hc14 : arun X (n + 999919) (d + 17) zM137 0 [some (.int 0), some (.int 0), some (.int 0)] [] ((y175.1.set 48 (.inr (5, [.ref 1, .ref 16, .ref 41, .ref 49, .int 0, .ref 50, .ref 51, .int 0, .ref 52, .int 0, .ref 53, .ref 54, .int 0, .int 0, .int 0, .int 0, .int 0]))), y175.2) = some ((some (.int 1)), ((y175.1.set 48 (.inr (5, [.ref 1, .ref 16, .ref 41, .ref 49, .int 0, .ref 50, .ref 51, .int 0, .ref 52, .int 0, .ref 53, .ref 54, .int 0, .int 0, .int 0, .int 0, .int 0]))), y175.2)) := by
                                  refine (r_iloadn f137_0 rfl).trans ?_
                                  refine (r_iloadn f137_1 rfl).trans ?_
                                  refine (r_icmp_gt_f f137_2 (by decide)).trans ?_
                                  refine (r_iloadn f137_5 rfl).trans ?_
                                  refine (r_iloadn f137_6 rfl).trans ?_
                                  refine (r_icmp_gt_f f137_7 (by decide)).trans ?_
                                  refine (r_iconst (v := 1) f137_10 rfl).trans ?_
                                  refine (r_goto f137_11).trans ?_
                                  exact r_zreturn f137_15 rfl (by decide)
                                refine (r_stat (as := [.int 0, .int 0, .int 0]) (v := (some (.int 1))) (h1 := ((y175.1.set 48 (.inr (5, [.ref 1, .ref 16, .ref 41, .ref 49, .int 0, .ref 50, .ref 51, .int 0, .ref 52, .int 0, .ref 53, .ref 54, .int 0, .int 0, .int 0, .int 0, .int 0]))), y175.2)) f68_22 rfl zg137 rfl rfl rfl rfl rfl rfl hc14).trans ?_
                                refine (r_if_eq_f f68_25 (by decide)).trans ?_
                                refine (r_lload f68_28 rfl).trans ?_
                                refine (r_lload f68_30 rfl).trans ?_
                                refine (r_iloadn f68_32 rfl).trans ?_
                                refine (r_i2l (v := ((x3 / 100)).toInt64) f68_33 rfl).trans ?_
                                refine (r_iload f68_34 rfl).trans ?_
                                have hc15 : arun X (n + 999912) (d + 17) zM69 0 [some (.long ((x3 / 100)).toInt64), none, some (.int 0), none, none, none] [] ((y175.1.set 48 (.inr (5, [.ref 1, .ref 16, .ref 41, .ref 49, .int 0, .ref 50, .ref 51, .int 0, .ref 52, .int 0, .ref 53, .ref 54, .int 0, .int 0, .int 0, .int 0, .int 0]))), y175.2) = some ((some (.long 1)), ((y175.1.set 48 (.inr (5, [.ref 1, .ref 16, .ref 41, .ref 49, .int 0, .ref 50, .ref 51, .int 0, .ref 52, .int 0, .ref 53, .ref 54, .int 0, .int 0, .int 0, .int 0, .int 0]))), y175.2)) := by
                                  refine (r_lconst (v := 1) f69_0 rfl).trans ?_
                                  refine (r_lstoren (L' := [some (.long ((x3 / 100)).toInt64), none, some (.int 0), some (.long 1), none, none]) f69_1 rfl rfl).trans ?_
                                  refine (r_iconst (v := 0) f69_2 rfl).trans ?_
                                  refine (r_istore (L' := [some (.long ((x3 / 100)).toInt64), none, some (.int 0), some (.long 1), none, some (.int 0)]) f69_3 rfl rfl).trans ?_
                                  refine (r_iload f69_5 rfl).trans ?_
                                  refine (r_iloadn f69_7 rfl).trans ?_
                                  refine (r_icmp_ge_t f69_8 (by decide)).trans ?_
                                  refine (r_lloadn f69_21 rfl).trans ?_
                                  exact r_lreturn f69_22 rfl
                                refine (r_stat (as := [.long ((x3 / 100)).toInt64, .int 0]) (v := (some (.long 1))) (h1 := ((y175.1.set 48 (.inr (5, [.ref 1, .ref 16, .ref 41, .ref 49, .int 0, .ref 50, .ref 51, .int 0, .ref 52, .int 0, .ref 53, .ref 54, .int 0, .int 0, .int 0, .int 0, .int 0]))), y175.2)) f68_36 rfl zg69 rfl rfl rfl rfl rfl rfl hc15).trans ?_
                                refine (r_lmul (v := 1) f68_39 (by decide)).trans ?_
                                refine (r_bipush (v := 100) f68_40 rfl).trans ?_
                                refine (r_iloadn f68_42 rfl).trans ?_
                                refine (r_isub (v := (100 - (x3 / 100))) f68_43 rfl).trans ?_
                                refine (r_i2l (v := ((100 - (x3 / 100))).toInt64) f68_44 rfl).trans ?_
                                refine (r_aloadn f68_45 rfl).trans ?_
                                refine (r_get (v := .int 0) f68_46 (gs_eq (r_175 48 _ (by decide) (by decide) zh48)) rfl).trans ?_
                                refine (r_iload f68_49 rfl).trans ?_
                                refine (r_isub (v := 0) f68_51 (by decide)).trans ?_
                                have hc16 : arun X (n + 999902) (d + 17) zM69 0 [some (.long ((100 - (x3 / 100))).toInt64), none, some (.int 0), none, none, none] [] ((y175.1.set 48 (.inr (5, [.ref 1, .ref 16, .ref 41, .ref 49, .int 0, .ref 50, .ref 51, .int 0, .ref 52, .int 0, .ref 53, .ref 54, .int 0, .int 0, .int 0, .int 0, .int 0]))), y175.2) = some ((some (.long 1)), ((y175.1.set 48 (.inr (5, [.ref 1, .ref 16, .ref 41, .ref 49, .int 0, .ref 50, .ref 51, .int 0, .ref 52, .int 0, .ref 53, .ref 54, .int 0, .int 0, .int 0, .int 0, .int 0]))), y175.2)) := by
                                  refine (r_lconst (v := 1) f69_0 rfl).trans ?_
                                  refine (r_lstoren (L' := [some (.long ((100 - (x3 / 100))).toInt64), none, some (.int 0), some (.long 1), none, none]) f69_1 rfl rfl).trans ?_
                                  refine (r_iconst (v := 0) f69_2 rfl).trans ?_
                                  refine (r_istore (L' := [some (.long ((100 - (x3 / 100))).toInt64), none, some (.int 0), some (.long 1), none, some (.int 0)]) f69_3 rfl rfl).trans ?_
                                  refine (r_iload f69_5 rfl).trans ?_
                                  refine (r_iloadn f69_7 rfl).trans ?_
                                  refine (r_icmp_ge_t f69_8 (by decide)).trans ?_
                                  refine (r_lloadn f69_21 rfl).trans ?_
                                  exact r_lreturn f69_22 rfl
                                refine (r_stat (as := [.long ((100 - (x3 / 100))).toInt64, .int 0]) (v := (some (.long 1))) (h1 := ((y175.1.set 48 (.inr (5, [.ref 1, .ref 16, .ref 41, .ref 49, .int 0, .ref 50, .ref 51, .int 0, .ref 52, .int 0, .ref 53, .ref 54, .int 0, .int 0, .int 0, .int 0, .int 0]))), y175.2)) f68_52 rfl zg69 rfl rfl rfl rfl rfl rfl hc16).trans ?_
                                refine (r_lmul (v := 1) f68_55 (by decide)).trans ?_
                                refine (r_ladd (v := 1) f68_56 (by decide)).trans ?_
                                refine (r_lstore (L' := [some (.ref 48), some (.int 0), some (.int 0), some (.int (x3 / 100)), some (.long 1), none, some (.long 1), none, some (.int 0)]) f68_57 rfl rfl).trans ?_
                                refine (r_lload f68_59 rfl).trans ?_
                                refine (r_aloadn f68_61 rfl).trans ?_
                                refine (r_get (v := .int 0) f68_62 (gs_eq (r_175 48 _ (by decide) (by decide) zh48)) rfl).trans ?_
                                refine (r_iload f68_65 rfl).trans ?_
                                refine (r_isub (v := 0) f68_67 (by decide)).trans ?_
                                refine (r_i2l (v := 0) f68_68 (by decide)).trans ?_
                                refine (r_lmul (v := 0) f68_69 (by decide)).trans ?_
                                refine (r_iload f68_70 rfl).trans ?_
                                refine (r_iconst (v := 1) f68_72 rfl).trans ?_
                                refine (r_iadd (v := 1) f68_73 (by decide)).trans ?_
                                refine (r_i2l (v := 1) f68_74 (by decide)).trans ?_
                                refine (r_ldiv (v := 0) f68_75 (by decide) (by decide)).trans ?_
                                refine (r_lstore (L' := [some (.ref 48), some (.int 0), some (.int 0), some (.int (x3 / 100)), some (.long 1), none, some (.long 0), none, some (.int 0)]) f68_76 rfl rfl).trans ?_
                                refine (r_iinc (v := 1) (L' := [some (.ref 48), some (.int 0), some (.int 0), some (.int (x3 / 100)), some (.long 1), none, some (.long 0), none, some (.int 1)]) f68_78 rfl rfl rfl).trans ?_
                                refine (r_goto f68_81).trans ?_
                                refine (r_iload f68_9 rfl).trans ?_
                                refine (r_aloadn f68_11 rfl).trans ?_
                                refine (r_get (v := .int 0) f68_12 (gs_eq (r_175 48 _ (by decide) (by decide) zh48)) rfl).trans ?_
                                refine (r_icmp_gt_t f68_15 (by decide)).trans ?_
                                refine (r_lload f68_84 rfl).trans ?_
                                exact r_lreturn f68_86 rfl
                              refine (r_virt (as := [.int 0, .int 0, .int (x3 / 100)]) (v := (some (.long 1))) (h1 := ((y175.1.set 48 (.inr (5, [.ref 1, .ref 16, .ref 41, .ref 49, .int 0, .ref 50, .ref 51, .int 0, .ref 52, .int 0, .ref 53, .ref 54, .int 0, .int 0, .int 0, .int 0, .int 0]))), y175.2)) f67_48 (gs_eq (r_175 48 _ (by decide) (by decide) zh48)) zg68 rfl rfl rfl rfl rfl rfl hc13).trans ?_
                              refine (r_lmul (v := 100) f67_51 (by decide)).trans ?_
                              refine (r_lloadn f67_52 rfl).trans ?_
                              refine (r_lcmp (v := (lg_cmp 100 (((x3 - x3 / 100 * 100)).toInt64 * 1))) f67_53 rfl).trans ?_
                              refine (r_if_ge_t f67_54 ec11).trans ?_
                              refine (r_iconst (v := 0) f67_61 rfl).trans ?_
                              exact r_ireturn f67_62 rfl
                            refine (r_virt (as := [.int (x3 / 100), .int (x3 - x3 / 100 * 100)]) (v := (some (.int 0))) (h1 := ((y175.1.set 48 (.inr (5, [.ref 1, .ref 16, .ref 41, .ref 49, .int 0, .ref 50, .ref 51, .int 0, .ref 52, .int 0, .ref 53, .ref 54, .int 0, .int 0, .int 0, .int 0, .int 0]))), y175.2)) f180_116 (gs_eq (r_175 48 _ (by decide) (by decide) zh48)) zg67 rfl rfl rfl rfl rfl rfl hc7).trans ?_
                            exact r_ireturn f180_119 rfl
                          ·
                            refine (r_iloadn f298_0 rfl).trans ?_
                            have hc1 : arun X (n + 999998) (d + 19) zM198 0 [some (.int x1)] [] ((y175.1.set 48 (.inr (5, [.ref 1, .ref 16, .ref 41, .ref 49, .int 0, .ref 50, .ref 51, .int 0, .ref 52, .int 0, .ref 53, .ref 54, .int 0, .int 0, .int 0, .int 0, .int 0]))), y175.2) = some ((some (.int 1)), ((y175.1.set 48 (.inr (5, [.ref 1, .ref 16, .ref 41, .ref 49, .int 0, .ref 50, .ref 51, .int 0, .ref 52, .int 0, .ref 53, .ref 54, .int 0, .int 0, .int 0, .int 0, .int 0]))), y175.2)) := by
                              refine (r_iloadn f198_0 rfl).trans ?_
                              refine (r_iconst (v := 0) f198_1 rfl).trans ?_
                              refine (r_bipush (v := 9) f198_2 rfl).trans ?_
                              have hc2 : arun X (n + 999994) (d + 18) zM196 0 [some (.int x1), some (.int 0), some (.int 9)] [] ((y175.1.set 48 (.inr (5, [.ref 1, .ref 16, .ref 41, .ref 49, .int 0, .ref 50, .ref 51, .int 0, .ref 52, .int 0, .ref 53, .ref 54, .int 0, .int 0, .int 0, .int 0, .int 0]))), y175.2) = some ((some (.int 1)), ((y175.1.set 48 (.inr (5, [.ref 1, .ref 16, .ref 41, .ref 49, .int 0, .ref 50, .ref 51, .int 0, .ref 52, .int 0, .ref 53, .ref 54, .int 0, .int 0, .int 0, .int 0, .int 0]))), y175.2)) := by
                                refine (r_iloadn f196_0 rfl).trans ?_
                                refine (r_iloadn f196_1 rfl).trans ?_
                                refine (r_icmp_lt_f f196_2 ec0).trans ?_
                                refine (r_iloadn f196_5 rfl).trans ?_
                                refine (r_iloadn f196_6 rfl).trans ?_
                                refine (r_icmp_gt_f f196_7 ec1).trans ?_
                                refine (r_iconst (v := 1) f196_10 rfl).trans ?_
                                refine (r_goto f196_11).trans ?_
                                exact r_zreturn f196_15 rfl (by decide)
                              refine (r_stat (as := [.int x1, .int 0, .int 9]) (v := (some (.int 1))) (h1 := ((y175.1.set 48 (.inr (5, [.ref 1, .ref 16, .ref 41, .ref 49, .int 0, .ref 50, .ref 51, .int 0, .ref 52, .int 0, .ref 53, .ref 54, .int 0, .int 0, .int 0, .int 0, .int 0]))), y175.2)) f198_4 rfl zg196 rfl rfl rfl rfl rfl rfl hc2).trans ?_
                              exact r_zreturn f198_7 rfl (by decide)
                            refine (r_stat (as := [.int x1]) (v := (some (.int 1))) (h1 := ((y175.1.set 48 (.inr (5, [.ref 1, .ref 16, .ref 41, .ref 49, .int 0, .ref 50, .ref 51, .int 0, .ref 52, .int 0, .ref 53, .ref 54, .int 0, .int 0, .int 0, .int 0, .int 0]))), y175.2)) f298_1 rfl zg198 rfl rfl rfl rfl rfl rfl hc1).trans ?_
                            refine (r_if_eq_f f298_4 (by decide)).trans ?_
                            refine (r_iloadn f298_7 rfl).trans ?_
                            refine (r_iconst (v := 0) f298_8 rfl).trans ?_
                            refine (r_iconst (v := 2) f298_9 rfl).trans ?_
                            have hc3 : arun X (n + 999993) (d + 19) zM196 0 [some (.int x2), some (.int 0), some (.int 2)] [] ((y175.1.set 48 (.inr (5, [.ref 1, .ref 16, .ref 41, .ref 49, .int 0, .ref 50, .ref 51, .int 0, .ref 52, .int 0, .ref 53, .ref 54, .int 0, .int 0, .int 0, .int 0, .int 0]))), y175.2) = some ((some (.int 1)), ((y175.1.set 48 (.inr (5, [.ref 1, .ref 16, .ref 41, .ref 49, .int 0, .ref 50, .ref 51, .int 0, .ref 52, .int 0, .ref 53, .ref 54, .int 0, .int 0, .int 0, .int 0, .int 0]))), y175.2)) := by
                              refine (r_iloadn f196_0 rfl).trans ?_
                              refine (r_iloadn f196_1 rfl).trans ?_
                              refine (r_icmp_lt_f f196_2 ec2).trans ?_
                              refine (r_iloadn f196_5 rfl).trans ?_
                              refine (r_iloadn f196_6 rfl).trans ?_
                              refine (r_icmp_gt_f f196_7 ec3).trans ?_
                              refine (r_iconst (v := 1) f196_10 rfl).trans ?_
                              refine (r_goto f196_11).trans ?_
                              exact r_zreturn f196_15 rfl (by decide)
                            refine (r_stat (as := [.int x2, .int 0, .int 2]) (v := (some (.int 1))) (h1 := ((y175.1.set 48 (.inr (5, [.ref 1, .ref 16, .ref 41, .ref 49, .int 0, .ref 50, .ref 51, .int 0, .ref 52, .int 0, .ref 53, .ref 54, .int 0, .int 0, .int 0, .int 0, .int 0]))), y175.2)) f298_10 rfl zg196 rfl rfl rfl rfl rfl rfl hc3).trans ?_
                            refine (r_if_eq_f f298_13 (by decide)).trans ?_
                            refine (r_iloadn f298_16 rfl).trans ?_
                            refine (r_iconst (v := 2) f298_17 rfl).trans ?_
                            refine (r_icmp_ne_f f298_18 ec4).trans ?_
                            refine (r_iloadn f298_21 rfl).trans ?_
                            refine (r_bipush (v := 100) f298_22 rfl).trans ?_
                            refine (r_sipush (v := 9949) f298_24 rfl).trans ?_
                            have hc4 : arun X (n + 999985) (d + 19) zM196 0 [some (.int x3), some (.int 100), some (.int 9949)] [] ((y175.1.set 48 (.inr (5, [.ref 1, .ref 16, .ref 41, .ref 49, .int 0, .ref 50, .ref 51, .int 0, .ref 52, .int 0, .ref 53, .ref 54, .int 0, .int 0, .int 0, .int 0, .int 0]))), y175.2) = some ((some (.int 1)), ((y175.1.set 48 (.inr (5, [.ref 1, .ref 16, .ref 41, .ref 49, .int 0, .ref 50, .ref 51, .int 0, .ref 52, .int 0, .ref 53, .ref 54, .int 0, .int 0, .int 0, .int 0, .int 0]))), y175.2)) := by
                              refine (r_iloadn f196_0 rfl).trans ?_
                              refine (r_iloadn f196_1 rfl).trans ?_
                              refine (r_icmp_lt_f f196_2 em0).trans ?_
                              refine (r_iloadn f196_5 rfl).trans ?_
                              refine (r_iloadn f196_6 rfl).trans ?_
                              refine (r_icmp_gt_f f196_7 em1).trans ?_
                              refine (r_iconst (v := 1) f196_10 rfl).trans ?_
                              refine (r_goto f196_11).trans ?_
                              exact r_zreturn f196_15 rfl (by decide)
                            refine (r_stat (as := [.int x3, .int 100, .int 9949]) (v := (some (.int 1))) (h1 := ((y175.1.set 48 (.inr (5, [.ref 1, .ref 16, .ref 41, .ref 49, .int 0, .ref 50, .ref 51, .int 0, .ref 52, .int 0, .ref 53, .ref 54, .int 0, .int 0, .int 0, .int 0, .int 0]))), y175.2)) f298_27 rfl zg196 rfl rfl rfl rfl rfl rfl hc4).trans ?_
                            refine (r_if_eq_f f298_30 (by decide)).trans ?_
                            refine (r_iloadn f298_33 rfl).trans ?_
                            refine (r_bipush (v := 100) f298_34 rfl).trans ?_
                            refine (r_irem (v := (x3 - x3 / 100 * 100)) f298_36 (by decide) rfl).trans ?_
                            refine (r_iconst (v := 1) f298_37 rfl).trans ?_
                            refine (r_bipush (v := 49) f298_38 rfl).trans ?_
                            have hc5 : arun X (n + 999978) (d + 19) zM196 0 [some (.int (x3 - x3 / 100 * 100)), some (.int 1), some (.int 49)] [] ((y175.1.set 48 (.inr (5, [.ref 1, .ref 16, .ref 41, .ref 49, .int 0, .ref 50, .ref 51, .int 0, .ref 52, .int 0, .ref 53, .ref 54, .int 0, .int 0, .int 0, .int 0, .int 0]))), y175.2) = some ((some (.int 1)), ((y175.1.set 48 (.inr (5, [.ref 1, .ref 16, .ref 41, .ref 49, .int 0, .ref 50, .ref 51, .int 0, .ref 52, .int 0, .ref 53, .ref 54, .int 0, .int 0, .int 0, .int 0, .int 0]))), y175.2)) := by
                              refine (r_iloadn f196_0 rfl).trans ?_
                              refine (r_iloadn f196_1 rfl).trans ?_
                              refine (r_icmp_lt_f f196_2 ec7).trans ?_
                              refine (r_iloadn f196_5 rfl).trans ?_
                              refine (r_iloadn f196_6 rfl).trans ?_
                              refine (r_icmp_gt_f f196_7 ec8).trans ?_
                              refine (r_iconst (v := 1) f196_10 rfl).trans ?_
                              refine (r_goto f196_11).trans ?_
                              exact r_zreturn f196_15 rfl (by decide)
                            refine (r_stat (as := [.int (x3 - x3 / 100 * 100), .int 1, .int 49]) (v := (some (.int 1))) (h1 := ((y175.1.set 48 (.inr (5, [.ref 1, .ref 16, .ref 41, .ref 49, .int 0, .ref 50, .ref 51, .int 0, .ref 52, .int 0, .ref 53, .ref 54, .int 0, .int 0, .int 0, .int 0, .int 0]))), y175.2)) f298_40 rfl zg196 rfl rfl rfl rfl rfl rfl hc5).trans ?_
                            refine (r_if_ne_t f298_43 (by decide)).trans ?_
                            refine (r_aloadn f298_48 rfl).trans ?_
                            refine (r_aloadn f298_49 rfl).trans ?_
                            refine (r_get (v := .int 0) f298_50 (gs_ne (r_175 72 _ (by decide) (by decide) zh72) (by decide)) rfl).trans ?_
                            refine (r_virt (as := [.int 0]) (v := none) (h1 := y183) f298_53 (gs_ne (r_175 72 _ (by decide) (by decide) zh72) (by decide)) zg239 rfl rfl rfl rfl rfl rfl (e_183 X (n + 799973) (d + 15))).trans ?_
                            refine (r_iconst (v := 0) f298_56 rfl).trans ?_
                            refine (r_istore (L' := [some (.ref 72), some (.int x1), some (.int x2), some (.int x3), some (.int 0), none, none, none, none, none]) f298_57 rfl rfl).trans ?_
                            refine (r_iconst (v := 0) f298_59 rfl).trans ?_
                            refine (r_istore (L' := [some (.ref 72), some (.int x1), some (.int x2), some (.int x3), some (.int 0), some (.int 0), none, none, none, none]) f298_60 rfl rfl).trans ?_
                            refine (r_iconst (v := 0) f298_62 rfl).trans ?_
                            refine (r_istore (L' := [some (.ref 72), some (.int x1), some (.int x2), some (.int x3), some (.int 0), some (.int 0), some (.int 0), none, none, none]) f298_63 rfl rfl).trans ?_
                            refine (r_iconst (v := 0) f298_65 rfl).trans ?_
                            refine (r_istore (L' := [some (.ref 72), some (.int x1), some (.int x2), some (.int x3), some (.int 0), some (.int 0), some (.int 0), some (.int 0), none, none]) f298_66 rfl rfl).trans ?_
                            refine (r_iconst (v := 0) f298_68 rfl).trans ?_
                            refine (r_istore (L' := [some (.ref 72), some (.int x1), some (.int x2), some (.int x3), some (.int 0), some (.int 0), some (.int 0), some (.int 0), some (.int 0), none]) f298_69 rfl rfl).trans ?_
                            refine (r_iload f298_71 rfl).trans ?_
                            refine (r_aloadn f298_73 rfl).trans ?_
                            refine (r_get (v := .int 0) f298_74 q_183 rfl).trans ?_
                            refine (r_icmp_ge_t f298_77 (by decide)).trans ?_
                            refine (r_iloadn f298_169 rfl).trans ?_
                            refine (r_iconst (v := 2) f298_170 rfl).trans ?_
                            refine (r_icmp_ge_t f298_171 em2).trans ?_
                            refine (r_iloadn f298_186 rfl).trans ?_
                            refine (r_bipush (v := 100) f298_187 rfl).trans ?_
                            refine (r_irem (v := (x3 - x3 / 100 * 100)) f298_189 (by decide) rfl).trans ?_
                            refine (r_i2l (v := ((x3 - x3 / 100 * 100)).toInt64) f298_190 rfl).trans ?_
                            refine (r_ldc2 (v := 100) f298_191 (by decide)).trans ?_
                            refine (r_iload f298_194 rfl).trans ?_
                            have hc6 : arun X (n + 999949) (d + 19) zM296 0 [some (.long 100), none, some (.int 0), none, none, none] [] y183 = some ((some (.long 1)), y183) := by
                              refine (r_lconst (v := 1) f296_0 rfl).trans ?_
                              refine (r_lstoren (L' := [some (.long 100), none, some (.int 0), some (.long 1), none, none]) f296_1 rfl rfl).trans ?_
                              refine (r_iconst (v := 0) f296_2 rfl).trans ?_
                              refine (r_istore (L' := [some (.long 100), none, some (.int 0), some (.long 1), none, some (.int 0)]) f296_3 rfl rfl).trans ?_
                              refine (r_iload f296_5 rfl).trans ?_
                              refine (r_iloadn f296_7 rfl).trans ?_
                              refine (r_icmp_ge_t f296_8 (by decide)).trans ?_
                              refine (r_lloadn f296_21 rfl).trans ?_
                              exact r_lreturn f296_22 rfl
                            refine (r_stat (as := [.long 100, .int 0]) (v := (some (.long 1))) (h1 := y183) f298_196 rfl zg296 rfl rfl rfl rfl rfl rfl hc6).trans ?_
                            refine (r_lmul (v := (((x3 - x3 / 100 * 100)).toInt64 * 1)) f298_199 rfl).trans ?_
                            refine (r_lstore (L' := [some (.ref 72), some (.int x1), some (.int x2), some (.int x3), some (.int 0), some (.int 0), some (.int 0), some (.int 0), some (.long (((x3 - x3 / 100 * 100)).toInt64 * 1)), none]) f298_200 rfl rfl).trans ?_
                            refine (r_ldc2 (v := 100) f298_202 (by decide)).trans ?_
                            refine (r_iload f298_205 rfl).trans ?_
                            refine (r_iload f298_207 rfl).trans ?_
                            refine (r_iload f298_209 rfl).trans ?_
                            refine (r_iloadn f298_211 rfl).trans ?_
                            refine (r_bipush (v := 100) f298_212 rfl).trans ?_
                            refine (r_idiv (v := (x3 / 100)) f298_214 (by decide) rfl).trans ?_
                            have hc7 : arun X (n + 999939) (d + 19) zM297 0 [some (.int 0), some (.int 0), some (.int 0), some (.int (x3 / 100)), none, none, none, none, none, none] [] y183 = some ((some (.long 1)), y183) := by
                              refine (r_lconst (v := 0) f297_0 rfl).trans ?_
                              refine (r_lstore (L' := [some (.int 0), some (.int 0), some (.int 0), some (.int (x3 / 100)), some (.long 0), none, none, none, none, none]) f297_1 rfl rfl).trans ?_
                              refine (r_iloadn f297_3 rfl).trans ?_
                              refine (r_istore (L' := [some (.int 0), some (.int 0), some (.int 0), some (.int (x3 / 100)), some (.long 0), none, some (.int 0), none, none, none]) f297_4 rfl rfl).trans ?_
                              refine (r_iload f297_6 rfl).trans ?_
                              refine (r_iloadn f297_8 rfl).trans ?_
                              refine (r_icmp_gt_f f297_9 (by decide)).trans ?_
                              refine (r_lconst (v := 1) f297_12 rfl).trans ?_
                              refine (r_lstore (L' := [some (.int 0), some (.int 0), some (.int 0), some (.int (x3 / 100)), some (.long 0), none, some (.int 0), some (.long 1), none, none]) f297_13 rfl rfl).trans ?_
                              refine (r_iconst (v := 1) f297_15 rfl).trans ?_
                              refine (r_istore (L' := [some (.int 0), some (.int 0), some (.int 0), some (.int (x3 / 100)), some (.long 0), none, some (.int 0), some (.long 1), none, some (.int 1)]) f297_16 rfl rfl).trans ?_
                              refine (r_iload f297_18 rfl).trans ?_
                              refine (r_iload f297_20 rfl).trans ?_
                              refine (r_icmp_gt_t f297_22 (by decide)).trans ?_
                              refine (r_lload f297_48 rfl).trans ?_
                              refine (r_lload f297_50 rfl).trans ?_
                              refine (r_iloadn f297_52 rfl).trans ?_
                              refine (r_i2l (v := ((x3 / 100)).toInt64) f297_53 rfl).trans ?_
                              refine (r_iload f297_54 rfl).trans ?_
                              have hc8 : arun X (n + 999919) (d + 18) zM296 0 [some (.long ((x3 / 100)).toInt64), none, some (.int 0), none, none, none] [] y183 = some ((some (.long 1)), y183) := by
                                refine (r_lconst (v := 1) f296_0 rfl).trans ?_
                                refine (r_lstoren (L' := [some (.long ((x3 / 100)).toInt64), none, some (.int 0), some (.long 1), none, none]) f296_1 rfl rfl).trans ?_
                                refine (r_iconst (v := 0) f296_2 rfl).trans ?_
                                refine (r_istore (L' := [some (.long ((x3 / 100)).toInt64), none, some (.int 0), some (.long 1), none, some (.int 0)]) f296_3 rfl rfl).trans ?_
                                refine (r_iload f296_5 rfl).trans ?_
                                refine (r_iloadn f296_7 rfl).trans ?_
                                refine (r_icmp_ge_t f296_8 (by decide)).trans ?_
                                refine (r_lloadn f296_21 rfl).trans ?_
                                exact r_lreturn f296_22 rfl
                              refine (r_stat (as := [.long ((x3 / 100)).toInt64, .int 0]) (v := (some (.long 1))) (h1 := y183) f297_56 rfl zg296 rfl rfl rfl rfl rfl rfl hc8).trans ?_
                              refine (r_lmul (v := 1) f297_59 (by decide)).trans ?_
                              refine (r_bipush (v := 100) f297_60 rfl).trans ?_
                              refine (r_iloadn f297_62 rfl).trans ?_
                              refine (r_isub (v := (100 - (x3 / 100))) f297_63 rfl).trans ?_
                              refine (r_i2l (v := ((100 - (x3 / 100))).toInt64) f297_64 rfl).trans ?_
                              refine (r_iloadn f297_65 rfl).trans ?_
                              refine (r_iload f297_66 rfl).trans ?_
                              refine (r_isub (v := 0) f297_68 (by decide)).trans ?_
                              have hc9 : arun X (n + 999910) (d + 18) zM296 0 [some (.long ((100 - (x3 / 100))).toInt64), none, some (.int 0), none, none, none] [] y183 = some ((some (.long 1)), y183) := by
                                refine (r_lconst (v := 1) f296_0 rfl).trans ?_
                                refine (r_lstoren (L' := [some (.long ((100 - (x3 / 100))).toInt64), none, some (.int 0), some (.long 1), none, none]) f296_1 rfl rfl).trans ?_
                                refine (r_iconst (v := 0) f296_2 rfl).trans ?_
                                refine (r_istore (L' := [some (.long ((100 - (x3 / 100))).toInt64), none, some (.int 0), some (.long 1), none, some (.int 0)]) f296_3 rfl rfl).trans ?_
                                refine (r_iload f296_5 rfl).trans ?_
                                refine (r_iloadn f296_7 rfl).trans ?_
                                refine (r_icmp_ge_t f296_8 (by decide)).trans ?_
                                refine (r_lloadn f296_21 rfl).trans ?_
                                exact r_lreturn f296_22 rfl
                              refine (r_stat (as := [.long ((100 - (x3 / 100))).toInt64, .int 0]) (v := (some (.long 1))) (h1 := y183) f297_69 rfl zg296 rfl rfl rfl rfl rfl rfl hc9).trans ?_
                              refine (r_lmul (v := 1) f297_72 (by decide)).trans ?_
                              refine (r_ladd (v := 1) f297_73 (by decide)).trans ?_
                              refine (r_lstore (L' := [some (.int 0), some (.int 0), some (.int 0), some (.int (x3 / 100)), some (.long 1), none, some (.int 0), some (.long 1), none, some (.int 1)]) f297_74 rfl rfl).trans ?_
                              refine (r_iinc (v := 1) (L' := [some (.int 0), some (.int 0), some (.int 0), some (.int (x3 / 100)), some (.long 1), none, some (.int 1), some (.long 1), none, some (.int 1)]) f297_76 rfl rfl rfl).trans ?_
                              refine (r_goto f297_79).trans ?_
                              refine (r_iload f297_6 rfl).trans ?_
                              refine (r_iloadn f297_8 rfl).trans ?_
                              refine (r_icmp_gt_t f297_9 (by decide)).trans ?_
                              refine (r_lload f297_82 rfl).trans ?_
                              exact r_lreturn f297_84 rfl
                            refine (r_stat (as := [.int 0, .int 0, .int 0, .int (x3 / 100)]) (v := (some (.long 1))) (h1 := y183) f298_215 rfl zg297 rfl rfl rfl rfl rfl rfl hc7).trans ?_
                            refine (r_lmul (v := 100) f298_218 (by decide)).trans ?_
                            refine (r_lload f298_219 rfl).trans ?_
                            refine (r_lcmp (v := (lg_cmp 100 (((x3 - x3 / 100 * 100)).toInt64 * 1))) f298_221 rfl).trans ?_
                            refine (r_if_ge_t f298_222 ec11).trans ?_
                            refine (r_ldc2 (v := 100) f298_227 (by decide)).trans ?_
                            refine (r_iload f298_230 rfl).trans ?_
                            refine (r_iconst (v := 0) f298_232 rfl).trans ?_
                            refine (r_iload f298_233 rfl).trans ?_
                            refine (r_iloadn f298_235 rfl).trans ?_
                            refine (r_bipush (v := 100) f298_236 rfl).trans ?_
                            refine (r_idiv (v := (x3 / 100)) f298_238 (by decide) rfl).trans ?_
                            have hc10 : arun X (n + 999927) (d + 19) zM297 0 [some (.int 0), some (.int 0), some (.int 0), some (.int (x3 / 100)), none, none, none, none, none, none] [] y183 = some ((some (.long 1)), y183) := by
                              refine (r_lconst (v := 0) f297_0 rfl).trans ?_
                              refine (r_lstore (L' := [some (.int 0), some (.int 0), some (.int 0), some (.int (x3 / 100)), some (.long 0), none, none, none, none, none]) f297_1 rfl rfl).trans ?_
                              refine (r_iloadn f297_3 rfl).trans ?_
                              refine (r_istore (L' := [some (.int 0), some (.int 0), some (.int 0), some (.int (x3 / 100)), some (.long 0), none, some (.int 0), none, none, none]) f297_4 rfl rfl).trans ?_
                              refine (r_iload f297_6 rfl).trans ?_
                              refine (r_iloadn f297_8 rfl).trans ?_
                              refine (r_icmp_gt_f f297_9 (by decide)).trans ?_
                              refine (r_lconst (v := 1) f297_12 rfl).trans ?_
                              refine (r_lstore (L' := [some (.int 0), some (.int 0), some (.int 0), some (.int (x3 / 100)), some (.long 0), none, some (.int 0), some (.long 1), none, none]) f297_13 rfl rfl).trans ?_
                              refine (r_iconst (v := 1) f297_15 rfl).trans ?_
                              refine (r_istore (L' := [some (.int 0), some (.int 0), some (.int 0), some (.int (x3 / 100)), some (.long 0), none, some (.int 0), some (.long 1), none, some (.int 1)]) f297_16 rfl rfl).trans ?_
                              refine (r_iload f297_18 rfl).trans ?_
                              refine (r_iload f297_20 rfl).trans ?_
                              refine (r_icmp_gt_t f297_22 (by decide)).trans ?_
                              refine (r_lload f297_48 rfl).trans ?_
                              refine (r_lload f297_50 rfl).trans ?_
                              refine (r_iloadn f297_52 rfl).trans ?_
                              refine (r_i2l (v := ((x3 / 100)).toInt64) f297_53 rfl).trans ?_
                              refine (r_iload f297_54 rfl).trans ?_
                              have hc11 : arun X (n + 999907) (d + 18) zM296 0 [some (.long ((x3 / 100)).toInt64), none, some (.int 0), none, none, none] [] y183 = some ((some (.long 1)), y183) := by
                                refine (r_lconst (v := 1) f296_0 rfl).trans ?_
                                refine (r_lstoren (L' := [some (.long ((x3 / 100)).toInt64), none, some (.int 0), some (.long 1), none, none]) f296_1 rfl rfl).trans ?_
                                refine (r_iconst (v := 0) f296_2 rfl).trans ?_
                                refine (r_istore (L' := [some (.long ((x3 / 100)).toInt64), none, some (.int 0), some (.long 1), none, some (.int 0)]) f296_3 rfl rfl).trans ?_
                                refine (r_iload f296_5 rfl).trans ?_
                                refine (r_iloadn f296_7 rfl).trans ?_
                                refine (r_icmp_ge_t f296_8 (by decide)).trans ?_
                                refine (r_lloadn f296_21 rfl).trans ?_
                                exact r_lreturn f296_22 rfl
                              refine (r_stat (as := [.long ((x3 / 100)).toInt64, .int 0]) (v := (some (.long 1))) (h1 := y183) f297_56 rfl zg296 rfl rfl rfl rfl rfl rfl hc11).trans ?_
                              refine (r_lmul (v := 1) f297_59 (by decide)).trans ?_
                              refine (r_bipush (v := 100) f297_60 rfl).trans ?_
                              refine (r_iloadn f297_62 rfl).trans ?_
                              refine (r_isub (v := (100 - (x3 / 100))) f297_63 rfl).trans ?_
                              refine (r_i2l (v := ((100 - (x3 / 100))).toInt64) f297_64 rfl).trans ?_
                              refine (r_iloadn f297_65 rfl).trans ?_
                              refine (r_iload f297_66 rfl).trans ?_
                              refine (r_isub (v := 0) f297_68 (by decide)).trans ?_
                              have hc12 : arun X (n + 999898) (d + 18) zM296 0 [some (.long ((100 - (x3 / 100))).toInt64), none, some (.int 0), none, none, none] [] y183 = some ((some (.long 1)), y183) := by
                                refine (r_lconst (v := 1) f296_0 rfl).trans ?_
                                refine (r_lstoren (L' := [some (.long ((100 - (x3 / 100))).toInt64), none, some (.int 0), some (.long 1), none, none]) f296_1 rfl rfl).trans ?_
                                refine (r_iconst (v := 0) f296_2 rfl).trans ?_
                                refine (r_istore (L' := [some (.long ((100 - (x3 / 100))).toInt64), none, some (.int 0), some (.long 1), none, some (.int 0)]) f296_3 rfl rfl).trans ?_
                                refine (r_iload f296_5 rfl).trans ?_
                                refine (r_iloadn f296_7 rfl).trans ?_
                                refine (r_icmp_ge_t f296_8 (by decide)).trans ?_
                                refine (r_lloadn f296_21 rfl).trans ?_
                                exact r_lreturn f296_22 rfl
                              refine (r_stat (as := [.long ((100 - (x3 / 100))).toInt64, .int 0]) (v := (some (.long 1))) (h1 := y183) f297_69 rfl zg296 rfl rfl rfl rfl rfl rfl hc12).trans ?_
                              refine (r_lmul (v := 1) f297_72 (by decide)).trans ?_
                              refine (r_ladd (v := 1) f297_73 (by decide)).trans ?_
                              refine (r_lstore (L' := [some (.int 0), some (.int 0), some (.int 0), some (.int (x3 / 100)), some (.long 1), none, some (.int 0), some (.long 1), none, some (.int 1)]) f297_74 rfl rfl).trans ?_
                              refine (r_iinc (v := 1) (L' := [some (.int 0), some (.int 0), some (.int 0), some (.int (x3 / 100)), some (.long 1), none, some (.int 1), some (.long 1), none, some (.int 1)]) f297_76 rfl rfl rfl).trans ?_
                              refine (r_goto f297_79).trans ?_
                              refine (r_iload f297_6 rfl).trans ?_
                              refine (r_iloadn f297_8 rfl).trans ?_
                              refine (r_icmp_gt_t f297_9 (by decide)).trans ?_
                              refine (r_lload f297_82 rfl).trans ?_
                              exact r_lreturn f297_84 rfl
                            refine (r_stat (as := [.int 0, .int 0, .int 0, .int (x3 / 100)]) (v := (some (.long 1))) (h1 := y183) f298_239 rfl zg297 rfl rfl rfl rfl rfl rfl hc10).trans ?_
                            refine (r_lmul (v := 100) f298_242 (by decide)).trans ?_
                            refine (r_lload f298_243 rfl).trans ?_
                            refine (r_lcmp (v := (lg_cmp 100 (((x3 - x3 / 100 * 100)).toInt64 * 1))) f298_245 rfl).trans ?_
                            refine (r_if_ge_t f298_246 ec11).trans ?_
                            refine (r_iconst (v := 0) f298_253 rfl).trans ?_
                            exact r_ireturn f298_254 rfl
                          · exact Nat.le_trans (Nat.le_of_eq (l_183.trans (gs_ls l_175))) (by decide)
                          · show y183.2 ≤ 7302250
                            have hz : zH0.2 ≤ 100000 := by decide
                            dsimp only at *
                            omega
                    ·
                      have jc0 : ¬ (x1 < 0 ∨ 10 ≤ Int32.toNatClampNeg x1) := vp_in_iff.mpr (by
                        have az3 := az_e (x := x3)
                        have l0 : (0 : Int32).toInt = 0 := by decide
                        have l1 : (1 : Int32).toInt = 1 := by decide
                        have l2 : (2 : Int32).toInt = 2 := by decide
                        have l3 : (9 : Int32).toInt = 9 := by decide
                        have l4 : (49 : Int32).toInt = 49 := by decide
                        have l5 : (99 : Int32).toInt = 99 := by decide
                        have l6 : (100 : Int32).toInt = 100 := by decide
                        simp only [Int32.lt_iff_toInt_lt, Int32.le_iff_toInt_le, ← Int32.toInt_inj] at *
                        omega)
                      obtain ⟨y176, e_176, l_176, u_176, r_176⟩ := season_fresh (x1 := x1) jc0
                      by_cases em0 : x3 < 100
                      ·
                        exfalso
                        exact (by
                          have az3 := az_e (x := x3)
                          have l0 : (0 : Int32).toInt = 0 := by decide
                          have l1 : (1 : Int32).toInt = 1 := by decide
                          have l2 : (2 : Int32).toInt = 2 := by decide
                          have l3 : (9 : Int32).toInt = 9 := by decide
                          have l4 : (49 : Int32).toInt = 49 := by decide
                          have l5 : (99 : Int32).toInt = 99 := by decide
                          have l6 : (100 : Int32).toInt = 100 := by decide
                          simp only [Int32.lt_iff_toInt_lt, Int32.le_iff_toInt_le, ← Int32.toInt_inj] at *
                          omega)
                      ·
                        by_cases em1 : 9949 < x3
                        ·
                          exfalso
                          exact (by
                            have az3 := az_e (x := x3)
                            have l0 : (0 : Int32).toInt = 0 := by decide
                            have l1 : (1 : Int32).toInt = 1 := by decide
                            have l2 : (2 : Int32).toInt = 2 := by decide
                            have l3 : (9 : Int32).toInt = 9 := by decide
                            have l4 : (49 : Int32).toInt = 49 := by decide
                            have l5 : (99 : Int32).toInt = 99 := by decide
                            have l6 : (100 : Int32).toInt = 100 := by decide
                            have l7 : (9949 : Int32).toInt = 9949 := by decide
                            simp only [Int32.lt_iff_toInt_lt, Int32.le_iff_toInt_le, ← Int32.toInt_inj] at *
                            omega)
                        ·
                          have em2 : 2 ≤ x2 := (by
                            have az3 := az_e (x := x3)
                            have l0 : (0 : Int32).toInt = 0 := by decide
                            have l1 : (1 : Int32).toInt = 1 := by decide
                            have l2 : (2 : Int32).toInt = 2 := by decide
                            have l3 : (9 : Int32).toInt = 9 := by decide
                            have l4 : (49 : Int32).toInt = 49 := by decide
                            have l5 : (99 : Int32).toInt = 99 := by decide
                            have l6 : (100 : Int32).toInt = 100 := by decide
                            have l7 : (9949 : Int32).toInt = 9949 := by decide
                            simp only [Int32.lt_iff_toInt_lt, Int32.le_iff_toInt_le, ← Int32.toInt_inj] at *
                            omega)
                          obtain ⟨y184, e_184, l_184, u_184, r_184, q_184⟩ := reckon_fresh (h := ((y176.1.set 48 (.inr (5, [.ref 1, .ref 16, .ref 41, .ref 49, .int 0, .ref 50, .ref 51, .int 0, .ref 52, .int 0, .ref 53, .ref 54, .int 0, .int 0, .int 0, .int 0, .int 0]))), y176.2)) (gs_ne (r_176 72 _ (by decide) (by decide) zh72) (by decide)) (gs_ne (r_176 107 _ (by decide) (by decide) zh107) (by decide)) (gs_ne (r_176 108 _ (by decide) (by decide) zh108) (by decide)) (gs_ne (r_176 109 _ (by decide) (by decide) zh109) (by decide))
                          refine ⟨1, ((y176.1.set 48 (.inr (5, [.ref 1, .ref 16, .ref 41, .ref 49, .int 0, .ref 50, .ref 51, .int 0, .ref 52, .int 0, .ref 53, .ref 54, .int 0, .int 0, .int 0, .int 0, .int 0]))), y176.2), y184, fun X n d => ?_, fun X n d => ?_, (gs_ne (r_176 72 _ (by decide) (by decide) zh72) (by decide)), ?_, ?_⟩
                          ·
                            refine (r_iloadn f180_0 rfl).trans ?_
                            have hc1 : arun X (n + 999998) (d + 19) zM139 0 [some (.int x1)] [] zH0 = some ((some (.int 1)), zH0) := by
                              refine (r_iloadn f139_0 rfl).trans ?_
                              refine (r_iconst (v := 0) f139_1 rfl).trans ?_
                              refine (r_bipush (v := 9) f139_2 rfl).trans ?_
                              have hc2 : arun X (n + 999994) (d + 18) zM137 0 [some (.int x1), some (.int 0), some (.int 9)] [] zH0 = some ((some (.int 1)), zH0) := by
                                refine (r_iloadn f137_0 rfl).trans ?_
                                refine (r_iloadn f137_1 rfl).trans ?_
                                refine (r_icmp_gt_f f137_2 ec0).trans ?_
                                refine (r_iloadn f137_5 rfl).trans ?_
                                refine (r_iloadn f137_6 rfl).trans ?_
                                refine (r_icmp_gt_f f137_7 ec1).trans ?_
                                refine (r_iconst (v := 1) f137_10 rfl).trans ?_
                                refine (r_goto f137_11).trans ?_
                                exact r_zreturn f137_15 rfl (by decide)
                              refine (r_stat (as := [.int x1, .int 0, .int 9]) (v := (some (.int 1))) (h1 := zH0) f139_4 rfl zg137 rfl rfl rfl rfl rfl rfl hc2).trans ?_
                              exact r_zreturn f139_7 rfl (by decide)
                            refine (r_stat (as := [.int x1]) (v := (some (.int 1))) (h1 := zH0) f180_1 rfl zg139 rfl rfl rfl rfl rfl rfl hc1).trans ?_
                            refine (r_if_eq_f f180_4 (by decide)).trans ?_
                            refine (r_iloadn f180_7 rfl).trans ?_
                            refine (r_iconst (v := 0) f180_8 rfl).trans ?_
                            refine (r_iconst (v := 2) f180_9 rfl).trans ?_
                            have hc3 : arun X (n + 999993) (d + 19) zM137 0 [some (.int x2), some (.int 0), some (.int 2)] [] zH0 = some ((some (.int 1)), zH0) := by
                              refine (r_iloadn f137_0 rfl).trans ?_
                              refine (r_iloadn f137_1 rfl).trans ?_
                              refine (r_icmp_gt_f f137_2 ec2).trans ?_
                              refine (r_iloadn f137_5 rfl).trans ?_
                              refine (r_iloadn f137_6 rfl).trans ?_
                              refine (r_icmp_gt_f f137_7 ec3).trans ?_
                              refine (r_iconst (v := 1) f137_10 rfl).trans ?_
                              refine (r_goto f137_11).trans ?_
                              exact r_zreturn f137_15 rfl (by decide)
                            refine (r_stat (as := [.int x2, .int 0, .int 2]) (v := (some (.int 1))) (h1 := zH0) f180_10 rfl zg137 rfl rfl rfl rfl rfl rfl hc3).trans ?_
                            refine (r_if_ne_t f180_13 (by decide)).trans ?_
                            refine (r_iloadn f180_18 rfl).trans ?_
                            refine (r_iconst (v := 2) f180_19 rfl).trans ?_
                            refine (r_icmp_ne_f f180_20 ec4).trans ?_
                            refine (r_iloadn f180_23 rfl).trans ?_
                            refine (r_bipush (v := 100) f180_24 rfl).trans ?_
                            refine (r_idiv (v := (x3 / 100)) f180_26 (by decide) rfl).trans ?_
                            refine (r_iconst (v := 1) f180_27 rfl).trans ?_
                            refine (r_bipush (v := 99) f180_28 rfl).trans ?_
                            have hc4 : arun X (n + 999983) (d + 19) zM137 0 [some (.int (x3 / 100)), some (.int 1), some (.int 99)] [] zH0 = some ((some (.int 1)), zH0) := by
                              refine (r_iloadn f137_0 rfl).trans ?_
                              refine (r_iloadn f137_1 rfl).trans ?_
                              refine (r_icmp_gt_f f137_2 ec5).trans ?_
                              refine (r_iloadn f137_5 rfl).trans ?_
                              refine (r_iloadn f137_6 rfl).trans ?_
                              refine (r_icmp_gt_f f137_7 ec6).trans ?_
                              refine (r_iconst (v := 1) f137_10 rfl).trans ?_
                              refine (r_goto f137_11).trans ?_
                              exact r_zreturn f137_15 rfl (by decide)
                            refine (r_stat (as := [.int (x3 / 100), .int 1, .int 99]) (v := (some (.int 1))) (h1 := zH0) f180_30 rfl zg137 rfl rfl rfl rfl rfl rfl hc4).trans ?_
                            refine (r_if_eq_f f180_33 (by decide)).trans ?_
                            refine (r_iloadn f180_36 rfl).trans ?_
                            refine (r_bipush (v := 100) f180_37 rfl).trans ?_
                            refine (r_irem (v := (x3 - x3 / 100 * 100)) f180_39 (by decide) rfl).trans ?_
                            refine (r_iconst (v := 1) f180_40 rfl).trans ?_
                            refine (r_bipush (v := 49) f180_41 rfl).trans ?_
                            have hc5 : arun X (n + 999976) (d + 19) zM137 0 [some (.int (x3 - x3 / 100 * 100)), some (.int 1), some (.int 49)] [] zH0 = some ((some (.int 1)), zH0) := by
                              refine (r_iloadn f137_0 rfl).trans ?_
                              refine (r_iloadn f137_1 rfl).trans ?_
                              refine (r_icmp_gt_f f137_2 ec7).trans ?_
                              refine (r_iloadn f137_5 rfl).trans ?_
                              refine (r_iloadn f137_6 rfl).trans ?_
                              refine (r_icmp_gt_f f137_7 ec8).trans ?_
                              refine (r_iconst (v := 1) f137_10 rfl).trans ?_
                              refine (r_goto f137_11).trans ?_
                              exact r_zreturn f137_15 rfl (by decide)
                            refine (r_stat (as := [.int (x3 - x3 / 100 * 100), .int 1, .int 49]) (v := (some (.int 1))) (h1 := zH0) f180_43 rfl zg137 rfl rfl rfl rfl rfl rfl hc5).trans ?_
                            refine (r_if_ne_t f180_46 (by decide)).trans ?_
                            refine (r_aloadn f180_51 rfl).trans ?_
                            refine (r_get (v := .ref 48) f180_52 zh0 rfl).trans ?_
                            refine (r_iloadn f180_55 rfl).trans ?_
                            have hc6 : arun X (n + 999971) (d + 19) zM66 0 [some (.ref 48), some (.int x1), none, none] [] zH0 = some (none, ((y176.1.set 48 (.inr (5, [.ref 1, .ref 16, .ref 41, .ref 49, .int 0, .ref 50, .ref 51, .int 0, .ref 52, .int 0, .ref 53, .ref 54, .int 0, .int 0, .int 0, .int 0, .int 0]))), y176.2)) := by
                              refine (r_aloadn f66_0 rfl).trans ?_
                              refine (r_get (v := .ref 41) f66_1 zh48 rfl).trans ?_
                              refine (r_iloadn f66_4 rfl).trans ?_
                              refine (r_aloadn f66_5 rfl).trans ?_
                              refine (r_get (v := .ref 1) f66_6 zh48 rfl).trans ?_
                              refine (r_get (v := .int 0) f66_9 zh1 rfl).trans ?_
                              refine (r_virt (as := [.int x1, .int 0]) (v := (some (.ref 146))) (h1 := y176) f66_12 zh41 zg1 rfl rfl rfl rfl rfl rfl (e_176 X (n + 993964) (d + 8))).trans ?_
                              refine (r_astoren (L' := [some (.ref 48), some (.int x1), some (.ref 146), none]) f66_15 rfl rfl).trans ?_
                              refine (r_aloadn f66_16 rfl).trans ?_
                              refine (r_iconst (v := 0) f66_17 rfl).trans ?_
                              refine (r_put (h' := ((y176.1.set 48 (.inr (5, [.ref 1, .ref 16, .ref 41, .ref 49, .int 0, .ref 50, .ref 51, .int 0, .ref 52, .int 0, .ref 53, .ref 54, .int 0, .int 0, .int 0, .int 0, .int 0]))), y176.2)) f66_18 (r_176 48 _ (by decide) (by decide) zh48) rfl rfl).trans ?_
                              refine (r_aloadn f66_21 rfl).trans ?_
                              refine (r_iconst (v := 0) f66_22 rfl).trans ?_
                              refine (r_put (h' := ((y176.1.set 48 (.inr (5, [.ref 1, .ref 16, .ref 41, .ref 49, .int 0, .ref 50, .ref 51, .int 0, .ref 52, .int 0, .ref 53, .ref 54, .int 0, .int 0, .int 0, .int 0, .int 0]))), y176.2)) f66_23 (gs_eq (r_176 48 _ (by decide) (by decide) zh48)) rfl hss).trans ?_
                              refine (r_iconst (v := 0) f66_26 rfl).trans ?_
                              refine (r_istoren (L' := [some (.ref 48), some (.int x1), some (.ref 146), some (.int 0)]) f66_27 rfl rfl).trans ?_
                              refine (r_iloadn f66_28 rfl).trans ?_
                              refine (r_aloadn f66_29 rfl).trans ?_
                              refine (r_get (v := .ref 1) f66_30 (gs_eq (r_176 48 _ (by decide) (by decide) zh48)) rfl).trans ?_
                              refine (r_get (v := .int 0) f66_33 (gs_ne (r_176 1 _ (by decide) (by decide) zh1) (by decide)) rfl).trans ?_
                              refine (r_icmp_ge_t f66_36 (by decide)).trans ?_
                              refine (r_aloadn f66_126 rfl).trans ?_
                              refine (r_get (v := .int 0) f66_127 (gs_eq (r_176 48 _ (by decide) (by decide) zh48)) rfl).trans ?_
                              refine (r_if_ne_f f66_130 (by decide)).trans ?_
                              refine (r_aloadn f66_133 rfl).trans ?_
                              refine (r_iconst (v := 0) f66_134 rfl).trans ?_
                              refine (r_put (h' := ((y176.1.set 48 (.inr (5, [.ref 1, .ref 16, .ref 41, .ref 49, .int 0, .ref 50, .ref 51, .int 0, .ref 52, .int 0, .ref 53, .ref 54, .int 0, .int 0, .int 0, .int 0, .int 0]))), y176.2)) f66_135 (gs_eq (r_176 48 _ (by decide) (by decide) zh48)) rfl hss).trans ?_
                              refine (r_aloadn f66_138 rfl).trans ?_
                              refine (r_iconst (v := 0) f66_139 rfl).trans ?_
                              refine (r_put (h' := ((y176.1.set 48 (.inr (5, [.ref 1, .ref 16, .ref 41, .ref 49, .int 0, .ref 50, .ref 51, .int 0, .ref 52, .int 0, .ref 53, .ref 54, .int 0, .int 0, .int 0, .int 0, .int 0]))), y176.2)) f66_140 (gs_eq (r_176 48 _ (by decide) (by decide) zh48)) rfl hss).trans ?_
                              exact r_vreturn f66_143 rfl
                            refine (r_virt (as := [.int x1]) (v := none) (h1 := ((y176.1.set 48 (.inr (5, [.ref 1, .ref 16, .ref 41, .ref 49, .int 0, .ref 50, .ref 51, .int 0, .ref 52, .int 0, .ref 53, .ref 54, .int 0, .int 0, .int 0, .int 0, .int 0]))), y176.2)) f180_56 zh48 zg66 rfl rfl rfl rfl rfl rfl hc6).trans ?_
                            refine (r_iloadn f180_59 rfl).trans ?_
                            refine (r_lsw f180_60).trans ?_
                            refine (alw_f ec9).trans ?_
                            refine (alw_f ec10).trans ?_
                            refine (alw_d).trans ?_
                            refine (r_aloadn f180_104 rfl).trans ?_
                            refine (r_get (v := .ref 48) f180_105 (gs_ne (r_176 0 _ (by decide) (by decide) zh0) (by decide)) rfl).trans ?_
                            refine (r_iloadn f180_108 rfl).trans ?_
                            refine (r_bipush (v := 100) f180_109 rfl).trans ?_
                            refine (r_idiv (v := (x3 / 100)) f180_111 (by decide) rfl).trans ?_
                            refine (r_iloadn f180_112 rfl).trans ?_
                            refine (r_bipush (v := 100) f180_113 rfl).trans ?_
                            refine (r_irem (v := (x3 - x3 / 100 * 100)) f180_115 (by decide) rfl).trans ?_
                            have hc7 : arun X (n + 999960) (d + 19) zM67 0 [some (.ref 48), some (.int (x3 / 100)), some (.int (x3 - x3 / 100 * 100)), none, none] [] ((y176.1.set 48 (.inr (5, [.ref 1, .ref 16, .ref 41, .ref 49, .int 0, .ref 50, .ref 51, .int 0, .ref 52, .int 0, .ref 53, .ref 54, .int 0, .int 0, .int 0, .int 0, .int 0]))), y176.2) = some ((some (.int 1)), ((y176.1.set 48 (.inr (5, [.ref 1, .ref 16, .ref 41, .ref 49, .int 0, .ref 50, .ref 51, .int 0, .ref 52, .int 0, .ref 53, .ref 54, .int 0, .int 0, .int 0, .int 0, .int 0]))), y176.2)) := by
                              refine (r_iloadn f67_0 rfl).trans ?_
                              refine (r_i2l (v := ((x3 - x3 / 100 * 100)).toInt64) f67_1 rfl).trans ?_
                              refine (r_ldc2 (v := 100) f67_2 (by decide)).trans ?_
                              refine (r_aloadn f67_5 rfl).trans ?_
                              refine (r_get (v := .int 0) f67_6 (gs_eq (r_176 48 _ (by decide) (by decide) zh48)) rfl).trans ?_
                              have hc8 : arun X (n + 999954) (d + 18) zM69 0 [some (.long 100), none, some (.int 0), none, none, none] [] ((y176.1.set 48 (.inr (5, [.ref 1, .ref 16, .ref 41, .ref 49, .int 0, .ref 50, .ref 51, .int 0, .ref 52, .int 0, .ref 53, .ref 54, .int 0, .int 0, .int 0, .int 0, .int 0]))), y176.2) = some ((some (.long 1)), ((y176.1.set 48 (.inr (5, [.ref 1, .ref 16, .ref 41, .ref 49, .int 0, .ref 50, .ref 51, .int 0, .ref 52, .int 0, .ref 53, .ref 54, .int 0, .int 0, .int 0, .int 0, .int 0]))), y176.2)) := by
                                refine (r_lconst (v := 1) f69_0 rfl).trans ?_
                                refine (r_lstoren (L' := [some (.long 100), none, some (.int 0), some (.long 1), none, none]) f69_1 rfl rfl).trans ?_
                                refine (r_iconst (v := 0) f69_2 rfl).trans ?_
                                refine (r_istore (L' := [some (.long 100), none, some (.int 0), some (.long 1), none, some (.int 0)]) f69_3 rfl rfl).trans ?_
                                refine (r_iload f69_5 rfl).trans ?_
                                refine (r_iloadn f69_7 rfl).trans ?_
                                refine (r_icmp_ge_t f69_8 (by decide)).trans ?_
                                refine (r_lloadn f69_21 rfl).trans ?_
                                exact r_lreturn f69_22 rfl
                              refine (r_stat (as := [.long 100, .int 0]) (v := (some (.long 1))) (h1 := ((y176.1.set 48 (.inr (5, [.ref 1, .ref 16, .ref 41, .ref 49, .int 0, .ref 50, .ref 51, .int 0, .ref 52, .int 0, .ref 53, .ref 54, .int 0, .int 0, .int 0, .int 0, .int 0]))), y176.2)) f67_9 rfl zg69 rfl rfl rfl rfl rfl rfl hc8).trans ?_
                              refine (r_lmul (v := (((x3 - x3 / 100 * 100)).toInt64 * 1)) f67_12 rfl).trans ?_
                              refine (r_lstoren (L' := [some (.ref 48), some (.int (x3 / 100)), some (.int (x3 - x3 / 100 * 100)), some (.long (((x3 - x3 / 100 * 100)).toInt64 * 1)), none]) f67_13 rfl rfl).trans ?_
                              refine (r_ldc2 (v := 100) f67_14 (by decide)).trans ?_
                              refine (r_aloadn f67_17 rfl).trans ?_
                              refine (r_aloadn f67_18 rfl).trans ?_
                              refine (r_get (v := .int 0) f67_19 (gs_eq (r_176 48 _ (by decide) (by decide) zh48)) rfl).trans ?_
                              refine (r_aloadn f67_22 rfl).trans ?_
                              refine (r_get (v := .int 0) f67_23 (gs_eq (r_176 48 _ (by decide) (by decide) zh48)) rfl).trans ?_
                              refine (r_iloadn f67_26 rfl).trans ?_
                              have hc9 : arun X (n + 999944) (d + 18) zM68 0 [some (.ref 48), some (.int 0), some (.int 0), some (.int (x3 / 100)), none, none, none, none, none] [] ((y176.1.set 48 (.inr (5, [.ref 1, .ref 16, .ref 41, .ref 49, .int 0, .ref 50, .ref 51, .int 0, .ref 52, .int 0, .ref 53, .ref 54, .int 0, .int 0, .int 0, .int 0, .int 0]))), y176.2) = some ((some (.long 1)), ((y176.1.set 48 (.inr (5, [.ref 1, .ref 16, .ref 41, .ref 49, .int 0, .ref 50, .ref 51, .int 0, .ref 52, .int 0, .ref 53, .ref 54, .int 0, .int 0, .int 0, .int 0, .int 0]))), y176.2)) := by
                                refine (r_lconst (v := 0) f68_0 rfl).trans ?_
                                refine (r_lstore (L' := [some (.ref 48), some (.int 0), some (.int 0), some (.int (x3 / 100)), some (.long 0), none, none, none, none]) f68_1 rfl rfl).trans ?_
                                refine (r_lconst (v := 1) f68_3 rfl).trans ?_
                                refine (r_lstore (L' := [some (.ref 48), some (.int 0), some (.int 0), some (.int (x3 / 100)), some (.long 0), none, some (.long 1), none, none]) f68_4 rfl rfl).trans ?_
                                refine (r_iconst (v := 0) f68_6 rfl).trans ?_
                                refine (r_istore (L' := [some (.ref 48), some (.int 0), some (.int 0), some (.int (x3 / 100)), some (.long 0), none, some (.long 1), none, some (.int 0)]) f68_7 rfl rfl).trans ?_
                                refine (r_iload f68_9 rfl).trans ?_
                                refine (r_aloadn f68_11 rfl).trans ?_
                                refine (r_get (v := .int 0) f68_12 (gs_eq (r_176 48 _ (by decide) (by decide) zh48)) rfl).trans ?_
                                refine (r_icmp_gt_f f68_15 (by decide)).trans ?_
                                refine (r_iload f68_18 rfl).trans ?_
                                refine (r_iloadn f68_20 rfl).trans ?_
                                refine (r_iloadn f68_21 rfl).trans ?_
                                have hc10 : arun X (n + 999930) (d + 17) zM137 0 [some (.int 0), some (.int 0), some (.int 0)] [] ((y176.1.set 48 (.inr (5, [.ref 1, .ref 16, .ref 41, .ref 49, .int 0, .ref 50, .ref 51, .int 0, .ref 52, .int 0, .ref 53, .ref 54, .int 0, .int 0, .int 0, .int 0, .int 0]))), y176.2) = some ((some (.int 1)), ((y176.1.set 48 (.inr (5, [.ref 1, .ref 16, .ref 41, .ref 49, .int 0, .ref 50, .ref 51, .int 0, .ref 52, .int 0, .ref 53, .ref 54, .int 0, .int 0, .int 0, .int 0, .int 0]))), y176.2)) := by
                                  refine (r_iloadn f137_0 rfl).trans ?_
                                  refine (r_iloadn f137_1 rfl).trans ?_
                                  refine (r_icmp_gt_f f137_2 (by decide)).trans ?_
                                  refine (r_iloadn f137_5 rfl).trans ?_
                                  refine (r_iloadn f137_6 rfl).trans ?_
                                  refine (r_icmp_gt_f f137_7 (by decide)).trans ?_
                                  refine (r_iconst (v := 1) f137_10 rfl).trans ?_
                                  refine (r_goto f137_11).trans ?_
                                  exact r_zreturn f137_15 rfl (by decide)
                                refine (r_stat (as := [.int 0, .int 0, .int 0]) (v := (some (.int 1))) (h1 := ((y176.1.set 48 (.inr (5, [.ref 1, .ref 16, .ref 41, .ref 49, .int 0, .ref 50, .ref 51, .int 0, .ref 52, .int 0, .ref 53, .ref 54, .int 0, .int 0, .int 0, .int 0, .int 0]))), y176.2)) f68_22 rfl zg137 rfl rfl rfl rfl rfl rfl hc10).trans ?_
                                refine (r_if_eq_f f68_25 (by decide)).trans ?_
                                refine (r_lload f68_28 rfl).trans ?_
                                refine (r_lload f68_30 rfl).trans ?_
                                refine (r_iloadn f68_32 rfl).trans ?_
                                refine (r_i2l (v := ((x3 / 100)).toInt64) f68_33 rfl).trans ?_
                                refine (r_iload f68_34 rfl).trans ?_
                                have hc11 : arun X (n + 999923) (d + 17) zM69 0 [some (.long ((x3 / 100)).toInt64), none, some (.int 0), none, none, none] [] ((y176.1.set 48 (.inr (5, [.ref 1, .ref 16, .ref 41, .ref 49, .int 0, .ref 50, .ref 51, .int 0, .ref 52, .int 0, .ref 53, .ref 54, .int 0, .int 0, .int 0, .int 0, .int 0]))), y176.2) = some ((some (.long 1)), ((y176.1.set 48 (.inr (5, [.ref 1, .ref 16, .ref 41, .ref 49, .int 0, .ref 50, .ref 51, .int 0, .ref 52, .int 0, .ref 53, .ref 54, .int 0, .int 0, .int 0, .int 0, .int 0]))), y176.2)) := by
                                  refine (r_lconst (v := 1) f69_0 rfl).trans ?_
                                  refine (r_lstoren (L' := [some (.long ((x3 / 100)).toInt64), none, some (.int 0), some (.long 1), none, none]) f69_1 rfl rfl).trans ?_
                                  refine (r_iconst (v := 0) f69_2 rfl).trans ?_
                                  refine (r_istore (L' := [some (.long ((x3 / 100)).toInt64), none, some (.int 0), some (.long 1), none, some (.int 0)]) f69_3 rfl rfl).trans ?_
                                  refine (r_iload f69_5 rfl).trans ?_
                                  refine (r_iloadn f69_7 rfl).trans ?_
                                  refine (r_icmp_ge_t f69_8 (by decide)).trans ?_
                                  refine (r_lloadn f69_21 rfl).trans ?_
                                  exact r_lreturn f69_22 rfl
                                refine (r_stat (as := [.long ((x3 / 100)).toInt64, .int 0]) (v := (some (.long 1))) (h1 := ((y176.1.set 48 (.inr (5, [.ref 1, .ref 16, .ref 41, .ref 49, .int 0, .ref 50, .ref 51, .int 0, .ref 52, .int 0, .ref 53, .ref 54, .int 0, .int 0, .int 0, .int 0, .int 0]))), y176.2)) f68_36 rfl zg69 rfl rfl rfl rfl rfl rfl hc11).trans ?_
                                refine (r_lmul (v := 1) f68_39 (by decide)).trans ?_
                                refine (r_bipush (v := 100) f68_40 rfl).trans ?_
                                refine (r_iloadn f68_42 rfl).trans ?_
                                refine (r_isub (v := (100 - (x3 / 100))) f68_43 rfl).trans ?_
                                refine (r_i2l (v := ((100 - (x3 / 100))).toInt64) f68_44 rfl).trans ?_
                                refine (r_aloadn f68_45 rfl).trans ?_
                                refine (r_get (v := .int 0) f68_46 (gs_eq (r_176 48 _ (by decide) (by decide) zh48)) rfl).trans ?_
                                refine (r_iload f68_49 rfl).trans ?_
                                refine (r_isub (v := 0) f68_51 (by decide)).trans ?_
                                have hc12 : arun X (n + 999913) (d + 17) zM69 0 [some (.long ((100 - (x3 / 100))).toInt64), none, some (.int 0), none, none, none] [] ((y176.1.set 48 (.inr (5, [.ref 1, .ref 16, .ref 41, .ref 49, .int 0, .ref 50, .ref 51, .int 0, .ref 52, .int 0, .ref 53, .ref 54, .int 0, .int 0, .int 0, .int 0, .int 0]))), y176.2) = some ((some (.long 1)), ((y176.1.set 48 (.inr (5, [.ref 1, .ref 16, .ref 41, .ref 49, .int 0, .ref 50, .ref 51, .int 0, .ref 52, .int 0, .ref 53, .ref 54, .int 0, .int 0, .int 0, .int 0, .int 0]))), y176.2)) := by
                                  refine (r_lconst (v := 1) f69_0 rfl).trans ?_
                                  refine (r_lstoren (L' := [some (.long ((100 - (x3 / 100))).toInt64), none, some (.int 0), some (.long 1), none, none]) f69_1 rfl rfl).trans ?_
                                  refine (r_iconst (v := 0) f69_2 rfl).trans ?_
                                  refine (r_istore (L' := [some (.long ((100 - (x3 / 100))).toInt64), none, some (.int 0), some (.long 1), none, some (.int 0)]) f69_3 rfl rfl).trans ?_
                                  refine (r_iload f69_5 rfl).trans ?_
                                  refine (r_iloadn f69_7 rfl).trans ?_
                                  refine (r_icmp_ge_t f69_8 (by decide)).trans ?_
                                  refine (r_lloadn f69_21 rfl).trans ?_
                                  exact r_lreturn f69_22 rfl
                                refine (r_stat (as := [.long ((100 - (x3 / 100))).toInt64, .int 0]) (v := (some (.long 1))) (h1 := ((y176.1.set 48 (.inr (5, [.ref 1, .ref 16, .ref 41, .ref 49, .int 0, .ref 50, .ref 51, .int 0, .ref 52, .int 0, .ref 53, .ref 54, .int 0, .int 0, .int 0, .int 0, .int 0]))), y176.2)) f68_52 rfl zg69 rfl rfl rfl rfl rfl rfl hc12).trans ?_
                                refine (r_lmul (v := 1) f68_55 (by decide)).trans ?_
                                refine (r_ladd (v := 1) f68_56 (by decide)).trans ?_
                                refine (r_lstore (L' := [some (.ref 48), some (.int 0), some (.int 0), some (.int (x3 / 100)), some (.long 1), none, some (.long 1), none, some (.int 0)]) f68_57 rfl rfl).trans ?_
                                refine (r_lload f68_59 rfl).trans ?_
                                refine (r_aloadn f68_61 rfl).trans ?_
                                refine (r_get (v := .int 0) f68_62 (gs_eq (r_176 48 _ (by decide) (by decide) zh48)) rfl).trans ?_
                                refine (r_iload f68_65 rfl).trans ?_
                                refine (r_isub (v := 0) f68_67 (by decide)).trans ?_
                                refine (r_i2l (v := 0) f68_68 (by decide)).trans ?_
                                refine (r_lmul (v := 0) f68_69 (by decide)).trans ?_
                                refine (r_iload f68_70 rfl).trans ?_
                                refine (r_iconst (v := 1) f68_72 rfl).trans ?_
                                refine (r_iadd (v := 1) f68_73 (by decide)).trans ?_
                                refine (r_i2l (v := 1) f68_74 (by decide)).trans ?_
                                refine (r_ldiv (v := 0) f68_75 (by decide) (by decide)).trans ?_
                                refine (r_lstore (L' := [some (.ref 48), some (.int 0), some (.int 0), some (.int (x3 / 100)), some (.long 1), none, some (.long 0), none, some (.int 0)]) f68_76 rfl rfl).trans ?_
                                refine (r_iinc (v := 1) (L' := [some (.ref 48), some (.int 0), some (.int 0), some (.int (x3 / 100)), some (.long 1), none, some (.long 0), none, some (.int 1)]) f68_78 rfl rfl rfl).trans ?_
                                refine (r_goto f68_81).trans ?_
                                refine (r_iload f68_9 rfl).trans ?_
                                refine (r_aloadn f68_11 rfl).trans ?_
                                refine (r_get (v := .int 0) f68_12 (gs_eq (r_176 48 _ (by decide) (by decide) zh48)) rfl).trans ?_
                                refine (r_icmp_gt_t f68_15 (by decide)).trans ?_
                                refine (r_lload f68_84 rfl).trans ?_
                                exact r_lreturn f68_86 rfl
                              refine (r_virt (as := [.int 0, .int 0, .int (x3 / 100)]) (v := (some (.long 1))) (h1 := ((y176.1.set 48 (.inr (5, [.ref 1, .ref 16, .ref 41, .ref 49, .int 0, .ref 50, .ref 51, .int 0, .ref 52, .int 0, .ref 53, .ref 54, .int 0, .int 0, .int 0, .int 0, .int 0]))), y176.2)) f67_27 (gs_eq (r_176 48 _ (by decide) (by decide) zh48)) zg68 rfl rfl rfl rfl rfl rfl hc9).trans ?_
                              refine (r_lmul (v := 100) f67_30 (by decide)).trans ?_
                              refine (r_lloadn f67_31 rfl).trans ?_
                              refine (r_lcmp (v := (lg_cmp 100 (((x3 - x3 / 100 * 100)).toInt64 * 1))) f67_32 rfl).trans ?_
                              refine (r_if_ge_f f67_33 ec11).trans ?_
                              refine (r_iconst (v := 1) f67_36 rfl).trans ?_
                              exact r_ireturn f67_37 rfl
                            refine (r_virt (as := [.int (x3 / 100), .int (x3 - x3 / 100 * 100)]) (v := (some (.int 1))) (h1 := ((y176.1.set 48 (.inr (5, [.ref 1, .ref 16, .ref 41, .ref 49, .int 0, .ref 50, .ref 51, .int 0, .ref 52, .int 0, .ref 53, .ref 54, .int 0, .int 0, .int 0, .int 0, .int 0]))), y176.2)) f180_116 (gs_eq (r_176 48 _ (by decide) (by decide) zh48)) zg67 rfl rfl rfl rfl rfl rfl hc7).trans ?_
                            exact r_ireturn f180_119 rfl
                          ·
                            refine (r_iloadn f298_0 rfl).trans ?_
                            have hc1 : arun X (n + 999998) (d + 19) zM198 0 [some (.int x1)] [] ((y176.1.set 48 (.inr (5, [.ref 1, .ref 16, .ref 41, .ref 49, .int 0, .ref 50, .ref 51, .int 0, .ref 52, .int 0, .ref 53, .ref 54, .int 0, .int 0, .int 0, .int 0, .int 0]))), y176.2) = some ((some (.int 1)), ((y176.1.set 48 (.inr (5, [.ref 1, .ref 16, .ref 41, .ref 49, .int 0, .ref 50, .ref 51, .int 0, .ref 52, .int 0, .ref 53, .ref 54, .int 0, .int 0, .int 0, .int 0, .int 0]))), y176.2)) := by
                              refine (r_iloadn f198_0 rfl).trans ?_
                              refine (r_iconst (v := 0) f198_1 rfl).trans ?_
                              refine (r_bipush (v := 9) f198_2 rfl).trans ?_
                              have hc2 : arun X (n + 999994) (d + 18) zM196 0 [some (.int x1), some (.int 0), some (.int 9)] [] ((y176.1.set 48 (.inr (5, [.ref 1, .ref 16, .ref 41, .ref 49, .int 0, .ref 50, .ref 51, .int 0, .ref 52, .int 0, .ref 53, .ref 54, .int 0, .int 0, .int 0, .int 0, .int 0]))), y176.2) = some ((some (.int 1)), ((y176.1.set 48 (.inr (5, [.ref 1, .ref 16, .ref 41, .ref 49, .int 0, .ref 50, .ref 51, .int 0, .ref 52, .int 0, .ref 53, .ref 54, .int 0, .int 0, .int 0, .int 0, .int 0]))), y176.2)) := by
                                refine (r_iloadn f196_0 rfl).trans ?_
                                refine (r_iloadn f196_1 rfl).trans ?_
                                refine (r_icmp_lt_f f196_2 ec0).trans ?_
                                refine (r_iloadn f196_5 rfl).trans ?_
                                refine (r_iloadn f196_6 rfl).trans ?_
                                refine (r_icmp_gt_f f196_7 ec1).trans ?_
                                refine (r_iconst (v := 1) f196_10 rfl).trans ?_
                                refine (r_goto f196_11).trans ?_
                                exact r_zreturn f196_15 rfl (by decide)
                              refine (r_stat (as := [.int x1, .int 0, .int 9]) (v := (some (.int 1))) (h1 := ((y176.1.set 48 (.inr (5, [.ref 1, .ref 16, .ref 41, .ref 49, .int 0, .ref 50, .ref 51, .int 0, .ref 52, .int 0, .ref 53, .ref 54, .int 0, .int 0, .int 0, .int 0, .int 0]))), y176.2)) f198_4 rfl zg196 rfl rfl rfl rfl rfl rfl hc2).trans ?_
                              exact r_zreturn f198_7 rfl (by decide)
                            refine (r_stat (as := [.int x1]) (v := (some (.int 1))) (h1 := ((y176.1.set 48 (.inr (5, [.ref 1, .ref 16, .ref 41, .ref 49, .int 0, .ref 50, .ref 51, .int 0, .ref 52, .int 0, .ref 53, .ref 54, .int 0, .int 0, .int 0, .int 0, .int 0]))), y176.2)) f298_1 rfl zg198 rfl rfl rfl rfl rfl rfl hc1).trans ?_
                            refine (r_if_eq_f f298_4 (by decide)).trans ?_
                            refine (r_iloadn f298_7 rfl).trans ?_
                            refine (r_iconst (v := 0) f298_8 rfl).trans ?_
                            refine (r_iconst (v := 2) f298_9 rfl).trans ?_
                            have hc3 : arun X (n + 999993) (d + 19) zM196 0 [some (.int x2), some (.int 0), some (.int 2)] [] ((y176.1.set 48 (.inr (5, [.ref 1, .ref 16, .ref 41, .ref 49, .int 0, .ref 50, .ref 51, .int 0, .ref 52, .int 0, .ref 53, .ref 54, .int 0, .int 0, .int 0, .int 0, .int 0]))), y176.2) = some ((some (.int 1)), ((y176.1.set 48 (.inr (5, [.ref 1, .ref 16, .ref 41, .ref 49, .int 0, .ref 50, .ref 51, .int 0, .ref 52, .int 0, .ref 53, .ref 54, .int 0, .int 0, .int 0, .int 0, .int 0]))), y176.2)) := by
                              refine (r_iloadn f196_0 rfl).trans ?_
                              refine (r_iloadn f196_1 rfl).trans ?_
                              refine (r_icmp_lt_f f196_2 ec2).trans ?_
                              refine (r_iloadn f196_5 rfl).trans ?_
                              refine (r_iloadn f196_6 rfl).trans ?_
                              refine (r_icmp_gt_f f196_7 ec3).trans ?_
                              refine (r_iconst (v := 1) f196_10 rfl).trans ?_
                              refine (r_goto f196_11).trans ?_
                              exact r_zreturn f196_15 rfl (by decide)
                            refine (r_stat (as := [.int x2, .int 0, .int 2]) (v := (some (.int 1))) (h1 := ((y176.1.set 48 (.inr (5, [.ref 1, .ref 16, .ref 41, .ref 49, .int 0, .ref 50, .ref 51, .int 0, .ref 52, .int 0, .ref 53, .ref 54, .int 0, .int 0, .int 0, .int 0, .int 0]))), y176.2)) f298_10 rfl zg196 rfl rfl rfl rfl rfl rfl hc3).trans ?_
                            refine (r_if_eq_f f298_13 (by decide)).trans ?_
                            refine (r_iloadn f298_16 rfl).trans ?_
                            refine (r_iconst (v := 2) f298_17 rfl).trans ?_
                            refine (r_icmp_ne_f f298_18 ec4).trans ?_
                            refine (r_iloadn f298_21 rfl).trans ?_
                            refine (r_bipush (v := 100) f298_22 rfl).trans ?_
                            refine (r_sipush (v := 9949) f298_24 rfl).trans ?_
                            have hc4 : arun X (n + 999985) (d + 19) zM196 0 [some (.int x3), some (.int 100), some (.int 9949)] [] ((y176.1.set 48 (.inr (5, [.ref 1, .ref 16, .ref 41, .ref 49, .int 0, .ref 50, .ref 51, .int 0, .ref 52, .int 0, .ref 53, .ref 54, .int 0, .int 0, .int 0, .int 0, .int 0]))), y176.2) = some ((some (.int 1)), ((y176.1.set 48 (.inr (5, [.ref 1, .ref 16, .ref 41, .ref 49, .int 0, .ref 50, .ref 51, .int 0, .ref 52, .int 0, .ref 53, .ref 54, .int 0, .int 0, .int 0, .int 0, .int 0]))), y176.2)) := by
                              refine (r_iloadn f196_0 rfl).trans ?_
                              refine (r_iloadn f196_1 rfl).trans ?_
                              refine (r_icmp_lt_f f196_2 em0).trans ?_
                              refine (r_iloadn f196_5 rfl).trans ?_
                              refine (r_iloadn f196_6 rfl).trans ?_
                              refine (r_icmp_gt_f f196_7 em1).trans ?_
                              refine (r_iconst (v := 1) f196_10 rfl).trans ?_
                              refine (r_goto f196_11).trans ?_
                              exact r_zreturn f196_15 rfl (by decide)
                            refine (r_stat (as := [.int x3, .int 100, .int 9949]) (v := (some (.int 1))) (h1 := ((y176.1.set 48 (.inr (5, [.ref 1, .ref 16, .ref 41, .ref 49, .int 0, .ref 50, .ref 51, .int 0, .ref 52, .int 0, .ref 53, .ref 54, .int 0, .int 0, .int 0, .int 0, .int 0]))), y176.2)) f298_27 rfl zg196 rfl rfl rfl rfl rfl rfl hc4).trans ?_
                            refine (r_if_eq_f f298_30 (by decide)).trans ?_
                            refine (r_iloadn f298_33 rfl).trans ?_
                            refine (r_bipush (v := 100) f298_34 rfl).trans ?_
                            refine (r_irem (v := (x3 - x3 / 100 * 100)) f298_36 (by decide) rfl).trans ?_
                            refine (r_iconst (v := 1) f298_37 rfl).trans ?_
                            refine (r_bipush (v := 49) f298_38 rfl).trans ?_
                            have hc5 : arun X (n + 999978) (d + 19) zM196 0 [some (.int (x3 - x3 / 100 * 100)), some (.int 1), some (.int 49)] [] ((y176.1.set 48 (.inr (5, [.ref 1, .ref 16, .ref 41, .ref 49, .int 0, .ref 50, .ref 51, .int 0, .ref 52, .int 0, .ref 53, .ref 54, .int 0, .int 0, .int 0, .int 0, .int 0]))), y176.2) = some ((some (.int 1)), ((y176.1.set 48 (.inr (5, [.ref 1, .ref 16, .ref 41, .ref 49, .int 0, .ref 50, .ref 51, .int 0, .ref 52, .int 0, .ref 53, .ref 54, .int 0, .int 0, .int 0, .int 0, .int 0]))), y176.2)) := by
                              refine (r_iloadn f196_0 rfl).trans ?_
                              refine (r_iloadn f196_1 rfl).trans ?_
                              refine (r_icmp_lt_f f196_2 ec7).trans ?_
                              refine (r_iloadn f196_5 rfl).trans ?_
                              refine (r_iloadn f196_6 rfl).trans ?_
                              refine (r_icmp_gt_f f196_7 ec8).trans ?_
                              refine (r_iconst (v := 1) f196_10 rfl).trans ?_
                              refine (r_goto f196_11).trans ?_
                              exact r_zreturn f196_15 rfl (by decide)
                            refine (r_stat (as := [.int (x3 - x3 / 100 * 100), .int 1, .int 49]) (v := (some (.int 1))) (h1 := ((y176.1.set 48 (.inr (5, [.ref 1, .ref 16, .ref 41, .ref 49, .int 0, .ref 50, .ref 51, .int 0, .ref 52, .int 0, .ref 53, .ref 54, .int 0, .int 0, .int 0, .int 0, .int 0]))), y176.2)) f298_40 rfl zg196 rfl rfl rfl rfl rfl rfl hc5).trans ?_
                            refine (r_if_ne_t f298_43 (by decide)).trans ?_
                            refine (r_aloadn f298_48 rfl).trans ?_
                            refine (r_aloadn f298_49 rfl).trans ?_
                            refine (r_get (v := .int 0) f298_50 (gs_ne (r_176 72 _ (by decide) (by decide) zh72) (by decide)) rfl).trans ?_
                            refine (r_virt (as := [.int 0]) (v := none) (h1 := y184) f298_53 (gs_ne (r_176 72 _ (by decide) (by decide) zh72) (by decide)) zg239 rfl rfl rfl rfl rfl rfl (e_184 X (n + 799973) (d + 15))).trans ?_
                            refine (r_iconst (v := 0) f298_56 rfl).trans ?_
                            refine (r_istore (L' := [some (.ref 72), some (.int x1), some (.int x2), some (.int x3), some (.int 0), none, none, none, none, none]) f298_57 rfl rfl).trans ?_
                            refine (r_iconst (v := 0) f298_59 rfl).trans ?_
                            refine (r_istore (L' := [some (.ref 72), some (.int x1), some (.int x2), some (.int x3), some (.int 0), some (.int 0), none, none, none, none]) f298_60 rfl rfl).trans ?_
                            refine (r_iconst (v := 0) f298_62 rfl).trans ?_
                            refine (r_istore (L' := [some (.ref 72), some (.int x1), some (.int x2), some (.int x3), some (.int 0), some (.int 0), some (.int 0), none, none, none]) f298_63 rfl rfl).trans ?_
                            refine (r_iconst (v := 0) f298_65 rfl).trans ?_
                            refine (r_istore (L' := [some (.ref 72), some (.int x1), some (.int x2), some (.int x3), some (.int 0), some (.int 0), some (.int 0), some (.int 0), none, none]) f298_66 rfl rfl).trans ?_
                            refine (r_iconst (v := 0) f298_68 rfl).trans ?_
                            refine (r_istore (L' := [some (.ref 72), some (.int x1), some (.int x2), some (.int x3), some (.int 0), some (.int 0), some (.int 0), some (.int 0), some (.int 0), none]) f298_69 rfl rfl).trans ?_
                            refine (r_iload f298_71 rfl).trans ?_
                            refine (r_aloadn f298_73 rfl).trans ?_
                            refine (r_get (v := .int 0) f298_74 q_184 rfl).trans ?_
                            refine (r_icmp_ge_t f298_77 (by decide)).trans ?_
                            refine (r_iloadn f298_169 rfl).trans ?_
                            refine (r_iconst (v := 2) f298_170 rfl).trans ?_
                            refine (r_icmp_ge_t f298_171 em2).trans ?_
                            refine (r_iloadn f298_186 rfl).trans ?_
                            refine (r_bipush (v := 100) f298_187 rfl).trans ?_
                            refine (r_irem (v := (x3 - x3 / 100 * 100)) f298_189 (by decide) rfl).trans ?_
                            refine (r_i2l (v := ((x3 - x3 / 100 * 100)).toInt64) f298_190 rfl).trans ?_
                            refine (r_ldc2 (v := 100) f298_191 (by decide)).trans ?_
                            refine (r_iload f298_194 rfl).trans ?_
                            have hc6 : arun X (n + 999949) (d + 19) zM296 0 [some (.long 100), none, some (.int 0), none, none, none] [] y184 = some ((some (.long 1)), y184) := by
                              refine (r_lconst (v := 1) f296_0 rfl).trans ?_
                              refine (r_lstoren (L' := [some (.long 100), none, some (.int 0), some (.long 1), none, none]) f296_1 rfl rfl).trans ?_
                              refine (r_iconst (v := 0) f296_2 rfl).trans ?_
                              refine (r_istore (L' := [some (.long 100), none, some (.int 0), some (.long 1), none, some (.int 0)]) f296_3 rfl rfl).trans ?_
                              refine (r_iload f296_5 rfl).trans ?_
                              refine (r_iloadn f296_7 rfl).trans ?_
                              refine (r_icmp_ge_t f296_8 (by decide)).trans ?_
                              refine (r_lloadn f296_21 rfl).trans ?_
                              exact r_lreturn f296_22 rfl
                            refine (r_stat (as := [.long 100, .int 0]) (v := (some (.long 1))) (h1 := y184) f298_196 rfl zg296 rfl rfl rfl rfl rfl rfl hc6).trans ?_
                            refine (r_lmul (v := (((x3 - x3 / 100 * 100)).toInt64 * 1)) f298_199 rfl).trans ?_
                            refine (r_lstore (L' := [some (.ref 72), some (.int x1), some (.int x2), some (.int x3), some (.int 0), some (.int 0), some (.int 0), some (.int 0), some (.long (((x3 - x3 / 100 * 100)).toInt64 * 1)), none]) f298_200 rfl rfl).trans ?_
                            refine (r_ldc2 (v := 100) f298_202 (by decide)).trans ?_
                            refine (r_iload f298_205 rfl).trans ?_
                            refine (r_iload f298_207 rfl).trans ?_
                            refine (r_iload f298_209 rfl).trans ?_
                            refine (r_iloadn f298_211 rfl).trans ?_
                            refine (r_bipush (v := 100) f298_212 rfl).trans ?_
                            refine (r_idiv (v := (x3 / 100)) f298_214 (by decide) rfl).trans ?_
                            have hc7 : arun X (n + 999939) (d + 19) zM297 0 [some (.int 0), some (.int 0), some (.int 0), some (.int (x3 / 100)), none, none, none, none, none, none] [] y184 = some ((some (.long 1)), y184) := by
                              refine (r_lconst (v := 0) f297_0 rfl).trans ?_
                              refine (r_lstore (L' := [some (.int 0), some (.int 0), some (.int 0), some (.int (x3 / 100)), some (.long 0), none, none, none, none, none]) f297_1 rfl rfl).trans ?_
                              refine (r_iloadn f297_3 rfl).trans ?_
                              refine (r_istore (L' := [some (.int 0), some (.int 0), some (.int 0), some (.int (x3 / 100)), some (.long 0), none, some (.int 0), none, none, none]) f297_4 rfl rfl).trans ?_
                              refine (r_iload f297_6 rfl).trans ?_
                              refine (r_iloadn f297_8 rfl).trans ?_
                              refine (r_icmp_gt_f f297_9 (by decide)).trans ?_
                              refine (r_lconst (v := 1) f297_12 rfl).trans ?_
                              refine (r_lstore (L' := [some (.int 0), some (.int 0), some (.int 0), some (.int (x3 / 100)), some (.long 0), none, some (.int 0), some (.long 1), none, none]) f297_13 rfl rfl).trans ?_
                              refine (r_iconst (v := 1) f297_15 rfl).trans ?_
                              refine (r_istore (L' := [some (.int 0), some (.int 0), some (.int 0), some (.int (x3 / 100)), some (.long 0), none, some (.int 0), some (.long 1), none, some (.int 1)]) f297_16 rfl rfl).trans ?_
                              refine (r_iload f297_18 rfl).trans ?_
                              refine (r_iload f297_20 rfl).trans ?_
                              refine (r_icmp_gt_t f297_22 (by decide)).trans ?_
                              refine (r_lload f297_48 rfl).trans ?_
                              refine (r_lload f297_50 rfl).trans ?_
                              refine (r_iloadn f297_52 rfl).trans ?_
                              refine (r_i2l (v := ((x3 / 100)).toInt64) f297_53 rfl).trans ?_
                              refine (r_iload f297_54 rfl).trans ?_
                              have hc8 : arun X (n + 999919) (d + 18) zM296 0 [some (.long ((x3 / 100)).toInt64), none, some (.int 0), none, none, none] [] y184 = some ((some (.long 1)), y184) := by
                                refine (r_lconst (v := 1) f296_0 rfl).trans ?_
                                refine (r_lstoren (L' := [some (.long ((x3 / 100)).toInt64), none, some (.int 0), some (.long 1), none, none]) f296_1 rfl rfl).trans ?_
                                refine (r_iconst (v := 0) f296_2 rfl).trans ?_
                                refine (r_istore (L' := [some (.long ((x3 / 100)).toInt64), none, some (.int 0), some (.long 1), none, some (.int 0)]) f296_3 rfl rfl).trans ?_
                                refine (r_iload f296_5 rfl).trans ?_
                                refine (r_iloadn f296_7 rfl).trans ?_
                                refine (r_icmp_ge_t f296_8 (by decide)).trans ?_
                                refine (r_lloadn f296_21 rfl).trans ?_
                                exact r_lreturn f296_22 rfl
                              refine (r_stat (as := [.long ((x3 / 100)).toInt64, .int 0]) (v := (some (.long 1))) (h1 := y184) f297_56 rfl zg296 rfl rfl rfl rfl rfl rfl hc8).trans ?_
                              refine (r_lmul (v := 1) f297_59 (by decide)).trans ?_
                              refine (r_bipush (v := 100) f297_60 rfl).trans ?_
                              refine (r_iloadn f297_62 rfl).trans ?_
                              refine (r_isub (v := (100 - (x3 / 100))) f297_63 rfl).trans ?_
                              refine (r_i2l (v := ((100 - (x3 / 100))).toInt64) f297_64 rfl).trans ?_
                              refine (r_iloadn f297_65 rfl).trans ?_
                              refine (r_iload f297_66 rfl).trans ?_
                              refine (r_isub (v := 0) f297_68 (by decide)).trans ?_
                              have hc9 : arun X (n + 999910) (d + 18) zM296 0 [some (.long ((100 - (x3 / 100))).toInt64), none, some (.int 0), none, none, none] [] y184 = some ((some (.long 1)), y184) := by
                                refine (r_lconst (v := 1) f296_0 rfl).trans ?_
                                refine (r_lstoren (L' := [some (.long ((100 - (x3 / 100))).toInt64), none, some (.int 0), some (.long 1), none, none]) f296_1 rfl rfl).trans ?_
                                refine (r_iconst (v := 0) f296_2 rfl).trans ?_
                                refine (r_istore (L' := [some (.long ((100 - (x3 / 100))).toInt64), none, some (.int 0), some (.long 1), none, some (.int 0)]) f296_3 rfl rfl).trans ?_
                                refine (r_iload f296_5 rfl).trans ?_
                                refine (r_iloadn f296_7 rfl).trans ?_
                                refine (r_icmp_ge_t f296_8 (by decide)).trans ?_
                                refine (r_lloadn f296_21 rfl).trans ?_
                                exact r_lreturn f296_22 rfl
                              refine (r_stat (as := [.long ((100 - (x3 / 100))).toInt64, .int 0]) (v := (some (.long 1))) (h1 := y184) f297_69 rfl zg296 rfl rfl rfl rfl rfl rfl hc9).trans ?_
                              refine (r_lmul (v := 1) f297_72 (by decide)).trans ?_
                              refine (r_ladd (v := 1) f297_73 (by decide)).trans ?_
                              refine (r_lstore (L' := [some (.int 0), some (.int 0), some (.int 0), some (.int (x3 / 100)), some (.long 1), none, some (.int 0), some (.long 1), none, some (.int 1)]) f297_74 rfl rfl).trans ?_
                              refine (r_iinc (v := 1) (L' := [some (.int 0), some (.int 0), some (.int 0), some (.int (x3 / 100)), some (.long 1), none, some (.int 1), some (.long 1), none, some (.int 1)]) f297_76 rfl rfl rfl).trans ?_
                              refine (r_goto f297_79).trans ?_
                              refine (r_iload f297_6 rfl).trans ?_
                              refine (r_iloadn f297_8 rfl).trans ?_
                              refine (r_icmp_gt_t f297_9 (by decide)).trans ?_
                              refine (r_lload f297_82 rfl).trans ?_
                              exact r_lreturn f297_84 rfl
                            refine (r_stat (as := [.int 0, .int 0, .int 0, .int (x3 / 100)]) (v := (some (.long 1))) (h1 := y184) f298_215 rfl zg297 rfl rfl rfl rfl rfl rfl hc7).trans ?_
                            refine (r_lmul (v := 100) f298_218 (by decide)).trans ?_
                            refine (r_lload f298_219 rfl).trans ?_
                            refine (r_lcmp (v := (lg_cmp 100 (((x3 - x3 / 100 * 100)).toInt64 * 1))) f298_221 rfl).trans ?_
                            refine (r_if_ge_f f298_222 ec11).trans ?_
                            refine (r_iconst (v := 1) f298_225 rfl).trans ?_
                            exact r_ireturn f298_226 rfl
                          · exact Nat.le_trans (Nat.le_of_eq (l_184.trans (gs_ls l_176))) (by decide)
                          · show y184.2 ≤ 7302250
                            have hz : zH0.2 ≤ 100000 := by decide
                            dsimp only at *
                            omega

-- ===== a call with loops (by program) =====
set_option maxHeartbeats 40000000 in
set_option maxRecDepth 20000 in
theorem pc_34 (x1 : Int32) (x2 : Int32) (x3 : Int32) : ∃ (v : Int32) (h1 h2 : aH), (∀ (X : aX) (n d : Nat), arun X (n + 1000000) (d + 20) zM178 0 [some (.ref 0), some (.int x1), some (.int x2), some (.int x3)] [] zH0 = some (some (.int v), h1)) ∧ (∀ (X : aX) (n d : Nat), arun X (n + 1000000) (d + 20) zM292 0 [some (.ref 72), some (.int x1), some (.int x2), some (.int x3), none, none, none, none, none, none] [] h1 = some (some (.int v), h2)) ∧ h1.1[72]? = some (.inr (12, zF72)) ∧ h2.1.length ≤ 600000 ∧ h2.2 ≤ 7302250 := by
  by_cases ec0 : x1 < 0
  ·
    refine ⟨(-1), zH0, zH0, fun X n d => ?_, fun X n d => ?_, zh72, ?_, ?_⟩
    ·
      refine (r_iloadn f178_0 rfl).trans ?_
      have hc1 : arun X (n + 999998) (d + 19) zM140 0 [some (.int x1)] [] zH0 = some ((some (.int 0)), zH0) := by
        refine (r_iloadn f140_0 rfl).trans ?_
        refine (r_iconst (v := 0) f140_1 rfl).trans ?_
        refine (r_iconst (v := 3) f140_2 rfl).trans ?_
        have hc2 : arun X (n + 999994) (d + 18) zM137 0 [some (.int x1), some (.int 0), some (.int 3)] [] zH0 = some ((some (.int 0)), zH0) := by
          refine (r_iloadn f137_0 rfl).trans ?_
          refine (r_iloadn f137_1 rfl).trans ?_
          refine (r_icmp_gt_t f137_2 ec0).trans ?_
          refine (r_iconst (v := 0) f137_14 rfl).trans ?_
          exact r_zreturn f137_15 rfl (by decide)
        refine (r_stat (as := [.int x1, .int 0, .int 3]) (v := (some (.int 0))) (h1 := zH0) f140_3 rfl zg137 rfl rfl rfl rfl rfl rfl hc2).trans ?_
        exact r_zreturn f140_6 rfl (by decide)
      refine (r_stat (as := [.int x1]) (v := (some (.int 0))) (h1 := zH0) f178_1 rfl zg140 rfl rfl rfl rfl rfl rfl hc1).trans ?_
      refine (r_if_eq_t f178_4 (by decide)).trans ?_
      refine (r_iconst (v := (-1)) f178_24 rfl).trans ?_
      exact r_ireturn f178_25 rfl
    ·
      refine (r_iloadn f292_0 rfl).trans ?_
      have hc1 : arun X (n + 999998) (d + 19) zM206 0 [some (.int x1)] [] zH0 = some ((some (.int 0)), zH0) := by
        refine (r_iloadn f206_0 rfl).trans ?_
        refine (r_iconst (v := 0) f206_1 rfl).trans ?_
        refine (r_iconst (v := 3) f206_2 rfl).trans ?_
        have hc2 : arun X (n + 999994) (d + 18) zM196 0 [some (.int x1), some (.int 0), some (.int 3)] [] zH0 = some ((some (.int 0)), zH0) := by
          refine (r_iloadn f196_0 rfl).trans ?_
          refine (r_iloadn f196_1 rfl).trans ?_
          refine (r_icmp_lt_t f196_2 ec0).trans ?_
          refine (r_iconst (v := 0) f196_14 rfl).trans ?_
          exact r_zreturn f196_15 rfl (by decide)
        refine (r_stat (as := [.int x1, .int 0, .int 3]) (v := (some (.int 0))) (h1 := zH0) f206_3 rfl zg196 rfl rfl rfl rfl rfl rfl hc2).trans ?_
        exact r_zreturn f206_6 rfl (by decide)
      refine (r_stat (as := [.int x1]) (v := (some (.int 0))) (h1 := zH0) f292_1 rfl zg206 rfl rfl rfl rfl rfl rfl hc1).trans ?_
      refine (r_if_eq_t f292_4 (by decide)).trans ?_
      refine (r_iconst (v := (-1)) f292_24 rfl).trans ?_
      exact r_ireturn f292_25 rfl
    · exact Nat.le_trans (Nat.le_of_eq zH0_len) (by decide)
    · decide
  ·
    by_cases ec1 : 3 < x1
    ·
      refine ⟨(-1), zH0, zH0, fun X n d => ?_, fun X n d => ?_, zh72, ?_, ?_⟩
      ·
        refine (r_iloadn f178_0 rfl).trans ?_
        have hc1 : arun X (n + 999998) (d + 19) zM140 0 [some (.int x1)] [] zH0 = some ((some (.int 0)), zH0) := by
          refine (r_iloadn f140_0 rfl).trans ?_
          refine (r_iconst (v := 0) f140_1 rfl).trans ?_
          refine (r_iconst (v := 3) f140_2 rfl).trans ?_
          have hc2 : arun X (n + 999994) (d + 18) zM137 0 [some (.int x1), some (.int 0), some (.int 3)] [] zH0 = some ((some (.int 0)), zH0) := by
            refine (r_iloadn f137_0 rfl).trans ?_
            refine (r_iloadn f137_1 rfl).trans ?_
            refine (r_icmp_gt_f f137_2 ec0).trans ?_
            refine (r_iloadn f137_5 rfl).trans ?_
            refine (r_iloadn f137_6 rfl).trans ?_
            refine (r_icmp_gt_t f137_7 ec1).trans ?_
            refine (r_iconst (v := 0) f137_14 rfl).trans ?_
            exact r_zreturn f137_15 rfl (by decide)
          refine (r_stat (as := [.int x1, .int 0, .int 3]) (v := (some (.int 0))) (h1 := zH0) f140_3 rfl zg137 rfl rfl rfl rfl rfl rfl hc2).trans ?_
          exact r_zreturn f140_6 rfl (by decide)
        refine (r_stat (as := [.int x1]) (v := (some (.int 0))) (h1 := zH0) f178_1 rfl zg140 rfl rfl rfl rfl rfl rfl hc1).trans ?_
        refine (r_if_eq_t f178_4 (by decide)).trans ?_
        refine (r_iconst (v := (-1)) f178_24 rfl).trans ?_
        exact r_ireturn f178_25 rfl
      ·
        refine (r_iloadn f292_0 rfl).trans ?_
        have hc1 : arun X (n + 999998) (d + 19) zM206 0 [some (.int x1)] [] zH0 = some ((some (.int 0)), zH0) := by
          refine (r_iloadn f206_0 rfl).trans ?_
          refine (r_iconst (v := 0) f206_1 rfl).trans ?_
          refine (r_iconst (v := 3) f206_2 rfl).trans ?_
          have hc2 : arun X (n + 999994) (d + 18) zM196 0 [some (.int x1), some (.int 0), some (.int 3)] [] zH0 = some ((some (.int 0)), zH0) := by
            refine (r_iloadn f196_0 rfl).trans ?_
            refine (r_iloadn f196_1 rfl).trans ?_
            refine (r_icmp_lt_f f196_2 ec0).trans ?_
            refine (r_iloadn f196_5 rfl).trans ?_
            refine (r_iloadn f196_6 rfl).trans ?_
            refine (r_icmp_gt_t f196_7 ec1).trans ?_
            refine (r_iconst (v := 0) f196_14 rfl).trans ?_
            exact r_zreturn f196_15 rfl (by decide)
          refine (r_stat (as := [.int x1, .int 0, .int 3]) (v := (some (.int 0))) (h1 := zH0) f206_3 rfl zg196 rfl rfl rfl rfl rfl rfl hc2).trans ?_
          exact r_zreturn f206_6 rfl (by decide)
        refine (r_stat (as := [.int x1]) (v := (some (.int 0))) (h1 := zH0) f292_1 rfl zg206 rfl rfl rfl rfl rfl rfl hc1).trans ?_
        refine (r_if_eq_t f292_4 (by decide)).trans ?_
        refine (r_iconst (v := (-1)) f292_24 rfl).trans ?_
        exact r_ireturn f292_25 rfl
      · exact Nat.le_trans (Nat.le_of_eq zH0_len) (by decide)
      · decide
    ·
      by_cases ec2 : x2 < 0
      ·
        refine ⟨(-1), zH0, zH0, fun X n d => ?_, fun X n d => ?_, zh72, ?_, ?_⟩
        ·
          refine (r_iloadn f178_0 rfl).trans ?_
          have hc1 : arun X (n + 999998) (d + 19) zM140 0 [some (.int x1)] [] zH0 = some ((some (.int 1)), zH0) := by
            refine (r_iloadn f140_0 rfl).trans ?_
            refine (r_iconst (v := 0) f140_1 rfl).trans ?_
            refine (r_iconst (v := 3) f140_2 rfl).trans ?_
            have hc2 : arun X (n + 999994) (d + 18) zM137 0 [some (.int x1), some (.int 0), some (.int 3)] [] zH0 = some ((some (.int 1)), zH0) := by
              refine (r_iloadn f137_0 rfl).trans ?_
              refine (r_iloadn f137_1 rfl).trans ?_
              refine (r_icmp_gt_f f137_2 ec0).trans ?_
              refine (r_iloadn f137_5 rfl).trans ?_
              refine (r_iloadn f137_6 rfl).trans ?_
              refine (r_icmp_gt_f f137_7 ec1).trans ?_
              refine (r_iconst (v := 1) f137_10 rfl).trans ?_
              refine (r_goto f137_11).trans ?_
              exact r_zreturn f137_15 rfl (by decide)
            refine (r_stat (as := [.int x1, .int 0, .int 3]) (v := (some (.int 1))) (h1 := zH0) f140_3 rfl zg137 rfl rfl rfl rfl rfl rfl hc2).trans ?_
            exact r_zreturn f140_6 rfl (by decide)
          refine (r_stat (as := [.int x1]) (v := (some (.int 1))) (h1 := zH0) f178_1 rfl zg140 rfl rfl rfl rfl rfl rfl hc1).trans ?_
          refine (r_if_eq_f f178_4 (by decide)).trans ?_
          refine (r_iloadn f178_7 rfl).trans ?_
          have hc3 : arun X (n + 999995) (d + 19) zM139 0 [some (.int x2)] [] zH0 = some ((some (.int 0)), zH0) := by
            refine (r_iloadn f139_0 rfl).trans ?_
            refine (r_iconst (v := 0) f139_1 rfl).trans ?_
            refine (r_bipush (v := 9) f139_2 rfl).trans ?_
            have hc4 : arun X (n + 999991) (d + 18) zM137 0 [some (.int x2), some (.int 0), some (.int 9)] [] zH0 = some ((some (.int 0)), zH0) := by
              refine (r_iloadn f137_0 rfl).trans ?_
              refine (r_iloadn f137_1 rfl).trans ?_
              refine (r_icmp_gt_t f137_2 ec2).trans ?_
              refine (r_iconst (v := 0) f137_14 rfl).trans ?_
              exact r_zreturn f137_15 rfl (by decide)
            refine (r_stat (as := [.int x2, .int 0, .int 9]) (v := (some (.int 0))) (h1 := zH0) f139_4 rfl zg137 rfl rfl rfl rfl rfl rfl hc4).trans ?_
            exact r_zreturn f139_7 rfl (by decide)
          refine (r_stat (as := [.int x2]) (v := (some (.int 0))) (h1 := zH0) f178_8 rfl zg139 rfl rfl rfl rfl rfl rfl hc3).trans ?_
          refine (r_if_eq_t f178_11 (by decide)).trans ?_
          refine (r_iconst (v := (-1)) f178_24 rfl).trans ?_
          exact r_ireturn f178_25 rfl
        ·
          refine (r_iloadn f292_0 rfl).trans ?_
          have hc1 : arun X (n + 999998) (d + 19) zM206 0 [some (.int x1)] [] zH0 = some ((some (.int 1)), zH0) := by
            refine (r_iloadn f206_0 rfl).trans ?_
            refine (r_iconst (v := 0) f206_1 rfl).trans ?_
            refine (r_iconst (v := 3) f206_2 rfl).trans ?_
            have hc2 : arun X (n + 999994) (d + 18) zM196 0 [some (.int x1), some (.int 0), some (.int 3)] [] zH0 = some ((some (.int 1)), zH0) := by
              refine (r_iloadn f196_0 rfl).trans ?_
              refine (r_iloadn f196_1 rfl).trans ?_
              refine (r_icmp_lt_f f196_2 ec0).trans ?_
              refine (r_iloadn f196_5 rfl).trans ?_
              refine (r_iloadn f196_6 rfl).trans ?_
              refine (r_icmp_gt_f f196_7 ec1).trans ?_
              refine (r_iconst (v := 1) f196_10 rfl).trans ?_
              refine (r_goto f196_11).trans ?_
              exact r_zreturn f196_15 rfl (by decide)
            refine (r_stat (as := [.int x1, .int 0, .int 3]) (v := (some (.int 1))) (h1 := zH0) f206_3 rfl zg196 rfl rfl rfl rfl rfl rfl hc2).trans ?_
            exact r_zreturn f206_6 rfl (by decide)
          refine (r_stat (as := [.int x1]) (v := (some (.int 1))) (h1 := zH0) f292_1 rfl zg206 rfl rfl rfl rfl rfl rfl hc1).trans ?_
          refine (r_if_eq_f f292_4 (by decide)).trans ?_
          refine (r_iloadn f292_7 rfl).trans ?_
          have hc3 : arun X (n + 999995) (d + 19) zM198 0 [some (.int x2)] [] zH0 = some ((some (.int 0)), zH0) := by
            refine (r_iloadn f198_0 rfl).trans ?_
            refine (r_iconst (v := 0) f198_1 rfl).trans ?_
            refine (r_bipush (v := 9) f198_2 rfl).trans ?_
            have hc4 : arun X (n + 999991) (d + 18) zM196 0 [some (.int x2), some (.int 0), some (.int 9)] [] zH0 = some ((some (.int 0)), zH0) := by
              refine (r_iloadn f196_0 rfl).trans ?_
              refine (r_iloadn f196_1 rfl).trans ?_
              refine (r_icmp_lt_t f196_2 ec2).trans ?_
              refine (r_iconst (v := 0) f196_14 rfl).trans ?_
              exact r_zreturn f196_15 rfl (by decide)
            refine (r_stat (as := [.int x2, .int 0, .int 9]) (v := (some (.int 0))) (h1 := zH0) f198_4 rfl zg196 rfl rfl rfl rfl rfl rfl hc4).trans ?_
            exact r_zreturn f198_7 rfl (by decide)
          refine (r_stat (as := [.int x2]) (v := (some (.int 0))) (h1 := zH0) f292_8 rfl zg198 rfl rfl rfl rfl rfl rfl hc3).trans ?_
          refine (r_if_eq_t f292_11 (by decide)).trans ?_
          refine (r_iconst (v := (-1)) f292_24 rfl).trans ?_
          exact r_ireturn f292_25 rfl
        · exact Nat.le_trans (Nat.le_of_eq zH0_len) (by decide)
        · decide
      ·
        by_cases ec3 : 9 < x2
        ·
          refine ⟨(-1), zH0, zH0, fun X n d => ?_, fun X n d => ?_, zh72, ?_, ?_⟩
          ·
            refine (r_iloadn f178_0 rfl).trans ?_
            have hc1 : arun X (n + 999998) (d + 19) zM140 0 [some (.int x1)] [] zH0 = some ((some (.int 1)), zH0) := by
              refine (r_iloadn f140_0 rfl).trans ?_
              refine (r_iconst (v := 0) f140_1 rfl).trans ?_
              refine (r_iconst (v := 3) f140_2 rfl).trans ?_
              have hc2 : arun X (n + 999994) (d + 18) zM137 0 [some (.int x1), some (.int 0), some (.int 3)] [] zH0 = some ((some (.int 1)), zH0) := by
                refine (r_iloadn f137_0 rfl).trans ?_
                refine (r_iloadn f137_1 rfl).trans ?_
                refine (r_icmp_gt_f f137_2 ec0).trans ?_
                refine (r_iloadn f137_5 rfl).trans ?_
                refine (r_iloadn f137_6 rfl).trans ?_
                refine (r_icmp_gt_f f137_7 ec1).trans ?_
                refine (r_iconst (v := 1) f137_10 rfl).trans ?_
                refine (r_goto f137_11).trans ?_
                exact r_zreturn f137_15 rfl (by decide)
              refine (r_stat (as := [.int x1, .int 0, .int 3]) (v := (some (.int 1))) (h1 := zH0) f140_3 rfl zg137 rfl rfl rfl rfl rfl rfl hc2).trans ?_
              exact r_zreturn f140_6 rfl (by decide)
            refine (r_stat (as := [.int x1]) (v := (some (.int 1))) (h1 := zH0) f178_1 rfl zg140 rfl rfl rfl rfl rfl rfl hc1).trans ?_
            refine (r_if_eq_f f178_4 (by decide)).trans ?_
            refine (r_iloadn f178_7 rfl).trans ?_
            have hc3 : arun X (n + 999995) (d + 19) zM139 0 [some (.int x2)] [] zH0 = some ((some (.int 0)), zH0) := by
              refine (r_iloadn f139_0 rfl).trans ?_
              refine (r_iconst (v := 0) f139_1 rfl).trans ?_
              refine (r_bipush (v := 9) f139_2 rfl).trans ?_
              have hc4 : arun X (n + 999991) (d + 18) zM137 0 [some (.int x2), some (.int 0), some (.int 9)] [] zH0 = some ((some (.int 0)), zH0) := by
                refine (r_iloadn f137_0 rfl).trans ?_
                refine (r_iloadn f137_1 rfl).trans ?_
                refine (r_icmp_gt_f f137_2 ec2).trans ?_
                refine (r_iloadn f137_5 rfl).trans ?_
                refine (r_iloadn f137_6 rfl).trans ?_
                refine (r_icmp_gt_t f137_7 ec3).trans ?_
                refine (r_iconst (v := 0) f137_14 rfl).trans ?_
                exact r_zreturn f137_15 rfl (by decide)
              refine (r_stat (as := [.int x2, .int 0, .int 9]) (v := (some (.int 0))) (h1 := zH0) f139_4 rfl zg137 rfl rfl rfl rfl rfl rfl hc4).trans ?_
              exact r_zreturn f139_7 rfl (by decide)
            refine (r_stat (as := [.int x2]) (v := (some (.int 0))) (h1 := zH0) f178_8 rfl zg139 rfl rfl rfl rfl rfl rfl hc3).trans ?_
            refine (r_if_eq_t f178_11 (by decide)).trans ?_
            refine (r_iconst (v := (-1)) f178_24 rfl).trans ?_
            exact r_ireturn f178_25 rfl
          ·
            refine (r_iloadn f292_0 rfl).trans ?_
            have hc1 : arun X (n + 999998) (d + 19) zM206 0 [some (.int x1)] [] zH0 = some ((some (.int 1)), zH0) := by
              refine (r_iloadn f206_0 rfl).trans ?_
              refine (r_iconst (v := 0) f206_1 rfl).trans ?_
              refine (r_iconst (v := 3) f206_2 rfl).trans ?_
              have hc2 : arun X (n + 999994) (d + 18) zM196 0 [some (.int x1), some (.int 0), some (.int 3)] [] zH0 = some ((some (.int 1)), zH0) := by
                refine (r_iloadn f196_0 rfl).trans ?_
                refine (r_iloadn f196_1 rfl).trans ?_
                refine (r_icmp_lt_f f196_2 ec0).trans ?_
                refine (r_iloadn f196_5 rfl).trans ?_
                refine (r_iloadn f196_6 rfl).trans ?_
                refine (r_icmp_gt_f f196_7 ec1).trans ?_
                refine (r_iconst (v := 1) f196_10 rfl).trans ?_
                refine (r_goto f196_11).trans ?_
                exact r_zreturn f196_15 rfl (by decide)
              refine (r_stat (as := [.int x1, .int 0, .int 3]) (v := (some (.int 1))) (h1 := zH0) f206_3 rfl zg196 rfl rfl rfl rfl rfl rfl hc2).trans ?_
              exact r_zreturn f206_6 rfl (by decide)
            refine (r_stat (as := [.int x1]) (v := (some (.int 1))) (h1 := zH0) f292_1 rfl zg206 rfl rfl rfl rfl rfl rfl hc1).trans ?_
            refine (r_if_eq_f f292_4 (by decide)).trans ?_
            refine (r_iloadn f292_7 rfl).trans ?_
            have hc3 : arun X (n + 999995) (d + 19) zM198 0 [some (.int x2)] [] zH0 = some ((some (.int 0)), zH0) := by
              refine (r_iloadn f198_0 rfl).trans ?_
              refine (r_iconst (v := 0) f198_1 rfl).trans ?_
              refine (r_bipush (v := 9) f198_2 rfl).trans ?_
              have hc4 : arun X (n + 999991) (d + 18) zM196 0 [some (.int x2), some (.int 0), some (.int 9)] [] zH0 = some ((some (.int 0)), zH0) := by
                refine (r_iloadn f196_0 rfl).trans ?_
                refine (r_iloadn f196_1 rfl).trans ?_
                refine (r_icmp_lt_f f196_2 ec2).trans ?_
                refine (r_iloadn f196_5 rfl).trans ?_
                refine (r_iloadn f196_6 rfl).trans ?_
                refine (r_icmp_gt_t f196_7 ec3).trans ?_
                refine (r_iconst (v := 0) f196_14 rfl).trans ?_
                exact r_zreturn f196_15 rfl (by decide)
              refine (r_stat (as := [.int x2, .int 0, .int 9]) (v := (some (.int 0))) (h1 := zH0) f198_4 rfl zg196 rfl rfl rfl rfl rfl rfl hc4).trans ?_
              exact r_zreturn f198_7 rfl (by decide)
            refine (r_stat (as := [.int x2]) (v := (some (.int 0))) (h1 := zH0) f292_8 rfl zg198 rfl rfl rfl rfl rfl rfl hc3).trans ?_
            refine (r_if_eq_t f292_11 (by decide)).trans ?_
            refine (r_iconst (v := (-1)) f292_24 rfl).trans ?_
            exact r_ireturn f292_25 rfl
          · exact Nat.le_trans (Nat.le_of_eq zH0_len) (by decide)
          · decide
        ·
          by_cases ec4 : x3 < 1
          ·
            refine ⟨(-1), zH0, zH0, fun X n d => ?_, fun X n d => ?_, zh72, ?_, ?_⟩
            ·
              refine (r_iloadn f178_0 rfl).trans ?_
              have hc1 : arun X (n + 999998) (d + 19) zM140 0 [some (.int x1)] [] zH0 = some ((some (.int 1)), zH0) := by
                refine (r_iloadn f140_0 rfl).trans ?_
                refine (r_iconst (v := 0) f140_1 rfl).trans ?_
                refine (r_iconst (v := 3) f140_2 rfl).trans ?_
                have hc2 : arun X (n + 999994) (d + 18) zM137 0 [some (.int x1), some (.int 0), some (.int 3)] [] zH0 = some ((some (.int 1)), zH0) := by
                  refine (r_iloadn f137_0 rfl).trans ?_
                  refine (r_iloadn f137_1 rfl).trans ?_
                  refine (r_icmp_gt_f f137_2 ec0).trans ?_
                  refine (r_iloadn f137_5 rfl).trans ?_
                  refine (r_iloadn f137_6 rfl).trans ?_
                  refine (r_icmp_gt_f f137_7 ec1).trans ?_
                  refine (r_iconst (v := 1) f137_10 rfl).trans ?_
                  refine (r_goto f137_11).trans ?_
                  exact r_zreturn f137_15 rfl (by decide)
                refine (r_stat (as := [.int x1, .int 0, .int 3]) (v := (some (.int 1))) (h1 := zH0) f140_3 rfl zg137 rfl rfl rfl rfl rfl rfl hc2).trans ?_
                exact r_zreturn f140_6 rfl (by decide)
              refine (r_stat (as := [.int x1]) (v := (some (.int 1))) (h1 := zH0) f178_1 rfl zg140 rfl rfl rfl rfl rfl rfl hc1).trans ?_
              refine (r_if_eq_f f178_4 (by decide)).trans ?_
              refine (r_iloadn f178_7 rfl).trans ?_
              have hc3 : arun X (n + 999995) (d + 19) zM139 0 [some (.int x2)] [] zH0 = some ((some (.int 1)), zH0) := by
                refine (r_iloadn f139_0 rfl).trans ?_
                refine (r_iconst (v := 0) f139_1 rfl).trans ?_
                refine (r_bipush (v := 9) f139_2 rfl).trans ?_
                have hc4 : arun X (n + 999991) (d + 18) zM137 0 [some (.int x2), some (.int 0), some (.int 9)] [] zH0 = some ((some (.int 1)), zH0) := by
                  refine (r_iloadn f137_0 rfl).trans ?_
                  refine (r_iloadn f137_1 rfl).trans ?_
                  refine (r_icmp_gt_f f137_2 ec2).trans ?_
                  refine (r_iloadn f137_5 rfl).trans ?_
                  refine (r_iloadn f137_6 rfl).trans ?_
                  refine (r_icmp_gt_f f137_7 ec3).trans ?_
                  refine (r_iconst (v := 1) f137_10 rfl).trans ?_
                  refine (r_goto f137_11).trans ?_
                  exact r_zreturn f137_15 rfl (by decide)
                refine (r_stat (as := [.int x2, .int 0, .int 9]) (v := (some (.int 1))) (h1 := zH0) f139_4 rfl zg137 rfl rfl rfl rfl rfl rfl hc4).trans ?_
                exact r_zreturn f139_7 rfl (by decide)
              refine (r_stat (as := [.int x2]) (v := (some (.int 1))) (h1 := zH0) f178_8 rfl zg139 rfl rfl rfl rfl rfl rfl hc3).trans ?_
              refine (r_if_eq_f f178_11 (by decide)).trans ?_
              refine (r_iloadn f178_14 rfl).trans ?_
              refine (r_iconst (v := 1) f178_15 rfl).trans ?_
              refine (r_bipush (v := 9) f178_16 rfl).trans ?_
              have hc5 : arun X (n + 999990) (d + 19) zM137 0 [some (.int x3), some (.int 1), some (.int 9)] [] zH0 = some ((some (.int 0)), zH0) := by
                refine (r_iloadn f137_0 rfl).trans ?_
                refine (r_iloadn f137_1 rfl).trans ?_
                refine (r_icmp_gt_t f137_2 ec4).trans ?_
                refine (r_iconst (v := 0) f137_14 rfl).trans ?_
                exact r_zreturn f137_15 rfl (by decide)
              refine (r_stat (as := [.int x3, .int 1, .int 9]) (v := (some (.int 0))) (h1 := zH0) f178_18 rfl zg137 rfl rfl rfl rfl rfl rfl hc5).trans ?_
              refine (r_if_ne_f f178_21 (by decide)).trans ?_
              refine (r_iconst (v := (-1)) f178_24 rfl).trans ?_
              exact r_ireturn f178_25 rfl
            ·
              refine (r_iloadn f292_0 rfl).trans ?_
              have hc1 : arun X (n + 999998) (d + 19) zM206 0 [some (.int x1)] [] zH0 = some ((some (.int 1)), zH0) := by
                refine (r_iloadn f206_0 rfl).trans ?_
                refine (r_iconst (v := 0) f206_1 rfl).trans ?_
                refine (r_iconst (v := 3) f206_2 rfl).trans ?_
                have hc2 : arun X (n + 999994) (d + 18) zM196 0 [some (.int x1), some (.int 0), some (.int 3)] [] zH0 = some ((some (.int 1)), zH0) := by
                  refine (r_iloadn f196_0 rfl).trans ?_
                  refine (r_iloadn f196_1 rfl).trans ?_
                  refine (r_icmp_lt_f f196_2 ec0).trans ?_
                  refine (r_iloadn f196_5 rfl).trans ?_
                  refine (r_iloadn f196_6 rfl).trans ?_
                  refine (r_icmp_gt_f f196_7 ec1).trans ?_
                  refine (r_iconst (v := 1) f196_10 rfl).trans ?_
                  refine (r_goto f196_11).trans ?_
                  exact r_zreturn f196_15 rfl (by decide)
                refine (r_stat (as := [.int x1, .int 0, .int 3]) (v := (some (.int 1))) (h1 := zH0) f206_3 rfl zg196 rfl rfl rfl rfl rfl rfl hc2).trans ?_
                exact r_zreturn f206_6 rfl (by decide)
              refine (r_stat (as := [.int x1]) (v := (some (.int 1))) (h1 := zH0) f292_1 rfl zg206 rfl rfl rfl rfl rfl rfl hc1).trans ?_
              refine (r_if_eq_f f292_4 (by decide)).trans ?_
              refine (r_iloadn f292_7 rfl).trans ?_
              have hc3 : arun X (n + 999995) (d + 19) zM198 0 [some (.int x2)] [] zH0 = some ((some (.int 1)), zH0) := by
                refine (r_iloadn f198_0 rfl).trans ?_
                refine (r_iconst (v := 0) f198_1 rfl).trans ?_
                refine (r_bipush (v := 9) f198_2 rfl).trans ?_
                have hc4 : arun X (n + 999991) (d + 18) zM196 0 [some (.int x2), some (.int 0), some (.int 9)] [] zH0 = some ((some (.int 1)), zH0) := by
                  refine (r_iloadn f196_0 rfl).trans ?_
                  refine (r_iloadn f196_1 rfl).trans ?_
                  refine (r_icmp_lt_f f196_2 ec2).trans ?_
                  refine (r_iloadn f196_5 rfl).trans ?_
                  refine (r_iloadn f196_6 rfl).trans ?_
                  refine (r_icmp_gt_f f196_7 ec3).trans ?_
                  refine (r_iconst (v := 1) f196_10 rfl).trans ?_
                  refine (r_goto f196_11).trans ?_
                  exact r_zreturn f196_15 rfl (by decide)
                refine (r_stat (as := [.int x2, .int 0, .int 9]) (v := (some (.int 1))) (h1 := zH0) f198_4 rfl zg196 rfl rfl rfl rfl rfl rfl hc4).trans ?_
                exact r_zreturn f198_7 rfl (by decide)
              refine (r_stat (as := [.int x2]) (v := (some (.int 1))) (h1 := zH0) f292_8 rfl zg198 rfl rfl rfl rfl rfl rfl hc3).trans ?_
              refine (r_if_eq_f f292_11 (by decide)).trans ?_
              refine (r_iloadn f292_14 rfl).trans ?_
              refine (r_iconst (v := 1) f292_15 rfl).trans ?_
              refine (r_bipush (v := 9) f292_16 rfl).trans ?_
              have hc5 : arun X (n + 999990) (d + 19) zM196 0 [some (.int x3), some (.int 1), some (.int 9)] [] zH0 = some ((some (.int 0)), zH0) := by
                refine (r_iloadn f196_0 rfl).trans ?_
                refine (r_iloadn f196_1 rfl).trans ?_
                refine (r_icmp_lt_t f196_2 ec4).trans ?_
                refine (r_iconst (v := 0) f196_14 rfl).trans ?_
                exact r_zreturn f196_15 rfl (by decide)
              refine (r_stat (as := [.int x3, .int 1, .int 9]) (v := (some (.int 0))) (h1 := zH0) f292_18 rfl zg196 rfl rfl rfl rfl rfl rfl hc5).trans ?_
              refine (r_if_ne_f f292_21 (by decide)).trans ?_
              refine (r_iconst (v := (-1)) f292_24 rfl).trans ?_
              exact r_ireturn f292_25 rfl
            · exact Nat.le_trans (Nat.le_of_eq zH0_len) (by decide)
            · decide
          ·
            by_cases ec5 : 9 < x3
            ·
              refine ⟨(-1), zH0, zH0, fun X n d => ?_, fun X n d => ?_, zh72, ?_, ?_⟩
              ·
                refine (r_iloadn f178_0 rfl).trans ?_
                have hc1 : arun X (n + 999998) (d + 19) zM140 0 [some (.int x1)] [] zH0 = some ((some (.int 1)), zH0) := by
                  refine (r_iloadn f140_0 rfl).trans ?_
                  refine (r_iconst (v := 0) f140_1 rfl).trans ?_
                  refine (r_iconst (v := 3) f140_2 rfl).trans ?_
                  have hc2 : arun X (n + 999994) (d + 18) zM137 0 [some (.int x1), some (.int 0), some (.int 3)] [] zH0 = some ((some (.int 1)), zH0) := by
                    refine (r_iloadn f137_0 rfl).trans ?_
                    refine (r_iloadn f137_1 rfl).trans ?_
                    refine (r_icmp_gt_f f137_2 ec0).trans ?_
                    refine (r_iloadn f137_5 rfl).trans ?_
                    refine (r_iloadn f137_6 rfl).trans ?_
                    refine (r_icmp_gt_f f137_7 ec1).trans ?_
                    refine (r_iconst (v := 1) f137_10 rfl).trans ?_
                    refine (r_goto f137_11).trans ?_
                    exact r_zreturn f137_15 rfl (by decide)
                  refine (r_stat (as := [.int x1, .int 0, .int 3]) (v := (some (.int 1))) (h1 := zH0) f140_3 rfl zg137 rfl rfl rfl rfl rfl rfl hc2).trans ?_
                  exact r_zreturn f140_6 rfl (by decide)
                refine (r_stat (as := [.int x1]) (v := (some (.int 1))) (h1 := zH0) f178_1 rfl zg140 rfl rfl rfl rfl rfl rfl hc1).trans ?_
                refine (r_if_eq_f f178_4 (by decide)).trans ?_
                refine (r_iloadn f178_7 rfl).trans ?_
                have hc3 : arun X (n + 999995) (d + 19) zM139 0 [some (.int x2)] [] zH0 = some ((some (.int 1)), zH0) := by
                  refine (r_iloadn f139_0 rfl).trans ?_
                  refine (r_iconst (v := 0) f139_1 rfl).trans ?_
                  refine (r_bipush (v := 9) f139_2 rfl).trans ?_
                  have hc4 : arun X (n + 999991) (d + 18) zM137 0 [some (.int x2), some (.int 0), some (.int 9)] [] zH0 = some ((some (.int 1)), zH0) := by
                    refine (r_iloadn f137_0 rfl).trans ?_
                    refine (r_iloadn f137_1 rfl).trans ?_
                    refine (r_icmp_gt_f f137_2 ec2).trans ?_
                    refine (r_iloadn f137_5 rfl).trans ?_
                    refine (r_iloadn f137_6 rfl).trans ?_
                    refine (r_icmp_gt_f f137_7 ec3).trans ?_
                    refine (r_iconst (v := 1) f137_10 rfl).trans ?_
                    refine (r_goto f137_11).trans ?_
                    exact r_zreturn f137_15 rfl (by decide)
                  refine (r_stat (as := [.int x2, .int 0, .int 9]) (v := (some (.int 1))) (h1 := zH0) f139_4 rfl zg137 rfl rfl rfl rfl rfl rfl hc4).trans ?_
                  exact r_zreturn f139_7 rfl (by decide)
                refine (r_stat (as := [.int x2]) (v := (some (.int 1))) (h1 := zH0) f178_8 rfl zg139 rfl rfl rfl rfl rfl rfl hc3).trans ?_
                refine (r_if_eq_f f178_11 (by decide)).trans ?_
                refine (r_iloadn f178_14 rfl).trans ?_
                refine (r_iconst (v := 1) f178_15 rfl).trans ?_
                refine (r_bipush (v := 9) f178_16 rfl).trans ?_
                have hc5 : arun X (n + 999990) (d + 19) zM137 0 [some (.int x3), some (.int 1), some (.int 9)] [] zH0 = some ((some (.int 0)), zH0) := by
                  refine (r_iloadn f137_0 rfl).trans ?_
                  refine (r_iloadn f137_1 rfl).trans ?_
                  refine (r_icmp_gt_f f137_2 ec4).trans ?_
                  refine (r_iloadn f137_5 rfl).trans ?_
                  refine (r_iloadn f137_6 rfl).trans ?_
                  refine (r_icmp_gt_t f137_7 ec5).trans ?_
                  refine (r_iconst (v := 0) f137_14 rfl).trans ?_
                  exact r_zreturn f137_15 rfl (by decide)
                refine (r_stat (as := [.int x3, .int 1, .int 9]) (v := (some (.int 0))) (h1 := zH0) f178_18 rfl zg137 rfl rfl rfl rfl rfl rfl hc5).trans ?_
                refine (r_if_ne_f f178_21 (by decide)).trans ?_
                refine (r_iconst (v := (-1)) f178_24 rfl).trans ?_
                exact r_ireturn f178_25 rfl
              ·
                refine (r_iloadn f292_0 rfl).trans ?_
                have hc1 : arun X (n + 999998) (d + 19) zM206 0 [some (.int x1)] [] zH0 = some ((some (.int 1)), zH0) := by
                  refine (r_iloadn f206_0 rfl).trans ?_
                  refine (r_iconst (v := 0) f206_1 rfl).trans ?_
                  refine (r_iconst (v := 3) f206_2 rfl).trans ?_
                  have hc2 : arun X (n + 999994) (d + 18) zM196 0 [some (.int x1), some (.int 0), some (.int 3)] [] zH0 = some ((some (.int 1)), zH0) := by
                    refine (r_iloadn f196_0 rfl).trans ?_
                    refine (r_iloadn f196_1 rfl).trans ?_
                    refine (r_icmp_lt_f f196_2 ec0).trans ?_
                    refine (r_iloadn f196_5 rfl).trans ?_
                    refine (r_iloadn f196_6 rfl).trans ?_
                    refine (r_icmp_gt_f f196_7 ec1).trans ?_
                    refine (r_iconst (v := 1) f196_10 rfl).trans ?_
                    refine (r_goto f196_11).trans ?_
                    exact r_zreturn f196_15 rfl (by decide)
                  refine (r_stat (as := [.int x1, .int 0, .int 3]) (v := (some (.int 1))) (h1 := zH0) f206_3 rfl zg196 rfl rfl rfl rfl rfl rfl hc2).trans ?_
                  exact r_zreturn f206_6 rfl (by decide)
                refine (r_stat (as := [.int x1]) (v := (some (.int 1))) (h1 := zH0) f292_1 rfl zg206 rfl rfl rfl rfl rfl rfl hc1).trans ?_
                refine (r_if_eq_f f292_4 (by decide)).trans ?_
                refine (r_iloadn f292_7 rfl).trans ?_
                have hc3 : arun X (n + 999995) (d + 19) zM198 0 [some (.int x2)] [] zH0 = some ((some (.int 1)), zH0) := by
                  refine (r_iloadn f198_0 rfl).trans ?_
                  refine (r_iconst (v := 0) f198_1 rfl).trans ?_
                  refine (r_bipush (v := 9) f198_2 rfl).trans ?_
                  have hc4 : arun X (n + 999991) (d + 18) zM196 0 [some (.int x2), some (.int 0), some (.int 9)] [] zH0 = some ((some (.int 1)), zH0) := by
                    refine (r_iloadn f196_0 rfl).trans ?_
                    refine (r_iloadn f196_1 rfl).trans ?_
                    refine (r_icmp_lt_f f196_2 ec2).trans ?_
                    refine (r_iloadn f196_5 rfl).trans ?_
                    refine (r_iloadn f196_6 rfl).trans ?_
                    refine (r_icmp_gt_f f196_7 ec3).trans ?_
                    refine (r_iconst (v := 1) f196_10 rfl).trans ?_
                    refine (r_goto f196_11).trans ?_
                    exact r_zreturn f196_15 rfl (by decide)
                  refine (r_stat (as := [.int x2, .int 0, .int 9]) (v := (some (.int 1))) (h1 := zH0) f198_4 rfl zg196 rfl rfl rfl rfl rfl rfl hc4).trans ?_
                  exact r_zreturn f198_7 rfl (by decide)
                refine (r_stat (as := [.int x2]) (v := (some (.int 1))) (h1 := zH0) f292_8 rfl zg198 rfl rfl rfl rfl rfl rfl hc3).trans ?_
                refine (r_if_eq_f f292_11 (by decide)).trans ?_
                refine (r_iloadn f292_14 rfl).trans ?_
                refine (r_iconst (v := 1) f292_15 rfl).trans ?_
                refine (r_bipush (v := 9) f292_16 rfl).trans ?_
                have hc5 : arun X (n + 999990) (d + 19) zM196 0 [some (.int x3), some (.int 1), some (.int 9)] [] zH0 = some ((some (.int 0)), zH0) := by
                  refine (r_iloadn f196_0 rfl).trans ?_
                  refine (r_iloadn f196_1 rfl).trans ?_
                  refine (r_icmp_lt_f f196_2 ec4).trans ?_
                  refine (r_iloadn f196_5 rfl).trans ?_
                  refine (r_iloadn f196_6 rfl).trans ?_
                  refine (r_icmp_gt_t f196_7 ec5).trans ?_
                  refine (r_iconst (v := 0) f196_14 rfl).trans ?_
                  exact r_zreturn f196_15 rfl (by decide)
                refine (r_stat (as := [.int x3, .int 1, .int 9]) (v := (some (.int 0))) (h1 := zH0) f292_18 rfl zg196 rfl rfl rfl rfl rfl rfl hc5).trans ?_
                refine (r_if_ne_f f292_21 (by decide)).trans ?_
                refine (r_iconst (v := (-1)) f292_24 rfl).trans ?_
                exact r_ireturn f292_25 rfl
              · exact Nat.le_trans (Nat.le_of_eq zH0_len) (by decide)
              · decide
            ·
              have ec6 : 0 < x3 := (by
                have l0 : (0 : Int32).toInt = 0 := by decide
                have l1 : (1 : Int32).toInt = 1 := by decide
                have l2 : (3 : Int32).toInt = 3 := by decide
                have l3 : (9 : Int32).toInt = 9 := by decide
                simp only [Int32.lt_iff_toInt_lt, Int32.le_iff_toInt_le, ← Int32.toInt_inj] at *
                omega)
              have jc0 : ¬ (x2 < 0 ∨ 10 ≤ Int32.toNatClampNeg x2) := vp_in_iff.mpr (by
                have l0 : (0 : Int32).toInt = 0 := by decide
                have l1 : (1 : Int32).toInt = 1 := by decide
                have l2 : (3 : Int32).toInt = 3 := by decide
                have l3 : (9 : Int32).toInt = 9 := by decide
                simp only [Int32.lt_iff_toInt_lt, Int32.le_iff_toInt_le, ← Int32.toInt_inj] at *
                omega)
              obtain ⟨y171, e_171, l_171, u_171, r_171⟩ := season_fresh (x1 := x2) jc0
              have em0 : 0 ≤ x3 := (by
                have l0 : (0 : Int32).toInt = 0 := by decide
                have l1 : (1 : Int32).toInt = 1 := by decide
                have l2 : (3 : Int32).toInt = 3 := by decide
                have l3 : (9 : Int32).toInt = 9 := by decide
                simp only [Int32.lt_iff_toInt_lt, Int32.le_iff_toInt_le, ← Int32.toInt_inj] at *
                omega)
              obtain ⟨y172, e_172, l_172, u_172, r_172, q_172⟩ := reckon_fresh (h := ((y171.1.set 48 (.inr (5, [.ref 1, .ref 16, .ref 41, .ref 49, .int 0, .ref 50, .ref 51, .int 0, .ref 52, .int 0, .ref 53, .ref 54, .int 0, .int 0, .int 0, .int 0, .int 0]))), y171.2)) (gs_ne (r_171 72 _ (by decide) (by decide) zh72) (by decide)) (gs_ne (r_171 107 _ (by decide) (by decide) zh107) (by decide)) (gs_ne (r_171 108 _ (by decide) (by decide) zh108) (by decide)) (gs_ne (r_171 109 _ (by decide) (by decide) zh109) (by decide))
              refine ⟨0, ((y171.1.set 48 (.inr (5, [.ref 1, .ref 16, .ref 41, .ref 49, .int 0, .ref 50, .ref 51, .int 0, .ref 52, .int 0, .ref 53, .ref 54, .int 0, .int 0, .int 0, .int 0, .int 0]))), y171.2), ((y172.1.set 72 (.inr (12, (((zF72.set 38 (.int 0)).set 39 (.int 0)).set 84 (.int 0))))), y172.2), fun X n d => ?_, fun X n d => ?_, (gs_ne (r_171 72 _ (by decide) (by decide) zh72) (by decide)), ?_, ?_⟩
              ·
                refine (r_iloadn f178_0 rfl).trans ?_
                have hc1 : arun X (n + 999998) (d + 19) zM140 0 [some (.int x1)] [] zH0 = some ((some (.int 1)), zH0) := by
                  refine (r_iloadn f140_0 rfl).trans ?_
                  refine (r_iconst (v := 0) f140_1 rfl).trans ?_
                  refine (r_iconst (v := 3) f140_2 rfl).trans ?_
                  have hc2 : arun X (n + 999994) (d + 18) zM137 0 [some (.int x1), some (.int 0), some (.int 3)] [] zH0 = some ((some (.int 1)), zH0) := by
                    refine (r_iloadn f137_0 rfl).trans ?_
                    refine (r_iloadn f137_1 rfl).trans ?_
                    refine (r_icmp_gt_f f137_2 ec0).trans ?_
                    refine (r_iloadn f137_5 rfl).trans ?_
                    refine (r_iloadn f137_6 rfl).trans ?_
                    refine (r_icmp_gt_f f137_7 ec1).trans ?_
                    refine (r_iconst (v := 1) f137_10 rfl).trans ?_
                    refine (r_goto f137_11).trans ?_
                    exact r_zreturn f137_15 rfl (by decide)
                  refine (r_stat (as := [.int x1, .int 0, .int 3]) (v := (some (.int 1))) (h1 := zH0) f140_3 rfl zg137 rfl rfl rfl rfl rfl rfl hc2).trans ?_
                  exact r_zreturn f140_6 rfl (by decide)
                refine (r_stat (as := [.int x1]) (v := (some (.int 1))) (h1 := zH0) f178_1 rfl zg140 rfl rfl rfl rfl rfl rfl hc1).trans ?_
                refine (r_if_eq_f f178_4 (by decide)).trans ?_
                refine (r_iloadn f178_7 rfl).trans ?_
                have hc3 : arun X (n + 999995) (d + 19) zM139 0 [some (.int x2)] [] zH0 = some ((some (.int 1)), zH0) := by
                  refine (r_iloadn f139_0 rfl).trans ?_
                  refine (r_iconst (v := 0) f139_1 rfl).trans ?_
                  refine (r_bipush (v := 9) f139_2 rfl).trans ?_
                  have hc4 : arun X (n + 999991) (d + 18) zM137 0 [some (.int x2), some (.int 0), some (.int 9)] [] zH0 = some ((some (.int 1)), zH0) := by
                    refine (r_iloadn f137_0 rfl).trans ?_
                    refine (r_iloadn f137_1 rfl).trans ?_
                    refine (r_icmp_gt_f f137_2 ec2).trans ?_
                    refine (r_iloadn f137_5 rfl).trans ?_
                    refine (r_iloadn f137_6 rfl).trans ?_
                    refine (r_icmp_gt_f f137_7 ec3).trans ?_
                    refine (r_iconst (v := 1) f137_10 rfl).trans ?_
                    refine (r_goto f137_11).trans ?_
                    exact r_zreturn f137_15 rfl (by decide)
                  refine (r_stat (as := [.int x2, .int 0, .int 9]) (v := (some (.int 1))) (h1 := zH0) f139_4 rfl zg137 rfl rfl rfl rfl rfl rfl hc4).trans ?_
                  exact r_zreturn f139_7 rfl (by decide)
                refine (r_stat (as := [.int x2]) (v := (some (.int 1))) (h1 := zH0) f178_8 rfl zg139 rfl rfl rfl rfl rfl rfl hc3).trans ?_
                refine (r_if_eq_f f178_11 (by decide)).trans ?_
                refine (r_iloadn f178_14 rfl).trans ?_
                refine (r_iconst (v := 1) f178_15 rfl).trans ?_
                refine (r_bipush (v := 9) f178_16 rfl).trans ?_
                have hc5 : arun X (n + 999990) (d + 19) zM137 0 [some (.int x3), some (.int 1), some (.int 9)] [] zH0 = some ((some (.int 1)), zH0) := by
                  refine (r_iloadn f137_0 rfl).trans ?_
                  refine (r_iloadn f137_1 rfl).trans ?_
                  refine (r_icmp_gt_f f137_2 ec4).trans ?_
                  refine (r_iloadn f137_5 rfl).trans ?_
                  refine (r_iloadn f137_6 rfl).trans ?_
                  refine (r_icmp_gt_f f137_7 ec5).trans ?_
                  refine (r_iconst (v := 1) f137_10 rfl).trans ?_
                  refine (r_goto f137_11).trans ?_
                  exact r_zreturn f137_15 rfl (by decide)
                refine (r_stat (as := [.int x3, .int 1, .int 9]) (v := (some (.int 1))) (h1 := zH0) f178_18 rfl zg137 rfl rfl rfl rfl rfl rfl hc5).trans ?_
                refine (r_if_ne_t f178_21 (by decide)).trans ?_
                refine (r_aloadn f178_26 rfl).trans ?_
                refine (r_get (v := .ref 48) f178_27 zh0 rfl).trans ?_
                refine (r_iloadn f178_30 rfl).trans ?_
                refine (r_iloadn f178_31 rfl).trans ?_
                refine (r_iloadn f178_32 rfl).trans ?_
                have hc6 : arun X (n + 999983) (d + 19) zM61 0 [some (.ref 48), some (.int x1), some (.int x2), some (.int x3), none, none, none] [] zH0 = some ((some (.int 0)), ((y171.1.set 48 (.inr (5, [.ref 1, .ref 16, .ref 41, .ref 49, .int 0, .ref 50, .ref 51, .int 0, .ref 52, .int 0, .ref 53, .ref 54, .int 0, .int 0, .int 0, .int 0, .int 0]))), y171.2)) := by
                  refine (r_aloadn f61_0 rfl).trans ?_
                  refine (r_iloadn f61_1 rfl).trans ?_
                  refine (r_iloadn f61_2 rfl).trans ?_
                  have hc7 : arun X (n + 999979) (d + 18) zM62 0 [some (.ref 48), some (.int x1), some (.int x2), none, none] [] zH0 = some (none, ((y171.1.set 48 (.inr (5, [.ref 1, .ref 16, .ref 41, .ref 49, .int 0, .ref 50, .ref 51, .int 0, .ref 52, .int 0, .ref 53, .ref 54, .int 0, .int 0, .int 0, .int 0, .int 0]))), y171.2)) := by
                    refine (r_aloadn f62_0 rfl).trans ?_
                    refine (r_get (v := .ref 41) f62_1 zh48 rfl).trans ?_
                    refine (r_iloadn f62_4 rfl).trans ?_
                    refine (r_aloadn f62_5 rfl).trans ?_
                    refine (r_get (v := .ref 1) f62_6 zh48 rfl).trans ?_
                    refine (r_get (v := .int 0) f62_9 zh1 rfl).trans ?_
                    refine (r_virt (as := [.int x2, .int 0]) (v := (some (.ref 146))) (h1 := y171) f62_12 zh41 zg1 rfl rfl rfl rfl rfl rfl (e_171 X (n + 993972) (d + 7))).trans ?_
                    refine (r_astoren (L' := [some (.ref 48), some (.int x1), some (.int x2), some (.ref 146), none]) f62_15 rfl rfl).trans ?_
                    refine (r_aloadn f62_16 rfl).trans ?_
                    refine (r_iconst (v := 0) f62_17 rfl).trans ?_
                    refine (r_put (h' := ((y171.1.set 48 (.inr (5, [.ref 1, .ref 16, .ref 41, .ref 49, .int 0, .ref 50, .ref 51, .int 0, .ref 52, .int 0, .ref 53, .ref 54, .int 0, .int 0, .int 0, .int 0, .int 0]))), y171.2)) f62_18 (r_171 48 _ (by decide) (by decide) zh48) rfl rfl).trans ?_
                    refine (r_iconst (v := 0) f62_21 rfl).trans ?_
                    refine (r_istore (L' := [some (.ref 48), some (.int x1), some (.int x2), some (.ref 146), some (.int 0)]) f62_22 rfl rfl).trans ?_
                    refine (r_iload f62_24 rfl).trans ?_
                    refine (r_aloadn f62_26 rfl).trans ?_
                    refine (r_get (v := .ref 1) f62_27 (gs_eq (r_171 48 _ (by decide) (by decide) zh48)) rfl).trans ?_
                    refine (r_get (v := .int 0) f62_30 (gs_ne (r_171 1 _ (by decide) (by decide) zh1) (by decide)) rfl).trans ?_
                    refine (r_icmp_ge_t f62_33 (by decide)).trans ?_
                    exact r_vreturn f62_126 rfl
                  refine (r_virt (as := [.int x1, .int x2]) (v := none) (h1 := ((y171.1.set 48 (.inr (5, [.ref 1, .ref 16, .ref 41, .ref 49, .int 0, .ref 50, .ref 51, .int 0, .ref 52, .int 0, .ref 53, .ref 54, .int 0, .int 0, .int 0, .int 0, .int 0]))), y171.2)) f61_3 zh48 zg62 rfl rfl rfl rfl rfl rfl hc7).trans ?_
                  refine (r_iloadn f61_6 rfl).trans ?_
                  refine (r_aloadn f61_7 rfl).trans ?_
                  refine (r_get (v := .int 0) f61_8 (gs_eq (r_171 48 _ (by decide) (by decide) zh48)) rfl).trans ?_
                  refine (r_m1011 (v := 0) f61_11 rfl rfl (if_pos ec6)).trans ?_
                  refine (r_istore (L' := [some (.ref 48), some (.int x1), some (.int x2), some (.int x3), some (.int 0), none, none]) f61_14 rfl rfl).trans ?_
                  refine (r_iload f61_16 rfl).trans ?_
                  refine (r_iconst (v := 1) f61_18 rfl).trans ?_
                  refine (r_iadd (v := 1) f61_19 (by decide)).trans ?_
                  refine (r_iconst (v := 2) f61_20 rfl).trans ?_
                  refine (r_idiv (v := 0) f61_21 (by decide) (by decide)).trans ?_
                  refine (r_istore (L' := [some (.ref 48), some (.int x1), some (.int x2), some (.int x3), some (.int 0), some (.int 0), none]) f61_22 rfl rfl).trans ?_
                  refine (r_aloadn f61_24 rfl).trans ?_
                  refine (r_iconst (v := 0) f61_25 rfl).trans ?_
                  refine (r_put (h' := ((y171.1.set 48 (.inr (5, [.ref 1, .ref 16, .ref 41, .ref 49, .int 0, .ref 50, .ref 51, .int 0, .ref 52, .int 0, .ref 53, .ref 54, .int 0, .int 0, .int 0, .int 0, .int 0]))), y171.2)) f61_26 (gs_eq (r_171 48 _ (by decide) (by decide) zh48)) rfl hss).trans ?_
                  refine (r_iconst (v := 0) f61_29 rfl).trans ?_
                  refine (r_istore (L' := [some (.ref 48), some (.int x1), some (.int x2), some (.int x3), some (.int 0), some (.int 0), some (.int 0)]) f61_30 rfl rfl).trans ?_
                  refine (r_iload f61_32 rfl).trans ?_
                  refine (r_iload f61_34 rfl).trans ?_
                  refine (r_icmp_ge_t f61_36 (by decide)).trans ?_
                  refine (r_iload f61_67 rfl).trans ?_
                  exact r_ireturn f61_69 rfl
                refine (r_virt (as := [.int x1, .int x2, .int x3]) (v := (some (.int 0))) (h1 := ((y171.1.set 48 (.inr (5, [.ref 1, .ref 16, .ref 41, .ref 49, .int 0, .ref 50, .ref 51, .int 0, .ref 52, .int 0, .ref 53, .ref 54, .int 0, .int 0, .int 0, .int 0, .int 0]))), y171.2)) f178_33 zh48 zg61 rfl rfl rfl rfl rfl rfl hc6).trans ?_
                exact r_ireturn f178_36 rfl
              ·
                refine (r_iloadn f292_0 rfl).trans ?_
                have hc1 : arun X (n + 999998) (d + 19) zM206 0 [some (.int x1)] [] ((y171.1.set 48 (.inr (5, [.ref 1, .ref 16, .ref 41, .ref 49, .int 0, .ref 50, .ref 51, .int 0, .ref 52, .int 0, .ref 53, .ref 54, .int 0, .int 0, .int 0, .int 0, .int 0]))), y171.2) = some ((some (.int 1)), ((y171.1.set 48 (.inr (5, [.ref 1, .ref 16, .ref 41, .ref 49, .int 0, .ref 50, .ref 51, .int 0, .ref 52, .int 0, .ref 53, .ref 54, .int 0, .int 0, .int 0, .int 0, .int 0]))), y171.2)) := by
                  refine (r_iloadn f206_0 rfl).trans ?_
                  refine (r_iconst (v := 0) f206_1 rfl).trans ?_
                  refine (r_iconst (v := 3) f206_2 rfl).trans ?_
                  have hc2 : arun X (n + 999994) (d + 18) zM196 0 [some (.int x1), some (.int 0), some (.int 3)] [] ((y171.1.set 48 (.inr (5, [.ref 1, .ref 16, .ref 41, .ref 49, .int 0, .ref 50, .ref 51, .int 0, .ref 52, .int 0, .ref 53, .ref 54, .int 0, .int 0, .int 0, .int 0, .int 0]))), y171.2) = some ((some (.int 1)), ((y171.1.set 48 (.inr (5, [.ref 1, .ref 16, .ref 41, .ref 49, .int 0, .ref 50, .ref 51, .int 0, .ref 52, .int 0, .ref 53, .ref 54, .int 0, .int 0, .int 0, .int 0, .int 0]))), y171.2)) := by
                    refine (r_iloadn f196_0 rfl).trans ?_
                    refine (r_iloadn f196_1 rfl).trans ?_
                    refine (r_icmp_lt_f f196_2 ec0).trans ?_
                    refine (r_iloadn f196_5 rfl).trans ?_
                    refine (r_iloadn f196_6 rfl).trans ?_
                    refine (r_icmp_gt_f f196_7 ec1).trans ?_
                    refine (r_iconst (v := 1) f196_10 rfl).trans ?_
                    refine (r_goto f196_11).trans ?_
                    exact r_zreturn f196_15 rfl (by decide)
                  refine (r_stat (as := [.int x1, .int 0, .int 3]) (v := (some (.int 1))) (h1 := ((y171.1.set 48 (.inr (5, [.ref 1, .ref 16, .ref 41, .ref 49, .int 0, .ref 50, .ref 51, .int 0, .ref 52, .int 0, .ref 53, .ref 54, .int 0, .int 0, .int 0, .int 0, .int 0]))), y171.2)) f206_3 rfl zg196 rfl rfl rfl rfl rfl rfl hc2).trans ?_
                  exact r_zreturn f206_6 rfl (by decide)
                refine (r_stat (as := [.int x1]) (v := (some (.int 1))) (h1 := ((y171.1.set 48 (.inr (5, [.ref 1, .ref 16, .ref 41, .ref 49, .int 0, .ref 50, .ref 51, .int 0, .ref 52, .int 0, .ref 53, .ref 54, .int 0, .int 0, .int 0, .int 0, .int 0]))), y171.2)) f292_1 rfl zg206 rfl rfl rfl rfl rfl rfl hc1).trans ?_
                refine (r_if_eq_f f292_4 (by decide)).trans ?_
                refine (r_iloadn f292_7 rfl).trans ?_
                have hc3 : arun X (n + 999995) (d + 19) zM198 0 [some (.int x2)] [] ((y171.1.set 48 (.inr (5, [.ref 1, .ref 16, .ref 41, .ref 49, .int 0, .ref 50, .ref 51, .int 0, .ref 52, .int 0, .ref 53, .ref 54, .int 0, .int 0, .int 0, .int 0, .int 0]))), y171.2) = some ((some (.int 1)), ((y171.1.set 48 (.inr (5, [.ref 1, .ref 16, .ref 41, .ref 49, .int 0, .ref 50, .ref 51, .int 0, .ref 52, .int 0, .ref 53, .ref 54, .int 0, .int 0, .int 0, .int 0, .int 0]))), y171.2)) := by
                  refine (r_iloadn f198_0 rfl).trans ?_
                  refine (r_iconst (v := 0) f198_1 rfl).trans ?_
                  refine (r_bipush (v := 9) f198_2 rfl).trans ?_
                  have hc4 : arun X (n + 999991) (d + 18) zM196 0 [some (.int x2), some (.int 0), some (.int 9)] [] ((y171.1.set 48 (.inr (5, [.ref 1, .ref 16, .ref 41, .ref 49, .int 0, .ref 50, .ref 51, .int 0, .ref 52, .int 0, .ref 53, .ref 54, .int 0, .int 0, .int 0, .int 0, .int 0]))), y171.2) = some ((some (.int 1)), ((y171.1.set 48 (.inr (5, [.ref 1, .ref 16, .ref 41, .ref 49, .int 0, .ref 50, .ref 51, .int 0, .ref 52, .int 0, .ref 53, .ref 54, .int 0, .int 0, .int 0, .int 0, .int 0]))), y171.2)) := by
                    refine (r_iloadn f196_0 rfl).trans ?_
                    refine (r_iloadn f196_1 rfl).trans ?_
                    refine (r_icmp_lt_f f196_2 ec2).trans ?_
                    refine (r_iloadn f196_5 rfl).trans ?_
                    refine (r_iloadn f196_6 rfl).trans ?_
                    refine (r_icmp_gt_f f196_7 ec3).trans ?_
                    refine (r_iconst (v := 1) f196_10 rfl).trans ?_
                    refine (r_goto f196_11).trans ?_
                    exact r_zreturn f196_15 rfl (by decide)
                  refine (r_stat (as := [.int x2, .int 0, .int 9]) (v := (some (.int 1))) (h1 := ((y171.1.set 48 (.inr (5, [.ref 1, .ref 16, .ref 41, .ref 49, .int 0, .ref 50, .ref 51, .int 0, .ref 52, .int 0, .ref 53, .ref 54, .int 0, .int 0, .int 0, .int 0, .int 0]))), y171.2)) f198_4 rfl zg196 rfl rfl rfl rfl rfl rfl hc4).trans ?_
                  exact r_zreturn f198_7 rfl (by decide)
                refine (r_stat (as := [.int x2]) (v := (some (.int 1))) (h1 := ((y171.1.set 48 (.inr (5, [.ref 1, .ref 16, .ref 41, .ref 49, .int 0, .ref 50, .ref 51, .int 0, .ref 52, .int 0, .ref 53, .ref 54, .int 0, .int 0, .int 0, .int 0, .int 0]))), y171.2)) f292_8 rfl zg198 rfl rfl rfl rfl rfl rfl hc3).trans ?_
                refine (r_if_eq_f f292_11 (by decide)).trans ?_
                refine (r_iloadn f292_14 rfl).trans ?_
                refine (r_iconst (v := 1) f292_15 rfl).trans ?_
                refine (r_bipush (v := 9) f292_16 rfl).trans ?_
                have hc5 : arun X (n + 999990) (d + 19) zM196 0 [some (.int x3), some (.int 1), some (.int 9)] [] ((y171.1.set 48 (.inr (5, [.ref 1, .ref 16, .ref 41, .ref 49, .int 0, .ref 50, .ref 51, .int 0, .ref 52, .int 0, .ref 53, .ref 54, .int 0, .int 0, .int 0, .int 0, .int 0]))), y171.2) = some ((some (.int 1)), ((y171.1.set 48 (.inr (5, [.ref 1, .ref 16, .ref 41, .ref 49, .int 0, .ref 50, .ref 51, .int 0, .ref 52, .int 0, .ref 53, .ref 54, .int 0, .int 0, .int 0, .int 0, .int 0]))), y171.2)) := by
                  refine (r_iloadn f196_0 rfl).trans ?_
                  refine (r_iloadn f196_1 rfl).trans ?_
                  refine (r_icmp_lt_f f196_2 ec4).trans ?_
                  refine (r_iloadn f196_5 rfl).trans ?_
                  refine (r_iloadn f196_6 rfl).trans ?_
                  refine (r_icmp_gt_f f196_7 ec5).trans ?_
                  refine (r_iconst (v := 1) f196_10 rfl).trans ?_
                  refine (r_goto f196_11).trans ?_
                  exact r_zreturn f196_15 rfl (by decide)
                refine (r_stat (as := [.int x3, .int 1, .int 9]) (v := (some (.int 1))) (h1 := ((y171.1.set 48 (.inr (5, [.ref 1, .ref 16, .ref 41, .ref 49, .int 0, .ref 50, .ref 51, .int 0, .ref 52, .int 0, .ref 53, .ref 54, .int 0, .int 0, .int 0, .int 0, .int 0]))), y171.2)) f292_18 rfl zg196 rfl rfl rfl rfl rfl rfl hc5).trans ?_
                refine (r_if_ne_t f292_21 (by decide)).trans ?_
                refine (r_aloadn f292_26 rfl).trans ?_
                refine (r_aloadn f292_27 rfl).trans ?_
                refine (r_get (v := .int 0) f292_28 (gs_ne (r_171 72 _ (by decide) (by decide) zh72) (by decide)) rfl).trans ?_
                refine (r_virt (as := [.int 0]) (v := none) (h1 := y172) f292_31 (gs_ne (r_171 72 _ (by decide) (by decide) zh72) (by decide)) zg239 rfl rfl rfl rfl rfl rfl (e_172 X (n + 799985) (d + 15))).trans ?_
                refine (r_iconst (v := 0) f292_34 rfl).trans ?_
                refine (r_istore (L' := [some (.ref 72), some (.int x1), some (.int x2), some (.int x3), some (.int 0), none, none, none, none, none]) f292_35 rfl rfl).trans ?_
                refine (r_iconst (v := 0) f292_37 rfl).trans ?_
                refine (r_istore (L' := [some (.ref 72), some (.int x1), some (.int x2), some (.int x3), some (.int 0), some (.int 0), none, none, none, none]) f292_38 rfl rfl).trans ?_
                refine (r_iload f292_40 rfl).trans ?_
                refine (r_aloadn f292_42 rfl).trans ?_
                refine (r_get (v := .int 0) f292_43 q_172 rfl).trans ?_
                refine (r_icmp_ge_t f292_46 (by decide)).trans ?_
                refine (r_iloadn f292_117 rfl).trans ?_
                refine (r_iload f292_118 rfl).trans ?_
                have hc6 : arun X (n + 999974) (d + 19) zM211 0 [some (.int x3), some (.int 0)] [] y172 = some ((some (.int 0)), y172) := by
                  refine (r_iloadn f211_0 rfl).trans ?_
                  refine (r_iloadn f211_1 rfl).trans ?_
                  refine (r_icmp_ge_t f211_2 em0).trans ?_
                  refine (r_iloadn f211_9 rfl).trans ?_
                  exact r_ireturn f211_10 rfl
                refine (r_stat (as := [.int x3, .int 0]) (v := (some (.int 0))) (h1 := y172) f292_120 rfl zg211 rfl rfl rfl rfl rfl rfl hc6).trans ?_
                refine (r_istore (L' := [some (.ref 72), some (.int x1), some (.int x2), some (.int x3), some (.int 0), some (.int 0), none, none, none, none]) f292_123 rfl rfl).trans ?_
                refine (r_iconst (v := 0) f292_125 rfl).trans ?_
                refine (r_istore (L' := [some (.ref 72), some (.int x1), some (.int x2), some (.int x3), some (.int 0), some (.int 0), some (.int 0), none, none, none]) f292_126 rfl rfl).trans ?_
                refine (r_iload f292_128 rfl).trans ?_
                refine (r_iload f292_130 rfl).trans ?_
                refine (r_icmp_ge_t f292_132 (by decide)).trans ?_
                refine (r_aloadn f292_308 rfl).trans ?_
                refine (r_iload f292_309 rfl).trans ?_
                refine (r_put (h' := ((y172.1.set 72 (.inr (12, (((zF72.set 38 (.int 0)).set 39 (.int 0)).set 84 (.int 0))))), y172.2)) f292_311 q_172 rfl rfl).trans ?_
                refine (r_iload f292_314 rfl).trans ?_
                exact r_ireturn f292_316 rfl
              · exact Nat.le_trans (Nat.le_of_eq (gs_ls (l_172.trans (gs_ls l_171)))) (by decide)
              · show y172.2 ≤ 7302250
                have hz : zH0.2 ≤ 100000 := by decide
                dsimp only at *
                omega

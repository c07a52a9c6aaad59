-- ===== paths on a fresh object (by program) =====
set_option maxHeartbeats 40000000 in
theorem qm19_1_0 {X : aX} {n d : Nat} {h : aH} {x1 : Int32} {x2 : Int32} {x3 : Int32}  (ec0 : ¬ x1 < 0) (ec1 : 7 < x1) : arun X (n + 12) (d + 2) zM245 0 [some (.ref 72), some (.int x1), some (.int x2), some (.int x3), none] [] h = some (some (.int (-1)), h) := by
  refine (r_iloadn f245_0 rfl).trans ?_
  refine (r_iconst (v := 0) f245_1 rfl).trans ?_
  refine (r_bipush (v := 7) f245_2 rfl).trans ?_
  have hc1 : arun X (n + 8) (d + 1) zM196 0 [some (.int x1), some (.int 0), some (.int 7)] [] h = some ((some (.int 0)), h) := by
    refine (r_iloadn f196_0 rfl).trans ?_
    refine (r_iloadn f196_1 rfl).trans ?_
    refine (r_icmp_lt_f f196_2 ec0).trans ?_
    refine (r_iloadn f196_5 rfl).trans ?_
    refine (r_iloadn f196_6 rfl).trans ?_
    refine (r_icmp_gt_t f196_7 ec1).trans ?_
    refine (r_iconst (v := 0) f196_14 rfl).trans ?_
    exact r_zreturn f196_15 rfl (by decide)
  refine (r_stat (as := [.int x1, .int 0, .int 7]) (v := (some (.int 0))) (h1 := h) f245_4 rfl zg196 rfl rfl rfl rfl rfl rfl hc1).trans ?_
  refine (r_if_eq_t f245_7 (by decide)).trans ?_
  refine (r_iconst (v := (-1)) f245_29 rfl).trans ?_
  exact r_ireturn f245_30 rfl
set_option maxHeartbeats 40000000 in
theorem qc19_2 {X : aX} {n d : Nat} {h : aH} {x1 : Int32} {x2 : Int32} {x3 : Int32}  (ec0 : ¬ x1 < 0) (ec1 : ¬ 7 < x1) (ec2 : x2 < 0) : arun X (n + 15) (d + 3) zM163 0 [some (.ref 0), some (.int x1), some (.int x2), some (.int x3)] [] h = some (some (.int (-1)), h) := by
  refine (r_iloadn f163_0 rfl).trans ?_
  have hc1 : arun X (n + 13) (d + 2) zM141 0 [some (.int x1)] [] h = some ((some (.int 1)), h) := by
    refine (r_iloadn f141_0 rfl).trans ?_
    refine (r_iconst (v := 0) f141_1 rfl).trans ?_
    refine (r_bipush (v := 7) f141_2 rfl).trans ?_
    have hc2 : arun X (n + 9) (d + 1) zM137 0 [some (.int x1), some (.int 0), some (.int 7)] [] h = some ((some (.int 1)), h) := by
      refine (r_iloadn f137_0 rfl).trans ?_
      refine (r_iloadn f137_1 rfl).trans ?_
      refine (r_icmp_gt_f f137_2 ec0).trans ?_
      refine (r_iloadn f137_5 rfl).trans ?_
      refine (r_iloadn f137_6 rfl).trans ?_
      refine (r_icmp_gt_f f137_7 ec1).trans ?_
      refine (r_iconst (v := 1) f137_10 rfl).trans ?_
      refine (r_goto f137_11).trans ?_
      exact r_zreturn f137_15 rfl (by decide)
    refine (r_stat (as := [.int x1, .int 0, .int 7]) (v := (some (.int 1))) (h1 := h) f141_4 rfl zg137 rfl rfl rfl rfl rfl rfl hc2).trans ?_
    exact r_zreturn f141_7 rfl (by decide)
  refine (r_stat (as := [.int x1]) (v := (some (.int 1))) (h1 := h) f163_1 rfl zg141 rfl rfl rfl rfl rfl rfl hc1).trans ?_
  refine (r_if_eq_f f163_4 (by decide)).trans ?_
  refine (r_iloadn f163_7 rfl).trans ?_
  refine (r_iconst (v := 0) f163_8 rfl).trans ?_
  refine (r_iconst (v := 5) f163_9 rfl).trans ?_
  have hc3 : arun X (n + 8) (d + 2) zM137 0 [some (.int x2), some (.int 0), some (.int 5)] [] h = some ((some (.int 0)), h) := by
    refine (r_iloadn f137_0 rfl).trans ?_
    refine (r_iloadn f137_1 rfl).trans ?_
    refine (r_icmp_gt_t f137_2 ec2).trans ?_
    refine (r_iconst (v := 0) f137_14 rfl).trans ?_
    exact r_zreturn f137_15 rfl (by decide)
  refine (r_stat (as := [.int x2, .int 0, .int 5]) (v := (some (.int 0))) (h1 := h) f163_10 rfl zg137 rfl rfl rfl rfl rfl rfl hc3).trans ?_
  refine (r_if_eq_t f163_13 (by decide)).trans ?_
  refine (r_iconst (v := (-1)) f163_26 rfl).trans ?_
  exact r_ireturn f163_27 rfl
set_option maxHeartbeats 40000000 in
theorem qm19_2_0 {X : aX} {n d : Nat} {h : aH} {x1 : Int32} {x2 : Int32} {x3 : Int32}  (ec0 : ¬ x1 < 0) (ec1 : ¬ 7 < x1) (ec2 : x2 < 0) : arun X (n + 14) (d + 2) zM245 0 [some (.ref 72), some (.int x1), some (.int x2), some (.int x3), none] [] h = some (some (.int (-1)), h) := by
  refine (r_iloadn f245_0 rfl).trans ?_
  refine (r_iconst (v := 0) f245_1 rfl).trans ?_
  refine (r_bipush (v := 7) f245_2 rfl).trans ?_
  have hc1 : arun X (n + 10) (d + 1) zM196 0 [some (.int x1), some (.int 0), some (.int 7)] [] h = some ((some (.int 1)), h) := by
    refine (r_iloadn f196_0 rfl).trans ?_
    refine (r_iloadn f196_1 rfl).trans ?_
    refine (r_icmp_lt_f f196_2 ec0).trans ?_
    refine (r_iloadn f196_5 rfl).trans ?_
    refine (r_iloadn f196_6 rfl).trans ?_
    refine (r_icmp_gt_f f196_7 ec1).trans ?_
    refine (r_iconst (v := 1) f196_10 rfl).trans ?_
    refine (r_goto f196_11).trans ?_
    exact r_zreturn f196_15 rfl (by decide)
  refine (r_stat (as := [.int x1, .int 0, .int 7]) (v := (some (.int 1))) (h1 := h) f245_4 rfl zg196 rfl rfl rfl rfl rfl rfl hc1).trans ?_
  refine (r_if_eq_f f245_7 (by decide)).trans ?_
  refine (r_iloadn f245_10 rfl).trans ?_
  refine (r_iconst (v := 0) f245_11 rfl).trans ?_
  refine (r_iconst (v := 5) f245_12 rfl).trans ?_
  have hc2 : arun X (n + 5) (d + 1) zM196 0 [some (.int x2), some (.int 0), some (.int 5)] [] h = some ((some (.int 0)), h) := by
    refine (r_iloadn f196_0 rfl).trans ?_
    refine (r_iloadn f196_1 rfl).trans ?_
    refine (r_icmp_lt_t f196_2 ec2).trans ?_
    refine (r_iconst (v := 0) f196_14 rfl).trans ?_
    exact r_zreturn f196_15 rfl (by decide)
  refine (r_stat (as := [.int x2, .int 0, .int 5]) (v := (some (.int 0))) (h1 := h) f245_13 rfl zg196 rfl rfl rfl rfl rfl rfl hc2).trans ?_
  refine (r_if_eq_t f245_16 (by decide)).trans ?_
  refine (r_iconst (v := (-1)) f245_29 rfl).trans ?_
  exact r_ireturn f245_30 rfl
set_option maxHeartbeats 40000000 in
theorem qc19_3 {X : aX} {n d : Nat} {h : aH} {x1 : Int32} {x2 : Int32} {x3 : Int32}  (ec0 : ¬ x1 < 0) (ec1 : ¬ 7 < x1) (ec2 : ¬ x2 < 0) (ec3 : 5 < x2) : arun X (n + 15) (d + 3) zM163 0 [some (.ref 0), some (.int x1), some (.int x2), some (.int x3)] [] h = some (some (.int (-1)), h) := by
  refine (r_iloadn f163_0 rfl).trans ?_
  have hc1 : arun X (n + 13) (d + 2) zM141 0 [some (.int x1)] [] h = some ((some (.int 1)), h) := by
    refine (r_iloadn f141_0 rfl).trans ?_
    refine (r_iconst (v := 0) f141_1 rfl).trans ?_
    refine (r_bipush (v := 7) f141_2 rfl).trans ?_
    have hc2 : arun X (n + 9) (d + 1) zM137 0 [some (.int x1), some (.int 0), some (.int 7)] [] h = some ((some (.int 1)), h) := by
      refine (r_iloadn f137_0 rfl).trans ?_
      refine (r_iloadn f137_1 rfl).trans ?_
      refine (r_icmp_gt_f f137_2 ec0).trans ?_
      refine (r_iloadn f137_5 rfl).trans ?_
      refine (r_iloadn f137_6 rfl).trans ?_
      refine (r_icmp_gt_f f137_7 ec1).trans ?_
      refine (r_iconst (v := 1) f137_10 rfl).trans ?_
      refine (r_goto f137_11).trans ?_
      exact r_zreturn f137_15 rfl (by decide)
    refine (r_stat (as := [.int x1, .int 0, .int 7]) (v := (some (.int 1))) (h1 := h) f141_4 rfl zg137 rfl rfl rfl rfl rfl rfl hc2).trans ?_
    exact r_zreturn f141_7 rfl (by decide)
  refine (r_stat (as := [.int x1]) (v := (some (.int 1))) (h1 := h) f163_1 rfl zg141 rfl rfl rfl rfl rfl rfl hc1).trans ?_
  refine (r_if_eq_f f163_4 (by decide)).trans ?_
  refine (r_iloadn f163_7 rfl).trans ?_
  refine (r_iconst (v := 0) f163_8 rfl).trans ?_
  refine (r_iconst (v := 5) f163_9 rfl).trans ?_
  have hc3 : arun X (n + 8) (d + 2) zM137 0 [some (.int x2), some (.int 0), some (.int 5)] [] h = some ((some (.int 0)), h) := by
    refine (r_iloadn f137_0 rfl).trans ?_
    refine (r_iloadn f137_1 rfl).trans ?_
    refine (r_icmp_gt_f f137_2 ec2).trans ?_
    refine (r_iloadn f137_5 rfl).trans ?_
    refine (r_iloadn f137_6 rfl).trans ?_
    refine (r_icmp_gt_t f137_7 ec3).trans ?_
    refine (r_iconst (v := 0) f137_14 rfl).trans ?_
    exact r_zreturn f137_15 rfl (by decide)
  refine (r_stat (as := [.int x2, .int 0, .int 5]) (v := (some (.int 0))) (h1 := h) f163_10 rfl zg137 rfl rfl rfl rfl rfl rfl hc3).trans ?_
  refine (r_if_eq_t f163_13 (by decide)).trans ?_
  refine (r_iconst (v := (-1)) f163_26 rfl).trans ?_
  exact r_ireturn f163_27 rfl
set_option maxHeartbeats 40000000 in
theorem qm19_3_0 {X : aX} {n d : Nat} {h : aH} {x1 : Int32} {x2 : Int32} {x3 : Int32}  (ec0 : ¬ x1 < 0) (ec1 : ¬ 7 < x1) (ec2 : ¬ x2 < 0) (ec3 : 5 < x2) : arun X (n + 17) (d + 2) zM245 0 [some (.ref 72), some (.int x1), some (.int x2), some (.int x3), none] [] h = some (some (.int (-1)), h) := by
  refine (r_iloadn f245_0 rfl).trans ?_
  refine (r_iconst (v := 0) f245_1 rfl).trans ?_
  refine (r_bipush (v := 7) f245_2 rfl).trans ?_
  have hc1 : arun X (n + 13) (d + 1) zM196 0 [some (.int x1), some (.int 0), some (.int 7)] [] h = some ((some (.int 1)), h) := by
    refine (r_iloadn f196_0 rfl).trans ?_
    refine (r_iloadn f196_1 rfl).trans ?_
    refine (r_icmp_lt_f f196_2 ec0).trans ?_
    refine (r_iloadn f196_5 rfl).trans ?_
    refine (r_iloadn f196_6 rfl).trans ?_
    refine (r_icmp_gt_f f196_7 ec1).trans ?_
    refine (r_iconst (v := 1) f196_10 rfl).trans ?_
    refine (r_goto f196_11).trans ?_
    exact r_zreturn f196_15 rfl (by decide)
  refine (r_stat (as := [.int x1, .int 0, .int 7]) (v := (some (.int 1))) (h1 := h) f245_4 rfl zg196 rfl rfl rfl rfl rfl rfl hc1).trans ?_
  refine (r_if_eq_f f245_7 (by decide)).trans ?_
  refine (r_iloadn f245_10 rfl).trans ?_
  refine (r_iconst (v := 0) f245_11 rfl).trans ?_
  refine (r_iconst (v := 5) f245_12 rfl).trans ?_
  have hc2 : arun X (n + 8) (d + 1) zM196 0 [some (.int x2), some (.int 0), some (.int 5)] [] h = some ((some (.int 0)), h) := by
    refine (r_iloadn f196_0 rfl).trans ?_
    refine (r_iloadn f196_1 rfl).trans ?_
    refine (r_icmp_lt_f f196_2 ec2).trans ?_
    refine (r_iloadn f196_5 rfl).trans ?_
    refine (r_iloadn f196_6 rfl).trans ?_
    refine (r_icmp_gt_t f196_7 ec3).trans ?_
    refine (r_iconst (v := 0) f196_14 rfl).trans ?_
    exact r_zreturn f196_15 rfl (by decide)
  refine (r_stat (as := [.int x2, .int 0, .int 5]) (v := (some (.int 0))) (h1 := h) f245_13 rfl zg196 rfl rfl rfl rfl rfl rfl hc2).trans ?_
  refine (r_if_eq_t f245_16 (by decide)).trans ?_
  refine (r_iconst (v := (-1)) f245_29 rfl).trans ?_
  exact r_ireturn f245_30 rfl
set_option maxHeartbeats 40000000 in
theorem qc19_4 {X : aX} {n d : Nat} {h : aH} {x1 : Int32} {x2 : Int32} {x3 : Int32}  (ec0 : ¬ x1 < 0) (ec1 : ¬ 7 < x1) (ec2 : ¬ x2 < 0) (ec3 : ¬ 5 < x2) (ec4 : x3 < 0) : arun X (n + 17) (d + 3) zM163 0 [some (.ref 0), some (.int x1), some (.int x2), some (.int x3)] [] h = some (some (.int (-1)), h) := by
  refine (r_iloadn f163_0 rfl).trans ?_
  have hc1 : arun X (n + 15) (d + 2) zM141 0 [some (.int x1)] [] h = some ((some (.int 1)), h) := by
    refine (r_iloadn f141_0 rfl).trans ?_
    refine (r_iconst (v := 0) f141_1 rfl).trans ?_
    refine (r_bipush (v := 7) f141_2 rfl).trans ?_
    have hc2 : arun X (n + 11) (d + 1) zM137 0 [some (.int x1), some (.int 0), some (.int 7)] [] h = some ((some (.int 1)), h) := by
      refine (r_iloadn f137_0 rfl).trans ?_
      refine (r_iloadn f137_1 rfl).trans ?_
      refine (r_icmp_gt_f f137_2 ec0).trans ?_
      refine (r_iloadn f137_5 rfl).trans ?_
      refine (r_iloadn f137_6 rfl).trans ?_
      refine (r_icmp_gt_f f137_7 ec1).trans ?_
      refine (r_iconst (v := 1) f137_10 rfl).trans ?_
      refine (r_goto f137_11).trans ?_
      exact r_zreturn f137_15 rfl (by decide)
    refine (r_stat (as := [.int x1, .int 0, .int 7]) (v := (some (.int 1))) (h1 := h) f141_4 rfl zg137 rfl rfl rfl rfl rfl rfl hc2).trans ?_
    exact r_zreturn f141_7 rfl (by decide)
  refine (r_stat (as := [.int x1]) (v := (some (.int 1))) (h1 := h) f163_1 rfl zg141 rfl rfl rfl rfl rfl rfl hc1).trans ?_
  refine (r_if_eq_f f163_4 (by decide)).trans ?_
  refine (r_iloadn f163_7 rfl).trans ?_
  refine (r_iconst (v := 0) f163_8 rfl).trans ?_
  refine (r_iconst (v := 5) f163_9 rfl).trans ?_
  have hc3 : arun X (n + 10) (d + 2) zM137 0 [some (.int x2), some (.int 0), some (.int 5)] [] h = some ((some (.int 1)), h) := by
    refine (r_iloadn f137_0 rfl).trans ?_
    refine (r_iloadn f137_1 rfl).trans ?_
    refine (r_icmp_gt_f f137_2 ec2).trans ?_
    refine (r_iloadn f137_5 rfl).trans ?_
    refine (r_iloadn f137_6 rfl).trans ?_
    refine (r_icmp_gt_f f137_7 ec3).trans ?_
    refine (r_iconst (v := 1) f137_10 rfl).trans ?_
    refine (r_goto f137_11).trans ?_
    exact r_zreturn f137_15 rfl (by decide)
  refine (r_stat (as := [.int x2, .int 0, .int 5]) (v := (some (.int 1))) (h1 := h) f163_10 rfl zg137 rfl rfl rfl rfl rfl rfl hc3).trans ?_
  refine (r_if_eq_f f163_13 (by decide)).trans ?_
  refine (r_iloadn f163_16 rfl).trans ?_
  refine (r_iconst (v := 0) f163_17 rfl).trans ?_
  refine (r_bipush (v := 99) f163_18 rfl).trans ?_
  have hc4 : arun X (n + 5) (d + 2) zM137 0 [some (.int x3), some (.int 0), some (.int 99)] [] h = some ((some (.int 0)), h) := by
    refine (r_iloadn f137_0 rfl).trans ?_
    refine (r_iloadn f137_1 rfl).trans ?_
    refine (r_icmp_gt_t f137_2 ec4).trans ?_
    refine (r_iconst (v := 0) f137_14 rfl).trans ?_
    exact r_zreturn f137_15 rfl (by decide)
  refine (r_stat (as := [.int x3, .int 0, .int 99]) (v := (some (.int 0))) (h1 := h) f163_20 rfl zg137 rfl rfl rfl rfl rfl rfl hc4).trans ?_
  refine (r_if_ne_f f163_23 (by decide)).trans ?_
  refine (r_iconst (v := (-1)) f163_26 rfl).trans ?_
  exact r_ireturn f163_27 rfl
set_option maxHeartbeats 40000000 in
theorem qm19_4_0 {X : aX} {n d : Nat} {h : aH} {x1 : Int32} {x2 : Int32} {x3 : Int32}  (ec0 : ¬ x1 < 0) (ec1 : ¬ 7 < x1) (ec2 : ¬ x2 < 0) (ec3 : ¬ 5 < x2) (ec4 : x3 < 0) : arun X (n + 19) (d + 2) zM245 0 [some (.ref 72), some (.int x1), some (.int x2), some (.int x3), none] [] h = some (some (.int (-1)), h) := by
  refine (r_iloadn f245_0 rfl).trans ?_
  refine (r_iconst (v := 0) f245_1 rfl).trans ?_
  refine (r_bipush (v := 7) f245_2 rfl).trans ?_
  have hc1 : arun X (n + 15) (d + 1) zM196 0 [some (.int x1), some (.int 0), some (.int 7)] [] h = some ((some (.int 1)), h) := by
    refine (r_iloadn f196_0 rfl).trans ?_
    refine (r_iloadn f196_1 rfl).trans ?_
    refine (r_icmp_lt_f f196_2 ec0).trans ?_
    refine (r_iloadn f196_5 rfl).trans ?_
    refine (r_iloadn f196_6 rfl).trans ?_
    refine (r_icmp_gt_f f196_7 ec1).trans ?_
    refine (r_iconst (v := 1) f196_10 rfl).trans ?_
    refine (r_goto f196_11).trans ?_
    exact r_zreturn f196_15 rfl (by decide)
  refine (r_stat (as := [.int x1, .int 0, .int 7]) (v := (some (.int 1))) (h1 := h) f245_4 rfl zg196 rfl rfl rfl rfl rfl rfl hc1).trans ?_
  refine (r_if_eq_f f245_7 (by decide)).trans ?_
  refine (r_iloadn f245_10 rfl).trans ?_
  refine (r_iconst (v := 0) f245_11 rfl).trans ?_
  refine (r_iconst (v := 5) f245_12 rfl).trans ?_
  have hc2 : arun X (n + 10) (d + 1) zM196 0 [some (.int x2), some (.int 0), some (.int 5)] [] h = some ((some (.int 1)), h) := by
    refine (r_iloadn f196_0 rfl).trans ?_
    refine (r_iloadn f196_1 rfl).trans ?_
    refine (r_icmp_lt_f f196_2 ec2).trans ?_
    refine (r_iloadn f196_5 rfl).trans ?_
    refine (r_iloadn f196_6 rfl).trans ?_
    refine (r_icmp_gt_f f196_7 ec3).trans ?_
    refine (r_iconst (v := 1) f196_10 rfl).trans ?_
    refine (r_goto f196_11).trans ?_
    exact r_zreturn f196_15 rfl (by decide)
  refine (r_stat (as := [.int x2, .int 0, .int 5]) (v := (some (.int 1))) (h1 := h) f245_13 rfl zg196 rfl rfl rfl rfl rfl rfl hc2).trans ?_
  refine (r_if_eq_f f245_16 (by decide)).trans ?_
  refine (r_iloadn f245_19 rfl).trans ?_
  refine (r_iconst (v := 0) f245_20 rfl).trans ?_
  refine (r_bipush (v := 99) f245_21 rfl).trans ?_
  have hc3 : arun X (n + 5) (d + 1) zM196 0 [some (.int x3), some (.int 0), some (.int 99)] [] h = some ((some (.int 0)), h) := by
    refine (r_iloadn f196_0 rfl).trans ?_
    refine (r_iloadn f196_1 rfl).trans ?_
    refine (r_icmp_lt_t f196_2 ec4).trans ?_
    refine (r_iconst (v := 0) f196_14 rfl).trans ?_
    exact r_zreturn f196_15 rfl (by decide)
  refine (r_stat (as := [.int x3, .int 0, .int 99]) (v := (some (.int 0))) (h1 := h) f245_23 rfl zg196 rfl rfl rfl rfl rfl rfl hc3).trans ?_
  refine (r_if_ne_f f245_26 (by decide)).trans ?_
  refine (r_iconst (v := (-1)) f245_29 rfl).trans ?_
  exact r_ireturn f245_30 rfl
set_option maxHeartbeats 40000000 in
theorem qc19_5 {X : aX} {n d : Nat} {h : aH} {x1 : Int32} {x2 : Int32} {x3 : Int32}  (ec0 : ¬ x1 < 0) (ec1 : ¬ 7 < x1) (ec2 : ¬ x2 < 0) (ec3 : ¬ 5 < x2) (ec4 : ¬ x3 < 0) (ec5 : 99 < x3) : arun X (n + 20) (d + 3) zM163 0 [some (.ref 0), some (.int x1), some (.int x2), some (.int x3)] [] h = some (some (.int (-1)), h) := by
  refine (r_iloadn f163_0 rfl).trans ?_
  have hc1 : arun X (n + 18) (d + 2) zM141 0 [some (.int x1)] [] h = some ((some (.int 1)), h) := by
    refine (r_iloadn f141_0 rfl).trans ?_
    refine (r_iconst (v := 0) f141_1 rfl).trans ?_
    refine (r_bipush (v := 7) f141_2 rfl).trans ?_
    have hc2 : arun X (n + 14) (d + 1) zM137 0 [some (.int x1), some (.int 0), some (.int 7)] [] h = some ((some (.int 1)), h) := by
      refine (r_iloadn f137_0 rfl).trans ?_
      refine (r_iloadn f137_1 rfl).trans ?_
      refine (r_icmp_gt_f f137_2 ec0).trans ?_
      refine (r_iloadn f137_5 rfl).trans ?_
      refine (r_iloadn f137_6 rfl).trans ?_
      refine (r_icmp_gt_f f137_7 ec1).trans ?_
      refine (r_iconst (v := 1) f137_10 rfl).trans ?_
      refine (r_goto f137_11).trans ?_
      exact r_zreturn f137_15 rfl (by decide)
    refine (r_stat (as := [.int x1, .int 0, .int 7]) (v := (some (.int 1))) (h1 := h) f141_4 rfl zg137 rfl rfl rfl rfl rfl rfl hc2).trans ?_
    exact r_zreturn f141_7 rfl (by decide)
  refine (r_stat (as := [.int x1]) (v := (some (.int 1))) (h1 := h) f163_1 rfl zg141 rfl rfl rfl rfl rfl rfl hc1).trans ?_
  refine (r_if_eq_f f163_4 (by decide)).trans ?_
  refine (r_iloadn f163_7 rfl).trans ?_
  refine (r_iconst (v := 0) f163_8 rfl).trans ?_
  refine (r_iconst (v := 5) f163_9 rfl).trans ?_
  have hc3 : arun X (n + 13) (d + 2) zM137 0 [some (.int x2), some (.int 0), some (.int 5)] [] h = some ((some (.int 1)), h) := by
    refine (r_iloadn f137_0 rfl).trans ?_
    refine (r_iloadn f137_1 rfl).trans ?_
    refine (r_icmp_gt_f f137_2 ec2).trans ?_
    refine (r_iloadn f137_5 rfl).trans ?_
    refine (r_iloadn f137_6 rfl).trans ?_
    refine (r_icmp_gt_f f137_7 ec3).trans ?_
    refine (r_iconst (v := 1) f137_10 rfl).trans ?_
    refine (r_goto f137_11).trans ?_
    exact r_zreturn f137_15 rfl (by decide)
  refine (r_stat (as := [.int x2, .int 0, .int 5]) (v := (some (.int 1))) (h1 := h) f163_10 rfl zg137 rfl rfl rfl rfl rfl rfl hc3).trans ?_
  refine (r_if_eq_f f163_13 (by decide)).trans ?_
  refine (r_iloadn f163_16 rfl).trans ?_
  refine (r_iconst (v := 0) f163_17 rfl).trans ?_
  refine (r_bipush (v := 99) f163_18 rfl).trans ?_
  have hc4 : arun X (n + 8) (d + 2) zM137 0 [some (.int x3), some (.int 0), some (.int 99)] [] h = some ((some (.int 0)), h) := by
    refine (r_iloadn f137_0 rfl).trans ?_
    refine (r_iloadn f137_1 rfl).trans ?_
    refine (r_icmp_gt_f f137_2 ec4).trans ?_
    refine (r_iloadn f137_5 rfl).trans ?_
    refine (r_iloadn f137_6 rfl).trans ?_
    refine (r_icmp_gt_t f137_7 ec5).trans ?_
    refine (r_iconst (v := 0) f137_14 rfl).trans ?_
    exact r_zreturn f137_15 rfl (by decide)
  refine (r_stat (as := [.int x3, .int 0, .int 99]) (v := (some (.int 0))) (h1 := h) f163_20 rfl zg137 rfl rfl rfl rfl rfl rfl hc4).trans ?_
  refine (r_if_ne_f f163_23 (by decide)).trans ?_
  refine (r_iconst (v := (-1)) f163_26 rfl).trans ?_
  exact r_ireturn f163_27 rfl
set_option maxHeartbeats 40000000 in
theorem qm19_5_0 {X : aX} {n d : Nat} {h : aH} {x1 : Int32} {x2 : Int32} {x3 : Int32}  (ec0 : ¬ x1 < 0) (ec1 : ¬ 7 < x1) (ec2 : ¬ x2 < 0) (ec3 : ¬ 5 < x2) (ec4 : ¬ x3 < 0) (ec5 : 99 < x3) : arun X (n + 22) (d + 2) zM245 0 [some (.ref 72), some (.int x1), some (.int x2), some (.int x3), none] [] h = some (some (.int (-1)), h) := by
  refine (r_iloadn f245_0 rfl).trans ?_
  refine (r_iconst (v := 0) f245_1 rfl).trans ?_
  refine (r_bipush (v := 7) f245_2 rfl).trans ?_
  have hc1 : arun X (n + 18) (d + 1) zM196 0 [some (.int x1), some (.int 0), some (.int 7)] [] h = some ((some (.int 1)), h) := by
    refine (r_iloadn f196_0 rfl).trans ?_
    refine (r_iloadn f196_1 rfl).trans ?_
    refine (r_icmp_lt_f f196_2 ec0).trans ?_
    refine (r_iloadn f196_5 rfl).trans ?_
    refine (r_iloadn f196_6 rfl).trans ?_
    refine (r_icmp_gt_f f196_7 ec1).trans ?_
    refine (r_iconst (v := 1) f196_10 rfl).trans ?_
    refine (r_goto f196_11).trans ?_
    exact r_zreturn f196_15 rfl (by decide)
  refine (r_stat (as := [.int x1, .int 0, .int 7]) (v := (some (.int 1))) (h1 := h) f245_4 rfl zg196 rfl rfl rfl rfl rfl rfl hc1).trans ?_
  refine (r_if_eq_f f245_7 (by decide)).trans ?_
  refine (r_iloadn f245_10 rfl).trans ?_
  refine (r_iconst (v := 0) f245_11 rfl).trans ?_
  refine (r_iconst (v := 5) f245_12 rfl).trans ?_
  have hc2 : arun X (n + 13) (d + 1) zM196 0 [some (.int x2), some (.int 0), some (.int 5)] [] h = some ((some (.int 1)), h) := by
    refine (r_iloadn f196_0 rfl).trans ?_
    refine (r_iloadn f196_1 rfl).trans ?_
    refine (r_icmp_lt_f f196_2 ec2).trans ?_
    refine (r_iloadn f196_5 rfl).trans ?_
    refine (r_iloadn f196_6 rfl).trans ?_
    refine (r_icmp_gt_f f196_7 ec3).trans ?_
    refine (r_iconst (v := 1) f196_10 rfl).trans ?_
    refine (r_goto f196_11).trans ?_
    exact r_zreturn f196_15 rfl (by decide)
  refine (r_stat (as := [.int x2, .int 0, .int 5]) (v := (some (.int 1))) (h1 := h) f245_13 rfl zg196 rfl rfl rfl rfl rfl rfl hc2).trans ?_
  refine (r_if_eq_f f245_16 (by decide)).trans ?_
  refine (r_iloadn f245_19 rfl).trans ?_
  refine (r_iconst (v := 0) f245_20 rfl).trans ?_
  refine (r_bipush (v := 99) f245_21 rfl).trans ?_
  have hc3 : arun X (n + 8) (d + 1) zM196 0 [some (.int x3), some (.int 0), some (.int 99)] [] h = some ((some (.int 0)), h) := by
    refine (r_iloadn f196_0 rfl).trans ?_
    refine (r_iloadn f196_1 rfl).trans ?_
    refine (r_icmp_lt_f f196_2 ec4).trans ?_
    refine (r_iloadn f196_5 rfl).trans ?_
    refine (r_iloadn f196_6 rfl).trans ?_
    refine (r_icmp_gt_t f196_7 ec5).trans ?_
    refine (r_iconst (v := 0) f196_14 rfl).trans ?_
    exact r_zreturn f196_15 rfl (by decide)
  refine (r_stat (as := [.int x3, .int 0, .int 99]) (v := (some (.int 0))) (h1 := h) f245_23 rfl zg196 rfl rfl rfl rfl rfl rfl hc3).trans ?_
  refine (r_if_ne_f f245_26 (by decide)).trans ?_
  refine (r_iconst (v := (-1)) f245_29 rfl).trans ?_
  exact r_ireturn f245_30 rfl
set_option maxHeartbeats 40000000 in
theorem qc19_6 {X : aX} {n d : Nat} {h : aH} {x1 : Int32} {x2 : Int32} {x3 : Int32}  (g0 : h.1[0]? = some (.inr (11, zF0))) (g63 : h.1[63]? = some (.inr (3, zF63))) (g64 : h.1[64]? = some (.inl (0, 48, .inl (fun _ => 0)))) (ec0 : ¬ x1 < 0) (ec1 : ¬ 7 < x1) (ec2 : ¬ x2 < 0) (ec3 : ¬ 5 < x2) (ec4 : ¬ x3 < 0) (ec5 : ¬ 99 < x3) (jc0 : ¬ (((x1 * 6) + x2) < 0 ∨ 48 ≤ Int32.toNatClampNeg ((x1 * 6) + x2))) : arun X (n + 37) (d + 3) zM163 0 [some (.ref 0), some (.int x1), some (.int x2), some (.int x3)] [] h = some (some (.int 0), ((h.1.set 64 (.inl (0, 48, .inl (upd (fun _ => 0) (Int32.toNatClampNeg ((x1 * 6) + x2)) x3)))), h.2)) := by
  refine (r_iloadn f163_0 rfl).trans ?_
  have hc1 : arun X (n + 35) (d + 2) zM141 0 [some (.int x1)] [] h = some ((some (.int 1)), h) := by
    refine (r_iloadn f141_0 rfl).trans ?_
    refine (r_iconst (v := 0) f141_1 rfl).trans ?_
    refine (r_bipush (v := 7) f141_2 rfl).trans ?_
    have hc2 : arun X (n + 31) (d + 1) zM137 0 [some (.int x1), some (.int 0), some (.int 7)] [] h = some ((some (.int 1)), h) := by
      refine (r_iloadn f137_0 rfl).trans ?_
      refine (r_iloadn f137_1 rfl).trans ?_
      refine (r_icmp_gt_f f137_2 ec0).trans ?_
      refine (r_iloadn f137_5 rfl).trans ?_
      refine (r_iloadn f137_6 rfl).trans ?_
      refine (r_icmp_gt_f f137_7 ec1).trans ?_
      refine (r_iconst (v := 1) f137_10 rfl).trans ?_
      refine (r_goto f137_11).trans ?_
      exact r_zreturn f137_15 rfl (by decide)
    refine (r_stat (as := [.int x1, .int 0, .int 7]) (v := (some (.int 1))) (h1 := h) f141_4 rfl zg137 rfl rfl rfl rfl rfl rfl hc2).trans ?_
    exact r_zreturn f141_7 rfl (by decide)
  refine (r_stat (as := [.int x1]) (v := (some (.int 1))) (h1 := h) f163_1 rfl zg141 rfl rfl rfl rfl rfl rfl hc1).trans ?_
  refine (r_if_eq_f f163_4 (by decide)).trans ?_
  refine (r_iloadn f163_7 rfl).trans ?_
  refine (r_iconst (v := 0) f163_8 rfl).trans ?_
  refine (r_iconst (v := 5) f163_9 rfl).trans ?_
  have hc3 : arun X (n + 30) (d + 2) zM137 0 [some (.int x2), some (.int 0), some (.int 5)] [] h = some ((some (.int 1)), h) := by
    refine (r_iloadn f137_0 rfl).trans ?_
    refine (r_iloadn f137_1 rfl).trans ?_
    refine (r_icmp_gt_f f137_2 ec2).trans ?_
    refine (r_iloadn f137_5 rfl).trans ?_
    refine (r_iloadn f137_6 rfl).trans ?_
    refine (r_icmp_gt_f f137_7 ec3).trans ?_
    refine (r_iconst (v := 1) f137_10 rfl).trans ?_
    refine (r_goto f137_11).trans ?_
    exact r_zreturn f137_15 rfl (by decide)
  refine (r_stat (as := [.int x2, .int 0, .int 5]) (v := (some (.int 1))) (h1 := h) f163_10 rfl zg137 rfl rfl rfl rfl rfl rfl hc3).trans ?_
  refine (r_if_eq_f f163_13 (by decide)).trans ?_
  refine (r_iloadn f163_16 rfl).trans ?_
  refine (r_iconst (v := 0) f163_17 rfl).trans ?_
  refine (r_bipush (v := 99) f163_18 rfl).trans ?_
  have hc4 : arun X (n + 25) (d + 2) zM137 0 [some (.int x3), some (.int 0), some (.int 99)] [] h = some ((some (.int 1)), h) := by
    refine (r_iloadn f137_0 rfl).trans ?_
    refine (r_iloadn f137_1 rfl).trans ?_
    refine (r_icmp_gt_f f137_2 ec4).trans ?_
    refine (r_iloadn f137_5 rfl).trans ?_
    refine (r_iloadn f137_6 rfl).trans ?_
    refine (r_icmp_gt_f f137_7 ec5).trans ?_
    refine (r_iconst (v := 1) f137_10 rfl).trans ?_
    refine (r_goto f137_11).trans ?_
    exact r_zreturn f137_15 rfl (by decide)
  refine (r_stat (as := [.int x3, .int 0, .int 99]) (v := (some (.int 1))) (h1 := h) f163_20 rfl zg137 rfl rfl rfl rfl rfl rfl hc4).trans ?_
  refine (r_if_ne_t f163_23 (by decide)).trans ?_
  refine (r_aloadn f163_28 rfl).trans ?_
  refine (r_get (v := .ref 63) f163_29 g0 rfl).trans ?_
  refine (r_iloadn f163_32 rfl).trans ?_
  refine (r_iloadn f163_33 rfl).trans ?_
  refine (r_iloadn f163_34 rfl).trans ?_
  have hc5 : arun X (n + 18) (d + 2) zM40 0 [some (.ref 63), some (.int x1), some (.int x2), some (.int x3), none, none] [] h = some ((some (.int 0)), ((h.1.set 64 (.inl (0, 48, .inl (upd (fun _ => 0) (Int32.toNatClampNeg ((x1 * 6) + x2)) x3)))), h.2)) := by
    refine (r_iloadn f40_0 rfl).trans ?_
    refine (r_bipush (v := 6) f40_1 rfl).trans ?_
    refine (r_imul (v := (x1 * 6)) f40_3 rfl).trans ?_
    refine (r_iloadn f40_4 rfl).trans ?_
    refine (r_iadd (v := ((x1 * 6) + x2)) f40_5 rfl).trans ?_
    refine (r_istore (L' := [some (.ref 63), some (.int x1), some (.int x2), some (.int x3), some (.int ((x1 * 6) + x2)), none]) f40_6 rfl rfl).trans ?_
    refine (r_aloadn f40_8 rfl).trans ?_
    refine (r_get (v := .ref 64) f40_9 g63 rfl).trans ?_
    refine (r_iload f40_12 rfl).trans ?_
    refine (r_iald (v := 0) f40_14 g64 jc0 rfl).trans ?_
    refine (r_istore (L' := [some (.ref 63), some (.int x1), some (.int x2), some (.int x3), some (.int ((x1 * 6) + x2)), some (.int 0)]) f40_15 rfl rfl).trans ?_
    refine (r_aloadn f40_17 rfl).trans ?_
    refine (r_get (v := .ref 64) f40_18 g63 rfl).trans ?_
    refine (r_iload f40_21 rfl).trans ?_
    refine (r_iloadn f40_23 rfl).trans ?_
    refine (r_iast (h' := ((h.1.set 64 (.inl (0, 48, .inl (upd (fun _ => 0) (Int32.toNatClampNeg ((x1 * 6) + x2)) x3)))), h.2)) f40_24 g64 jc0 rfl).trans ?_
    refine (r_iload f40_25 rfl).trans ?_
    exact r_ireturn f40_27 rfl
  refine (r_virt (as := [.int x1, .int x2, .int x3]) (v := (some (.int 0))) (h1 := ((h.1.set 64 (.inl (0, 48, .inl (upd (fun _ => 0) (Int32.toNatClampNeg ((x1 * 6) + x2)) x3)))), h.2)) f163_35 g63 zg40 rfl rfl rfl rfl rfl rfl hc5).trans ?_
  exact r_ireturn f163_38 rfl
set_option maxHeartbeats 40000000 in
theorem qm19_6_0 {X : aX} {n d : Nat} {h : aH} {x1 : Int32} {x2 : Int32} {x3 : Int32}  (g72 : h.1[72]? = some (.inr (12, zF72))) (g112 : h.1[112]? = some (.inl (0, 48, .inl (fun _ => 0)))) (ec0 : ¬ x1 < 0) (ec1 : ¬ 7 < x1) (ec2 : ¬ x2 < 0) (ec3 : ¬ 5 < x2) (ec4 : ¬ x3 < 0) (ec5 : ¬ 99 < x3) (jm0 : ¬ (((6 * x1) + x2) < 0 ∨ 48 ≤ Int32.toNatClampNeg ((6 * x1) + x2))) : arun X (n + 35) (d + 2) zM245 0 [some (.ref 72), some (.int x1), some (.int x2), some (.int x3), none] [] h = some (some (.int 0), ((h.1.set 112 (.inl (0, 48, .inl (upd (fun _ => 0) (Int32.toNatClampNeg ((6 * x1) + x2)) x3)))), h.2)) := by
  refine (r_iloadn f245_0 rfl).trans ?_
  refine (r_iconst (v := 0) f245_1 rfl).trans ?_
  refine (r_bipush (v := 7) f245_2 rfl).trans ?_
  have hc1 : arun X (n + 31) (d + 1) zM196 0 [some (.int x1), some (.int 0), some (.int 7)] [] h = some ((some (.int 1)), h) := by
    refine (r_iloadn f196_0 rfl).trans ?_
    refine (r_iloadn f196_1 rfl).trans ?_
    refine (r_icmp_lt_f f196_2 ec0).trans ?_
    refine (r_iloadn f196_5 rfl).trans ?_
    refine (r_iloadn f196_6 rfl).trans ?_
    refine (r_icmp_gt_f f196_7 ec1).trans ?_
    refine (r_iconst (v := 1) f196_10 rfl).trans ?_
    refine (r_goto f196_11).trans ?_
    exact r_zreturn f196_15 rfl (by decide)
  refine (r_stat (as := [.int x1, .int 0, .int 7]) (v := (some (.int 1))) (h1 := h) f245_4 rfl zg196 rfl rfl rfl rfl rfl rfl hc1).trans ?_
  refine (r_if_eq_f f245_7 (by decide)).trans ?_
  refine (r_iloadn f245_10 rfl).trans ?_
  refine (r_iconst (v := 0) f245_11 rfl).trans ?_
  refine (r_iconst (v := 5) f245_12 rfl).trans ?_
  have hc2 : arun X (n + 26) (d + 1) zM196 0 [some (.int x2), some (.int 0), some (.int 5)] [] h = some ((some (.int 1)), h) := by
    refine (r_iloadn f196_0 rfl).trans ?_
    refine (r_iloadn f196_1 rfl).trans ?_
    refine (r_icmp_lt_f f196_2 ec2).trans ?_
    refine (r_iloadn f196_5 rfl).trans ?_
    refine (r_iloadn f196_6 rfl).trans ?_
    refine (r_icmp_gt_f f196_7 ec3).trans ?_
    refine (r_iconst (v := 1) f196_10 rfl).trans ?_
    refine (r_goto f196_11).trans ?_
    exact r_zreturn f196_15 rfl (by decide)
  refine (r_stat (as := [.int x2, .int 0, .int 5]) (v := (some (.int 1))) (h1 := h) f245_13 rfl zg196 rfl rfl rfl rfl rfl rfl hc2).trans ?_
  refine (r_if_eq_f f245_16 (by decide)).trans ?_
  refine (r_iloadn f245_19 rfl).trans ?_
  refine (r_iconst (v := 0) f245_20 rfl).trans ?_
  refine (r_bipush (v := 99) f245_21 rfl).trans ?_
  have hc3 : arun X (n + 21) (d + 1) zM196 0 [some (.int x3), some (.int 0), some (.int 99)] [] h = some ((some (.int 1)), h) := by
    refine (r_iloadn f196_0 rfl).trans ?_
    refine (r_iloadn f196_1 rfl).trans ?_
    refine (r_icmp_lt_f f196_2 ec4).trans ?_
    refine (r_iloadn f196_5 rfl).trans ?_
    refine (r_iloadn f196_6 rfl).trans ?_
    refine (r_icmp_gt_f f196_7 ec5).trans ?_
    refine (r_iconst (v := 1) f196_10 rfl).trans ?_
    refine (r_goto f196_11).trans ?_
    exact r_zreturn f196_15 rfl (by decide)
  refine (r_stat (as := [.int x3, .int 0, .int 99]) (v := (some (.int 1))) (h1 := h) f245_23 rfl zg196 rfl rfl rfl rfl rfl rfl hc3).trans ?_
  refine (r_if_ne_t f245_26 (by decide)).trans ?_
  refine (r_aloadn f245_31 rfl).trans ?_
  refine (r_get (v := .ref 112) f245_32 g72 rfl).trans ?_
  refine (r_bipush (v := 6) f245_35 rfl).trans ?_
  refine (r_iloadn f245_37 rfl).trans ?_
  refine (r_imul (v := (6 * x1)) f245_38 rfl).trans ?_
  refine (r_iloadn f245_39 rfl).trans ?_
  refine (r_iadd (v := ((6 * x1) + x2)) f245_40 rfl).trans ?_
  refine (r_iald (v := 0) f245_41 g112 jm0 rfl).trans ?_
  refine (r_istore (L' := [some (.ref 72), some (.int x1), some (.int x2), some (.int x3), some (.int 0)]) f245_42 rfl rfl).trans ?_
  refine (r_aloadn f245_44 rfl).trans ?_
  refine (r_get (v := .ref 112) f245_45 g72 rfl).trans ?_
  refine (r_bipush (v := 6) f245_48 rfl).trans ?_
  refine (r_iloadn f245_50 rfl).trans ?_
  refine (r_imul (v := (6 * x1)) f245_51 rfl).trans ?_
  refine (r_iloadn f245_52 rfl).trans ?_
  refine (r_iadd (v := ((6 * x1) + x2)) f245_53 rfl).trans ?_
  refine (r_iloadn f245_54 rfl).trans ?_
  refine (r_iast (h' := ((h.1.set 112 (.inl (0, 48, .inl (upd (fun _ => 0) (Int32.toNatClampNeg ((6 * x1) + x2)) x3)))), h.2)) f245_55 g112 jm0 rfl).trans ?_
  refine (r_iload f245_56 rfl).trans ?_
  exact r_ireturn f245_58 rfl
set_option maxHeartbeats 40000000 in
theorem qc20_0 {X : aX} {n d : Nat} {h : aH} {x1 : Int32} {x2 : Int32} {x3 : Int32} {x4 : Int32}  (g0 : h.1[0]? = some (.inr (11, zF0))) (g1 : h.1[1]? = some (.inr (6, zF1))) (ec0 : x1 < 0) : arun X (n + 19) (d + 4) zM164 0 [some (.ref 0), some (.int x1), some (.int x2), some (.int x3), some (.int x4), none] [] h = some (some (.int (-1)), h) := by
  refine (r_aloadn f164_0 rfl).trans ?_
  refine (r_get (v := .ref 1) f164_1 g0 rfl).trans ?_
  refine (r_iloadn f164_4 rfl).trans ?_
  have hc1 : arun X (n + 15) (d + 3) zM77 0 [some (.ref 1), some (.int x1)] [] h = some ((some (.int 0)), h) := by
    refine (r_aloadn f77_0 rfl).trans ?_
    refine (r_iloadn f77_1 rfl).trans ?_
    have hc2 : arun X (n + 12) (d + 2) zM74 0 [some (.ref 1), some (.int x1)] [] h = some ((some (.int 0)), h) := by
      refine (r_iloadn f74_0 rfl).trans ?_
      refine (r_iconst (v := 0) f74_1 rfl).trans ?_
      refine (r_aloadn f74_2 rfl).trans ?_
      refine (r_get (v := .int 0) f74_3 g1 rfl).trans ?_
      refine (r_iconst (v := 1) f74_6 rfl).trans ?_
      refine (r_isub (v := (-1)) f74_7 (by decide)).trans ?_
      have hc3 : arun X (n + 5) (d + 1) zM137 0 [some (.int x1), some (.int 0), some (.int (-1))] [] h = some ((some (.int 0)), h) := by
        refine (r_iloadn f137_0 rfl).trans ?_
        refine (r_iloadn f137_1 rfl).trans ?_
        refine (r_icmp_gt_t f137_2 ec0).trans ?_
        refine (r_iconst (v := 0) f137_14 rfl).trans ?_
        exact r_zreturn f137_15 rfl (by decide)
      refine (r_stat (as := [.int x1, .int 0, .int (-1)]) (v := (some (.int 0))) (h1 := h) f74_8 rfl zg137 rfl rfl rfl rfl rfl rfl hc3).trans ?_
      exact r_zreturn f74_11 rfl (by decide)
    refine (r_virt (as := [.int x1]) (v := (some (.int 0))) (h1 := h) f77_2 g1 zg74 rfl rfl rfl rfl rfl rfl hc2).trans ?_
    refine (r_if_eq_t f77_5 (by decide)).trans ?_
    refine (r_iconst (v := 0) f77_26 rfl).trans ?_
    exact r_zreturn f77_27 rfl (by decide)
  refine (r_virt (as := [.int x1]) (v := (some (.int 0))) (h1 := h) f164_5 g1 zg77 rfl rfl rfl rfl rfl rfl hc1).trans ?_
  refine (r_if_eq_t f164_8 (by decide)).trans ?_
  refine (r_iconst (v := (-1)) f164_25 rfl).trans ?_
  exact r_ireturn f164_26 rfl
set_option maxHeartbeats 40000000 in
theorem qm20_0_0 {X : aX} {n d : Nat} {h : aH} {x1 : Int32} {x2 : Int32} {x3 : Int32} {x4 : Int32}  (g72 : h.1[72]? = some (.inr (12, zF72))) (ec0 : x1 < 0) : arun X (n + 18) (d + 4) zM247 0 [some (.ref 72), some (.int x1), some (.int x2), some (.int x3), some (.int x4), none, none, none, none, none, none] [] h = some (some (.int (-1)), h) := by
  refine (r_aloadn f247_0 rfl).trans ?_
  refine (r_iloadn f247_1 rfl).trans ?_
  have hc1 : arun X (n + 15) (d + 3) zM203 0 [some (.ref 72), some (.int x1)] [] h = some ((some (.int 0)), h) := by
    refine (r_aloadn f203_0 rfl).trans ?_
    refine (r_iloadn f203_1 rfl).trans ?_
    have hc2 : arun X (n + 12) (d + 2) zM200 0 [some (.ref 72), some (.int x1)] [] h = some ((some (.int 0)), h) := by
      refine (r_iloadn f200_0 rfl).trans ?_
      refine (r_iconst (v := 0) f200_1 rfl).trans ?_
      refine (r_aloadn f200_2 rfl).trans ?_
      refine (r_get (v := .int 0) f200_3 g72 rfl).trans ?_
      refine (r_iconst (v := 1) f200_6 rfl).trans ?_
      refine (r_isub (v := (-1)) f200_7 (by decide)).trans ?_
      have hc3 : arun X (n + 5) (d + 1) zM196 0 [some (.int x1), some (.int 0), some (.int (-1))] [] h = some ((some (.int 0)), h) := by
        refine (r_iloadn f196_0 rfl).trans ?_
        refine (r_iloadn f196_1 rfl).trans ?_
        refine (r_icmp_lt_t f196_2 ec0).trans ?_
        refine (r_iconst (v := 0) f196_14 rfl).trans ?_
        exact r_zreturn f196_15 rfl (by decide)
      refine (r_stat (as := [.int x1, .int 0, .int (-1)]) (v := (some (.int 0))) (h1 := h) f200_8 rfl zg196 rfl rfl rfl rfl rfl rfl hc3).trans ?_
      exact r_zreturn f200_11 rfl (by decide)
    refine (r_virt (as := [.int x1]) (v := (some (.int 0))) (h1 := h) f203_2 g72 zg200 rfl rfl rfl rfl rfl rfl hc2).trans ?_
    refine (r_if_eq_t f203_5 (by decide)).trans ?_
    refine (r_iconst (v := 0) f203_25 rfl).trans ?_
    exact r_zreturn f203_26 rfl (by decide)
  refine (r_virt (as := [.int x1]) (v := (some (.int 0))) (h1 := h) f247_2 g72 zg203 rfl rfl rfl rfl rfl rfl hc1).trans ?_
  refine (r_if_eq_t f247_5 (by decide)).trans ?_
  refine (r_iconst (v := (-1)) f247_22 rfl).trans ?_
  exact r_ireturn f247_23 rfl
set_option maxHeartbeats 40000000 in
theorem qc20_1 {X : aX} {n d : Nat} {h : aH} {x1 : Int32} {x2 : Int32} {x3 : Int32} {x4 : Int32}  (g0 : h.1[0]? = some (.inr (11, zF0))) (g1 : h.1[1]? = some (.inr (6, zF1))) (ec0 : ¬ x1 < 0) (ec1 : (-1) < x1) : arun X (n + 22) (d + 4) zM164 0 [some (.ref 0), some (.int x1), some (.int x2), some (.int x3), some (.int x4), none] [] h = some (some (.int (-1)), h) := by
  refine (r_aloadn f164_0 rfl).trans ?_
  refine (r_get (v := .ref 1) f164_1 g0 rfl).trans ?_
  refine (r_iloadn f164_4 rfl).trans ?_
  have hc1 : arun X (n + 18) (d + 3) zM77 0 [some (.ref 1), some (.int x1)] [] h = some ((some (.int 0)), h) := by
    refine (r_aloadn f77_0 rfl).trans ?_
    refine (r_iloadn f77_1 rfl).trans ?_
    have hc2 : arun X (n + 15) (d + 2) zM74 0 [some (.ref 1), some (.int x1)] [] h = some ((some (.int 0)), h) := by
      refine (r_iloadn f74_0 rfl).trans ?_
      refine (r_iconst (v := 0) f74_1 rfl).trans ?_
      refine (r_aloadn f74_2 rfl).trans ?_
      refine (r_get (v := .int 0) f74_3 g1 rfl).trans ?_
      refine (r_iconst (v := 1) f74_6 rfl).trans ?_
      refine (r_isub (v := (-1)) f74_7 (by decide)).trans ?_
      have hc3 : arun X (n + 8) (d + 1) zM137 0 [some (.int x1), some (.int 0), some (.int (-1))] [] h = some ((some (.int 0)), h) := by
        refine (r_iloadn f137_0 rfl).trans ?_
        refine (r_iloadn f137_1 rfl).trans ?_
        refine (r_icmp_gt_f f137_2 ec0).trans ?_
        refine (r_iloadn f137_5 rfl).trans ?_
        refine (r_iloadn f137_6 rfl).trans ?_
        refine (r_icmp_gt_t f137_7 ec1).trans ?_
        refine (r_iconst (v := 0) f137_14 rfl).trans ?_
        exact r_zreturn f137_15 rfl (by decide)
      refine (r_stat (as := [.int x1, .int 0, .int (-1)]) (v := (some (.int 0))) (h1 := h) f74_8 rfl zg137 rfl rfl rfl rfl rfl rfl hc3).trans ?_
      exact r_zreturn f74_11 rfl (by decide)
    refine (r_virt (as := [.int x1]) (v := (some (.int 0))) (h1 := h) f77_2 g1 zg74 rfl rfl rfl rfl rfl rfl hc2).trans ?_
    refine (r_if_eq_t f77_5 (by decide)).trans ?_
    refine (r_iconst (v := 0) f77_26 rfl).trans ?_
    exact r_zreturn f77_27 rfl (by decide)
  refine (r_virt (as := [.int x1]) (v := (some (.int 0))) (h1 := h) f164_5 g1 zg77 rfl rfl rfl rfl rfl rfl hc1).trans ?_
  refine (r_if_eq_t f164_8 (by decide)).trans ?_
  refine (r_iconst (v := (-1)) f164_25 rfl).trans ?_
  exact r_ireturn f164_26 rfl
set_option maxHeartbeats 40000000 in
theorem qm20_1_0 {X : aX} {n d : Nat} {h : aH} {x1 : Int32} {x2 : Int32} {x3 : Int32} {x4 : Int32}  (g72 : h.1[72]? = some (.inr (12, zF72))) (ec0 : ¬ x1 < 0) (ec1 : (-1) < x1) : arun X (n + 21) (d + 4) zM247 0 [some (.ref 72), some (.int x1), some (.int x2), some (.int x3), some (.int x4), none, none, none, none, none, none] [] h = some (some (.int (-1)), h) := by
  refine (r_aloadn f247_0 rfl).trans ?_
  refine (r_iloadn f247_1 rfl).trans ?_
  have hc1 : arun X (n + 18) (d + 3) zM203 0 [some (.ref 72), some (.int x1)] [] h = some ((some (.int 0)), h) := by
    refine (r_aloadn f203_0 rfl).trans ?_
    refine (r_iloadn f203_1 rfl).trans ?_
    have hc2 : arun X (n + 15) (d + 2) zM200 0 [some (.ref 72), some (.int x1)] [] h = some ((some (.int 0)), h) := by
      refine (r_iloadn f200_0 rfl).trans ?_
      refine (r_iconst (v := 0) f200_1 rfl).trans ?_
      refine (r_aloadn f200_2 rfl).trans ?_
      refine (r_get (v := .int 0) f200_3 g72 rfl).trans ?_
      refine (r_iconst (v := 1) f200_6 rfl).trans ?_
      refine (r_isub (v := (-1)) f200_7 (by decide)).trans ?_
      have hc3 : arun X (n + 8) (d + 1) zM196 0 [some (.int x1), some (.int 0), some (.int (-1))] [] h = some ((some (.int 0)), h) := by
        refine (r_iloadn f196_0 rfl).trans ?_
        refine (r_iloadn f196_1 rfl).trans ?_
        refine (r_icmp_lt_f f196_2 ec0).trans ?_
        refine (r_iloadn f196_5 rfl).trans ?_
        refine (r_iloadn f196_6 rfl).trans ?_
        refine (r_icmp_gt_t f196_7 ec1).trans ?_
        refine (r_iconst (v := 0) f196_14 rfl).trans ?_
        exact r_zreturn f196_15 rfl (by decide)
      refine (r_stat (as := [.int x1, .int 0, .int (-1)]) (v := (some (.int 0))) (h1 := h) f200_8 rfl zg196 rfl rfl rfl rfl rfl rfl hc3).trans ?_
      exact r_zreturn f200_11 rfl (by decide)
    refine (r_virt (as := [.int x1]) (v := (some (.int 0))) (h1 := h) f203_2 g72 zg200 rfl rfl rfl rfl rfl rfl hc2).trans ?_
    refine (r_if_eq_t f203_5 (by decide)).trans ?_
    refine (r_iconst (v := 0) f203_25 rfl).trans ?_
    exact r_zreturn f203_26 rfl (by decide)
  refine (r_virt (as := [.int x1]) (v := (some (.int 0))) (h1 := h) f247_2 g72 zg203 rfl rfl rfl rfl rfl rfl hc1).trans ?_
  refine (r_if_eq_t f247_5 (by decide)).trans ?_
  refine (r_iconst (v := (-1)) f247_22 rfl).trans ?_
  exact r_ireturn f247_23 rfl
set_option maxHeartbeats 40000000 in
theorem qc21_0 {X : aX} {n d : Nat} {h : aH} {x1 : Int32}  (g0 : h.1[0]? = some (.inr (11, zF0))) (g63 : h.1[63]? = some (.inr (3, zF63))) : arun X (n + 10) (d + 1) zM165 0 [some (.ref 0), some (.int x1), none] [] h = some (some (.int (-1)), ((h.1.set 63 (.inr (3, [.ref 64, .int x1, .ref 65]))), h.2)) := by
  refine (r_aloadn f165_0 rfl).trans ?_
  refine (r_get (v := .ref 63) f165_1 g0 rfl).trans ?_
  refine (r_get (v := .int (-1)) f165_4 g63 rfl).trans ?_
  refine (r_istoren (L' := [some (.ref 0), some (.int x1), some (.int (-1))]) f165_7 rfl rfl).trans ?_
  refine (r_aloadn f165_8 rfl).trans ?_
  refine (r_get (v := .ref 63) f165_9 g0 rfl).trans ?_
  refine (r_iloadn f165_12 rfl).trans ?_
  refine (r_put (h' := ((h.1.set 63 (.inr (3, [.ref 64, .int x1, .ref 65]))), h.2)) f165_13 g63 rfl rfl).trans ?_
  refine (r_iloadn f165_16 rfl).trans ?_
  exact r_ireturn f165_17 rfl
set_option maxHeartbeats 40000000 in
theorem qm21_0_0 {X : aX} {n d : Nat} {h : aH} {x1 : Int32}  (g72 : h.1[72]? = some (.inr (12, zF72))) : arun X (n + 8) (d + 1) zM246 0 [some (.ref 72), some (.int x1), none] [] h = some (some (.int (-1)), ((h.1.set 72 (.inr (12, (zF72.set 52 (.int x1))))), h.2)) := by
  refine (r_aloadn f246_0 rfl).trans ?_
  refine (r_get (v := .int (-1)) f246_1 g72 rfl).trans ?_
  refine (r_istoren (L' := [some (.ref 72), some (.int x1), some (.int (-1))]) f246_4 rfl rfl).trans ?_
  refine (r_aloadn f246_5 rfl).trans ?_
  refine (r_iloadn f246_6 rfl).trans ?_
  refine (r_put (h' := ((h.1.set 72 (.inr (12, (zF72.set 52 (.int x1))))), h.2)) f246_7 g72 rfl rfl).trans ?_
  refine (r_iloadn f246_10 rfl).trans ?_
  exact r_ireturn f246_11 rfl
set_option maxHeartbeats 40000000 in
theorem qc22_0 {X : aX} {n d : Nat} {h : aH} {x1 : Int32} {x2 : Int32} {x3 : Int32}  (g0 : h.1[0]? = some (.inr (11, zF0))) (g1 : h.1[1]? = some (.inr (6, zF1))) (ec0 : x1 < 0) : arun X (n + 19) (d + 4) zM166 0 [some (.ref 0), some (.int x1), some (.int x2), some (.int x3)] [] h = some (some (.int (-1)), h) := by
  refine (r_aloadn f166_0 rfl).trans ?_
  refine (r_get (v := .ref 1) f166_1 g0 rfl).trans ?_
  refine (r_iloadn f166_4 rfl).trans ?_
  have hc1 : arun X (n + 15) (d + 3) zM77 0 [some (.ref 1), some (.int x1)] [] h = some ((some (.int 0)), h) := by
    refine (r_aloadn f77_0 rfl).trans ?_
    refine (r_iloadn f77_1 rfl).trans ?_
    have hc2 : arun X (n + 12) (d + 2) zM74 0 [some (.ref 1), some (.int x1)] [] h = some ((some (.int 0)), h) := by
      refine (r_iloadn f74_0 rfl).trans ?_
      refine (r_iconst (v := 0) f74_1 rfl).trans ?_
      refine (r_aloadn f74_2 rfl).trans ?_
      refine (r_get (v := .int 0) f74_3 g1 rfl).trans ?_
      refine (r_iconst (v := 1) f74_6 rfl).trans ?_
      refine (r_isub (v := (-1)) f74_7 (by decide)).trans ?_
      have hc3 : arun X (n + 5) (d + 1) zM137 0 [some (.int x1), some (.int 0), some (.int (-1))] [] h = some ((some (.int 0)), h) := by
        refine (r_iloadn f137_0 rfl).trans ?_
        refine (r_iloadn f137_1 rfl).trans ?_
        refine (r_icmp_gt_t f137_2 ec0).trans ?_
        refine (r_iconst (v := 0) f137_14 rfl).trans ?_
        exact r_zreturn f137_15 rfl (by decide)
      refine (r_stat (as := [.int x1, .int 0, .int (-1)]) (v := (some (.int 0))) (h1 := h) f74_8 rfl zg137 rfl rfl rfl rfl rfl rfl hc3).trans ?_
      exact r_zreturn f74_11 rfl (by decide)
    refine (r_virt (as := [.int x1]) (v := (some (.int 0))) (h1 := h) f77_2 g1 zg74 rfl rfl rfl rfl rfl rfl hc2).trans ?_
    refine (r_if_eq_t f77_5 (by decide)).trans ?_
    refine (r_iconst (v := 0) f77_26 rfl).trans ?_
    exact r_zreturn f77_27 rfl (by decide)
  refine (r_virt (as := [.int x1]) (v := (some (.int 0))) (h1 := h) f166_5 g1 zg77 rfl rfl rfl rfl rfl rfl hc1).trans ?_
  refine (r_if_eq_t f166_8 (by decide)).trans ?_
  refine (r_iconst (v := (-1)) f166_27 rfl).trans ?_
  exact r_ireturn f166_28 rfl
set_option maxHeartbeats 40000000 in
theorem qm22_0_0 {X : aX} {n d : Nat} {h : aH} {x1 : Int32} {x2 : Int32} {x3 : Int32}  (g72 : h.1[72]? = some (.inr (12, zF72))) (ec0 : x1 < 0) : arun X (n + 18) (d + 4) zM249 0 [some (.ref 72), some (.int x1), some (.int x2), some (.int x3), none, none, none, none] [] h = some (some (.int (-1)), h) := by
  refine (r_aloadn f249_0 rfl).trans ?_
  refine (r_iloadn f249_1 rfl).trans ?_
  have hc1 : arun X (n + 15) (d + 3) zM203 0 [some (.ref 72), some (.int x1)] [] h = some ((some (.int 0)), h) := by
    refine (r_aloadn f203_0 rfl).trans ?_
    refine (r_iloadn f203_1 rfl).trans ?_
    have hc2 : arun X (n + 12) (d + 2) zM200 0 [some (.ref 72), some (.int x1)] [] h = some ((some (.int 0)), h) := by
      refine (r_iloadn f200_0 rfl).trans ?_
      refine (r_iconst (v := 0) f200_1 rfl).trans ?_
      refine (r_aloadn f200_2 rfl).trans ?_
      refine (r_get (v := .int 0) f200_3 g72 rfl).trans ?_
      refine (r_iconst (v := 1) f200_6 rfl).trans ?_
      refine (r_isub (v := (-1)) f200_7 (by decide)).trans ?_
      have hc3 : arun X (n + 5) (d + 1) zM196 0 [some (.int x1), some (.int 0), some (.int (-1))] [] h = some ((some (.int 0)), h) := by
        refine (r_iloadn f196_0 rfl).trans ?_
        refine (r_iloadn f196_1 rfl).trans ?_
        refine (r_icmp_lt_t f196_2 ec0).trans ?_
        refine (r_iconst (v := 0) f196_14 rfl).trans ?_
        exact r_zreturn f196_15 rfl (by decide)
      refine (r_stat (as := [.int x1, .int 0, .int (-1)]) (v := (some (.int 0))) (h1 := h) f200_8 rfl zg196 rfl rfl rfl rfl rfl rfl hc3).trans ?_
      exact r_zreturn f200_11 rfl (by decide)
    refine (r_virt (as := [.int x1]) (v := (some (.int 0))) (h1 := h) f203_2 g72 zg200 rfl rfl rfl rfl rfl rfl hc2).trans ?_
    refine (r_if_eq_t f203_5 (by decide)).trans ?_
    refine (r_iconst (v := 0) f203_25 rfl).trans ?_
    exact r_zreturn f203_26 rfl (by decide)
  refine (r_virt (as := [.int x1]) (v := (some (.int 0))) (h1 := h) f249_2 g72 zg203 rfl rfl rfl rfl rfl rfl hc1).trans ?_
  refine (r_if_eq_t f249_5 (by decide)).trans ?_
  refine (r_iconst (v := (-1)) f249_24 rfl).trans ?_
  exact r_ireturn f249_25 rfl
set_option maxHeartbeats 40000000 in
theorem qc22_1 {X : aX} {n d : Nat} {h : aH} {x1 : Int32} {x2 : Int32} {x3 : Int32}  (g0 : h.1[0]? = some (.inr (11, zF0))) (g1 : h.1[1]? = some (.inr (6, zF1))) (ec0 : ¬ x1 < 0) (ec1 : (-1) < x1) : arun X (n + 22) (d + 4) zM166 0 [some (.ref 0), some (.int x1), some (.int x2), some (.int x3)] [] h = some (some (.int (-1)), h) := by
  refine (r_aloadn f166_0 rfl).trans ?_
  refine (r_get (v := .ref 1) f166_1 g0 rfl).trans ?_
  refine (r_iloadn f166_4 rfl).trans ?_
  have hc1 : arun X (n + 18) (d + 3) zM77 0 [some (.ref 1), some (.int x1)] [] h = some ((some (.int 0)), h) := by
    refine (r_aloadn f77_0 rfl).trans ?_
    refine (r_iloadn f77_1 rfl).trans ?_
    have hc2 : arun X (n + 15) (d + 2) zM74 0 [some (.ref 1), some (.int x1)] [] h = some ((some (.int 0)), h) := by
      refine (r_iloadn f74_0 rfl).trans ?_
      refine (r_iconst (v := 0) f74_1 rfl).trans ?_
      refine (r_aloadn f74_2 rfl).trans ?_
      refine (r_get (v := .int 0) f74_3 g1 rfl).trans ?_
      refine (r_iconst (v := 1) f74_6 rfl).trans ?_
      refine (r_isub (v := (-1)) f74_7 (by decide)).trans ?_
      have hc3 : arun X (n + 8) (d + 1) zM137 0 [some (.int x1), some (.int 0), some (.int (-1))] [] h = some ((some (.int 0)), h) := by
        refine (r_iloadn f137_0 rfl).trans ?_
        refine (r_iloadn f137_1 rfl).trans ?_
        refine (r_icmp_gt_f f137_2 ec0).trans ?_
        refine (r_iloadn f137_5 rfl).trans ?_
        refine (r_iloadn f137_6 rfl).trans ?_
        refine (r_icmp_gt_t f137_7 ec1).trans ?_
        refine (r_iconst (v := 0) f137_14 rfl).trans ?_
        exact r_zreturn f137_15 rfl (by decide)
      refine (r_stat (as := [.int x1, .int 0, .int (-1)]) (v := (some (.int 0))) (h1 := h) f74_8 rfl zg137 rfl rfl rfl rfl rfl rfl hc3).trans ?_
      exact r_zreturn f74_11 rfl (by decide)
    refine (r_virt (as := [.int x1]) (v := (some (.int 0))) (h1 := h) f77_2 g1 zg74 rfl rfl rfl rfl rfl rfl hc2).trans ?_
    refine (r_if_eq_t f77_5 (by decide)).trans ?_
    refine (r_iconst (v := 0) f77_26 rfl).trans ?_
    exact r_zreturn f77_27 rfl (by decide)
  refine (r_virt (as := [.int x1]) (v := (some (.int 0))) (h1 := h) f166_5 g1 zg77 rfl rfl rfl rfl rfl rfl hc1).trans ?_
  refine (r_if_eq_t f166_8 (by decide)).trans ?_
  refine (r_iconst (v := (-1)) f166_27 rfl).trans ?_
  exact r_ireturn f166_28 rfl
set_option maxHeartbeats 40000000 in
theorem qm22_1_0 {X : aX} {n d : Nat} {h : aH} {x1 : Int32} {x2 : Int32} {x3 : Int32}  (g72 : h.1[72]? = some (.inr (12, zF72))) (ec0 : ¬ x1 < 0) (ec1 : (-1) < x1) : arun X (n + 21) (d + 4) zM249 0 [some (.ref 72), some (.int x1), some (.int x2), some (.int x3), none, none, none, none] [] h = some (some (.int (-1)), h) := by
  refine (r_aloadn f249_0 rfl).trans ?_
  refine (r_iloadn f249_1 rfl).trans ?_
  have hc1 : arun X (n + 18) (d + 3) zM203 0 [some (.ref 72), some (.int x1)] [] h = some ((some (.int 0)), h) := by
    refine (r_aloadn f203_0 rfl).trans ?_
    refine (r_iloadn f203_1 rfl).trans ?_
    have hc2 : arun X (n + 15) (d + 2) zM200 0 [some (.ref 72), some (.int x1)] [] h = some ((some (.int 0)), h) := by
      refine (r_iloadn f200_0 rfl).trans ?_
      refine (r_iconst (v := 0) f200_1 rfl).trans ?_
      refine (r_aloadn f200_2 rfl).trans ?_
      refine (r_get (v := .int 0) f200_3 g72 rfl).trans ?_
      refine (r_iconst (v := 1) f200_6 rfl).trans ?_
      refine (r_isub (v := (-1)) f200_7 (by decide)).trans ?_
      have hc3 : arun X (n + 8) (d + 1) zM196 0 [some (.int x1), some (.int 0), some (.int (-1))] [] h = some ((some (.int 0)), h) := by
        refine (r_iloadn f196_0 rfl).trans ?_
        refine (r_iloadn f196_1 rfl).trans ?_
        refine (r_icmp_lt_f f196_2 ec0).trans ?_
        refine (r_iloadn f196_5 rfl).trans ?_
        refine (r_iloadn f196_6 rfl).trans ?_
        refine (r_icmp_gt_t f196_7 ec1).trans ?_
        refine (r_iconst (v := 0) f196_14 rfl).trans ?_
        exact r_zreturn f196_15 rfl (by decide)
      refine (r_stat (as := [.int x1, .int 0, .int (-1)]) (v := (some (.int 0))) (h1 := h) f200_8 rfl zg196 rfl rfl rfl rfl rfl rfl hc3).trans ?_
      exact r_zreturn f200_11 rfl (by decide)
    refine (r_virt (as := [.int x1]) (v := (some (.int 0))) (h1 := h) f203_2 g72 zg200 rfl rfl rfl rfl rfl rfl hc2).trans ?_
    refine (r_if_eq_t f203_5 (by decide)).trans ?_
    refine (r_iconst (v := 0) f203_25 rfl).trans ?_
    exact r_zreturn f203_26 rfl (by decide)
  refine (r_virt (as := [.int x1]) (v := (some (.int 0))) (h1 := h) f249_2 g72 zg203 rfl rfl rfl rfl rfl rfl hc1).trans ?_
  refine (r_if_eq_t f249_5 (by decide)).trans ?_
  refine (r_iconst (v := (-1)) f249_24 rfl).trans ?_
  exact r_ireturn f249_25 rfl
set_option maxHeartbeats 40000000 in
theorem qc23_0 {X : aX} {n d : Nat} {h : aH} {x1 : Int32} {x2 : Int32}  (ec0 : x1 < 1) : arun X (n + 9) (d + 2) zM167 0 [some (.ref 0), some (.int x1), some (.int x2)] [] h = some (some (.int (-1)), h) := by
  refine (r_iloadn f167_0 rfl).trans ?_
  refine (r_iconst (v := 1) f167_1 rfl).trans ?_
  refine (r_iconst (v := 4) f167_2 rfl).trans ?_
  have hc1 : arun X (n + 5) (d + 1) zM137 0 [some (.int x1), some (.int 1), some (.int 4)] [] h = some ((some (.int 0)), h) := by
    refine (r_iloadn f137_0 rfl).trans ?_
    refine (r_iloadn f137_1 rfl).trans ?_
    refine (r_icmp_gt_t f137_2 ec0).trans ?_
    refine (r_iconst (v := 0) f137_14 rfl).trans ?_
    exact r_zreturn f137_15 rfl (by decide)
  refine (r_stat (as := [.int x1, .int 1, .int 4]) (v := (some (.int 0))) (h1 := h) f167_3 rfl zg137 rfl rfl rfl rfl rfl rfl hc1).trans ?_
  refine (r_if_ne_f f167_6 (by decide)).trans ?_
  refine (r_iconst (v := (-1)) f167_9 rfl).trans ?_
  exact r_ireturn f167_10 rfl
set_option maxHeartbeats 40000000 in
theorem qm23_0_0 {X : aX} {n d : Nat} {h : aH} {x1 : Int32} {x2 : Int32}  (ec0 : x1 < 1) : arun X (n + 9) (d + 2) zM250 0 [some (.ref 72), some (.int x1), some (.int x2), none] [] h = some (some (.int (-1)), h) := by
  refine (r_iloadn f250_0 rfl).trans ?_
  refine (r_iconst (v := 1) f250_1 rfl).trans ?_
  refine (r_iconst (v := 4) f250_2 rfl).trans ?_
  have hc1 : arun X (n + 5) (d + 1) zM196 0 [some (.int x1), some (.int 1), some (.int 4)] [] h = some ((some (.int 0)), h) := by
    refine (r_iloadn f196_0 rfl).trans ?_
    refine (r_iloadn f196_1 rfl).trans ?_
    refine (r_icmp_lt_t f196_2 ec0).trans ?_
    refine (r_iconst (v := 0) f196_14 rfl).trans ?_
    exact r_zreturn f196_15 rfl (by decide)
  refine (r_stat (as := [.int x1, .int 1, .int 4]) (v := (some (.int 0))) (h1 := h) f250_3 rfl zg196 rfl rfl rfl rfl rfl rfl hc1).trans ?_
  refine (r_if_ne_f f250_6 (by decide)).trans ?_
  refine (r_iconst (v := (-1)) f250_9 rfl).trans ?_
  exact r_ireturn f250_10 rfl
set_option maxHeartbeats 40000000 in
theorem qc23_1 {X : aX} {n d : Nat} {h : aH} {x1 : Int32} {x2 : Int32}  (ec0 : ¬ x1 < 1) (ec1 : 4 < x1) : arun X (n + 12) (d + 2) zM167 0 [some (.ref 0), some (.int x1), some (.int x2)] [] h = some (some (.int (-1)), h) := by
  refine (r_iloadn f167_0 rfl).trans ?_
  refine (r_iconst (v := 1) f167_1 rfl).trans ?_
  refine (r_iconst (v := 4) f167_2 rfl).trans ?_
  have hc1 : arun X (n + 8) (d + 1) zM137 0 [some (.int x1), some (.int 1), some (.int 4)] [] h = some ((some (.int 0)), h) := by
    refine (r_iloadn f137_0 rfl).trans ?_
    refine (r_iloadn f137_1 rfl).trans ?_
    refine (r_icmp_gt_f f137_2 ec0).trans ?_
    refine (r_iloadn f137_5 rfl).trans ?_
    refine (r_iloadn f137_6 rfl).trans ?_
    refine (r_icmp_gt_t f137_7 ec1).trans ?_
    refine (r_iconst (v := 0) f137_14 rfl).trans ?_
    exact r_zreturn f137_15 rfl (by decide)
  refine (r_stat (as := [.int x1, .int 1, .int 4]) (v := (some (.int 0))) (h1 := h) f167_3 rfl zg137 rfl rfl rfl rfl rfl rfl hc1).trans ?_
  refine (r_if_ne_f f167_6 (by decide)).trans ?_
  refine (r_iconst (v := (-1)) f167_9 rfl).trans ?_
  exact r_ireturn f167_10 rfl
set_option maxHeartbeats 40000000 in
theorem qm23_1_0 {X : aX} {n d : Nat} {h : aH} {x1 : Int32} {x2 : Int32}  (ec0 : ¬ x1 < 1) (ec1 : 4 < x1) : arun X (n + 12) (d + 2) zM250 0 [some (.ref 72), some (.int x1), some (.int x2), none] [] h = some (some (.int (-1)), h) := by
  refine (r_iloadn f250_0 rfl).trans ?_
  refine (r_iconst (v := 1) f250_1 rfl).trans ?_
  refine (r_iconst (v := 4) f250_2 rfl).trans ?_
  have hc1 : arun X (n + 8) (d + 1) zM196 0 [some (.int x1), some (.int 1), some (.int 4)] [] h = some ((some (.int 0)), h) := by
    refine (r_iloadn f196_0 rfl).trans ?_
    refine (r_iloadn f196_1 rfl).trans ?_
    refine (r_icmp_lt_f f196_2 ec0).trans ?_
    refine (r_iloadn f196_5 rfl).trans ?_
    refine (r_iloadn f196_6 rfl).trans ?_
    refine (r_icmp_gt_t f196_7 ec1).trans ?_
    refine (r_iconst (v := 0) f196_14 rfl).trans ?_
    exact r_zreturn f196_15 rfl (by decide)
  refine (r_stat (as := [.int x1, .int 1, .int 4]) (v := (some (.int 0))) (h1 := h) f250_3 rfl zg196 rfl rfl rfl rfl rfl rfl hc1).trans ?_
  refine (r_if_ne_f f250_6 (by decide)).trans ?_
  refine (r_iconst (v := (-1)) f250_9 rfl).trans ?_
  exact r_ireturn f250_10 rfl
set_option maxHeartbeats 40000000 in
theorem qc23_2 {X : aX} {n d : Nat} {h : aH} {x1 : Int32} {x2 : Int32}  (g0 : h.1[0]? = some (.inr (11, zF0))) (g33 : h.1[33]? = some (.inr (10, zF33))) (g34 : h.1[34]? = some (.inl (3, 160, .inl (fun _ => 0)))) (ec0 : ¬ x1 < 1) (ec1 : ¬ 4 < x1) (ec2 : (0 + x1) ≤ 160) (ec3 : ¬ x1 ≤ 0) (ec4 : x1 ≤ 1) : arun X (n + 51) (d + 2) zM167 0 [some (.ref 0), some (.int x1), some (.int x2)] [] h = some (some (.int 1), (((h.1.set 34 (.inl (3, 160, .inl (upd (fun _ => 0) (Int32.toNatClampNeg 0) (((x2 >>> (0 &&& 31))).toInt8.toInt32).toInt8.toInt32)))).set 33 (.inr (10, [.ref 34, .int 1, .ref 35, .ref 36, .ref 37, .ref 38, .ref 39, .int 0, .ref 40, .int 0, .int 0, .int 0, .int 0, .ref 40, .int 0]))), h.2)) := by
  refine (r_iloadn f167_0 rfl).trans ?_
  refine (r_iconst (v := 1) f167_1 rfl).trans ?_
  refine (r_iconst (v := 4) f167_2 rfl).trans ?_
  have hc1 : arun X (n + 47) (d + 1) zM137 0 [some (.int x1), some (.int 1), some (.int 4)] [] h = some ((some (.int 1)), h) := by
    refine (r_iloadn f137_0 rfl).trans ?_
    refine (r_iloadn f137_1 rfl).trans ?_
    refine (r_icmp_gt_f f137_2 ec0).trans ?_
    refine (r_iloadn f137_5 rfl).trans ?_
    refine (r_iloadn f137_6 rfl).trans ?_
    refine (r_icmp_gt_f f137_7 ec1).trans ?_
    refine (r_iconst (v := 1) f137_10 rfl).trans ?_
    refine (r_goto f137_11).trans ?_
    exact r_zreturn f137_15 rfl (by decide)
  refine (r_stat (as := [.int x1, .int 1, .int 4]) (v := (some (.int 1))) (h1 := h) f167_3 rfl zg137 rfl rfl rfl rfl rfl rfl hc1).trans ?_
  refine (r_if_ne_t f167_6 (by decide)).trans ?_
  refine (r_aloadn f167_11 rfl).trans ?_
  refine (r_get (v := .ref 33) f167_12 g0 rfl).trans ?_
  refine (r_get (v := .int 0) f167_15 g33 rfl).trans ?_
  refine (r_iloadn f167_18 rfl).trans ?_
  refine (r_iadd (v := (0 + x1)) f167_19 rfl).trans ?_
  refine (r_sipush (v := 160) f167_20 rfl).trans ?_
  refine (r_icmp_le_t f167_23 ec2).trans ?_
  refine (r_aloadn f167_31 rfl).trans ?_
  refine (r_get (v := .ref 33) f167_32 g0 rfl).trans ?_
  refine (r_iloadn f167_35 rfl).trans ?_
  refine (r_iloadn f167_36 rfl).trans ?_
  have hc2 : arun X (n + 34) (d + 1) zM117 0 [some (.ref 33), some (.int x1), some (.int x2), none] [] h = some ((some (.int 1)), (((h.1.set 34 (.inl (3, 160, .inl (upd (fun _ => 0) (Int32.toNatClampNeg 0) (((x2 >>> (0 &&& 31))).toInt8.toInt32).toInt8.toInt32)))).set 33 (.inr (10, [.ref 34, .int 1, .ref 35, .ref 36, .ref 37, .ref 38, .ref 39, .int 0, .ref 40, .int 0, .int 0, .int 0, .int 0, .ref 40, .int 0]))), h.2)) := by
    refine (r_iconst (v := 0) f117_0 rfl).trans ?_
    refine (r_istoren (L' := [some (.ref 33), some (.int x1), some (.int x2), some (.int 0)]) f117_1 rfl rfl).trans ?_
    refine (r_iloadn f117_2 rfl).trans ?_
    refine (r_iloadn f117_3 rfl).trans ?_
    refine (r_icmp_ge_f f117_4 ec3).trans ?_
    refine (r_aloadn f117_7 rfl).trans ?_
    refine (r_get (v := .int 0) f117_8 g33 rfl).trans ?_
    refine (r_sipush (v := 160) f117_11 rfl).trans ?_
    refine (r_icmp_ge_f f117_14 (by decide)).trans ?_
    refine (r_aloadn f117_17 rfl).trans ?_
    refine (r_get (v := .ref 34) f117_18 g33 rfl).trans ?_
    refine (r_aloadn f117_21 rfl).trans ?_
    refine (r_get (v := .int 0) f117_22 g33 rfl).trans ?_
    refine (r_iloadn f117_25 rfl).trans ?_
    refine (r_bipush (v := 8) f117_26 rfl).trans ?_
    refine (r_iloadn f117_28 rfl).trans ?_
    refine (r_imul (v := 0) f117_29 (by decide)).trans ?_
    refine (r_ishr (v := (x2 >>> (0 &&& 31))) f117_30 rfl).trans ?_
    refine (r_i2b (v := ((x2 >>> (0 &&& 31))).toInt8.toInt32) f117_31 rfl).trans ?_
    refine (r_bast (h' := ((h.1.set 34 (.inl (3, 160, .inl (upd (fun _ => 0) (Int32.toNatClampNeg 0) (((x2 >>> (0 &&& 31))).toInt8.toInt32).toInt8.toInt32)))), h.2)) f117_32 g34 (by decide) rfl).trans ?_
    refine (r_aloadn f117_33 rfl).trans ?_
    refine (r_dup f117_34 rfl).trans ?_
    refine (r_get (v := .int 0) f117_35 (gs_ne g33 (by decide)) rfl).trans ?_
    refine (r_iconst (v := 1) f117_38 rfl).trans ?_
    refine (r_iadd (v := 1) f117_39 (by decide)).trans ?_
    refine (r_put (h' := (((h.1.set 34 (.inl (3, 160, .inl (upd (fun _ => 0) (Int32.toNatClampNeg 0) (((x2 >>> (0 &&& 31))).toInt8.toInt32).toInt8.toInt32)))).set 33 (.inr (10, [.ref 34, .int 1, .ref 35, .ref 36, .ref 37, .ref 38, .ref 39, .int 0, .ref 40, .int 0, .int 0, .int 0, .int 0, .ref 40, .int 0]))), h.2)) f117_40 (gs_ne g33 (by decide)) rfl rfl).trans ?_
    refine (r_iinc (v := 1) (L' := [some (.ref 33), some (.int x1), some (.int x2), some (.int 1)]) f117_43 rfl rfl rfl).trans ?_
    refine (r_goto f117_46).trans ?_
    refine (r_iloadn f117_2 rfl).trans ?_
    refine (r_iloadn f117_3 rfl).trans ?_
    refine (r_icmp_ge_t f117_4 ec4).trans ?_
    refine (r_aloadn f117_49 rfl).trans ?_
    refine (r_get (v := .int 1) f117_50 (gs_eq (gs_ne g33 (by decide))) rfl).trans ?_
    exact r_ireturn f117_53 rfl
  refine (r_virt (as := [.int x1, .int x2]) (v := (some (.int 1))) (h1 := (((h.1.set 34 (.inl (3, 160, .inl (upd (fun _ => 0) (Int32.toNatClampNeg 0) (((x2 >>> (0 &&& 31))).toInt8.toInt32).toInt8.toInt32)))).set 33 (.inr (10, [.ref 34, .int 1, .ref 35, .ref 36, .ref 37, .ref 38, .ref 39, .int 0, .ref 40, .int 0, .int 0, .int 0, .int 0, .ref 40, .int 0]))), h.2)) f167_37 g33 zg117 rfl rfl rfl rfl rfl rfl hc2).trans ?_
  exact r_ireturn f167_40 rfl
set_option maxHeartbeats 40000000 in
theorem qm23_2_0 {X : aX} {n d : Nat} {h : aH} {x1 : Int32} {x2 : Int32}  (g72 : h.1[72]? = some (.inr (12, zF72))) (g115 : h.1[115]? = some (.inl (3, 160, .inl (fun _ => 0)))) (ec0 : ¬ x1 < 1) (ec1 : ¬ 4 < x1) (ec2 : (0 + x1) ≤ 160) (ec3 : ¬ x1 ≤ 0) (ec4 : x1 ≤ 1) : arun X (n + 41) (d + 2) zM250 0 [some (.ref 72), some (.int x1), some (.int x2), none] [] h = some (some (.int 1), (((h.1.set 115 (.inl (3, 160, .inl (upd (fun _ => 0) (Int32.toNatClampNeg 0) (((x2 >>> (0 &&& 31))).toInt8.toInt32).toInt8.toInt32)))).set 72 (.inr (12, (zF72.set 54 (.int 1))))), h.2)) := by
  refine (r_iloadn f250_0 rfl).trans ?_
  refine (r_iconst (v := 1) f250_1 rfl).trans ?_
  refine (r_iconst (v := 4) f250_2 rfl).trans ?_
  have hc1 : arun X (n + 37) (d + 1) zM196 0 [some (.int x1), some (.int 1), some (.int 4)] [] h = some ((some (.int 1)), h) := by
    refine (r_iloadn f196_0 rfl).trans ?_
    refine (r_iloadn f196_1 rfl).trans ?_
    refine (r_icmp_lt_f f196_2 ec0).trans ?_
    refine (r_iloadn f196_5 rfl).trans ?_
    refine (r_iloadn f196_6 rfl).trans ?_
    refine (r_icmp_gt_f f196_7 ec1).trans ?_
    refine (r_iconst (v := 1) f196_10 rfl).trans ?_
    refine (r_goto f196_11).trans ?_
    exact r_zreturn f196_15 rfl (by decide)
  refine (r_stat (as := [.int x1, .int 1, .int 4]) (v := (some (.int 1))) (h1 := h) f250_3 rfl zg196 rfl rfl rfl rfl rfl rfl hc1).trans ?_
  refine (r_if_ne_t f250_6 (by decide)).trans ?_
  refine (r_aloadn f250_11 rfl).trans ?_
  refine (r_get (v := .int 0) f250_12 g72 rfl).trans ?_
  refine (r_iloadn f250_15 rfl).trans ?_
  refine (r_iadd (v := (0 + x1)) f250_16 rfl).trans ?_
  refine (r_sipush (v := 160) f250_17 rfl).trans ?_
  refine (r_icmp_le_t f250_20 ec2).trans ?_
  refine (r_iconst (v := 0) f250_26 rfl).trans ?_
  refine (r_istoren (L' := [some (.ref 72), some (.int x1), some (.int x2), some (.int 0)]) f250_27 rfl rfl).trans ?_
  refine (r_iloadn f250_28 rfl).trans ?_
  refine (r_iloadn f250_29 rfl).trans ?_
  refine (r_icmp_ge_f f250_30 ec3).trans ?_
  refine (r_aloadn f250_33 rfl).trans ?_
  refine (r_get (v := .ref 115) f250_34 g72 rfl).trans ?_
  refine (r_aloadn f250_37 rfl).trans ?_
  refine (r_get (v := .int 0) f250_38 g72 rfl).trans ?_
  refine (r_iloadn f250_41 rfl).trans ?_
  refine (r_bipush (v := 8) f250_42 rfl).trans ?_
  refine (r_iloadn f250_44 rfl).trans ?_
  refine (r_imul (v := 0) f250_45 (by decide)).trans ?_
  refine (r_ishr (v := (x2 >>> (0 &&& 31))) f250_46 rfl).trans ?_
  refine (r_i2b (v := ((x2 >>> (0 &&& 31))).toInt8.toInt32) f250_47 rfl).trans ?_
  refine (r_bast (h' := ((h.1.set 115 (.inl (3, 160, .inl (upd (fun _ => 0) (Int32.toNatClampNeg 0) (((x2 >>> (0 &&& 31))).toInt8.toInt32).toInt8.toInt32)))), h.2)) f250_48 g115 (by decide) rfl).trans ?_
  refine (r_aloadn f250_49 rfl).trans ?_
  refine (r_dup f250_50 rfl).trans ?_
  refine (r_get (v := .int 0) f250_51 (gs_ne g72 (by decide)) rfl).trans ?_
  refine (r_iconst (v := 1) f250_54 rfl).trans ?_
  refine (r_iadd (v := 1) f250_55 (by decide)).trans ?_
  refine (r_put (h' := (((h.1.set 115 (.inl (3, 160, .inl (upd (fun _ => 0) (Int32.toNatClampNeg 0) (((x2 >>> (0 &&& 31))).toInt8.toInt32).toInt8.toInt32)))).set 72 (.inr (12, (zF72.set 54 (.int 1))))), h.2)) f250_56 (gs_ne g72 (by decide)) rfl rfl).trans ?_
  refine (r_iinc (v := 1) (L' := [some (.ref 72), some (.int x1), some (.int x2), some (.int 1)]) f250_59 rfl rfl rfl).trans ?_
  refine (r_goto f250_62).trans ?_
  refine (r_iloadn f250_28 rfl).trans ?_
  refine (r_iloadn f250_29 rfl).trans ?_
  refine (r_icmp_ge_t f250_30 ec4).trans ?_
  refine (r_aloadn f250_65 rfl).trans ?_
  refine (r_get (v := .int 1) f250_66 (gs_eq (gs_ne g72 (by decide))) rfl).trans ?_
  exact r_ireturn f250_69 rfl
set_option maxHeartbeats 40000000 in
theorem qc23_3 {X : aX} {n d : Nat} {h : aH} {x1 : Int32} {x2 : Int32}  (g0 : h.1[0]? = some (.inr (11, zF0))) (g33 : h.1[33]? = some (.inr (10, zF33))) (g34 : h.1[34]? = some (.inl (3, 160, .inl (fun _ => 0)))) (ec0 : ¬ x1 < 1) (ec1 : ¬ 4 < x1) (ec2 : (0 + x1) ≤ 160) (ec3 : ¬ x1 ≤ 0) (ec4 : ¬ x1 ≤ 1) (ec5 : x1 ≤ 2) : arun X (n + 77) (d + 2) zM167 0 [some (.ref 0), some (.int x1), some (.int x2)] [] h = some (some (.int 2), (((((h.1.set 34 (.inl (3, 160, .inl (upd (fun _ => 0) (Int32.toNatClampNeg 0) (((x2 >>> (0 &&& 31))).toInt8.toInt32).toInt8.toInt32)))).set 33 (.inr (10, [.ref 34, .int 1, .ref 35, .ref 36, .ref 37, .ref 38, .ref 39, .int 0, .ref 40, .int 0, .int 0, .int 0, .int 0, .ref 40, .int 0]))).set 34 (.inl (3, 160, .inl (upd (upd (fun _ => 0) (Int32.toNatClampNeg 0) (((x2 >>> (0 &&& 31))).toInt8.toInt32).toInt8.toInt32) (Int32.toNatClampNeg 1) (((x2 >>> (8 &&& 31))).toInt8.toInt32).toInt8.toInt32)))).set 33 (.inr (10, [.ref 34, .int 2, .ref 35, .ref 36, .ref 37, .ref 38, .ref 39, .int 0, .ref 40, .int 0, .int 0, .int 0, .int 0, .ref 40, .int 0]))), h.2)) := by
  refine (r_iloadn f167_0 rfl).trans ?_
  refine (r_iconst (v := 1) f167_1 rfl).trans ?_
  refine (r_iconst (v := 4) f167_2 rfl).trans ?_
  have hc1 : arun X (n + 73) (d + 1) zM137 0 [some (.int x1), some (.int 1), some (.int 4)] [] h = some ((some (.int 1)), h) := by
    refine (r_iloadn f137_0 rfl).trans ?_
    refine (r_iloadn f137_1 rfl).trans ?_
    refine (r_icmp_gt_f f137_2 ec0).trans ?_
    refine (r_iloadn f137_5 rfl).trans ?_
    refine (r_iloadn f137_6 rfl).trans ?_
    refine (r_icmp_gt_f f137_7 ec1).trans ?_
    refine (r_iconst (v := 1) f137_10 rfl).trans ?_
    refine (r_goto f137_11).trans ?_
    exact r_zreturn f137_15 rfl (by decide)
  refine (r_stat (as := [.int x1, .int 1, .int 4]) (v := (some (.int 1))) (h1 := h) f167_3 rfl zg137 rfl rfl rfl rfl rfl rfl hc1).trans ?_
  refine (r_if_ne_t f167_6 (by decide)).trans ?_
  refine (r_aloadn f167_11 rfl).trans ?_
  refine (r_get (v := .ref 33) f167_12 g0 rfl).trans ?_
  refine (r_get (v := .int 0) f167_15 g33 rfl).trans ?_
  refine (r_iloadn f167_18 rfl).trans ?_
  refine (r_iadd (v := (0 + x1)) f167_19 rfl).trans ?_
  refine (r_sipush (v := 160) f167_20 rfl).trans ?_
  refine (r_icmp_le_t f167_23 ec2).trans ?_
  refine (r_aloadn f167_31 rfl).trans ?_
  refine (r_get (v := .ref 33) f167_32 g0 rfl).trans ?_
  refine (r_iloadn f167_35 rfl).trans ?_
  refine (r_iloadn f167_36 rfl).trans ?_
  have hc2 : arun X (n + 60) (d + 1) zM117 0 [some (.ref 33), some (.int x1), some (.int x2), none] [] h = some ((some (.int 2)), (((((h.1.set 34 (.inl (3, 160, .inl (upd (fun _ => 0) (Int32.toNatClampNeg 0) (((x2 >>> (0 &&& 31))).toInt8.toInt32).toInt8.toInt32)))).set 33 (.inr (10, [.ref 34, .int 1, .ref 35, .ref 36, .ref 37, .ref 38, .ref 39, .int 0, .ref 40, .int 0, .int 0, .int 0, .int 0, .ref 40, .int 0]))).set 34 (.inl (3, 160, .inl (upd (upd (fun _ => 0) (Int32.toNatClampNeg 0) (((x2 >>> (0 &&& 31))).toInt8.toInt32).toInt8.toInt32) (Int32.toNatClampNeg 1) (((x2 >>> (8 &&& 31))).toInt8.toInt32).toInt8.toInt32)))).set 33 (.inr (10, [.ref 34, .int 2, .ref 35, .ref 36, .ref 37, .ref 38, .ref 39, .int 0, .ref 40, .int 0, .int 0, .int 0, .int 0, .ref 40, .int 0]))), h.2)) := by
    refine (r_iconst (v := 0) f117_0 rfl).trans ?_
    refine (r_istoren (L' := [some (.ref 33), some (.int x1), some (.int x2), some (.int 0)]) f117_1 rfl rfl).trans ?_
    refine (r_iloadn f117_2 rfl).trans ?_
    refine (r_iloadn f117_3 rfl).trans ?_
    refine (r_icmp_ge_f f117_4 ec3).trans ?_
    refine (r_aloadn f117_7 rfl).trans ?_
    refine (r_get (v := .int 0) f117_8 g33 rfl).trans ?_
    refine (r_sipush (v := 160) f117_11 rfl).trans ?_
    refine (r_icmp_ge_f f117_14 (by decide)).trans ?_
    refine (r_aloadn f117_17 rfl).trans ?_
    refine (r_get (v := .ref 34) f117_18 g33 rfl).trans ?_
    refine (r_aloadn f117_21 rfl).trans ?_
    refine (r_get (v := .int 0) f117_22 g33 rfl).trans ?_
    refine (r_iloadn f117_25 rfl).trans ?_
    refine (r_bipush (v := 8) f117_26 rfl).trans ?_
    refine (r_iloadn f117_28 rfl).trans ?_
    refine (r_imul (v := 0) f117_29 (by decide)).trans ?_
    refine (r_ishr (v := (x2 >>> (0 &&& 31))) f117_30 rfl).trans ?_
    refine (r_i2b (v := ((x2 >>> (0 &&& 31))).toInt8.toInt32) f117_31 rfl).trans ?_
    refine (r_bast (h' := ((h.1.set 34 (.inl (3, 160, .inl (upd (fun _ => 0) (Int32.toNatClampNeg 0) (((x2 >>> (0 &&& 31))).toInt8.toInt32).toInt8.toInt32)))), h.2)) f117_32 g34 (by decide) rfl).trans ?_
    refine (r_aloadn f117_33 rfl).trans ?_
    refine (r_dup f117_34 rfl).trans ?_
    refine (r_get (v := .int 0) f117_35 (gs_ne g33 (by decide)) rfl).trans ?_
    refine (r_iconst (v := 1) f117_38 rfl).trans ?_
    refine (r_iadd (v := 1) f117_39 (by decide)).trans ?_
    refine (r_put (h' := (((h.1.set 34 (.inl (3, 160, .inl (upd (fun _ => 0) (Int32.toNatClampNeg 0) (((x2 >>> (0 &&& 31))).toInt8.toInt32).toInt8.toInt32)))).set 33 (.inr (10, [.ref 34, .int 1, .ref 35, .ref 36, .ref 37, .ref 38, .ref 39, .int 0, .ref 40, .int 0, .int 0, .int 0, .int 0, .ref 40, .int 0]))), h.2)) f117_40 (gs_ne g33 (by decide)) rfl rfl).trans ?_
    refine (r_iinc (v := 1) (L' := [some (.ref 33), some (.int x1), some (.int x2), some (.int 1)]) f117_43 rfl rfl rfl).trans ?_
    refine (r_goto f117_46).trans ?_
    refine (r_iloadn f117_2 rfl).trans ?_
    refine (r_iloadn f117_3 rfl).trans ?_
    refine (r_icmp_ge_f f117_4 ec4).trans ?_
    refine (r_aloadn f117_7 rfl).trans ?_
    refine (r_get (v := .int 1) f117_8 (gs_eq (gs_ne g33 (by decide))) rfl).trans ?_
    refine (r_sipush (v := 160) f117_11 rfl).trans ?_
    refine (r_icmp_ge_f f117_14 (by decide)).trans ?_
    refine (r_aloadn f117_17 rfl).trans ?_
    refine (r_get (v := .ref 34) f117_18 (gs_eq (gs_ne g33 (by decide))) rfl).trans ?_
    refine (r_aloadn f117_21 rfl).trans ?_
    refine (r_get (v := .int 1) f117_22 (gs_eq (gs_ne g33 (by decide))) rfl).trans ?_
    refine (r_iloadn f117_25 rfl).trans ?_
    refine (r_bipush (v := 8) f117_26 rfl).trans ?_
    refine (r_iloadn f117_28 rfl).trans ?_
    refine (r_imul (v := 8) f117_29 (by decide)).trans ?_
    refine (r_ishr (v := (x2 >>> (8 &&& 31))) f117_30 rfl).trans ?_
    refine (r_i2b (v := ((x2 >>> (8 &&& 31))).toInt8.toInt32) f117_31 rfl).trans ?_
    refine (r_bast (h' := ((((h.1.set 34 (.inl (3, 160, .inl (upd (fun _ => 0) (Int32.toNatClampNeg 0) (((x2 >>> (0 &&& 31))).toInt8.toInt32).toInt8.toInt32)))).set 33 (.inr (10, [.ref 34, .int 1, .ref 35, .ref 36, .ref 37, .ref 38, .ref 39, .int 0, .ref 40, .int 0, .int 0, .int 0, .int 0, .ref 40, .int 0]))).set 34 (.inl (3, 160, .inl (upd (upd (fun _ => 0) (Int32.toNatClampNeg 0) (((x2 >>> (0 &&& 31))).toInt8.toInt32).toInt8.toInt32) (Int32.toNatClampNeg 1) (((x2 >>> (8 &&& 31))).toInt8.toInt32).toInt8.toInt32)))), h.2)) f117_32 (gs_ne (gs_eq g34) (by decide)) (by decide) rfl).trans ?_
    refine (r_aloadn f117_33 rfl).trans ?_
    refine (r_dup f117_34 rfl).trans ?_
    refine (r_get (v := .int 1) f117_35 (gs_ne (gs_eq (gs_ne g33 (by decide))) (by decide)) rfl).trans ?_
    refine (r_iconst (v := 1) f117_38 rfl).trans ?_
    refine (r_iadd (v := 2) f117_39 (by decide)).trans ?_
    refine (r_put (h' := (((((h.1.set 34 (.inl (3, 160, .inl (upd (fun _ => 0) (Int32.toNatClampNeg 0) (((x2 >>> (0 &&& 31))).toInt8.toInt32).toInt8.toInt32)))).set 33 (.inr (10, [.ref 34, .int 1, .ref 35, .ref 36, .ref 37, .ref 38, .ref 39, .int 0, .ref 40, .int 0, .int 0, .int 0, .int 0, .ref 40, .int 0]))).set 34 (.inl (3, 160, .inl (upd (upd (fun _ => 0) (Int32.toNatClampNeg 0) (((x2 >>> (0 &&& 31))).toInt8.toInt32).toInt8.toInt32) (Int32.toNatClampNeg 1) (((x2 >>> (8 &&& 31))).toInt8.toInt32).toInt8.toInt32)))).set 33 (.inr (10, [.ref 34, .int 2, .ref 35, .ref 36, .ref 37, .ref 38, .ref 39, .int 0, .ref 40, .int 0, .int 0, .int 0, .int 0, .ref 40, .int 0]))), h.2)) f117_40 (gs_ne (gs_eq (gs_ne g33 (by decide))) (by decide)) rfl rfl).trans ?_
    refine (r_iinc (v := 2) (L' := [some (.ref 33), some (.int x1), some (.int x2), some (.int 2)]) f117_43 rfl rfl rfl).trans ?_
    refine (r_goto f117_46).trans ?_
    refine (r_iloadn f117_2 rfl).trans ?_
    refine (r_iloadn f117_3 rfl).trans ?_
    refine (r_icmp_ge_t f117_4 ec5).trans ?_
    refine (r_aloadn f117_49 rfl).trans ?_
    refine (r_get (v := .int 2) f117_50 (gs_eq (gs_ne (gs_eq (gs_ne g33 (by decide))) (by decide))) rfl).trans ?_
    exact r_ireturn f117_53 rfl
  refine (r_virt (as := [.int x1, .int x2]) (v := (some (.int 2))) (h1 := (((((h.1.set 34 (.inl (3, 160, .inl (upd (fun _ => 0) (Int32.toNatClampNeg 0) (((x2 >>> (0 &&& 31))).toInt8.toInt32).toInt8.toInt32)))).set 33 (.inr (10, [.ref 34, .int 1, .ref 35, .ref 36, .ref 37, .ref 38, .ref 39, .int 0, .ref 40, .int 0, .int 0, .int 0, .int 0, .ref 40, .int 0]))).set 34 (.inl (3, 160, .inl (upd (upd (fun _ => 0) (Int32.toNatClampNeg 0) (((x2 >>> (0 &&& 31))).toInt8.toInt32).toInt8.toInt32) (Int32.toNatClampNeg 1) (((x2 >>> (8 &&& 31))).toInt8.toInt32).toInt8.toInt32)))).set 33 (.inr (10, [.ref 34, .int 2, .ref 35, .ref 36, .ref 37, .ref 38, .ref 39, .int 0, .ref 40, .int 0, .int 0, .int 0, .int 0, .ref 40, .int 0]))), h.2)) f167_37 g33 zg117 rfl rfl rfl rfl rfl rfl hc2).trans ?_
  exact r_ireturn f167_40 rfl
set_option maxHeartbeats 40000000 in
theorem qm23_3_0 {X : aX} {n d : Nat} {h : aH} {x1 : Int32} {x2 : Int32}  (g72 : h.1[72]? = some (.inr (12, zF72))) (g115 : h.1[115]? = some (.inl (3, 160, .inl (fun _ => 0)))) (ec0 : ¬ x1 < 1) (ec1 : ¬ 4 < x1) (ec2 : (0 + x1) ≤ 160) (ec3 : ¬ x1 ≤ 0) (ec4 : ¬ x1 ≤ 1) (ec5 : x1 ≤ 2) : arun X (n + 63) (d + 2) zM250 0 [some (.ref 72), some (.int x1), some (.int x2), none] [] h = some (some (.int 2), (((((h.1.set 115 (.inl (3, 160, .inl (upd (fun _ => 0) (Int32.toNatClampNeg 0) (((x2 >>> (0 &&& 31))).toInt8.toInt32).toInt8.toInt32)))).set 72 (.inr (12, (zF72.set 54 (.int 1))))).set 115 (.inl (3, 160, .inl (upd (upd (fun _ => 0) (Int32.toNatClampNeg 0) (((x2 >>> (0 &&& 31))).toInt8.toInt32).toInt8.toInt32) (Int32.toNatClampNeg 1) (((x2 >>> (8 &&& 31))).toInt8.toInt32).toInt8.toInt32)))).set 72 (.inr (12, ((zF72.set 54 (.int 1)).set 54 (.int 2))))), h.2)) := by
  refine (r_iloadn f250_0 rfl).trans ?_
  refine (r_iconst (v := 1) f250_1 rfl).trans ?_
  refine (r_iconst (v := 4) f250_2 rfl).trans ?_
  have hc1 : arun X (n + 59) (d + 1) zM196 0 [some (.int x1), some (.int 1), some (.int 4)] [] h = some ((some (.int 1)), h) := by
    refine (r_iloadn f196_0 rfl).trans ?_
    refine (r_iloadn f196_1 rfl).trans ?_
    refine (r_icmp_lt_f f196_2 ec0).trans ?_
    refine (r_iloadn f196_5 rfl).trans ?_
    refine (r_iloadn f196_6 rfl).trans ?_
    refine (r_icmp_gt_f f196_7 ec1).trans ?_
    refine (r_iconst (v := 1) f196_10 rfl).trans ?_
    refine (r_goto f196_11).trans ?_
    exact r_zreturn f196_15 rfl (by decide)
  refine (r_stat (as := [.int x1, .int 1, .int 4]) (v := (some (.int 1))) (h1 := h) f250_3 rfl zg196 rfl rfl rfl rfl rfl rfl hc1).trans ?_
  refine (r_if_ne_t f250_6 (by decide)).trans ?_
  refine (r_aloadn f250_11 rfl).trans ?_
  refine (r_get (v := .int 0) f250_12 g72 rfl).trans ?_
  refine (r_iloadn f250_15 rfl).trans ?_
  refine (r_iadd (v := (0 + x1)) f250_16 rfl).trans ?_
  refine (r_sipush (v := 160) f250_17 rfl).trans ?_
  refine (r_icmp_le_t f250_20 ec2).trans ?_
  refine (r_iconst (v := 0) f250_26 rfl).trans ?_
  refine (r_istoren (L' := [some (.ref 72), some (.int x1), some (.int x2), some (.int 0)]) f250_27 rfl rfl).trans ?_
  refine (r_iloadn f250_28 rfl).trans ?_
  refine (r_iloadn f250_29 rfl).trans ?_
  refine (r_icmp_ge_f f250_30 ec3).trans ?_
  refine (r_aloadn f250_33 rfl).trans ?_
  refine (r_get (v := .ref 115) f250_34 g72 rfl).trans ?_
  refine (r_aloadn f250_37 rfl).trans ?_
  refine (r_get (v := .int 0) f250_38 g72 rfl).trans ?_
  refine (r_iloadn f250_41 rfl).trans ?_
  refine (r_bipush (v := 8) f250_42 rfl).trans ?_
  refine (r_iloadn f250_44 rfl).trans ?_
  refine (r_imul (v := 0) f250_45 (by decide)).trans ?_
  refine (r_ishr (v := (x2 >>> (0 &&& 31))) f250_46 rfl).trans ?_
  refine (r_i2b (v := ((x2 >>> (0 &&& 31))).toInt8.toInt32) f250_47 rfl).trans ?_
  refine (r_bast (h' := ((h.1.set 115 (.inl (3, 160, .inl (upd (fun _ => 0) (Int32.toNatClampNeg 0) (((x2 >>> (0 &&& 31))).toInt8.toInt32).toInt8.toInt32)))), h.2)) f250_48 g115 (by decide) rfl).trans ?_
  refine (r_aloadn f250_49 rfl).trans ?_
  refine (r_dup f250_50 rfl).trans ?_
  refine (r_get (v := .int 0) f250_51 (gs_ne g72 (by decide)) rfl).trans ?_
  refine (r_iconst (v := 1) f250_54 rfl).trans ?_
  refine (r_iadd (v := 1) f250_55 (by decide)).trans ?_
  refine (r_put (h' := (((h.1.set 115 (.inl (3, 160, .inl (upd (fun _ => 0) (Int32.toNatClampNeg 0) (((x2 >>> (0 &&& 31))).toInt8.toInt32).toInt8.toInt32)))).set 72 (.inr (12, (zF72.set 54 (.int 1))))), h.2)) f250_56 (gs_ne g72 (by decide)) rfl rfl).trans ?_
  refine (r_iinc (v := 1) (L' := [some (.ref 72), some (.int x1), some (.int x2), some (.int 1)]) f250_59 rfl rfl rfl).trans ?_
  refine (r_goto f250_62).trans ?_
  refine (r_iloadn f250_28 rfl).trans ?_
  refine (r_iloadn f250_29 rfl).trans ?_
  refine (r_icmp_ge_f f250_30 ec4).trans ?_
  refine (r_aloadn f250_33 rfl).trans ?_
  refine (r_get (v := .ref 115) f250_34 (gs_eq (gs_ne g72 (by decide))) rfl).trans ?_
  refine (r_aloadn f250_37 rfl).trans ?_
  refine (r_get (v := .int 1) f250_38 (gs_eq (gs_ne g72 (by decide))) rfl).trans ?_
  refine (r_iloadn f250_41 rfl).trans ?_
  refine (r_bipush (v := 8) f250_42 rfl).trans ?_
  refine (r_iloadn f250_44 rfl).trans ?_
  refine (r_imul (v := 8) f250_45 (by decide)).trans ?_
  refine (r_ishr (v := (x2 >>> (8 &&& 31))) f250_46 rfl).trans ?_
  refine (r_i2b (v := ((x2 >>> (8 &&& 31))).toInt8.toInt32) f250_47 rfl).trans ?_
  refine (r_bast (h' := ((((h.1.set 115 (.inl (3, 160, .inl (upd (fun _ => 0) (Int32.toNatClampNeg 0) (((x2 >>> (0 &&& 31))).toInt8.toInt32).toInt8.toInt32)))).set 72 (.inr (12, (zF72.set 54 (.int 1))))).set 115 (.inl (3, 160, .inl (upd (upd (fun _ => 0) (Int32.toNatClampNeg 0) (((x2 >>> (0 &&& 31))).toInt8.toInt32).toInt8.toInt32) (Int32.toNatClampNeg 1) (((x2 >>> (8 &&& 31))).toInt8.toInt32).toInt8.toInt32)))), h.2)) f250_48 (gs_ne (gs_eq g115) (by decide)) (by decide) rfl).trans ?_
  refine (r_aloadn f250_49 rfl).trans ?_
  refine (r_dup f250_50 rfl).trans ?_
  refine (r_get (v := .int 1) f250_51 (gs_ne (gs_eq (gs_ne g72 (by decide))) (by decide)) rfl).trans ?_
  refine (r_iconst (v := 1) f250_54 rfl).trans ?_
  refine (r_iadd (v := 2) f250_55 (by decide)).trans ?_
  refine (r_put (h' := (((((h.1.set 115 (.inl (3, 160, .inl (upd (fun _ => 0) (Int32.toNatClampNeg 0) (((x2 >>> (0 &&& 31))).toInt8.toInt32).toInt8.toInt32)))).set 72 (.inr (12, (zF72.set 54 (.int 1))))).set 115 (.inl (3, 160, .inl (upd (upd (fun _ => 0) (Int32.toNatClampNeg 0) (((x2 >>> (0 &&& 31))).toInt8.toInt32).toInt8.toInt32) (Int32.toNatClampNeg 1) (((x2 >>> (8 &&& 31))).toInt8.toInt32).toInt8.toInt32)))).set 72 (.inr (12, ((zF72.set 54 (.int 1)).set 54 (.int 2))))), h.2)) f250_56 (gs_ne (gs_eq (gs_ne g72 (by decide))) (by decide)) rfl rfl).trans ?_
  refine (r_iinc (v := 2) (L' := [some (.ref 72), some (.int x1), some (.int x2), some (.int 2)]) f250_59 rfl rfl rfl).trans ?_
  refine (r_goto f250_62).trans ?_
  refine (r_iloadn f250_28 rfl).trans ?_
  refine (r_iloadn f250_29 rfl).trans ?_
  refine (r_icmp_ge_t f250_30 ec5).trans ?_
  refine (r_aloadn f250_65 rfl).trans ?_
  refine (r_get (v := .int 2) f250_66 (gs_eq (gs_ne (gs_eq (gs_ne g72 (by decide))) (by decide))) rfl).trans ?_
  exact r_ireturn f250_69 rfl
set_option maxHeartbeats 40000000 in
theorem qc23_4 {X : aX} {n d : Nat} {h : aH} {x1 : Int32} {x2 : Int32}  (g0 : h.1[0]? = some (.inr (11, zF0))) (g33 : h.1[33]? = some (.inr (10, zF33))) (g34 : h.1[34]? = some (.inl (3, 160, .inl (fun _ => 0)))) (ec0 : ¬ x1 < 1) (ec1 : ¬ 4 < x1) (ec2 : (0 + x1) ≤ 160) (ec3 : ¬ x1 ≤ 0) (ec4 : ¬ x1 ≤ 1) (ec5 : ¬ x1 ≤ 2) (ec6 : x1 ≤ 3) : arun X (n + 103) (d + 2) zM167 0 [some (.ref 0), some (.int x1), some (.int x2)] [] h = some (some (.int 3), (((((((h.1.set 34 (.inl (3, 160, .inl (upd (fun _ => 0) (Int32.toNatClampNeg 0) (((x2 >>> (0 &&& 31))).toInt8.toInt32).toInt8.toInt32)))).set 33 (.inr (10, [.ref 34, .int 1, .ref 35, .ref 36, .ref 37, .ref 38, .ref 39, .int 0, .ref 40, .int 0, .int 0, .int 0, .int 0, .ref 40, .int 0]))).set 34 (.inl (3, 160, .inl (upd (upd (fun _ => 0) (Int32.toNatClampNeg 0) (((x2 >>> (0 &&& 31))).toInt8.toInt32).toInt8.toInt32) (Int32.toNatClampNeg 1) (((x2 >>> (8 &&& 31))).toInt8.toInt32).toInt8.toInt32)))).set 33 (.inr (10, [.ref 34, .int 2, .ref 35, .ref 36, .ref 37, .ref 38, .ref 39, .int 0, .ref 40, .int 0, .int 0, .int 0, .int 0, .ref 40, .int 0]))).set 34 (.inl (3, 160, .inl (upd (upd (upd (fun _ => 0) (Int32.toNatClampNeg 0) (((x2 >>> (0 &&& 31))).toInt8.toInt32).toInt8.toInt32) (Int32.toNatClampNeg 1) (((x2 >>> (8 &&& 31))).toInt8.toInt32).toInt8.toInt32) (Int32.toNatClampNeg 2) (((x2 >>> (16 &&& 31))).toInt8.toInt32).toInt8.toInt32)))).set 33 (.inr (10, [.ref 34, .int 3, .ref 35, .ref 36, .ref 37, .ref 38, .ref 39, .int 0, .ref 40, .int 0, .int 0, .int 0, .int 0, .ref 40, .int 0]))), h.2)) := by
  refine (r_iloadn f167_0 rfl).trans ?_
  refine (r_iconst (v := 1) f167_1 rfl).trans ?_
  refine (r_iconst (v := 4) f167_2 rfl).trans ?_
  have hc1 : arun X (n + 99) (d + 1) zM137 0 [some (.int x1), some (.int 1), some (.int 4)] [] h = some ((some (.int 1)), h) := by
    refine (r_iloadn f137_0 rfl).trans ?_
    refine (r_iloadn f137_1 rfl).trans ?_
    refine (r_icmp_gt_f f137_2 ec0).trans ?_
    refine (r_iloadn f137_5 rfl).trans ?_
    refine (r_iloadn f137_6 rfl).trans ?_
    refine (r_icmp_gt_f f137_7 ec1).trans ?_
    refine (r_iconst (v := 1) f137_10 rfl).trans ?_
    refine (r_goto f137_11).trans ?_
    exact r_zreturn f137_15 rfl (by decide)
  refine (r_stat (as := [.int x1, .int 1, .int 4]) (v := (some (.int 1))) (h1 := h) f167_3 rfl zg137 rfl rfl rfl rfl rfl rfl hc1).trans ?_
  refine (r_if_ne_t f167_6 (by decide)).trans ?_
  refine (r_aloadn f167_11 rfl).trans ?_
  refine (r_get (v := .ref 33) f167_12 g0 rfl).trans ?_
  refine (r_get (v := .int 0) f167_15 g33 rfl).trans ?_
  refine (r_iloadn f167_18 rfl).trans ?_
  refine (r_iadd (v := (0 + x1)) f167_19 rfl).trans ?_
  refine (r_sipush (v := 160) f167_20 rfl).trans ?_
  refine (r_icmp_le_t f167_23 ec2).trans ?_
  refine (r_aloadn f167_31 rfl).trans ?_
  refine (r_get (v := .ref 33) f167_32 g0 rfl).trans ?_
  refine (r_iloadn f167_35 rfl).trans ?_
  refine (r_iloadn f167_36 rfl).trans ?_
  have hc2 : arun X (n + 86) (d + 1) zM117 0 [some (.ref 33), some (.int x1), some (.int x2), none] [] h = some ((some (.int 3)), (((((((h.1.set 34 (.inl (3, 160, .inl (upd (fun _ => 0) (Int32.toNatClampNeg 0) (((x2 >>> (0 &&& 31))).toInt8.toInt32).toInt8.toInt32)))).set 33 (.inr (10, [.ref 34, .int 1, .ref 35, .ref 36, .ref 37, .ref 38, .ref 39, .int 0, .ref 40, .int 0, .int 0, .int 0, .int 0, .ref 40, .int 0]))).set 34 (.inl (3, 160, .inl (upd (upd (fun _ => 0) (Int32.toNatClampNeg 0) (((x2 >>> (0 &&& 31))).toInt8.toInt32).toInt8.toInt32) (Int32.toNatClampNeg 1) (((x2 >>> (8 &&& 31))).toInt8.toInt32).toInt8.toInt32)))).set 33 (.inr (10, [.ref 34, .int 2, .ref 35, .ref 36, .ref 37, .ref 38, .ref 39, .int 0, .ref 40, .int 0, .int 0, .int 0, .int 0, .ref 40, .int 0]))).set 34 (.inl (3, 160, .inl (upd (upd (upd (fun _ => 0) (Int32.toNatClampNeg 0) (((x2 >>> (0 &&& 31))).toInt8.toInt32).toInt8.toInt32) (Int32.toNatClampNeg 1) (((x2 >>> (8 &&& 31))).toInt8.toInt32).toInt8.toInt32) (Int32.toNatClampNeg 2) (((x2 >>> (16 &&& 31))).toInt8.toInt32).toInt8.toInt32)))).set 33 (.inr (10, [.ref 34, .int 3, .ref 35, .ref 36, .ref 37, .ref 38, .ref 39, .int 0, .ref 40, .int 0, .int 0, .int 0, .int 0, .ref 40, .int 0]))), h.2)) := by
    refine (r_iconst (v := 0) f117_0 rfl).trans ?_
    refine (r_istoren (L' := [some (.ref 33), some (.int x1), some (.int x2), some (.int 0)]) f117_1 rfl rfl).trans ?_
    refine (r_iloadn f117_2 rfl).trans ?_
    refine (r_iloadn f117_3 rfl).trans ?_
    refine (r_icmp_ge_f f117_4 ec3).trans ?_
    refine (r_aloadn f117_7 rfl).trans ?_
    refine (r_get (v := .int 0) f117_8 g33 rfl).trans ?_
    refine (r_sipush (v := 160) f117_11 rfl).trans ?_
    refine (r_icmp_ge_f f117_14 (by decide)).trans ?_
    refine (r_aloadn f117_17 rfl).trans ?_
    refine (r_get (v := .ref 34) f117_18 g33 rfl).trans ?_
    refine (r_aloadn f117_21 rfl).trans ?_
    refine (r_get (v := .int 0) f117_22 g33 rfl).trans ?_
    refine (r_iloadn f117_25 rfl).trans ?_
    refine (r_bipush (v := 8) f117_26 rfl).trans ?_
    refine (r_iloadn f117_28 rfl).trans ?_
    refine (r_imul (v := 0) f117_29 (by decide)).trans ?_
    refine (r_ishr (v := (x2 >>> (0 &&& 31))) f117_30 rfl).trans ?_
    refine (r_i2b (v := ((x2 >>> (0 &&& 31))).toInt8.toInt32) f117_31 rfl).trans ?_
    refine (r_bast (h' := ((h.1.set 34 (.inl (3, 160, .inl (upd (fun _ => 0) (Int32.toNatClampNeg 0) (((x2 >>> (0 &&& 31))).toInt8.toInt32).toInt8.toInt32)))), h.2)) f117_32 g34 (by decide) rfl).trans ?_
    refine (r_aloadn f117_33 rfl).trans ?_
    refine (r_dup f117_34 rfl).trans ?_
    refine (r_get (v := .int 0) f117_35 (gs_ne g33 (by decide)) rfl).trans ?_
    refine (r_iconst (v := 1) f117_38 rfl).trans ?_
    refine (r_iadd (v := 1) f117_39 (by decide)).trans ?_
    refine (r_put (h' := (((h.1.set 34 (.inl (3, 160, .inl (upd (fun _ => 0) (Int32.toNatClampNeg 0) (((x2 >>> (0 &&& 31))).toInt8.toInt32).toInt8.toInt32)))).set 33 (.inr (10, [.ref 34, .int 1, .ref 35, .ref 36, .ref 37, .ref 38, .ref 39, .int 0, .ref 40, .int 0, .int 0, .int 0, .int 0, .ref 40, .int 0]))), h.2)) f117_40 (gs_ne g33 (by decide)) rfl rfl).trans ?_
    refine (r_iinc (v := 1) (L' := [some (.ref 33), some (.int x1), some (.int x2), some (.int 1)]) f117_43 rfl rfl rfl).trans ?_
    refine (r_goto f117_46).trans ?_
    refine (r_iloadn f117_2 rfl).trans ?_
    refine (r_iloadn f117_3 rfl).trans ?_
    refine (r_icmp_ge_f f117_4 ec4).trans ?_
    refine (r_aloadn f117_7 rfl).trans ?_
    refine (r_get (v := .int 1) f117_8 (gs_eq (gs_ne g33 (by decide))) rfl).trans ?_
    refine (r_sipush (v := 160) f117_11 rfl).trans ?_
    refine (r_icmp_ge_f f117_14 (by decide)).trans ?_
    refine (r_aloadn f117_17 rfl).trans ?_
    refine (r_get (v := .ref 34) f117_18 (gs_eq (gs_ne g33 (by decide))) rfl).trans ?_
    refine (r_aloadn f117_21 rfl).trans ?_
    refine (r_get (v := .int 1) f117_22 (gs_eq (gs_ne g33 (by decide))) rfl).trans ?_
    refine (r_iloadn f117_25 rfl).trans ?_
    refine (r_bipush (v := 8) f117_26 rfl).trans ?_
    refine (r_iloadn f117_28 rfl).trans ?_
    refine (r_imul (v := 8) f117_29 (by decide)).trans ?_
    refine (r_ishr (v := (x2 >>> (8 &&& 31))) f117_30 rfl).trans ?_
    refine (r_i2b (v := ((x2 >>> (8 &&& 31))).toInt8.toInt32) f117_31 rfl).trans ?_
    refine (r_bast (h' := ((((h.1.set 34 (.inl (3, 160, .inl (upd (fun _ => 0) (Int32.toNatClampNeg 0) (((x2 >>> (0 &&& 31))).toInt8.toInt32).toInt8.toInt32)))).set 33 (.inr (10, [.ref 34, .int 1, .ref 35, .ref 36, .ref 37, .ref 38, .ref 39, .int 0, .ref 40, .int 0, .int 0, .int 0, .int 0, .ref 40, .int 0]))).set 34 (.inl (3, 160, .inl (upd (upd (fun _ => 0) (Int32.toNatClampNeg 0) (((x2 >>> (0 &&& 31))).toInt8.toInt32).toInt8.toInt32) (Int32.toNatClampNeg 1) (((x2 >>> (8 &&& 31))).toInt8.toInt32).toInt8.toInt32)))), h.2)) f117_32 (gs_ne (gs_eq g34) (by decide)) (by decide) rfl).trans ?_
    refine (r_aloadn f117_33 rfl).trans ?_
    refine (r_dup f117_34 rfl).trans ?_
    refine (r_get (v := .int 1) f117_35 (gs_ne (gs_eq (gs_ne g33 (by decide))) (by decide)) rfl).trans ?_
    refine (r_iconst (v := 1) f117_38 rfl).trans ?_
    refine (r_iadd (v := 2) f117_39 (by decide)).trans ?_
    refine (r_put (h' := (((((h.1.set 34 (.inl (3, 160, .inl (upd (fun _ => 0) (Int32.toNatClampNeg 0) (((x2 >>> (0 &&& 31))).toInt8.toInt32).toInt8.toInt32)))).set 33 (.inr (10, [.ref 34, .int 1, .ref 35, .ref 36, .ref 37, .ref 38, .ref 39, .int 0, .ref 40, .int 0, .int 0, .int 0, .int 0, .ref 40, .int 0]))).set 34 (.inl (3, 160, .inl (upd (upd (fun _ => 0) (Int32.toNatClampNeg 0) (((x2 >>> (0 &&& 31))).toInt8.toInt32).toInt8.toInt32) (Int32.toNatClampNeg 1) (((x2 >>> (8 &&& 31))).toInt8.toInt32).toInt8.toInt32)))).set 33 (.inr (10, [.ref 34, .int 2, .ref 35, .ref 36, .ref 37, .ref 38, .ref 39, .int 0, .ref 40, .int 0, .int 0, .int 0, .int 0, .ref 40, .int 0]))), h.2)) f117_40 (gs_ne (gs_eq (gs_ne g33 (by decide))) (by decide)) rfl rfl).trans ?_
    refine (r_iinc (v := 2) (L' := [some (.ref 33), some (.int x1), some (.int x2), some (.int 2)]) f117_43 rfl rfl rfl).trans ?_
    refine (r_goto f117_46).trans ?_
    refine (r_iloadn f117_2 rfl).trans ?_
    refine (r_iloadn f117_3 rfl).trans ?_
    refine (r_icmp_ge_f f117_4 ec5).trans ?_
    refine (r_aloadn f117_7 rfl).trans ?_
    refine (r_get (v := .int 2) f117_8 (gs_eq (gs_ne (gs_eq (gs_ne g33 (by decide))) (by decide))) rfl).trans ?_
    refine (r_sipush (v := 160) f117_11 rfl).trans ?_
    refine (r_icmp_ge_f f117_14 (by decide)).trans ?_
    refine (r_aloadn f117_17 rfl).trans ?_
    refine (r_get (v := .ref 34) f117_18 (gs_eq (gs_ne (gs_eq (gs_ne g33 (by decide))) (by decide))) rfl).trans ?_
    refine (r_aloadn f117_21 rfl).trans ?_
    refine (r_get (v := .int 2) f117_22 (gs_eq (gs_ne (gs_eq (gs_ne g33 (by decide))) (by decide))) rfl).trans ?_
    refine (r_iloadn f117_25 rfl).trans ?_
    refine (r_bipush (v := 8) f117_26 rfl).trans ?_
    refine (r_iloadn f117_28 rfl).trans ?_
    refine (r_imul (v := 16) f117_29 (by decide)).trans ?_
    refine (r_ishr (v := (x2 >>> (16 &&& 31))) f117_30 rfl).trans ?_
    refine (r_i2b (v := ((x2 >>> (16 &&& 31))).toInt8.toInt32) f117_31 rfl).trans ?_
    refine (r_bast (h' := ((((((h.1.set 34 (.inl (3, 160, .inl (upd (fun _ => 0) (Int32.toNatClampNeg 0) (((x2 >>> (0 &&& 31))).toInt8.toInt32).toInt8.toInt32)))).set 33 (.inr (10, [.ref 34, .int 1, .ref 35, .ref 36, .ref 37, .ref 38, .ref 39, .int 0, .ref 40, .int 0, .int 0, .int 0, .int 0, .ref 40, .int 0]))).set 34 (.inl (3, 160, .inl (upd (upd (fun _ => 0) (Int32.toNatClampNeg 0) (((x2 >>> (0 &&& 31))).toInt8.toInt32).toInt8.toInt32) (Int32.toNatClampNeg 1) (((x2 >>> (8 &&& 31))).toInt8.toInt32).toInt8.toInt32)))).set 33 (.inr (10, [.ref 34, .int 2, .ref 35, .ref 36, .ref 37, .ref 38, .ref 39, .int 0, .ref 40, .int 0, .int 0, .int 0, .int 0, .ref 40, .int 0]))).set 34 (.inl (3, 160, .inl (upd (upd (upd (fun _ => 0) (Int32.toNatClampNeg 0) (((x2 >>> (0 &&& 31))).toInt8.toInt32).toInt8.toInt32) (Int32.toNatClampNeg 1) (((x2 >>> (8 &&& 31))).toInt8.toInt32).toInt8.toInt32) (Int32.toNatClampNeg 2) (((x2 >>> (16 &&& 31))).toInt8.toInt32).toInt8.toInt32)))), h.2)) f117_32 (gs_ne (gs_eq (gs_ne (gs_eq g34) (by decide))) (by decide)) (by decide) rfl).trans ?_
    refine (r_aloadn f117_33 rfl).trans ?_
    refine (r_dup f117_34 rfl).trans ?_
    refine (r_get (v := .int 2) f117_35 (gs_ne (gs_eq (gs_ne (gs_eq (gs_ne g33 (by decide))) (by decide))) (by decide)) rfl).trans ?_
    refine (r_iconst (v := 1) f117_38 rfl).trans ?_
    refine (r_iadd (v := 3) f117_39 (by decide)).trans ?_
    refine (r_put (h' := (((((((h.1.set 34 (.inl (3, 160, .inl (upd (fun _ => 0) (Int32.toNatClampNeg 0) (((x2 >>> (0 &&& 31))).toInt8.toInt32).toInt8.toInt32)))).set 33 (.inr (10, [.ref 34, .int 1, .ref 35, .ref 36, .ref 37, .ref 38, .ref 39, .int 0, .ref 40, .int 0, .int 0, .int 0, .int 0, .ref 40, .int 0]))).set 34 (.inl (3, 160, .inl (upd (upd (fun _ => 0) (Int32.toNatClampNeg 0) (((x2 >>> (0 &&& 31))).toInt8.toInt32).toInt8.toInt32) (Int32.toNatClampNeg 1) (((x2 >>> (8 &&& 31))).toInt8.toInt32).toInt8.toInt32)))).set 33 (.inr (10, [.ref 34, .int 2, .ref 35, .ref 36, .ref 37, .ref 38, .ref 39, .int 0, .ref 40, .int 0, .int 0, .int 0, .int 0, .ref 40, .int 0]))).set 34 (.inl (3, 160, .inl (upd (upd (upd (fun _ => 0) (Int32.toNatClampNeg 0) (((x2 >>> (0 &&& 31))).toInt8.toInt32).toInt8.toInt32) (Int32.toNatClampNeg 1) (((x2 >>> (8 &&& 31))).toInt8.toInt32).toInt8.toInt32) (Int32.toNatClampNeg 2) (((x2 >>> (16 &&& 31))).toInt8.toInt32).toInt8.toInt32)))).set 33 (.inr (10, [.ref 34, .int 3, .ref 35, .ref 36, .ref 37, .ref 38, .ref 39, .int 0, .ref 40, .int 0, .int 0, .int 0, .int 0, .ref 40, .int 0]))), h.2)) f117_40 (gs_ne (gs_eq (gs_ne (gs_eq (gs_ne g33 (by decide))) (by decide))) (by decide)) rfl rfl).trans ?_
    refine (r_iinc (v := 3) (L' := [some (.ref 33), some (.int x1), some (.int x2), some (.int 3)]) f117_43 rfl rfl rfl).trans ?_
    refine (r_goto f117_46).trans ?_
    refine (r_iloadn f117_2 rfl).trans ?_
    refine (r_iloadn f117_3 rfl).trans ?_
    refine (r_icmp_ge_t f117_4 ec6).trans ?_
    refine (r_aloadn f117_49 rfl).trans ?_
    refine (r_get (v := .int 3) f117_50 (gs_eq (gs_ne (gs_eq (gs_ne (gs_eq (gs_ne g33 (by decide))) (by decide))) (by decide))) rfl).trans ?_
    exact r_ireturn f117_53 rfl
  refine (r_virt (as := [.int x1, .int x2]) (v := (some (.int 3))) (h1 := (((((((h.1.set 34 (.inl (3, 160, .inl (upd (fun _ => 0) (Int32.toNatClampNeg 0) (((x2 >>> (0 &&& 31))).toInt8.toInt32).toInt8.toInt32)))).set 33 (.inr (10, [.ref 34, .int 1, .ref 35, .ref 36, .ref 37, .ref 38, .ref 39, .int 0, .ref 40, .int 0, .int 0, .int 0, .int 0, .ref 40, .int 0]))).set 34 (.inl (3, 160, .inl (upd (upd (fun _ => 0) (Int32.toNatClampNeg 0) (((x2 >>> (0 &&& 31))).toInt8.toInt32).toInt8.toInt32) (Int32.toNatClampNeg 1) (((x2 >>> (8 &&& 31))).toInt8.toInt32).toInt8.toInt32)))).set 33 (.inr (10, [.ref 34, .int 2, .ref 35, .ref 36, .ref 37, .ref 38, .ref 39, .int 0, .ref 40, .int 0, .int 0, .int 0, .int 0, .ref 40, .int 0]))).set 34 (.inl (3, 160, .inl (upd (upd (upd (fun _ => 0) (Int32.toNatClampNeg 0) (((x2 >>> (0 &&& 31))).toInt8.toInt32).toInt8.toInt32) (Int32.toNatClampNeg 1) (((x2 >>> (8 &&& 31))).toInt8.toInt32).toInt8.toInt32) (Int32.toNatClampNeg 2) (((x2 >>> (16 &&& 31))).toInt8.toInt32).toInt8.toInt32)))).set 33 (.inr (10, [.ref 34, .int 3, .ref 35, .ref 36, .ref 37, .ref 38, .ref 39, .int 0, .ref 40, .int 0, .int 0, .int 0, .int 0, .ref 40, .int 0]))), h.2)) f167_37 g33 zg117 rfl rfl rfl rfl rfl rfl hc2).trans ?_
  exact r_ireturn f167_40 rfl
set_option maxHeartbeats 40000000 in
theorem qm23_4_0 {X : aX} {n d : Nat} {h : aH} {x1 : Int32} {x2 : Int32}  (g72 : h.1[72]? = some (.inr (12, zF72))) (g115 : h.1[115]? = some (.inl (3, 160, .inl (fun _ => 0)))) (ec0 : ¬ x1 < 1) (ec1 : ¬ 4 < x1) (ec2 : (0 + x1) ≤ 160) (ec3 : ¬ x1 ≤ 0) (ec4 : ¬ x1 ≤ 1) (ec5 : ¬ x1 ≤ 2) (ec6 : x1 ≤ 3) : arun X (n + 85) (d + 2) zM250 0 [some (.ref 72), some (.int x1), some (.int x2), none] [] h = some (some (.int 3), (((((((h.1.set 115 (.inl (3, 160, .inl (upd (fun _ => 0) (Int32.toNatClampNeg 0) (((x2 >>> (0 &&& 31))).toInt8.toInt32).toInt8.toInt32)))).set 72 (.inr (12, (zF72.set 54 (.int 1))))).set 115 (.inl (3, 160, .inl (upd (upd (fun _ => 0) (Int32.toNatClampNeg 0) (((x2 >>> (0 &&& 31))).toInt8.toInt32).toInt8.toInt32) (Int32.toNatClampNeg 1) (((x2 >>> (8 &&& 31))).toInt8.toInt32).toInt8.toInt32)))).set 72 (.inr (12, ((zF72.set 54 (.int 1)).set 54 (.int 2))))).set 115 (.inl (3, 160, .inl (upd (upd (upd (fun _ => 0) (Int32.toNatClampNeg 0) (((x2 >>> (0 &&& 31))).toInt8.toInt32).toInt8.toInt32) (Int32.toNatClampNeg 1) (((x2 >>> (8 &&& 31))).toInt8.toInt32).toInt8.toInt32) (Int32.toNatClampNeg 2) (((x2 >>> (16 &&& 31))).toInt8.toInt32).toInt8.toInt32)))).set 72 (.inr (12, (((zF72.set 54 (.int 1)).set 54 (.int 2)).set 54 (.int 3))))), h.2)) := by
  refine (r_iloadn f250_0 rfl).trans ?_
  refine (r_iconst (v := 1) f250_1 rfl).trans ?_
  refine (r_iconst (v := 4) f250_2 rfl).trans ?_
  have hc1 : arun X (n + 81) (d + 1) zM196 0 [some (.int x1), some (.int 1), some (.int 4)] [] h = some ((some (.int 1)), h) := by
    refine (r_iloadn f196_0 rfl).trans ?_
    refine (r_iloadn f196_1 rfl).trans ?_
    refine (r_icmp_lt_f f196_2 ec0).trans ?_
    refine (r_iloadn f196_5 rfl).trans ?_
    refine (r_iloadn f196_6 rfl).trans ?_
    refine (r_icmp_gt_f f196_7 ec1).trans ?_
    refine (r_iconst (v := 1) f196_10 rfl).trans ?_
    refine (r_goto f196_11).trans ?_
    exact r_zreturn f196_15 rfl (by decide)
  refine (r_stat (as := [.int x1, .int 1, .int 4]) (v := (some (.int 1))) (h1 := h) f250_3 rfl zg196 rfl rfl rfl rfl rfl rfl hc1).trans ?_
  refine (r_if_ne_t f250_6 (by decide)).trans ?_
  refine (r_aloadn f250_11 rfl).trans ?_
  refine (r_get (v := .int 0) f250_12 g72 rfl).trans ?_
  refine (r_iloadn f250_15 rfl).trans ?_
  refine (r_iadd (v := (0 + x1)) f250_16 rfl).trans ?_
  refine (r_sipush (v := 160) f250_17 rfl).trans ?_
  refine (r_icmp_le_t f250_20 ec2).trans ?_
  refine (r_iconst (v := 0) f250_26 rfl).trans ?_
  refine (r_istoren (L' := [some (.ref 72), some (.int x1), some (.int x2), some (.int 0)]) f250_27 rfl rfl).trans ?_
  refine (r_iloadn f250_28 rfl).trans ?_
  refine (r_iloadn f250_29 rfl).trans ?_
  refine (r_icmp_ge_f f250_30 ec3).trans ?_
  refine (r_aloadn f250_33 rfl).trans ?_
  refine (r_get (v := .ref 115) f250_34 g72 rfl).trans ?_
  refine (r_aloadn f250_37 rfl).trans ?_
  refine (r_get (v := .int 0) f250_38 g72 rfl).trans ?_
  refine (r_iloadn f250_41 rfl).trans ?_
  refine (r_bipush (v := 8) f250_42 rfl).trans ?_
  refine (r_iloadn f250_44 rfl).trans ?_
  refine (r_imul (v := 0) f250_45 (by decide)).trans ?_
  refine (r_ishr (v := (x2 >>> (0 &&& 31))) f250_46 rfl).trans ?_
  refine (r_i2b (v := ((x2 >>> (0 &&& 31))).toInt8.toInt32) f250_47 rfl).trans ?_
  refine (r_bast (h' := ((h.1.set 115 (.inl (3, 160, .inl (upd (fun _ => 0) (Int32.toNatClampNeg 0) (((x2 >>> (0 &&& 31))).toInt8.toInt32).toInt8.toInt32)))), h.2)) f250_48 g115 (by decide) rfl).trans ?_
  refine (r_aloadn f250_49 rfl).trans ?_
  refine (r_dup f250_50 rfl).trans ?_
  refine (r_get (v := .int 0) f250_51 (gs_ne g72 (by decide)) rfl).trans ?_
  refine (r_iconst (v := 1) f250_54 rfl).trans ?_
  refine (r_iadd (v := 1) f250_55 (by decide)).trans ?_
  refine (r_put (h' := (((h.1.set 115 (.inl (3, 160, .inl (upd (fun _ => 0) (Int32.toNatClampNeg 0) (((x2 >>> (0 &&& 31))).toInt8.toInt32).toInt8.toInt32)))).set 72 (.inr (12, (zF72.set 54 (.int 1))))), h.2)) f250_56 (gs_ne g72 (by decide)) rfl rfl).trans ?_
  refine (r_iinc (v := 1) (L' := [some (.ref 72), some (.int x1), some (.int x2), some (.int 1)]) f250_59 rfl rfl rfl).trans ?_
  refine (r_goto f250_62).trans ?_
  refine (r_iloadn f250_28 rfl).trans ?_
  refine (r_iloadn f250_29 rfl).trans ?_
  refine (r_icmp_ge_f f250_30 ec4).trans ?_
  refine (r_aloadn f250_33 rfl).trans ?_
  refine (r_get (v := .ref 115) f250_34 (gs_eq (gs_ne g72 (by decide))) rfl).trans ?_
  refine (r_aloadn f250_37 rfl).trans ?_
  refine (r_get (v := .int 1) f250_38 (gs_eq (gs_ne g72 (by decide))) rfl).trans ?_
  refine (r_iloadn f250_41 rfl).trans ?_
  refine (r_bipush (v := 8) f250_42 rfl).trans ?_
  refine (r_iloadn f250_44 rfl).trans ?_
  refine (r_imul (v := 8) f250_45 (by decide)).trans ?_
  refine (r_ishr (v := (x2 >>> (8 &&& 31))) f250_46 rfl).trans ?_
  refine (r_i2b (v := ((x2 >>> (8 &&& 31))).toInt8.toInt32) f250_47 rfl).trans ?_
  refine (r_bast (h' := ((((h.1.set 115 (.inl (3, 160, .inl (upd (fun _ => 0) (Int32.toNatClampNeg 0) (((x2 >>> (0 &&& 31))).toInt8.toInt32).toInt8.toInt32)))).set 72 (.inr (12, (zF72.set 54 (.int 1))))).set 115 (.inl (3, 160, .inl (upd (upd (fun _ => 0) (Int32.toNatClampNeg 0) (((x2 >>> (0 &&& 31))).toInt8.toInt32).toInt8.toInt32) (Int32.toNatClampNeg 1) (((x2 >>> (8 &&& 31))).toInt8.toInt32).toInt8.toInt32)))), h.2)) f250_48 (gs_ne (gs_eq g115) (by decide)) (by decide) rfl).trans ?_
  refine (r_aloadn f250_49 rfl).trans ?_
  refine (r_dup f250_50 rfl).trans ?_
  refine (r_get (v := .int 1) f250_51 (gs_ne (gs_eq (gs_ne g72 (by decide))) (by decide)) rfl).trans ?_
  refine (r_iconst (v := 1) f250_54 rfl).trans ?_
  refine (r_iadd (v := 2) f250_55 (by decide)).trans ?_
  refine (r_put (h' := (((((h.1.set 115 (.inl (3, 160, .inl (upd (fun _ => 0) (Int32.toNatClampNeg 0) (((x2 >>> (0 &&& 31))).toInt8.toInt32).toInt8.toInt32)))).set 72 (.inr (12, (zF72.set 54 (.int 1))))).set 115 (.inl (3, 160, .inl (upd (upd (fun _ => 0) (Int32.toNatClampNeg 0) (((x2 >>> (0 &&& 31))).toInt8.toInt32).toInt8.toInt32) (Int32.toNatClampNeg 1) (((x2 >>> (8 &&& 31))).toInt8.toInt32).toInt8.toInt32)))).set 72 (.inr (12, ((zF72.set 54 (.int 1)).set 54 (.int 2))))), h.2)) f250_56 (gs_ne (gs_eq (gs_ne g72 (by decide))) (by decide)) rfl rfl).trans ?_
  refine (r_iinc (v := 2) (L' := [some (.ref 72), some (.int x1), some (.int x2), some (.int 2)]) f250_59 rfl rfl rfl).trans ?_
  refine (r_goto f250_62).trans ?_
  refine (r_iloadn f250_28 rfl).trans ?_
  refine (r_iloadn f250_29 rfl).trans ?_
  refine (r_icmp_ge_f f250_30 ec5).trans ?_
  refine (r_aloadn f250_33 rfl).trans ?_
  refine (r_get (v := .ref 115) f250_34 (gs_eq (gs_ne (gs_eq (gs_ne g72 (by decide))) (by decide))) rfl).trans ?_
  refine (r_aloadn f250_37 rfl).trans ?_
  refine (r_get (v := .int 2) f250_38 (gs_eq (gs_ne (gs_eq (gs_ne g72 (by decide))) (by decide))) rfl).trans ?_
  refine (r_iloadn f250_41 rfl).trans ?_
  refine (r_bipush (v := 8) f250_42 rfl).trans ?_
  refine (r_iloadn f250_44 rfl).trans ?_
  refine (r_imul (v := 16) f250_45 (by decide)).trans ?_
  refine (r_ishr (v := (x2 >>> (16 &&& 31))) f250_46 rfl).trans ?_
  refine (r_i2b (v := ((x2 >>> (16 &&& 31))).toInt8.toInt32) f250_47 rfl).trans ?_
  refine (r_bast (h' := ((((((h.1.set 115 (.inl (3, 160, .inl (upd (fun _ => 0) (Int32.toNatClampNeg 0) (((x2 >>> (0 &&& 31))).toInt8.toInt32).toInt8.toInt32)))).set 72 (.inr (12, (zF72.set 54 (.int 1))))).set 115 (.inl (3, 160, .inl (upd (upd (fun _ => 0) (Int32.toNatClampNeg 0) (((x2 >>> (0 &&& 31))).toInt8.toInt32).toInt8.toInt32) (Int32.toNatClampNeg 1) (((x2 >>> (8 &&& 31))).toInt8.toInt32).toInt8.toInt32)))).set 72 (.inr (12, ((zF72.set 54 (.int 1)).set 54 (.int 2))))).set 115 (.inl (3, 160, .inl (upd (upd (upd (fun _ => 0) (Int32.toNatClampNeg 0) (((x2 >>> (0 &&& 31))).toInt8.toInt32).toInt8.toInt32) (Int32.toNatClampNeg 1) (((x2 >>> (8 &&& 31))).toInt8.toInt32).toInt8.toInt32) (Int32.toNatClampNeg 2) (((x2 >>> (16 &&& 31))).toInt8.toInt32).toInt8.toInt32)))), h.2)) f250_48 (gs_ne (gs_eq (gs_ne (gs_eq g115) (by decide))) (by decide)) (by decide) rfl).trans ?_
  refine (r_aloadn f250_49 rfl).trans ?_
  refine (r_dup f250_50 rfl).trans ?_
  refine (r_get (v := .int 2) f250_51 (gs_ne (gs_eq (gs_ne (gs_eq (gs_ne g72 (by decide))) (by decide))) (by decide)) rfl).trans ?_
  refine (r_iconst (v := 1) f250_54 rfl).trans ?_
  refine (r_iadd (v := 3) f250_55 (by decide)).trans ?_
  refine (r_put (h' := (((((((h.1.set 115 (.inl (3, 160, .inl (upd (fun _ => 0) (Int32.toNatClampNeg 0) (((x2 >>> (0 &&& 31))).toInt8.toInt32).toInt8.toInt32)))).set 72 (.inr (12, (zF72.set 54 (.int 1))))).set 115 (.inl (3, 160, .inl (upd (upd (fun _ => 0) (Int32.toNatClampNeg 0) (((x2 >>> (0 &&& 31))).toInt8.toInt32).toInt8.toInt32) (Int32.toNatClampNeg 1) (((x2 >>> (8 &&& 31))).toInt8.toInt32).toInt8.toInt32)))).set 72 (.inr (12, ((zF72.set 54 (.int 1)).set 54 (.int 2))))).set 115 (.inl (3, 160, .inl (upd (upd (upd (fun _ => 0) (Int32.toNatClampNeg 0) (((x2 >>> (0 &&& 31))).toInt8.toInt32).toInt8.toInt32) (Int32.toNatClampNeg 1) (((x2 >>> (8 &&& 31))).toInt8.toInt32).toInt8.toInt32) (Int32.toNatClampNeg 2) (((x2 >>> (16 &&& 31))).toInt8.toInt32).toInt8.toInt32)))).set 72 (.inr (12, (((zF72.set 54 (.int 1)).set 54 (.int 2)).set 54 (.int 3))))), h.2)) f250_56 (gs_ne (gs_eq (gs_ne (gs_eq (gs_ne g72 (by decide))) (by decide))) (by decide)) rfl rfl).trans ?_
  refine (r_iinc (v := 3) (L' := [some (.ref 72), some (.int x1), some (.int x2), some (.int 3)]) f250_59 rfl rfl rfl).trans ?_
  refine (r_goto f250_62).trans ?_
  refine (r_iloadn f250_28 rfl).trans ?_
  refine (r_iloadn f250_29 rfl).trans ?_
  refine (r_icmp_ge_t f250_30 ec6).trans ?_
  refine (r_aloadn f250_65 rfl).trans ?_
  refine (r_get (v := .int 3) f250_66 (gs_eq (gs_ne (gs_eq (gs_ne (gs_eq (gs_ne g72 (by decide))) (by decide))) (by decide))) rfl).trans ?_
  exact r_ireturn f250_69 rfl
set_option maxHeartbeats 40000000 in
theorem qc23_5 {X : aX} {n d : Nat} {h : aH} {x1 : Int32} {x2 : Int32}  (g0 : h.1[0]? = some (.inr (11, zF0))) (g33 : h.1[33]? = some (.inr (10, zF33))) (g34 : h.1[34]? = some (.inl (3, 160, .inl (fun _ => 0)))) (ec0 : ¬ x1 < 1) (ec1 : ¬ 4 < x1) (ec2 : (0 + x1) ≤ 160) (ec3 : ¬ x1 ≤ 0) (ec4 : ¬ x1 ≤ 1) (ec5 : ¬ x1 ≤ 2) (ec6 : ¬ x1 ≤ 3) : arun X (n + 129) (d + 2) zM167 0 [some (.ref 0), some (.int x1), some (.int x2)] [] h = some (some (.int 4), (((((((((h.1.set 34 (.inl (3, 160, .inl (upd (fun _ => 0) (Int32.toNatClampNeg 0) (((x2 >>> (0 &&& 31))).toInt8.toInt32).toInt8.toInt32)))).set 33 (.inr (10, [.ref 34, .int 1, .ref 35, .ref 36, .ref 37, .ref 38, .ref 39, .int 0, .ref 40, .int 0, .int 0, .int 0, .int 0, .ref 40, .int 0]))).set 34 (.inl (3, 160, .inl (upd (upd (fun _ => 0) (Int32.toNatClampNeg 0) (((x2 >>> (0 &&& 31))).toInt8.toInt32).toInt8.toInt32) (Int32.toNatClampNeg 1) (((x2 >>> (8 &&& 31))).toInt8.toInt32).toInt8.toInt32)))).set 33 (.inr (10, [.ref 34, .int 2, .ref 35, .ref 36, .ref 37, .ref 38, .ref 39, .int 0, .ref 40, .int 0, .int 0, .int 0, .int 0, .ref 40, .int 0]))).set 34 (.inl (3, 160, .inl (upd (upd (upd (fun _ => 0) (Int32.toNatClampNeg 0) (((x2 >>> (0 &&& 31))).toInt8.toInt32).toInt8.toInt32) (Int32.toNatClampNeg 1) (((x2 >>> (8 &&& 31))).toInt8.toInt32).toInt8.toInt32) (Int32.toNatClampNeg 2) (((x2 >>> (16 &&& 31))).toInt8.toInt32).toInt8.toInt32)))).set 33 (.inr (10, [.ref 34, .int 3, .ref 35, .ref 36, .ref 37, .ref 38, .ref 39, .int 0, .ref 40, .int 0, .int 0, .int 0, .int 0, .ref 40, .int 0]))).set 34 (.inl (3, 160, .inl (upd (upd (upd (upd (fun _ => 0) (Int32.toNatClampNeg 0) (((x2 >>> (0 &&& 31))).toInt8.toInt32).toInt8.toInt32) (Int32.toNatClampNeg 1) (((x2 >>> (8 &&& 31))).toInt8.toInt32).toInt8.toInt32) (Int32.toNatClampNeg 2) (((x2 >>> (16 &&& 31))).toInt8.toInt32).toInt8.toInt32) (Int32.toNatClampNeg 3) (((x2 >>> (24 &&& 31))).toInt8.toInt32).toInt8.toInt32)))).set 33 (.inr (10, [.ref 34, .int 4, .ref 35, .ref 36, .ref 37, .ref 38, .ref 39, .int 0, .ref 40, .int 0, .int 0, .int 0, .int 0, .ref 40, .int 0]))), h.2)) := by
  refine (r_iloadn f167_0 rfl).trans ?_
  refine (r_iconst (v := 1) f167_1 rfl).trans ?_
  refine (r_iconst (v := 4) f167_2 rfl).trans ?_
  have hc1 : arun X (n + 125) (d + 1) zM137 0 [some (.int x1), some (.int 1), some (.int 4)] [] h = some ((some (.int 1)), h) := by
    refine (r_iloadn f137_0 rfl).trans ?_
    refine (r_iloadn f137_1 rfl).trans ?_
    refine (r_icmp_gt_f f137_2 ec0).trans ?_
    refine (r_iloadn f137_5 rfl).trans ?_
    refine (r_iloadn f137_6 rfl).trans ?_
    refine (r_icmp_gt_f f137_7 ec1).trans ?_
    refine (r_iconst (v := 1) f137_10 rfl).trans ?_
    refine (r_goto f137_11).trans ?_
    exact r_zreturn f137_15 rfl (by decide)
  refine (r_stat (as := [.int x1, .int 1, .int 4]) (v := (some (.int 1))) (h1 := h) f167_3 rfl zg137 rfl rfl rfl rfl rfl rfl hc1).trans ?_
  refine (r_if_ne_t f167_6 (by decide)).trans ?_
  refine (r_aloadn f167_11 rfl).trans ?_
  refine (r_get (v := .ref 33) f167_12 g0 rfl).trans ?_
  refine (r_get (v := .int 0) f167_15 g33 rfl).trans ?_
  refine (r_iloadn f167_18 rfl).trans ?_
  refine (r_iadd (v := (0 + x1)) f167_19 rfl).trans ?_
  refine (r_sipush (v := 160) f167_20 rfl).trans ?_
  refine (r_icmp_le_t f167_23 ec2).trans ?_
  refine (r_aloadn f167_31 rfl).trans ?_
  refine (r_get (v := .ref 33) f167_32 g0 rfl).trans ?_
  refine (r_iloadn f167_35 rfl).trans ?_
  refine (r_iloadn f167_36 rfl).trans ?_
  have hc2 : arun X (n + 112) (d + 1) zM117 0 [some (.ref 33), some (.int x1), some (.int x2), none] [] h = some ((some (.int 4)), (((((((((h.1.set 34 (.inl (3, 160, .inl (upd (fun _ => 0) (Int32.toNatClampNeg 0) (((x2 >>> (0 &&& 31))).toInt8.toInt32).toInt8.toInt32)))).set 33 (.inr (10, [.ref 34, .int 1, .ref 35, .ref 36, .ref 37, .ref 38, .ref 39, .int 0, .ref 40, .int 0, .int 0, .int 0, .int 0, .ref 40, .int 0]))).set 34 (.inl (3, 160, .inl (upd (upd (fun _ => 0) (Int32.toNatClampNeg 0) (((x2 >>> (0 &&& 31))).toInt8.toInt32).toInt8.toInt32) (Int32.toNatClampNeg 1) (((x2 >>> (8 &&& 31))).toInt8.toInt32).toInt8.toInt32)))).set 33 (.inr (10, [.ref 34, .int 2, .ref 35, .ref 36, .ref 37, .ref 38, .ref 39, .int 0, .ref 40, .int 0, .int 0, .int 0, .int 0, .ref 40, .int 0]))).set 34 (.inl (3, 160, .inl (upd (upd (upd (fun _ => 0) (Int32.toNatClampNeg 0) (((x2 >>> (0 &&& 31))).toInt8.toInt32).toInt8.toInt32) (Int32.toNatClampNeg 1) (((x2 >>> (8 &&& 31))).toInt8.toInt32).toInt8.toInt32) (Int32.toNatClampNeg 2) (((x2 >>> (16 &&& 31))).toInt8.toInt32).toInt8.toInt32)))).set 33 (.inr (10, [.ref 34, .int 3, .ref 35, .ref 36, .ref 37, .ref 38, .ref 39, .int 0, .ref 40, .int 0, .int 0, .int 0, .int 0, .ref 40, .int 0]))).set 34 (.inl (3, 160, .inl (upd (upd (upd (upd (fun _ => 0) (Int32.toNatClampNeg 0) (((x2 >>> (0 &&& 31))).toInt8.toInt32).toInt8.toInt32) (Int32.toNatClampNeg 1) (((x2 >>> (8 &&& 31))).toInt8.toInt32).toInt8.toInt32) (Int32.toNatClampNeg 2) (((x2 >>> (16 &&& 31))).toInt8.toInt32).toInt8.toInt32) (Int32.toNatClampNeg 3) (((x2 >>> (24 &&& 31))).toInt8.toInt32).toInt8.toInt32)))).set 33 (.inr (10, [.ref 34, .int 4, .ref 35, .ref 36, .ref 37, .ref 38, .ref 39, .int 0, .ref 40, .int 0, .int 0, .int 0, .int 0, .ref 40, .int 0]))), h.2)) := by
    refine (r_iconst (v := 0) f117_0 rfl).trans ?_
    refine (r_istoren (L' := [some (.ref 33), some (.int x1), some (.int x2), some (.int 0)]) f117_1 rfl rfl).trans ?_
    refine (r_iloadn f117_2 rfl).trans ?_
    refine (r_iloadn f117_3 rfl).trans ?_
    refine (r_icmp_ge_f f117_4 ec3).trans ?_
    refine (r_aloadn f117_7 rfl).trans ?_
    refine (r_get (v := .int 0) f117_8 g33 rfl).trans ?_
    refine (r_sipush (v := 160) f117_11 rfl).trans ?_
    refine (r_icmp_ge_f f117_14 (by decide)).trans ?_
    refine (r_aloadn f117_17 rfl).trans ?_
    refine (r_get (v := .ref 34) f117_18 g33 rfl).trans ?_
    refine (r_aloadn f117_21 rfl).trans ?_
    refine (r_get (v := .int 0) f117_22 g33 rfl).trans ?_
    refine (r_iloadn f117_25 rfl).trans ?_
    refine (r_bipush (v := 8) f117_26 rfl).trans ?_
    refine (r_iloadn f117_28 rfl).trans ?_
    refine (r_imul (v := 0) f117_29 (by decide)).trans ?_
    refine (r_ishr (v := (x2 >>> (0 &&& 31))) f117_30 rfl).trans ?_
    refine (r_i2b (v := ((x2 >>> (0 &&& 31))).toInt8.toInt32) f117_31 rfl).trans ?_
    refine (r_bast (h' := ((h.1.set 34 (.inl (3, 160, .inl (upd (fun _ => 0) (Int32.toNatClampNeg 0) (((x2 >>> (0 &&& 31))).toInt8.toInt32).toInt8.toInt32)))), h.2)) f117_32 g34 (by decide) rfl).trans ?_
    refine (r_aloadn f117_33 rfl).trans ?_
    refine (r_dup f117_34 rfl).trans ?_
    refine (r_get (v := .int 0) f117_35 (gs_ne g33 (by decide)) rfl).trans ?_
    refine (r_iconst (v := 1) f117_38 rfl).trans ?_
    refine (r_iadd (v := 1) f117_39 (by decide)).trans ?_
    refine (r_put (h' := (((h.1.set 34 (.inl (3, 160, .inl (upd (fun _ => 0) (Int32.toNatClampNeg 0) (((x2 >>> (0 &&& 31))).toInt8.toInt32).toInt8.toInt32)))).set 33 (.inr (10, [.ref 34, .int 1, .ref 35, .ref 36, .ref 37, .ref 38, .ref 39, .int 0, .ref 40, .int 0, .int 0, .int 0, .int 0, .ref 40, .int 0]))), h.2)) f117_40 (gs_ne g33 (by decide)) rfl rfl).trans ?_
    refine (r_iinc (v := 1) (L' := [some (.ref 33), some (.int x1), some (.int x2), some (.int 1)]) f117_43 rfl rfl rfl).trans ?_
    refine (r_goto f117_46).trans ?_
    refine (r_iloadn f117_2 rfl).trans ?_
    refine (r_iloadn f117_3 rfl).trans ?_
    refine (r_icmp_ge_f f117_4 ec4).trans ?_
    refine (r_aloadn f117_7 rfl).trans ?_
    refine (r_get (v := .int 1) f117_8 (gs_eq (gs_ne g33 (by decide))) rfl).trans ?_
    refine (r_sipush (v := 160) f117_11 rfl).trans ?_
    refine (r_icmp_ge_f f117_14 (by decide)).trans ?_
    refine (r_aloadn f117_17 rfl).trans ?_
    refine (r_get (v := .ref 34) f117_18 (gs_eq (gs_ne g33 (by decide))) rfl).trans ?_
    refine (r_aloadn f117_21 rfl).trans ?_
    refine (r_get (v := .int 1) f117_22 (gs_eq (gs_ne g33 (by decide))) rfl).trans ?_
    refine (r_iloadn f117_25 rfl).trans ?_
    refine (r_bipush (v := 8) f117_26 rfl).trans ?_
    refine (r_iloadn f117_28 rfl).trans ?_
    refine (r_imul (v := 8) f117_29 (by decide)).trans ?_
    refine (r_ishr (v := (x2 >>> (8 &&& 31))) f117_30 rfl).trans ?_
    refine (r_i2b (v := ((x2 >>> (8 &&& 31))).toInt8.toInt32) f117_31 rfl).trans ?_
    refine (r_bast (h' := ((((h.1.set 34 (.inl (3, 160, .inl (upd (fun _ => 0) (Int32.toNatClampNeg 0) (((x2 >>> (0 &&& 31))).toInt8.toInt32).toInt8.toInt32)))).set 33 (.inr (10, [.ref 34, .int 1, .ref 35, .ref 36, .ref 37, .ref 38, .ref 39, .int 0, .ref 40, .int 0, .int 0, .int 0, .int 0, .ref 40, .int 0]))).set 34 (.inl (3, 160, .inl (upd (upd (fun _ => 0) (Int32.toNatClampNeg 0) (((x2 >>> (0 &&& 31))).toInt8.toInt32).toInt8.toInt32) (Int32.toNatClampNeg 1) (((x2 >>> (8 &&& 31))).toInt8.toInt32).toInt8.toInt32)))), h.2)) f117_32 (gs_ne (gs_eq g34) (by decide)) (by decide) rfl).trans ?_
    refine (r_aloadn f117_33 rfl).trans ?_
    refine (r_dup f117_34 rfl).trans ?_
    refine (r_get (v := .int 1) f117_35 (gs_ne (gs_eq (gs_ne g33 (by decide))) (by decide)) rfl).trans ?_
    refine (r_iconst (v := 1) f117_38 rfl).trans ?_
    refine (r_iadd (v := 2) f117_39 (by decide)).trans ?_
    refine (r_put (h' := (((((h.1.set 34 (.inl (3, 160, .inl (upd (fun _ => 0) (Int32.toNatClampNeg 0) (((x2 >>> (0 &&& 31))).toInt8.toInt32).toInt8.toInt32)))).set 33 (.inr (10, [.ref 34, .int 1, .ref 35, .ref 36, .ref 37, .ref 38, .ref 39, .int 0, .ref 40, .int 0, .int 0, .int 0, .int 0, .ref 40, .int 0]))).set 34 (.inl (3, 160, .inl (upd (upd (fun _ => 0) (Int32.toNatClampNeg 0) (((x2 >>> (0 &&& 31))).toInt8.toInt32).toInt8.toInt32) (Int32.toNatClampNeg 1) (((x2 >>> (8 &&& 31))).toInt8.toInt32).toInt8.toInt32)))).set 33 (.inr (10, [.ref 34, .int 2, .ref 35, .ref 36, .ref 37, .ref 38, .ref 39, .int 0, .ref 40, .int 0, .int 0, .int 0, .int 0, .ref 40, .int 0]))), h.2)) f117_40 (gs_ne (gs_eq (gs_ne g33 (by decide))) (by decide)) rfl rfl).trans ?_
    refine (r_iinc (v := 2) (L' := [some (.ref 33), some (.int x1), some (.int x2), some (.int 2)]) f117_43 rfl rfl rfl).trans ?_
    refine (r_goto f117_46).trans ?_
    refine (r_iloadn f117_2 rfl).trans ?_
    refine (r_iloadn f117_3 rfl).trans ?_
    refine (r_icmp_ge_f f117_4 ec5).trans ?_
    refine (r_aloadn f117_7 rfl).trans ?_
    refine (r_get (v := .int 2) f117_8 (gs_eq (gs_ne (gs_eq (gs_ne g33 (by decide))) (by decide))) rfl).trans ?_
    refine (r_sipush (v := 160) f117_11 rfl).trans ?_
    refine (r_icmp_ge_f f117_14 (by decide)).trans ?_
    refine (r_aloadn f117_17 rfl).trans ?_
    refine (r_get (v := .ref 34) f117_18 (gs_eq (gs_ne (gs_eq (gs_ne g33 (by decide))) (by decide))) rfl).trans ?_
    refine (r_aloadn f117_21 rfl).trans ?_
    refine (r_get (v := .int 2) f117_22 (gs_eq (gs_ne (gs_eq (gs_ne g33 (by decide))) (by decide))) rfl).trans ?_
    refine (r_iloadn f117_25 rfl).trans ?_
    refine (r_bipush (v := 8) f117_26 rfl).trans ?_
    refine (r_iloadn f117_28 rfl).trans ?_
    refine (r_imul (v := 16) f117_29 (by decide)).trans ?_
    refine (r_ishr (v := (x2 >>> (16 &&& 31))) f117_30 rfl).trans ?_
    refine (r_i2b (v := ((x2 >>> (16 &&& 31))).toInt8.toInt32) f117_31 rfl).trans ?_
    refine (r_bast (h' := ((((((h.1.set 34 (.inl (3, 160, .inl (upd (fun _ => 0) (Int32.toNatClampNeg 0) (((x2 >>> (0 &&& 31))).toInt8.toInt32).toInt8.toInt32)))).set 33 (.inr (10, [.ref 34, .int 1, .ref 35, .ref 36, .ref 37, .ref 38, .ref 39, .int 0, .ref 40, .int 0, .int 0, .int 0, .int 0, .ref 40, .int 0]))).set 34 (.inl (3, 160, .inl (upd (upd (fun _ => 0) (Int32.toNatClampNeg 0) (((x2 >>> (0 &&& 31))).toInt8.toInt32).toInt8.toInt32) (Int32.toNatClampNeg 1) (((x2 >>> (8 &&& 31))).toInt8.toInt32).toInt8.toInt32)))).set 33 (.inr (10, [.ref 34, .int 2, .ref 35, .ref 36, .ref 37, .ref 38, .ref 39, .int 0, .ref 40, .int 0, .int 0, .int 0, .int 0, .ref 40, .int 0]))).set 34 (.inl (3, 160, .inl (upd (upd (upd (fun _ => 0) (Int32.toNatClampNeg 0) (((x2 >>> (0 &&& 31))).toInt8.toInt32).toInt8.toInt32) (Int32.toNatClampNeg 1) (((x2 >>> (8 &&& 31))).toInt8.toInt32).toInt8.toInt32) (Int32.toNatClampNeg 2) (((x2 >>> (16 &&& 31))).toInt8.toInt32).toInt8.toInt32)))), h.2)) f117_32 (gs_ne (gs_eq (gs_ne (gs_eq g34) (by decide))) (by decide)) (by decide) rfl).trans ?_
    refine (r_aloadn f117_33 rfl).trans ?_
    refine (r_dup f117_34 rfl).trans ?_
    refine (r_get (v := .int 2) f117_35 (gs_ne (gs_eq (gs_ne (gs_eq (gs_ne g33 (by decide))) (by decide))) (by decide)) rfl).trans ?_
    refine (r_iconst (v := 1) f117_38 rfl).trans ?_
    refine (r_iadd (v := 3) f117_39 (by decide)).trans ?_
    refine (r_put (h' := (((((((h.1.set 34 (.inl (3, 160, .inl (upd (fun _ => 0) (Int32.toNatClampNeg 0) (((x2 >>> (0 &&& 31))).toInt8.toInt32).toInt8.toInt32)))).set 33 (.inr (10, [.ref 34, .int 1, .ref 35, .ref 36, .ref 37, .ref 38, .ref 39, .int 0, .ref 40, .int 0, .int 0, .int 0, .int 0, .ref 40, .int 0]))).set 34 (.inl (3, 160, .inl (upd (upd (fun _ => 0) (Int32.toNatClampNeg 0) (((x2 >>> (0 &&& 31))).toInt8.toInt32).toInt8.toInt32) (Int32.toNatClampNeg 1) (((x2 >>> (8 &&& 31))).toInt8.toInt32).toInt8.toInt32)))).set 33 (.inr (10, [.ref 34, .int 2, .ref 35, .ref 36, .ref 37, .ref 38, .ref 39, .int 0, .ref 40, .int 0, .int 0, .int 0, .int 0, .ref 40, .int 0]))).set 34 (.inl (3, 160, .inl (upd (upd (upd (fun _ => 0) (Int32.toNatClampNeg 0) (((x2 >>> (0 &&& 31))).toInt8.toInt32).toInt8.toInt32) (Int32.toNatClampNeg 1) (((x2 >>> (8 &&& 31))).toInt8.toInt32).toInt8.toInt32) (Int32.toNatClampNeg 2) (((x2 >>> (16 &&& 31))).toInt8.toInt32).toInt8.toInt32)))).set 33 (.inr (10, [.ref 34, .int 3, .ref 35, .ref 36, .ref 37, .ref 38, .ref 39, .int 0, .ref 40, .int 0, .int 0, .int 0, .int 0, .ref 40, .int 0]))), h.2)) f117_40 (gs_ne (gs_eq (gs_ne (gs_eq (gs_ne g33 (by decide))) (by decide))) (by decide)) rfl rfl).trans ?_
    refine (r_iinc (v := 3) (L' := [some (.ref 33), some (.int x1), some (.int x2), some (.int 3)]) f117_43 rfl rfl rfl).trans ?_
    refine (r_goto f117_46).trans ?_
    refine (r_iloadn f117_2 rfl).trans ?_
    refine (r_iloadn f117_3 rfl).trans ?_
    refine (r_icmp_ge_f f117_4 ec6).trans ?_
    refine (r_aloadn f117_7 rfl).trans ?_
    refine (r_get (v := .int 3) f117_8 (gs_eq (gs_ne (gs_eq (gs_ne (gs_eq (gs_ne g33 (by decide))) (by decide))) (by decide))) rfl).trans ?_
    refine (r_sipush (v := 160) f117_11 rfl).trans ?_
    refine (r_icmp_ge_f f117_14 (by decide)).trans ?_
    refine (r_aloadn f117_17 rfl).trans ?_
    refine (r_get (v := .ref 34) f117_18 (gs_eq (gs_ne (gs_eq (gs_ne (gs_eq (gs_ne g33 (by decide))) (by decide))) (by decide))) rfl).trans ?_
    refine (r_aloadn f117_21 rfl).trans ?_
    refine (r_get (v := .int 3) f117_22 (gs_eq (gs_ne (gs_eq (gs_ne (gs_eq (gs_ne g33 (by decide))) (by decide))) (by decide))) rfl).trans ?_
    refine (r_iloadn f117_25 rfl).trans ?_
    refine (r_bipush (v := 8) f117_26 rfl).trans ?_
    refine (r_iloadn f117_28 rfl).trans ?_
    refine (r_imul (v := 24) f117_29 (by decide)).trans ?_
    refine (r_ishr (v := (x2 >>> (24 &&& 31))) f117_30 rfl).trans ?_
    refine (r_i2b (v := ((x2 >>> (24 &&& 31))).toInt8.toInt32) f117_31 rfl).trans ?_
    refine (r_bast (h' := ((((((((h.1.set 34 (.inl (3, 160, .inl (upd (fun _ => 0) (Int32.toNatClampNeg 0) (((x2 >>> (0 &&& 31))).toInt8.toInt32).toInt8.toInt32)))).set 33 (.inr (10, [.ref 34, .int 1, .ref 35, .ref 36, .ref 37, .ref 38, .ref 39, .int 0, .ref 40, .int 0, .int 0, .int 0, .int 0, .ref 40, .int 0]))).set 34 (.inl (3, 160, .inl (upd (upd (fun _ => 0) (Int32.toNatClampNeg 0) (((x2 >>> (0 &&& 31))).toInt8.toInt32).toInt8.toInt32) (Int32.toNatClampNeg 1) (((x2 >>> (8 &&& 31))).toInt8.toInt32).toInt8.toInt32)))).set 33 (.inr (10, [.ref 34, .int 2, .ref 35, .ref 36, .ref 37, .ref 38, .ref 39, .int 0, .ref 40, .int 0, .int 0, .int 0, .int 0, .ref 40, .int 0]))).set 34 (.inl (3, 160, .inl (upd (upd (upd (fun _ => 0) (Int32.toNatClampNeg 0) (((x2 >>> (0 &&& 31))).toInt8.toInt32).toInt8.toInt32) (Int32.toNatClampNeg 1) (((x2 >>> (8 &&& 31))).toInt8.toInt32).toInt8.toInt32) (Int32.toNatClampNeg 2) (((x2 >>> (16 &&& 31))).toInt8.toInt32).toInt8.toInt32)))).set 33 (.inr (10, [.ref 34, .int 3, .ref 35, .ref 36, .ref 37, .ref 38, .ref 39, .int 0, .ref 40, .int 0, .int 0, .int 0, .int 0, .ref 40, .int 0]))).set 34 (.inl (3, 160, .inl (upd (upd (upd (upd (fun _ => 0) (Int32.toNatClampNeg 0) (((x2 >>> (0 &&& 31))).toInt8.toInt32).toInt8.toInt32) (Int32.toNatClampNeg 1) (((x2 >>> (8 &&& 31))).toInt8.toInt32).toInt8.toInt32) (Int32.toNatClampNeg 2) (((x2 >>> (16 &&& 31))).toInt8.toInt32).toInt8.toInt32) (Int32.toNatClampNeg 3) (((x2 >>> (24 &&& 31))).toInt8.toInt32).toInt8.toInt32)))), h.2)) f117_32 (gs_ne (gs_eq (gs_ne (gs_eq (gs_ne (gs_eq g34) (by decide))) (by decide))) (by decide)) (by decide) rfl).trans ?_
    refine (r_aloadn f117_33 rfl).trans ?_
    refine (r_dup f117_34 rfl).trans ?_
    refine (r_get (v := .int 3) f117_35 (gs_ne (gs_eq (gs_ne (gs_eq (gs_ne (gs_eq (gs_ne g33 (by decide))) (by decide))) (by decide))) (by decide)) rfl).trans ?_
    refine (r_iconst (v := 1) f117_38 rfl).trans ?_
    refine (r_iadd (v := 4) f117_39 (by decide)).trans ?_
    refine (r_put (h' := (((((((((h.1.set 34 (.inl (3, 160, .inl (upd (fun _ => 0) (Int32.toNatClampNeg 0) (((x2 >>> (0 &&& 31))).toInt8.toInt32).toInt8.toInt32)))).set 33 (.inr (10, [.ref 34, .int 1, .ref 35, .ref 36, .ref 37, .ref 38, .ref 39, .int 0, .ref 40, .int 0, .int 0, .int 0, .int 0, .ref 40, .int 0]))).set 34 (.inl (3, 160, .inl (upd (upd (fun _ => 0) (Int32.toNatClampNeg 0) (((x2 >>> (0 &&& 31))).toInt8.toInt32).toInt8.toInt32) (Int32.toNatClampNeg 1) (((x2 >>> (8 &&& 31))).toInt8.toInt32).toInt8.toInt32)))).set 33 (.inr (10, [.ref 34, .int 2, .ref 35, .ref 36, .ref 37, .ref 38, .ref 39, .int 0, .ref 40, .int 0, .int 0, .int 0, .int 0, .ref 40, .int 0]))).set 34 (.inl (3, 160, .inl (upd (upd (upd (fun _ => 0) (Int32.toNatClampNeg 0) (((x2 >>> (0 &&& 31))).toInt8.toInt32).toInt8.toInt32) (Int32.toNatClampNeg 1) (((x2 >>> (8 &&& 31))).toInt8.toInt32).toInt8.toInt32) (Int32.toNatClampNeg 2) (((x2 >>> (16 &&& 31))).toInt8.toInt32).toInt8.toInt32)))).set 33 (.inr (10, [.ref 34, .int 3, .ref 35, .ref 36, .ref 37, .ref 38, .ref 39, .int 0, .ref 40, .int 0, .int 0, .int 0, .int 0, .ref 40, .int 0]))).set 34 (.inl (3, 160, .inl (upd (upd (upd (upd (fun _ => 0) (Int32.toNatClampNeg 0) (((x2 >>> (0 &&& 31))).toInt8.toInt32).toInt8.toInt32) (Int32.toNatClampNeg 1) (((x2 >>> (8 &&& 31))).toInt8.toInt32).toInt8.toInt32) (Int32.toNatClampNeg 2) (((x2 >>> (16 &&& 31))).toInt8.toInt32).toInt8.toInt32) (Int32.toNatClampNeg 3) (((x2 >>> (24 &&& 31))).toInt8.toInt32).toInt8.toInt32)))).set 33 (.inr (10, [.ref 34, .int 4, .ref 35, .ref 36, .ref 37, .ref 38, .ref 39, .int 0, .ref 40, .int 0, .int 0, .int 0, .int 0, .ref 40, .int 0]))), h.2)) f117_40 (gs_ne (gs_eq (gs_ne (gs_eq (gs_ne (gs_eq (gs_ne g33 (by decide))) (by decide))) (by decide))) (by decide)) rfl rfl).trans ?_
    refine (r_iinc (v := 4) (L' := [some (.ref 33), some (.int x1), some (.int x2), some (.int 4)]) f117_43 rfl rfl rfl).trans ?_
    refine (r_goto f117_46).trans ?_
    refine (r_iloadn f117_2 rfl).trans ?_
    refine (r_iloadn f117_3 rfl).trans ?_
    refine (r_icmp_ge_t f117_4 (Int32.not_lt.mp ec1)).trans ?_
    refine (r_aloadn f117_49 rfl).trans ?_
    refine (r_get (v := .int 4) f117_50 (gs_eq (gs_ne (gs_eq (gs_ne (gs_eq (gs_ne (gs_eq (gs_ne g33 (by decide))) (by decide))) (by decide))) (by decide))) rfl).trans ?_
    exact r_ireturn f117_53 rfl
  refine (r_virt (as := [.int x1, .int x2]) (v := (some (.int 4))) (h1 := (((((((((h.1.set 34 (.inl (3, 160, .inl (upd (fun _ => 0) (Int32.toNatClampNeg 0) (((x2 >>> (0 &&& 31))).toInt8.toInt32).toInt8.toInt32)))).set 33 (.inr (10, [.ref 34, .int 1, .ref 35, .ref 36, .ref 37, .ref 38, .ref 39, .int 0, .ref 40, .int 0, .int 0, .int 0, .int 0, .ref 40, .int 0]))).set 34 (.inl (3, 160, .inl (upd (upd (fun _ => 0) (Int32.toNatClampNeg 0) (((x2 >>> (0 &&& 31))).toInt8.toInt32).toInt8.toInt32) (Int32.toNatClampNeg 1) (((x2 >>> (8 &&& 31))).toInt8.toInt32).toInt8.toInt32)))).set 33 (.inr (10, [.ref 34, .int 2, .ref 35, .ref 36, .ref 37, .ref 38, .ref 39, .int 0, .ref 40, .int 0, .int 0, .int 0, .int 0, .ref 40, .int 0]))).set 34 (.inl (3, 160, .inl (upd (upd (upd (fun _ => 0) (Int32.toNatClampNeg 0) (((x2 >>> (0 &&& 31))).toInt8.toInt32).toInt8.toInt32) (Int32.toNatClampNeg 1) (((x2 >>> (8 &&& 31))).toInt8.toInt32).toInt8.toInt32) (Int32.toNatClampNeg 2) (((x2 >>> (16 &&& 31))).toInt8.toInt32).toInt8.toInt32)))).set 33 (.inr (10, [.ref 34, .int 3, .ref 35, .ref 36, .ref 37, .ref 38, .ref 39, .int 0, .ref 40, .int 0, .int 0, .int 0, .int 0, .ref 40, .int 0]))).set 34 (.inl (3, 160, .inl (upd (upd (upd (upd (fun _ => 0) (Int32.toNatClampNeg 0) (((x2 >>> (0 &&& 31))).toInt8.toInt32).toInt8.toInt32) (Int32.toNatClampNeg 1) (((x2 >>> (8 &&& 31))).toInt8.toInt32).toInt8.toInt32) (Int32.toNatClampNeg 2) (((x2 >>> (16 &&& 31))).toInt8.toInt32).toInt8.toInt32) (Int32.toNatClampNeg 3) (((x2 >>> (24 &&& 31))).toInt8.toInt32).toInt8.toInt32)))).set 33 (.inr (10, [.ref 34, .int 4, .ref 35, .ref 36, .ref 37, .ref 38, .ref 39, .int 0, .ref 40, .int 0, .int 0, .int 0, .int 0, .ref 40, .int 0]))), h.2)) f167_37 g33 zg117 rfl rfl rfl rfl rfl rfl hc2).trans ?_
  exact r_ireturn f167_40 rfl
set_option maxHeartbeats 40000000 in
theorem qm23_5_0 {X : aX} {n d : Nat} {h : aH} {x1 : Int32} {x2 : Int32}  (g72 : h.1[72]? = some (.inr (12, zF72))) (g115 : h.1[115]? = some (.inl (3, 160, .inl (fun _ => 0)))) (ec0 : ¬ x1 < 1) (ec1 : ¬ 4 < x1) (ec2 : (0 + x1) ≤ 160) (ec3 : ¬ x1 ≤ 0) (ec4 : ¬ x1 ≤ 1) (ec5 : ¬ x1 ≤ 2) (ec6 : ¬ x1 ≤ 3) : arun X (n + 107) (d + 2) zM250 0 [some (.ref 72), some (.int x1), some (.int x2), none] [] h = some (some (.int 4), (((((((((h.1.set 115 (.inl (3, 160, .inl (upd (fun _ => 0) (Int32.toNatClampNeg 0) (((x2 >>> (0 &&& 31))).toInt8.toInt32).toInt8.toInt32)))).set 72 (.inr (12, (zF72.set 54 (.int 1))))).set 115 (.inl (3, 160, .inl (upd (upd (fun _ => 0) (Int32.toNatClampNeg 0) (((x2 >>> (0 &&& 31))).toInt8.toInt32).toInt8.toInt32) (Int32.toNatClampNeg 1) (((x2 >>> (8 &&& 31))).toInt8.toInt32).toInt8.toInt32)))).set 72 (.inr (12, ((zF72.set 54 (.int 1)).set 54 (.int 2))))).set 115 (.inl (3, 160, .inl (upd (upd (upd (fun _ => 0) (Int32.toNatClampNeg 0) (((x2 >>> (0 &&& 31))).toInt8.toInt32).toInt8.toInt32) (Int32.toNatClampNeg 1) (((x2 >>> (8 &&& 31))).toInt8.toInt32).toInt8.toInt32) (Int32.toNatClampNeg 2) (((x2 >>> (16 &&& 31))).toInt8.toInt32).toInt8.toInt32)))).set 72 (.inr (12, (((zF72.set 54 (.int 1)).set 54 (.int 2)).set 54 (.int 3))))).set 115 (.inl (3, 160, .inl (upd (upd (upd (upd (fun _ => 0) (Int32.toNatClampNeg 0) (((x2 >>> (0 &&& 31))).toInt8.toInt32).toInt8.toInt32) (Int32.toNatClampNeg 1) (((x2 >>> (8 &&& 31))).toInt8.toInt32).toInt8.toInt32) (Int32.toNatClampNeg 2) (((x2 >>> (16 &&& 31))).toInt8.toInt32).toInt8.toInt32) (Int32.toNatClampNeg 3) (((x2 >>> (24 &&& 31))).toInt8.toInt32).toInt8.toInt32)))).set 72 (.inr (12, ((((zF72.set 54 (.int 1)).set 54 (.int 2)).set 54 (.int 3)).set 54 (.int 4))))), h.2)) := by
  refine (r_iloadn f250_0 rfl).trans ?_
  refine (r_iconst (v := 1) f250_1 rfl).trans ?_
  refine (r_iconst (v := 4) f250_2 rfl).trans ?_
  have hc1 : arun X (n + 103) (d + 1) zM196 0 [some (.int x1), some (.int 1), some (.int 4)] [] h = some ((some (.int 1)), h) := by
    refine (r_iloadn f196_0 rfl).trans ?_
    refine (r_iloadn f196_1 rfl).trans ?_
    refine (r_icmp_lt_f f196_2 ec0).trans ?_
    refine (r_iloadn f196_5 rfl).trans ?_
    refine (r_iloadn f196_6 rfl).trans ?_
    refine (r_icmp_gt_f f196_7 ec1).trans ?_
    refine (r_iconst (v := 1) f196_10 rfl).trans ?_
    refine (r_goto f196_11).trans ?_
    exact r_zreturn f196_15 rfl (by decide)
  refine (r_stat (as := [.int x1, .int 1, .int 4]) (v := (some (.int 1))) (h1 := h) f250_3 rfl zg196 rfl rfl rfl rfl rfl rfl hc1).trans ?_
  refine (r_if_ne_t f250_6 (by decide)).trans ?_
  refine (r_aloadn f250_11 rfl).trans ?_
  refine (r_get (v := .int 0) f250_12 g72 rfl).trans ?_
  refine (r_iloadn f250_15 rfl).trans ?_
  refine (r_iadd (v := (0 + x1)) f250_16 rfl).trans ?_
  refine (r_sipush (v := 160) f250_17 rfl).trans ?_
  refine (r_icmp_le_t f250_20 ec2).trans ?_
  refine (r_iconst (v := 0) f250_26 rfl).trans ?_
  refine (r_istoren (L' := [some (.ref 72), some (.int x1), some (.int x2), some (.int 0)]) f250_27 rfl rfl).trans ?_
  refine (r_iloadn f250_28 rfl).trans ?_
  refine (r_iloadn f250_29 rfl).trans ?_
  refine (r_icmp_ge_f f250_30 ec3).trans ?_
  refine (r_aloadn f250_33 rfl).trans ?_
  refine (r_get (v := .ref 115) f250_34 g72 rfl).trans ?_
  refine (r_aloadn f250_37 rfl).trans ?_
  refine (r_get (v := .int 0) f250_38 g72 rfl).trans ?_
  refine (r_iloadn f250_41 rfl).trans ?_
  refine (r_bipush (v := 8) f250_42 rfl).trans ?_
  refine (r_iloadn f250_44 rfl).trans ?_
  refine (r_imul (v := 0) f250_45 (by decide)).trans ?_
  refine (r_ishr (v := (x2 >>> (0 &&& 31))) f250_46 rfl).trans ?_
  refine (r_i2b (v := ((x2 >>> (0 &&& 31))).toInt8.toInt32) f250_47 rfl).trans ?_
  refine (r_bast (h' := ((h.1.set 115 (.inl (3, 160, .inl (upd (fun _ => 0) (Int32.toNatClampNeg 0) (((x2 >>> (0 &&& 31))).toInt8.toInt32).toInt8.toInt32)))), h.2)) f250_48 g115 (by decide) rfl).trans ?_
  refine (r_aloadn f250_49 rfl).trans ?_
  refine (r_dup f250_50 rfl).trans ?_
  refine (r_get (v := .int 0) f250_51 (gs_ne g72 (by decide)) rfl).trans ?_
  refine (r_iconst (v := 1) f250_54 rfl).trans ?_
  refine (r_iadd (v := 1) f250_55 (by decide)).trans ?_
  refine (r_put (h' := (((h.1.set 115 (.inl (3, 160, .inl (upd (fun _ => 0) (Int32.toNatClampNeg 0) (((x2 >>> (0 &&& 31))).toInt8.toInt32).toInt8.toInt32)))).set 72 (.inr (12, (zF72.set 54 (.int 1))))), h.2)) f250_56 (gs_ne g72 (by decide)) rfl rfl).trans ?_
  refine (r_iinc (v := 1) (L' := [some (.ref 72), some (.int x1), some (.int x2), some (.int 1)]) f250_59 rfl rfl rfl).trans ?_
  refine (r_goto f250_62).trans ?_
  refine (r_iloadn f250_28 rfl).trans ?_
  refine (r_iloadn f250_29 rfl).trans ?_
  refine (r_icmp_ge_f f250_30 ec4).trans ?_
  refine (r_aloadn f250_33 rfl).trans ?_
  refine (r_get (v := .ref 115) f250_34 (gs_eq (gs_ne g72 (by decide))) rfl).trans ?_
  refine (r_aloadn f250_37 rfl).trans ?_
  refine (r_get (v := .int 1) f250_38 (gs_eq (gs_ne g72 (by decide))) rfl).trans ?_
  refine (r_iloadn f250_41 rfl).trans ?_
  refine (r_bipush (v := 8) f250_42 rfl).trans ?_
  refine (r_iloadn f250_44 rfl).trans ?_
  refine (r_imul (v := 8) f250_45 (by decide)).trans ?_
  refine (r_ishr (v := (x2 >>> (8 &&& 31))) f250_46 rfl).trans ?_
  refine (r_i2b (v := ((x2 >>> (8 &&& 31))).toInt8.toInt32) f250_47 rfl).trans ?_
  refine (r_bast (h' := ((((h.1.set 115 (.inl (3, 160, .inl (upd (fun _ => 0) (Int32.toNatClampNeg 0) (((x2 >>> (0 &&& 31))).toInt8.toInt32).toInt8.toInt32)))).set 72 (.inr (12, (zF72.set 54 (.int 1))))).set 115 (.inl (3, 160, .inl (upd (upd (fun _ => 0) (Int32.toNatClampNeg 0) (((x2 >>> (0 &&& 31))).toInt8.toInt32).toInt8.toInt32) (Int32.toNatClampNeg 1) (((x2 >>> (8 &&& 31))).toInt8.toInt32).toInt8.toInt32)))), h.2)) f250_48 (gs_ne (gs_eq g115) (by decide)) (by decide) rfl).trans ?_
  refine (r_aloadn f250_49 rfl).trans ?_
  refine (r_dup f250_50 rfl).trans ?_
  refine (r_get (v := .int 1) f250_51 (gs_ne (gs_eq (gs_ne g72 (by decide))) (by decide)) rfl).trans ?_
  refine (r_iconst (v := 1) f250_54 rfl).trans ?_
  refine (r_iadd (v := 2) f250_55 (by decide)).trans ?_
  refine (r_put (h' := (((((h.1.set 115 (.inl (3, 160, .inl (upd (fun _ => 0) (Int32.toNatClampNeg 0) (((x2 >>> (0 &&& 31))).toInt8.toInt32).toInt8.toInt32)))).set 72 (.inr (12, (zF72.set 54 (.int 1))))).set 115 (.inl (3, 160, .inl (upd (upd (fun _ => 0) (Int32.toNatClampNeg 0) (((x2 >>> (0 &&& 31))).toInt8.toInt32).toInt8.toInt32) (Int32.toNatClampNeg 1) (((x2 >>> (8 &&& 31))).toInt8.toInt32).toInt8.toInt32)))).set 72 (.inr (12, ((zF72.set 54 (.int 1)).set 54 (.int 2))))), h.2)) f250_56 (gs_ne (gs_eq (gs_ne g72 (by decide))) (by decide)) rfl rfl).trans ?_
  refine (r_iinc (v := 2) (L' := [some (.ref 72), some (.int x1), some (.int x2), some (.int 2)]) f250_59 rfl rfl rfl).trans ?_
  refine (r_goto f250_62).trans ?_
  refine (r_iloadn f250_28 rfl).trans ?_
  refine (r_iloadn f250_29 rfl).trans ?_
  refine (r_icmp_ge_f f250_30 ec5).trans ?_
  refine (r_aloadn f250_33 rfl).trans ?_
  refine (r_get (v := .ref 115) f250_34 (gs_eq (gs_ne (gs_eq (gs_ne g72 (by decide))) (by decide))) rfl).trans ?_
  refine (r_aloadn f250_37 rfl).trans ?_
  refine (r_get (v := .int 2) f250_38 (gs_eq (gs_ne (gs_eq (gs_ne g72 (by decide))) (by decide))) rfl).trans ?_
  refine (r_iloadn f250_41 rfl).trans ?_
  refine (r_bipush (v := 8) f250_42 rfl).trans ?_
  refine (r_iloadn f250_44 rfl).trans ?_
  refine (r_imul (v := 16) f250_45 (by decide)).trans ?_
  refine (r_ishr (v := (x2 >>> (16 &&& 31))) f250_46 rfl).trans ?_
  refine (r_i2b (v := ((x2 >>> (16 &&& 31))).toInt8.toInt32) f250_47 rfl).trans ?_
  refine (r_bast (h' := ((((((h.1.set 115 (.inl (3, 160, .inl (upd (fun _ => 0) (Int32.toNatClampNeg 0) (((x2 >>> (0 &&& 31))).toInt8.toInt32).toInt8.toInt32)))).set 72 (.inr (12, (zF72.set 54 (.int 1))))).set 115 (.inl (3, 160, .inl (upd (upd (fun _ => 0) (Int32.toNatClampNeg 0) (((x2 >>> (0 &&& 31))).toInt8.toInt32).toInt8.toInt32) (Int32.toNatClampNeg 1) (((x2 >>> (8 &&& 31))).toInt8.toInt32).toInt8.toInt32)))).set 72 (.inr (12, ((zF72.set 54 (.int 1)).set 54 (.int 2))))).set 115 (.inl (3, 160, .inl (upd (upd (upd (fun _ => 0) (Int32.toNatClampNeg 0) (((x2 >>> (0 &&& 31))).toInt8.toInt32).toInt8.toInt32) (Int32.toNatClampNeg 1) (((x2 >>> (8 &&& 31))).toInt8.toInt32).toInt8.toInt32) (Int32.toNatClampNeg 2) (((x2 >>> (16 &&& 31))).toInt8.toInt32).toInt8.toInt32)))), h.2)) f250_48 (gs_ne (gs_eq (gs_ne (gs_eq g115) (by decide))) (by decide)) (by decide) rfl).trans ?_
  refine (r_aloadn f250_49 rfl).trans ?_
  refine (r_dup f250_50 rfl).trans ?_
  refine (r_get (v := .int 2) f250_51 (gs_ne (gs_eq (gs_ne (gs_eq (gs_ne g72 (by decide))) (by decide))) (by decide)) rfl).trans ?_
  refine (r_iconst (v := 1) f250_54 rfl).trans ?_
  refine (r_iadd (v := 3) f250_55 (by decide)).trans ?_
  refine (r_put (h' := (((((((h.1.set 115 (.inl (3, 160, .inl (upd (fun _ => 0) (Int32.toNatClampNeg 0) (((x2 >>> (0 &&& 31))).toInt8.toInt32).toInt8.toInt32)))).set 72 (.inr (12, (zF72.set 54 (.int 1))))).set 115 (.inl (3, 160, .inl (upd (upd (fun _ => 0) (Int32.toNatClampNeg 0) (((x2 >>> (0 &&& 31))).toInt8.toInt32).toInt8.toInt32) (Int32.toNatClampNeg 1) (((x2 >>> (8 &&& 31))).toInt8.toInt32).toInt8.toInt32)))).set 72 (.inr (12, ((zF72.set 54 (.int 1)).set 54 (.int 2))))).set 115 (.inl (3, 160, .inl (upd (upd (upd (fun _ => 0) (Int32.toNatClampNeg 0) (((x2 >>> (0 &&& 31))).toInt8.toInt32).toInt8.toInt32) (Int32.toNatClampNeg 1) (((x2 >>> (8 &&& 31))).toInt8.toInt32).toInt8.toInt32) (Int32.toNatClampNeg 2) (((x2 >>> (16 &&& 31))).toInt8.toInt32).toInt8.toInt32)))).set 72 (.inr (12, (((zF72.set 54 (.int 1)).set 54 (.int 2)).set 54 (.int 3))))), h.2)) f250_56 (gs_ne (gs_eq (gs_ne (gs_eq (gs_ne g72 (by decide))) (by decide))) (by decide)) rfl rfl).trans ?_
  refine (r_iinc (v := 3) (L' := [some (.ref 72), some (.int x1), some (.int x2), some (.int 3)]) f250_59 rfl rfl rfl).trans ?_
  refine (r_goto f250_62).trans ?_
  refine (r_iloadn f250_28 rfl).trans ?_
  refine (r_iloadn f250_29 rfl).trans ?_
  refine (r_icmp_ge_f f250_30 ec6).trans ?_
  refine (r_aloadn f250_33 rfl).trans ?_
  refine (r_get (v := .ref 115) f250_34 (gs_eq (gs_ne (gs_eq (gs_ne (gs_eq (gs_ne g72 (by decide))) (by decide))) (by decide))) rfl).trans ?_
  refine (r_aloadn f250_37 rfl).trans ?_
  refine (r_get (v := .int 3) f250_38 (gs_eq (gs_ne (gs_eq (gs_ne (gs_eq (gs_ne g72 (by decide))) (by decide))) (by decide))) rfl).trans ?_
  refine (r_iloadn f250_41 rfl).trans ?_
  refine (r_bipush (v := 8) f250_42 rfl).trans ?_
  refine (r_iloadn f250_44 rfl).trans ?_
  refine (r_imul (v := 24) f250_45 (by decide)).trans ?_
  refine (r_ishr (v := (x2 >>> (24 &&& 31))) f250_46 rfl).trans ?_
  refine (r_i2b (v := ((x2 >>> (24 &&& 31))).toInt8.toInt32) f250_47 rfl).trans ?_
  refine (r_bast (h' := ((((((((h.1.set 115 (.inl (3, 160, .inl (upd (fun _ => 0) (Int32.toNatClampNeg 0) (((x2 >>> (0 &&& 31))).toInt8.toInt32).toInt8.toInt32)))).set 72 (.inr (12, (zF72.set 54 (.int 1))))).set 115 (.inl (3, 160, .inl (upd (upd (fun _ => 0) (Int32.toNatClampNeg 0) (((x2 >>> (0 &&& 31))).toInt8.toInt32).toInt8.toInt32) (Int32.toNatClampNeg 1) (((x2 >>> (8 &&& 31))).toInt8.toInt32).toInt8.toInt32)))).set 72 (.inr (12, ((zF72.set 54 (.int 1)).set 54 (.int 2))))).set 115 (.inl (3, 160, .inl (upd (upd (upd (fun _ => 0) (Int32.toNatClampNeg 0) (((x2 >>> (0 &&& 31))).toInt8.toInt32).toInt8.toInt32) (Int32.toNatClampNeg 1) (((x2 >>> (8 &&& 31))).toInt8.toInt32).toInt8.toInt32) (Int32.toNatClampNeg 2) (((x2 >>> (16 &&& 31))).toInt8.toInt32).toInt8.toInt32)))).set 72 (.inr (12, (((zF72.set 54 (.int 1)).set 54 (.int 2)).set 54 (.int 3))))).set 115 (.inl (3, 160, .inl (upd (upd (upd (upd (fun _ => 0) (Int32.toNatClampNeg 0) (((x2 >>> (0 &&& 31))).toInt8.toInt32).toInt8.toInt32) (Int32.toNatClampNeg 1) (((x2 >>> (8 &&& 31))).toInt8.toInt32).toInt8.toInt32) (Int32.toNatClampNeg 2) (((x2 >>> (16 &&& 31))).toInt8.toInt32).toInt8.toInt32) (Int32.toNatClampNeg 3) (((x2 >>> (24 &&& 31))).toInt8.toInt32).toInt8.toInt32)))), h.2)) f250_48 (gs_ne (gs_eq (gs_ne (gs_eq (gs_ne (gs_eq g115) (by decide))) (by decide))) (by decide)) (by decide) rfl).trans ?_
  refine (r_aloadn f250_49 rfl).trans ?_
  refine (r_dup f250_50 rfl).trans ?_
  refine (r_get (v := .int 3) f250_51 (gs_ne (gs_eq (gs_ne (gs_eq (gs_ne (gs_eq (gs_ne g72 (by decide))) (by decide))) (by decide))) (by decide)) rfl).trans ?_
  refine (r_iconst (v := 1) f250_54 rfl).trans ?_
  refine (r_iadd (v := 4) f250_55 (by decide)).trans ?_
  refine (r_put (h' := (((((((((h.1.set 115 (.inl (3, 160, .inl (upd (fun _ => 0) (Int32.toNatClampNeg 0) (((x2 >>> (0 &&& 31))).toInt8.toInt32).toInt8.toInt32)))).set 72 (.inr (12, (zF72.set 54 (.int 1))))).set 115 (.inl (3, 160, .inl (upd (upd (fun _ => 0) (Int32.toNatClampNeg 0) (((x2 >>> (0 &&& 31))).toInt8.toInt32).toInt8.toInt32) (Int32.toNatClampNeg 1) (((x2 >>> (8 &&& 31))).toInt8.toInt32).toInt8.toInt32)))).set 72 (.inr (12, ((zF72.set 54 (.int 1)).set 54 (.int 2))))).set 115 (.inl (3, 160, .inl (upd (upd (upd (fun _ => 0) (Int32.toNatClampNeg 0) (((x2 >>> (0 &&& 31))).toInt8.toInt32).toInt8.toInt32) (Int32.toNatClampNeg 1) (((x2 >>> (8 &&& 31))).toInt8.toInt32).toInt8.toInt32) (Int32.toNatClampNeg 2) (((x2 >>> (16 &&& 31))).toInt8.toInt32).toInt8.toInt32)))).set 72 (.inr (12, (((zF72.set 54 (.int 1)).set 54 (.int 2)).set 54 (.int 3))))).set 115 (.inl (3, 160, .inl (upd (upd (upd (upd (fun _ => 0) (Int32.toNatClampNeg 0) (((x2 >>> (0 &&& 31))).toInt8.toInt32).toInt8.toInt32) (Int32.toNatClampNeg 1) (((x2 >>> (8 &&& 31))).toInt8.toInt32).toInt8.toInt32) (Int32.toNatClampNeg 2) (((x2 >>> (16 &&& 31))).toInt8.toInt32).toInt8.toInt32) (Int32.toNatClampNeg 3) (((x2 >>> (24 &&& 31))).toInt8.toInt32).toInt8.toInt32)))).set 72 (.inr (12, ((((zF72.set 54 (.int 1)).set 54 (.int 2)).set 54 (.int 3)).set 54 (.int 4))))), h.2)) f250_56 (gs_ne (gs_eq (gs_ne (gs_eq (gs_ne (gs_eq (gs_ne g72 (by decide))) (by decide))) (by decide))) (by decide)) rfl rfl).trans ?_
  refine (r_iinc (v := 4) (L' := [some (.ref 72), some (.int x1), some (.int x2), some (.int 4)]) f250_59 rfl rfl rfl).trans ?_
  refine (r_goto f250_62).trans ?_
  refine (r_iloadn f250_28 rfl).trans ?_
  refine (r_iloadn f250_29 rfl).trans ?_
  refine (r_icmp_ge_t f250_30 (Int32.not_lt.mp ec1)).trans ?_
  refine (r_aloadn f250_65 rfl).trans ?_
  refine (r_get (v := .int 4) f250_66 (gs_eq (gs_ne (gs_eq (gs_ne (gs_eq (gs_ne (gs_eq (gs_ne g72 (by decide))) (by decide))) (by decide))) (by decide))) rfl).trans ?_
  exact r_ireturn f250_69 rfl
set_option maxHeartbeats 40000000 in
theorem qc23_6 {X : aX} {n d : Nat} {h : aH} {x1 : Int32} {x2 : Int32}  (g0 : h.1[0]? = some (.inr (11, zF0))) (g33 : h.1[33]? = some (.inr (10, zF33))) (ec0 : ¬ x1 < 1) (ec1 : ¬ 4 < x1) (ec2 : ¬ (0 + x1) ≤ 160) : arun X (n + 15) (d + 2) zM167 0 [some (.ref 0), some (.int x1), some (.int x2)] [] h = some (some (.int (-3)), h) := by
  refine (r_iloadn f167_0 rfl).trans ?_
  refine (r_iconst (v := 1) f167_1 rfl).trans ?_
  refine (r_iconst (v := 4) f167_2 rfl).trans ?_
  have hc1 : arun X (n + 11) (d + 1) zM137 0 [some (.int x1), some (.int 1), some (.int 4)] [] h = some ((some (.int 1)), h) := by
    refine (r_iloadn f137_0 rfl).trans ?_
    refine (r_iloadn f137_1 rfl).trans ?_
    refine (r_icmp_gt_f f137_2 ec0).trans ?_
    refine (r_iloadn f137_5 rfl).trans ?_
    refine (r_iloadn f137_6 rfl).trans ?_
    refine (r_icmp_gt_f f137_7 ec1).trans ?_
    refine (r_iconst (v := 1) f137_10 rfl).trans ?_
    refine (r_goto f137_11).trans ?_
    exact r_zreturn f137_15 rfl (by decide)
  refine (r_stat (as := [.int x1, .int 1, .int 4]) (v := (some (.int 1))) (h1 := h) f167_3 rfl zg137 rfl rfl rfl rfl rfl rfl hc1).trans ?_
  refine (r_if_ne_t f167_6 (by decide)).trans ?_
  refine (r_aloadn f167_11 rfl).trans ?_
  refine (r_get (v := .ref 33) f167_12 g0 rfl).trans ?_
  refine (r_get (v := .int 0) f167_15 g33 rfl).trans ?_
  refine (r_iloadn f167_18 rfl).trans ?_
  refine (r_iadd (v := (0 + x1)) f167_19 rfl).trans ?_
  refine (r_sipush (v := 160) f167_20 rfl).trans ?_
  refine (r_icmp_le_f f167_23 ec2).trans ?_
  refine (r_bipush (v := (-3)) f167_26 rfl).trans ?_
  refine (r_goto f167_28).trans ?_
  exact r_ireturn f167_40 rfl
set_option maxHeartbeats 40000000 in
theorem qm23_6_0 {X : aX} {n d : Nat} {h : aH} {x1 : Int32} {x2 : Int32}  (g72 : h.1[72]? = some (.inr (12, zF72))) (ec0 : ¬ x1 < 1) (ec1 : ¬ 4 < x1) (ec2 : ¬ (0 + x1) ≤ 160) : arun X (n + 13) (d + 2) zM250 0 [some (.ref 72), some (.int x1), some (.int x2), none] [] h = some (some (.int (-3)), h) := by
  refine (r_iloadn f250_0 rfl).trans ?_
  refine (r_iconst (v := 1) f250_1 rfl).trans ?_
  refine (r_iconst (v := 4) f250_2 rfl).trans ?_
  have hc1 : arun X (n + 9) (d + 1) zM196 0 [some (.int x1), some (.int 1), some (.int 4)] [] h = some ((some (.int 1)), h) := by
    refine (r_iloadn f196_0 rfl).trans ?_
    refine (r_iloadn f196_1 rfl).trans ?_
    refine (r_icmp_lt_f f196_2 ec0).trans ?_
    refine (r_iloadn f196_5 rfl).trans ?_
    refine (r_iloadn f196_6 rfl).trans ?_
    refine (r_icmp_gt_f f196_7 ec1).trans ?_
    refine (r_iconst (v := 1) f196_10 rfl).trans ?_
    refine (r_goto f196_11).trans ?_
    exact r_zreturn f196_15 rfl (by decide)
  refine (r_stat (as := [.int x1, .int 1, .int 4]) (v := (some (.int 1))) (h1 := h) f250_3 rfl zg196 rfl rfl rfl rfl rfl rfl hc1).trans ?_
  refine (r_if_ne_t f250_6 (by decide)).trans ?_
  refine (r_aloadn f250_11 rfl).trans ?_
  refine (r_get (v := .int 0) f250_12 g72 rfl).trans ?_
  refine (r_iloadn f250_15 rfl).trans ?_
  refine (r_iadd (v := (0 + x1)) f250_16 rfl).trans ?_
  refine (r_sipush (v := 160) f250_17 rfl).trans ?_
  refine (r_icmp_le_f f250_20 ec2).trans ?_
  refine (r_bipush (v := (-3)) f250_23 rfl).trans ?_
  exact r_ireturn f250_25 rfl
set_option maxHeartbeats 40000000 in
theorem qc24_0 {X : aX} {n d : Nat} {h : aH} {x1 : Int32} {x2 : Int32}  (ec0 : x1 < 0) : arun X (n + 6) (d + 2) zM168 0 [some (.ref 0), some (.int x1), some (.int x2)] [] h = some (some (.int (-1)), h) := by
  refine (r_iloadn f168_0 rfl).trans ?_
  have hc1 : arun X (n + 4) (d + 1) zM143 0 [some (.int x1)] [] h = some ((some (.int 0)), h) := by
    refine (r_iloadn f143_0 rfl).trans ?_
    refine (r_if_lt_t f143_1 ec0).trans ?_
    refine (r_iconst (v := 0) f143_26 rfl).trans ?_
    exact r_zreturn f143_27 rfl (by decide)
  refine (r_stat (as := [.int x1]) (v := (some (.int 0))) (h1 := h) f168_1 rfl zg143 rfl rfl rfl rfl rfl rfl hc1).trans ?_
  refine (r_if_eq_t f168_4 (by decide)).trans ?_
  refine (r_iconst (v := (-1)) f168_14 rfl).trans ?_
  exact r_ireturn f168_15 rfl
set_option maxHeartbeats 40000000 in
theorem qm24_0_0 {X : aX} {n d : Nat} {h : aH} {x1 : Int32} {x2 : Int32}  (ec0 : x1 < 0) : arun X (n + 11) (d + 3) zM264 0 [some (.ref 72), some (.int x1), some (.int x2)] [] h = some (some (.int (-1)), h) := by
  refine (r_iloadn f264_0 rfl).trans ?_
  have hc1 : arun X (n + 9) (d + 2) zM263 0 [some (.int x1)] [] h = some ((some (.int 0)), h) := by
    refine (r_iloadn f263_0 rfl).trans ?_
    refine (r_iconst (v := 0) f263_1 rfl).trans ?_
    refine (r_bipush (v := 33) f263_2 rfl).trans ?_
    have hc2 : arun X (n + 5) (d + 1) zM196 0 [some (.int x1), some (.int 0), some (.int 33)] [] h = some ((some (.int 0)), h) := by
      refine (r_iloadn f196_0 rfl).trans ?_
      refine (r_iloadn f196_1 rfl).trans ?_
      refine (r_icmp_lt_t f196_2 ec0).trans ?_
      refine (r_iconst (v := 0) f196_14 rfl).trans ?_
      exact r_zreturn f196_15 rfl (by decide)
    refine (r_stat (as := [.int x1, .int 0, .int 33]) (v := (some (.int 0))) (h1 := h) f263_4 rfl zg196 rfl rfl rfl rfl rfl rfl hc2).trans ?_
    refine (r_if_eq_t f263_7 (by decide)).trans ?_
    refine (r_iconst (v := 0) f263_22 rfl).trans ?_
    exact r_zreturn f263_23 rfl (by decide)
  refine (r_stat (as := [.int x1]) (v := (some (.int 0))) (h1 := h) f264_1 rfl zg263 rfl rfl rfl rfl rfl rfl hc1).trans ?_
  refine (r_if_eq_t f264_4 (by decide)).trans ?_
  refine (r_iconst (v := (-1)) f264_14 rfl).trans ?_
  exact r_ireturn f264_15 rfl
set_option maxHeartbeats 40000000 in
theorem qc24_1 {X : aX} {n d : Nat} {h : aH} {x1 : Int32} {x2 : Int32}  (ec0 : ¬ x1 < 0) (ec1 : (x1 / 10) < 0) : arun X (n + 17) (d + 4) zM168 0 [some (.ref 0), some (.int x1), some (.int x2)] [] h = some (some (.int (-1)), h) := by
  refine (r_iloadn f168_0 rfl).trans ?_
  have hc1 : arun X (n + 15) (d + 3) zM143 0 [some (.int x1)] [] h = some ((some (.int 0)), h) := by
    refine (r_iloadn f143_0 rfl).trans ?_
    refine (r_if_lt_f f143_1 ec0).trans ?_
    refine (r_iloadn f143_4 rfl).trans ?_
    refine (r_bipush (v := 10) f143_5 rfl).trans ?_
    refine (r_idiv (v := (x1 / 10)) f143_7 (by decide) rfl).trans ?_
    have hc2 : arun X (n + 9) (d + 2) zM140 0 [some (.int (x1 / 10))] [] h = some ((some (.int 0)), h) := by
      refine (r_iloadn f140_0 rfl).trans ?_
      refine (r_iconst (v := 0) f140_1 rfl).trans ?_
      refine (r_iconst (v := 3) f140_2 rfl).trans ?_
      have hc3 : arun X (n + 5) (d + 1) zM137 0 [some (.int (x1 / 10)), some (.int 0), some (.int 3)] [] h = some ((some (.int 0)), h) := by
        refine (r_iloadn f137_0 rfl).trans ?_
        refine (r_iloadn f137_1 rfl).trans ?_
        refine (r_icmp_gt_t f137_2 ec1).trans ?_
        refine (r_iconst (v := 0) f137_14 rfl).trans ?_
        exact r_zreturn f137_15 rfl (by decide)
      refine (r_stat (as := [.int (x1 / 10), .int 0, .int 3]) (v := (some (.int 0))) (h1 := h) f140_3 rfl zg137 rfl rfl rfl rfl rfl rfl hc3).trans ?_
      exact r_zreturn f140_6 rfl (by decide)
    refine (r_stat (as := [.int (x1 / 10)]) (v := (some (.int 0))) (h1 := h) f143_8 rfl zg140 rfl rfl rfl rfl rfl rfl hc2).trans ?_
    refine (r_if_eq_t f143_11 (by decide)).trans ?_
    refine (r_iconst (v := 0) f143_26 rfl).trans ?_
    exact r_zreturn f143_27 rfl (by decide)
  refine (r_stat (as := [.int x1]) (v := (some (.int 0))) (h1 := h) f168_1 rfl zg143 rfl rfl rfl rfl rfl rfl hc1).trans ?_
  refine (r_if_eq_t f168_4 (by decide)).trans ?_
  refine (r_iconst (v := (-1)) f168_14 rfl).trans ?_
  exact r_ireturn f168_15 rfl
set_option maxHeartbeats 40000000 in
theorem qm24_1_0 {X : aX} {n d : Nat} {h : aH} {x1 : Int32} {x2 : Int32}  (ec0 : ¬ x1 < 0) (em0 : 33 < x1) : arun X (n + 14) (d + 3) zM264 0 [some (.ref 72), some (.int x1), some (.int x2)] [] h = some (some (.int (-1)), h) := by
  refine (r_iloadn f264_0 rfl).trans ?_
  have hc1 : arun X (n + 12) (d + 2) zM263 0 [some (.int x1)] [] h = some ((some (.int 0)), h) := by
    refine (r_iloadn f263_0 rfl).trans ?_
    refine (r_iconst (v := 0) f263_1 rfl).trans ?_
    refine (r_bipush (v := 33) f263_2 rfl).trans ?_
    have hc2 : arun X (n + 8) (d + 1) zM196 0 [some (.int x1), some (.int 0), some (.int 33)] [] h = some ((some (.int 0)), h) := by
      refine (r_iloadn f196_0 rfl).trans ?_
      refine (r_iloadn f196_1 rfl).trans ?_
      refine (r_icmp_lt_f f196_2 ec0).trans ?_
      refine (r_iloadn f196_5 rfl).trans ?_
      refine (r_iloadn f196_6 rfl).trans ?_
      refine (r_icmp_gt_t f196_7 em0).trans ?_
      refine (r_iconst (v := 0) f196_14 rfl).trans ?_
      exact r_zreturn f196_15 rfl (by decide)
    refine (r_stat (as := [.int x1, .int 0, .int 33]) (v := (some (.int 0))) (h1 := h) f263_4 rfl zg196 rfl rfl rfl rfl rfl rfl hc2).trans ?_
    refine (r_if_eq_t f263_7 (by decide)).trans ?_
    refine (r_iconst (v := 0) f263_22 rfl).trans ?_
    exact r_zreturn f263_23 rfl (by decide)
  refine (r_stat (as := [.int x1]) (v := (some (.int 0))) (h1 := h) f264_1 rfl zg263 rfl rfl rfl rfl rfl rfl hc1).trans ?_
  refine (r_if_eq_t f264_4 (by decide)).trans ?_
  refine (r_iconst (v := (-1)) f264_14 rfl).trans ?_
  exact r_ireturn f264_15 rfl
set_option maxHeartbeats 40000000 in
theorem qm24_1_1 {X : aX} {n d : Nat} {h : aH} {x1 : Int32} {x2 : Int32}  (ec0 : ¬ x1 < 0) (em0 : ¬ 33 < x1) (em1 : 3 < (x1 - x1 / 10 * 10)) : arun X (n + 15) (d + 3) zM264 0 [some (.ref 72), some (.int x1), some (.int x2)] [] h = some (some (.int (-1)), h) := by
  refine (r_iloadn f264_0 rfl).trans ?_
  have hc1 : arun X (n + 13) (d + 2) zM263 0 [some (.int x1)] [] h = some ((some (.int 0)), h) := by
    refine (r_iloadn f263_0 rfl).trans ?_
    refine (r_iconst (v := 0) f263_1 rfl).trans ?_
    refine (r_bipush (v := 33) f263_2 rfl).trans ?_
    have hc2 : arun X (n + 9) (d + 1) zM196 0 [some (.int x1), some (.int 0), some (.int 33)] [] h = some ((some (.int 1)), h) := by
      refine (r_iloadn f196_0 rfl).trans ?_
      refine (r_iloadn f196_1 rfl).trans ?_
      refine (r_icmp_lt_f f196_2 ec0).trans ?_
      refine (r_iloadn f196_5 rfl).trans ?_
      refine (r_iloadn f196_6 rfl).trans ?_
      refine (r_icmp_gt_f f196_7 em0).trans ?_
      refine (r_iconst (v := 1) f196_10 rfl).trans ?_
      refine (r_goto f196_11).trans ?_
      exact r_zreturn f196_15 rfl (by decide)
    refine (r_stat (as := [.int x1, .int 0, .int 33]) (v := (some (.int 1))) (h1 := h) f263_4 rfl zg196 rfl rfl rfl rfl rfl rfl hc2).trans ?_
    refine (r_if_eq_f f263_7 (by decide)).trans ?_
    refine (r_iloadn f263_10 rfl).trans ?_
    refine (r_bipush (v := 10) f263_11 rfl).trans ?_
    refine (r_irem (v := (x1 - x1 / 10 * 10)) f263_13 (by decide) rfl).trans ?_
    refine (r_iconst (v := 3) f263_14 rfl).trans ?_
    refine (r_icmp_gt_t f263_15 em1).trans ?_
    refine (r_iconst (v := 0) f263_22 rfl).trans ?_
    exact r_zreturn f263_23 rfl (by decide)
  refine (r_stat (as := [.int x1]) (v := (some (.int 0))) (h1 := h) f264_1 rfl zg263 rfl rfl rfl rfl rfl rfl hc1).trans ?_
  refine (r_if_eq_t f264_4 (by decide)).trans ?_
  refine (r_iconst (v := (-1)) f264_14 rfl).trans ?_
  exact r_ireturn f264_15 rfl
set_option maxHeartbeats 40000000 in
theorem qm24_1_2 {X : aX} {n d : Nat} {h : aH} {x1 : Int32} {x2 : Int32}  (ec0 : ¬ x1 < 0) (em0 : ¬ 33 < x1) (em1 : ¬ 3 < (x1 - x1 / 10 * 10)) (em2 : x2 < 0) : arun X (n + 15) (d + 3) zM264 0 [some (.ref 72), some (.int x1), some (.int x2)] [] h = some (some (.int (-1)), h) := by
  refine (r_iloadn f264_0 rfl).trans ?_
  have hc1 : arun X (n + 13) (d + 2) zM263 0 [some (.int x1)] [] h = some ((some (.int 1)), h) := by
    refine (r_iloadn f263_0 rfl).trans ?_
    refine (r_iconst (v := 0) f263_1 rfl).trans ?_
    refine (r_bipush (v := 33) f263_2 rfl).trans ?_
    have hc2 : arun X (n + 9) (d + 1) zM196 0 [some (.int x1), some (.int 0), some (.int 33)] [] h = some ((some (.int 1)), h) := by
      refine (r_iloadn f196_0 rfl).trans ?_
      refine (r_iloadn f196_1 rfl).trans ?_
      refine (r_icmp_lt_f f196_2 ec0).trans ?_
      refine (r_iloadn f196_5 rfl).trans ?_
      refine (r_iloadn f196_6 rfl).trans ?_
      refine (r_icmp_gt_f f196_7 em0).trans ?_
      refine (r_iconst (v := 1) f196_10 rfl).trans ?_
      refine (r_goto f196_11).trans ?_
      exact r_zreturn f196_15 rfl (by decide)
    refine (r_stat (as := [.int x1, .int 0, .int 33]) (v := (some (.int 1))) (h1 := h) f263_4 rfl zg196 rfl rfl rfl rfl rfl rfl hc2).trans ?_
    refine (r_if_eq_f f263_7 (by decide)).trans ?_
    refine (r_iloadn f263_10 rfl).trans ?_
    refine (r_bipush (v := 10) f263_11 rfl).trans ?_
    refine (r_irem (v := (x1 - x1 / 10 * 10)) f263_13 (by decide) rfl).trans ?_
    refine (r_iconst (v := 3) f263_14 rfl).trans ?_
    refine (r_icmp_gt_f f263_15 em1).trans ?_
    refine (r_iconst (v := 1) f263_18 rfl).trans ?_
    refine (r_goto f263_19).trans ?_
    exact r_zreturn f263_23 rfl (by decide)
  refine (r_stat (as := [.int x1]) (v := (some (.int 1))) (h1 := h) f264_1 rfl zg263 rfl rfl rfl rfl rfl rfl hc1).trans ?_
  refine (r_if_eq_f f264_4 (by decide)).trans ?_
  refine (r_iloadn f264_7 rfl).trans ?_
  have hc3 : arun X (n + 10) (d + 2) zM198 0 [some (.int x2)] [] h = some ((some (.int 0)), h) := by
    refine (r_iloadn f198_0 rfl).trans ?_
    refine (r_iconst (v := 0) f198_1 rfl).trans ?_
    refine (r_bipush (v := 9) f198_2 rfl).trans ?_
    have hc4 : arun X (n + 6) (d + 1) zM196 0 [some (.int x2), some (.int 0), some (.int 9)] [] h = some ((some (.int 0)), h) := by
      refine (r_iloadn f196_0 rfl).trans ?_
      refine (r_iloadn f196_1 rfl).trans ?_
      refine (r_icmp_lt_t f196_2 em2).trans ?_
      refine (r_iconst (v := 0) f196_14 rfl).trans ?_
      exact r_zreturn f196_15 rfl (by decide)
    refine (r_stat (as := [.int x2, .int 0, .int 9]) (v := (some (.int 0))) (h1 := h) f198_4 rfl zg196 rfl rfl rfl rfl rfl rfl hc4).trans ?_
    exact r_zreturn f198_7 rfl (by decide)
  refine (r_stat (as := [.int x2]) (v := (some (.int 0))) (h1 := h) f264_8 rfl zg198 rfl rfl rfl rfl rfl rfl hc3).trans ?_
  refine (r_if_ne_f f264_11 (by decide)).trans ?_
  refine (r_iconst (v := (-1)) f264_14 rfl).trans ?_
  exact r_ireturn f264_15 rfl
set_option maxHeartbeats 40000000 in
theorem qm24_1_3 {X : aX} {n d : Nat} {h : aH} {x1 : Int32} {x2 : Int32}  (ec0 : ¬ x1 < 0) (em0 : ¬ 33 < x1) (em1 : ¬ 3 < (x1 - x1 / 10 * 10)) (em2 : ¬ x2 < 0) (em3 : 9 < x2) : arun X (n + 17) (d + 3) zM264 0 [some (.ref 72), some (.int x1), some (.int x2)] [] h = some (some (.int (-1)), h) := by
  refine (r_iloadn f264_0 rfl).trans ?_
  have hc1 : arun X (n + 15) (d + 2) zM263 0 [some (.int x1)] [] h = some ((some (.int 1)), h) := by
    refine (r_iloadn f263_0 rfl).trans ?_
    refine (r_iconst (v := 0) f263_1 rfl).trans ?_
    refine (r_bipush (v := 33) f263_2 rfl).trans ?_
    have hc2 : arun X (n + 11) (d + 1) zM196 0 [some (.int x1), some (.int 0), some (.int 33)] [] h = some ((some (.int 1)), h) := by
      refine (r_iloadn f196_0 rfl).trans ?_
      refine (r_iloadn f196_1 rfl).trans ?_
      refine (r_icmp_lt_f f196_2 ec0).trans ?_
      refine (r_iloadn f196_5 rfl).trans ?_
      refine (r_iloadn f196_6 rfl).trans ?_
      refine (r_icmp_gt_f f196_7 em0).trans ?_
      refine (r_iconst (v := 1) f196_10 rfl).trans ?_
      refine (r_goto f196_11).trans ?_
      exact r_zreturn f196_15 rfl (by decide)
    refine (r_stat (as := [.int x1, .int 0, .int 33]) (v := (some (.int 1))) (h1 := h) f263_4 rfl zg196 rfl rfl rfl rfl rfl rfl hc2).trans ?_
    refine (r_if_eq_f f263_7 (by decide)).trans ?_
    refine (r_iloadn f263_10 rfl).trans ?_
    refine (r_bipush (v := 10) f263_11 rfl).trans ?_
    refine (r_irem (v := (x1 - x1 / 10 * 10)) f263_13 (by decide) rfl).trans ?_
    refine (r_iconst (v := 3) f263_14 rfl).trans ?_
    refine (r_icmp_gt_f f263_15 em1).trans ?_
    refine (r_iconst (v := 1) f263_18 rfl).trans ?_
    refine (r_goto f263_19).trans ?_
    exact r_zreturn f263_23 rfl (by decide)
  refine (r_stat (as := [.int x1]) (v := (some (.int 1))) (h1 := h) f264_1 rfl zg263 rfl rfl rfl rfl rfl rfl hc1).trans ?_
  refine (r_if_eq_f f264_4 (by decide)).trans ?_
  refine (r_iloadn f264_7 rfl).trans ?_
  have hc3 : arun X (n + 12) (d + 2) zM198 0 [some (.int x2)] [] h = some ((some (.int 0)), h) := by
    refine (r_iloadn f198_0 rfl).trans ?_
    refine (r_iconst (v := 0) f198_1 rfl).trans ?_
    refine (r_bipush (v := 9) f198_2 rfl).trans ?_
    have hc4 : arun X (n + 8) (d + 1) zM196 0 [some (.int x2), some (.int 0), some (.int 9)] [] h = some ((some (.int 0)), h) := by
      refine (r_iloadn f196_0 rfl).trans ?_
      refine (r_iloadn f196_1 rfl).trans ?_
      refine (r_icmp_lt_f f196_2 em2).trans ?_
      refine (r_iloadn f196_5 rfl).trans ?_
      refine (r_iloadn f196_6 rfl).trans ?_
      refine (r_icmp_gt_t f196_7 em3).trans ?_
      refine (r_iconst (v := 0) f196_14 rfl).trans ?_
      exact r_zreturn f196_15 rfl (by decide)
    refine (r_stat (as := [.int x2, .int 0, .int 9]) (v := (some (.int 0))) (h1 := h) f198_4 rfl zg196 rfl rfl rfl rfl rfl rfl hc4).trans ?_
    exact r_zreturn f198_7 rfl (by decide)
  refine (r_stat (as := [.int x2]) (v := (some (.int 0))) (h1 := h) f264_8 rfl zg198 rfl rfl rfl rfl rfl rfl hc3).trans ?_
  refine (r_if_ne_f f264_11 (by decide)).trans ?_
  refine (r_iconst (v := (-1)) f264_14 rfl).trans ?_
  exact r_ireturn f264_15 rfl
set_option maxHeartbeats 40000000 in
theorem qm24_1_4 {X : aX} {n d : Nat} {h : aH} {x1 : Int32} {x2 : Int32}  (g72 : h.1[72]? = some (.inr (12, zF72))) (g119 : h.1[119]? = some (.inl (0, 17, .inl (fun _ => 0)))) (g120 : h.1[120]? = some (.inl (0, 1530, .inl (fun _ => 0)))) (g121 : h.1[121]? = some (.inl (0, 1530, .inl (fun _ => 0)))) (ec0 : ¬ x1 < 0) (em0 : ¬ 33 < x1) (em1 : ¬ 3 < (x1 - x1 / 10 * 10)) (em2 : ¬ x2 < 0) (em3 : ¬ 9 < x2) : arun X (n + 100) (d + 9) zM264 0 [some (.ref 72), some (.int x1), some (.int x2)] [] h = some (some (.int (-100)), ((((((((h.1.set 72 (.inr (12, (zF72.set 67 (.int 0))))).set 119 (.inl (0, 17, .inl (upd (fun _ => 0) (Int32.toNatClampNeg 0) 0)))).set 72 (.inr (12, ((((((zF72.set 67 (.int 0)).set 68 (.int 0)).set 64 (.int 0)).set 65 (.int (-1))).set 66 (.int 0)).set 65 (.int 0))))).set 120 (.inl (0, 1530, .inl (upd (fun _ => 0) (Int32.toNatClampNeg 0) 0)))).set 121 (.inl (0, 1530, .inl (upd (fun _ => 0) (Int32.toNatClampNeg 0) 0)))).set 119 (.inl (0, 17, .inl (upd (upd (fun _ => 0) (Int32.toNatClampNeg 0) 0) (Int32.toNatClampNeg 0) 1)))).set 72 (.inr (12, (((((((zF72.set 67 (.int 0)).set 68 (.int 0)).set 64 (.int 0)).set 65 (.int (-1))).set 66 (.int 0)).set 65 (.int 0)).set 54 (.int 0))))), h.2)) := by
  refine (r_iloadn f264_0 rfl).trans ?_
  have hc1 : arun X (n + 98) (d + 8) zM263 0 [some (.int x1)] [] h = some ((some (.int 1)), h) := by
    refine (r_iloadn f263_0 rfl).trans ?_
    refine (r_iconst (v := 0) f263_1 rfl).trans ?_
    refine (r_bipush (v := 33) f263_2 rfl).trans ?_
    have hc2 : arun X (n + 94) (d + 7) zM196 0 [some (.int x1), some (.int 0), some (.int 33)] [] h = some ((some (.int 1)), h) := by
      refine (r_iloadn f196_0 rfl).trans ?_
      refine (r_iloadn f196_1 rfl).trans ?_
      refine (r_icmp_lt_f f196_2 ec0).trans ?_
      refine (r_iloadn f196_5 rfl).trans ?_
      refine (r_iloadn f196_6 rfl).trans ?_
      refine (r_icmp_gt_f f196_7 em0).trans ?_
      refine (r_iconst (v := 1) f196_10 rfl).trans ?_
      refine (r_goto f196_11).trans ?_
      exact r_zreturn f196_15 rfl (by decide)
    refine (r_stat (as := [.int x1, .int 0, .int 33]) (v := (some (.int 1))) (h1 := h) f263_4 rfl zg196 rfl rfl rfl rfl rfl rfl hc2).trans ?_
    refine (r_if_eq_f f263_7 (by decide)).trans ?_
    refine (r_iloadn f263_10 rfl).trans ?_
    refine (r_bipush (v := 10) f263_11 rfl).trans ?_
    refine (r_irem (v := (x1 - x1 / 10 * 10)) f263_13 (by decide) rfl).trans ?_
    refine (r_iconst (v := 3) f263_14 rfl).trans ?_
    refine (r_icmp_gt_f f263_15 em1).trans ?_
    refine (r_iconst (v := 1) f263_18 rfl).trans ?_
    refine (r_goto f263_19).trans ?_
    exact r_zreturn f263_23 rfl (by decide)
  refine (r_stat (as := [.int x1]) (v := (some (.int 1))) (h1 := h) f264_1 rfl zg263 rfl rfl rfl rfl rfl rfl hc1).trans ?_
  refine (r_if_eq_f f264_4 (by decide)).trans ?_
  refine (r_iloadn f264_7 rfl).trans ?_
  have hc3 : arun X (n + 95) (d + 8) zM198 0 [some (.int x2)] [] h = some ((some (.int 1)), h) := by
    refine (r_iloadn f198_0 rfl).trans ?_
    refine (r_iconst (v := 0) f198_1 rfl).trans ?_
    refine (r_bipush (v := 9) f198_2 rfl).trans ?_
    have hc4 : arun X (n + 91) (d + 7) zM196 0 [some (.int x2), some (.int 0), some (.int 9)] [] h = some ((some (.int 1)), h) := by
      refine (r_iloadn f196_0 rfl).trans ?_
      refine (r_iloadn f196_1 rfl).trans ?_
      refine (r_icmp_lt_f f196_2 em2).trans ?_
      refine (r_iloadn f196_5 rfl).trans ?_
      refine (r_iloadn f196_6 rfl).trans ?_
      refine (r_icmp_gt_f f196_7 em3).trans ?_
      refine (r_iconst (v := 1) f196_10 rfl).trans ?_
      refine (r_goto f196_11).trans ?_
      exact r_zreturn f196_15 rfl (by decide)
    refine (r_stat (as := [.int x2, .int 0, .int 9]) (v := (some (.int 1))) (h1 := h) f198_4 rfl zg196 rfl rfl rfl rfl rfl rfl hc4).trans ?_
    exact r_zreturn f198_7 rfl (by decide)
  refine (r_stat (as := [.int x2]) (v := (some (.int 1))) (h1 := h) f264_8 rfl zg198 rfl rfl rfl rfl rfl rfl hc3).trans ?_
  refine (r_if_ne_t f264_11 (by decide)).trans ?_
  refine (r_aloadn f264_16 rfl).trans ?_
  refine (r_get (v := .int 0) f264_17 g72 rfl).trans ?_
  refine (r_bipush (v := 16) f264_20 rfl).trans ?_
  refine (r_icmp_ne_t f264_22 (by decide)).trans ?_
  refine (r_aloadn f264_28 rfl).trans ?_
  refine (r_aloadn f264_29 rfl).trans ?_
  refine (r_get (v := .int 0) f264_30 g72 rfl).trans ?_
  refine (r_put (h' := ((h.1.set 72 (.inr (12, (zF72.set 67 (.int 0))))), h.2)) f264_33 g72 rfl rfl).trans ?_
  refine (r_aloadn f264_36 rfl).trans ?_
  refine (r_get (v := .ref 119) f264_37 (gs_eq g72) rfl).trans ?_
  refine (r_aloadn f264_40 rfl).trans ?_
  refine (r_get (v := .int 0) f264_41 (gs_eq g72) rfl).trans ?_
  refine (r_iconst (v := 0) f264_44 rfl).trans ?_
  refine (r_iast (h' := (((h.1.set 72 (.inr (12, (zF72.set 67 (.int 0))))).set 119 (.inl (0, 17, .inl (upd (fun _ => 0) (Int32.toNatClampNeg 0) 0)))), h.2)) f264_45 (gs_ne g119 (by decide)) (by decide) rfl).trans ?_
  refine (r_aloadn f264_46 rfl).trans ?_
  refine (r_iconst (v := 0) f264_47 rfl).trans ?_
  refine (r_put (h' := ((((h.1.set 72 (.inr (12, (zF72.set 67 (.int 0))))).set 119 (.inl (0, 17, .inl (upd (fun _ => 0) (Int32.toNatClampNeg 0) 0)))).set 72 (.inr (12, ((zF72.set 67 (.int 0)).set 68 (.int 0))))), h.2)) f264_48 (gs_ne (gs_eq g72) (by decide)) rfl rfl).trans ?_
  refine (r_aloadn f264_51 rfl).trans ?_
  refine (r_iconst (v := 0) f264_52 rfl).trans ?_
  refine (r_put (h' := ((((h.1.set 72 (.inr (12, (zF72.set 67 (.int 0))))).set 119 (.inl (0, 17, .inl (upd (fun _ => 0) (Int32.toNatClampNeg 0) 0)))).set 72 (.inr (12, (((zF72.set 67 (.int 0)).set 68 (.int 0)).set 64 (.int 0))))), h.2)) f264_53 (gs_eq (gs_ne (gs_eq g72) (by decide))) rfl hss).trans ?_
  refine (r_aloadn f264_56 rfl).trans ?_
  refine (r_iconst (v := (-1)) f264_57 rfl).trans ?_
  refine (r_put (h' := ((((h.1.set 72 (.inr (12, (zF72.set 67 (.int 0))))).set 119 (.inl (0, 17, .inl (upd (fun _ => 0) (Int32.toNatClampNeg 0) 0)))).set 72 (.inr (12, ((((zF72.set 67 (.int 0)).set 68 (.int 0)).set 64 (.int 0)).set 65 (.int (-1)))))), h.2)) f264_58 (gs_eq (gs_ne (gs_eq g72) (by decide))) rfl hss).trans ?_
  refine (r_aloadn f264_61 rfl).trans ?_
  refine (r_iconst (v := 0) f264_62 rfl).trans ?_
  refine (r_put (h' := ((((h.1.set 72 (.inr (12, (zF72.set 67 (.int 0))))).set 119 (.inl (0, 17, .inl (upd (fun _ => 0) (Int32.toNatClampNeg 0) 0)))).set 72 (.inr (12, (((((zF72.set 67 (.int 0)).set 68 (.int 0)).set 64 (.int 0)).set 65 (.int (-1))).set 66 (.int 0))))), h.2)) f264_63 (gs_eq (gs_ne (gs_eq g72) (by decide))) rfl hss).trans ?_
  refine (r_aloadn f264_66 rfl).trans ?_
  have hc5 : arun X (n + 66) (d + 8) zM262 0 [some (.ref 72), none, none] [] ((((h.1.set 72 (.inr (12, (zF72.set 67 (.int 0))))).set 119 (.inl (0, 17, .inl (upd (fun _ => 0) (Int32.toNatClampNeg 0) 0)))).set 72 (.inr (12, (((((zF72.set 67 (.int 0)).set 68 (.int 0)).set 64 (.int 0)).set 65 (.int (-1))).set 66 (.int 0))))), h.2) = some (none, (((((((h.1.set 72 (.inr (12, (zF72.set 67 (.int 0))))).set 119 (.inl (0, 17, .inl (upd (fun _ => 0) (Int32.toNatClampNeg 0) 0)))).set 72 (.inr (12, ((((((zF72.set 67 (.int 0)).set 68 (.int 0)).set 64 (.int 0)).set 65 (.int (-1))).set 66 (.int 0)).set 65 (.int 0))))).set 120 (.inl (0, 1530, .inl (upd (fun _ => 0) (Int32.toNatClampNeg 0) 0)))).set 121 (.inl (0, 1530, .inl (upd (fun _ => 0) (Int32.toNatClampNeg 0) 0)))).set 119 (.inl (0, 17, .inl (upd (upd (fun _ => 0) (Int32.toNatClampNeg 0) 0) (Int32.toNatClampNeg 0) 1)))), h.2)) := by
    refine (r_bipush (v := 90) f262_0 rfl).trans ?_
    refine (r_aloadn f262_2 rfl).trans ?_
    refine (r_get (v := .int 0) f262_3 (gs_eq (gs_ne (gs_eq g72) (by decide))) rfl).trans ?_
    refine (r_imul (v := 0) f262_6 (by decide)).trans ?_
    refine (r_aloadn f262_7 rfl).trans ?_
    refine (r_get (v := .ref 119) f262_8 (gs_eq (gs_ne (gs_eq g72) (by decide))) rfl).trans ?_
    refine (r_aloadn f262_11 rfl).trans ?_
    refine (r_get (v := .int 0) f262_12 (gs_eq (gs_ne (gs_eq g72) (by decide))) rfl).trans ?_
    refine (r_iald (v := 0) f262_15 (gs_ne (gs_eq (gs_ne g119 (by decide))) (by decide)) (by decide) rfl).trans ?_
    refine (r_iadd (v := 0) f262_16 (by decide)).trans ?_
    refine (r_istoren (L' := [some (.ref 72), some (.int 0), none]) f262_17 rfl rfl).trans ?_
    refine (r_aloadn f262_18 rfl).trans ?_
    refine (r_get (v := .int 0) f262_19 (gs_eq (gs_ne (gs_eq g72) (by decide))) rfl).trans ?_
    refine (r_istoren (L' := [some (.ref 72), some (.int 0), some (.int 0)]) f262_22 rfl rfl).trans ?_
    refine (r_aloadn f262_23 rfl).trans ?_
    have hc6 : arun X (n + 50) (d + 7) zM261 0 [some (.ref 72)] [] ((((h.1.set 72 (.inr (12, (zF72.set 67 (.int 0))))).set 119 (.inl (0, 17, .inl (upd (fun _ => 0) (Int32.toNatClampNeg 0) 0)))).set 72 (.inr (12, (((((zF72.set 67 (.int 0)).set 68 (.int 0)).set 64 (.int 0)).set 65 (.int (-1))).set 66 (.int 0))))), h.2) = some (none, ((((h.1.set 72 (.inr (12, (zF72.set 67 (.int 0))))).set 119 (.inl (0, 17, .inl (upd (fun _ => 0) (Int32.toNatClampNeg 0) 0)))).set 72 (.inr (12, ((((((zF72.set 67 (.int 0)).set 68 (.int 0)).set 64 (.int 0)).set 65 (.int (-1))).set 66 (.int 0)).set 65 (.int 0))))), h.2)) := by
      refine (r_aloadn f261_0 rfl).trans ?_
      have hc7 : arun X (n + 48) (d + 6) zM260 0 [some (.ref 72)] [] ((((h.1.set 72 (.inr (12, (zF72.set 67 (.int 0))))).set 119 (.inl (0, 17, .inl (upd (fun _ => 0) (Int32.toNatClampNeg 0) 0)))).set 72 (.inr (12, (((((zF72.set 67 (.int 0)).set 68 (.int 0)).set 64 (.int 0)).set 65 (.int (-1))).set 66 (.int 0))))), h.2) = some (none, ((((h.1.set 72 (.inr (12, (zF72.set 67 (.int 0))))).set 119 (.inl (0, 17, .inl (upd (fun _ => 0) (Int32.toNatClampNeg 0) 0)))).set 72 (.inr (12, ((((((zF72.set 67 (.int 0)).set 68 (.int 0)).set 64 (.int 0)).set 65 (.int (-1))).set 66 (.int 0)).set 65 (.int 0))))), h.2)) := by
        refine (r_aloadn f260_0 rfl).trans ?_
        have hc8 : arun X (n + 46) (d + 5) zM259 0 [some (.ref 72), none] [] ((((h.1.set 72 (.inr (12, (zF72.set 67 (.int 0))))).set 119 (.inl (0, 17, .inl (upd (fun _ => 0) (Int32.toNatClampNeg 0) 0)))).set 72 (.inr (12, (((((zF72.set 67 (.int 0)).set 68 (.int 0)).set 64 (.int 0)).set 65 (.int (-1))).set 66 (.int 0))))), h.2) = some (none, ((((h.1.set 72 (.inr (12, (zF72.set 67 (.int 0))))).set 119 (.inl (0, 17, .inl (upd (fun _ => 0) (Int32.toNatClampNeg 0) 0)))).set 72 (.inr (12, ((((((zF72.set 67 (.int 0)).set 68 (.int 0)).set 64 (.int 0)).set 65 (.int (-1))).set 66 (.int 0)).set 65 (.int 0))))), h.2)) := by
          refine (r_aloadn f259_0 rfl).trans ?_
          have hc9 : arun X (n + 44) (d + 4) zM258 0 [some (.ref 72), none] [] ((((h.1.set 72 (.inr (12, (zF72.set 67 (.int 0))))).set 119 (.inl (0, 17, .inl (upd (fun _ => 0) (Int32.toNatClampNeg 0) 0)))).set 72 (.inr (12, (((((zF72.set 67 (.int 0)).set 68 (.int 0)).set 64 (.int 0)).set 65 (.int (-1))).set 66 (.int 0))))), h.2) = some (none, ((((h.1.set 72 (.inr (12, (zF72.set 67 (.int 0))))).set 119 (.inl (0, 17, .inl (upd (fun _ => 0) (Int32.toNatClampNeg 0) 0)))).set 72 (.inr (12, ((((((zF72.set 67 (.int 0)).set 68 (.int 0)).set 64 (.int 0)).set 65 (.int (-1))).set 66 (.int 0)).set 65 (.int 0))))), h.2)) := by
            refine (r_aloadn f258_0 rfl).trans ?_
            have hc10 : arun X (n + 42) (d + 3) zM257 0 [some (.ref 72), none] [] ((((h.1.set 72 (.inr (12, (zF72.set 67 (.int 0))))).set 119 (.inl (0, 17, .inl (upd (fun _ => 0) (Int32.toNatClampNeg 0) 0)))).set 72 (.inr (12, (((((zF72.set 67 (.int 0)).set 68 (.int 0)).set 64 (.int 0)).set 65 (.int (-1))).set 66 (.int 0))))), h.2) = some (none, ((((h.1.set 72 (.inr (12, (zF72.set 67 (.int 0))))).set 119 (.inl (0, 17, .inl (upd (fun _ => 0) (Int32.toNatClampNeg 0) 0)))).set 72 (.inr (12, ((((((zF72.set 67 (.int 0)).set 68 (.int 0)).set 64 (.int 0)).set 65 (.int (-1))).set 66 (.int 0)).set 65 (.int 0))))), h.2)) := by
              refine (r_aloadn f257_0 rfl).trans ?_
              have hc11 : arun X (n + 40) (d + 2) zM256 0 [some (.ref 72), none, none, none] [] ((((h.1.set 72 (.inr (12, (zF72.set 67 (.int 0))))).set 119 (.inl (0, 17, .inl (upd (fun _ => 0) (Int32.toNatClampNeg 0) 0)))).set 72 (.inr (12, (((((zF72.set 67 (.int 0)).set 68 (.int 0)).set 64 (.int 0)).set 65 (.int (-1))).set 66 (.int 0))))), h.2) = some (none, ((((h.1.set 72 (.inr (12, (zF72.set 67 (.int 0))))).set 119 (.inl (0, 17, .inl (upd (fun _ => 0) (Int32.toNatClampNeg 0) 0)))).set 72 (.inr (12, ((((((zF72.set 67 (.int 0)).set 68 (.int 0)).set 64 (.int 0)).set 65 (.int (-1))).set 66 (.int 0)).set 65 (.int 0))))), h.2)) := by
                refine (r_aloadn f256_0 rfl).trans ?_
                have hc12 : arun X (n + 38) (d + 1) zM251 0 [some (.ref 72)] [] ((((h.1.set 72 (.inr (12, (zF72.set 67 (.int 0))))).set 119 (.inl (0, 17, .inl (upd (fun _ => 0) (Int32.toNatClampNeg 0) 0)))).set 72 (.inr (12, (((((zF72.set 67 (.int 0)).set 68 (.int 0)).set 64 (.int 0)).set 65 (.int (-1))).set 66 (.int 0))))), h.2) = some ((some (.int (-1))), ((((h.1.set 72 (.inr (12, (zF72.set 67 (.int 0))))).set 119 (.inl (0, 17, .inl (upd (fun _ => 0) (Int32.toNatClampNeg 0) 0)))).set 72 (.inr (12, (((((zF72.set 67 (.int 0)).set 68 (.int 0)).set 64 (.int 0)).set 65 (.int (-1))).set 66 (.int 0))))), h.2)) := by
                  refine (r_aloadn f251_0 rfl).trans ?_
                  refine (r_get (v := .int 0) f251_1 (gs_eq (gs_ne (gs_eq g72) (by decide))) rfl).trans ?_
                  refine (r_aloadn f251_4 rfl).trans ?_
                  refine (r_get (v := .int 0) f251_5 (gs_eq (gs_ne (gs_eq g72) (by decide))) rfl).trans ?_
                  refine (r_icmp_ge_t f251_8 (by decide)).trans ?_
                  refine (r_iconst (v := (-1)) f251_23 rfl).trans ?_
                  exact r_ireturn f251_24 rfl
                refine (r_virt (as := []) (v := (some (.int (-1)))) (h1 := ((((h.1.set 72 (.inr (12, (zF72.set 67 (.int 0))))).set 119 (.inl (0, 17, .inl (upd (fun _ => 0) (Int32.toNatClampNeg 0) 0)))).set 72 (.inr (12, (((((zF72.set 67 (.int 0)).set 68 (.int 0)).set 64 (.int 0)).set 65 (.int (-1))).set 66 (.int 0))))), h.2)) f256_1 (gs_eq (gs_ne (gs_eq g72) (by decide))) zg251 rfl rfl rfl rfl rfl rfl hc12).trans ?_
                refine (r_istoren (L' := [some (.ref 72), some (.int (-1)), none, none]) f256_4 rfl rfl).trans ?_
                refine (r_iloadn f256_5 rfl).trans ?_
                have hc13 : arun X (n + 35) (d + 1) zM255 0 [some (.int (-1))] [] ((((h.1.set 72 (.inr (12, (zF72.set 67 (.int 0))))).set 119 (.inl (0, 17, .inl (upd (fun _ => 0) (Int32.toNatClampNeg 0) 0)))).set 72 (.inr (12, (((((zF72.set 67 (.int 0)).set 68 (.int 0)).set 64 (.int 0)).set 65 (.int (-1))).set 66 (.int 0))))), h.2) = some ((some (.int (-1))), ((((h.1.set 72 (.inr (12, (zF72.set 67 (.int 0))))).set 119 (.inl (0, 17, .inl (upd (fun _ => 0) (Int32.toNatClampNeg 0) 0)))).set 72 (.inr (12, (((((zF72.set 67 (.int 0)).set 68 (.int 0)).set 64 (.int 0)).set 65 (.int (-1))).set 66 (.int 0))))), h.2)) := by
                  refine (r_iloadn f255_0 rfl).trans ?_
                  refine (r_tsw f255_1).trans ?_
                  refine (asw_f (by decide)).trans ?_
                  refine (asw_f (by decide)).trans ?_
                  refine (asw_f (by decide)).trans ?_
                  refine (asw_f (by decide)).trans ?_
                  refine (asw_f (by decide)).trans ?_
                  refine (asw_f (by decide)).trans ?_
                  refine (asw_f (by decide)).trans ?_
                  refine (asw_f (by decide)).trans ?_
                  refine (asw_f (by decide)).trans ?_
                  refine (asw_f (by decide)).trans ?_
                  refine (asw_f (by decide)).trans ?_
                  refine (asw_f (by decide)).trans ?_
                  refine (asw_f (by decide)).trans ?_
                  refine (asw_f (by decide)).trans ?_
                  refine (asw_f (by decide)).trans ?_
                  refine (asw_f (by decide)).trans ?_
                  refine (asw_f (by decide)).trans ?_
                  refine (asw_f (by decide)).trans ?_
                  refine (asw_f (by decide)).trans ?_
                  refine (asw_f (by decide)).trans ?_
                  refine (asw_f (by decide)).trans ?_
                  refine (asw_f (by decide)).trans ?_
                  refine (asw_f (by decide)).trans ?_
                  refine (asw_f (by decide)).trans ?_
                  refine (asw_d).trans ?_
                  refine (r_iconst (v := (-1)) f255_145 rfl).trans ?_
                  exact r_ireturn f255_146 rfl
                refine (r_stat (as := [.int (-1)]) (v := (some (.int (-1)))) (h1 := ((((h.1.set 72 (.inr (12, (zF72.set 67 (.int 0))))).set 119 (.inl (0, 17, .inl (upd (fun _ => 0) (Int32.toNatClampNeg 0) 0)))).set 72 (.inr (12, (((((zF72.set 67 (.int 0)).set 68 (.int 0)).set 64 (.int 0)).set 65 (.int (-1))).set 66 (.int 0))))), h.2)) f256_6 rfl zg255 rfl rfl rfl rfl rfl rfl hc13).trans ?_
                refine (r_if_lt_t f256_9 (by decide)).trans ?_
                refine (r_iloadn f256_32 rfl).trans ?_
                refine (r_bipush (v := 33) f256_33 rfl).trans ?_
                refine (r_icmp_eq_f f256_35 (by decide)).trans ?_
                refine (r_iloadn f256_38 rfl).trans ?_
                refine (r_bipush (v := 45) f256_39 rfl).trans ?_
                refine (r_icmp_ne_t f256_41 (by decide)).trans ?_
                refine (r_iloadn f256_83 rfl).trans ?_
                refine (r_bipush (v := 40) f256_84 rfl).trans ?_
                refine (r_icmp_ne_t f256_86 (by decide)).trans ?_
                refine (r_iconst (v := 0) f256_144 rfl).trans ?_
                refine (r_istoren (L' := [some (.ref 72), some (.int (-1)), some (.int 0), none]) f256_145 rfl rfl).trans ?_
                refine (r_iconst (v := 0) f256_146 rfl).trans ?_
                refine (r_istoren (L' := [some (.ref 72), some (.int (-1)), some (.int 0), some (.int 0)]) f256_147 rfl rfl).trans ?_
                refine (r_iloadn f256_148 rfl).trans ?_
                refine (r_bipush (v := 6) f256_149 rfl).trans ?_
                refine (r_icmp_ge_f f256_151 (by decide)).trans ?_
                refine (r_aloadn f256_154 rfl).trans ?_
                have hc14 : arun X (n + 16) (d + 1) zM251 0 [some (.ref 72)] [] ((((h.1.set 72 (.inr (12, (zF72.set 67 (.int 0))))).set 119 (.inl (0, 17, .inl (upd (fun _ => 0) (Int32.toNatClampNeg 0) 0)))).set 72 (.inr (12, (((((zF72.set 67 (.int 0)).set 68 (.int 0)).set 64 (.int 0)).set 65 (.int (-1))).set 66 (.int 0))))), h.2) = some ((some (.int (-1))), ((((h.1.set 72 (.inr (12, (zF72.set 67 (.int 0))))).set 119 (.inl (0, 17, .inl (upd (fun _ => 0) (Int32.toNatClampNeg 0) 0)))).set 72 (.inr (12, (((((zF72.set 67 (.int 0)).set 68 (.int 0)).set 64 (.int 0)).set 65 (.int (-1))).set 66 (.int 0))))), h.2)) := by
                  refine (r_aloadn f251_0 rfl).trans ?_
                  refine (r_get (v := .int 0) f251_1 (gs_eq (gs_ne (gs_eq g72) (by decide))) rfl).trans ?_
                  refine (r_aloadn f251_4 rfl).trans ?_
                  refine (r_get (v := .int 0) f251_5 (gs_eq (gs_ne (gs_eq g72) (by decide))) rfl).trans ?_
                  refine (r_icmp_ge_t f251_8 (by decide)).trans ?_
                  refine (r_iconst (v := (-1)) f251_23 rfl).trans ?_
                  exact r_ireturn f251_24 rfl
                refine (r_virt (as := []) (v := (some (.int (-1)))) (h1 := ((((h.1.set 72 (.inr (12, (zF72.set 67 (.int 0))))).set 119 (.inl (0, 17, .inl (upd (fun _ => 0) (Int32.toNatClampNeg 0) 0)))).set 72 (.inr (12, (((((zF72.set 67 (.int 0)).set 68 (.int 0)).set 64 (.int 0)).set 65 (.int (-1))).set 66 (.int 0))))), h.2)) f256_155 (gs_eq (gs_ne (gs_eq g72) (by decide))) zg251 rfl rfl rfl rfl rfl rfl hc14).trans ?_
                refine (r_bipush (v := 48) f256_158 rfl).trans ?_
                refine (r_bipush (v := 57) f256_160 rfl).trans ?_
                have hc15 : arun X (n + 13) (d + 1) zM196 0 [some (.int (-1)), some (.int 48), some (.int 57)] [] ((((h.1.set 72 (.inr (12, (zF72.set 67 (.int 0))))).set 119 (.inl (0, 17, .inl (upd (fun _ => 0) (Int32.toNatClampNeg 0) 0)))).set 72 (.inr (12, (((((zF72.set 67 (.int 0)).set 68 (.int 0)).set 64 (.int 0)).set 65 (.int (-1))).set 66 (.int 0))))), h.2) = some ((some (.int 0)), ((((h.1.set 72 (.inr (12, (zF72.set 67 (.int 0))))).set 119 (.inl (0, 17, .inl (upd (fun _ => 0) (Int32.toNatClampNeg 0) 0)))).set 72 (.inr (12, (((((zF72.set 67 (.int 0)).set 68 (.int 0)).set 64 (.int 0)).set 65 (.int (-1))).set 66 (.int 0))))), h.2)) := by
                  refine (r_iloadn f196_0 rfl).trans ?_
                  refine (r_iloadn f196_1 rfl).trans ?_
                  refine (r_icmp_lt_t f196_2 (by decide)).trans ?_
                  refine (r_iconst (v := 0) f196_14 rfl).trans ?_
                  exact r_zreturn f196_15 rfl (by decide)
                refine (r_stat (as := [.int (-1), .int 48, .int 57]) (v := (some (.int 0))) (h1 := ((((h.1.set 72 (.inr (12, (zF72.set 67 (.int 0))))).set 119 (.inl (0, 17, .inl (upd (fun _ => 0) (Int32.toNatClampNeg 0) 0)))).set 72 (.inr (12, (((((zF72.set 67 (.int 0)).set 68 (.int 0)).set 64 (.int 0)).set 65 (.int (-1))).set 66 (.int 0))))), h.2)) f256_162 rfl zg196 rfl rfl rfl rfl rfl rfl hc15).trans ?_
                refine (r_if_eq_t f256_165 (by decide)).trans ?_
                refine (r_iloadn f256_197 rfl).trans ?_
                refine (r_if_eq_t f256_198 (by decide)).trans ?_
                refine (r_aloadn f256_215 rfl).trans ?_
                have hc16 : arun X (n + 8) (d + 1) zM252 0 [some (.ref 72)] [] ((((h.1.set 72 (.inr (12, (zF72.set 67 (.int 0))))).set 119 (.inl (0, 17, .inl (upd (fun _ => 0) (Int32.toNatClampNeg 0) 0)))).set 72 (.inr (12, (((((zF72.set 67 (.int 0)).set 68 (.int 0)).set 64 (.int 0)).set 65 (.int (-1))).set 66 (.int 0))))), h.2) = some (none, ((((h.1.set 72 (.inr (12, (zF72.set 67 (.int 0))))).set 119 (.inl (0, 17, .inl (upd (fun _ => 0) (Int32.toNatClampNeg 0) 0)))).set 72 (.inr (12, ((((((zF72.set 67 (.int 0)).set 68 (.int 0)).set 64 (.int 0)).set 65 (.int (-1))).set 66 (.int 0)).set 65 (.int 0))))), h.2)) := by
                  refine (r_aloadn f252_0 rfl).trans ?_
                  refine (r_get (v := .int (-1)) f252_1 (gs_eq (gs_ne (gs_eq g72) (by decide))) rfl).trans ?_
                  refine (r_if_ge_f f252_4 (by decide)).trans ?_
                  refine (r_aloadn f252_7 rfl).trans ?_
                  refine (r_aloadn f252_8 rfl).trans ?_
                  refine (r_get (v := .int 0) f252_9 (gs_eq (gs_ne (gs_eq g72) (by decide))) rfl).trans ?_
                  refine (r_put (h' := ((((h.1.set 72 (.inr (12, (zF72.set 67 (.int 0))))).set 119 (.inl (0, 17, .inl (upd (fun _ => 0) (Int32.toNatClampNeg 0) 0)))).set 72 (.inr (12, ((((((zF72.set 67 (.int 0)).set 68 (.int 0)).set 64 (.int 0)).set 65 (.int (-1))).set 66 (.int 0)).set 65 (.int 0))))), h.2)) f252_12 (gs_eq (gs_ne (gs_eq g72) (by decide))) rfl hss).trans ?_
                  exact r_vreturn f252_15 rfl
                refine (r_virt (as := []) (v := none) (h1 := ((((h.1.set 72 (.inr (12, (zF72.set 67 (.int 0))))).set 119 (.inl (0, 17, .inl (upd (fun _ => 0) (Int32.toNatClampNeg 0) 0)))).set 72 (.inr (12, ((((((zF72.set 67 (.int 0)).set 68 (.int 0)).set 64 (.int 0)).set 65 (.int (-1))).set 66 (.int 0)).set 65 (.int 0))))), h.2)) f256_216 (gs_eq (gs_ne (gs_eq g72) (by decide))) zg252 rfl rfl rfl rfl rfl rfl hc16).trans ?_
                refine (r_goto f256_219).trans ?_
                exact r_vreturn f256_228 rfl
              refine (r_virt (as := []) (v := none) (h1 := ((((h.1.set 72 (.inr (12, (zF72.set 67 (.int 0))))).set 119 (.inl (0, 17, .inl (upd (fun _ => 0) (Int32.toNatClampNeg 0) 0)))).set 72 (.inr (12, ((((((zF72.set 67 (.int 0)).set 68 (.int 0)).set 64 (.int 0)).set 65 (.int (-1))).set 66 (.int 0)).set 65 (.int 0))))), h.2)) f257_1 (gs_eq (gs_ne (gs_eq g72) (by decide))) zg256 rfl rfl rfl rfl rfl rfl hc11).trans ?_
              refine (r_aloadn f257_4 rfl).trans ?_
              refine (r_get (v := .int 0) f257_5 (gs_eq (gs_ne (gs_eq g72) (by decide))) rfl).trans ?_
              refine (r_if_ge_t f257_8 (by decide)).trans ?_
              exact r_vreturn f257_66 rfl
            refine (r_virt (as := []) (v := none) (h1 := ((((h.1.set 72 (.inr (12, (zF72.set 67 (.int 0))))).set 119 (.inl (0, 17, .inl (upd (fun _ => 0) (Int32.toNatClampNeg 0) 0)))).set 72 (.inr (12, ((((((zF72.set 67 (.int 0)).set 68 (.int 0)).set 64 (.int 0)).set 65 (.int (-1))).set 66 (.int 0)).set 65 (.int 0))))), h.2)) f258_1 (gs_eq (gs_ne (gs_eq g72) (by decide))) zg257 rfl rfl rfl rfl rfl rfl hc10).trans ?_
            refine (r_aloadn f258_4 rfl).trans ?_
            refine (r_get (v := .int 0) f258_5 (gs_eq (gs_ne (gs_eq g72) (by decide))) rfl).trans ?_
            refine (r_if_ge_t f258_8 (by decide)).trans ?_
            exact r_vreturn f258_57 rfl
          refine (r_virt (as := []) (v := none) (h1 := ((((h.1.set 72 (.inr (12, (zF72.set 67 (.int 0))))).set 119 (.inl (0, 17, .inl (upd (fun _ => 0) (Int32.toNatClampNeg 0) 0)))).set 72 (.inr (12, ((((((zF72.set 67 (.int 0)).set 68 (.int 0)).set 64 (.int 0)).set 65 (.int (-1))).set 66 (.int 0)).set 65 (.int 0))))), h.2)) f259_1 (gs_eq (gs_ne (gs_eq g72) (by decide))) zg258 rfl rfl rfl rfl rfl rfl hc9).trans ?_
          refine (r_aloadn f259_4 rfl).trans ?_
          have hc17 : arun X (n + 42) (d + 4) zM251 0 [some (.ref 72)] [] ((((h.1.set 72 (.inr (12, (zF72.set 67 (.int 0))))).set 119 (.inl (0, 17, .inl (upd (fun _ => 0) (Int32.toNatClampNeg 0) 0)))).set 72 (.inr (12, ((((((zF72.set 67 (.int 0)).set 68 (.int 0)).set 64 (.int 0)).set 65 (.int (-1))).set 66 (.int 0)).set 65 (.int 0))))), h.2) = some ((some (.int (-1))), ((((h.1.set 72 (.inr (12, (zF72.set 67 (.int 0))))).set 119 (.inl (0, 17, .inl (upd (fun _ => 0) (Int32.toNatClampNeg 0) 0)))).set 72 (.inr (12, ((((((zF72.set 67 (.int 0)).set 68 (.int 0)).set 64 (.int 0)).set 65 (.int (-1))).set 66 (.int 0)).set 65 (.int 0))))), h.2)) := by
            refine (r_aloadn f251_0 rfl).trans ?_
            refine (r_get (v := .int 0) f251_1 (gs_eq (gs_ne (gs_eq g72) (by decide))) rfl).trans ?_
            refine (r_aloadn f251_4 rfl).trans ?_
            refine (r_get (v := .int 0) f251_5 (gs_eq (gs_ne (gs_eq g72) (by decide))) rfl).trans ?_
            refine (r_icmp_ge_t f251_8 (by decide)).trans ?_
            refine (r_iconst (v := (-1)) f251_23 rfl).trans ?_
            exact r_ireturn f251_24 rfl
          refine (r_virt (as := []) (v := (some (.int (-1)))) (h1 := ((((h.1.set 72 (.inr (12, (zF72.set 67 (.int 0))))).set 119 (.inl (0, 17, .inl (upd (fun _ => 0) (Int32.toNatClampNeg 0) 0)))).set 72 (.inr (12, ((((((zF72.set 67 (.int 0)).set 68 (.int 0)).set 64 (.int 0)).set 65 (.int (-1))).set 66 (.int 0)).set 65 (.int 0))))), h.2)) f259_5 (gs_eq (gs_ne (gs_eq g72) (by decide))) zg251 rfl rfl rfl rfl rfl rfl hc17).trans ?_
          refine (r_istoren (L' := [some (.ref 72), some (.int (-1))]) f259_8 rfl rfl).trans ?_
          refine (r_aloadn f259_9 rfl).trans ?_
          refine (r_get (v := .int 0) f259_10 (gs_eq (gs_ne (gs_eq g72) (by decide))) rfl).trans ?_
          refine (r_if_ge_t f259_13 (by decide)).trans ?_
          exact r_vreturn f259_34 rfl
        refine (r_virt (as := []) (v := none) (h1 := ((((h.1.set 72 (.inr (12, (zF72.set 67 (.int 0))))).set 119 (.inl (0, 17, .inl (upd (fun _ => 0) (Int32.toNatClampNeg 0) 0)))).set 72 (.inr (12, ((((((zF72.set 67 (.int 0)).set 68 (.int 0)).set 64 (.int 0)).set 65 (.int (-1))).set 66 (.int 0)).set 65 (.int 0))))), h.2)) f260_1 (gs_eq (gs_ne (gs_eq g72) (by decide))) zg259 rfl rfl rfl rfl rfl rfl hc8).trans ?_
        refine (r_aloadn f260_4 rfl).trans ?_
        refine (r_get (v := .int 0) f260_5 (gs_eq (gs_ne (gs_eq g72) (by decide))) rfl).trans ?_
        refine (r_if_ge_t f260_8 (by decide)).trans ?_
        exact r_vreturn f260_44 rfl
      refine (r_virt (as := []) (v := none) (h1 := ((((h.1.set 72 (.inr (12, (zF72.set 67 (.int 0))))).set 119 (.inl (0, 17, .inl (upd (fun _ => 0) (Int32.toNatClampNeg 0) 0)))).set 72 (.inr (12, ((((((zF72.set 67 (.int 0)).set 68 (.int 0)).set 64 (.int 0)).set 65 (.int (-1))).set 66 (.int 0)).set 65 (.int 0))))), h.2)) f261_1 (gs_eq (gs_ne (gs_eq g72) (by decide))) zg260 rfl rfl rfl rfl rfl rfl hc7).trans ?_
      refine (r_aloadn f261_4 rfl).trans ?_
      refine (r_get (v := .int 0) f261_5 (gs_eq (gs_ne (gs_eq g72) (by decide))) rfl).trans ?_
      refine (r_if_ge_t f261_8 (by decide)).trans ?_
      exact r_vreturn f261_44 rfl
    refine (r_virt (as := []) (v := none) (h1 := ((((h.1.set 72 (.inr (12, (zF72.set 67 (.int 0))))).set 119 (.inl (0, 17, .inl (upd (fun _ => 0) (Int32.toNatClampNeg 0) 0)))).set 72 (.inr (12, ((((((zF72.set 67 (.int 0)).set 68 (.int 0)).set 64 (.int 0)).set 65 (.int (-1))).set 66 (.int 0)).set 65 (.int 0))))), h.2)) f262_24 (gs_eq (gs_ne (gs_eq g72) (by decide))) zg261 rfl rfl rfl rfl rfl rfl hc6).trans ?_
    refine (r_aloadn f262_27 rfl).trans ?_
    refine (r_get (v := .ref 120) f262_28 (gs_eq (gs_ne (gs_eq g72) (by decide))) rfl).trans ?_
    refine (r_iloadn f262_31 rfl).trans ?_
    refine (r_iloadn f262_32 rfl).trans ?_
    refine (r_iast (h' := (((((h.1.set 72 (.inr (12, (zF72.set 67 (.int 0))))).set 119 (.inl (0, 17, .inl (upd (fun _ => 0) (Int32.toNatClampNeg 0) 0)))).set 72 (.inr (12, ((((((zF72.set 67 (.int 0)).set 68 (.int 0)).set 64 (.int 0)).set 65 (.int (-1))).set 66 (.int 0)).set 65 (.int 0))))).set 120 (.inl (0, 1530, .inl (upd (fun _ => 0) (Int32.toNatClampNeg 0) 0)))), h.2)) f262_33 (gs_ne (gs_ne (gs_ne g120 (by decide)) (by decide)) (by decide)) (by decide) rfl).trans ?_
    refine (r_aloadn f262_34 rfl).trans ?_
    refine (r_get (v := .int 0) f262_35 (gs_ne (gs_eq (gs_ne (gs_eq g72) (by decide))) (by decide)) rfl).trans ?_
    refine (r_if_ge_t f262_38 (by decide)).trans ?_
    refine (r_aloadn f262_74 rfl).trans ?_
    refine (r_get (v := .ref 121) f262_75 (gs_ne (gs_eq (gs_ne (gs_eq g72) (by decide))) (by decide)) rfl).trans ?_
    refine (r_iloadn f262_78 rfl).trans ?_
    refine (r_aloadn f262_79 rfl).trans ?_
    refine (r_get (v := .int 0) f262_80 (gs_ne (gs_eq (gs_ne (gs_eq g72) (by decide))) (by decide)) rfl).trans ?_
    refine (r_iast (h' := ((((((h.1.set 72 (.inr (12, (zF72.set 67 (.int 0))))).set 119 (.inl (0, 17, .inl (upd (fun _ => 0) (Int32.toNatClampNeg 0) 0)))).set 72 (.inr (12, ((((((zF72.set 67 (.int 0)).set 68 (.int 0)).set 64 (.int 0)).set 65 (.int (-1))).set 66 (.int 0)).set 65 (.int 0))))).set 120 (.inl (0, 1530, .inl (upd (fun _ => 0) (Int32.toNatClampNeg 0) 0)))).set 121 (.inl (0, 1530, .inl (upd (fun _ => 0) (Int32.toNatClampNeg 0) 0)))), h.2)) f262_83 (gs_ne (gs_ne (gs_ne (gs_ne g121 (by decide)) (by decide)) (by decide)) (by decide)) (by decide) rfl).trans ?_
    refine (r_aloadn f262_84 rfl).trans ?_
    refine (r_get (v := .ref 119) f262_85 (gs_ne (gs_ne (gs_eq (gs_ne (gs_eq g72) (by decide))) (by decide)) (by decide)) rfl).trans ?_
    refine (r_aloadn f262_88 rfl).trans ?_
    refine (r_get (v := .int 0) f262_89 (gs_ne (gs_ne (gs_eq (gs_ne (gs_eq g72) (by decide))) (by decide)) (by decide)) rfl).trans ?_
    refine (r_dup2 f262_92 rfl).trans ?_
    refine (r_iald (v := 0) f262_93 (gs_ne (gs_ne (gs_ne (gs_eq (gs_ne g119 (by decide))) (by decide)) (by decide)) (by decide)) (by decide) rfl).trans ?_
    refine (r_iconst (v := 1) f262_94 rfl).trans ?_
    refine (r_iadd (v := 1) f262_95 (by decide)).trans ?_
    refine (r_iast (h' := (((((((h.1.set 72 (.inr (12, (zF72.set 67 (.int 0))))).set 119 (.inl (0, 17, .inl (upd (fun _ => 0) (Int32.toNatClampNeg 0) 0)))).set 72 (.inr (12, ((((((zF72.set 67 (.int 0)).set 68 (.int 0)).set 64 (.int 0)).set 65 (.int (-1))).set 66 (.int 0)).set 65 (.int 0))))).set 120 (.inl (0, 1530, .inl (upd (fun _ => 0) (Int32.toNatClampNeg 0) 0)))).set 121 (.inl (0, 1530, .inl (upd (fun _ => 0) (Int32.toNatClampNeg 0) 0)))).set 119 (.inl (0, 17, .inl (upd (upd (fun _ => 0) (Int32.toNatClampNeg 0) 0) (Int32.toNatClampNeg 0) 1)))), h.2)) f262_96 (gs_ne (gs_ne (gs_ne (gs_eq (gs_ne g119 (by decide))) (by decide)) (by decide)) (by decide)) (by decide) rfl).trans ?_
    exact r_vreturn f262_97 rfl
  refine (r_virt (as := []) (v := none) (h1 := (((((((h.1.set 72 (.inr (12, (zF72.set 67 (.int 0))))).set 119 (.inl (0, 17, .inl (upd (fun _ => 0) (Int32.toNatClampNeg 0) 0)))).set 72 (.inr (12, ((((((zF72.set 67 (.int 0)).set 68 (.int 0)).set 64 (.int 0)).set 65 (.int (-1))).set 66 (.int 0)).set 65 (.int 0))))).set 120 (.inl (0, 1530, .inl (upd (fun _ => 0) (Int32.toNatClampNeg 0) 0)))).set 121 (.inl (0, 1530, .inl (upd (fun _ => 0) (Int32.toNatClampNeg 0) 0)))).set 119 (.inl (0, 17, .inl (upd (upd (fun _ => 0) (Int32.toNatClampNeg 0) 0) (Int32.toNatClampNeg 0) 1)))), h.2)) f264_67 (gs_eq (gs_ne (gs_eq g72) (by decide))) zg262 rfl rfl rfl rfl rfl rfl hc5).trans ?_
  refine (r_aloadn f264_70 rfl).trans ?_
  refine (r_get (v := .int 0) f264_71 (gs_ne (gs_ne (gs_ne (gs_eq (gs_ne (gs_eq g72) (by decide))) (by decide)) (by decide)) (by decide)) rfl).trans ?_
  refine (r_if_ge_t f264_74 (by decide)).trans ?_
  refine (r_aloadn f264_103 rfl).trans ?_
  refine (r_get (v := .int 0) f264_104 (gs_ne (gs_ne (gs_ne (gs_eq (gs_ne (gs_eq g72) (by decide))) (by decide)) (by decide)) (by decide)) rfl).trans ?_
  refine (r_if_ge_t f264_107 (by decide)).trans ?_
  refine (r_aloadn f264_125 rfl).trans ?_
  refine (r_iconst (v := 0) f264_126 rfl).trans ?_
  refine (r_put (h' := ((((((((h.1.set 72 (.inr (12, (zF72.set 67 (.int 0))))).set 119 (.inl (0, 17, .inl (upd (fun _ => 0) (Int32.toNatClampNeg 0) 0)))).set 72 (.inr (12, ((((((zF72.set 67 (.int 0)).set 68 (.int 0)).set 64 (.int 0)).set 65 (.int (-1))).set 66 (.int 0)).set 65 (.int 0))))).set 120 (.inl (0, 1530, .inl (upd (fun _ => 0) (Int32.toNatClampNeg 0) 0)))).set 121 (.inl (0, 1530, .inl (upd (fun _ => 0) (Int32.toNatClampNeg 0) 0)))).set 119 (.inl (0, 17, .inl (upd (upd (fun _ => 0) (Int32.toNatClampNeg 0) 0) (Int32.toNatClampNeg 0) 1)))).set 72 (.inr (12, (((((((zF72.set 67 (.int 0)).set 68 (.int 0)).set 64 (.int 0)).set 65 (.int (-1))).set 66 (.int 0)).set 65 (.int 0)).set 54 (.int 0))))), h.2)) f264_127 (gs_ne (gs_ne (gs_ne (gs_eq (gs_ne (gs_eq g72) (by decide))) (by decide)) (by decide)) (by decide)) rfl rfl).trans ?_
  refine (r_aloadn f264_130 rfl).trans ?_
  refine (r_get (v := .int 0) f264_131 (gs_eq (gs_ne (gs_ne (gs_ne (gs_eq (gs_ne (gs_eq g72) (by decide))) (by decide)) (by decide)) (by decide))) rfl).trans ?_
  refine (r_if_lt_f f264_134 (by decide)).trans ?_
  refine (r_bipush (v := (-100)) f264_137 rfl).trans ?_
  refine (r_aloadn f264_139 rfl).trans ?_
  refine (r_get (v := .int 0) f264_140 (gs_eq (gs_ne (gs_ne (gs_ne (gs_eq (gs_ne (gs_eq g72) (by decide))) (by decide)) (by decide)) (by decide))) rfl).trans ?_
  refine (r_isub (v := (-100)) f264_143 (by decide)).trans ?_
  exact r_ireturn f264_144 rfl
set_option maxHeartbeats 40000000 in
theorem qc24_2 {X : aX} {n d : Nat} {h : aH} {x1 : Int32} {x2 : Int32}  (ec0 : ¬ x1 < 0) (ec1 : ¬ (x1 / 10) < 0) (ec2 : 3 < (x1 / 10)) : arun X (n + 20) (d + 4) zM168 0 [some (.ref 0), some (.int x1), some (.int x2)] [] h = some (some (.int (-1)), h) := by
  refine (r_iloadn f168_0 rfl).trans ?_
  have hc1 : arun X (n + 18) (d + 3) zM143 0 [some (.int x1)] [] h = some ((some (.int 0)), h) := by
    refine (r_iloadn f143_0 rfl).trans ?_
    refine (r_if_lt_f f143_1 ec0).trans ?_
    refine (r_iloadn f143_4 rfl).trans ?_
    refine (r_bipush (v := 10) f143_5 rfl).trans ?_
    refine (r_idiv (v := (x1 / 10)) f143_7 (by decide) rfl).trans ?_
    have hc2 : arun X (n + 12) (d + 2) zM140 0 [some (.int (x1 / 10))] [] h = some ((some (.int 0)), h) := by
      refine (r_iloadn f140_0 rfl).trans ?_
      refine (r_iconst (v := 0) f140_1 rfl).trans ?_
      refine (r_iconst (v := 3) f140_2 rfl).trans ?_
      have hc3 : arun X (n + 8) (d + 1) zM137 0 [some (.int (x1 / 10)), some (.int 0), some (.int 3)] [] h = some ((some (.int 0)), h) := by
        refine (r_iloadn f137_0 rfl).trans ?_
        refine (r_iloadn f137_1 rfl).trans ?_
        refine (r_icmp_gt_f f137_2 ec1).trans ?_
        refine (r_iloadn f137_5 rfl).trans ?_
        refine (r_iloadn f137_6 rfl).trans ?_
        refine (r_icmp_gt_t f137_7 ec2).trans ?_
        refine (r_iconst (v := 0) f137_14 rfl).trans ?_
        exact r_zreturn f137_15 rfl (by decide)
      refine (r_stat (as := [.int (x1 / 10), .int 0, .int 3]) (v := (some (.int 0))) (h1 := h) f140_3 rfl zg137 rfl rfl rfl rfl rfl rfl hc3).trans ?_
      exact r_zreturn f140_6 rfl (by decide)
    refine (r_stat (as := [.int (x1 / 10)]) (v := (some (.int 0))) (h1 := h) f143_8 rfl zg140 rfl rfl rfl rfl rfl rfl hc2).trans ?_
    refine (r_if_eq_t f143_11 (by decide)).trans ?_
    refine (r_iconst (v := 0) f143_26 rfl).trans ?_
    exact r_zreturn f143_27 rfl (by decide)
  refine (r_stat (as := [.int x1]) (v := (some (.int 0))) (h1 := h) f168_1 rfl zg143 rfl rfl rfl rfl rfl rfl hc1).trans ?_
  refine (r_if_eq_t f168_4 (by decide)).trans ?_
  refine (r_iconst (v := (-1)) f168_14 rfl).trans ?_
  exact r_ireturn f168_15 rfl
set_option maxHeartbeats 40000000 in
theorem qm24_2_0 {X : aX} {n d : Nat} {h : aH} {x1 : Int32} {x2 : Int32}  (ec0 : ¬ x1 < 0) (em0 : 33 < x1) : arun X (n + 14) (d + 3) zM264 0 [some (.ref 72), some (.int x1), some (.int x2)] [] h = some (some (.int (-1)), h) := by
  refine (r_iloadn f264_0 rfl).trans ?_
  have hc1 : arun X (n + 12) (d + 2) zM263 0 [some (.int x1)] [] h = some ((some (.int 0)), h) := by
    refine (r_iloadn f263_0 rfl).trans ?_
    refine (r_iconst (v := 0) f263_1 rfl).trans ?_
    refine (r_bipush (v := 33) f263_2 rfl).trans ?_
    have hc2 : arun X (n + 8) (d + 1) zM196 0 [some (.int x1), some (.int 0), some (.int 33)] [] h = some ((some (.int 0)), h) := by
      refine (r_iloadn f196_0 rfl).trans ?_
      refine (r_iloadn f196_1 rfl).trans ?_
      refine (r_icmp_lt_f f196_2 ec0).trans ?_
      refine (r_iloadn f196_5 rfl).trans ?_
      refine (r_iloadn f196_6 rfl).trans ?_
      refine (r_icmp_gt_t f196_7 em0).trans ?_
      refine (r_iconst (v := 0) f196_14 rfl).trans ?_
      exact r_zreturn f196_15 rfl (by decide)
    refine (r_stat (as := [.int x1, .int 0, .int 33]) (v := (some (.int 0))) (h1 := h) f263_4 rfl zg196 rfl rfl rfl rfl rfl rfl hc2).trans ?_
    refine (r_if_eq_t f263_7 (by decide)).trans ?_
    refine (r_iconst (v := 0) f263_22 rfl).trans ?_
    exact r_zreturn f263_23 rfl (by decide)
  refine (r_stat (as := [.int x1]) (v := (some (.int 0))) (h1 := h) f264_1 rfl zg263 rfl rfl rfl rfl rfl rfl hc1).trans ?_
  refine (r_if_eq_t f264_4 (by decide)).trans ?_
  refine (r_iconst (v := (-1)) f264_14 rfl).trans ?_
  exact r_ireturn f264_15 rfl
set_option maxHeartbeats 40000000 in
theorem qm24_2_1 {X : aX} {n d : Nat} {h : aH} {x1 : Int32} {x2 : Int32}  (ec0 : ¬ x1 < 0) (em0 : ¬ 33 < x1) (em1 : 3 < (x1 - x1 / 10 * 10)) : arun X (n + 15) (d + 3) zM264 0 [some (.ref 72), some (.int x1), some (.int x2)] [] h = some (some (.int (-1)), h) := by
  refine (r_iloadn f264_0 rfl).trans ?_
  have hc1 : arun X (n + 13) (d + 2) zM263 0 [some (.int x1)] [] h = some ((some (.int 0)), h) := by
    refine (r_iloadn f263_0 rfl).trans ?_
    refine (r_iconst (v := 0) f263_1 rfl).trans ?_
    refine (r_bipush (v := 33) f263_2 rfl).trans ?_
    have hc2 : arun X (n + 9) (d + 1) zM196 0 [some (.int x1), some (.int 0), some (.int 33)] [] h = some ((some (.int 1)), h) := by
      refine (r_iloadn f196_0 rfl).trans ?_
      refine (r_iloadn f196_1 rfl).trans ?_
      refine (r_icmp_lt_f f196_2 ec0).trans ?_
      refine (r_iloadn f196_5 rfl).trans ?_
      refine (r_iloadn f196_6 rfl).trans ?_
      refine (r_icmp_gt_f f196_7 em0).trans ?_
      refine (r_iconst (v := 1) f196_10 rfl).trans ?_
      refine (r_goto f196_11).trans ?_
      exact r_zreturn f196_15 rfl (by decide)
    refine (r_stat (as := [.int x1, .int 0, .int 33]) (v := (some (.int 1))) (h1 := h) f263_4 rfl zg196 rfl rfl rfl rfl rfl rfl hc2).trans ?_
    refine (r_if_eq_f f263_7 (by decide)).trans ?_
    refine (r_iloadn f263_10 rfl).trans ?_
    refine (r_bipush (v := 10) f263_11 rfl).trans ?_
    refine (r_irem (v := (x1 - x1 / 10 * 10)) f263_13 (by decide) rfl).trans ?_
    refine (r_iconst (v := 3) f263_14 rfl).trans ?_
    refine (r_icmp_gt_t f263_15 em1).trans ?_
    refine (r_iconst (v := 0) f263_22 rfl).trans ?_
    exact r_zreturn f263_23 rfl (by decide)
  refine (r_stat (as := [.int x1]) (v := (some (.int 0))) (h1 := h) f264_1 rfl zg263 rfl rfl rfl rfl rfl rfl hc1).trans ?_
  refine (r_if_eq_t f264_4 (by decide)).trans ?_
  refine (r_iconst (v := (-1)) f264_14 rfl).trans ?_
  exact r_ireturn f264_15 rfl
set_option maxHeartbeats 40000000 in
theorem qm24_2_2 {X : aX} {n d : Nat} {h : aH} {x1 : Int32} {x2 : Int32}  (ec0 : ¬ x1 < 0) (em0 : ¬ 33 < x1) (em1 : ¬ 3 < (x1 - x1 / 10 * 10)) (em2 : x2 < 0) : arun X (n + 15) (d + 3) zM264 0 [some (.ref 72), some (.int x1), some (.int x2)] [] h = some (some (.int (-1)), h) := by
  refine (r_iloadn f264_0 rfl).trans ?_
  have hc1 : arun X (n + 13) (d + 2) zM263 0 [some (.int x1)] [] h = some ((some (.int 1)), h) := by
    refine (r_iloadn f263_0 rfl).trans ?_
    refine (r_iconst (v := 0) f263_1 rfl).trans ?_
    refine (r_bipush (v := 33) f263_2 rfl).trans ?_
    have hc2 : arun X (n + 9) (d + 1) zM196 0 [some (.int x1), some (.int 0), some (.int 33)] [] h = some ((some (.int 1)), h) := by
      refine (r_iloadn f196_0 rfl).trans ?_
      refine (r_iloadn f196_1 rfl).trans ?_
      refine (r_icmp_lt_f f196_2 ec0).trans ?_
      refine (r_iloadn f196_5 rfl).trans ?_
      refine (r_iloadn f196_6 rfl).trans ?_
      refine (r_icmp_gt_f f196_7 em0).trans ?_
      refine (r_iconst (v := 1) f196_10 rfl).trans ?_
      refine (r_goto f196_11).trans ?_
      exact r_zreturn f196_15 rfl (by decide)
    refine (r_stat (as := [.int x1, .int 0, .int 33]) (v := (some (.int 1))) (h1 := h) f263_4 rfl zg196 rfl rfl rfl rfl rfl rfl hc2).trans ?_
    refine (r_if_eq_f f263_7 (by decide)).trans ?_
    refine (r_iloadn f263_10 rfl).trans ?_
    refine (r_bipush (v := 10) f263_11 rfl).trans ?_
    refine (r_irem (v := (x1 - x1 / 10 * 10)) f263_13 (by decide) rfl).trans ?_
    refine (r_iconst (v := 3) f263_14 rfl).trans ?_
    refine (r_icmp_gt_f f263_15 em1).trans ?_
    refine (r_iconst (v := 1) f263_18 rfl).trans ?_
    refine (r_goto f263_19).trans ?_
    exact r_zreturn f263_23 rfl (by decide)
  refine (r_stat (as := [.int x1]) (v := (some (.int 1))) (h1 := h) f264_1 rfl zg263 rfl rfl rfl rfl rfl rfl hc1).trans ?_
  refine (r_if_eq_f f264_4 (by decide)).trans ?_
  refine (r_iloadn f264_7 rfl).trans ?_
  have hc3 : arun X (n + 10) (d + 2) zM198 0 [some (.int x2)] [] h = some ((some (.int 0)), h) := by
    refine (r_iloadn f198_0 rfl).trans ?_
    refine (r_iconst (v := 0) f198_1 rfl).trans ?_
    refine (r_bipush (v := 9) f198_2 rfl).trans ?_
    have hc4 : arun X (n + 6) (d + 1) zM196 0 [some (.int x2), some (.int 0), some (.int 9)] [] h = some ((some (.int 0)), h) := by
      refine (r_iloadn f196_0 rfl).trans ?_
      refine (r_iloadn f196_1 rfl).trans ?_
      refine (r_icmp_lt_t f196_2 em2).trans ?_
      refine (r_iconst (v := 0) f196_14 rfl).trans ?_
      exact r_zreturn f196_15 rfl (by decide)
    refine (r_stat (as := [.int x2, .int 0, .int 9]) (v := (some (.int 0))) (h1 := h) f198_4 rfl zg196 rfl rfl rfl rfl rfl rfl hc4).trans ?_
    exact r_zreturn f198_7 rfl (by decide)
  refine (r_stat (as := [.int x2]) (v := (some (.int 0))) (h1 := h) f264_8 rfl zg198 rfl rfl rfl rfl rfl rfl hc3).trans ?_
  refine (r_if_ne_f f264_11 (by decide)).trans ?_
  refine (r_iconst (v := (-1)) f264_14 rfl).trans ?_
  exact r_ireturn f264_15 rfl
set_option maxHeartbeats 40000000 in
theorem qm24_2_3 {X : aX} {n d : Nat} {h : aH} {x1 : Int32} {x2 : Int32}  (ec0 : ¬ x1 < 0) (em0 : ¬ 33 < x1) (em1 : ¬ 3 < (x1 - x1 / 10 * 10)) (em2 : ¬ x2 < 0) (em3 : 9 < x2) : arun X (n + 17) (d + 3) zM264 0 [some (.ref 72), some (.int x1), some (.int x2)] [] h = some (some (.int (-1)), h) := by
  refine (r_iloadn f264_0 rfl).trans ?_
  have hc1 : arun X (n + 15) (d + 2) zM263 0 [some (.int x1)] [] h = some ((some (.int 1)), h) := by
    refine (r_iloadn f263_0 rfl).trans ?_
    refine (r_iconst (v := 0) f263_1 rfl).trans ?_
    refine (r_bipush (v := 33) f263_2 rfl).trans ?_
    have hc2 : arun X (n + 11) (d + 1) zM196 0 [some (.int x1), some (.int 0), some (.int 33)] [] h = some ((some (.int 1)), h) := by
      refine (r_iloadn f196_0 rfl).trans ?_
      refine (r_iloadn f196_1 rfl).trans ?_
      refine (r_icmp_lt_f f196_2 ec0).trans ?_
      refine (r_iloadn f196_5 rfl).trans ?_
      refine (r_iloadn f196_6 rfl).trans ?_
      refine (r_icmp_gt_f f196_7 em0).trans ?_
      refine (r_iconst (v := 1) f196_10 rfl).trans ?_
      refine (r_goto f196_11).trans ?_
      exact r_zreturn f196_15 rfl (by decide)
    refine (r_stat (as := [.int x1, .int 0, .int 33]) (v := (some (.int 1))) (h1 := h) f263_4 rfl zg196 rfl rfl rfl rfl rfl rfl hc2).trans ?_
    refine (r_if_eq_f f263_7 (by decide)).trans ?_
    refine (r_iloadn f263_10 rfl).trans ?_
    refine (r_bipush (v := 10) f263_11 rfl).trans ?_
    refine (r_irem (v := (x1 - x1 / 10 * 10)) f263_13 (by decide) rfl).trans ?_
    refine (r_iconst (v := 3) f263_14 rfl).trans ?_
    refine (r_icmp_gt_f f263_15 em1).trans ?_
    refine (r_iconst (v := 1) f263_18 rfl).trans ?_
    refine (r_goto f263_19).trans ?_
    exact r_zreturn f263_23 rfl (by decide)
  refine (r_stat (as := [.int x1]) (v := (some (.int 1))) (h1 := h) f264_1 rfl zg263 rfl rfl rfl rfl rfl rfl hc1).trans ?_
  refine (r_if_eq_f f264_4 (by decide)).trans ?_
  refine (r_iloadn f264_7 rfl).trans ?_
  have hc3 : arun X (n + 12) (d + 2) zM198 0 [some (.int x2)] [] h = some ((some (.int 0)), h) := by
    refine (r_iloadn f198_0 rfl).trans ?_
    refine (r_iconst (v := 0) f198_1 rfl).trans ?_
    refine (r_bipush (v := 9) f198_2 rfl).trans ?_
    have hc4 : arun X (n + 8) (d + 1) zM196 0 [some (.int x2), some (.int 0), some (.int 9)] [] h = some ((some (.int 0)), h) := by
      refine (r_iloadn f196_0 rfl).trans ?_
      refine (r_iloadn f196_1 rfl).trans ?_
      refine (r_icmp_lt_f f196_2 em2).trans ?_
      refine (r_iloadn f196_5 rfl).trans ?_
      refine (r_iloadn f196_6 rfl).trans ?_
      refine (r_icmp_gt_t f196_7 em3).trans ?_
      refine (r_iconst (v := 0) f196_14 rfl).trans ?_
      exact r_zreturn f196_15 rfl (by decide)
    refine (r_stat (as := [.int x2, .int 0, .int 9]) (v := (some (.int 0))) (h1 := h) f198_4 rfl zg196 rfl rfl rfl rfl rfl rfl hc4).trans ?_
    exact r_zreturn f198_7 rfl (by decide)
  refine (r_stat (as := [.int x2]) (v := (some (.int 0))) (h1 := h) f264_8 rfl zg198 rfl rfl rfl rfl rfl rfl hc3).trans ?_
  refine (r_if_ne_f f264_11 (by decide)).trans ?_
  refine (r_iconst (v := (-1)) f264_14 rfl).trans ?_
  exact r_ireturn f264_15 rfl
set_option maxHeartbeats 40000000 in
theorem qm24_2_4 {X : aX} {n d : Nat} {h : aH} {x1 : Int32} {x2 : Int32}  (g72 : h.1[72]? = some (.inr (12, zF72))) (g119 : h.1[119]? = some (.inl (0, 17, .inl (fun _ => 0)))) (g120 : h.1[120]? = some (.inl (0, 1530, .inl (fun _ => 0)))) (g121 : h.1[121]? = some (.inl (0, 1530, .inl (fun _ => 0)))) (ec0 : ¬ x1 < 0) (em0 : ¬ 33 < x1) (em1 : ¬ 3 < (x1 - x1 / 10 * 10)) (em2 : ¬ x2 < 0) (em3 : ¬ 9 < x2) : arun X (n + 100) (d + 9) zM264 0 [some (.ref 72), some (.int x1), some (.int x2)] [] h = some (some (.int (-100)), ((((((((h.1.set 72 (.inr (12, (zF72.set 67 (.int 0))))).set 119 (.inl (0, 17, .inl (upd (fun _ => 0) (Int32.toNatClampNeg 0) 0)))).set 72 (.inr (12, ((((((zF72.set 67 (.int 0)).set 68 (.int 0)).set 64 (.int 0)).set 65 (.int (-1))).set 66 (.int 0)).set 65 (.int 0))))).set 120 (.inl (0, 1530, .inl (upd (fun _ => 0) (Int32.toNatClampNeg 0) 0)))).set 121 (.inl (0, 1530, .inl (upd (fun _ => 0) (Int32.toNatClampNeg 0) 0)))).set 119 (.inl (0, 17, .inl (upd (upd (fun _ => 0) (Int32.toNatClampNeg 0) 0) (Int32.toNatClampNeg 0) 1)))).set 72 (.inr (12, (((((((zF72.set 67 (.int 0)).set 68 (.int 0)).set 64 (.int 0)).set 65 (.int (-1))).set 66 (.int 0)).set 65 (.int 0)).set 54 (.int 0))))), h.2)) := by
  refine (r_iloadn f264_0 rfl).trans ?_
  have hc1 : arun X (n + 98) (d + 8) zM263 0 [some (.int x1)] [] h = some ((some (.int 1)), h) := by
    refine (r_iloadn f263_0 rfl).trans ?_
    refine (r_iconst (v := 0) f263_1 rfl).trans ?_
    refine (r_bipush (v := 33) f263_2 rfl).trans ?_
    have hc2 : arun X (n + 94) (d + 7) zM196 0 [some (.int x1), some (.int 0), some (.int 33)] [] h = some ((some (.int 1)), h) := by
      refine (r_iloadn f196_0 rfl).trans ?_
      refine (r_iloadn f196_1 rfl).trans ?_
      refine (r_icmp_lt_f f196_2 ec0).trans ?_
      refine (r_iloadn f196_5 rfl).trans ?_
      refine (r_iloadn f196_6 rfl).trans ?_
      refine (r_icmp_gt_f f196_7 em0).trans ?_
      refine (r_iconst (v := 1) f196_10 rfl).trans ?_
      refine (r_goto f196_11).trans ?_
      exact r_zreturn f196_15 rfl (by decide)
    refine (r_stat (as := [.int x1, .int 0, .int 33]) (v := (some (.int 1))) (h1 := h) f263_4 rfl zg196 rfl rfl rfl rfl rfl rfl hc2).trans ?_
    refine (r_if_eq_f f263_7 (by decide)).trans ?_
    refine (r_iloadn f263_10 rfl).trans ?_
    refine (r_bipush (v := 10) f263_11 rfl).trans ?_
    refine (r_irem (v := (x1 - x1 / 10 * 10)) f263_13 (by decide) rfl).trans ?_
    refine (r_iconst (v := 3) f263_14 rfl).trans ?_
    refine (r_icmp_gt_f f263_15 em1).trans ?_
    refine (r_iconst (v := 1) f263_18 rfl).trans ?_
    refine (r_goto f263_19).trans ?_
    exact r_zreturn f263_23 rfl (by decide)
  refine (r_stat (as := [.int x1]) (v := (some (.int 1))) (h1 := h) f264_1 rfl zg263 rfl rfl rfl rfl rfl rfl hc1).trans ?_
  refine (r_if_eq_f f264_4 (by decide)).trans ?_
  refine (r_iloadn f264_7 rfl).trans ?_
  have hc3 : arun X (n + 95) (d + 8) zM198 0 [some (.int x2)] [] h = some ((some (.int 1)), h) := by
    refine (r_iloadn f198_0 rfl).trans ?_
    refine (r_iconst (v := 0) f198_1 rfl).trans ?_
    refine (r_bipush (v := 9) f198_2 rfl).trans ?_
    have hc4 : arun X (n + 91) (d + 7) zM196 0 [some (.int x2), some (.int 0), some (.int 9)] [] h = some ((some (.int 1)), h) := by
      refine (r_iloadn f196_0 rfl).trans ?_
      refine (r_iloadn f196_1 rfl).trans ?_
      refine (r_icmp_lt_f f196_2 em2).trans ?_
      refine (r_iloadn f196_5 rfl).trans ?_
      refine (r_iloadn f196_6 rfl).trans ?_
      refine (r_icmp_gt_f f196_7 em3).trans ?_
      refine (r_iconst (v := 1) f196_10 rfl).trans ?_
      refine (r_goto f196_11).trans ?_
      exact r_zreturn f196_15 rfl (by decide)
    refine (r_stat (as := [.int x2, .int 0, .int 9]) (v := (some (.int 1))) (h1 := h) f198_4 rfl zg196 rfl rfl rfl rfl rfl rfl hc4).trans ?_
    exact r_zreturn f198_7 rfl (by decide)
  refine (r_stat (as := [.int x2]) (v := (some (.int 1))) (h1 := h) f264_8 rfl zg198 rfl rfl rfl rfl rfl rfl hc3).trans ?_
  refine (r_if_ne_t f264_11 (by decide)).trans ?_
  refine (r_aloadn f264_16 rfl).trans ?_
  refine (r_get (v := .int 0) f264_17 g72 rfl).trans ?_
  refine (r_bipush (v := 16) f264_20 rfl).trans ?_
  refine (r_icmp_ne_t f264_22 (by decide)).trans ?_
  refine (r_aloadn f264_28 rfl).trans ?_
  refine (r_aloadn f264_29 rfl).trans ?_
  refine (r_get (v := .int 0) f264_30 g72 rfl).trans ?_
  refine (r_put (h' := ((h.1.set 72 (.inr (12, (zF72.set 67 (.int 0))))), h.2)) f264_33 g72 rfl rfl).trans ?_
  refine (r_aloadn f264_36 rfl).trans ?_
  refine (r_get (v := .ref 119) f264_37 (gs_eq g72) rfl).trans ?_
  refine (r_aloadn f264_40 rfl).trans ?_
  refine (r_get (v := .int 0) f264_41 (gs_eq g72) rfl).trans ?_
  refine (r_iconst (v := 0) f264_44 rfl).trans ?_
  refine (r_iast (h' := (((h.1.set 72 (.inr (12, (zF72.set 67 (.int 0))))).set 119 (.inl (0, 17, .inl (upd (fun _ => 0) (Int32.toNatClampNeg 0) 0)))), h.2)) f264_45 (gs_ne g119 (by decide)) (by decide) rfl).trans ?_
  refine (r_aloadn f264_46 rfl).trans ?_
  refine (r_iconst (v := 0) f264_47 rfl).trans ?_
  refine (r_put (h' := ((((h.1.set 72 (.inr (12, (zF72.set 67 (.int 0))))).set 119 (.inl (0, 17, .inl (upd (fun _ => 0) (Int32.toNatClampNeg 0) 0)))).set 72 (.inr (12, ((zF72.set 67 (.int 0)).set 68 (.int 0))))), h.2)) f264_48 (gs_ne (gs_eq g72) (by decide)) rfl rfl).trans ?_
  refine (r_aloadn f264_51 rfl).trans ?_
  refine (r_iconst (v := 0) f264_52 rfl).trans ?_
  refine (r_put (h' := ((((h.1.set 72 (.inr (12, (zF72.set 67 (.int 0))))).set 119 (.inl (0, 17, .inl (upd (fun _ => 0) (Int32.toNatClampNeg 0) 0)))).set 72 (.inr (12, (((zF72.set 67 (.int 0)).set 68 (.int 0)).set 64 (.int 0))))), h.2)) f264_53 (gs_eq (gs_ne (gs_eq g72) (by decide))) rfl hss).trans ?_
  refine (r_aloadn f264_56 rfl).trans ?_
  refine (r_iconst (v := (-1)) f264_57 rfl).trans ?_
  refine (r_put (h' := ((((h.1.set 72 (.inr (12, (zF72.set 67 (.int 0))))).set 119 (.inl (0, 17, .inl (upd (fun _ => 0) (Int32.toNatClampNeg 0) 0)))).set 72 (.inr (12, ((((zF72.set 67 (.int 0)).set 68 (.int 0)).set 64 (.int 0)).set 65 (.int (-1)))))), h.2)) f264_58 (gs_eq (gs_ne (gs_eq g72) (by decide))) rfl hss).trans ?_
  refine (r_aloadn f264_61 rfl).trans ?_
  refine (r_iconst (v := 0) f264_62 rfl).trans ?_
  refine (r_put (h' := ((((h.1.set 72 (.inr (12, (zF72.set 67 (.int 0))))).set 119 (.inl (0, 17, .inl (upd (fun _ => 0) (Int32.toNatClampNeg 0) 0)))).set 72 (.inr (12, (((((zF72.set 67 (.int 0)).set 68 (.int 0)).set 64 (.int 0)).set 65 (.int (-1))).set 66 (.int 0))))), h.2)) f264_63 (gs_eq (gs_ne (gs_eq g72) (by decide))) rfl hss).trans ?_
  refine (r_aloadn f264_66 rfl).trans ?_
  have hc5 : arun X (n + 66) (d + 8) zM262 0 [some (.ref 72), none, none] [] ((((h.1.set 72 (.inr (12, (zF72.set 67 (.int 0))))).set 119 (.inl (0, 17, .inl (upd (fun _ => 0) (Int32.toNatClampNeg 0) 0)))).set 72 (.inr (12, (((((zF72.set 67 (.int 0)).set 68 (.int 0)).set 64 (.int 0)).set 65 (.int (-1))).set 66 (.int 0))))), h.2) = some (none, (((((((h.1.set 72 (.inr (12, (zF72.set 67 (.int 0))))).set 119 (.inl (0, 17, .inl (upd (fun _ => 0) (Int32.toNatClampNeg 0) 0)))).set 72 (.inr (12, ((((((zF72.set 67 (.int 0)).set 68 (.int 0)).set 64 (.int 0)).set 65 (.int (-1))).set 66 (.int 0)).set 65 (.int 0))))).set 120 (.inl (0, 1530, .inl (upd (fun _ => 0) (Int32.toNatClampNeg 0) 0)))).set 121 (.inl (0, 1530, .inl (upd (fun _ => 0) (Int32.toNatClampNeg 0) 0)))).set 119 (.inl (0, 17, .inl (upd (upd (fun _ => 0) (Int32.toNatClampNeg 0) 0) (Int32.toNatClampNeg 0) 1)))), h.2)) := by
    refine (r_bipush (v := 90) f262_0 rfl).trans ?_
    refine (r_aloadn f262_2 rfl).trans ?_
    refine (r_get (v := .int 0) f262_3 (gs_eq (gs_ne (gs_eq g72) (by decide))) rfl).trans ?_
    refine (r_imul (v := 0) f262_6 (by decide)).trans ?_
    refine (r_aloadn f262_7 rfl).trans ?_
    refine (r_get (v := .ref 119) f262_8 (gs_eq (gs_ne (gs_eq g72) (by decide))) rfl).trans ?_
    refine (r_aloadn f262_11 rfl).trans ?_
    refine (r_get (v := .int 0) f262_12 (gs_eq (gs_ne (gs_eq g72) (by decide))) rfl).trans ?_
    refine (r_iald (v := 0) f262_15 (gs_ne (gs_eq (gs_ne g119 (by decide))) (by decide)) (by decide) rfl).trans ?_
    refine (r_iadd (v := 0) f262_16 (by decide)).trans ?_
    refine (r_istoren (L' := [some (.ref 72), some (.int 0), none]) f262_17 rfl rfl).trans ?_
    refine (r_aloadn f262_18 rfl).trans ?_
    refine (r_get (v := .int 0) f262_19 (gs_eq (gs_ne (gs_eq g72) (by decide))) rfl).trans ?_
    refine (r_istoren (L' := [some (.ref 72), some (.int 0), some (.int 0)]) f262_22 rfl rfl).trans ?_
    refine (r_aloadn f262_23 rfl).trans ?_
    have hc6 : arun X (n + 50) (d + 7) zM261 0 [some (.ref 72)] [] ((((h.1.set 72 (.inr (12, (zF72.set 67 (.int 0))))).set 119 (.inl (0, 17, .inl (upd (fun _ => 0) (Int32.toNatClampNeg 0) 0)))).set 72 (.inr (12, (((((zF72.set 67 (.int 0)).set 68 (.int 0)).set 64 (.int 0)).set 65 (.int (-1))).set 66 (.int 0))))), h.2) = some (none, ((((h.1.set 72 (.inr (12, (zF72.set 67 (.int 0))))).set 119 (.inl (0, 17, .inl (upd (fun _ => 0) (Int32.toNatClampNeg 0) 0)))).set 72 (.inr (12, ((((((zF72.set 67 (.int 0)).set 68 (.int 0)).set 64 (.int 0)).set 65 (.int (-1))).set 66 (.int 0)).set 65 (.int 0))))), h.2)) := by
      refine (r_aloadn f261_0 rfl).trans ?_
      have hc7 : arun X (n + 48) (d + 6) zM260 0 [some (.ref 72)] [] ((((h.1.set 72 (.inr (12, (zF72.set 67 (.int 0))))).set 119 (.inl (0, 17, .inl (upd (fun _ => 0) (Int32.toNatClampNeg 0) 0)))).set 72 (.inr (12, (((((zF72.set 67 (.int 0)).set 68 (.int 0)).set 64 (.int 0)).set 65 (.int (-1))).set 66 (.int 0))))), h.2) = some (none, ((((h.1.set 72 (.inr (12, (zF72.set 67 (.int 0))))).set 119 (.inl (0, 17, .inl (upd (fun _ => 0) (Int32.toNatClampNeg 0) 0)))).set 72 (.inr (12, ((((((zF72.set 67 (.int 0)).set 68 (.int 0)).set 64 (.int 0)).set 65 (.int (-1))).set 66 (.int 0)).set 65 (.int 0))))), h.2)) := by
        refine (r_aloadn f260_0 rfl).trans ?_
        have hc8 : arun X (n + 46) (d + 5) zM259 0 [some (.ref 72), none] [] ((((h.1.set 72 (.inr (12, (zF72.set 67 (.int 0))))).set 119 (.inl (0, 17, .inl (upd (fun _ => 0) (Int32.toNatClampNeg 0) 0)))).set 72 (.inr (12, (((((zF72.set 67 (.int 0)).set 68 (.int 0)).set 64 (.int 0)).set 65 (.int (-1))).set 66 (.int 0))))), h.2) = some (none, ((((h.1.set 72 (.inr (12, (zF72.set 67 (.int 0))))).set 119 (.inl (0, 17, .inl (upd (fun _ => 0) (Int32.toNatClampNeg 0) 0)))).set 72 (.inr (12, ((((((zF72.set 67 (.int 0)).set 68 (.int 0)).set 64 (.int 0)).set 65 (.int (-1))).set 66 (.int 0)).set 65 (.int 0))))), h.2)) := by
          refine (r_aloadn f259_0 rfl).trans ?_
          have hc9 : arun X (n + 44) (d + 4) zM258 0 [some (.ref 72), none] [] ((((h.1.set 72 (.inr (12, (zF72.set 67 (.int 0))))).set 119 (.inl (0, 17, .inl (upd (fun _ => 0) (Int32.toNatClampNeg 0) 0)))).set 72 (.inr (12, (((((zF72.set 67 (.int 0)).set 68 (.int 0)).set 64 (.int 0)).set 65 (.int (-1))).set 66 (.int 0))))), h.2) = some (none, ((((h.1.set 72 (.inr (12, (zF72.set 67 (.int 0))))).set 119 (.inl (0, 17, .inl (upd (fun _ => 0) (Int32.toNatClampNeg 0) 0)))).set 72 (.inr (12, ((((((zF72.set 67 (.int 0)).set 68 (.int 0)).set 64 (.int 0)).set 65 (.int (-1))).set 66 (.int 0)).set 65 (.int 0))))), h.2)) := by
            refine (r_aloadn f258_0 rfl).trans ?_
            have hc10 : arun X (n + 42) (d + 3) zM257 0 [some (.ref 72), none] [] ((((h.1.set 72 (.inr (12, (zF72.set 67 (.int 0))))).set 119 (.inl (0, 17, .inl (upd (fun _ => 0) (Int32.toNatClampNeg 0) 0)))).set 72 (.inr (12, (((((zF72.set 67 (.int 0)).set 68 (.int 0)).set 64 (.int 0)).set 65 (.int (-1))).set 66 (.int 0))))), h.2) = some (none, ((((h.1.set 72 (.inr (12, (zF72.set 67 (.int 0))))).set 119 (.inl (0, 17, .inl (upd (fun _ => 0) (Int32.toNatClampNeg 0) 0)))).set 72 (.inr (12, ((((((zF72.set 67 (.int 0)).set 68 (.int 0)).set 64 (.int 0)).set 65 (.int (-1))).set 66 (.int 0)).set 65 (.int 0))))), h.2)) := by
              refine (r_aloadn f257_0 rfl).trans ?_
              have hc11 : arun X (n + 40) (d + 2) zM256 0 [some (.ref 72), none, none, none] [] ((((h.1.set 72 (.inr (12, (zF72.set 67 (.int 0))))).set 119 (.inl (0, 17, .inl (upd (fun _ => 0) (Int32.toNatClampNeg 0) 0)))).set 72 (.inr (12, (((((zF72.set 67 (.int 0)).set 68 (.int 0)).set 64 (.int 0)).set 65 (.int (-1))).set 66 (.int 0))))), h.2) = some (none, ((((h.1.set 72 (.inr (12, (zF72.set 67 (.int 0))))).set 119 (.inl (0, 17, .inl (upd (fun _ => 0) (Int32.toNatClampNeg 0) 0)))).set 72 (.inr (12, ((((((zF72.set 67 (.int 0)).set 68 (.int 0)).set 64 (.int 0)).set 65 (.int (-1))).set 66 (.int 0)).set 65 (.int 0))))), h.2)) := by
                refine (r_aloadn f256_0 rfl).trans ?_
                have hc12 : arun X (n + 38) (d + 1) zM251 0 [some (.ref 72)] [] ((((h.1.set 72 (.inr (12, (zF72.set 67 (.int 0))))).set 119 (.inl (0, 17, .inl (upd (fun _ => 0) (Int32.toNatClampNeg 0) 0)))).set 72 (.inr (12, (((((zF72.set 67 (.int 0)).set 68 (.int 0)).set 64 (.int 0)).set 65 (.int (-1))).set 66 (.int 0))))), h.2) = some ((some (.int (-1))), ((((h.1.set 72 (.inr (12, (zF72.set 67 (.int 0))))).set 119 (.inl (0, 17, .inl (upd (fun _ => 0) (Int32.toNatClampNeg 0) 0)))).set 72 (.inr (12, (((((zF72.set 67 (.int 0)).set 68 (.int 0)).set 64 (.int 0)).set 65 (.int (-1))).set 66 (.int 0))))), h.2)) := by
                  refine (r_aloadn f251_0 rfl).trans ?_
                  refine (r_get (v := .int 0) f251_1 (gs_eq (gs_ne (gs_eq g72) (by decide))) rfl).trans ?_
                  refine (r_aloadn f251_4 rfl).trans ?_
                  refine (r_get (v := .int 0) f251_5 (gs_eq (gs_ne (gs_eq g72) (by decide))) rfl).trans ?_
                  refine (r_icmp_ge_t f251_8 (by decide)).trans ?_
                  refine (r_iconst (v := (-1)) f251_23 rfl).trans ?_
                  exact r_ireturn f251_24 rfl
                refine (r_virt (as := []) (v := (some (.int (-1)))) (h1 := ((((h.1.set 72 (.inr (12, (zF72.set 67 (.int 0))))).set 119 (.inl (0, 17, .inl (upd (fun _ => 0) (Int32.toNatClampNeg 0) 0)))).set 72 (.inr (12, (((((zF72.set 67 (.int 0)).set 68 (.int 0)).set 64 (.int 0)).set 65 (.int (-1))).set 66 (.int 0))))), h.2)) f256_1 (gs_eq (gs_ne (gs_eq g72) (by decide))) zg251 rfl rfl rfl rfl rfl rfl hc12).trans ?_
                refine (r_istoren (L' := [some (.ref 72), some (.int (-1)), none, none]) f256_4 rfl rfl).trans ?_
                refine (r_iloadn f256_5 rfl).trans ?_
                have hc13 : arun X (n + 35) (d + 1) zM255 0 [some (.int (-1))] [] ((((h.1.set 72 (.inr (12, (zF72.set 67 (.int 0))))).set 119 (.inl (0, 17, .inl (upd (fun _ => 0) (Int32.toNatClampNeg 0) 0)))).set 72 (.inr (12, (((((zF72.set 67 (.int 0)).set 68 (.int 0)).set 64 (.int 0)).set 65 (.int (-1))).set 66 (.int 0))))), h.2) = some ((some (.int (-1))), ((((h.1.set 72 (.inr (12, (zF72.set 67 (.int 0))))).set 119 (.inl (0, 17, .inl (upd (fun _ => 0) (Int32.toNatClampNeg 0) 0)))).set 72 (.inr (12, (((((zF72.set 67 (.int 0)).set 68 (.int 0)).set 64 (.int 0)).set 65 (.int (-1))).set 66 (.int 0))))), h.2)) := by
                  refine (r_iloadn f255_0 rfl).trans ?_
                  refine (r_tsw f255_1).trans ?_
                  refine (asw_f (by decide)).trans ?_
                  refine (asw_f (by decide)).trans ?_
                  refine (asw_f (by decide)).trans ?_
                  refine (asw_f (by decide)).trans ?_
                  refine (asw_f (by decide)).trans ?_
                  refine (asw_f (by decide)).trans ?_
                  refine (asw_f (by decide)).trans ?_
                  refine (asw_f (by decide)).trans ?_
                  refine (asw_f (by decide)).trans ?_
                  refine (asw_f (by decide)).trans ?_
                  refine (asw_f (by decide)).trans ?_
                  refine (asw_f (by decide)).trans ?_
                  refine (asw_f (by decide)).trans ?_
                  refine (asw_f (by decide)).trans ?_
                  refine (asw_f (by decide)).trans ?_
                  refine (asw_f (by decide)).trans ?_
                  refine (asw_f (by decide)).trans ?_
                  refine (asw_f (by decide)).trans ?_
                  refine (asw_f (by decide)).trans ?_
                  refine (asw_f (by decide)).trans ?_
                  refine (asw_f (by decide)).trans ?_
                  refine (asw_f (by decide)).trans ?_
                  refine (asw_f (by decide)).trans ?_
                  refine (asw_f (by decide)).trans ?_
                  refine (asw_d).trans ?_
                  refine (r_iconst (v := (-1)) f255_145 rfl).trans ?_
                  exact r_ireturn f255_146 rfl
                refine (r_stat (as := [.int (-1)]) (v := (some (.int (-1)))) (h1 := ((((h.1.set 72 (.inr (12, (zF72.set 67 (.int 0))))).set 119 (.inl (0, 17, .inl (upd (fun _ => 0) (Int32.toNatClampNeg 0) 0)))).set 72 (.inr (12, (((((zF72.set 67 (.int 0)).set 68 (.int 0)).set 64 (.int 0)).set 65 (.int (-1))).set 66 (.int 0))))), h.2)) f256_6 rfl zg255 rfl rfl rfl rfl rfl rfl hc13).trans ?_
                refine (r_if_lt_t f256_9 (by decide)).trans ?_
                refine (r_iloadn f256_32 rfl).trans ?_
                refine (r_bipush (v := 33) f256_33 rfl).trans ?_
                refine (r_icmp_eq_f f256_35 (by decide)).trans ?_
                refine (r_iloadn f256_38 rfl).trans ?_
                refine (r_bipush (v := 45) f256_39 rfl).trans ?_
                refine (r_icmp_ne_t f256_41 (by decide)).trans ?_
                refine (r_iloadn f256_83 rfl).trans ?_
                refine (r_bipush (v := 40) f256_84 rfl).trans ?_
                refine (r_icmp_ne_t f256_86 (by decide)).trans ?_
                refine (r_iconst (v := 0) f256_144 rfl).trans ?_
                refine (r_istoren (L' := [some (.ref 72), some (.int (-1)), some (.int 0), none]) f256_145 rfl rfl).trans ?_
                refine (r_iconst (v := 0) f256_146 rfl).trans ?_
                refine (r_istoren (L' := [some (.ref 72), some (.int (-1)), some (.int 0), some (.int 0)]) f256_147 rfl rfl).trans ?_
                refine (r_iloadn f256_148 rfl).trans ?_
                refine (r_bipush (v := 6) f256_149 rfl).trans ?_
                refine (r_icmp_ge_f f256_151 (by decide)).trans ?_
                refine (r_aloadn f256_154 rfl).trans ?_
                have hc14 : arun X (n + 16) (d + 1) zM251 0 [some (.ref 72)] [] ((((h.1.set 72 (.inr (12, (zF72.set 67 (.int 0))))).set 119 (.inl (0, 17, .inl (upd (fun _ => 0) (Int32.toNatClampNeg 0) 0)))).set 72 (.inr (12, (((((zF72.set 67 (.int 0)).set 68 (.int 0)).set 64 (.int 0)).set 65 (.int (-1))).set 66 (.int 0))))), h.2) = some ((some (.int (-1))), ((((h.1.set 72 (.inr (12, (zF72.set 67 (.int 0))))).set 119 (.inl (0, 17, .inl (upd (fun _ => 0) (Int32.toNatClampNeg 0) 0)))).set 72 (.inr (12, (((((zF72.set 67 (.int 0)).set 68 (.int 0)).set 64 (.int 0)).set 65 (.int (-1))).set 66 (.int 0))))), h.2)) := by
                  refine (r_aloadn f251_0 rfl).trans ?_
                  refine (r_get (v := .int 0) f251_1 (gs_eq (gs_ne (gs_eq g72) (by decide))) rfl).trans ?_
                  refine (r_aloadn f251_4 rfl).trans ?_
                  refine (r_get (v := .int 0) f251_5 (gs_eq (gs_ne (gs_eq g72) (by decide))) rfl).trans ?_
                  refine (r_icmp_ge_t f251_8 (by decide)).trans ?_
                  refine (r_iconst (v := (-1)) f251_23 rfl).trans ?_
                  exact r_ireturn f251_24 rfl
                refine (r_virt (as := []) (v := (some (.int (-1)))) (h1 := ((((h.1.set 72 (.inr (12, (zF72.set 67 (.int 0))))).set 119 (.inl (0, 17, .inl (upd (fun _ => 0) (Int32.toNatClampNeg 0) 0)))).set 72 (.inr (12, (((((zF72.set 67 (.int 0)).set 68 (.int 0)).set 64 (.int 0)).set 65 (.int (-1))).set 66 (.int 0))))), h.2)) f256_155 (gs_eq (gs_ne (gs_eq g72) (by decide))) zg251 rfl rfl rfl rfl rfl rfl hc14).trans ?_
                refine (r_bipush (v := 48) f256_158 rfl).trans ?_
                refine (r_bipush (v := 57) f256_160 rfl).trans ?_
                have hc15 : arun X (n + 13) (d + 1) zM196 0 [some (.int (-1)), some (.int 48), some (.int 57)] [] ((((h.1.set 72 (.inr (12, (zF72.set 67 (.int 0))))).set 119 (.inl (0, 17, .inl (upd (fun _ => 0) (Int32.toNatClampNeg 0) 0)))).set 72 (.inr (12, (((((zF72.set 67 (.int 0)).set 68 (.int 0)).set 64 (.int 0)).set 65 (.int (-1))).set 66 (.int 0))))), h.2) = some ((some (.int 0)), ((((h.1.set 72 (.inr (12, (zF72.set 67 (.int 0))))).set 119 (.inl (0, 17, .inl (upd (fun _ => 0) (Int32.toNatClampNeg 0) 0)))).set 72 (.inr (12, (((((zF72.set 67 (.int 0)).set 68 (.int 0)).set 64 (.int 0)).set 65 (.int (-1))).set 66 (.int 0))))), h.2)) := by
                  refine (r_iloadn f196_0 rfl).trans ?_
                  refine (r_iloadn f196_1 rfl).trans ?_
                  refine (r_icmp_lt_t f196_2 (by decide)).trans ?_
                  refine (r_iconst (v := 0) f196_14 rfl).trans ?_
                  exact r_zreturn f196_15 rfl (by decide)
                refine (r_stat (as := [.int (-1), .int 48, .int 57]) (v := (some (.int 0))) (h1 := ((((h.1.set 72 (.inr (12, (zF72.set 67 (.int 0))))).set 119 (.inl (0, 17, .inl (upd (fun _ => 0) (Int32.toNatClampNeg 0) 0)))).set 72 (.inr (12, (((((zF72.set 67 (.int 0)).set 68 (.int 0)).set 64 (.int 0)).set 65 (.int (-1))).set 66 (.int 0))))), h.2)) f256_162 rfl zg196 rfl rfl rfl rfl rfl rfl hc15).trans ?_
                refine (r_if_eq_t f256_165 (by decide)).trans ?_
                refine (r_iloadn f256_197 rfl).trans ?_
                refine (r_if_eq_t f256_198 (by decide)).trans ?_
                refine (r_aloadn f256_215 rfl).trans ?_
                have hc16 : arun X (n + 8) (d + 1) zM252 0 [some (.ref 72)] [] ((((h.1.set 72 (.inr (12, (zF72.set 67 (.int 0))))).set 119 (.inl (0, 17, .inl (upd (fun _ => 0) (Int32.toNatClampNeg 0) 0)))).set 72 (.inr (12, (((((zF72.set 67 (.int 0)).set 68 (.int 0)).set 64 (.int 0)).set 65 (.int (-1))).set 66 (.int 0))))), h.2) = some (none, ((((h.1.set 72 (.inr (12, (zF72.set 67 (.int 0))))).set 119 (.inl (0, 17, .inl (upd (fun _ => 0) (Int32.toNatClampNeg 0) 0)))).set 72 (.inr (12, ((((((zF72.set 67 (.int 0)).set 68 (.int 0)).set 64 (.int 0)).set 65 (.int (-1))).set 66 (.int 0)).set 65 (.int 0))))), h.2)) := by
                  refine (r_aloadn f252_0 rfl).trans ?_
                  refine (r_get (v := .int (-1)) f252_1 (gs_eq (gs_ne (gs_eq g72) (by decide))) rfl).trans ?_
                  refine (r_if_ge_f f252_4 (by decide)).trans ?_
                  refine (r_aloadn f252_7 rfl).trans ?_
                  refine (r_aloadn f252_8 rfl).trans ?_
                  refine (r_get (v := .int 0) f252_9 (gs_eq (gs_ne (gs_eq g72) (by decide))) rfl).trans ?_
                  refine (r_put (h' := ((((h.1.set 72 (.inr (12, (zF72.set 67 (.int 0))))).set 119 (.inl (0, 17, .inl (upd (fun _ => 0) (Int32.toNatClampNeg 0) 0)))).set 72 (.inr (12, ((((((zF72.set 67 (.int 0)).set 68 (.int 0)).set 64 (.int 0)).set 65 (.int (-1))).set 66 (.int 0)).set 65 (.int 0))))), h.2)) f252_12 (gs_eq (gs_ne (gs_eq g72) (by decide))) rfl hss).trans ?_
                  exact r_vreturn f252_15 rfl
                refine (r_virt (as := []) (v := none) (h1 := ((((h.1.set 72 (.inr (12, (zF72.set 67 (.int 0))))).set 119 (.inl (0, 17, .inl (upd (fun _ => 0) (Int32.toNatClampNeg 0) 0)))).set 72 (.inr (12, ((((((zF72.set 67 (.int 0)).set 68 (.int 0)).set 64 (.int 0)).set 65 (.int (-1))).set 66 (.int 0)).set 65 (.int 0))))), h.2)) f256_216 (gs_eq (gs_ne (gs_eq g72) (by decide))) zg252 rfl rfl rfl rfl rfl rfl hc16).trans ?_
                refine (r_goto f256_219).trans ?_
                exact r_vreturn f256_228 rfl
              refine (r_virt (as := []) (v := none) (h1 := ((((h.1.set 72 (.inr (12, (zF72.set 67 (.int 0))))).set 119 (.inl (0, 17, .inl (upd (fun _ => 0) (Int32.toNatClampNeg 0) 0)))).set 72 (.inr (12, ((((((zF72.set 67 (.int 0)).set 68 (.int 0)).set 64 (.int 0)).set 65 (.int (-1))).set 66 (.int 0)).set 65 (.int 0))))), h.2)) f257_1 (gs_eq (gs_ne (gs_eq g72) (by decide))) zg256 rfl rfl rfl rfl rfl rfl hc11).trans ?_
              refine (r_aloadn f257_4 rfl).trans ?_
              refine (r_get (v := .int 0) f257_5 (gs_eq (gs_ne (gs_eq g72) (by decide))) rfl).trans ?_
              refine (r_if_ge_t f257_8 (by decide)).trans ?_
              exact r_vreturn f257_66 rfl
            refine (r_virt (as := []) (v := none) (h1 := ((((h.1.set 72 (.inr (12, (zF72.set 67 (.int 0))))).set 119 (.inl (0, 17, .inl (upd (fun _ => 0) (Int32.toNatClampNeg 0) 0)))).set 72 (.inr (12, ((((((zF72.set 67 (.int 0)).set 68 (.int 0)).set 64 (.int 0)).set 65 (.int (-1))).set 66 (.int 0)).set 65 (.int 0))))), h.2)) f258_1 (gs_eq (gs_ne (gs_eq g72) (by decide))) zg257 rfl rfl rfl rfl rfl rfl hc10).trans ?_
            refine (r_aloadn f258_4 rfl).trans ?_
            refine (r_get (v := .int 0) f258_5 (gs_eq (gs_ne (gs_eq g72) (by decide))) rfl).trans ?_
            refine (r_if_ge_t f258_8 (by decide)).trans ?_
            exact r_vreturn f258_57 rfl
          refine (r_virt (as := []) (v := none) (h1 := ((((h.1.set 72 (.inr (12, (zF72.set 67 (.int 0))))).set 119 (.inl (0, 17, .inl (upd (fun _ => 0) (Int32.toNatClampNeg 0) 0)))).set 72 (.inr (12, ((((((zF72.set 67 (.int 0)).set 68 (.int 0)).set 64 (.int 0)).set 65 (.int (-1))).set 66 (.int 0)).set 65 (.int 0))))), h.2)) f259_1 (gs_eq (gs_ne (gs_eq g72) (by decide))) zg258 rfl rfl rfl rfl rfl rfl hc9).trans ?_
          refine (r_aloadn f259_4 rfl).trans ?_
          have hc17 : arun X (n + 42) (d + 4) zM251 0 [some (.ref 72)] [] ((((h.1.set 72 (.inr (12, (zF72.set 67 (.int 0))))).set 119 (.inl (0, 17, .inl (upd (fun _ => 0) (Int32.toNatClampNeg 0) 0)))).set 72 (.inr (12, ((((((zF72.set 67 (.int 0)).set 68 (.int 0)).set 64 (.int 0)).set 65 (.int (-1))).set 66 (.int 0)).set 65 (.int 0))))), h.2) = some ((some (.int (-1))), ((((h.1.set 72 (.inr (12, (zF72.set 67 (.int 0))))).set 119 (.inl (0, 17, .inl (upd (fun _ => 0) (Int32.toNatClampNeg 0) 0)))).set 72 (.inr (12, ((((((zF72.set 67 (.int 0)).set 68 (.int 0)).set 64 (.int 0)).set 65 (.int (-1))).set 66 (.int 0)).set 65 (.int 0))))), h.2)) := by
            refine (r_aloadn f251_0 rfl).trans ?_
            refine (r_get (v := .int 0) f251_1 (gs_eq (gs_ne (gs_eq g72) (by decide))) rfl).trans ?_
            refine (r_aloadn f251_4 rfl).trans ?_
            refine (r_get (v := .int 0) f251_5 (gs_eq (gs_ne (gs_eq g72) (by decide))) rfl).trans ?_
            refine (r_icmp_ge_t f251_8 (by decide)).trans ?_
            refine (r_iconst (v := (-1)) f251_23 rfl).trans ?_
            exact r_ireturn f251_24 rfl
          refine (r_virt (as := []) (v := (some (.int (-1)))) (h1 := ((((h.1.set 72 (.inr (12, (zF72.set 67 (.int 0))))).set 119 (.inl (0, 17, .inl (upd (fun _ => 0) (Int32.toNatClampNeg 0) 0)))).set 72 (.inr (12, ((((((zF72.set 67 (.int 0)).set 68 (.int 0)).set 64 (.int 0)).set 65 (.int (-1))).set 66 (.int 0)).set 65 (.int 0))))), h.2)) f259_5 (gs_eq (gs_ne (gs_eq g72) (by decide))) zg251 rfl rfl rfl rfl rfl rfl hc17).trans ?_
          refine (r_istoren (L' := [some (.ref 72), some (.int (-1))]) f259_8 rfl rfl).trans ?_
          refine (r_aloadn f259_9 rfl).trans ?_
          refine (r_get (v := .int 0) f259_10 (gs_eq (gs_ne (gs_eq g72) (by decide))) rfl).trans ?_
          refine (r_if_ge_t f259_13 (by decide)).trans ?_
          exact r_vreturn f259_34 rfl
        refine (r_virt (as := []) (v := none) (h1 := ((((h.1.set 72 (.inr (12, (zF72.set 67 (.int 0))))).set 119 (.inl (0, 17, .inl (upd (fun _ => 0) (Int32.toNatClampNeg 0) 0)))).set 72 (.inr (12, ((((((zF72.set 67 (.int 0)).set 68 (.int 0)).set 64 (.int 0)).set 65 (.int (-1))).set 66 (.int 0)).set 65 (.int 0))))), h.2)) f260_1 (gs_eq (gs_ne (gs_eq g72) (by decide))) zg259 rfl rfl rfl rfl rfl rfl hc8).trans ?_
        refine (r_aloadn f260_4 rfl).trans ?_
        refine (r_get (v := .int 0) f260_5 (gs_eq (gs_ne (gs_eq g72) (by decide))) rfl).trans ?_
        refine (r_if_ge_t f260_8 (by decide)).trans ?_
        exact r_vreturn f260_44 rfl
      refine (r_virt (as := []) (v := none) (h1 := ((((h.1.set 72 (.inr (12, (zF72.set 67 (.int 0))))).set 119 (.inl (0, 17, .inl (upd (fun _ => 0) (Int32.toNatClampNeg 0) 0)))).set 72 (.inr (12, ((((((zF72.set 67 (.int 0)).set 68 (.int 0)).set 64 (.int 0)).set 65 (.int (-1))).set 66 (.int 0)).set 65 (.int 0))))), h.2)) f261_1 (gs_eq (gs_ne (gs_eq g72) (by decide))) zg260 rfl rfl rfl rfl rfl rfl hc7).trans ?_
      refine (r_aloadn f261_4 rfl).trans ?_
      refine (r_get (v := .int 0) f261_5 (gs_eq (gs_ne (gs_eq g72) (by decide))) rfl).trans ?_
      refine (r_if_ge_t f261_8 (by decide)).trans ?_
      exact r_vreturn f261_44 rfl
    refine (r_virt (as := []) (v := none) (h1 := ((((h.1.set 72 (.inr (12, (zF72.set 67 (.int 0))))).set 119 (.inl (0, 17, .inl (upd (fun _ => 0) (Int32.toNatClampNeg 0) 0)))).set 72 (.inr (12, ((((((zF72.set 67 (.int 0)).set 68 (.int 0)).set 64 (.int 0)).set 65 (.int (-1))).set 66 (.int 0)).set 65 (.int 0))))), h.2)) f262_24 (gs_eq (gs_ne (gs_eq g72) (by decide))) zg261 rfl rfl rfl rfl rfl rfl hc6).trans ?_
    refine (r_aloadn f262_27 rfl).trans ?_
    refine (r_get (v := .ref 120) f262_28 (gs_eq (gs_ne (gs_eq g72) (by decide))) rfl).trans ?_
    refine (r_iloadn f262_31 rfl).trans ?_
    refine (r_iloadn f262_32 rfl).trans ?_
    refine (r_iast (h' := (((((h.1.set 72 (.inr (12, (zF72.set 67 (.int 0))))).set 119 (.inl (0, 17, .inl (upd (fun _ => 0) (Int32.toNatClampNeg 0) 0)))).set 72 (.inr (12, ((((((zF72.set 67 (.int 0)).set 68 (.int 0)).set 64 (.int 0)).set 65 (.int (-1))).set 66 (.int 0)).set 65 (.int 0))))).set 120 (.inl (0, 1530, .inl (upd (fun _ => 0) (Int32.toNatClampNeg 0) 0)))), h.2)) f262_33 (gs_ne (gs_ne (gs_ne g120 (by decide)) (by decide)) (by decide)) (by decide) rfl).trans ?_
    refine (r_aloadn f262_34 rfl).trans ?_
    refine (r_get (v := .int 0) f262_35 (gs_ne (gs_eq (gs_ne (gs_eq g72) (by decide))) (by decide)) rfl).trans ?_
    refine (r_if_ge_t f262_38 (by decide)).trans ?_
    refine (r_aloadn f262_74 rfl).trans ?_
    refine (r_get (v := .ref 121) f262_75 (gs_ne (gs_eq (gs_ne (gs_eq g72) (by decide))) (by decide)) rfl).trans ?_
    refine (r_iloadn f262_78 rfl).trans ?_
    refine (r_aloadn f262_79 rfl).trans ?_
    refine (r_get (v := .int 0) f262_80 (gs_ne (gs_eq (gs_ne (gs_eq g72) (by decide))) (by decide)) rfl).trans ?_
    refine (r_iast (h' := ((((((h.1.set 72 (.inr (12, (zF72.set 67 (.int 0))))).set 119 (.inl (0, 17, .inl (upd (fun _ => 0) (Int32.toNatClampNeg 0) 0)))).set 72 (.inr (12, ((((((zF72.set 67 (.int 0)).set 68 (.int 0)).set 64 (.int 0)).set 65 (.int (-1))).set 66 (.int 0)).set 65 (.int 0))))).set 120 (.inl (0, 1530, .inl (upd (fun _ => 0) (Int32.toNatClampNeg 0) 0)))).set 121 (.inl (0, 1530, .inl (upd (fun _ => 0) (Int32.toNatClampNeg 0) 0)))), h.2)) f262_83 (gs_ne (gs_ne (gs_ne (gs_ne g121 (by decide)) (by decide)) (by decide)) (by decide)) (by decide) rfl).trans ?_
    refine (r_aloadn f262_84 rfl).trans ?_
    refine (r_get (v := .ref 119) f262_85 (gs_ne (gs_ne (gs_eq (gs_ne (gs_eq g72) (by decide))) (by decide)) (by decide)) rfl).trans ?_
    refine (r_aloadn f262_88 rfl).trans ?_
    refine (r_get (v := .int 0) f262_89 (gs_ne (gs_ne (gs_eq (gs_ne (gs_eq g72) (by decide))) (by decide)) (by decide)) rfl).trans ?_
    refine (r_dup2 f262_92 rfl).trans ?_
    refine (r_iald (v := 0) f262_93 (gs_ne (gs_ne (gs_ne (gs_eq (gs_ne g119 (by decide))) (by decide)) (by decide)) (by decide)) (by decide) rfl).trans ?_
    refine (r_iconst (v := 1) f262_94 rfl).trans ?_
    refine (r_iadd (v := 1) f262_95 (by decide)).trans ?_
    refine (r_iast (h' := (((((((h.1.set 72 (.inr (12, (zF72.set 67 (.int 0))))).set 119 (.inl (0, 17, .inl (upd (fun _ => 0) (Int32.toNatClampNeg 0) 0)))).set 72 (.inr (12, ((((((zF72.set 67 (.int 0)).set 68 (.int 0)).set 64 (.int 0)).set 65 (.int (-1))).set 66 (.int 0)).set 65 (.int 0))))).set 120 (.inl (0, 1530, .inl (upd (fun _ => 0) (Int32.toNatClampNeg 0) 0)))).set 121 (.inl (0, 1530, .inl (upd (fun _ => 0) (Int32.toNatClampNeg 0) 0)))).set 119 (.inl (0, 17, .inl (upd (upd (fun _ => 0) (Int32.toNatClampNeg 0) 0) (Int32.toNatClampNeg 0) 1)))), h.2)) f262_96 (gs_ne (gs_ne (gs_ne (gs_eq (gs_ne g119 (by decide))) (by decide)) (by decide)) (by decide)) (by decide) rfl).trans ?_
    exact r_vreturn f262_97 rfl
  refine (r_virt (as := []) (v := none) (h1 := (((((((h.1.set 72 (.inr (12, (zF72.set 67 (.int 0))))).set 119 (.inl (0, 17, .inl (upd (fun _ => 0) (Int32.toNatClampNeg 0) 0)))).set 72 (.inr (12, ((((((zF72.set 67 (.int 0)).set 68 (.int 0)).set 64 (.int 0)).set 65 (.int (-1))).set 66 (.int 0)).set 65 (.int 0))))).set 120 (.inl (0, 1530, .inl (upd (fun _ => 0) (Int32.toNatClampNeg 0) 0)))).set 121 (.inl (0, 1530, .inl (upd (fun _ => 0) (Int32.toNatClampNeg 0) 0)))).set 119 (.inl (0, 17, .inl (upd (upd (fun _ => 0) (Int32.toNatClampNeg 0) 0) (Int32.toNatClampNeg 0) 1)))), h.2)) f264_67 (gs_eq (gs_ne (gs_eq g72) (by decide))) zg262 rfl rfl rfl rfl rfl rfl hc5).trans ?_
  refine (r_aloadn f264_70 rfl).trans ?_
  refine (r_get (v := .int 0) f264_71 (gs_ne (gs_ne (gs_ne (gs_eq (gs_ne (gs_eq g72) (by decide))) (by decide)) (by decide)) (by decide)) rfl).trans ?_
  refine (r_if_ge_t f264_74 (by decide)).trans ?_
  refine (r_aloadn f264_103 rfl).trans ?_
  refine (r_get (v := .int 0) f264_104 (gs_ne (gs_ne (gs_ne (gs_eq (gs_ne (gs_eq g72) (by decide))) (by decide)) (by decide)) (by decide)) rfl).trans ?_
  refine (r_if_ge_t f264_107 (by decide)).trans ?_
  refine (r_aloadn f264_125 rfl).trans ?_
  refine (r_iconst (v := 0) f264_126 rfl).trans ?_
  refine (r_put (h' := ((((((((h.1.set 72 (.inr (12, (zF72.set 67 (.int 0))))).set 119 (.inl (0, 17, .inl (upd (fun _ => 0) (Int32.toNatClampNeg 0) 0)))).set 72 (.inr (12, ((((((zF72.set 67 (.int 0)).set 68 (.int 0)).set 64 (.int 0)).set 65 (.int (-1))).set 66 (.int 0)).set 65 (.int 0))))).set 120 (.inl (0, 1530, .inl (upd (fun _ => 0) (Int32.toNatClampNeg 0) 0)))).set 121 (.inl (0, 1530, .inl (upd (fun _ => 0) (Int32.toNatClampNeg 0) 0)))).set 119 (.inl (0, 17, .inl (upd (upd (fun _ => 0) (Int32.toNatClampNeg 0) 0) (Int32.toNatClampNeg 0) 1)))).set 72 (.inr (12, (((((((zF72.set 67 (.int 0)).set 68 (.int 0)).set 64 (.int 0)).set 65 (.int (-1))).set 66 (.int 0)).set 65 (.int 0)).set 54 (.int 0))))), h.2)) f264_127 (gs_ne (gs_ne (gs_ne (gs_eq (gs_ne (gs_eq g72) (by decide))) (by decide)) (by decide)) (by decide)) rfl rfl).trans ?_
  refine (r_aloadn f264_130 rfl).trans ?_
  refine (r_get (v := .int 0) f264_131 (gs_eq (gs_ne (gs_ne (gs_ne (gs_eq (gs_ne (gs_eq g72) (by decide))) (by decide)) (by decide)) (by decide))) rfl).trans ?_
  refine (r_if_lt_f f264_134 (by decide)).trans ?_
  refine (r_bipush (v := (-100)) f264_137 rfl).trans ?_
  refine (r_aloadn f264_139 rfl).trans ?_
  refine (r_get (v := .int 0) f264_140 (gs_eq (gs_ne (gs_ne (gs_ne (gs_eq (gs_ne (gs_eq g72) (by decide))) (by decide)) (by decide)) (by decide))) rfl).trans ?_
  refine (r_isub (v := (-100)) f264_143 (by decide)).trans ?_
  exact r_ireturn f264_144 rfl
set_option maxHeartbeats 40000000 in
theorem qc24_3 {X : aX} {n d : Nat} {h : aH} {x1 : Int32} {x2 : Int32}  (ec0 : ¬ x1 < 0) (ec1 : ¬ (x1 / 10) < 0) (ec2 : ¬ 3 < (x1 / 10)) (ec3 : 4 ≤ (x1 - x1 / 10 * 10)) : arun X (n + 21) (d + 4) zM168 0 [some (.ref 0), some (.int x1), some (.int x2)] [] h = some (some (.int (-1)), h) := by
  refine (r_iloadn f168_0 rfl).trans ?_
  have hc1 : arun X (n + 19) (d + 3) zM143 0 [some (.int x1)] [] h = some ((some (.int 0)), h) := by
    refine (r_iloadn f143_0 rfl).trans ?_
    refine (r_if_lt_f f143_1 ec0).trans ?_
    refine (r_iloadn f143_4 rfl).trans ?_
    refine (r_bipush (v := 10) f143_5 rfl).trans ?_
    refine (r_idiv (v := (x1 / 10)) f143_7 (by decide) rfl).trans ?_
    have hc2 : arun X (n + 13) (d + 2) zM140 0 [some (.int (x1 / 10))] [] h = some ((some (.int 1)), h) := by
      refine (r_iloadn f140_0 rfl).trans ?_
      refine (r_iconst (v := 0) f140_1 rfl).trans ?_
      refine (r_iconst (v := 3) f140_2 rfl).trans ?_
      have hc3 : arun X (n + 9) (d + 1) zM137 0 [some (.int (x1 / 10)), some (.int 0), some (.int 3)] [] h = some ((some (.int 1)), h) := by
        refine (r_iloadn f137_0 rfl).trans ?_
        refine (r_iloadn f137_1 rfl).trans ?_
        refine (r_icmp_gt_f f137_2 ec1).trans ?_
        refine (r_iloadn f137_5 rfl).trans ?_
        refine (r_iloadn f137_6 rfl).trans ?_
        refine (r_icmp_gt_f f137_7 ec2).trans ?_
        refine (r_iconst (v := 1) f137_10 rfl).trans ?_
        refine (r_goto f137_11).trans ?_
        exact r_zreturn f137_15 rfl (by decide)
      refine (r_stat (as := [.int (x1 / 10), .int 0, .int 3]) (v := (some (.int 1))) (h1 := h) f140_3 rfl zg137 rfl rfl rfl rfl rfl rfl hc3).trans ?_
      exact r_zreturn f140_6 rfl (by decide)
    refine (r_stat (as := [.int (x1 / 10)]) (v := (some (.int 1))) (h1 := h) f143_8 rfl zg140 rfl rfl rfl rfl rfl rfl hc2).trans ?_
    refine (r_if_eq_f f143_11 (by decide)).trans ?_
    refine (r_iloadn f143_14 rfl).trans ?_
    refine (r_bipush (v := 10) f143_15 rfl).trans ?_
    refine (r_irem (v := (x1 - x1 / 10 * 10)) f143_17 (by decide) rfl).trans ?_
    refine (r_iconst (v := 4) f143_18 rfl).trans ?_
    refine (r_icmp_ge_t f143_19 ec3).trans ?_
    refine (r_iconst (v := 0) f143_26 rfl).trans ?_
    exact r_zreturn f143_27 rfl (by decide)
  refine (r_stat (as := [.int x1]) (v := (some (.int 0))) (h1 := h) f168_1 rfl zg143 rfl rfl rfl rfl rfl rfl hc1).trans ?_
  refine (r_if_eq_t f168_4 (by decide)).trans ?_
  refine (r_iconst (v := (-1)) f168_14 rfl).trans ?_
  exact r_ireturn f168_15 rfl
set_option maxHeartbeats 40000000 in
theorem qm24_3_0 {X : aX} {n d : Nat} {h : aH} {x1 : Int32} {x2 : Int32}  (ec0 : ¬ x1 < 0) (em0 : 33 < x1) : arun X (n + 14) (d + 3) zM264 0 [some (.ref 72), some (.int x1), some (.int x2)] [] h = some (some (.int (-1)), h) := by
  refine (r_iloadn f264_0 rfl).trans ?_
  have hc1 : arun X (n + 12) (d + 2) zM263 0 [some (.int x1)] [] h = some ((some (.int 0)), h) := by
    refine (r_iloadn f263_0 rfl).trans ?_
    refine (r_iconst (v := 0) f263_1 rfl).trans ?_
    refine (r_bipush (v := 33) f263_2 rfl).trans ?_
    have hc2 : arun X (n + 8) (d + 1) zM196 0 [some (.int x1), some (.int 0), some (.int 33)] [] h = some ((some (.int 0)), h) := by
      refine (r_iloadn f196_0 rfl).trans ?_
      refine (r_iloadn f196_1 rfl).trans ?_
      refine (r_icmp_lt_f f196_2 ec0).trans ?_
      refine (r_iloadn f196_5 rfl).trans ?_
      refine (r_iloadn f196_6 rfl).trans ?_
      refine (r_icmp_gt_t f196_7 em0).trans ?_
      refine (r_iconst (v := 0) f196_14 rfl).trans ?_
      exact r_zreturn f196_15 rfl (by decide)
    refine (r_stat (as := [.int x1, .int 0, .int 33]) (v := (some (.int 0))) (h1 := h) f263_4 rfl zg196 rfl rfl rfl rfl rfl rfl hc2).trans ?_
    refine (r_if_eq_t f263_7 (by decide)).trans ?_
    refine (r_iconst (v := 0) f263_22 rfl).trans ?_
    exact r_zreturn f263_23 rfl (by decide)
  refine (r_stat (as := [.int x1]) (v := (some (.int 0))) (h1 := h) f264_1 rfl zg263 rfl rfl rfl rfl rfl rfl hc1).trans ?_
  refine (r_if_eq_t f264_4 (by decide)).trans ?_
  refine (r_iconst (v := (-1)) f264_14 rfl).trans ?_
  exact r_ireturn f264_15 rfl
set_option maxHeartbeats 40000000 in
theorem qm24_3_1 {X : aX} {n d : Nat} {h : aH} {x1 : Int32} {x2 : Int32}  (ec0 : ¬ x1 < 0) (em0 : ¬ 33 < x1) (em1 : 3 < (x1 - x1 / 10 * 10)) : arun X (n + 15) (d + 3) zM264 0 [some (.ref 72), some (.int x1), some (.int x2)] [] h = some (some (.int (-1)), h) := by
  refine (r_iloadn f264_0 rfl).trans ?_
  have hc1 : arun X (n + 13) (d + 2) zM263 0 [some (.int x1)] [] h = some ((some (.int 0)), h) := by
    refine (r_iloadn f263_0 rfl).trans ?_
    refine (r_iconst (v := 0) f263_1 rfl).trans ?_
    refine (r_bipush (v := 33) f263_2 rfl).trans ?_
    have hc2 : arun X (n + 9) (d + 1) zM196 0 [some (.int x1), some (.int 0), some (.int 33)] [] h = some ((some (.int 1)), h) := by
      refine (r_iloadn f196_0 rfl).trans ?_
      refine (r_iloadn f196_1 rfl).trans ?_
      refine (r_icmp_lt_f f196_2 ec0).trans ?_
      refine (r_iloadn f196_5 rfl).trans ?_
      refine (r_iloadn f196_6 rfl).trans ?_
      refine (r_icmp_gt_f f196_7 em0).trans ?_
      refine (r_iconst (v := 1) f196_10 rfl).trans ?_
      refine (r_goto f196_11).trans ?_
      exact r_zreturn f196_15 rfl (by decide)
    refine (r_stat (as := [.int x1, .int 0, .int 33]) (v := (some (.int 1))) (h1 := h) f263_4 rfl zg196 rfl rfl rfl rfl rfl rfl hc2).trans ?_
    refine (r_if_eq_f f263_7 (by decide)).trans ?_
    refine (r_iloadn f263_10 rfl).trans ?_
    refine (r_bipush (v := 10) f263_11 rfl).trans ?_
    refine (r_irem (v := (x1 - x1 / 10 * 10)) f263_13 (by decide) rfl).trans ?_
    refine (r_iconst (v := 3) f263_14 rfl).trans ?_
    refine (r_icmp_gt_t f263_15 em1).trans ?_
    refine (r_iconst (v := 0) f263_22 rfl).trans ?_
    exact r_zreturn f263_23 rfl (by decide)
  refine (r_stat (as := [.int x1]) (v := (some (.int 0))) (h1 := h) f264_1 rfl zg263 rfl rfl rfl rfl rfl rfl hc1).trans ?_
  refine (r_if_eq_t f264_4 (by decide)).trans ?_
  refine (r_iconst (v := (-1)) f264_14 rfl).trans ?_
  exact r_ireturn f264_15 rfl
set_option maxHeartbeats 40000000 in
theorem qc24_4 {X : aX} {n d : Nat} {h : aH} {x1 : Int32} {x2 : Int32}  (ec0 : ¬ x1 < 0) (ec1 : ¬ (x1 / 10) < 0) (ec2 : ¬ 3 < (x1 / 10)) (ec3 : ¬ 4 ≤ (x1 - x1 / 10 * 10)) (ec4 : x2 < 0) : arun X (n + 21) (d + 4) zM168 0 [some (.ref 0), some (.int x1), some (.int x2)] [] h = some (some (.int (-1)), h) := by
  refine (r_iloadn f168_0 rfl).trans ?_
  have hc1 : arun X (n + 19) (d + 3) zM143 0 [some (.int x1)] [] h = some ((some (.int 1)), h) := by
    refine (r_iloadn f143_0 rfl).trans ?_
    refine (r_if_lt_f f143_1 ec0).trans ?_
    refine (r_iloadn f143_4 rfl).trans ?_
    refine (r_bipush (v := 10) f143_5 rfl).trans ?_
    refine (r_idiv (v := (x1 / 10)) f143_7 (by decide) rfl).trans ?_
    have hc2 : arun X (n + 13) (d + 2) zM140 0 [some (.int (x1 / 10))] [] h = some ((some (.int 1)), h) := by
      refine (r_iloadn f140_0 rfl).trans ?_
      refine (r_iconst (v := 0) f140_1 rfl).trans ?_
      refine (r_iconst (v := 3) f140_2 rfl).trans ?_
      have hc3 : arun X (n + 9) (d + 1) zM137 0 [some (.int (x1 / 10)), some (.int 0), some (.int 3)] [] h = some ((some (.int 1)), h) := by
        refine (r_iloadn f137_0 rfl).trans ?_
        refine (r_iloadn f137_1 rfl).trans ?_
        refine (r_icmp_gt_f f137_2 ec1).trans ?_
        refine (r_iloadn f137_5 rfl).trans ?_
        refine (r_iloadn f137_6 rfl).trans ?_
        refine (r_icmp_gt_f f137_7 ec2).trans ?_
        refine (r_iconst (v := 1) f137_10 rfl).trans ?_
        refine (r_goto f137_11).trans ?_
        exact r_zreturn f137_15 rfl (by decide)
      refine (r_stat (as := [.int (x1 / 10), .int 0, .int 3]) (v := (some (.int 1))) (h1 := h) f140_3 rfl zg137 rfl rfl rfl rfl rfl rfl hc3).trans ?_
      exact r_zreturn f140_6 rfl (by decide)
    refine (r_stat (as := [.int (x1 / 10)]) (v := (some (.int 1))) (h1 := h) f143_8 rfl zg140 rfl rfl rfl rfl rfl rfl hc2).trans ?_
    refine (r_if_eq_f f143_11 (by decide)).trans ?_
    refine (r_iloadn f143_14 rfl).trans ?_
    refine (r_bipush (v := 10) f143_15 rfl).trans ?_
    refine (r_irem (v := (x1 - x1 / 10 * 10)) f143_17 (by decide) rfl).trans ?_
    refine (r_iconst (v := 4) f143_18 rfl).trans ?_
    refine (r_icmp_ge_f f143_19 ec3).trans ?_
    refine (r_iconst (v := 1) f143_22 rfl).trans ?_
    refine (r_goto f143_23).trans ?_
    exact r_zreturn f143_27 rfl (by decide)
  refine (r_stat (as := [.int x1]) (v := (some (.int 1))) (h1 := h) f168_1 rfl zg143 rfl rfl rfl rfl rfl rfl hc1).trans ?_
  refine (r_if_eq_f f168_4 (by decide)).trans ?_
  refine (r_iloadn f168_7 rfl).trans ?_
  have hc4 : arun X (n + 16) (d + 3) zM139 0 [some (.int x2)] [] h = some ((some (.int 0)), h) := by
    refine (r_iloadn f139_0 rfl).trans ?_
    refine (r_iconst (v := 0) f139_1 rfl).trans ?_
    refine (r_bipush (v := 9) f139_2 rfl).trans ?_
    have hc5 : arun X (n + 12) (d + 2) zM137 0 [some (.int x2), some (.int 0), some (.int 9)] [] h = some ((some (.int 0)), h) := by
      refine (r_iloadn f137_0 rfl).trans ?_
      refine (r_iloadn f137_1 rfl).trans ?_
      refine (r_icmp_gt_t f137_2 ec4).trans ?_
      refine (r_iconst (v := 0) f137_14 rfl).trans ?_
      exact r_zreturn f137_15 rfl (by decide)
    refine (r_stat (as := [.int x2, .int 0, .int 9]) (v := (some (.int 0))) (h1 := h) f139_4 rfl zg137 rfl rfl rfl rfl rfl rfl hc5).trans ?_
    exact r_zreturn f139_7 rfl (by decide)
  refine (r_stat (as := [.int x2]) (v := (some (.int 0))) (h1 := h) f168_8 rfl zg139 rfl rfl rfl rfl rfl rfl hc4).trans ?_
  refine (r_if_ne_f f168_11 (by decide)).trans ?_
  refine (r_iconst (v := (-1)) f168_14 rfl).trans ?_
  exact r_ireturn f168_15 rfl
set_option maxHeartbeats 40000000 in
theorem qm24_4_0 {X : aX} {n d : Nat} {h : aH} {x1 : Int32} {x2 : Int32}  (ec0 : ¬ x1 < 0) (em0 : 33 < x1) : arun X (n + 14) (d + 3) zM264 0 [some (.ref 72), some (.int x1), some (.int x2)] [] h = some (some (.int (-1)), h) := by
  refine (r_iloadn f264_0 rfl).trans ?_
  have hc1 : arun X (n + 12) (d + 2) zM263 0 [some (.int x1)] [] h = some ((some (.int 0)), h) := by
    refine (r_iloadn f263_0 rfl).trans ?_
    refine (r_iconst (v := 0) f263_1 rfl).trans ?_
    refine (r_bipush (v := 33) f263_2 rfl).trans ?_
    have hc2 : arun X (n + 8) (d + 1) zM196 0 [some (.int x1), some (.int 0), some (.int 33)] [] h = some ((some (.int 0)), h) := by
      refine (r_iloadn f196_0 rfl).trans ?_
      refine (r_iloadn f196_1 rfl).trans ?_
      refine (r_icmp_lt_f f196_2 ec0).trans ?_
      refine (r_iloadn f196_5 rfl).trans ?_
      refine (r_iloadn f196_6 rfl).trans ?_
      refine (r_icmp_gt_t f196_7 em0).trans ?_
      refine (r_iconst (v := 0) f196_14 rfl).trans ?_
      exact r_zreturn f196_15 rfl (by decide)
    refine (r_stat (as := [.int x1, .int 0, .int 33]) (v := (some (.int 0))) (h1 := h) f263_4 rfl zg196 rfl rfl rfl rfl rfl rfl hc2).trans ?_
    refine (r_if_eq_t f263_7 (by decide)).trans ?_
    refine (r_iconst (v := 0) f263_22 rfl).trans ?_
    exact r_zreturn f263_23 rfl (by decide)
  refine (r_stat (as := [.int x1]) (v := (some (.int 0))) (h1 := h) f264_1 rfl zg263 rfl rfl rfl rfl rfl rfl hc1).trans ?_
  refine (r_if_eq_t f264_4 (by decide)).trans ?_
  refine (r_iconst (v := (-1)) f264_14 rfl).trans ?_
  exact r_ireturn f264_15 rfl
set_option maxHeartbeats 40000000 in
theorem qm24_4_1 {X : aX} {n d : Nat} {h : aH} {x1 : Int32} {x2 : Int32}  (ec0 : ¬ x1 < 0) (ec4 : x2 < 0) (em0 : ¬ 33 < x1) (em1 : ¬ 3 < (x1 - x1 / 10 * 10)) : arun X (n + 15) (d + 3) zM264 0 [some (.ref 72), some (.int x1), some (.int x2)] [] h = some (some (.int (-1)), h) := by
  refine (r_iloadn f264_0 rfl).trans ?_
  have hc1 : arun X (n + 13) (d + 2) zM263 0 [some (.int x1)] [] h = some ((some (.int 1)), h) := by
    refine (r_iloadn f263_0 rfl).trans ?_
    refine (r_iconst (v := 0) f263_1 rfl).trans ?_
    refine (r_bipush (v := 33) f263_2 rfl).trans ?_
    have hc2 : arun X (n + 9) (d + 1) zM196 0 [some (.int x1), some (.int 0), some (.int 33)] [] h = some ((some (.int 1)), h) := by
      refine (r_iloadn f196_0 rfl).trans ?_
      refine (r_iloadn f196_1 rfl).trans ?_
      refine (r_icmp_lt_f f196_2 ec0).trans ?_
      refine (r_iloadn f196_5 rfl).trans ?_
      refine (r_iloadn f196_6 rfl).trans ?_
      refine (r_icmp_gt_f f196_7 em0).trans ?_
      refine (r_iconst (v := 1) f196_10 rfl).trans ?_
      refine (r_goto f196_11).trans ?_
      exact r_zreturn f196_15 rfl (by decide)
    refine (r_stat (as := [.int x1, .int 0, .int 33]) (v := (some (.int 1))) (h1 := h) f263_4 rfl zg196 rfl rfl rfl rfl rfl rfl hc2).trans ?_
    refine (r_if_eq_f f263_7 (by decide)).trans ?_
    refine (r_iloadn f263_10 rfl).trans ?_
    refine (r_bipush (v := 10) f263_11 rfl).trans ?_
    refine (r_irem (v := (x1 - x1 / 10 * 10)) f263_13 (by decide) rfl).trans ?_
    refine (r_iconst (v := 3) f263_14 rfl).trans ?_
    refine (r_icmp_gt_f f263_15 em1).trans ?_
    refine (r_iconst (v := 1) f263_18 rfl).trans ?_
    refine (r_goto f263_19).trans ?_
    exact r_zreturn f263_23 rfl (by decide)
  refine (r_stat (as := [.int x1]) (v := (some (.int 1))) (h1 := h) f264_1 rfl zg263 rfl rfl rfl rfl rfl rfl hc1).trans ?_
  refine (r_if_eq_f f264_4 (by decide)).trans ?_
  refine (r_iloadn f264_7 rfl).trans ?_
  have hc3 : arun X (n + 10) (d + 2) zM198 0 [some (.int x2)] [] h = some ((some (.int 0)), h) := by
    refine (r_iloadn f198_0 rfl).trans ?_
    refine (r_iconst (v := 0) f198_1 rfl).trans ?_
    refine (r_bipush (v := 9) f198_2 rfl).trans ?_
    have hc4 : arun X (n + 6) (d + 1) zM196 0 [some (.int x2), some (.int 0), some (.int 9)] [] h = some ((some (.int 0)), h) := by
      refine (r_iloadn f196_0 rfl).trans ?_
      refine (r_iloadn f196_1 rfl).trans ?_
      refine (r_icmp_lt_t f196_2 ec4).trans ?_
      refine (r_iconst (v := 0) f196_14 rfl).trans ?_
      exact r_zreturn f196_15 rfl (by decide)
    refine (r_stat (as := [.int x2, .int 0, .int 9]) (v := (some (.int 0))) (h1 := h) f198_4 rfl zg196 rfl rfl rfl rfl rfl rfl hc4).trans ?_
    exact r_zreturn f198_7 rfl (by decide)
  refine (r_stat (as := [.int x2]) (v := (some (.int 0))) (h1 := h) f264_8 rfl zg198 rfl rfl rfl rfl rfl rfl hc3).trans ?_
  refine (r_if_ne_f f264_11 (by decide)).trans ?_
  refine (r_iconst (v := (-1)) f264_14 rfl).trans ?_
  exact r_ireturn f264_15 rfl
set_option maxHeartbeats 40000000 in
theorem qc24_5 {X : aX} {n d : Nat} {h : aH} {x1 : Int32} {x2 : Int32}  (ec0 : ¬ x1 < 0) (ec1 : ¬ (x1 / 10) < 0) (ec2 : ¬ 3 < (x1 / 10)) (ec3 : ¬ 4 ≤ (x1 - x1 / 10 * 10)) (ec4 : ¬ x2 < 0) (ec5 : 9 < x2) : arun X (n + 21) (d + 4) zM168 0 [some (.ref 0), some (.int x1), some (.int x2)] [] h = some (some (.int (-1)), h) := by
  refine (r_iloadn f168_0 rfl).trans ?_
  have hc1 : arun X (n + 19) (d + 3) zM143 0 [some (.int x1)] [] h = some ((some (.int 1)), h) := by
    refine (r_iloadn f143_0 rfl).trans ?_
    refine (r_if_lt_f f143_1 ec0).trans ?_
    refine (r_iloadn f143_4 rfl).trans ?_
    refine (r_bipush (v := 10) f143_5 rfl).trans ?_
    refine (r_idiv (v := (x1 / 10)) f143_7 (by decide) rfl).trans ?_
    have hc2 : arun X (n + 13) (d + 2) zM140 0 [some (.int (x1 / 10))] [] h = some ((some (.int 1)), h) := by
      refine (r_iloadn f140_0 rfl).trans ?_
      refine (r_iconst (v := 0) f140_1 rfl).trans ?_
      refine (r_iconst (v := 3) f140_2 rfl).trans ?_
      have hc3 : arun X (n + 9) (d + 1) zM137 0 [some (.int (x1 / 10)), some (.int 0), some (.int 3)] [] h = some ((some (.int 1)), h) := by
        refine (r_iloadn f137_0 rfl).trans ?_
        refine (r_iloadn f137_1 rfl).trans ?_
        refine (r_icmp_gt_f f137_2 ec1).trans ?_
        refine (r_iloadn f137_5 rfl).trans ?_
        refine (r_iloadn f137_6 rfl).trans ?_
        refine (r_icmp_gt_f f137_7 ec2).trans ?_
        refine (r_iconst (v := 1) f137_10 rfl).trans ?_
        refine (r_goto f137_11).trans ?_
        exact r_zreturn f137_15 rfl (by decide)
      refine (r_stat (as := [.int (x1 / 10), .int 0, .int 3]) (v := (some (.int 1))) (h1 := h) f140_3 rfl zg137 rfl rfl rfl rfl rfl rfl hc3).trans ?_
      exact r_zreturn f140_6 rfl (by decide)
    refine (r_stat (as := [.int (x1 / 10)]) (v := (some (.int 1))) (h1 := h) f143_8 rfl zg140 rfl rfl rfl rfl rfl rfl hc2).trans ?_
    refine (r_if_eq_f f143_11 (by decide)).trans ?_
    refine (r_iloadn f143_14 rfl).trans ?_
    refine (r_bipush (v := 10) f143_15 rfl).trans ?_
    refine (r_irem (v := (x1 - x1 / 10 * 10)) f143_17 (by decide) rfl).trans ?_
    refine (r_iconst (v := 4) f143_18 rfl).trans ?_
    refine (r_icmp_ge_f f143_19 ec3).trans ?_
    refine (r_iconst (v := 1) f143_22 rfl).trans ?_
    refine (r_goto f143_23).trans ?_
    exact r_zreturn f143_27 rfl (by decide)
  refine (r_stat (as := [.int x1]) (v := (some (.int 1))) (h1 := h) f168_1 rfl zg143 rfl rfl rfl rfl rfl rfl hc1).trans ?_
  refine (r_if_eq_f f168_4 (by decide)).trans ?_
  refine (r_iloadn f168_7 rfl).trans ?_
  have hc4 : arun X (n + 16) (d + 3) zM139 0 [some (.int x2)] [] h = some ((some (.int 0)), h) := by
    refine (r_iloadn f139_0 rfl).trans ?_
    refine (r_iconst (v := 0) f139_1 rfl).trans ?_
    refine (r_bipush (v := 9) f139_2 rfl).trans ?_
    have hc5 : arun X (n + 12) (d + 2) zM137 0 [some (.int x2), some (.int 0), some (.int 9)] [] h = some ((some (.int 0)), h) := by
      refine (r_iloadn f137_0 rfl).trans ?_
      refine (r_iloadn f137_1 rfl).trans ?_
      refine (r_icmp_gt_f f137_2 ec4).trans ?_
      refine (r_iloadn f137_5 rfl).trans ?_
      refine (r_iloadn f137_6 rfl).trans ?_
      refine (r_icmp_gt_t f137_7 ec5).trans ?_
      refine (r_iconst (v := 0) f137_14 rfl).trans ?_
      exact r_zreturn f137_15 rfl (by decide)
    refine (r_stat (as := [.int x2, .int 0, .int 9]) (v := (some (.int 0))) (h1 := h) f139_4 rfl zg137 rfl rfl rfl rfl rfl rfl hc5).trans ?_
    exact r_zreturn f139_7 rfl (by decide)
  refine (r_stat (as := [.int x2]) (v := (some (.int 0))) (h1 := h) f168_8 rfl zg139 rfl rfl rfl rfl rfl rfl hc4).trans ?_
  refine (r_if_ne_f f168_11 (by decide)).trans ?_
  refine (r_iconst (v := (-1)) f168_14 rfl).trans ?_
  exact r_ireturn f168_15 rfl
set_option maxHeartbeats 40000000 in
theorem qm24_5_0 {X : aX} {n d : Nat} {h : aH} {x1 : Int32} {x2 : Int32}  (ec0 : ¬ x1 < 0) (em0 : 33 < x1) : arun X (n + 14) (d + 3) zM264 0 [some (.ref 72), some (.int x1), some (.int x2)] [] h = some (some (.int (-1)), h) := by
  refine (r_iloadn f264_0 rfl).trans ?_
  have hc1 : arun X (n + 12) (d + 2) zM263 0 [some (.int x1)] [] h = some ((some (.int 0)), h) := by
    refine (r_iloadn f263_0 rfl).trans ?_
    refine (r_iconst (v := 0) f263_1 rfl).trans ?_
    refine (r_bipush (v := 33) f263_2 rfl).trans ?_
    have hc2 : arun X (n + 8) (d + 1) zM196 0 [some (.int x1), some (.int 0), some (.int 33)] [] h = some ((some (.int 0)), h) := by
      refine (r_iloadn f196_0 rfl).trans ?_
      refine (r_iloadn f196_1 rfl).trans ?_
      refine (r_icmp_lt_f f196_2 ec0).trans ?_
      refine (r_iloadn f196_5 rfl).trans ?_
      refine (r_iloadn f196_6 rfl).trans ?_
      refine (r_icmp_gt_t f196_7 em0).trans ?_
      refine (r_iconst (v := 0) f196_14 rfl).trans ?_
      exact r_zreturn f196_15 rfl (by decide)
    refine (r_stat (as := [.int x1, .int 0, .int 33]) (v := (some (.int 0))) (h1 := h) f263_4 rfl zg196 rfl rfl rfl rfl rfl rfl hc2).trans ?_
    refine (r_if_eq_t f263_7 (by decide)).trans ?_
    refine (r_iconst (v := 0) f263_22 rfl).trans ?_
    exact r_zreturn f263_23 rfl (by decide)
  refine (r_stat (as := [.int x1]) (v := (some (.int 0))) (h1 := h) f264_1 rfl zg263 rfl rfl rfl rfl rfl rfl hc1).trans ?_
  refine (r_if_eq_t f264_4 (by decide)).trans ?_
  refine (r_iconst (v := (-1)) f264_14 rfl).trans ?_
  exact r_ireturn f264_15 rfl
set_option maxHeartbeats 40000000 in
theorem qm24_5_1 {X : aX} {n d : Nat} {h : aH} {x1 : Int32} {x2 : Int32}  (ec0 : ¬ x1 < 0) (ec4 : ¬ x2 < 0) (ec5 : 9 < x2) (em0 : ¬ 33 < x1) (em1 : ¬ 3 < (x1 - x1 / 10 * 10)) : arun X (n + 17) (d + 3) zM264 0 [some (.ref 72), some (.int x1), some (.int x2)] [] h = some (some (.int (-1)), h) := by
  refine (r_iloadn f264_0 rfl).trans ?_
  have hc1 : arun X (n + 15) (d + 2) zM263 0 [some (.int x1)] [] h = some ((some (.int 1)), h) := by
    refine (r_iloadn f263_0 rfl).trans ?_
    refine (r_iconst (v := 0) f263_1 rfl).trans ?_
    refine (r_bipush (v := 33) f263_2 rfl).trans ?_
    have hc2 : arun X (n + 11) (d + 1) zM196 0 [some (.int x1), some (.int 0), some (.int 33)] [] h = some ((some (.int 1)), h) := by
      refine (r_iloadn f196_0 rfl).trans ?_
      refine (r_iloadn f196_1 rfl).trans ?_
      refine (r_icmp_lt_f f196_2 ec0).trans ?_
      refine (r_iloadn f196_5 rfl).trans ?_
      refine (r_iloadn f196_6 rfl).trans ?_
      refine (r_icmp_gt_f f196_7 em0).trans ?_
      refine (r_iconst (v := 1) f196_10 rfl).trans ?_
      refine (r_goto f196_11).trans ?_
      exact r_zreturn f196_15 rfl (by decide)
    refine (r_stat (as := [.int x1, .int 0, .int 33]) (v := (some (.int 1))) (h1 := h) f263_4 rfl zg196 rfl rfl rfl rfl rfl rfl hc2).trans ?_
    refine (r_if_eq_f f263_7 (by decide)).trans ?_
    refine (r_iloadn f263_10 rfl).trans ?_
    refine (r_bipush (v := 10) f263_11 rfl).trans ?_
    refine (r_irem (v := (x1 - x1 / 10 * 10)) f263_13 (by decide) rfl).trans ?_
    refine (r_iconst (v := 3) f263_14 rfl).trans ?_
    refine (r_icmp_gt_f f263_15 em1).trans ?_
    refine (r_iconst (v := 1) f263_18 rfl).trans ?_
    refine (r_goto f263_19).trans ?_
    exact r_zreturn f263_23 rfl (by decide)
  refine (r_stat (as := [.int x1]) (v := (some (.int 1))) (h1 := h) f264_1 rfl zg263 rfl rfl rfl rfl rfl rfl hc1).trans ?_
  refine (r_if_eq_f f264_4 (by decide)).trans ?_
  refine (r_iloadn f264_7 rfl).trans ?_
  have hc3 : arun X (n + 12) (d + 2) zM198 0 [some (.int x2)] [] h = some ((some (.int 0)), h) := by
    refine (r_iloadn f198_0 rfl).trans ?_
    refine (r_iconst (v := 0) f198_1 rfl).trans ?_
    refine (r_bipush (v := 9) f198_2 rfl).trans ?_
    have hc4 : arun X (n + 8) (d + 1) zM196 0 [some (.int x2), some (.int 0), some (.int 9)] [] h = some ((some (.int 0)), h) := by
      refine (r_iloadn f196_0 rfl).trans ?_
      refine (r_iloadn f196_1 rfl).trans ?_
      refine (r_icmp_lt_f f196_2 ec4).trans ?_
      refine (r_iloadn f196_5 rfl).trans ?_
      refine (r_iloadn f196_6 rfl).trans ?_
      refine (r_icmp_gt_t f196_7 ec5).trans ?_
      refine (r_iconst (v := 0) f196_14 rfl).trans ?_
      exact r_zreturn f196_15 rfl (by decide)
    refine (r_stat (as := [.int x2, .int 0, .int 9]) (v := (some (.int 0))) (h1 := h) f198_4 rfl zg196 rfl rfl rfl rfl rfl rfl hc4).trans ?_
    exact r_zreturn f198_7 rfl (by decide)
  refine (r_stat (as := [.int x2]) (v := (some (.int 0))) (h1 := h) f264_8 rfl zg198 rfl rfl rfl rfl rfl rfl hc3).trans ?_
  refine (r_if_ne_f f264_11 (by decide)).trans ?_
  refine (r_iconst (v := (-1)) f264_14 rfl).trans ?_
  exact r_ireturn f264_15 rfl
set_option maxHeartbeats 40000000 in
theorem qc24_6 {X : aX} {n d : Nat} {h : aH} {x1 : Int32} {x2 : Int32}  (g0 : h.1[0]? = some (.inr (11, zF0))) (g1 : h.1[1]? = some (.inr (6, zF1))) (g33 : h.1[33]? = some (.inr (10, zF33))) (g34 : h.1[34]? = some (.inl (3, 160, .inl (fun _ => 0)))) (g35 : h.1[35]? = some (.inl (3, 2560, .inl (fun _ => 0)))) (g36 : h.1[36]? = some (.inl (0, 16, .inl (fun _ => 0)))) (ec0 : ¬ x1 < 0) (ec1 : ¬ (x1 / 10) < 0) (ec2 : ¬ 3 < (x1 / 10)) (ec3 : ¬ 4 ≤ (x1 - x1 / 10 * 10)) (ec4 : ¬ x2 < 0) (ec5 : ¬ 9 < x2) : arun X (n + 126) (d + 11) zM168 0 [some (.ref 0), some (.int x1), some (.int x2)] [] h = some (some (.int (-100)), ((((h.1.set 35 (.inl (3, 2560, .inl ((va_cpy (fun _ => 0) (fun _ => 0) (Int32.toNatClampNeg 0) (Int32.toNatClampNeg 0) (Int32.toNatClampNeg 0)))))).set 36 (.inl (0, 16, .inl (upd (fun _ => 0) (Int32.toNatClampNeg 0) 0)))).set 33 (.inr (10, [.ref 34, .int 0, .ref 35, .ref 36, .ref 37, .ref 38, .ref 39, .int 0, .ref 40, .int 0, .int 0, .int 0, .int 0, .ref 40, .int (-1)]))), h.2)) := by
  refine (r_iloadn f168_0 rfl).trans ?_
  have hc1 : arun X (n + 124) (d + 10) zM143 0 [some (.int x1)] [] h = some ((some (.int 1)), h) := by
    refine (r_iloadn f143_0 rfl).trans ?_
    refine (r_if_lt_f f143_1 ec0).trans ?_
    refine (r_iloadn f143_4 rfl).trans ?_
    refine (r_bipush (v := 10) f143_5 rfl).trans ?_
    refine (r_idiv (v := (x1 / 10)) f143_7 (by decide) rfl).trans ?_
    have hc2 : arun X (n + 118) (d + 9) zM140 0 [some (.int (x1 / 10))] [] h = some ((some (.int 1)), h) := by
      refine (r_iloadn f140_0 rfl).trans ?_
      refine (r_iconst (v := 0) f140_1 rfl).trans ?_
      refine (r_iconst (v := 3) f140_2 rfl).trans ?_
      have hc3 : arun X (n + 114) (d + 8) zM137 0 [some (.int (x1 / 10)), some (.int 0), some (.int 3)] [] h = some ((some (.int 1)), h) := by
        refine (r_iloadn f137_0 rfl).trans ?_
        refine (r_iloadn f137_1 rfl).trans ?_
        refine (r_icmp_gt_f f137_2 ec1).trans ?_
        refine (r_iloadn f137_5 rfl).trans ?_
        refine (r_iloadn f137_6 rfl).trans ?_
        refine (r_icmp_gt_f f137_7 ec2).trans ?_
        refine (r_iconst (v := 1) f137_10 rfl).trans ?_
        refine (r_goto f137_11).trans ?_
        exact r_zreturn f137_15 rfl (by decide)
      refine (r_stat (as := [.int (x1 / 10), .int 0, .int 3]) (v := (some (.int 1))) (h1 := h) f140_3 rfl zg137 rfl rfl rfl rfl rfl rfl hc3).trans ?_
      exact r_zreturn f140_6 rfl (by decide)
    refine (r_stat (as := [.int (x1 / 10)]) (v := (some (.int 1))) (h1 := h) f143_8 rfl zg140 rfl rfl rfl rfl rfl rfl hc2).trans ?_
    refine (r_if_eq_f f143_11 (by decide)).trans ?_
    refine (r_iloadn f143_14 rfl).trans ?_
    refine (r_bipush (v := 10) f143_15 rfl).trans ?_
    refine (r_irem (v := (x1 - x1 / 10 * 10)) f143_17 (by decide) rfl).trans ?_
    refine (r_iconst (v := 4) f143_18 rfl).trans ?_
    refine (r_icmp_ge_f f143_19 ec3).trans ?_
    refine (r_iconst (v := 1) f143_22 rfl).trans ?_
    refine (r_goto f143_23).trans ?_
    exact r_zreturn f143_27 rfl (by decide)
  refine (r_stat (as := [.int x1]) (v := (some (.int 1))) (h1 := h) f168_1 rfl zg143 rfl rfl rfl rfl rfl rfl hc1).trans ?_
  refine (r_if_eq_f f168_4 (by decide)).trans ?_
  refine (r_iloadn f168_7 rfl).trans ?_
  have hc4 : arun X (n + 121) (d + 10) zM139 0 [some (.int x2)] [] h = some ((some (.int 1)), h) := by
    refine (r_iloadn f139_0 rfl).trans ?_
    refine (r_iconst (v := 0) f139_1 rfl).trans ?_
    refine (r_bipush (v := 9) f139_2 rfl).trans ?_
    have hc5 : arun X (n + 117) (d + 9) zM137 0 [some (.int x2), some (.int 0), some (.int 9)] [] h = some ((some (.int 1)), h) := by
      refine (r_iloadn f137_0 rfl).trans ?_
      refine (r_iloadn f137_1 rfl).trans ?_
      refine (r_icmp_gt_f f137_2 ec4).trans ?_
      refine (r_iloadn f137_5 rfl).trans ?_
      refine (r_iloadn f137_6 rfl).trans ?_
      refine (r_icmp_gt_f f137_7 ec5).trans ?_
      refine (r_iconst (v := 1) f137_10 rfl).trans ?_
      refine (r_goto f137_11).trans ?_
      exact r_zreturn f137_15 rfl (by decide)
    refine (r_stat (as := [.int x2, .int 0, .int 9]) (v := (some (.int 1))) (h1 := h) f139_4 rfl zg137 rfl rfl rfl rfl rfl rfl hc5).trans ?_
    exact r_zreturn f139_7 rfl (by decide)
  refine (r_stat (as := [.int x2]) (v := (some (.int 1))) (h1 := h) f168_8 rfl zg139 rfl rfl rfl rfl rfl rfl hc4).trans ?_
  refine (r_if_ne_t f168_11 (by decide)).trans ?_
  refine (r_aloadn f168_16 rfl).trans ?_
  refine (r_get (v := .ref 33) f168_17 g0 rfl).trans ?_
  refine (r_get (v := .int 0) f168_20 g33 rfl).trans ?_
  refine (r_bipush (v := 16) f168_23 rfl).trans ?_
  refine (r_icmp_lt_t f168_25 (by decide)).trans ?_
  refine (r_aloadn f168_33 rfl).trans ?_
  refine (r_get (v := .ref 33) f168_34 g0 rfl).trans ?_
  refine (r_iloadn f168_37 rfl).trans ?_
  refine (r_iloadn f168_38 rfl).trans ?_
  refine (r_aloadn f168_39 rfl).trans ?_
  refine (r_get (v := .ref 1) f168_40 g0 rfl).trans ?_
  refine (r_get (v := .int 0) f168_43 g1 rfl).trans ?_
  have hc6 : arun X (n + 107) (d + 10) zM118 0 [some (.ref 33), some (.int x1), some (.int x2), some (.int 0), none] [] h = some ((some (.int (-100))), ((((h.1.set 35 (.inl (3, 2560, .inl ((va_cpy (fun _ => 0) (fun _ => 0) (Int32.toNatClampNeg 0) (Int32.toNatClampNeg 0) (Int32.toNatClampNeg 0)))))).set 36 (.inl (0, 16, .inl (upd (fun _ => 0) (Int32.toNatClampNeg 0) 0)))).set 33 (.inr (10, [.ref 34, .int 0, .ref 35, .ref 36, .ref 37, .ref 38, .ref 39, .int 0, .ref 40, .int 0, .int 0, .int 0, .int 0, .ref 40, .int (-1)]))), h.2)) := by
    refine (r_aloadn f118_0 rfl).trans ?_
    refine (r_get (v := .int 0) f118_1 g33 rfl).trans ?_
    refine (r_bipush (v := 16) f118_4 rfl).trans ?_
    refine (r_icmp_lt_t f118_6 (by decide)).trans ?_
    refine (r_aloadn f118_12 rfl).trans ?_
    refine (r_get (v := .ref 34) f118_13 g33 rfl).trans ?_
    refine (r_iconst (v := 0) f118_16 rfl).trans ?_
    refine (r_aloadn f118_17 rfl).trans ?_
    refine (r_get (v := .ref 35) f118_18 g33 rfl).trans ?_
    refine (r_aloadn f118_21 rfl).trans ?_
    refine (r_get (v := .int 0) f118_22 g33 rfl).trans ?_
    refine (r_sipush (v := 160) f118_25 rfl).trans ?_
    refine (r_imul (v := 0) f118_28 (by decide)).trans ?_
    refine (r_aloadn f118_29 rfl).trans ?_
    refine (r_get (v := .int 0) f118_30 g33 rfl).trans ?_
    refine (r_cp3 (h' := ((h.1.set 35 (.inl (3, 2560, .inl ((va_cpy (fun _ => 0) (fun _ => 0) (Int32.toNatClampNeg 0) (Int32.toNatClampNeg 0) (Int32.toNatClampNeg 0)))))), h.2)) f118_33 rfl g34 g35 (by decide) rfl rfl rfl).trans ?_
    refine (r_aloadn f118_36 rfl).trans ?_
    refine (r_get (v := .ref 36) f118_37 (gs_ne g33 (by decide)) rfl).trans ?_
    refine (r_aloadn f118_40 rfl).trans ?_
    refine (r_get (v := .int 0) f118_41 (gs_ne g33 (by decide)) rfl).trans ?_
    refine (r_aloadn f118_44 rfl).trans ?_
    refine (r_get (v := .int 0) f118_45 (gs_ne g33 (by decide)) rfl).trans ?_
    refine (r_iast (h' := (((h.1.set 35 (.inl (3, 2560, .inl ((va_cpy (fun _ => 0) (fun _ => 0) (Int32.toNatClampNeg 0) (Int32.toNatClampNeg 0) (Int32.toNatClampNeg 0)))))).set 36 (.inl (0, 16, .inl (upd (fun _ => 0) (Int32.toNatClampNeg 0) 0)))), h.2)) f118_48 (gs_ne g36 (by decide)) (by decide) rfl).trans ?_
    refine (r_aloadn f118_49 rfl).trans ?_
    refine (r_iconst (v := 0) f118_50 rfl).trans ?_
    refine (r_put (h' := ((((h.1.set 35 (.inl (3, 2560, .inl ((va_cpy (fun _ => 0) (fun _ => 0) (Int32.toNatClampNeg 0) (Int32.toNatClampNeg 0) (Int32.toNatClampNeg 0)))))).set 36 (.inl (0, 16, .inl (upd (fun _ => 0) (Int32.toNatClampNeg 0) 0)))).set 33 (.inr (10, [.ref 34, .int 0, .ref 35, .ref 36, .ref 37, .ref 38, .ref 39, .int 0, .ref 40, .int 0, .int 0, .int 0, .int 0, .ref 40, .int 0]))), h.2)) f118_51 (gs_ne (gs_ne g33 (by decide)) (by decide)) rfl rfl).trans ?_
    refine (r_aloadn f118_54 rfl).trans ?_
    refine (r_aloadn f118_55 rfl).trans ?_
    refine (r_get (v := .int 0) f118_56 (gs_eq (gs_ne (gs_ne g33 (by decide)) (by decide))) rfl).trans ?_
    have hc7 : arun X (n + 77) (d + 9) zM122 0 [some (.ref 33), some (.int 0), none, none] [] ((((h.1.set 35 (.inl (3, 2560, .inl ((va_cpy (fun _ => 0) (fun _ => 0) (Int32.toNatClampNeg 0) (Int32.toNatClampNeg 0) (Int32.toNatClampNeg 0)))))).set 36 (.inl (0, 16, .inl (upd (fun _ => 0) (Int32.toNatClampNeg 0) 0)))).set 33 (.inr (10, [.ref 34, .int 0, .ref 35, .ref 36, .ref 37, .ref 38, .ref 39, .int 0, .ref 40, .int 0, .int 0, .int 0, .int 0, .ref 40, .int 0]))), h.2) = some ((some (.int 0)), ((((h.1.set 35 (.inl (3, 2560, .inl ((va_cpy (fun _ => 0) (fun _ => 0) (Int32.toNatClampNeg 0) (Int32.toNatClampNeg 0) (Int32.toNatClampNeg 0)))))).set 36 (.inl (0, 16, .inl (upd (fun _ => 0) (Int32.toNatClampNeg 0) 0)))).set 33 (.inr (10, [.ref 34, .int 0, .ref 35, .ref 36, .ref 37, .ref 38, .ref 39, .int 0, .ref 40, .int 0, .int 0, .int 0, .int 0, .ref 40, .int (-1)]))), h.2)) := by
      refine (r_aloadn f122_0 rfl).trans ?_
      refine (r_iloadn f122_1 rfl).trans ?_
      refine (r_aloadn f122_2 rfl).trans ?_
      refine (r_get (v := .ref 40) f122_3 (gs_eq (gs_ne (gs_ne g33 (by decide)) (by decide))) rfl).trans ?_
      have hc8 : arun X (n + 72) (d + 8) zM123 0 [some (.ref 33), some (.int 0), some (.ref 40)] [] ((((h.1.set 35 (.inl (3, 2560, .inl ((va_cpy (fun _ => 0) (fun _ => 0) (Int32.toNatClampNeg 0) (Int32.toNatClampNeg 0) (Int32.toNatClampNeg 0)))))).set 36 (.inl (0, 16, .inl (upd (fun _ => 0) (Int32.toNatClampNeg 0) 0)))).set 33 (.inr (10, [.ref 34, .int 0, .ref 35, .ref 36, .ref 37, .ref 38, .ref 39, .int 0, .ref 40, .int 0, .int 0, .int 0, .int 0, .ref 40, .int 0]))), h.2) = some (none, ((((h.1.set 35 (.inl (3, 2560, .inl ((va_cpy (fun _ => 0) (fun _ => 0) (Int32.toNatClampNeg 0) (Int32.toNatClampNeg 0) (Int32.toNatClampNeg 0)))))).set 36 (.inl (0, 16, .inl (upd (fun _ => 0) (Int32.toNatClampNeg 0) 0)))).set 33 (.inr (10, [.ref 34, .int 0, .ref 35, .ref 36, .ref 37, .ref 38, .ref 39, .int 0, .ref 40, .int 0, .int 0, .int 0, .int (-1), .ref 40, .int (-1)]))), h.2)) := by
        refine (r_aloadn f123_0 rfl).trans ?_
        refine (r_iloadn f123_1 rfl).trans ?_
        refine (r_sipush (v := 160) f123_2 rfl).trans ?_
        refine (r_imul (v := 0) f123_5 (by decide)).trans ?_
        refine (r_put (h' := ((((h.1.set 35 (.inl (3, 2560, .inl ((va_cpy (fun _ => 0) (fun _ => 0) (Int32.toNatClampNeg 0) (Int32.toNatClampNeg 0) (Int32.toNatClampNeg 0)))))).set 36 (.inl (0, 16, .inl (upd (fun _ => 0) (Int32.toNatClampNeg 0) 0)))).set 33 (.inr (10, [.ref 34, .int 0, .ref 35, .ref 36, .ref 37, .ref 38, .ref 39, .int 0, .ref 40, .int 0, .int 0, .int 0, .int 0, .ref 40, .int 0]))), h.2)) f123_6 (gs_eq (gs_ne (gs_ne g33 (by decide)) (by decide))) rfl hss).trans ?_
        refine (r_aloadn f123_9 rfl).trans ?_
        refine (r_aloadn f123_10 rfl).trans ?_
        refine (r_get (v := .ref 36) f123_11 (gs_eq (gs_ne (gs_ne g33 (by decide)) (by decide))) rfl).trans ?_
        refine (r_iloadn f123_14 rfl).trans ?_
        refine (r_iald (v := 0) f123_15 (gs_ne (gs_eq (gs_ne g36 (by decide))) (by decide)) (by decide) rfl).trans ?_
        refine (r_put (h' := ((((h.1.set 35 (.inl (3, 2560, .inl ((va_cpy (fun _ => 0) (fun _ => 0) (Int32.toNatClampNeg 0) (Int32.toNatClampNeg 0) (Int32.toNatClampNeg 0)))))).set 36 (.inl (0, 16, .inl (upd (fun _ => 0) (Int32.toNatClampNeg 0) 0)))).set 33 (.inr (10, [.ref 34, .int 0, .ref 35, .ref 36, .ref 37, .ref 38, .ref 39, .int 0, .ref 40, .int 0, .int 0, .int 0, .int 0, .ref 40, .int 0]))), h.2)) f123_16 (gs_eq (gs_ne (gs_ne g33 (by decide)) (by decide))) rfl hss).trans ?_
        refine (r_aloadn f123_19 rfl).trans ?_
        refine (r_iconst (v := 0) f123_20 rfl).trans ?_
        refine (r_put (h' := ((((h.1.set 35 (.inl (3, 2560, .inl ((va_cpy (fun _ => 0) (fun _ => 0) (Int32.toNatClampNeg 0) (Int32.toNatClampNeg 0) (Int32.toNatClampNeg 0)))))).set 36 (.inl (0, 16, .inl (upd (fun _ => 0) (Int32.toNatClampNeg 0) 0)))).set 33 (.inr (10, [.ref 34, .int 0, .ref 35, .ref 36, .ref 37, .ref 38, .ref 39, .int 0, .ref 40, .int 0, .int 0, .int 0, .int 0, .ref 40, .int 0]))), h.2)) f123_21 (gs_eq (gs_ne (gs_ne g33 (by decide)) (by decide))) rfl hss).trans ?_
        refine (r_aloadn f123_24 rfl).trans ?_
        refine (r_iconst (v := (-1)) f123_25 rfl).trans ?_
        refine (r_put (h' := ((((h.1.set 35 (.inl (3, 2560, .inl ((va_cpy (fun _ => 0) (fun _ => 0) (Int32.toNatClampNeg 0) (Int32.toNatClampNeg 0) (Int32.toNatClampNeg 0)))))).set 36 (.inl (0, 16, .inl (upd (fun _ => 0) (Int32.toNatClampNeg 0) 0)))).set 33 (.inr (10, [.ref 34, .int 0, .ref 35, .ref 36, .ref 37, .ref 38, .ref 39, .int 0, .ref 40, .int 0, .int 0, .int 0, .int (-1), .ref 40, .int 0]))), h.2)) f123_26 (gs_eq (gs_ne (gs_ne g33 (by decide)) (by decide))) rfl hss).trans ?_
        refine (r_aloadn f123_29 rfl).trans ?_
        refine (r_aloadn f123_30 rfl).trans ?_
        refine (r_put (h' := ((((h.1.set 35 (.inl (3, 2560, .inl ((va_cpy (fun _ => 0) (fun _ => 0) (Int32.toNatClampNeg 0) (Int32.toNatClampNeg 0) (Int32.toNatClampNeg 0)))))).set 36 (.inl (0, 16, .inl (upd (fun _ => 0) (Int32.toNatClampNeg 0) 0)))).set 33 (.inr (10, [.ref 34, .int 0, .ref 35, .ref 36, .ref 37, .ref 38, .ref 39, .int 0, .ref 40, .int 0, .int 0, .int 0, .int (-1), .ref 40, .int 0]))), h.2)) f123_31 (gs_eq (gs_ne (gs_ne g33 (by decide)) (by decide))) rfl hss).trans ?_
        refine (r_aloadn f123_34 rfl).trans ?_
        refine (r_iconst (v := (-1)) f123_35 rfl).trans ?_
        refine (r_put (h' := ((((h.1.set 35 (.inl (3, 2560, .inl ((va_cpy (fun _ => 0) (fun _ => 0) (Int32.toNatClampNeg 0) (Int32.toNatClampNeg 0) (Int32.toNatClampNeg 0)))))).set 36 (.inl (0, 16, .inl (upd (fun _ => 0) (Int32.toNatClampNeg 0) 0)))).set 33 (.inr (10, [.ref 34, .int 0, .ref 35, .ref 36, .ref 37, .ref 38, .ref 39, .int 0, .ref 40, .int 0, .int 0, .int 0, .int (-1), .ref 40, .int (-1)]))), h.2)) f123_36 (gs_eq (gs_ne (gs_ne g33 (by decide)) (by decide))) rfl hss).trans ?_
        exact r_vreturn f123_39 rfl
      refine (r_virt (as := [.int 0, .ref 40]) (v := none) (h1 := ((((h.1.set 35 (.inl (3, 2560, .inl ((va_cpy (fun _ => 0) (fun _ => 0) (Int32.toNatClampNeg 0) (Int32.toNatClampNeg 0) (Int32.toNatClampNeg 0)))))).set 36 (.inl (0, 16, .inl (upd (fun _ => 0) (Int32.toNatClampNeg 0) 0)))).set 33 (.inr (10, [.ref 34, .int 0, .ref 35, .ref 36, .ref 37, .ref 38, .ref 39, .int 0, .ref 40, .int 0, .int 0, .int 0, .int (-1), .ref 40, .int (-1)]))), h.2)) f122_6 (gs_eq (gs_ne (gs_ne g33 (by decide)) (by decide))) zg123 rfl rfl rfl rfl rfl rfl hc8).trans ?_
      refine (r_iconst (v := 1) f122_9 rfl).trans ?_
      refine (r_istoren (L' := [some (.ref 33), some (.int 0), some (.int 1), none]) f122_10 rfl rfl).trans ?_
      refine (r_iconst (v := 0) f122_11 rfl).trans ?_
      refine (r_istoren (L' := [some (.ref 33), some (.int 0), some (.int 1), some (.int 0)]) f122_12 rfl rfl).trans ?_
      refine (r_iloadn f122_13 rfl).trans ?_
      refine (r_sipush (v := 160) f122_14 rfl).trans ?_
      refine (r_icmp_ge_f f122_17 (by decide)).trans ?_
      refine (r_iloadn f122_20 rfl).trans ?_
      refine (r_if_eq_f f122_21 (by decide)).trans ?_
      refine (r_aloadn f122_24 rfl).trans ?_
      refine (r_iconst (v := 0) f122_25 rfl).trans ?_
      have hc9 : arun X (n + 60) (d + 8) zM128 0 [some (.ref 33), some (.int 0), none, none, none] [] ((((h.1.set 35 (.inl (3, 2560, .inl ((va_cpy (fun _ => 0) (fun _ => 0) (Int32.toNatClampNeg 0) (Int32.toNatClampNeg 0) (Int32.toNatClampNeg 0)))))).set 36 (.inl (0, 16, .inl (upd (fun _ => 0) (Int32.toNatClampNeg 0) 0)))).set 33 (.inr (10, [.ref 34, .int 0, .ref 35, .ref 36, .ref 37, .ref 38, .ref 39, .int 0, .ref 40, .int 0, .int 0, .int 0, .int (-1), .ref 40, .int (-1)]))), h.2) = some ((some (.int 0)), ((((h.1.set 35 (.inl (3, 2560, .inl ((va_cpy (fun _ => 0) (fun _ => 0) (Int32.toNatClampNeg 0) (Int32.toNatClampNeg 0) (Int32.toNatClampNeg 0)))))).set 36 (.inl (0, 16, .inl (upd (fun _ => 0) (Int32.toNatClampNeg 0) 0)))).set 33 (.inr (10, [.ref 34, .int 0, .ref 35, .ref 36, .ref 37, .ref 38, .ref 39, .int 0, .ref 40, .int 0, .int 0, .int 0, .int 0, .ref 40, .int (-1)]))), h.2)) := by
        refine (r_aloadn f128_0 rfl).trans ?_
        refine (r_iloadn f128_1 rfl).trans ?_
        have hc10 : arun X (n + 57) (d + 7) zM129 0 [some (.ref 33), some (.int 0), none, none, none] [] ((((h.1.set 35 (.inl (3, 2560, .inl ((va_cpy (fun _ => 0) (fun _ => 0) (Int32.toNatClampNeg 0) (Int32.toNatClampNeg 0) (Int32.toNatClampNeg 0)))))).set 36 (.inl (0, 16, .inl (upd (fun _ => 0) (Int32.toNatClampNeg 0) 0)))).set 33 (.inr (10, [.ref 34, .int 0, .ref 35, .ref 36, .ref 37, .ref 38, .ref 39, .int 0, .ref 40, .int 0, .int 0, .int 0, .int (-1), .ref 40, .int (-1)]))), h.2) = some ((some (.int 0)), ((((h.1.set 35 (.inl (3, 2560, .inl ((va_cpy (fun _ => 0) (fun _ => 0) (Int32.toNatClampNeg 0) (Int32.toNatClampNeg 0) (Int32.toNatClampNeg 0)))))).set 36 (.inl (0, 16, .inl (upd (fun _ => 0) (Int32.toNatClampNeg 0) 0)))).set 33 (.inr (10, [.ref 34, .int 0, .ref 35, .ref 36, .ref 37, .ref 38, .ref 39, .int 0, .ref 40, .int 0, .int 0, .int 0, .int 0, .ref 40, .int (-1)]))), h.2)) := by
          refine (r_aloadn f129_0 rfl).trans ?_
          refine (r_iloadn f129_1 rfl).trans ?_
          have hc11 : arun X (n + 54) (d + 6) zM130 0 [some (.ref 33), some (.int 0), none] [] ((((h.1.set 35 (.inl (3, 2560, .inl ((va_cpy (fun _ => 0) (fun _ => 0) (Int32.toNatClampNeg 0) (Int32.toNatClampNeg 0) (Int32.toNatClampNeg 0)))))).set 36 (.inl (0, 16, .inl (upd (fun _ => 0) (Int32.toNatClampNeg 0) 0)))).set 33 (.inr (10, [.ref 34, .int 0, .ref 35, .ref 36, .ref 37, .ref 38, .ref 39, .int 0, .ref 40, .int 0, .int 0, .int 0, .int (-1), .ref 40, .int (-1)]))), h.2) = some ((some (.int 0)), ((((h.1.set 35 (.inl (3, 2560, .inl ((va_cpy (fun _ => 0) (fun _ => 0) (Int32.toNatClampNeg 0) (Int32.toNatClampNeg 0) (Int32.toNatClampNeg 0)))))).set 36 (.inl (0, 16, .inl (upd (fun _ => 0) (Int32.toNatClampNeg 0) 0)))).set 33 (.inr (10, [.ref 34, .int 0, .ref 35, .ref 36, .ref 37, .ref 38, .ref 39, .int 0, .ref 40, .int 0, .int 0, .int 0, .int 0, .ref 40, .int (-1)]))), h.2)) := by
            refine (r_aloadn f130_0 rfl).trans ?_
            refine (r_iloadn f130_1 rfl).trans ?_
            have hc12 : arun X (n + 51) (d + 5) zM131 0 [some (.ref 33), some (.int 0), none, none] [] ((((h.1.set 35 (.inl (3, 2560, .inl ((va_cpy (fun _ => 0) (fun _ => 0) (Int32.toNatClampNeg 0) (Int32.toNatClampNeg 0) (Int32.toNatClampNeg 0)))))).set 36 (.inl (0, 16, .inl (upd (fun _ => 0) (Int32.toNatClampNeg 0) 0)))).set 33 (.inr (10, [.ref 34, .int 0, .ref 35, .ref 36, .ref 37, .ref 38, .ref 39, .int 0, .ref 40, .int 0, .int 0, .int 0, .int (-1), .ref 40, .int (-1)]))), h.2) = some ((some (.int 0)), ((((h.1.set 35 (.inl (3, 2560, .inl ((va_cpy (fun _ => 0) (fun _ => 0) (Int32.toNatClampNeg 0) (Int32.toNatClampNeg 0) (Int32.toNatClampNeg 0)))))).set 36 (.inl (0, 16, .inl (upd (fun _ => 0) (Int32.toNatClampNeg 0) 0)))).set 33 (.inr (10, [.ref 34, .int 0, .ref 35, .ref 36, .ref 37, .ref 38, .ref 39, .int 0, .ref 40, .int 0, .int 0, .int 0, .int 0, .ref 40, .int (-1)]))), h.2)) := by
              refine (r_aloadn f131_0 rfl).trans ?_
              refine (r_iloadn f131_1 rfl).trans ?_
              have hc13 : arun X (n + 48) (d + 4) zM132 0 [some (.ref 33), some (.int 0), none, none, none] [] ((((h.1.set 35 (.inl (3, 2560, .inl ((va_cpy (fun _ => 0) (fun _ => 0) (Int32.toNatClampNeg 0) (Int32.toNatClampNeg 0) (Int32.toNatClampNeg 0)))))).set 36 (.inl (0, 16, .inl (upd (fun _ => 0) (Int32.toNatClampNeg 0) 0)))).set 33 (.inr (10, [.ref 34, .int 0, .ref 35, .ref 36, .ref 37, .ref 38, .ref 39, .int 0, .ref 40, .int 0, .int 0, .int 0, .int (-1), .ref 40, .int (-1)]))), h.2) = some ((some (.int 0)), ((((h.1.set 35 (.inl (3, 2560, .inl ((va_cpy (fun _ => 0) (fun _ => 0) (Int32.toNatClampNeg 0) (Int32.toNatClampNeg 0) (Int32.toNatClampNeg 0)))))).set 36 (.inl (0, 16, .inl (upd (fun _ => 0) (Int32.toNatClampNeg 0) 0)))).set 33 (.inr (10, [.ref 34, .int 0, .ref 35, .ref 36, .ref 37, .ref 38, .ref 39, .int 0, .ref 40, .int 0, .int 0, .int 0, .int 0, .ref 40, .int (-1)]))), h.2)) := by
                refine (r_aloadn f132_0 rfl).trans ?_
                refine (r_iloadn f132_1 rfl).trans ?_
                have hc14 : arun X (n + 45) (d + 3) zM133 0 [some (.ref 33), some (.int 0), none, none, none] [] ((((h.1.set 35 (.inl (3, 2560, .inl ((va_cpy (fun _ => 0) (fun _ => 0) (Int32.toNatClampNeg 0) (Int32.toNatClampNeg 0) (Int32.toNatClampNeg 0)))))).set 36 (.inl (0, 16, .inl (upd (fun _ => 0) (Int32.toNatClampNeg 0) 0)))).set 33 (.inr (10, [.ref 34, .int 0, .ref 35, .ref 36, .ref 37, .ref 38, .ref 39, .int 0, .ref 40, .int 0, .int 0, .int 0, .int (-1), .ref 40, .int (-1)]))), h.2) = some ((some (.int 0)), ((((h.1.set 35 (.inl (3, 2560, .inl ((va_cpy (fun _ => 0) (fun _ => 0) (Int32.toNatClampNeg 0) (Int32.toNatClampNeg 0) (Int32.toNatClampNeg 0)))))).set 36 (.inl (0, 16, .inl (upd (fun _ => 0) (Int32.toNatClampNeg 0) 0)))).set 33 (.inr (10, [.ref 34, .int 0, .ref 35, .ref 36, .ref 37, .ref 38, .ref 39, .int 0, .ref 40, .int 0, .int 0, .int 0, .int 0, .ref 40, .int (-1)]))), h.2)) := by
                  refine (r_aloadn f133_0 rfl).trans ?_
                  have hc15 : arun X (n + 43) (d + 2) zM124 0 [some (.ref 33)] [] ((((h.1.set 35 (.inl (3, 2560, .inl ((va_cpy (fun _ => 0) (fun _ => 0) (Int32.toNatClampNeg 0) (Int32.toNatClampNeg 0) (Int32.toNatClampNeg 0)))))).set 36 (.inl (0, 16, .inl (upd (fun _ => 0) (Int32.toNatClampNeg 0) 0)))).set 33 (.inr (10, [.ref 34, .int 0, .ref 35, .ref 36, .ref 37, .ref 38, .ref 39, .int 0, .ref 40, .int 0, .int 0, .int 0, .int (-1), .ref 40, .int (-1)]))), h.2) = some ((some (.int (-1))), ((((h.1.set 35 (.inl (3, 2560, .inl ((va_cpy (fun _ => 0) (fun _ => 0) (Int32.toNatClampNeg 0) (Int32.toNatClampNeg 0) (Int32.toNatClampNeg 0)))))).set 36 (.inl (0, 16, .inl (upd (fun _ => 0) (Int32.toNatClampNeg 0) 0)))).set 33 (.inr (10, [.ref 34, .int 0, .ref 35, .ref 36, .ref 37, .ref 38, .ref 39, .int 0, .ref 40, .int 0, .int 0, .int 0, .int (-1), .ref 40, .int (-1)]))), h.2)) := by
                    refine (r_aloadn f124_0 rfl).trans ?_
                    refine (r_get (v := .int (-1)) f124_1 (gs_eq (gs_ne (gs_ne g33 (by decide)) (by decide))) rfl).trans ?_
                    refine (r_iconst (v := (-1)) f124_4 rfl).trans ?_
                    refine (r_icmp_ne_f f124_5 (by decide)).trans ?_
                    refine (r_aloadn f124_8 rfl).trans ?_
                    refine (r_get (v := .int 0) f124_9 (gs_eq (gs_ne (gs_ne g33 (by decide)) (by decide))) rfl).trans ?_
                    refine (r_aloadn f124_12 rfl).trans ?_
                    refine (r_get (v := .int 0) f124_13 (gs_eq (gs_ne (gs_ne g33 (by decide)) (by decide))) rfl).trans ?_
                    refine (r_icmp_ge_t f124_16 (by decide)).trans ?_
                    refine (r_iconst (v := (-1)) f124_40 rfl).trans ?_
                    exact r_ireturn f124_41 rfl
                  refine (r_virt (as := []) (v := (some (.int (-1)))) (h1 := ((((h.1.set 35 (.inl (3, 2560, .inl ((va_cpy (fun _ => 0) (fun _ => 0) (Int32.toNatClampNeg 0) (Int32.toNatClampNeg 0) (Int32.toNatClampNeg 0)))))).set 36 (.inl (0, 16, .inl (upd (fun _ => 0) (Int32.toNatClampNeg 0) 0)))).set 33 (.inr (10, [.ref 34, .int 0, .ref 35, .ref 36, .ref 37, .ref 38, .ref 39, .int 0, .ref 40, .int 0, .int 0, .int 0, .int (-1), .ref 40, .int (-1)]))), h.2)) f133_1 (gs_eq (gs_ne (gs_ne g33 (by decide)) (by decide))) zg124 rfl rfl rfl rfl rfl rfl hc15).trans ?_
                  refine (r_istoren (L' := [some (.ref 33), some (.int 0), some (.int (-1)), none, none]) f133_4 rfl rfl).trans ?_
                  refine (r_iloadn f133_5 rfl).trans ?_
                  have hc16 : arun X (n + 40) (d + 2) zM134 0 [some (.int (-1))] [] ((((h.1.set 35 (.inl (3, 2560, .inl ((va_cpy (fun _ => 0) (fun _ => 0) (Int32.toNatClampNeg 0) (Int32.toNatClampNeg 0) (Int32.toNatClampNeg 0)))))).set 36 (.inl (0, 16, .inl (upd (fun _ => 0) (Int32.toNatClampNeg 0) 0)))).set 33 (.inr (10, [.ref 34, .int 0, .ref 35, .ref 36, .ref 37, .ref 38, .ref 39, .int 0, .ref 40, .int 0, .int 0, .int 0, .int (-1), .ref 40, .int (-1)]))), h.2) = some ((some (.int 0)), ((((h.1.set 35 (.inl (3, 2560, .inl ((va_cpy (fun _ => 0) (fun _ => 0) (Int32.toNatClampNeg 0) (Int32.toNatClampNeg 0) (Int32.toNatClampNeg 0)))))).set 36 (.inl (0, 16, .inl (upd (fun _ => 0) (Int32.toNatClampNeg 0) 0)))).set 33 (.inr (10, [.ref 34, .int 0, .ref 35, .ref 36, .ref 37, .ref 38, .ref 39, .int 0, .ref 40, .int 0, .int 0, .int 0, .int (-1), .ref 40, .int (-1)]))), h.2)) := by
                    refine (r_bipush (v := 48) f134_0 rfl).trans ?_
                    refine (r_iloadn f134_2 rfl).trans ?_
                    refine (r_icmp_gt_t f134_3 (by decide)).trans ?_
                    refine (r_iconst (v := 0) f134_16 rfl).trans ?_
                    exact r_zreturn f134_17 rfl (by decide)
                  refine (r_stat (as := [.int (-1)]) (v := (some (.int 0))) (h1 := ((((h.1.set 35 (.inl (3, 2560, .inl ((va_cpy (fun _ => 0) (fun _ => 0) (Int32.toNatClampNeg 0) (Int32.toNatClampNeg 0) (Int32.toNatClampNeg 0)))))).set 36 (.inl (0, 16, .inl (upd (fun _ => 0) (Int32.toNatClampNeg 0) 0)))).set 33 (.inr (10, [.ref 34, .int 0, .ref 35, .ref 36, .ref 37, .ref 38, .ref 39, .int 0, .ref 40, .int 0, .int 0, .int 0, .int (-1), .ref 40, .int (-1)]))), h.2)) f133_6 rfl zg134 rfl rfl rfl rfl rfl rfl hc16).trans ?_
                  refine (r_if_eq_t f133_9 (by decide)).trans ?_
                  refine (r_iloadn f133_17 rfl).trans ?_
                  refine (r_iconst (v := (-1)) f133_18 rfl).trans ?_
                  refine (r_icmp_ne_f f133_19 (by decide)).trans ?_
                  refine (r_iconst (v := (-1)) f133_22 rfl).trans ?_
                  refine (r_goto f133_23).trans ?_
                  refine (r_istoren (L' := [some (.ref 33), some (.int 0), some (.int (-1)), some (.int (-1)), none]) f133_33 rfl rfl).trans ?_
                  refine (r_iloadn f133_34 rfl).trans ?_
                  refine (r_iconst (v := (-1)) f133_35 rfl).trans ?_
                  refine (r_icmp_eq_t f133_36 (by decide)).trans ?_
                  refine (r_iloadn f133_56 rfl).trans ?_
                  refine (r_bipush (v := 8) f133_57 rfl).trans ?_
                  refine (r_icmp_lt_t f133_59 (by decide)).trans ?_
                  refine (r_aloadn f133_68 rfl).trans ?_
                  refine (r_bipush (v := 33) f133_69 rfl).trans ?_
                  have hc17 : arun X (n + 24) (d + 2) zM125 0 [some (.ref 33), some (.int 33), none] [] ((((h.1.set 35 (.inl (3, 2560, .inl ((va_cpy (fun _ => 0) (fun _ => 0) (Int32.toNatClampNeg 0) (Int32.toNatClampNeg 0) (Int32.toNatClampNeg 0)))))).set 36 (.inl (0, 16, .inl (upd (fun _ => 0) (Int32.toNatClampNeg 0) 0)))).set 33 (.inr (10, [.ref 34, .int 0, .ref 35, .ref 36, .ref 37, .ref 38, .ref 39, .int 0, .ref 40, .int 0, .int 0, .int 0, .int (-1), .ref 40, .int (-1)]))), h.2) = some ((some (.int 0)), ((((h.1.set 35 (.inl (3, 2560, .inl ((va_cpy (fun _ => 0) (fun _ => 0) (Int32.toNatClampNeg 0) (Int32.toNatClampNeg 0) (Int32.toNatClampNeg 0)))))).set 36 (.inl (0, 16, .inl (upd (fun _ => 0) (Int32.toNatClampNeg 0) 0)))).set 33 (.inr (10, [.ref 34, .int 0, .ref 35, .ref 36, .ref 37, .ref 38, .ref 39, .int 0, .ref 40, .int 0, .int 0, .int 0, .int (-1), .ref 40, .int (-1)]))), h.2)) := by
                    refine (r_aloadn f125_0 rfl).trans ?_
                    have hc18 : arun X (n + 22) (d + 1) zM124 0 [some (.ref 33)] [] ((((h.1.set 35 (.inl (3, 2560, .inl ((va_cpy (fun _ => 0) (fun _ => 0) (Int32.toNatClampNeg 0) (Int32.toNatClampNeg 0) (Int32.toNatClampNeg 0)))))).set 36 (.inl (0, 16, .inl (upd (fun _ => 0) (Int32.toNatClampNeg 0) 0)))).set 33 (.inr (10, [.ref 34, .int 0, .ref 35, .ref 36, .ref 37, .ref 38, .ref 39, .int 0, .ref 40, .int 0, .int 0, .int 0, .int (-1), .ref 40, .int (-1)]))), h.2) = some ((some (.int (-1))), ((((h.1.set 35 (.inl (3, 2560, .inl ((va_cpy (fun _ => 0) (fun _ => 0) (Int32.toNatClampNeg 0) (Int32.toNatClampNeg 0) (Int32.toNatClampNeg 0)))))).set 36 (.inl (0, 16, .inl (upd (fun _ => 0) (Int32.toNatClampNeg 0) 0)))).set 33 (.inr (10, [.ref 34, .int 0, .ref 35, .ref 36, .ref 37, .ref 38, .ref 39, .int 0, .ref 40, .int 0, .int 0, .int 0, .int (-1), .ref 40, .int (-1)]))), h.2)) := by
                      refine (r_aloadn f124_0 rfl).trans ?_
                      refine (r_get (v := .int (-1)) f124_1 (gs_eq (gs_ne (gs_ne g33 (by decide)) (by decide))) rfl).trans ?_
                      refine (r_iconst (v := (-1)) f124_4 rfl).trans ?_
                      refine (r_icmp_ne_f f124_5 (by decide)).trans ?_
                      refine (r_aloadn f124_8 rfl).trans ?_
                      refine (r_get (v := .int 0) f124_9 (gs_eq (gs_ne (gs_ne g33 (by decide)) (by decide))) rfl).trans ?_
                      refine (r_aloadn f124_12 rfl).trans ?_
                      refine (r_get (v := .int 0) f124_13 (gs_eq (gs_ne (gs_ne g33 (by decide)) (by decide))) rfl).trans ?_
                      refine (r_icmp_ge_t f124_16 (by decide)).trans ?_
                      refine (r_iconst (v := (-1)) f124_40 rfl).trans ?_
                      exact r_ireturn f124_41 rfl
                    refine (r_virt (as := []) (v := (some (.int (-1)))) (h1 := ((((h.1.set 35 (.inl (3, 2560, .inl ((va_cpy (fun _ => 0) (fun _ => 0) (Int32.toNatClampNeg 0) (Int32.toNatClampNeg 0) (Int32.toNatClampNeg 0)))))).set 36 (.inl (0, 16, .inl (upd (fun _ => 0) (Int32.toNatClampNeg 0) 0)))).set 33 (.inr (10, [.ref 34, .int 0, .ref 35, .ref 36, .ref 37, .ref 38, .ref 39, .int 0, .ref 40, .int 0, .int 0, .int 0, .int (-1), .ref 40, .int (-1)]))), h.2)) f125_1 (gs_eq (gs_ne (gs_ne g33 (by decide)) (by decide))) zg124 rfl rfl rfl rfl rfl rfl hc18).trans ?_
                    refine (r_iloadn f125_4 rfl).trans ?_
                    refine (r_icmp_ne_t f125_5 (by decide)).trans ?_
                    refine (r_iconst (v := 0) f125_12 rfl).trans ?_
                    refine (r_istoren (L' := [some (.ref 33), some (.int 33), some (.int 0)]) f125_13 rfl rfl).trans ?_
                    refine (r_aloadn f125_14 rfl).trans ?_
                    refine (r_dup f125_15 rfl).trans ?_
                    refine (r_get (v := .int 0) f125_16 (gs_eq (gs_ne (gs_ne g33 (by decide)) (by decide))) rfl).trans ?_
                    refine (r_iloadn f125_19 rfl).trans ?_
                    refine (r_if_eq_t f125_20 (by decide)).trans ?_
                    refine (r_iconst (v := 0) f125_27 rfl).trans ?_
                    refine (r_iadd (v := 0) f125_28 (by decide)).trans ?_
                    refine (r_put (h' := ((((h.1.set 35 (.inl (3, 2560, .inl ((va_cpy (fun _ => 0) (fun _ => 0) (Int32.toNatClampNeg 0) (Int32.toNatClampNeg 0) (Int32.toNatClampNeg 0)))))).set 36 (.inl (0, 16, .inl (upd (fun _ => 0) (Int32.toNatClampNeg 0) 0)))).set 33 (.inr (10, [.ref 34, .int 0, .ref 35, .ref 36, .ref 37, .ref 38, .ref 39, .int 0, .ref 40, .int 0, .int 0, .int 0, .int (-1), .ref 40, .int (-1)]))), h.2)) f125_29 (gs_eq (gs_ne (gs_ne g33 (by decide)) (by decide))) rfl hss).trans ?_
                    refine (r_iloadn f125_32 rfl).trans ?_
                    exact r_zreturn f125_33 rfl (by decide)
                  refine (r_virt (as := [.int 33]) (v := (some (.int 0))) (h1 := ((((h.1.set 35 (.inl (3, 2560, .inl ((va_cpy (fun _ => 0) (fun _ => 0) (Int32.toNatClampNeg 0) (Int32.toNatClampNeg 0) (Int32.toNatClampNeg 0)))))).set 36 (.inl (0, 16, .inl (upd (fun _ => 0) (Int32.toNatClampNeg 0) 0)))).set 33 (.inr (10, [.ref 34, .int 0, .ref 35, .ref 36, .ref 37, .ref 38, .ref 39, .int 0, .ref 40, .int 0, .int 0, .int 0, .int (-1), .ref 40, .int (-1)]))), h.2)) f133_71 (gs_eq (gs_ne (gs_ne g33 (by decide)) (by decide))) zg125 rfl rfl rfl rfl rfl rfl hc17).trans ?_
                  refine (r_if_eq_t f133_74 (by decide)).trans ?_
                  refine (r_aloadn f133_96 rfl).trans ?_
                  refine (r_bipush (v := 45) f133_97 rfl).trans ?_
                  have hc19 : arun X (n + 20) (d + 2) zM125 0 [some (.ref 33), some (.int 45), none] [] ((((h.1.set 35 (.inl (3, 2560, .inl ((va_cpy (fun _ => 0) (fun _ => 0) (Int32.toNatClampNeg 0) (Int32.toNatClampNeg 0) (Int32.toNatClampNeg 0)))))).set 36 (.inl (0, 16, .inl (upd (fun _ => 0) (Int32.toNatClampNeg 0) 0)))).set 33 (.inr (10, [.ref 34, .int 0, .ref 35, .ref 36, .ref 37, .ref 38, .ref 39, .int 0, .ref 40, .int 0, .int 0, .int 0, .int (-1), .ref 40, .int (-1)]))), h.2) = some ((some (.int 0)), ((((h.1.set 35 (.inl (3, 2560, .inl ((va_cpy (fun _ => 0) (fun _ => 0) (Int32.toNatClampNeg 0) (Int32.toNatClampNeg 0) (Int32.toNatClampNeg 0)))))).set 36 (.inl (0, 16, .inl (upd (fun _ => 0) (Int32.toNatClampNeg 0) 0)))).set 33 (.inr (10, [.ref 34, .int 0, .ref 35, .ref 36, .ref 37, .ref 38, .ref 39, .int 0, .ref 40, .int 0, .int 0, .int 0, .int (-1), .ref 40, .int (-1)]))), h.2)) := by
                    refine (r_aloadn f125_0 rfl).trans ?_
                    have hc20 : arun X (n + 18) (d + 1) zM124 0 [some (.ref 33)] [] ((((h.1.set 35 (.inl (3, 2560, .inl ((va_cpy (fun _ => 0) (fun _ => 0) (Int32.toNatClampNeg 0) (Int32.toNatClampNeg 0) (Int32.toNatClampNeg 0)))))).set 36 (.inl (0, 16, .inl (upd (fun _ => 0) (Int32.toNatClampNeg 0) 0)))).set 33 (.inr (10, [.ref 34, .int 0, .ref 35, .ref 36, .ref 37, .ref 38, .ref 39, .int 0, .ref 40, .int 0, .int 0, .int 0, .int (-1), .ref 40, .int (-1)]))), h.2) = some ((some (.int (-1))), ((((h.1.set 35 (.inl (3, 2560, .inl ((va_cpy (fun _ => 0) (fun _ => 0) (Int32.toNatClampNeg 0) (Int32.toNatClampNeg 0) (Int32.toNatClampNeg 0)))))).set 36 (.inl (0, 16, .inl (upd (fun _ => 0) (Int32.toNatClampNeg 0) 0)))).set 33 (.inr (10, [.ref 34, .int 0, .ref 35, .ref 36, .ref 37, .ref 38, .ref 39, .int 0, .ref 40, .int 0, .int 0, .int 0, .int (-1), .ref 40, .int (-1)]))), h.2)) := by
                      refine (r_aloadn f124_0 rfl).trans ?_
                      refine (r_get (v := .int (-1)) f124_1 (gs_eq (gs_ne (gs_ne g33 (by decide)) (by decide))) rfl).trans ?_
                      refine (r_iconst (v := (-1)) f124_4 rfl).trans ?_
                      refine (r_icmp_ne_f f124_5 (by decide)).trans ?_
                      refine (r_aloadn f124_8 rfl).trans ?_
                      refine (r_get (v := .int 0) f124_9 (gs_eq (gs_ne (gs_ne g33 (by decide)) (by decide))) rfl).trans ?_
                      refine (r_aloadn f124_12 rfl).trans ?_
                      refine (r_get (v := .int 0) f124_13 (gs_eq (gs_ne (gs_ne g33 (by decide)) (by decide))) rfl).trans ?_
                      refine (r_icmp_ge_t f124_16 (by decide)).trans ?_
                      refine (r_iconst (v := (-1)) f124_40 rfl).trans ?_
                      exact r_ireturn f124_41 rfl
                    refine (r_virt (as := []) (v := (some (.int (-1)))) (h1 := ((((h.1.set 35 (.inl (3, 2560, .inl ((va_cpy (fun _ => 0) (fun _ => 0) (Int32.toNatClampNeg 0) (Int32.toNatClampNeg 0) (Int32.toNatClampNeg 0)))))).set 36 (.inl (0, 16, .inl (upd (fun _ => 0) (Int32.toNatClampNeg 0) 0)))).set 33 (.inr (10, [.ref 34, .int 0, .ref 35, .ref 36, .ref 37, .ref 38, .ref 39, .int 0, .ref 40, .int 0, .int 0, .int 0, .int (-1), .ref 40, .int (-1)]))), h.2)) f125_1 (gs_eq (gs_ne (gs_ne g33 (by decide)) (by decide))) zg124 rfl rfl rfl rfl rfl rfl hc20).trans ?_
                    refine (r_iloadn f125_4 rfl).trans ?_
                    refine (r_icmp_ne_t f125_5 (by decide)).trans ?_
                    refine (r_iconst (v := 0) f125_12 rfl).trans ?_
                    refine (r_istoren (L' := [some (.ref 33), some (.int 45), some (.int 0)]) f125_13 rfl rfl).trans ?_
                    refine (r_aloadn f125_14 rfl).trans ?_
                    refine (r_dup f125_15 rfl).trans ?_
                    refine (r_get (v := .int 0) f125_16 (gs_eq (gs_ne (gs_ne g33 (by decide)) (by decide))) rfl).trans ?_
                    refine (r_iloadn f125_19 rfl).trans ?_
                    refine (r_if_eq_t f125_20 (by decide)).trans ?_
                    refine (r_iconst (v := 0) f125_27 rfl).trans ?_
                    refine (r_iadd (v := 0) f125_28 (by decide)).trans ?_
                    refine (r_put (h' := ((((h.1.set 35 (.inl (3, 2560, .inl ((va_cpy (fun _ => 0) (fun _ => 0) (Int32.toNatClampNeg 0) (Int32.toNatClampNeg 0) (Int32.toNatClampNeg 0)))))).set 36 (.inl (0, 16, .inl (upd (fun _ => 0) (Int32.toNatClampNeg 0) 0)))).set 33 (.inr (10, [.ref 34, .int 0, .ref 35, .ref 36, .ref 37, .ref 38, .ref 39, .int 0, .ref 40, .int 0, .int 0, .int 0, .int (-1), .ref 40, .int (-1)]))), h.2)) f125_29 (gs_eq (gs_ne (gs_ne g33 (by decide)) (by decide))) rfl hss).trans ?_
                    refine (r_iloadn f125_32 rfl).trans ?_
                    exact r_zreturn f125_33 rfl (by decide)
                  refine (r_virt (as := [.int 45]) (v := (some (.int 0))) (h1 := ((((h.1.set 35 (.inl (3, 2560, .inl ((va_cpy (fun _ => 0) (fun _ => 0) (Int32.toNatClampNeg 0) (Int32.toNatClampNeg 0) (Int32.toNatClampNeg 0)))))).set 36 (.inl (0, 16, .inl (upd (fun _ => 0) (Int32.toNatClampNeg 0) 0)))).set 33 (.inr (10, [.ref 34, .int 0, .ref 35, .ref 36, .ref 37, .ref 38, .ref 39, .int 0, .ref 40, .int 0, .int 0, .int 0, .int (-1), .ref 40, .int (-1)]))), h.2)) f133_99 (gs_eq (gs_ne (gs_ne g33 (by decide)) (by decide))) zg125 rfl rfl rfl rfl rfl rfl hc19).trans ?_
                  refine (r_if_eq_t f133_102 (by decide)).trans ?_
                  refine (r_aloadn f133_114 rfl).trans ?_
                  refine (r_bipush (v := 40) f133_115 rfl).trans ?_
                  have hc21 : arun X (n + 16) (d + 2) zM125 0 [some (.ref 33), some (.int 40), none] [] ((((h.1.set 35 (.inl (3, 2560, .inl ((va_cpy (fun _ => 0) (fun _ => 0) (Int32.toNatClampNeg 0) (Int32.toNatClampNeg 0) (Int32.toNatClampNeg 0)))))).set 36 (.inl (0, 16, .inl (upd (fun _ => 0) (Int32.toNatClampNeg 0) 0)))).set 33 (.inr (10, [.ref 34, .int 0, .ref 35, .ref 36, .ref 37, .ref 38, .ref 39, .int 0, .ref 40, .int 0, .int 0, .int 0, .int (-1), .ref 40, .int (-1)]))), h.2) = some ((some (.int 0)), ((((h.1.set 35 (.inl (3, 2560, .inl ((va_cpy (fun _ => 0) (fun _ => 0) (Int32.toNatClampNeg 0) (Int32.toNatClampNeg 0) (Int32.toNatClampNeg 0)))))).set 36 (.inl (0, 16, .inl (upd (fun _ => 0) (Int32.toNatClampNeg 0) 0)))).set 33 (.inr (10, [.ref 34, .int 0, .ref 35, .ref 36, .ref 37, .ref 38, .ref 39, .int 0, .ref 40, .int 0, .int 0, .int 0, .int (-1), .ref 40, .int (-1)]))), h.2)) := by
                    refine (r_aloadn f125_0 rfl).trans ?_
                    have hc22 : arun X (n + 14) (d + 1) zM124 0 [some (.ref 33)] [] ((((h.1.set 35 (.inl (3, 2560, .inl ((va_cpy (fun _ => 0) (fun _ => 0) (Int32.toNatClampNeg 0) (Int32.toNatClampNeg 0) (Int32.toNatClampNeg 0)))))).set 36 (.inl (0, 16, .inl (upd (fun _ => 0) (Int32.toNatClampNeg 0) 0)))).set 33 (.inr (10, [.ref 34, .int 0, .ref 35, .ref 36, .ref 37, .ref 38, .ref 39, .int 0, .ref 40, .int 0, .int 0, .int 0, .int (-1), .ref 40, .int (-1)]))), h.2) = some ((some (.int (-1))), ((((h.1.set 35 (.inl (3, 2560, .inl ((va_cpy (fun _ => 0) (fun _ => 0) (Int32.toNatClampNeg 0) (Int32.toNatClampNeg 0) (Int32.toNatClampNeg 0)))))).set 36 (.inl (0, 16, .inl (upd (fun _ => 0) (Int32.toNatClampNeg 0) 0)))).set 33 (.inr (10, [.ref 34, .int 0, .ref 35, .ref 36, .ref 37, .ref 38, .ref 39, .int 0, .ref 40, .int 0, .int 0, .int 0, .int (-1), .ref 40, .int (-1)]))), h.2)) := by
                      refine (r_aloadn f124_0 rfl).trans ?_
                      refine (r_get (v := .int (-1)) f124_1 (gs_eq (gs_ne (gs_ne g33 (by decide)) (by decide))) rfl).trans ?_
                      refine (r_iconst (v := (-1)) f124_4 rfl).trans ?_
                      refine (r_icmp_ne_f f124_5 (by decide)).trans ?_
                      refine (r_aloadn f124_8 rfl).trans ?_
                      refine (r_get (v := .int 0) f124_9 (gs_eq (gs_ne (gs_ne g33 (by decide)) (by decide))) rfl).trans ?_
                      refine (r_aloadn f124_12 rfl).trans ?_
                      refine (r_get (v := .int 0) f124_13 (gs_eq (gs_ne (gs_ne g33 (by decide)) (by decide))) rfl).trans ?_
                      refine (r_icmp_ge_t f124_16 (by decide)).trans ?_
                      refine (r_iconst (v := (-1)) f124_40 rfl).trans ?_
                      exact r_ireturn f124_41 rfl
                    refine (r_virt (as := []) (v := (some (.int (-1)))) (h1 := ((((h.1.set 35 (.inl (3, 2560, .inl ((va_cpy (fun _ => 0) (fun _ => 0) (Int32.toNatClampNeg 0) (Int32.toNatClampNeg 0) (Int32.toNatClampNeg 0)))))).set 36 (.inl (0, 16, .inl (upd (fun _ => 0) (Int32.toNatClampNeg 0) 0)))).set 33 (.inr (10, [.ref 34, .int 0, .ref 35, .ref 36, .ref 37, .ref 38, .ref 39, .int 0, .ref 40, .int 0, .int 0, .int 0, .int (-1), .ref 40, .int (-1)]))), h.2)) f125_1 (gs_eq (gs_ne (gs_ne g33 (by decide)) (by decide))) zg124 rfl rfl rfl rfl rfl rfl hc22).trans ?_
                    refine (r_iloadn f125_4 rfl).trans ?_
                    refine (r_icmp_ne_t f125_5 (by decide)).trans ?_
                    refine (r_iconst (v := 0) f125_12 rfl).trans ?_
                    refine (r_istoren (L' := [some (.ref 33), some (.int 40), some (.int 0)]) f125_13 rfl rfl).trans ?_
                    refine (r_aloadn f125_14 rfl).trans ?_
                    refine (r_dup f125_15 rfl).trans ?_
                    refine (r_get (v := .int 0) f125_16 (gs_eq (gs_ne (gs_ne g33 (by decide)) (by decide))) rfl).trans ?_
                    refine (r_iloadn f125_19 rfl).trans ?_
                    refine (r_if_eq_t f125_20 (by decide)).trans ?_
                    refine (r_iconst (v := 0) f125_27 rfl).trans ?_
                    refine (r_iadd (v := 0) f125_28 (by decide)).trans ?_
                    refine (r_put (h' := ((((h.1.set 35 (.inl (3, 2560, .inl ((va_cpy (fun _ => 0) (fun _ => 0) (Int32.toNatClampNeg 0) (Int32.toNatClampNeg 0) (Int32.toNatClampNeg 0)))))).set 36 (.inl (0, 16, .inl (upd (fun _ => 0) (Int32.toNatClampNeg 0) 0)))).set 33 (.inr (10, [.ref 34, .int 0, .ref 35, .ref 36, .ref 37, .ref 38, .ref 39, .int 0, .ref 40, .int 0, .int 0, .int 0, .int (-1), .ref 40, .int (-1)]))), h.2)) f125_29 (gs_eq (gs_ne (gs_ne g33 (by decide)) (by decide))) rfl hss).trans ?_
                    refine (r_iloadn f125_32 rfl).trans ?_
                    exact r_zreturn f125_33 rfl (by decide)
                  refine (r_virt (as := [.int 40]) (v := (some (.int 0))) (h1 := ((((h.1.set 35 (.inl (3, 2560, .inl ((va_cpy (fun _ => 0) (fun _ => 0) (Int32.toNatClampNeg 0) (Int32.toNatClampNeg 0) (Int32.toNatClampNeg 0)))))).set 36 (.inl (0, 16, .inl (upd (fun _ => 0) (Int32.toNatClampNeg 0) 0)))).set 33 (.inr (10, [.ref 34, .int 0, .ref 35, .ref 36, .ref 37, .ref 38, .ref 39, .int 0, .ref 40, .int 0, .int 0, .int 0, .int (-1), .ref 40, .int (-1)]))), h.2)) f133_117 (gs_eq (gs_ne (gs_ne g33 (by decide)) (by decide))) zg125 rfl rfl rfl rfl rfl rfl hc21).trans ?_
                  refine (r_if_ne_f f133_120 (by decide)).trans ?_
                  refine (r_aloadn f133_123 rfl).trans ?_
                  have hc23 : arun X (n + 13) (d + 2) zM126 0 [some (.ref 33)] [] ((((h.1.set 35 (.inl (3, 2560, .inl ((va_cpy (fun _ => 0) (fun _ => 0) (Int32.toNatClampNeg 0) (Int32.toNatClampNeg 0) (Int32.toNatClampNeg 0)))))).set 36 (.inl (0, 16, .inl (upd (fun _ => 0) (Int32.toNatClampNeg 0) 0)))).set 33 (.inr (10, [.ref 34, .int 0, .ref 35, .ref 36, .ref 37, .ref 38, .ref 39, .int 0, .ref 40, .int 0, .int 0, .int 0, .int (-1), .ref 40, .int (-1)]))), h.2) = some (none, ((((h.1.set 35 (.inl (3, 2560, .inl ((va_cpy (fun _ => 0) (fun _ => 0) (Int32.toNatClampNeg 0) (Int32.toNatClampNeg 0) (Int32.toNatClampNeg 0)))))).set 36 (.inl (0, 16, .inl (upd (fun _ => 0) (Int32.toNatClampNeg 0) 0)))).set 33 (.inr (10, [.ref 34, .int 0, .ref 35, .ref 36, .ref 37, .ref 38, .ref 39, .int 0, .ref 40, .int 0, .int 0, .int 0, .int 0, .ref 40, .int (-1)]))), h.2)) := by
                    refine (r_aloadn f126_0 rfl).trans ?_
                    refine (r_get (v := .int (-1)) f126_1 (gs_eq (gs_ne (gs_ne g33 (by decide)) (by decide))) rfl).trans ?_
                    refine (r_iconst (v := (-1)) f126_4 rfl).trans ?_
                    refine (r_icmp_ne_f f126_5 (by decide)).trans ?_
                    refine (r_aloadn f126_8 rfl).trans ?_
                    refine (r_aloadn f126_9 rfl).trans ?_
                    refine (r_get (v := .int 0) f126_10 (gs_eq (gs_ne (gs_ne g33 (by decide)) (by decide))) rfl).trans ?_
                    refine (r_put (h' := ((((h.1.set 35 (.inl (3, 2560, .inl ((va_cpy (fun _ => 0) (fun _ => 0) (Int32.toNatClampNeg 0) (Int32.toNatClampNeg 0) (Int32.toNatClampNeg 0)))))).set 36 (.inl (0, 16, .inl (upd (fun _ => 0) (Int32.toNatClampNeg 0) 0)))).set 33 (.inr (10, [.ref 34, .int 0, .ref 35, .ref 36, .ref 37, .ref 38, .ref 39, .int 0, .ref 40, .int 0, .int 0, .int 0, .int 0, .ref 40, .int (-1)]))), h.2)) f126_13 (gs_eq (gs_ne (gs_ne g33 (by decide)) (by decide))) rfl hss).trans ?_
                    exact r_vreturn f126_16 rfl
                  refine (r_virt (as := []) (v := none) (h1 := ((((h.1.set 35 (.inl (3, 2560, .inl ((va_cpy (fun _ => 0) (fun _ => 0) (Int32.toNatClampNeg 0) (Int32.toNatClampNeg 0) (Int32.toNatClampNeg 0)))))).set 36 (.inl (0, 16, .inl (upd (fun _ => 0) (Int32.toNatClampNeg 0) 0)))).set 33 (.inr (10, [.ref 34, .int 0, .ref 35, .ref 36, .ref 37, .ref 38, .ref 39, .int 0, .ref 40, .int 0, .int 0, .int 0, .int 0, .ref 40, .int (-1)]))), h.2)) f133_124 (gs_eq (gs_ne (gs_ne g33 (by decide)) (by decide))) zg126 rfl rfl rfl rfl rfl rfl hc23).trans ?_
                  refine (r_iconst (v := 0) f133_127 rfl).trans ?_
                  exact r_ireturn f133_128 rfl
                refine (r_virt (as := [.int 0]) (v := (some (.int 0))) (h1 := ((((h.1.set 35 (.inl (3, 2560, .inl ((va_cpy (fun _ => 0) (fun _ => 0) (Int32.toNatClampNeg 0) (Int32.toNatClampNeg 0) (Int32.toNatClampNeg 0)))))).set 36 (.inl (0, 16, .inl (upd (fun _ => 0) (Int32.toNatClampNeg 0) 0)))).set 33 (.inr (10, [.ref 34, .int 0, .ref 35, .ref 36, .ref 37, .ref 38, .ref 39, .int 0, .ref 40, .int 0, .int 0, .int 0, .int 0, .ref 40, .int (-1)]))), h.2)) f132_2 (gs_eq (gs_ne (gs_ne g33 (by decide)) (by decide))) zg133 rfl rfl rfl rfl rfl rfl hc14).trans ?_
                refine (r_istoren (L' := [some (.ref 33), some (.int 0), some (.int 0), none, none]) f132_5 rfl rfl).trans ?_
                refine (r_iconst (v := 0) f132_6 rfl).trans ?_
                refine (r_istoren (L' := [some (.ref 33), some (.int 0), some (.int 0), some (.int 0), none]) f132_7 rfl rfl).trans ?_
                refine (r_iloadn f132_8 rfl).trans ?_
                refine (r_sipush (v := 160) f132_9 rfl).trans ?_
                refine (r_icmp_ge_f f132_12 (by decide)).trans ?_
                refine (r_aloadn f132_15 rfl).trans ?_
                refine (r_bipush (v := 42) f132_16 rfl).trans ?_
                have hc24 : arun X (n + 36) (d + 3) zM125 0 [some (.ref 33), some (.int 42), none] [] ((((h.1.set 35 (.inl (3, 2560, .inl ((va_cpy (fun _ => 0) (fun _ => 0) (Int32.toNatClampNeg 0) (Int32.toNatClampNeg 0) (Int32.toNatClampNeg 0)))))).set 36 (.inl (0, 16, .inl (upd (fun _ => 0) (Int32.toNatClampNeg 0) 0)))).set 33 (.inr (10, [.ref 34, .int 0, .ref 35, .ref 36, .ref 37, .ref 38, .ref 39, .int 0, .ref 40, .int 0, .int 0, .int 0, .int 0, .ref 40, .int (-1)]))), h.2) = some ((some (.int 0)), ((((h.1.set 35 (.inl (3, 2560, .inl ((va_cpy (fun _ => 0) (fun _ => 0) (Int32.toNatClampNeg 0) (Int32.toNatClampNeg 0) (Int32.toNatClampNeg 0)))))).set 36 (.inl (0, 16, .inl (upd (fun _ => 0) (Int32.toNatClampNeg 0) 0)))).set 33 (.inr (10, [.ref 34, .int 0, .ref 35, .ref 36, .ref 37, .ref 38, .ref 39, .int 0, .ref 40, .int 0, .int 0, .int 0, .int 0, .ref 40, .int (-1)]))), h.2)) := by
                  refine (r_aloadn f125_0 rfl).trans ?_
                  have hc25 : arun X (n + 34) (d + 2) zM124 0 [some (.ref 33)] [] ((((h.1.set 35 (.inl (3, 2560, .inl ((va_cpy (fun _ => 0) (fun _ => 0) (Int32.toNatClampNeg 0) (Int32.toNatClampNeg 0) (Int32.toNatClampNeg 0)))))).set 36 (.inl (0, 16, .inl (upd (fun _ => 0) (Int32.toNatClampNeg 0) 0)))).set 33 (.inr (10, [.ref 34, .int 0, .ref 35, .ref 36, .ref 37, .ref 38, .ref 39, .int 0, .ref 40, .int 0, .int 0, .int 0, .int 0, .ref 40, .int (-1)]))), h.2) = some ((some (.int (-1))), ((((h.1.set 35 (.inl (3, 2560, .inl ((va_cpy (fun _ => 0) (fun _ => 0) (Int32.toNatClampNeg 0) (Int32.toNatClampNeg 0) (Int32.toNatClampNeg 0)))))).set 36 (.inl (0, 16, .inl (upd (fun _ => 0) (Int32.toNatClampNeg 0) 0)))).set 33 (.inr (10, [.ref 34, .int 0, .ref 35, .ref 36, .ref 37, .ref 38, .ref 39, .int 0, .ref 40, .int 0, .int 0, .int 0, .int 0, .ref 40, .int (-1)]))), h.2)) := by
                    refine (r_aloadn f124_0 rfl).trans ?_
                    refine (r_get (v := .int 0) f124_1 (gs_eq (gs_ne (gs_ne g33 (by decide)) (by decide))) rfl).trans ?_
                    refine (r_iconst (v := (-1)) f124_4 rfl).trans ?_
                    refine (r_icmp_ne_t f124_5 (by decide)).trans ?_
                    refine (r_iconst (v := (-1)) f124_40 rfl).trans ?_
                    exact r_ireturn f124_41 rfl
                  refine (r_virt (as := []) (v := (some (.int (-1)))) (h1 := ((((h.1.set 35 (.inl (3, 2560, .inl ((va_cpy (fun _ => 0) (fun _ => 0) (Int32.toNatClampNeg 0) (Int32.toNatClampNeg 0) (Int32.toNatClampNeg 0)))))).set 36 (.inl (0, 16, .inl (upd (fun _ => 0) (Int32.toNatClampNeg 0) 0)))).set 33 (.inr (10, [.ref 34, .int 0, .ref 35, .ref 36, .ref 37, .ref 38, .ref 39, .int 0, .ref 40, .int 0, .int 0, .int 0, .int 0, .ref 40, .int (-1)]))), h.2)) f125_1 (gs_eq (gs_ne (gs_ne g33 (by decide)) (by decide))) zg124 rfl rfl rfl rfl rfl rfl hc25).trans ?_
                  refine (r_iloadn f125_4 rfl).trans ?_
                  refine (r_icmp_ne_t f125_5 (by decide)).trans ?_
                  refine (r_iconst (v := 0) f125_12 rfl).trans ?_
                  refine (r_istoren (L' := [some (.ref 33), some (.int 42), some (.int 0)]) f125_13 rfl rfl).trans ?_
                  refine (r_aloadn f125_14 rfl).trans ?_
                  refine (r_dup f125_15 rfl).trans ?_
                  refine (r_get (v := .int 0) f125_16 (gs_eq (gs_ne (gs_ne g33 (by decide)) (by decide))) rfl).trans ?_
                  refine (r_iloadn f125_19 rfl).trans ?_
                  refine (r_if_eq_t f125_20 (by decide)).trans ?_
                  refine (r_iconst (v := 0) f125_27 rfl).trans ?_
                  refine (r_iadd (v := 0) f125_28 (by decide)).trans ?_
                  refine (r_put (h' := ((((h.1.set 35 (.inl (3, 2560, .inl ((va_cpy (fun _ => 0) (fun _ => 0) (Int32.toNatClampNeg 0) (Int32.toNatClampNeg 0) (Int32.toNatClampNeg 0)))))).set 36 (.inl (0, 16, .inl (upd (fun _ => 0) (Int32.toNatClampNeg 0) 0)))).set 33 (.inr (10, [.ref 34, .int 0, .ref 35, .ref 36, .ref 37, .ref 38, .ref 39, .int 0, .ref 40, .int 0, .int 0, .int 0, .int 0, .ref 40, .int (-1)]))), h.2)) f125_29 (gs_eq (gs_ne (gs_ne g33 (by decide)) (by decide))) rfl hss).trans ?_
                  refine (r_iloadn f125_32 rfl).trans ?_
                  exact r_zreturn f125_33 rfl (by decide)
                refine (r_virt (as := [.int 42]) (v := (some (.int 0))) (h1 := ((((h.1.set 35 (.inl (3, 2560, .inl ((va_cpy (fun _ => 0) (fun _ => 0) (Int32.toNatClampNeg 0) (Int32.toNatClampNeg 0) (Int32.toNatClampNeg 0)))))).set 36 (.inl (0, 16, .inl (upd (fun _ => 0) (Int32.toNatClampNeg 0) 0)))).set 33 (.inr (10, [.ref 34, .int 0, .ref 35, .ref 36, .ref 37, .ref 38, .ref 39, .int 0, .ref 40, .int 0, .int 0, .int 0, .int 0, .ref 40, .int (-1)]))), h.2)) f132_18 (gs_eq (gs_ne (gs_ne g33 (by decide)) (by decide))) zg125 rfl rfl rfl rfl rfl rfl hc24).trans ?_
                refine (r_if_eq_t f132_21 (by decide)).trans ?_
                refine (r_aloadn f132_35 rfl).trans ?_
                refine (r_bipush (v := 47) f132_36 rfl).trans ?_
                have hc26 : arun X (n + 32) (d + 3) zM125 0 [some (.ref 33), some (.int 47), none] [] ((((h.1.set 35 (.inl (3, 2560, .inl ((va_cpy (fun _ => 0) (fun _ => 0) (Int32.toNatClampNeg 0) (Int32.toNatClampNeg 0) (Int32.toNatClampNeg 0)))))).set 36 (.inl (0, 16, .inl (upd (fun _ => 0) (Int32.toNatClampNeg 0) 0)))).set 33 (.inr (10, [.ref 34, .int 0, .ref 35, .ref 36, .ref 37, .ref 38, .ref 39, .int 0, .ref 40, .int 0, .int 0, .int 0, .int 0, .ref 40, .int (-1)]))), h.2) = some ((some (.int 0)), ((((h.1.set 35 (.inl (3, 2560, .inl ((va_cpy (fun _ => 0) (fun _ => 0) (Int32.toNatClampNeg 0) (Int32.toNatClampNeg 0) (Int32.toNatClampNeg 0)))))).set 36 (.inl (0, 16, .inl (upd (fun _ => 0) (Int32.toNatClampNeg 0) 0)))).set 33 (.inr (10, [.ref 34, .int 0, .ref 35, .ref 36, .ref 37, .ref 38, .ref 39, .int 0, .ref 40, .int 0, .int 0, .int 0, .int 0, .ref 40, .int (-1)]))), h.2)) := by
                  refine (r_aloadn f125_0 rfl).trans ?_
                  have hc27 : arun X (n + 30) (d + 2) zM124 0 [some (.ref 33)] [] ((((h.1.set 35 (.inl (3, 2560, .inl ((va_cpy (fun _ => 0) (fun _ => 0) (Int32.toNatClampNeg 0) (Int32.toNatClampNeg 0) (Int32.toNatClampNeg 0)))))).set 36 (.inl (0, 16, .inl (upd (fun _ => 0) (Int32.toNatClampNeg 0) 0)))).set 33 (.inr (10, [.ref 34, .int 0, .ref 35, .ref 36, .ref 37, .ref 38, .ref 39, .int 0, .ref 40, .int 0, .int 0, .int 0, .int 0, .ref 40, .int (-1)]))), h.2) = some ((some (.int (-1))), ((((h.1.set 35 (.inl (3, 2560, .inl ((va_cpy (fun _ => 0) (fun _ => 0) (Int32.toNatClampNeg 0) (Int32.toNatClampNeg 0) (Int32.toNatClampNeg 0)))))).set 36 (.inl (0, 16, .inl (upd (fun _ => 0) (Int32.toNatClampNeg 0) 0)))).set 33 (.inr (10, [.ref 34, .int 0, .ref 35, .ref 36, .ref 37, .ref 38, .ref 39, .int 0, .ref 40, .int 0, .int 0, .int 0, .int 0, .ref 40, .int (-1)]))), h.2)) := by
                    refine (r_aloadn f124_0 rfl).trans ?_
                    refine (r_get (v := .int 0) f124_1 (gs_eq (gs_ne (gs_ne g33 (by decide)) (by decide))) rfl).trans ?_
                    refine (r_iconst (v := (-1)) f124_4 rfl).trans ?_
                    refine (r_icmp_ne_t f124_5 (by decide)).trans ?_
                    refine (r_iconst (v := (-1)) f124_40 rfl).trans ?_
                    exact r_ireturn f124_41 rfl
                  refine (r_virt (as := []) (v := (some (.int (-1)))) (h1 := ((((h.1.set 35 (.inl (3, 2560, .inl ((va_cpy (fun _ => 0) (fun _ => 0) (Int32.toNatClampNeg 0) (Int32.toNatClampNeg 0) (Int32.toNatClampNeg 0)))))).set 36 (.inl (0, 16, .inl (upd (fun _ => 0) (Int32.toNatClampNeg 0) 0)))).set 33 (.inr (10, [.ref 34, .int 0, .ref 35, .ref 36, .ref 37, .ref 38, .ref 39, .int 0, .ref 40, .int 0, .int 0, .int 0, .int 0, .ref 40, .int (-1)]))), h.2)) f125_1 (gs_eq (gs_ne (gs_ne g33 (by decide)) (by decide))) zg124 rfl rfl rfl rfl rfl rfl hc27).trans ?_
                  refine (r_iloadn f125_4 rfl).trans ?_
                  refine (r_icmp_ne_t f125_5 (by decide)).trans ?_
                  refine (r_iconst (v := 0) f125_12 rfl).trans ?_
                  refine (r_istoren (L' := [some (.ref 33), some (.int 47), some (.int 0)]) f125_13 rfl rfl).trans ?_
                  refine (r_aloadn f125_14 rfl).trans ?_
                  refine (r_dup f125_15 rfl).trans ?_
                  refine (r_get (v := .int 0) f125_16 (gs_eq (gs_ne (gs_ne g33 (by decide)) (by decide))) rfl).trans ?_
                  refine (r_iloadn f125_19 rfl).trans ?_
                  refine (r_if_eq_t f125_20 (by decide)).trans ?_
                  refine (r_iconst (v := 0) f125_27 rfl).trans ?_
                  refine (r_iadd (v := 0) f125_28 (by decide)).trans ?_
                  refine (r_put (h' := ((((h.1.set 35 (.inl (3, 2560, .inl ((va_cpy (fun _ => 0) (fun _ => 0) (Int32.toNatClampNeg 0) (Int32.toNatClampNeg 0) (Int32.toNatClampNeg 0)))))).set 36 (.inl (0, 16, .inl (upd (fun _ => 0) (Int32.toNatClampNeg 0) 0)))).set 33 (.inr (10, [.ref 34, .int 0, .ref 35, .ref 36, .ref 37, .ref 38, .ref 39, .int 0, .ref 40, .int 0, .int 0, .int 0, .int 0, .ref 40, .int (-1)]))), h.2)) f125_29 (gs_eq (gs_ne (gs_ne g33 (by decide)) (by decide))) rfl hss).trans ?_
                  refine (r_iloadn f125_32 rfl).trans ?_
                  exact r_zreturn f125_33 rfl (by decide)
                refine (r_virt (as := [.int 47]) (v := (some (.int 0))) (h1 := ((((h.1.set 35 (.inl (3, 2560, .inl ((va_cpy (fun _ => 0) (fun _ => 0) (Int32.toNatClampNeg 0) (Int32.toNatClampNeg 0) (Int32.toNatClampNeg 0)))))).set 36 (.inl (0, 16, .inl (upd (fun _ => 0) (Int32.toNatClampNeg 0) 0)))).set 33 (.inr (10, [.ref 34, .int 0, .ref 35, .ref 36, .ref 37, .ref 38, .ref 39, .int 0, .ref 40, .int 0, .int 0, .int 0, .int 0, .ref 40, .int (-1)]))), h.2)) f132_38 (gs_eq (gs_ne (gs_ne g33 (by decide)) (by decide))) zg125 rfl rfl rfl rfl rfl rfl hc26).trans ?_
                refine (r_if_eq_t f132_41 (by decide)).trans ?_
                refine (r_aloadn f132_68 rfl).trans ?_
                refine (r_bipush (v := 37) f132_69 rfl).trans ?_
                have hc28 : arun X (n + 28) (d + 3) zM125 0 [some (.ref 33), some (.int 37), none] [] ((((h.1.set 35 (.inl (3, 2560, .inl ((va_cpy (fun _ => 0) (fun _ => 0) (Int32.toNatClampNeg 0) (Int32.toNatClampNeg 0) (Int32.toNatClampNeg 0)))))).set 36 (.inl (0, 16, .inl (upd (fun _ => 0) (Int32.toNatClampNeg 0) 0)))).set 33 (.inr (10, [.ref 34, .int 0, .ref 35, .ref 36, .ref 37, .ref 38, .ref 39, .int 0, .ref 40, .int 0, .int 0, .int 0, .int 0, .ref 40, .int (-1)]))), h.2) = some ((some (.int 0)), ((((h.1.set 35 (.inl (3, 2560, .inl ((va_cpy (fun _ => 0) (fun _ => 0) (Int32.toNatClampNeg 0) (Int32.toNatClampNeg 0) (Int32.toNatClampNeg 0)))))).set 36 (.inl (0, 16, .inl (upd (fun _ => 0) (Int32.toNatClampNeg 0) 0)))).set 33 (.inr (10, [.ref 34, .int 0, .ref 35, .ref 36, .ref 37, .ref 38, .ref 39, .int 0, .ref 40, .int 0, .int 0, .int 0, .int 0, .ref 40, .int (-1)]))), h.2)) := by
                  refine (r_aloadn f125_0 rfl).trans ?_
                  have hc29 : arun X (n + 26) (d + 2) zM124 0 [some (.ref 33)] [] ((((h.1.set 35 (.inl (3, 2560, .inl ((va_cpy (fun _ => 0) (fun _ => 0) (Int32.toNatClampNeg 0) (Int32.toNatClampNeg 0) (Int32.toNatClampNeg 0)))))).set 36 (.inl (0, 16, .inl (upd (fun _ => 0) (Int32.toNatClampNeg 0) 0)))).set 33 (.inr (10, [.ref 34, .int 0, .ref 35, .ref 36, .ref 37, .ref 38, .ref 39, .int 0, .ref 40, .int 0, .int 0, .int 0, .int 0, .ref 40, .int (-1)]))), h.2) = some ((some (.int (-1))), ((((h.1.set 35 (.inl (3, 2560, .inl ((va_cpy (fun _ => 0) (fun _ => 0) (Int32.toNatClampNeg 0) (Int32.toNatClampNeg 0) (Int32.toNatClampNeg 0)))))).set 36 (.inl (0, 16, .inl (upd (fun _ => 0) (Int32.toNatClampNeg 0) 0)))).set 33 (.inr (10, [.ref 34, .int 0, .ref 35, .ref 36, .ref 37, .ref 38, .ref 39, .int 0, .ref 40, .int 0, .int 0, .int 0, .int 0, .ref 40, .int (-1)]))), h.2)) := by
                    refine (r_aloadn f124_0 rfl).trans ?_
                    refine (r_get (v := .int 0) f124_1 (gs_eq (gs_ne (gs_ne g33 (by decide)) (by decide))) rfl).trans ?_
                    refine (r_iconst (v := (-1)) f124_4 rfl).trans ?_
                    refine (r_icmp_ne_t f124_5 (by decide)).trans ?_
                    refine (r_iconst (v := (-1)) f124_40 rfl).trans ?_
                    exact r_ireturn f124_41 rfl
                  refine (r_virt (as := []) (v := (some (.int (-1)))) (h1 := ((((h.1.set 35 (.inl (3, 2560, .inl ((va_cpy (fun _ => 0) (fun _ => 0) (Int32.toNatClampNeg 0) (Int32.toNatClampNeg 0) (Int32.toNatClampNeg 0)))))).set 36 (.inl (0, 16, .inl (upd (fun _ => 0) (Int32.toNatClampNeg 0) 0)))).set 33 (.inr (10, [.ref 34, .int 0, .ref 35, .ref 36, .ref 37, .ref 38, .ref 39, .int 0, .ref 40, .int 0, .int 0, .int 0, .int 0, .ref 40, .int (-1)]))), h.2)) f125_1 (gs_eq (gs_ne (gs_ne g33 (by decide)) (by decide))) zg124 rfl rfl rfl rfl rfl rfl hc29).trans ?_
                  refine (r_iloadn f125_4 rfl).trans ?_
                  refine (r_icmp_ne_t f125_5 (by decide)).trans ?_
                  refine (r_iconst (v := 0) f125_12 rfl).trans ?_
                  refine (r_istoren (L' := [some (.ref 33), some (.int 37), some (.int 0)]) f125_13 rfl rfl).trans ?_
                  refine (r_aloadn f125_14 rfl).trans ?_
                  refine (r_dup f125_15 rfl).trans ?_
                  refine (r_get (v := .int 0) f125_16 (gs_eq (gs_ne (gs_ne g33 (by decide)) (by decide))) rfl).trans ?_
                  refine (r_iloadn f125_19 rfl).trans ?_
                  refine (r_if_eq_t f125_20 (by decide)).trans ?_
                  refine (r_iconst (v := 0) f125_27 rfl).trans ?_
                  refine (r_iadd (v := 0) f125_28 (by decide)).trans ?_
                  refine (r_put (h' := ((((h.1.set 35 (.inl (3, 2560, .inl ((va_cpy (fun _ => 0) (fun _ => 0) (Int32.toNatClampNeg 0) (Int32.toNatClampNeg 0) (Int32.toNatClampNeg 0)))))).set 36 (.inl (0, 16, .inl (upd (fun _ => 0) (Int32.toNatClampNeg 0) 0)))).set 33 (.inr (10, [.ref 34, .int 0, .ref 35, .ref 36, .ref 37, .ref 38, .ref 39, .int 0, .ref 40, .int 0, .int 0, .int 0, .int 0, .ref 40, .int (-1)]))), h.2)) f125_29 (gs_eq (gs_ne (gs_ne g33 (by decide)) (by decide))) rfl hss).trans ?_
                  refine (r_iloadn f125_32 rfl).trans ?_
                  exact r_zreturn f125_33 rfl (by decide)
                refine (r_virt (as := [.int 37]) (v := (some (.int 0))) (h1 := ((((h.1.set 35 (.inl (3, 2560, .inl ((va_cpy (fun _ => 0) (fun _ => 0) (Int32.toNatClampNeg 0) (Int32.toNatClampNeg 0) (Int32.toNatClampNeg 0)))))).set 36 (.inl (0, 16, .inl (upd (fun _ => 0) (Int32.toNatClampNeg 0) 0)))).set 33 (.inr (10, [.ref 34, .int 0, .ref 35, .ref 36, .ref 37, .ref 38, .ref 39, .int 0, .ref 40, .int 0, .int 0, .int 0, .int 0, .ref 40, .int (-1)]))), h.2)) f132_71 (gs_eq (gs_ne (gs_ne g33 (by decide)) (by decide))) zg125 rfl rfl rfl rfl rfl rfl hc28).trans ?_
                refine (r_if_eq_t f132_74 (by decide)).trans ?_
                refine (r_iloadn f132_101 rfl).trans ?_
                exact r_ireturn f132_102 rfl
              refine (r_virt (as := [.int 0]) (v := (some (.int 0))) (h1 := ((((h.1.set 35 (.inl (3, 2560, .inl ((va_cpy (fun _ => 0) (fun _ => 0) (Int32.toNatClampNeg 0) (Int32.toNatClampNeg 0) (Int32.toNatClampNeg 0)))))).set 36 (.inl (0, 16, .inl (upd (fun _ => 0) (Int32.toNatClampNeg 0) 0)))).set 33 (.inr (10, [.ref 34, .int 0, .ref 35, .ref 36, .ref 37, .ref 38, .ref 39, .int 0, .ref 40, .int 0, .int 0, .int 0, .int 0, .ref 40, .int (-1)]))), h.2)) f131_2 (gs_eq (gs_ne (gs_ne g33 (by decide)) (by decide))) zg132 rfl rfl rfl rfl rfl rfl hc13).trans ?_
              refine (r_istoren (L' := [some (.ref 33), some (.int 0), some (.int 0), none]) f131_5 rfl rfl).trans ?_
              refine (r_iconst (v := 0) f131_6 rfl).trans ?_
              refine (r_istoren (L' := [some (.ref 33), some (.int 0), some (.int 0), some (.int 0)]) f131_7 rfl rfl).trans ?_
              refine (r_iloadn f131_8 rfl).trans ?_
              refine (r_sipush (v := 160) f131_9 rfl).trans ?_
              refine (r_icmp_ge_f f131_12 (by decide)).trans ?_
              refine (r_aloadn f131_15 rfl).trans ?_
              refine (r_bipush (v := 43) f131_16 rfl).trans ?_
              have hc30 : arun X (n + 39) (d + 4) zM125 0 [some (.ref 33), some (.int 43), none] [] ((((h.1.set 35 (.inl (3, 2560, .inl ((va_cpy (fun _ => 0) (fun _ => 0) (Int32.toNatClampNeg 0) (Int32.toNatClampNeg 0) (Int32.toNatClampNeg 0)))))).set 36 (.inl (0, 16, .inl (upd (fun _ => 0) (Int32.toNatClampNeg 0) 0)))).set 33 (.inr (10, [.ref 34, .int 0, .ref 35, .ref 36, .ref 37, .ref 38, .ref 39, .int 0, .ref 40, .int 0, .int 0, .int 0, .int 0, .ref 40, .int (-1)]))), h.2) = some ((some (.int 0)), ((((h.1.set 35 (.inl (3, 2560, .inl ((va_cpy (fun _ => 0) (fun _ => 0) (Int32.toNatClampNeg 0) (Int32.toNatClampNeg 0) (Int32.toNatClampNeg 0)))))).set 36 (.inl (0, 16, .inl (upd (fun _ => 0) (Int32.toNatClampNeg 0) 0)))).set 33 (.inr (10, [.ref 34, .int 0, .ref 35, .ref 36, .ref 37, .ref 38, .ref 39, .int 0, .ref 40, .int 0, .int 0, .int 0, .int 0, .ref 40, .int (-1)]))), h.2)) := by
                refine (r_aloadn f125_0 rfl).trans ?_
                have hc31 : arun X (n + 37) (d + 3) zM124 0 [some (.ref 33)] [] ((((h.1.set 35 (.inl (3, 2560, .inl ((va_cpy (fun _ => 0) (fun _ => 0) (Int32.toNatClampNeg 0) (Int32.toNatClampNeg 0) (Int32.toNatClampNeg 0)))))).set 36 (.inl (0, 16, .inl (upd (fun _ => 0) (Int32.toNatClampNeg 0) 0)))).set 33 (.inr (10, [.ref 34, .int 0, .ref 35, .ref 36, .ref 37, .ref 38, .ref 39, .int 0, .ref 40, .int 0, .int 0, .int 0, .int 0, .ref 40, .int (-1)]))), h.2) = some ((some (.int (-1))), ((((h.1.set 35 (.inl (3, 2560, .inl ((va_cpy (fun _ => 0) (fun _ => 0) (Int32.toNatClampNeg 0) (Int32.toNatClampNeg 0) (Int32.toNatClampNeg 0)))))).set 36 (.inl (0, 16, .inl (upd (fun _ => 0) (Int32.toNatClampNeg 0) 0)))).set 33 (.inr (10, [.ref 34, .int 0, .ref 35, .ref 36, .ref 37, .ref 38, .ref 39, .int 0, .ref 40, .int 0, .int 0, .int 0, .int 0, .ref 40, .int (-1)]))), h.2)) := by
                  refine (r_aloadn f124_0 rfl).trans ?_
                  refine (r_get (v := .int 0) f124_1 (gs_eq (gs_ne (gs_ne g33 (by decide)) (by decide))) rfl).trans ?_
                  refine (r_iconst (v := (-1)) f124_4 rfl).trans ?_
                  refine (r_icmp_ne_t f124_5 (by decide)).trans ?_
                  refine (r_iconst (v := (-1)) f124_40 rfl).trans ?_
                  exact r_ireturn f124_41 rfl
                refine (r_virt (as := []) (v := (some (.int (-1)))) (h1 := ((((h.1.set 35 (.inl (3, 2560, .inl ((va_cpy (fun _ => 0) (fun _ => 0) (Int32.toNatClampNeg 0) (Int32.toNatClampNeg 0) (Int32.toNatClampNeg 0)))))).set 36 (.inl (0, 16, .inl (upd (fun _ => 0) (Int32.toNatClampNeg 0) 0)))).set 33 (.inr (10, [.ref 34, .int 0, .ref 35, .ref 36, .ref 37, .ref 38, .ref 39, .int 0, .ref 40, .int 0, .int 0, .int 0, .int 0, .ref 40, .int (-1)]))), h.2)) f125_1 (gs_eq (gs_ne (gs_ne g33 (by decide)) (by decide))) zg124 rfl rfl rfl rfl rfl rfl hc31).trans ?_
                refine (r_iloadn f125_4 rfl).trans ?_
                refine (r_icmp_ne_t f125_5 (by decide)).trans ?_
                refine (r_iconst (v := 0) f125_12 rfl).trans ?_
                refine (r_istoren (L' := [some (.ref 33), some (.int 43), some (.int 0)]) f125_13 rfl rfl).trans ?_
                refine (r_aloadn f125_14 rfl).trans ?_
                refine (r_dup f125_15 rfl).trans ?_
                refine (r_get (v := .int 0) f125_16 (gs_eq (gs_ne (gs_ne g33 (by decide)) (by decide))) rfl).trans ?_
                refine (r_iloadn f125_19 rfl).trans ?_
                refine (r_if_eq_t f125_20 (by decide)).trans ?_
                refine (r_iconst (v := 0) f125_27 rfl).trans ?_
                refine (r_iadd (v := 0) f125_28 (by decide)).trans ?_
                refine (r_put (h' := ((((h.1.set 35 (.inl (3, 2560, .inl ((va_cpy (fun _ => 0) (fun _ => 0) (Int32.toNatClampNeg 0) (Int32.toNatClampNeg 0) (Int32.toNatClampNeg 0)))))).set 36 (.inl (0, 16, .inl (upd (fun _ => 0) (Int32.toNatClampNeg 0) 0)))).set 33 (.inr (10, [.ref 34, .int 0, .ref 35, .ref 36, .ref 37, .ref 38, .ref 39, .int 0, .ref 40, .int 0, .int 0, .int 0, .int 0, .ref 40, .int (-1)]))), h.2)) f125_29 (gs_eq (gs_ne (gs_ne g33 (by decide)) (by decide))) rfl hss).trans ?_
                refine (r_iloadn f125_32 rfl).trans ?_
                exact r_zreturn f125_33 rfl (by decide)
              refine (r_virt (as := [.int 43]) (v := (some (.int 0))) (h1 := ((((h.1.set 35 (.inl (3, 2560, .inl ((va_cpy (fun _ => 0) (fun _ => 0) (Int32.toNatClampNeg 0) (Int32.toNatClampNeg 0) (Int32.toNatClampNeg 0)))))).set 36 (.inl (0, 16, .inl (upd (fun _ => 0) (Int32.toNatClampNeg 0) 0)))).set 33 (.inr (10, [.ref 34, .int 0, .ref 35, .ref 36, .ref 37, .ref 38, .ref 39, .int 0, .ref 40, .int 0, .int 0, .int 0, .int 0, .ref 40, .int (-1)]))), h.2)) f131_18 (gs_eq (gs_ne (gs_ne g33 (by decide)) (by decide))) zg125 rfl rfl rfl rfl rfl rfl hc30).trans ?_
              refine (r_if_eq_t f131_21 (by decide)).trans ?_
              refine (r_aloadn f131_35 rfl).trans ?_
              refine (r_bipush (v := 45) f131_36 rfl).trans ?_
              have hc32 : arun X (n + 35) (d + 4) zM125 0 [some (.ref 33), some (.int 45), none] [] ((((h.1.set 35 (.inl (3, 2560, .inl ((va_cpy (fun _ => 0) (fun _ => 0) (Int32.toNatClampNeg 0) (Int32.toNatClampNeg 0) (Int32.toNatClampNeg 0)))))).set 36 (.inl (0, 16, .inl (upd (fun _ => 0) (Int32.toNatClampNeg 0) 0)))).set 33 (.inr (10, [.ref 34, .int 0, .ref 35, .ref 36, .ref 37, .ref 38, .ref 39, .int 0, .ref 40, .int 0, .int 0, .int 0, .int 0, .ref 40, .int (-1)]))), h.2) = some ((some (.int 0)), ((((h.1.set 35 (.inl (3, 2560, .inl ((va_cpy (fun _ => 0) (fun _ => 0) (Int32.toNatClampNeg 0) (Int32.toNatClampNeg 0) (Int32.toNatClampNeg 0)))))).set 36 (.inl (0, 16, .inl (upd (fun _ => 0) (Int32.toNatClampNeg 0) 0)))).set 33 (.inr (10, [.ref 34, .int 0, .ref 35, .ref 36, .ref 37, .ref 38, .ref 39, .int 0, .ref 40, .int 0, .int 0, .int 0, .int 0, .ref 40, .int (-1)]))), h.2)) := by
                refine (r_aloadn f125_0 rfl).trans ?_
                have hc33 : arun X (n + 33) (d + 3) zM124 0 [some (.ref 33)] [] ((((h.1.set 35 (.inl (3, 2560, .inl ((va_cpy (fun _ => 0) (fun _ => 0) (Int32.toNatClampNeg 0) (Int32.toNatClampNeg 0) (Int32.toNatClampNeg 0)))))).set 36 (.inl (0, 16, .inl (upd (fun _ => 0) (Int32.toNatClampNeg 0) 0)))).set 33 (.inr (10, [.ref 34, .int 0, .ref 35, .ref 36, .ref 37, .ref 38, .ref 39, .int 0, .ref 40, .int 0, .int 0, .int 0, .int 0, .ref 40, .int (-1)]))), h.2) = some ((some (.int (-1))), ((((h.1.set 35 (.inl (3, 2560, .inl ((va_cpy (fun _ => 0) (fun _ => 0) (Int32.toNatClampNeg 0) (Int32.toNatClampNeg 0) (Int32.toNatClampNeg 0)))))).set 36 (.inl (0, 16, .inl (upd (fun _ => 0) (Int32.toNatClampNeg 0) 0)))).set 33 (.inr (10, [.ref 34, .int 0, .ref 35, .ref 36, .ref 37, .ref 38, .ref 39, .int 0, .ref 40, .int 0, .int 0, .int 0, .int 0, .ref 40, .int (-1)]))), h.2)) := by
                  refine (r_aloadn f124_0 rfl).trans ?_
                  refine (r_get (v := .int 0) f124_1 (gs_eq (gs_ne (gs_ne g33 (by decide)) (by decide))) rfl).trans ?_
                  refine (r_iconst (v := (-1)) f124_4 rfl).trans ?_
                  refine (r_icmp_ne_t f124_5 (by decide)).trans ?_
                  refine (r_iconst (v := (-1)) f124_40 rfl).trans ?_
                  exact r_ireturn f124_41 rfl
                refine (r_virt (as := []) (v := (some (.int (-1)))) (h1 := ((((h.1.set 35 (.inl (3, 2560, .inl ((va_cpy (fun _ => 0) (fun _ => 0) (Int32.toNatClampNeg 0) (Int32.toNatClampNeg 0) (Int32.toNatClampNeg 0)))))).set 36 (.inl (0, 16, .inl (upd (fun _ => 0) (Int32.toNatClampNeg 0) 0)))).set 33 (.inr (10, [.ref 34, .int 0, .ref 35, .ref 36, .ref 37, .ref 38, .ref 39, .int 0, .ref 40, .int 0, .int 0, .int 0, .int 0, .ref 40, .int (-1)]))), h.2)) f125_1 (gs_eq (gs_ne (gs_ne g33 (by decide)) (by decide))) zg124 rfl rfl rfl rfl rfl rfl hc33).trans ?_
                refine (r_iloadn f125_4 rfl).trans ?_
                refine (r_icmp_ne_t f125_5 (by decide)).trans ?_
                refine (r_iconst (v := 0) f125_12 rfl).trans ?_
                refine (r_istoren (L' := [some (.ref 33), some (.int 45), some (.int 0)]) f125_13 rfl rfl).trans ?_
                refine (r_aloadn f125_14 rfl).trans ?_
                refine (r_dup f125_15 rfl).trans ?_
                refine (r_get (v := .int 0) f125_16 (gs_eq (gs_ne (gs_ne g33 (by decide)) (by decide))) rfl).trans ?_
                refine (r_iloadn f125_19 rfl).trans ?_
                refine (r_if_eq_t f125_20 (by decide)).trans ?_
                refine (r_iconst (v := 0) f125_27 rfl).trans ?_
                refine (r_iadd (v := 0) f125_28 (by decide)).trans ?_
                refine (r_put (h' := ((((h.1.set 35 (.inl (3, 2560, .inl ((va_cpy (fun _ => 0) (fun _ => 0) (Int32.toNatClampNeg 0) (Int32.toNatClampNeg 0) (Int32.toNatClampNeg 0)))))).set 36 (.inl (0, 16, .inl (upd (fun _ => 0) (Int32.toNatClampNeg 0) 0)))).set 33 (.inr (10, [.ref 34, .int 0, .ref 35, .ref 36, .ref 37, .ref 38, .ref 39, .int 0, .ref 40, .int 0, .int 0, .int 0, .int 0, .ref 40, .int (-1)]))), h.2)) f125_29 (gs_eq (gs_ne (gs_ne g33 (by decide)) (by decide))) rfl hss).trans ?_
                refine (r_iloadn f125_32 rfl).trans ?_
                exact r_zreturn f125_33 rfl (by decide)
              refine (r_virt (as := [.int 45]) (v := (some (.int 0))) (h1 := ((((h.1.set 35 (.inl (3, 2560, .inl ((va_cpy (fun _ => 0) (fun _ => 0) (Int32.toNatClampNeg 0) (Int32.toNatClampNeg 0) (Int32.toNatClampNeg 0)))))).set 36 (.inl (0, 16, .inl (upd (fun _ => 0) (Int32.toNatClampNeg 0) 0)))).set 33 (.inr (10, [.ref 34, .int 0, .ref 35, .ref 36, .ref 37, .ref 38, .ref 39, .int 0, .ref 40, .int 0, .int 0, .int 0, .int 0, .ref 40, .int (-1)]))), h.2)) f131_38 (gs_eq (gs_ne (gs_ne g33 (by decide)) (by decide))) zg125 rfl rfl rfl rfl rfl rfl hc32).trans ?_
              refine (r_if_eq_t f131_41 (by decide)).trans ?_
              refine (r_iloadn f131_55 rfl).trans ?_
              exact r_ireturn f131_56 rfl
            refine (r_virt (as := [.int 0]) (v := (some (.int 0))) (h1 := ((((h.1.set 35 (.inl (3, 2560, .inl ((va_cpy (fun _ => 0) (fun _ => 0) (Int32.toNatClampNeg 0) (Int32.toNatClampNeg 0) (Int32.toNatClampNeg 0)))))).set 36 (.inl (0, 16, .inl (upd (fun _ => 0) (Int32.toNatClampNeg 0) 0)))).set 33 (.inr (10, [.ref 34, .int 0, .ref 35, .ref 36, .ref 37, .ref 38, .ref 39, .int 0, .ref 40, .int 0, .int 0, .int 0, .int 0, .ref 40, .int (-1)]))), h.2)) f130_2 (gs_eq (gs_ne (gs_ne g33 (by decide)) (by decide))) zg131 rfl rfl rfl rfl rfl rfl hc12).trans ?_
            refine (r_istoren (L' := [some (.ref 33), some (.int 0), some (.int 0)]) f130_5 rfl rfl).trans ?_
            refine (r_aloadn f130_6 rfl).trans ?_
            refine (r_bipush (v := 60) f130_7 rfl).trans ?_
            have hc34 : arun X (n + 47) (d + 5) zM125 0 [some (.ref 33), some (.int 60), none] [] ((((h.1.set 35 (.inl (3, 2560, .inl ((va_cpy (fun _ => 0) (fun _ => 0) (Int32.toNatClampNeg 0) (Int32.toNatClampNeg 0) (Int32.toNatClampNeg 0)))))).set 36 (.inl (0, 16, .inl (upd (fun _ => 0) (Int32.toNatClampNeg 0) 0)))).set 33 (.inr (10, [.ref 34, .int 0, .ref 35, .ref 36, .ref 37, .ref 38, .ref 39, .int 0, .ref 40, .int 0, .int 0, .int 0, .int 0, .ref 40, .int (-1)]))), h.2) = some ((some (.int 0)), ((((h.1.set 35 (.inl (3, 2560, .inl ((va_cpy (fun _ => 0) (fun _ => 0) (Int32.toNatClampNeg 0) (Int32.toNatClampNeg 0) (Int32.toNatClampNeg 0)))))).set 36 (.inl (0, 16, .inl (upd (fun _ => 0) (Int32.toNatClampNeg 0) 0)))).set 33 (.inr (10, [.ref 34, .int 0, .ref 35, .ref 36, .ref 37, .ref 38, .ref 39, .int 0, .ref 40, .int 0, .int 0, .int 0, .int 0, .ref 40, .int (-1)]))), h.2)) := by
              refine (r_aloadn f125_0 rfl).trans ?_
              have hc35 : arun X (n + 45) (d + 4) zM124 0 [some (.ref 33)] [] ((((h.1.set 35 (.inl (3, 2560, .inl ((va_cpy (fun _ => 0) (fun _ => 0) (Int32.toNatClampNeg 0) (Int32.toNatClampNeg 0) (Int32.toNatClampNeg 0)))))).set 36 (.inl (0, 16, .inl (upd (fun _ => 0) (Int32.toNatClampNeg 0) 0)))).set 33 (.inr (10, [.ref 34, .int 0, .ref 35, .ref 36, .ref 37, .ref 38, .ref 39, .int 0, .ref 40, .int 0, .int 0, .int 0, .int 0, .ref 40, .int (-1)]))), h.2) = some ((some (.int (-1))), ((((h.1.set 35 (.inl (3, 2560, .inl ((va_cpy (fun _ => 0) (fun _ => 0) (Int32.toNatClampNeg 0) (Int32.toNatClampNeg 0) (Int32.toNatClampNeg 0)))))).set 36 (.inl (0, 16, .inl (upd (fun _ => 0) (Int32.toNatClampNeg 0) 0)))).set 33 (.inr (10, [.ref 34, .int 0, .ref 35, .ref 36, .ref 37, .ref 38, .ref 39, .int 0, .ref 40, .int 0, .int 0, .int 0, .int 0, .ref 40, .int (-1)]))), h.2)) := by
                refine (r_aloadn f124_0 rfl).trans ?_
                refine (r_get (v := .int 0) f124_1 (gs_eq (gs_ne (gs_ne g33 (by decide)) (by decide))) rfl).trans ?_
                refine (r_iconst (v := (-1)) f124_4 rfl).trans ?_
                refine (r_icmp_ne_t f124_5 (by decide)).trans ?_
                refine (r_iconst (v := (-1)) f124_40 rfl).trans ?_
                exact r_ireturn f124_41 rfl
              refine (r_virt (as := []) (v := (some (.int (-1)))) (h1 := ((((h.1.set 35 (.inl (3, 2560, .inl ((va_cpy (fun _ => 0) (fun _ => 0) (Int32.toNatClampNeg 0) (Int32.toNatClampNeg 0) (Int32.toNatClampNeg 0)))))).set 36 (.inl (0, 16, .inl (upd (fun _ => 0) (Int32.toNatClampNeg 0) 0)))).set 33 (.inr (10, [.ref 34, .int 0, .ref 35, .ref 36, .ref 37, .ref 38, .ref 39, .int 0, .ref 40, .int 0, .int 0, .int 0, .int 0, .ref 40, .int (-1)]))), h.2)) f125_1 (gs_eq (gs_ne (gs_ne g33 (by decide)) (by decide))) zg124 rfl rfl rfl rfl rfl rfl hc35).trans ?_
              refine (r_iloadn f125_4 rfl).trans ?_
              refine (r_icmp_ne_t f125_5 (by decide)).trans ?_
              refine (r_iconst (v := 0) f125_12 rfl).trans ?_
              refine (r_istoren (L' := [some (.ref 33), some (.int 60), some (.int 0)]) f125_13 rfl rfl).trans ?_
              refine (r_aloadn f125_14 rfl).trans ?_
              refine (r_dup f125_15 rfl).trans ?_
              refine (r_get (v := .int 0) f125_16 (gs_eq (gs_ne (gs_ne g33 (by decide)) (by decide))) rfl).trans ?_
              refine (r_iloadn f125_19 rfl).trans ?_
              refine (r_if_eq_t f125_20 (by decide)).trans ?_
              refine (r_iconst (v := 0) f125_27 rfl).trans ?_
              refine (r_iadd (v := 0) f125_28 (by decide)).trans ?_
              refine (r_put (h' := ((((h.1.set 35 (.inl (3, 2560, .inl ((va_cpy (fun _ => 0) (fun _ => 0) (Int32.toNatClampNeg 0) (Int32.toNatClampNeg 0) (Int32.toNatClampNeg 0)))))).set 36 (.inl (0, 16, .inl (upd (fun _ => 0) (Int32.toNatClampNeg 0) 0)))).set 33 (.inr (10, [.ref 34, .int 0, .ref 35, .ref 36, .ref 37, .ref 38, .ref 39, .int 0, .ref 40, .int 0, .int 0, .int 0, .int 0, .ref 40, .int (-1)]))), h.2)) f125_29 (gs_eq (gs_ne (gs_ne g33 (by decide)) (by decide))) rfl hss).trans ?_
              refine (r_iloadn f125_32 rfl).trans ?_
              exact r_zreturn f125_33 rfl (by decide)
            refine (r_virt (as := [.int 60]) (v := (some (.int 0))) (h1 := ((((h.1.set 35 (.inl (3, 2560, .inl ((va_cpy (fun _ => 0) (fun _ => 0) (Int32.toNatClampNeg 0) (Int32.toNatClampNeg 0) (Int32.toNatClampNeg 0)))))).set 36 (.inl (0, 16, .inl (upd (fun _ => 0) (Int32.toNatClampNeg 0) 0)))).set 33 (.inr (10, [.ref 34, .int 0, .ref 35, .ref 36, .ref 37, .ref 38, .ref 39, .int 0, .ref 40, .int 0, .int 0, .int 0, .int 0, .ref 40, .int (-1)]))), h.2)) f130_9 (gs_eq (gs_ne (gs_ne g33 (by decide)) (by decide))) zg125 rfl rfl rfl rfl rfl rfl hc34).trans ?_
            refine (r_if_eq_t f130_12 (by decide)).trans ?_
            refine (r_aloadn f130_33 rfl).trans ?_
            refine (r_bipush (v := 61) f130_34 rfl).trans ?_
            have hc36 : arun X (n + 43) (d + 5) zM125 0 [some (.ref 33), some (.int 61), none] [] ((((h.1.set 35 (.inl (3, 2560, .inl ((va_cpy (fun _ => 0) (fun _ => 0) (Int32.toNatClampNeg 0) (Int32.toNatClampNeg 0) (Int32.toNatClampNeg 0)))))).set 36 (.inl (0, 16, .inl (upd (fun _ => 0) (Int32.toNatClampNeg 0) 0)))).set 33 (.inr (10, [.ref 34, .int 0, .ref 35, .ref 36, .ref 37, .ref 38, .ref 39, .int 0, .ref 40, .int 0, .int 0, .int 0, .int 0, .ref 40, .int (-1)]))), h.2) = some ((some (.int 0)), ((((h.1.set 35 (.inl (3, 2560, .inl ((va_cpy (fun _ => 0) (fun _ => 0) (Int32.toNatClampNeg 0) (Int32.toNatClampNeg 0) (Int32.toNatClampNeg 0)))))).set 36 (.inl (0, 16, .inl (upd (fun _ => 0) (Int32.toNatClampNeg 0) 0)))).set 33 (.inr (10, [.ref 34, .int 0, .ref 35, .ref 36, .ref 37, .ref 38, .ref 39, .int 0, .ref 40, .int 0, .int 0, .int 0, .int 0, .ref 40, .int (-1)]))), h.2)) := by
              refine (r_aloadn f125_0 rfl).trans ?_
              have hc37 : arun X (n + 41) (d + 4) zM124 0 [some (.ref 33)] [] ((((h.1.set 35 (.inl (3, 2560, .inl ((va_cpy (fun _ => 0) (fun _ => 0) (Int32.toNatClampNeg 0) (Int32.toNatClampNeg 0) (Int32.toNatClampNeg 0)))))).set 36 (.inl (0, 16, .inl (upd (fun _ => 0) (Int32.toNatClampNeg 0) 0)))).set 33 (.inr (10, [.ref 34, .int 0, .ref 35, .ref 36, .ref 37, .ref 38, .ref 39, .int 0, .ref 40, .int 0, .int 0, .int 0, .int 0, .ref 40, .int (-1)]))), h.2) = some ((some (.int (-1))), ((((h.1.set 35 (.inl (3, 2560, .inl ((va_cpy (fun _ => 0) (fun _ => 0) (Int32.toNatClampNeg 0) (Int32.toNatClampNeg 0) (Int32.toNatClampNeg 0)))))).set 36 (.inl (0, 16, .inl (upd (fun _ => 0) (Int32.toNatClampNeg 0) 0)))).set 33 (.inr (10, [.ref 34, .int 0, .ref 35, .ref 36, .ref 37, .ref 38, .ref 39, .int 0, .ref 40, .int 0, .int 0, .int 0, .int 0, .ref 40, .int (-1)]))), h.2)) := by
                refine (r_aloadn f124_0 rfl).trans ?_
                refine (r_get (v := .int 0) f124_1 (gs_eq (gs_ne (gs_ne g33 (by decide)) (by decide))) rfl).trans ?_
                refine (r_iconst (v := (-1)) f124_4 rfl).trans ?_
                refine (r_icmp_ne_t f124_5 (by decide)).trans ?_
                refine (r_iconst (v := (-1)) f124_40 rfl).trans ?_
                exact r_ireturn f124_41 rfl
              refine (r_virt (as := []) (v := (some (.int (-1)))) (h1 := ((((h.1.set 35 (.inl (3, 2560, .inl ((va_cpy (fun _ => 0) (fun _ => 0) (Int32.toNatClampNeg 0) (Int32.toNatClampNeg 0) (Int32.toNatClampNeg 0)))))).set 36 (.inl (0, 16, .inl (upd (fun _ => 0) (Int32.toNatClampNeg 0) 0)))).set 33 (.inr (10, [.ref 34, .int 0, .ref 35, .ref 36, .ref 37, .ref 38, .ref 39, .int 0, .ref 40, .int 0, .int 0, .int 0, .int 0, .ref 40, .int (-1)]))), h.2)) f125_1 (gs_eq (gs_ne (gs_ne g33 (by decide)) (by decide))) zg124 rfl rfl rfl rfl rfl rfl hc37).trans ?_
              refine (r_iloadn f125_4 rfl).trans ?_
              refine (r_icmp_ne_t f125_5 (by decide)).trans ?_
              refine (r_iconst (v := 0) f125_12 rfl).trans ?_
              refine (r_istoren (L' := [some (.ref 33), some (.int 61), some (.int 0)]) f125_13 rfl rfl).trans ?_
              refine (r_aloadn f125_14 rfl).trans ?_
              refine (r_dup f125_15 rfl).trans ?_
              refine (r_get (v := .int 0) f125_16 (gs_eq (gs_ne (gs_ne g33 (by decide)) (by decide))) rfl).trans ?_
              refine (r_iloadn f125_19 rfl).trans ?_
              refine (r_if_eq_t f125_20 (by decide)).trans ?_
              refine (r_iconst (v := 0) f125_27 rfl).trans ?_
              refine (r_iadd (v := 0) f125_28 (by decide)).trans ?_
              refine (r_put (h' := ((((h.1.set 35 (.inl (3, 2560, .inl ((va_cpy (fun _ => 0) (fun _ => 0) (Int32.toNatClampNeg 0) (Int32.toNatClampNeg 0) (Int32.toNatClampNeg 0)))))).set 36 (.inl (0, 16, .inl (upd (fun _ => 0) (Int32.toNatClampNeg 0) 0)))).set 33 (.inr (10, [.ref 34, .int 0, .ref 35, .ref 36, .ref 37, .ref 38, .ref 39, .int 0, .ref 40, .int 0, .int 0, .int 0, .int 0, .ref 40, .int (-1)]))), h.2)) f125_29 (gs_eq (gs_ne (gs_ne g33 (by decide)) (by decide))) rfl hss).trans ?_
              refine (r_iloadn f125_32 rfl).trans ?_
              exact r_zreturn f125_33 rfl (by decide)
            refine (r_virt (as := [.int 61]) (v := (some (.int 0))) (h1 := ((((h.1.set 35 (.inl (3, 2560, .inl ((va_cpy (fun _ => 0) (fun _ => 0) (Int32.toNatClampNeg 0) (Int32.toNatClampNeg 0) (Int32.toNatClampNeg 0)))))).set 36 (.inl (0, 16, .inl (upd (fun _ => 0) (Int32.toNatClampNeg 0) 0)))).set 33 (.inr (10, [.ref 34, .int 0, .ref 35, .ref 36, .ref 37, .ref 38, .ref 39, .int 0, .ref 40, .int 0, .int 0, .int 0, .int 0, .ref 40, .int (-1)]))), h.2)) f130_36 (gs_eq (gs_ne (gs_ne g33 (by decide)) (by decide))) zg125 rfl rfl rfl rfl rfl rfl hc36).trans ?_
            refine (r_if_eq_t f130_39 (by decide)).trans ?_
            refine (r_aloadn f130_60 rfl).trans ?_
            refine (r_bipush (v := 62) f130_61 rfl).trans ?_
            have hc38 : arun X (n + 39) (d + 5) zM125 0 [some (.ref 33), some (.int 62), none] [] ((((h.1.set 35 (.inl (3, 2560, .inl ((va_cpy (fun _ => 0) (fun _ => 0) (Int32.toNatClampNeg 0) (Int32.toNatClampNeg 0) (Int32.toNatClampNeg 0)))))).set 36 (.inl (0, 16, .inl (upd (fun _ => 0) (Int32.toNatClampNeg 0) 0)))).set 33 (.inr (10, [.ref 34, .int 0, .ref 35, .ref 36, .ref 37, .ref 38, .ref 39, .int 0, .ref 40, .int 0, .int 0, .int 0, .int 0, .ref 40, .int (-1)]))), h.2) = some ((some (.int 0)), ((((h.1.set 35 (.inl (3, 2560, .inl ((va_cpy (fun _ => 0) (fun _ => 0) (Int32.toNatClampNeg 0) (Int32.toNatClampNeg 0) (Int32.toNatClampNeg 0)))))).set 36 (.inl (0, 16, .inl (upd (fun _ => 0) (Int32.toNatClampNeg 0) 0)))).set 33 (.inr (10, [.ref 34, .int 0, .ref 35, .ref 36, .ref 37, .ref 38, .ref 39, .int 0, .ref 40, .int 0, .int 0, .int 0, .int 0, .ref 40, .int (-1)]))), h.2)) := by
              refine (r_aloadn f125_0 rfl).trans ?_
              have hc39 : arun X (n + 37) (d + 4) zM124 0 [some (.ref 33)] [] ((((h.1.set 35 (.inl (3, 2560, .inl ((va_cpy (fun _ => 0) (fun _ => 0) (Int32.toNatClampNeg 0) (Int32.toNatClampNeg 0) (Int32.toNatClampNeg 0)))))).set 36 (.inl (0, 16, .inl (upd (fun _ => 0) (Int32.toNatClampNeg 0) 0)))).set 33 (.inr (10, [.ref 34, .int 0, .ref 35, .ref 36, .ref 37, .ref 38, .ref 39, .int 0, .ref 40, .int 0, .int 0, .int 0, .int 0, .ref 40, .int (-1)]))), h.2) = some ((some (.int (-1))), ((((h.1.set 35 (.inl (3, 2560, .inl ((va_cpy (fun _ => 0) (fun _ => 0) (Int32.toNatClampNeg 0) (Int32.toNatClampNeg 0) (Int32.toNatClampNeg 0)))))).set 36 (.inl (0, 16, .inl (upd (fun _ => 0) (Int32.toNatClampNeg 0) 0)))).set 33 (.inr (10, [.ref 34, .int 0, .ref 35, .ref 36, .ref 37, .ref 38, .ref 39, .int 0, .ref 40, .int 0, .int 0, .int 0, .int 0, .ref 40, .int (-1)]))), h.2)) := by
                refine (r_aloadn f124_0 rfl).trans ?_
                refine (r_get (v := .int 0) f124_1 (gs_eq (gs_ne (gs_ne g33 (by decide)) (by decide))) rfl).trans ?_
                refine (r_iconst (v := (-1)) f124_4 rfl).trans ?_
                refine (r_icmp_ne_t f124_5 (by decide)).trans ?_
                refine (r_iconst (v := (-1)) f124_40 rfl).trans ?_
                exact r_ireturn f124_41 rfl
              refine (r_virt (as := []) (v := (some (.int (-1)))) (h1 := ((((h.1.set 35 (.inl (3, 2560, .inl ((va_cpy (fun _ => 0) (fun _ => 0) (Int32.toNatClampNeg 0) (Int32.toNatClampNeg 0) (Int32.toNatClampNeg 0)))))).set 36 (.inl (0, 16, .inl (upd (fun _ => 0) (Int32.toNatClampNeg 0) 0)))).set 33 (.inr (10, [.ref 34, .int 0, .ref 35, .ref 36, .ref 37, .ref 38, .ref 39, .int 0, .ref 40, .int 0, .int 0, .int 0, .int 0, .ref 40, .int (-1)]))), h.2)) f125_1 (gs_eq (gs_ne (gs_ne g33 (by decide)) (by decide))) zg124 rfl rfl rfl rfl rfl rfl hc39).trans ?_
              refine (r_iloadn f125_4 rfl).trans ?_
              refine (r_icmp_ne_t f125_5 (by decide)).trans ?_
              refine (r_iconst (v := 0) f125_12 rfl).trans ?_
              refine (r_istoren (L' := [some (.ref 33), some (.int 62), some (.int 0)]) f125_13 rfl rfl).trans ?_
              refine (r_aloadn f125_14 rfl).trans ?_
              refine (r_dup f125_15 rfl).trans ?_
              refine (r_get (v := .int 0) f125_16 (gs_eq (gs_ne (gs_ne g33 (by decide)) (by decide))) rfl).trans ?_
              refine (r_iloadn f125_19 rfl).trans ?_
              refine (r_if_eq_t f125_20 (by decide)).trans ?_
              refine (r_iconst (v := 0) f125_27 rfl).trans ?_
              refine (r_iadd (v := 0) f125_28 (by decide)).trans ?_
              refine (r_put (h' := ((((h.1.set 35 (.inl (3, 2560, .inl ((va_cpy (fun _ => 0) (fun _ => 0) (Int32.toNatClampNeg 0) (Int32.toNatClampNeg 0) (Int32.toNatClampNeg 0)))))).set 36 (.inl (0, 16, .inl (upd (fun _ => 0) (Int32.toNatClampNeg 0) 0)))).set 33 (.inr (10, [.ref 34, .int 0, .ref 35, .ref 36, .ref 37, .ref 38, .ref 39, .int 0, .ref 40, .int 0, .int 0, .int 0, .int 0, .ref 40, .int (-1)]))), h.2)) f125_29 (gs_eq (gs_ne (gs_ne g33 (by decide)) (by decide))) rfl hss).trans ?_
              refine (r_iloadn f125_32 rfl).trans ?_
              exact r_zreturn f125_33 rfl (by decide)
            refine (r_virt (as := [.int 62]) (v := (some (.int 0))) (h1 := ((((h.1.set 35 (.inl (3, 2560, .inl ((va_cpy (fun _ => 0) (fun _ => 0) (Int32.toNatClampNeg 0) (Int32.toNatClampNeg 0) (Int32.toNatClampNeg 0)))))).set 36 (.inl (0, 16, .inl (upd (fun _ => 0) (Int32.toNatClampNeg 0) 0)))).set 33 (.inr (10, [.ref 34, .int 0, .ref 35, .ref 36, .ref 37, .ref 38, .ref 39, .int 0, .ref 40, .int 0, .int 0, .int 0, .int 0, .ref 40, .int (-1)]))), h.2)) f130_63 (gs_eq (gs_ne (gs_ne g33 (by decide)) (by decide))) zg125 rfl rfl rfl rfl rfl rfl hc38).trans ?_
            refine (r_if_eq_t f130_66 (by decide)).trans ?_
            refine (r_iloadn f130_87 rfl).trans ?_
            exact r_ireturn f130_88 rfl
          refine (r_virt (as := [.int 0]) (v := (some (.int 0))) (h1 := ((((h.1.set 35 (.inl (3, 2560, .inl ((va_cpy (fun _ => 0) (fun _ => 0) (Int32.toNatClampNeg 0) (Int32.toNatClampNeg 0) (Int32.toNatClampNeg 0)))))).set 36 (.inl (0, 16, .inl (upd (fun _ => 0) (Int32.toNatClampNeg 0) 0)))).set 33 (.inr (10, [.ref 34, .int 0, .ref 35, .ref 36, .ref 37, .ref 38, .ref 39, .int 0, .ref 40, .int 0, .int 0, .int 0, .int 0, .ref 40, .int (-1)]))), h.2)) f129_2 (gs_eq (gs_ne (gs_ne g33 (by decide)) (by decide))) zg130 rfl rfl rfl rfl rfl rfl hc11).trans ?_
          refine (r_istoren (L' := [some (.ref 33), some (.int 0), some (.int 0), none, none]) f129_5 rfl rfl).trans ?_
          refine (r_iconst (v := 0) f129_6 rfl).trans ?_
          refine (r_istoren (L' := [some (.ref 33), some (.int 0), some (.int 0), some (.int 0), none]) f129_7 rfl rfl).trans ?_
          refine (r_iloadn f129_8 rfl).trans ?_
          refine (r_sipush (v := 160) f129_9 rfl).trans ?_
          refine (r_icmp_ge_f f129_12 (by decide)).trans ?_
          refine (r_aloadn f129_15 rfl).trans ?_
          refine (r_bipush (v := 38) f129_16 rfl).trans ?_
          have hc40 : arun X (n + 45) (d + 6) zM125 0 [some (.ref 33), some (.int 38), none] [] ((((h.1.set 35 (.inl (3, 2560, .inl ((va_cpy (fun _ => 0) (fun _ => 0) (Int32.toNatClampNeg 0) (Int32.toNatClampNeg 0) (Int32.toNatClampNeg 0)))))).set 36 (.inl (0, 16, .inl (upd (fun _ => 0) (Int32.toNatClampNeg 0) 0)))).set 33 (.inr (10, [.ref 34, .int 0, .ref 35, .ref 36, .ref 37, .ref 38, .ref 39, .int 0, .ref 40, .int 0, .int 0, .int 0, .int 0, .ref 40, .int (-1)]))), h.2) = some ((some (.int 0)), ((((h.1.set 35 (.inl (3, 2560, .inl ((va_cpy (fun _ => 0) (fun _ => 0) (Int32.toNatClampNeg 0) (Int32.toNatClampNeg 0) (Int32.toNatClampNeg 0)))))).set 36 (.inl (0, 16, .inl (upd (fun _ => 0) (Int32.toNatClampNeg 0) 0)))).set 33 (.inr (10, [.ref 34, .int 0, .ref 35, .ref 36, .ref 37, .ref 38, .ref 39, .int 0, .ref 40, .int 0, .int 0, .int 0, .int 0, .ref 40, .int (-1)]))), h.2)) := by
            refine (r_aloadn f125_0 rfl).trans ?_
            have hc41 : arun X (n + 43) (d + 5) zM124 0 [some (.ref 33)] [] ((((h.1.set 35 (.inl (3, 2560, .inl ((va_cpy (fun _ => 0) (fun _ => 0) (Int32.toNatClampNeg 0) (Int32.toNatClampNeg 0) (Int32.toNatClampNeg 0)))))).set 36 (.inl (0, 16, .inl (upd (fun _ => 0) (Int32.toNatClampNeg 0) 0)))).set 33 (.inr (10, [.ref 34, .int 0, .ref 35, .ref 36, .ref 37, .ref 38, .ref 39, .int 0, .ref 40, .int 0, .int 0, .int 0, .int 0, .ref 40, .int (-1)]))), h.2) = some ((some (.int (-1))), ((((h.1.set 35 (.inl (3, 2560, .inl ((va_cpy (fun _ => 0) (fun _ => 0) (Int32.toNatClampNeg 0) (Int32.toNatClampNeg 0) (Int32.toNatClampNeg 0)))))).set 36 (.inl (0, 16, .inl (upd (fun _ => 0) (Int32.toNatClampNeg 0) 0)))).set 33 (.inr (10, [.ref 34, .int 0, .ref 35, .ref 36, .ref 37, .ref 38, .ref 39, .int 0, .ref 40, .int 0, .int 0, .int 0, .int 0, .ref 40, .int (-1)]))), h.2)) := by
              refine (r_aloadn f124_0 rfl).trans ?_
              refine (r_get (v := .int 0) f124_1 (gs_eq (gs_ne (gs_ne g33 (by decide)) (by decide))) rfl).trans ?_
              refine (r_iconst (v := (-1)) f124_4 rfl).trans ?_
              refine (r_icmp_ne_t f124_5 (by decide)).trans ?_
              refine (r_iconst (v := (-1)) f124_40 rfl).trans ?_
              exact r_ireturn f124_41 rfl
            refine (r_virt (as := []) (v := (some (.int (-1)))) (h1 := ((((h.1.set 35 (.inl (3, 2560, .inl ((va_cpy (fun _ => 0) (fun _ => 0) (Int32.toNatClampNeg 0) (Int32.toNatClampNeg 0) (Int32.toNatClampNeg 0)))))).set 36 (.inl (0, 16, .inl (upd (fun _ => 0) (Int32.toNatClampNeg 0) 0)))).set 33 (.inr (10, [.ref 34, .int 0, .ref 35, .ref 36, .ref 37, .ref 38, .ref 39, .int 0, .ref 40, .int 0, .int 0, .int 0, .int 0, .ref 40, .int (-1)]))), h.2)) f125_1 (gs_eq (gs_ne (gs_ne g33 (by decide)) (by decide))) zg124 rfl rfl rfl rfl rfl rfl hc41).trans ?_
            refine (r_iloadn f125_4 rfl).trans ?_
            refine (r_icmp_ne_t f125_5 (by decide)).trans ?_
            refine (r_iconst (v := 0) f125_12 rfl).trans ?_
            refine (r_istoren (L' := [some (.ref 33), some (.int 38), some (.int 0)]) f125_13 rfl rfl).trans ?_
            refine (r_aloadn f125_14 rfl).trans ?_
            refine (r_dup f125_15 rfl).trans ?_
            refine (r_get (v := .int 0) f125_16 (gs_eq (gs_ne (gs_ne g33 (by decide)) (by decide))) rfl).trans ?_
            refine (r_iloadn f125_19 rfl).trans ?_
            refine (r_if_eq_t f125_20 (by decide)).trans ?_
            refine (r_iconst (v := 0) f125_27 rfl).trans ?_
            refine (r_iadd (v := 0) f125_28 (by decide)).trans ?_
            refine (r_put (h' := ((((h.1.set 35 (.inl (3, 2560, .inl ((va_cpy (fun _ => 0) (fun _ => 0) (Int32.toNatClampNeg 0) (Int32.toNatClampNeg 0) (Int32.toNatClampNeg 0)))))).set 36 (.inl (0, 16, .inl (upd (fun _ => 0) (Int32.toNatClampNeg 0) 0)))).set 33 (.inr (10, [.ref 34, .int 0, .ref 35, .ref 36, .ref 37, .ref 38, .ref 39, .int 0, .ref 40, .int 0, .int 0, .int 0, .int 0, .ref 40, .int (-1)]))), h.2)) f125_29 (gs_eq (gs_ne (gs_ne g33 (by decide)) (by decide))) rfl hss).trans ?_
            refine (r_iloadn f125_32 rfl).trans ?_
            exact r_zreturn f125_33 rfl (by decide)
          refine (r_virt (as := [.int 38]) (v := (some (.int 0))) (h1 := ((((h.1.set 35 (.inl (3, 2560, .inl ((va_cpy (fun _ => 0) (fun _ => 0) (Int32.toNatClampNeg 0) (Int32.toNatClampNeg 0) (Int32.toNatClampNeg 0)))))).set 36 (.inl (0, 16, .inl (upd (fun _ => 0) (Int32.toNatClampNeg 0) 0)))).set 33 (.inr (10, [.ref 34, .int 0, .ref 35, .ref 36, .ref 37, .ref 38, .ref 39, .int 0, .ref 40, .int 0, .int 0, .int 0, .int 0, .ref 40, .int (-1)]))), h.2)) f129_18 (gs_eq (gs_ne (gs_ne g33 (by decide)) (by decide))) zg125 rfl rfl rfl rfl rfl rfl hc40).trans ?_
          refine (r_if_eq_t f129_21 (by decide)).trans ?_
          refine (r_iloadn f129_55 rfl).trans ?_
          exact r_ireturn f129_56 rfl
        refine (r_virt (as := [.int 0]) (v := (some (.int 0))) (h1 := ((((h.1.set 35 (.inl (3, 2560, .inl ((va_cpy (fun _ => 0) (fun _ => 0) (Int32.toNatClampNeg 0) (Int32.toNatClampNeg 0) (Int32.toNatClampNeg 0)))))).set 36 (.inl (0, 16, .inl (upd (fun _ => 0) (Int32.toNatClampNeg 0) 0)))).set 33 (.inr (10, [.ref 34, .int 0, .ref 35, .ref 36, .ref 37, .ref 38, .ref 39, .int 0, .ref 40, .int 0, .int 0, .int 0, .int 0, .ref 40, .int (-1)]))), h.2)) f128_2 (gs_eq (gs_ne (gs_ne g33 (by decide)) (by decide))) zg129 rfl rfl rfl rfl rfl rfl hc10).trans ?_
        refine (r_istoren (L' := [some (.ref 33), some (.int 0), some (.int 0), none, none]) f128_5 rfl rfl).trans ?_
        refine (r_iconst (v := 0) f128_6 rfl).trans ?_
        refine (r_istoren (L' := [some (.ref 33), some (.int 0), some (.int 0), some (.int 0), none]) f128_7 rfl rfl).trans ?_
        refine (r_iloadn f128_8 rfl).trans ?_
        refine (r_sipush (v := 160) f128_9 rfl).trans ?_
        refine (r_icmp_ge_f f128_12 (by decide)).trans ?_
        refine (r_aloadn f128_15 rfl).trans ?_
        refine (r_bipush (v := 124) f128_16 rfl).trans ?_
        have hc42 : arun X (n + 48) (d + 7) zM125 0 [some (.ref 33), some (.int 124), none] [] ((((h.1.set 35 (.inl (3, 2560, .inl ((va_cpy (fun _ => 0) (fun _ => 0) (Int32.toNatClampNeg 0) (Int32.toNatClampNeg 0) (Int32.toNatClampNeg 0)))))).set 36 (.inl (0, 16, .inl (upd (fun _ => 0) (Int32.toNatClampNeg 0) 0)))).set 33 (.inr (10, [.ref 34, .int 0, .ref 35, .ref 36, .ref 37, .ref 38, .ref 39, .int 0, .ref 40, .int 0, .int 0, .int 0, .int 0, .ref 40, .int (-1)]))), h.2) = some ((some (.int 0)), ((((h.1.set 35 (.inl (3, 2560, .inl ((va_cpy (fun _ => 0) (fun _ => 0) (Int32.toNatClampNeg 0) (Int32.toNatClampNeg 0) (Int32.toNatClampNeg 0)))))).set 36 (.inl (0, 16, .inl (upd (fun _ => 0) (Int32.toNatClampNeg 0) 0)))).set 33 (.inr (10, [.ref 34, .int 0, .ref 35, .ref 36, .ref 37, .ref 38, .ref 39, .int 0, .ref 40, .int 0, .int 0, .int 0, .int 0, .ref 40, .int (-1)]))), h.2)) := by
          refine (r_aloadn f125_0 rfl).trans ?_
          have hc43 : arun X (n + 46) (d + 6) zM124 0 [some (.ref 33)] [] ((((h.1.set 35 (.inl (3, 2560, .inl ((va_cpy (fun _ => 0) (fun _ => 0) (Int32.toNatClampNeg 0) (Int32.toNatClampNeg 0) (Int32.toNatClampNeg 0)))))).set 36 (.inl (0, 16, .inl (upd (fun _ => 0) (Int32.toNatClampNeg 0) 0)))).set 33 (.inr (10, [.ref 34, .int 0, .ref 35, .ref 36, .ref 37, .ref 38, .ref 39, .int 0, .ref 40, .int 0, .int 0, .int 0, .int 0, .ref 40, .int (-1)]))), h.2) = some ((some (.int (-1))), ((((h.1.set 35 (.inl (3, 2560, .inl ((va_cpy (fun _ => 0) (fun _ => 0) (Int32.toNatClampNeg 0) (Int32.toNatClampNeg 0) (Int32.toNatClampNeg 0)))))).set 36 (.inl (0, 16, .inl (upd (fun _ => 0) (Int32.toNatClampNeg 0) 0)))).set 33 (.inr (10, [.ref 34, .int 0, .ref 35, .ref 36, .ref 37, .ref 38, .ref 39, .int 0, .ref 40, .int 0, .int 0, .int 0, .int 0, .ref 40, .int (-1)]))), h.2)) := by
            refine (r_aloadn f124_0 rfl).trans ?_
            refine (r_get (v := .int 0) f124_1 (gs_eq (gs_ne (gs_ne g33 (by decide)) (by decide))) rfl).trans ?_
            refine (r_iconst (v := (-1)) f124_4 rfl).trans ?_
            refine (r_icmp_ne_t f124_5 (by decide)).trans ?_
            refine (r_iconst (v := (-1)) f124_40 rfl).trans ?_
            exact r_ireturn f124_41 rfl
          refine (r_virt (as := []) (v := (some (.int (-1)))) (h1 := ((((h.1.set 35 (.inl (3, 2560, .inl ((va_cpy (fun _ => 0) (fun _ => 0) (Int32.toNatClampNeg 0) (Int32.toNatClampNeg 0) (Int32.toNatClampNeg 0)))))).set 36 (.inl (0, 16, .inl (upd (fun _ => 0) (Int32.toNatClampNeg 0) 0)))).set 33 (.inr (10, [.ref 34, .int 0, .ref 35, .ref 36, .ref 37, .ref 38, .ref 39, .int 0, .ref 40, .int 0, .int 0, .int 0, .int 0, .ref 40, .int (-1)]))), h.2)) f125_1 (gs_eq (gs_ne (gs_ne g33 (by decide)) (by decide))) zg124 rfl rfl rfl rfl rfl rfl hc43).trans ?_
          refine (r_iloadn f125_4 rfl).trans ?_
          refine (r_icmp_ne_t f125_5 (by decide)).trans ?_
          refine (r_iconst (v := 0) f125_12 rfl).trans ?_
          refine (r_istoren (L' := [some (.ref 33), some (.int 124), some (.int 0)]) f125_13 rfl rfl).trans ?_
          refine (r_aloadn f125_14 rfl).trans ?_
          refine (r_dup f125_15 rfl).trans ?_
          refine (r_get (v := .int 0) f125_16 (gs_eq (gs_ne (gs_ne g33 (by decide)) (by decide))) rfl).trans ?_
          refine (r_iloadn f125_19 rfl).trans ?_
          refine (r_if_eq_t f125_20 (by decide)).trans ?_
          refine (r_iconst (v := 0) f125_27 rfl).trans ?_
          refine (r_iadd (v := 0) f125_28 (by decide)).trans ?_
          refine (r_put (h' := ((((h.1.set 35 (.inl (3, 2560, .inl ((va_cpy (fun _ => 0) (fun _ => 0) (Int32.toNatClampNeg 0) (Int32.toNatClampNeg 0) (Int32.toNatClampNeg 0)))))).set 36 (.inl (0, 16, .inl (upd (fun _ => 0) (Int32.toNatClampNeg 0) 0)))).set 33 (.inr (10, [.ref 34, .int 0, .ref 35, .ref 36, .ref 37, .ref 38, .ref 39, .int 0, .ref 40, .int 0, .int 0, .int 0, .int 0, .ref 40, .int (-1)]))), h.2)) f125_29 (gs_eq (gs_ne (gs_ne g33 (by decide)) (by decide))) rfl hss).trans ?_
          refine (r_iloadn f125_32 rfl).trans ?_
          exact r_zreturn f125_33 rfl (by decide)
        refine (r_virt (as := [.int 124]) (v := (some (.int 0))) (h1 := ((((h.1.set 35 (.inl (3, 2560, .inl ((va_cpy (fun _ => 0) (fun _ => 0) (Int32.toNatClampNeg 0) (Int32.toNatClampNeg 0) (Int32.toNatClampNeg 0)))))).set 36 (.inl (0, 16, .inl (upd (fun _ => 0) (Int32.toNatClampNeg 0) 0)))).set 33 (.inr (10, [.ref 34, .int 0, .ref 35, .ref 36, .ref 37, .ref 38, .ref 39, .int 0, .ref 40, .int 0, .int 0, .int 0, .int 0, .ref 40, .int (-1)]))), h.2)) f128_18 (gs_eq (gs_ne (gs_ne g33 (by decide)) (by decide))) zg125 rfl rfl rfl rfl rfl rfl hc42).trans ?_
        refine (r_if_eq_t f128_21 (by decide)).trans ?_
        refine (r_iloadn f128_55 rfl).trans ?_
        exact r_ireturn f128_56 rfl
      refine (r_virt (as := [.int 0]) (v := (some (.int 0))) (h1 := ((((h.1.set 35 (.inl (3, 2560, .inl ((va_cpy (fun _ => 0) (fun _ => 0) (Int32.toNatClampNeg 0) (Int32.toNatClampNeg 0) (Int32.toNatClampNeg 0)))))).set 36 (.inl (0, 16, .inl (upd (fun _ => 0) (Int32.toNatClampNeg 0) 0)))).set 33 (.inr (10, [.ref 34, .int 0, .ref 35, .ref 36, .ref 37, .ref 38, .ref 39, .int 0, .ref 40, .int 0, .int 0, .int 0, .int 0, .ref 40, .int (-1)]))), h.2)) f122_26 (gs_eq (gs_ne (gs_ne g33 (by decide)) (by decide))) zg128 rfl rfl rfl rfl rfl rfl hc9).trans ?_
      refine (r_pop f122_29 rfl).trans ?_
      refine (r_aloadn f122_30 rfl).trans ?_
      refine (r_bipush (v := 63) f122_31 rfl).trans ?_
      have hc44 : arun X (n + 56) (d + 8) zM125 0 [some (.ref 33), some (.int 63), none] [] ((((h.1.set 35 (.inl (3, 2560, .inl ((va_cpy (fun _ => 0) (fun _ => 0) (Int32.toNatClampNeg 0) (Int32.toNatClampNeg 0) (Int32.toNatClampNeg 0)))))).set 36 (.inl (0, 16, .inl (upd (fun _ => 0) (Int32.toNatClampNeg 0) 0)))).set 33 (.inr (10, [.ref 34, .int 0, .ref 35, .ref 36, .ref 37, .ref 38, .ref 39, .int 0, .ref 40, .int 0, .int 0, .int 0, .int 0, .ref 40, .int (-1)]))), h.2) = some ((some (.int 0)), ((((h.1.set 35 (.inl (3, 2560, .inl ((va_cpy (fun _ => 0) (fun _ => 0) (Int32.toNatClampNeg 0) (Int32.toNatClampNeg 0) (Int32.toNatClampNeg 0)))))).set 36 (.inl (0, 16, .inl (upd (fun _ => 0) (Int32.toNatClampNeg 0) 0)))).set 33 (.inr (10, [.ref 34, .int 0, .ref 35, .ref 36, .ref 37, .ref 38, .ref 39, .int 0, .ref 40, .int 0, .int 0, .int 0, .int 0, .ref 40, .int (-1)]))), h.2)) := by
        refine (r_aloadn f125_0 rfl).trans ?_
        have hc45 : arun X (n + 54) (d + 7) zM124 0 [some (.ref 33)] [] ((((h.1.set 35 (.inl (3, 2560, .inl ((va_cpy (fun _ => 0) (fun _ => 0) (Int32.toNatClampNeg 0) (Int32.toNatClampNeg 0) (Int32.toNatClampNeg 0)))))).set 36 (.inl (0, 16, .inl (upd (fun _ => 0) (Int32.toNatClampNeg 0) 0)))).set 33 (.inr (10, [.ref 34, .int 0, .ref 35, .ref 36, .ref 37, .ref 38, .ref 39, .int 0, .ref 40, .int 0, .int 0, .int 0, .int 0, .ref 40, .int (-1)]))), h.2) = some ((some (.int (-1))), ((((h.1.set 35 (.inl (3, 2560, .inl ((va_cpy (fun _ => 0) (fun _ => 0) (Int32.toNatClampNeg 0) (Int32.toNatClampNeg 0) (Int32.toNatClampNeg 0)))))).set 36 (.inl (0, 16, .inl (upd (fun _ => 0) (Int32.toNatClampNeg 0) 0)))).set 33 (.inr (10, [.ref 34, .int 0, .ref 35, .ref 36, .ref 37, .ref 38, .ref 39, .int 0, .ref 40, .int 0, .int 0, .int 0, .int 0, .ref 40, .int (-1)]))), h.2)) := by
          refine (r_aloadn f124_0 rfl).trans ?_
          refine (r_get (v := .int 0) f124_1 (gs_eq (gs_ne (gs_ne g33 (by decide)) (by decide))) rfl).trans ?_
          refine (r_iconst (v := (-1)) f124_4 rfl).trans ?_
          refine (r_icmp_ne_t f124_5 (by decide)).trans ?_
          refine (r_iconst (v := (-1)) f124_40 rfl).trans ?_
          exact r_ireturn f124_41 rfl
        refine (r_virt (as := []) (v := (some (.int (-1)))) (h1 := ((((h.1.set 35 (.inl (3, 2560, .inl ((va_cpy (fun _ => 0) (fun _ => 0) (Int32.toNatClampNeg 0) (Int32.toNatClampNeg 0) (Int32.toNatClampNeg 0)))))).set 36 (.inl (0, 16, .inl (upd (fun _ => 0) (Int32.toNatClampNeg 0) 0)))).set 33 (.inr (10, [.ref 34, .int 0, .ref 35, .ref 36, .ref 37, .ref 38, .ref 39, .int 0, .ref 40, .int 0, .int 0, .int 0, .int 0, .ref 40, .int (-1)]))), h.2)) f125_1 (gs_eq (gs_ne (gs_ne g33 (by decide)) (by decide))) zg124 rfl rfl rfl rfl rfl rfl hc45).trans ?_
        refine (r_iloadn f125_4 rfl).trans ?_
        refine (r_icmp_ne_t f125_5 (by decide)).trans ?_
        refine (r_iconst (v := 0) f125_12 rfl).trans ?_
        refine (r_istoren (L' := [some (.ref 33), some (.int 63), some (.int 0)]) f125_13 rfl rfl).trans ?_
        refine (r_aloadn f125_14 rfl).trans ?_
        refine (r_dup f125_15 rfl).trans ?_
        refine (r_get (v := .int 0) f125_16 (gs_eq (gs_ne (gs_ne g33 (by decide)) (by decide))) rfl).trans ?_
        refine (r_iloadn f125_19 rfl).trans ?_
        refine (r_if_eq_t f125_20 (by decide)).trans ?_
        refine (r_iconst (v := 0) f125_27 rfl).trans ?_
        refine (r_iadd (v := 0) f125_28 (by decide)).trans ?_
        refine (r_put (h' := ((((h.1.set 35 (.inl (3, 2560, .inl ((va_cpy (fun _ => 0) (fun _ => 0) (Int32.toNatClampNeg 0) (Int32.toNatClampNeg 0) (Int32.toNatClampNeg 0)))))).set 36 (.inl (0, 16, .inl (upd (fun _ => 0) (Int32.toNatClampNeg 0) 0)))).set 33 (.inr (10, [.ref 34, .int 0, .ref 35, .ref 36, .ref 37, .ref 38, .ref 39, .int 0, .ref 40, .int 0, .int 0, .int 0, .int 0, .ref 40, .int (-1)]))), h.2)) f125_29 (gs_eq (gs_ne (gs_ne g33 (by decide)) (by decide))) rfl hss).trans ?_
        refine (r_iloadn f125_32 rfl).trans ?_
        exact r_zreturn f125_33 rfl (by decide)
      refine (r_virt (as := [.int 63]) (v := (some (.int 0))) (h1 := ((((h.1.set 35 (.inl (3, 2560, .inl ((va_cpy (fun _ => 0) (fun _ => 0) (Int32.toNatClampNeg 0) (Int32.toNatClampNeg 0) (Int32.toNatClampNeg 0)))))).set 36 (.inl (0, 16, .inl (upd (fun _ => 0) (Int32.toNatClampNeg 0) 0)))).set 33 (.inr (10, [.ref 34, .int 0, .ref 35, .ref 36, .ref 37, .ref 38, .ref 39, .int 0, .ref 40, .int 0, .int 0, .int 0, .int 0, .ref 40, .int (-1)]))), h.2)) f122_33 (gs_eq (gs_ne (gs_ne g33 (by decide)) (by decide))) zg125 rfl rfl rfl rfl rfl rfl hc44).trans ?_
      refine (r_if_eq_t f122_36 (by decide)).trans ?_
      refine (r_aloadn f122_45 rfl).trans ?_
      refine (r_bipush (v := 59) f122_46 rfl).trans ?_
      have hc46 : arun X (n + 52) (d + 8) zM125 0 [some (.ref 33), some (.int 59), none] [] ((((h.1.set 35 (.inl (3, 2560, .inl ((va_cpy (fun _ => 0) (fun _ => 0) (Int32.toNatClampNeg 0) (Int32.toNatClampNeg 0) (Int32.toNatClampNeg 0)))))).set 36 (.inl (0, 16, .inl (upd (fun _ => 0) (Int32.toNatClampNeg 0) 0)))).set 33 (.inr (10, [.ref 34, .int 0, .ref 35, .ref 36, .ref 37, .ref 38, .ref 39, .int 0, .ref 40, .int 0, .int 0, .int 0, .int 0, .ref 40, .int (-1)]))), h.2) = some ((some (.int 0)), ((((h.1.set 35 (.inl (3, 2560, .inl ((va_cpy (fun _ => 0) (fun _ => 0) (Int32.toNatClampNeg 0) (Int32.toNatClampNeg 0) (Int32.toNatClampNeg 0)))))).set 36 (.inl (0, 16, .inl (upd (fun _ => 0) (Int32.toNatClampNeg 0) 0)))).set 33 (.inr (10, [.ref 34, .int 0, .ref 35, .ref 36, .ref 37, .ref 38, .ref 39, .int 0, .ref 40, .int 0, .int 0, .int 0, .int 0, .ref 40, .int (-1)]))), h.2)) := by
        refine (r_aloadn f125_0 rfl).trans ?_
        have hc47 : arun X (n + 50) (d + 7) zM124 0 [some (.ref 33)] [] ((((h.1.set 35 (.inl (3, 2560, .inl ((va_cpy (fun _ => 0) (fun _ => 0) (Int32.toNatClampNeg 0) (Int32.toNatClampNeg 0) (Int32.toNatClampNeg 0)))))).set 36 (.inl (0, 16, .inl (upd (fun _ => 0) (Int32.toNatClampNeg 0) 0)))).set 33 (.inr (10, [.ref 34, .int 0, .ref 35, .ref 36, .ref 37, .ref 38, .ref 39, .int 0, .ref 40, .int 0, .int 0, .int 0, .int 0, .ref 40, .int (-1)]))), h.2) = some ((some (.int (-1))), ((((h.1.set 35 (.inl (3, 2560, .inl ((va_cpy (fun _ => 0) (fun _ => 0) (Int32.toNatClampNeg 0) (Int32.toNatClampNeg 0) (Int32.toNatClampNeg 0)))))).set 36 (.inl (0, 16, .inl (upd (fun _ => 0) (Int32.toNatClampNeg 0) 0)))).set 33 (.inr (10, [.ref 34, .int 0, .ref 35, .ref 36, .ref 37, .ref 38, .ref 39, .int 0, .ref 40, .int 0, .int 0, .int 0, .int 0, .ref 40, .int (-1)]))), h.2)) := by
          refine (r_aloadn f124_0 rfl).trans ?_
          refine (r_get (v := .int 0) f124_1 (gs_eq (gs_ne (gs_ne g33 (by decide)) (by decide))) rfl).trans ?_
          refine (r_iconst (v := (-1)) f124_4 rfl).trans ?_
          refine (r_icmp_ne_t f124_5 (by decide)).trans ?_
          refine (r_iconst (v := (-1)) f124_40 rfl).trans ?_
          exact r_ireturn f124_41 rfl
        refine (r_virt (as := []) (v := (some (.int (-1)))) (h1 := ((((h.1.set 35 (.inl (3, 2560, .inl ((va_cpy (fun _ => 0) (fun _ => 0) (Int32.toNatClampNeg 0) (Int32.toNatClampNeg 0) (Int32.toNatClampNeg 0)))))).set 36 (.inl (0, 16, .inl (upd (fun _ => 0) (Int32.toNatClampNeg 0) 0)))).set 33 (.inr (10, [.ref 34, .int 0, .ref 35, .ref 36, .ref 37, .ref 38, .ref 39, .int 0, .ref 40, .int 0, .int 0, .int 0, .int 0, .ref 40, .int (-1)]))), h.2)) f125_1 (gs_eq (gs_ne (gs_ne g33 (by decide)) (by decide))) zg124 rfl rfl rfl rfl rfl rfl hc47).trans ?_
        refine (r_iloadn f125_4 rfl).trans ?_
        refine (r_icmp_ne_t f125_5 (by decide)).trans ?_
        refine (r_iconst (v := 0) f125_12 rfl).trans ?_
        refine (r_istoren (L' := [some (.ref 33), some (.int 59), some (.int 0)]) f125_13 rfl rfl).trans ?_
        refine (r_aloadn f125_14 rfl).trans ?_
        refine (r_dup f125_15 rfl).trans ?_
        refine (r_get (v := .int 0) f125_16 (gs_eq (gs_ne (gs_ne g33 (by decide)) (by decide))) rfl).trans ?_
        refine (r_iloadn f125_19 rfl).trans ?_
        refine (r_if_eq_t f125_20 (by decide)).trans ?_
        refine (r_iconst (v := 0) f125_27 rfl).trans ?_
        refine (r_iadd (v := 0) f125_28 (by decide)).trans ?_
        refine (r_put (h' := ((((h.1.set 35 (.inl (3, 2560, .inl ((va_cpy (fun _ => 0) (fun _ => 0) (Int32.toNatClampNeg 0) (Int32.toNatClampNeg 0) (Int32.toNatClampNeg 0)))))).set 36 (.inl (0, 16, .inl (upd (fun _ => 0) (Int32.toNatClampNeg 0) 0)))).set 33 (.inr (10, [.ref 34, .int 0, .ref 35, .ref 36, .ref 37, .ref 38, .ref 39, .int 0, .ref 40, .int 0, .int 0, .int 0, .int 0, .ref 40, .int (-1)]))), h.2)) f125_29 (gs_eq (gs_ne (gs_ne g33 (by decide)) (by decide))) rfl hss).trans ?_
        refine (r_iloadn f125_32 rfl).trans ?_
        exact r_zreturn f125_33 rfl (by decide)
      refine (r_virt (as := [.int 59]) (v := (some (.int 0))) (h1 := ((((h.1.set 35 (.inl (3, 2560, .inl ((va_cpy (fun _ => 0) (fun _ => 0) (Int32.toNatClampNeg 0) (Int32.toNatClampNeg 0) (Int32.toNatClampNeg 0)))))).set 36 (.inl (0, 16, .inl (upd (fun _ => 0) (Int32.toNatClampNeg 0) 0)))).set 33 (.inr (10, [.ref 34, .int 0, .ref 35, .ref 36, .ref 37, .ref 38, .ref 39, .int 0, .ref 40, .int 0, .int 0, .int 0, .int 0, .ref 40, .int (-1)]))), h.2)) f122_48 (gs_eq (gs_ne (gs_ne g33 (by decide)) (by decide))) zg125 rfl rfl rfl rfl rfl rfl hc46).trans ?_
      refine (r_istoren (L' := [some (.ref 33), some (.int 0), some (.int 0), some (.int 0)]) f122_51 rfl rfl).trans ?_
      refine (r_iinc (v := 1) (L' := [some (.ref 33), some (.int 0), some (.int 0), some (.int 1)]) f122_52 rfl rfl rfl).trans ?_
      refine (r_goto f122_55).trans ?_
      refine (r_iloadn f122_13 rfl).trans ?_
      refine (r_sipush (v := 160) f122_14 rfl).trans ?_
      refine (r_icmp_ge_f f122_17 (by decide)).trans ?_
      refine (r_iloadn f122_20 rfl).trans ?_
      refine (r_if_eq_t f122_21 (by decide)).trans ?_
      refine (r_aloadn f122_58 rfl).trans ?_
      refine (r_get (v := .int 0) f122_59 (gs_eq (gs_ne (gs_ne g33 (by decide)) (by decide))) rfl).trans ?_
      refine (r_iconst (v := (-1)) f122_62 rfl).trans ?_
      refine (r_icmp_ne_t f122_63 (by decide)).trans ?_
      refine (r_aloadn f122_85 rfl).trans ?_
      refine (r_get (v := .int 0) f122_86 (gs_eq (gs_ne (gs_ne g33 (by decide)) (by decide))) rfl).trans ?_
      exact r_ireturn f122_89 rfl
    refine (r_virt (as := [.int 0]) (v := (some (.int 0))) (h1 := ((((h.1.set 35 (.inl (3, 2560, .inl ((va_cpy (fun _ => 0) (fun _ => 0) (Int32.toNatClampNeg 0) (Int32.toNatClampNeg 0) (Int32.toNatClampNeg 0)))))).set 36 (.inl (0, 16, .inl (upd (fun _ => 0) (Int32.toNatClampNeg 0) 0)))).set 33 (.inr (10, [.ref 34, .int 0, .ref 35, .ref 36, .ref 37, .ref 38, .ref 39, .int 0, .ref 40, .int 0, .int 0, .int 0, .int 0, .ref 40, .int (-1)]))), h.2)) f118_59 (gs_eq (gs_ne (gs_ne g33 (by decide)) (by decide))) zg122 rfl rfl rfl rfl rfl rfl hc7).trans ?_
    refine (r_istore (L' := [some (.ref 33), some (.int x1), some (.int x2), some (.int 0), some (.int 0)]) f118_62 rfl rfl).trans ?_
    refine (r_iload f118_64 rfl).trans ?_
    refine (r_iconst (v := (-1)) f118_66 rfl).trans ?_
    refine (r_icmp_eq_f f118_67 (by decide)).trans ?_
    refine (r_bipush (v := (-100)) f118_70 rfl).trans ?_
    refine (r_iload f118_72 rfl).trans ?_
    refine (r_isub (v := (-100)) f118_74 (by decide)).trans ?_
    exact r_ireturn f118_75 rfl
  refine (r_virt (as := [.int x1, .int x2, .int 0]) (v := (some (.int (-100)))) (h1 := ((((h.1.set 35 (.inl (3, 2560, .inl ((va_cpy (fun _ => 0) (fun _ => 0) (Int32.toNatClampNeg 0) (Int32.toNatClampNeg 0) (Int32.toNatClampNeg 0)))))).set 36 (.inl (0, 16, .inl (upd (fun _ => 0) (Int32.toNatClampNeg 0) 0)))).set 33 (.inr (10, [.ref 34, .int 0, .ref 35, .ref 36, .ref 37, .ref 38, .ref 39, .int 0, .ref 40, .int 0, .int 0, .int 0, .int 0, .ref 40, .int (-1)]))), h.2)) f168_46 g33 zg118 rfl rfl rfl rfl rfl rfl hc6).trans ?_
  exact r_ireturn f168_49 rfl
set_option maxHeartbeats 40000000 in
theorem qm24_6_0 {X : aX} {n d : Nat} {h : aH} {x1 : Int32} {x2 : Int32}  (ec0 : ¬ x1 < 0) (em0 : 33 < x1) : arun X (n + 14) (d + 3) zM264 0 [some (.ref 72), some (.int x1), some (.int x2)] [] h = some (some (.int (-1)), h) := by
  refine (r_iloadn f264_0 rfl).trans ?_
  have hc1 : arun X (n + 12) (d + 2) zM263 0 [some (.int x1)] [] h = some ((some (.int 0)), h) := by
    refine (r_iloadn f263_0 rfl).trans ?_
    refine (r_iconst (v := 0) f263_1 rfl).trans ?_
    refine (r_bipush (v := 33) f263_2 rfl).trans ?_
    have hc2 : arun X (n + 8) (d + 1) zM196 0 [some (.int x1), some (.int 0), some (.int 33)] [] h = some ((some (.int 0)), h) := by
      refine (r_iloadn f196_0 rfl).trans ?_
      refine (r_iloadn f196_1 rfl).trans ?_
      refine (r_icmp_lt_f f196_2 ec0).trans ?_
      refine (r_iloadn f196_5 rfl).trans ?_
      refine (r_iloadn f196_6 rfl).trans ?_
      refine (r_icmp_gt_t f196_7 em0).trans ?_
      refine (r_iconst (v := 0) f196_14 rfl).trans ?_
      exact r_zreturn f196_15 rfl (by decide)
    refine (r_stat (as := [.int x1, .int 0, .int 33]) (v := (some (.int 0))) (h1 := h) f263_4 rfl zg196 rfl rfl rfl rfl rfl rfl hc2).trans ?_
    refine (r_if_eq_t f263_7 (by decide)).trans ?_
    refine (r_iconst (v := 0) f263_22 rfl).trans ?_
    exact r_zreturn f263_23 rfl (by decide)
  refine (r_stat (as := [.int x1]) (v := (some (.int 0))) (h1 := h) f264_1 rfl zg263 rfl rfl rfl rfl rfl rfl hc1).trans ?_
  refine (r_if_eq_t f264_4 (by decide)).trans ?_
  refine (r_iconst (v := (-1)) f264_14 rfl).trans ?_
  exact r_ireturn f264_15 rfl
set_option maxHeartbeats 40000000 in
theorem qm24_6_1 {X : aX} {n d : Nat} {h : aH} {x1 : Int32} {x2 : Int32}  (g72 : h.1[72]? = some (.inr (12, zF72))) (g119 : h.1[119]? = some (.inl (0, 17, .inl (fun _ => 0)))) (g120 : h.1[120]? = some (.inl (0, 1530, .inl (fun _ => 0)))) (g121 : h.1[121]? = some (.inl (0, 1530, .inl (fun _ => 0)))) (ec0 : ¬ x1 < 0) (ec4 : ¬ x2 < 0) (ec5 : ¬ 9 < x2) (em0 : ¬ 33 < x1) (em1 : ¬ 3 < (x1 - x1 / 10 * 10)) : arun X (n + 100) (d + 9) zM264 0 [some (.ref 72), some (.int x1), some (.int x2)] [] h = some (some (.int (-100)), ((((((((h.1.set 72 (.inr (12, (zF72.set 67 (.int 0))))).set 119 (.inl (0, 17, .inl (upd (fun _ => 0) (Int32.toNatClampNeg 0) 0)))).set 72 (.inr (12, ((((((zF72.set 67 (.int 0)).set 68 (.int 0)).set 64 (.int 0)).set 65 (.int (-1))).set 66 (.int 0)).set 65 (.int 0))))).set 120 (.inl (0, 1530, .inl (upd (fun _ => 0) (Int32.toNatClampNeg 0) 0)))).set 121 (.inl (0, 1530, .inl (upd (fun _ => 0) (Int32.toNatClampNeg 0) 0)))).set 119 (.inl (0, 17, .inl (upd (upd (fun _ => 0) (Int32.toNatClampNeg 0) 0) (Int32.toNatClampNeg 0) 1)))).set 72 (.inr (12, (((((((zF72.set 67 (.int 0)).set 68 (.int 0)).set 64 (.int 0)).set 65 (.int (-1))).set 66 (.int 0)).set 65 (.int 0)).set 54 (.int 0))))), h.2)) := by
  refine (r_iloadn f264_0 rfl).trans ?_
  have hc1 : arun X (n + 98) (d + 8) zM263 0 [some (.int x1)] [] h = some ((some (.int 1)), h) := by
    refine (r_iloadn f263_0 rfl).trans ?_
    refine (r_iconst (v := 0) f263_1 rfl).trans ?_
    refine (r_bipush (v := 33) f263_2 rfl).trans ?_
    have hc2 : arun X (n + 94) (d + 7) zM196 0 [some (.int x1), some (.int 0), some (.int 33)] [] h = some ((some (.int 1)), h) := by
      refine (r_iloadn f196_0 rfl).trans ?_
      refine (r_iloadn f196_1 rfl).trans ?_
      refine (r_icmp_lt_f f196_2 ec0).trans ?_
      refine (r_iloadn f196_5 rfl).trans ?_
      refine (r_iloadn f196_6 rfl).trans ?_
      refine (r_icmp_gt_f f196_7 em0).trans ?_
      refine (r_iconst (v := 1) f196_10 rfl).trans ?_
      refine (r_goto f196_11).trans ?_
      exact r_zreturn f196_15 rfl (by decide)
    refine (r_stat (as := [.int x1, .int 0, .int 33]) (v := (some (.int 1))) (h1 := h) f263_4 rfl zg196 rfl rfl rfl rfl rfl rfl hc2).trans ?_
    refine (r_if_eq_f f263_7 (by decide)).trans ?_
    refine (r_iloadn f263_10 rfl).trans ?_
    refine (r_bipush (v := 10) f263_11 rfl).trans ?_
    refine (r_irem (v := (x1 - x1 / 10 * 10)) f263_13 (by decide) rfl).trans ?_
    refine (r_iconst (v := 3) f263_14 rfl).trans ?_
    refine (r_icmp_gt_f f263_15 em1).trans ?_
    refine (r_iconst (v := 1) f263_18 rfl).trans ?_
    refine (r_goto f263_19).trans ?_
    exact r_zreturn f263_23 rfl (by decide)
  refine (r_stat (as := [.int x1]) (v := (some (.int 1))) (h1 := h) f264_1 rfl zg263 rfl rfl rfl rfl rfl rfl hc1).trans ?_
  refine (r_if_eq_f f264_4 (by decide)).trans ?_
  refine (r_iloadn f264_7 rfl).trans ?_
  have hc3 : arun X (n + 95) (d + 8) zM198 0 [some (.int x2)] [] h = some ((some (.int 1)), h) := by
    refine (r_iloadn f198_0 rfl).trans ?_
    refine (r_iconst (v := 0) f198_1 rfl).trans ?_
    refine (r_bipush (v := 9) f198_2 rfl).trans ?_
    have hc4 : arun X (n + 91) (d + 7) zM196 0 [some (.int x2), some (.int 0), some (.int 9)] [] h = some ((some (.int 1)), h) := by
      refine (r_iloadn f196_0 rfl).trans ?_
      refine (r_iloadn f196_1 rfl).trans ?_
      refine (r_icmp_lt_f f196_2 ec4).trans ?_
      refine (r_iloadn f196_5 rfl).trans ?_
      refine (r_iloadn f196_6 rfl).trans ?_
      refine (r_icmp_gt_f f196_7 ec5).trans ?_
      refine (r_iconst (v := 1) f196_10 rfl).trans ?_
      refine (r_goto f196_11).trans ?_
      exact r_zreturn f196_15 rfl (by decide)
    refine (r_stat (as := [.int x2, .int 0, .int 9]) (v := (some (.int 1))) (h1 := h) f198_4 rfl zg196 rfl rfl rfl rfl rfl rfl hc4).trans ?_
    exact r_zreturn f198_7 rfl (by decide)
  refine (r_stat (as := [.int x2]) (v := (some (.int 1))) (h1 := h) f264_8 rfl zg198 rfl rfl rfl rfl rfl rfl hc3).trans ?_
  refine (r_if_ne_t f264_11 (by decide)).trans ?_
  refine (r_aloadn f264_16 rfl).trans ?_
  refine (r_get (v := .int 0) f264_17 g72 rfl).trans ?_
  refine (r_bipush (v := 16) f264_20 rfl).trans ?_
  refine (r_icmp_ne_t f264_22 (by decide)).trans ?_
  refine (r_aloadn f264_28 rfl).trans ?_
  refine (r_aloadn f264_29 rfl).trans ?_
  refine (r_get (v := .int 0) f264_30 g72 rfl).trans ?_
  refine (r_put (h' := ((h.1.set 72 (.inr (12, (zF72.set 67 (.int 0))))), h.2)) f264_33 g72 rfl rfl).trans ?_
  refine (r_aloadn f264_36 rfl).trans ?_
  refine (r_get (v := .ref 119) f264_37 (gs_eq g72) rfl).trans ?_
  refine (r_aloadn f264_40 rfl).trans ?_
  refine (r_get (v := .int 0) f264_41 (gs_eq g72) rfl).trans ?_
  refine (r_iconst (v := 0) f264_44 rfl).trans ?_
  refine (r_iast (h' := (((h.1.set 72 (.inr (12, (zF72.set 67 (.int 0))))).set 119 (.inl (0, 17, .inl (upd (fun _ => 0) (Int32.toNatClampNeg 0) 0)))), h.2)) f264_45 (gs_ne g119 (by decide)) (by decide) rfl).trans ?_
  refine (r_aloadn f264_46 rfl).trans ?_
  refine (r_iconst (v := 0) f264_47 rfl).trans ?_
  refine (r_put (h' := ((((h.1.set 72 (.inr (12, (zF72.set 67 (.int 0))))).set 119 (.inl (0, 17, .inl (upd (fun _ => 0) (Int32.toNatClampNeg 0) 0)))).set 72 (.inr (12, ((zF72.set 67 (.int 0)).set 68 (.int 0))))), h.2)) f264_48 (gs_ne (gs_eq g72) (by decide)) rfl rfl).trans ?_
  refine (r_aloadn f264_51 rfl).trans ?_
  refine (r_iconst (v := 0) f264_52 rfl).trans ?_
  refine (r_put (h' := ((((h.1.set 72 (.inr (12, (zF72.set 67 (.int 0))))).set 119 (.inl (0, 17, .inl (upd (fun _ => 0) (Int32.toNatClampNeg 0) 0)))).set 72 (.inr (12, (((zF72.set 67 (.int 0)).set 68 (.int 0)).set 64 (.int 0))))), h.2)) f264_53 (gs_eq (gs_ne (gs_eq g72) (by decide))) rfl hss).trans ?_
  refine (r_aloadn f264_56 rfl).trans ?_
  refine (r_iconst (v := (-1)) f264_57 rfl).trans ?_
  refine (r_put (h' := ((((h.1.set 72 (.inr (12, (zF72.set 67 (.int 0))))).set 119 (.inl (0, 17, .inl (upd (fun _ => 0) (Int32.toNatClampNeg 0) 0)))).set 72 (.inr (12, ((((zF72.set 67 (.int 0)).set 68 (.int 0)).set 64 (.int 0)).set 65 (.int (-1)))))), h.2)) f264_58 (gs_eq (gs_ne (gs_eq g72) (by decide))) rfl hss).trans ?_
  refine (r_aloadn f264_61 rfl).trans ?_
  refine (r_iconst (v := 0) f264_62 rfl).trans ?_
  refine (r_put (h' := ((((h.1.set 72 (.inr (12, (zF72.set 67 (.int 0))))).set 119 (.inl (0, 17, .inl (upd (fun _ => 0) (Int32.toNatClampNeg 0) 0)))).set 72 (.inr (12, (((((zF72.set 67 (.int 0)).set 68 (.int 0)).set 64 (.int 0)).set 65 (.int (-1))).set 66 (.int 0))))), h.2)) f264_63 (gs_eq (gs_ne (gs_eq g72) (by decide))) rfl hss).trans ?_
  refine (r_aloadn f264_66 rfl).trans ?_
  have hc5 : arun X (n + 66) (d + 8) zM262 0 [some (.ref 72), none, none] [] ((((h.1.set 72 (.inr (12, (zF72.set 67 (.int 0))))).set 119 (.inl (0, 17, .inl (upd (fun _ => 0) (Int32.toNatClampNeg 0) 0)))).set 72 (.inr (12, (((((zF72.set 67 (.int 0)).set 68 (.int 0)).set 64 (.int 0)).set 65 (.int (-1))).set 66 (.int 0))))), h.2) = some (none, (((((((h.1.set 72 (.inr (12, (zF72.set 67 (.int 0))))).set 119 (.inl (0, 17, .inl (upd (fun _ => 0) (Int32.toNatClampNeg 0) 0)))).set 72 (.inr (12, ((((((zF72.set 67 (.int 0)).set 68 (.int 0)).set 64 (.int 0)).set 65 (.int (-1))).set 66 (.int 0)).set 65 (.int 0))))).set 120 (.inl (0, 1530, .inl (upd (fun _ => 0) (Int32.toNatClampNeg 0) 0)))).set 121 (.inl (0, 1530, .inl (upd (fun _ => 0) (Int32.toNatClampNeg 0) 0)))).set 119 (.inl (0, 17, .inl (upd (upd (fun _ => 0) (Int32.toNatClampNeg 0) 0) (Int32.toNatClampNeg 0) 1)))), h.2)) := by
    refine (r_bipush (v := 90) f262_0 rfl).trans ?_
    refine (r_aloadn f262_2 rfl).trans ?_
    refine (r_get (v := .int 0) f262_3 (gs_eq (gs_ne (gs_eq g72) (by decide))) rfl).trans ?_
    refine (r_imul (v := 0) f262_6 (by decide)).trans ?_
    refine (r_aloadn f262_7 rfl).trans ?_
    refine (r_get (v := .ref 119) f262_8 (gs_eq (gs_ne (gs_eq g72) (by decide))) rfl).trans ?_
    refine (r_aloadn f262_11 rfl).trans ?_
    refine (r_get (v := .int 0) f262_12 (gs_eq (gs_ne (gs_eq g72) (by decide))) rfl).trans ?_
    refine (r_iald (v := 0) f262_15 (gs_ne (gs_eq (gs_ne g119 (by decide))) (by decide)) (by decide) rfl).trans ?_
    refine (r_iadd (v := 0) f262_16 (by decide)).trans ?_
    refine (r_istoren (L' := [some (.ref 72), some (.int 0), none]) f262_17 rfl rfl).trans ?_
    refine (r_aloadn f262_18 rfl).trans ?_
    refine (r_get (v := .int 0) f262_19 (gs_eq (gs_ne (gs_eq g72) (by decide))) rfl).trans ?_
    refine (r_istoren (L' := [some (.ref 72), some (.int 0), some (.int 0)]) f262_22 rfl rfl).trans ?_
    refine (r_aloadn f262_23 rfl).trans ?_
    have hc6 : arun X (n + 50) (d + 7) zM261 0 [some (.ref 72)] [] ((((h.1.set 72 (.inr (12, (zF72.set 67 (.int 0))))).set 119 (.inl (0, 17, .inl (upd (fun _ => 0) (Int32.toNatClampNeg 0) 0)))).set 72 (.inr (12, (((((zF72.set 67 (.int 0)).set 68 (.int 0)).set 64 (.int 0)).set 65 (.int (-1))).set 66 (.int 0))))), h.2) = some (none, ((((h.1.set 72 (.inr (12, (zF72.set 67 (.int 0))))).set 119 (.inl (0, 17, .inl (upd (fun _ => 0) (Int32.toNatClampNeg 0) 0)))).set 72 (.inr (12, ((((((zF72.set 67 (.int 0)).set 68 (.int 0)).set 64 (.int 0)).set 65 (.int (-1))).set 66 (.int 0)).set 65 (.int 0))))), h.2)) := by
      refine (r_aloadn f261_0 rfl).trans ?_
      have hc7 : arun X (n + 48) (d + 6) zM260 0 [some (.ref 72)] [] ((((h.1.set 72 (.inr (12, (zF72.set 67 (.int 0))))).set 119 (.inl (0, 17, .inl (upd (fun _ => 0) (Int32.toNatClampNeg 0) 0)))).set 72 (.inr (12, (((((zF72.set 67 (.int 0)).set 68 (.int 0)).set 64 (.int 0)).set 65 (.int (-1))).set 66 (.int 0))))), h.2) = some (none, ((((h.1.set 72 (.inr (12, (zF72.set 67 (.int 0))))).set 119 (.inl (0, 17, .inl (upd (fun _ => 0) (Int32.toNatClampNeg 0) 0)))).set 72 (.inr (12, ((((((zF72.set 67 (.int 0)).set 68 (.int 0)).set 64 (.int 0)).set 65 (.int (-1))).set 66 (.int 0)).set 65 (.int 0))))), h.2)) := by
        refine (r_aloadn f260_0 rfl).trans ?_
        have hc8 : arun X (n + 46) (d + 5) zM259 0 [some (.ref 72), none] [] ((((h.1.set 72 (.inr (12, (zF72.set 67 (.int 0))))).set 119 (.inl (0, 17, .inl (upd (fun _ => 0) (Int32.toNatClampNeg 0) 0)))).set 72 (.inr (12, (((((zF72.set 67 (.int 0)).set 68 (.int 0)).set 64 (.int 0)).set 65 (.int (-1))).set 66 (.int 0))))), h.2) = some (none, ((((h.1.set 72 (.inr (12, (zF72.set 67 (.int 0))))).set 119 (.inl (0, 17, .inl (upd (fun _ => 0) (Int32.toNatClampNeg 0) 0)))).set 72 (.inr (12, ((((((zF72.set 67 (.int 0)).set 68 (.int 0)).set 64 (.int 0)).set 65 (.int (-1))).set 66 (.int 0)).set 65 (.int 0))))), h.2)) := by
          refine (r_aloadn f259_0 rfl).trans ?_
          have hc9 : arun X (n + 44) (d + 4) zM258 0 [some (.ref 72), none] [] ((((h.1.set 72 (.inr (12, (zF72.set 67 (.int 0))))).set 119 (.inl (0, 17, .inl (upd (fun _ => 0) (Int32.toNatClampNeg 0) 0)))).set 72 (.inr (12, (((((zF72.set 67 (.int 0)).set 68 (.int 0)).set 64 (.int 0)).set 65 (.int (-1))).set 66 (.int 0))))), h.2) = some (none, ((((h.1.set 72 (.inr (12, (zF72.set 67 (.int 0))))).set 119 (.inl (0, 17, .inl (upd (fun _ => 0) (Int32.toNatClampNeg 0) 0)))).set 72 (.inr (12, ((((((zF72.set 67 (.int 0)).set 68 (.int 0)).set 64 (.int 0)).set 65 (.int (-1))).set 66 (.int 0)).set 65 (.int 0))))), h.2)) := by
            refine (r_aloadn f258_0 rfl).trans ?_
            have hc10 : arun X (n + 42) (d + 3) zM257 0 [some (.ref 72), none] [] ((((h.1.set 72 (.inr (12, (zF72.set 67 (.int 0))))).set 119 (.inl (0, 17, .inl (upd (fun _ => 0) (Int32.toNatClampNeg 0) 0)))).set 72 (.inr (12, (((((zF72.set 67 (.int 0)).set 68 (.int 0)).set 64 (.int 0)).set 65 (.int (-1))).set 66 (.int 0))))), h.2) = some (none, ((((h.1.set 72 (.inr (12, (zF72.set 67 (.int 0))))).set 119 (.inl (0, 17, .inl (upd (fun _ => 0) (Int32.toNatClampNeg 0) 0)))).set 72 (.inr (12, ((((((zF72.set 67 (.int 0)).set 68 (.int 0)).set 64 (.int 0)).set 65 (.int (-1))).set 66 (.int 0)).set 65 (.int 0))))), h.2)) := by
              refine (r_aloadn f257_0 rfl).trans ?_
              have hc11 : arun X (n + 40) (d + 2) zM256 0 [some (.ref 72), none, none, none] [] ((((h.1.set 72 (.inr (12, (zF72.set 67 (.int 0))))).set 119 (.inl (0, 17, .inl (upd (fun _ => 0) (Int32.toNatClampNeg 0) 0)))).set 72 (.inr (12, (((((zF72.set 67 (.int 0)).set 68 (.int 0)).set 64 (.int 0)).set 65 (.int (-1))).set 66 (.int 0))))), h.2) = some (none, ((((h.1.set 72 (.inr (12, (zF72.set 67 (.int 0))))).set 119 (.inl (0, 17, .inl (upd (fun _ => 0) (Int32.toNatClampNeg 0) 0)))).set 72 (.inr (12, ((((((zF72.set 67 (.int 0)).set 68 (.int 0)).set 64 (.int 0)).set 65 (.int (-1))).set 66 (.int 0)).set 65 (.int 0))))), h.2)) := by
                refine (r_aloadn f256_0 rfl).trans ?_
                have hc12 : arun X (n + 38) (d + 1) zM251 0 [some (.ref 72)] [] ((((h.1.set 72 (.inr (12, (zF72.set 67 (.int 0))))).set 119 (.inl (0, 17, .inl (upd (fun _ => 0) (Int32.toNatClampNeg 0) 0)))).set 72 (.inr (12, (((((zF72.set 67 (.int 0)).set 68 (.int 0)).set 64 (.int 0)).set 65 (.int (-1))).set 66 (.int 0))))), h.2) = some ((some (.int (-1))), ((((h.1.set 72 (.inr (12, (zF72.set 67 (.int 0))))).set 119 (.inl (0, 17, .inl (upd (fun _ => 0) (Int32.toNatClampNeg 0) 0)))).set 72 (.inr (12, (((((zF72.set 67 (.int 0)).set 68 (.int 0)).set 64 (.int 0)).set 65 (.int (-1))).set 66 (.int 0))))), h.2)) := by
                  refine (r_aloadn f251_0 rfl).trans ?_
                  refine (r_get (v := .int 0) f251_1 (gs_eq (gs_ne (gs_eq g72) (by decide))) rfl).trans ?_
                  refine (r_aloadn f251_4 rfl).trans ?_
                  refine (r_get (v := .int 0) f251_5 (gs_eq (gs_ne (gs_eq g72) (by decide))) rfl).trans ?_
                  refine (r_icmp_ge_t f251_8 (by decide)).trans ?_
                  refine (r_iconst (v := (-1)) f251_23 rfl).trans ?_
                  exact r_ireturn f251_24 rfl
                refine (r_virt (as := []) (v := (some (.int (-1)))) (h1 := ((((h.1.set 72 (.inr (12, (zF72.set 67 (.int 0))))).set 119 (.inl (0, 17, .inl (upd (fun _ => 0) (Int32.toNatClampNeg 0) 0)))).set 72 (.inr (12, (((((zF72.set 67 (.int 0)).set 68 (.int 0)).set 64 (.int 0)).set 65 (.int (-1))).set 66 (.int 0))))), h.2)) f256_1 (gs_eq (gs_ne (gs_eq g72) (by decide))) zg251 rfl rfl rfl rfl rfl rfl hc12).trans ?_
                refine (r_istoren (L' := [some (.ref 72), some (.int (-1)), none, none]) f256_4 rfl rfl).trans ?_
                refine (r_iloadn f256_5 rfl).trans ?_
                have hc13 : arun X (n + 35) (d + 1) zM255 0 [some (.int (-1))] [] ((((h.1.set 72 (.inr (12, (zF72.set 67 (.int 0))))).set 119 (.inl (0, 17, .inl (upd (fun _ => 0) (Int32.toNatClampNeg 0) 0)))).set 72 (.inr (12, (((((zF72.set 67 (.int 0)).set 68 (.int 0)).set 64 (.int 0)).set 65 (.int (-1))).set 66 (.int 0))))), h.2) = some ((some (.int (-1))), ((((h.1.set 72 (.inr (12, (zF72.set 67 (.int 0))))).set 119 (.inl (0, 17, .inl (upd (fun _ => 0) (Int32.toNatClampNeg 0) 0)))).set 72 (.inr (12, (((((zF72.set 67 (.int 0)).set 68 (.int 0)).set 64 (.int 0)).set 65 (.int (-1))).set 66 (.int 0))))), h.2)) := by
                  refine (r_iloadn f255_0 rfl).trans ?_
                  refine (r_tsw f255_1).trans ?_
                  refine (asw_f (by decide)).trans ?_
                  refine (asw_f (by decide)).trans ?_
                  refine (asw_f (by decide)).trans ?_
                  refine (asw_f (by decide)).trans ?_
                  refine (asw_f (by decide)).trans ?_
                  refine (asw_f (by decide)).trans ?_
                  refine (asw_f (by decide)).trans ?_
                  refine (asw_f (by decide)).trans ?_
                  refine (asw_f (by decide)).trans ?_
                  refine (asw_f (by decide)).trans ?_
                  refine (asw_f (by decide)).trans ?_
                  refine (asw_f (by decide)).trans ?_
                  refine (asw_f (by decide)).trans ?_
                  refine (asw_f (by decide)).trans ?_
                  refine (asw_f (by decide)).trans ?_
                  refine (asw_f (by decide)).trans ?_
                  refine (asw_f (by decide)).trans ?_
                  refine (asw_f (by decide)).trans ?_
                  refine (asw_f (by decide)).trans ?_
                  refine (asw_f (by decide)).trans ?_
                  refine (asw_f (by decide)).trans ?_
                  refine (asw_f (by decide)).trans ?_
                  refine (asw_f (by decide)).trans ?_
                  refine (asw_f (by decide)).trans ?_
                  refine (asw_d).trans ?_
                  refine (r_iconst (v := (-1)) f255_145 rfl).trans ?_
                  exact r_ireturn f255_146 rfl
                refine (r_stat (as := [.int (-1)]) (v := (some (.int (-1)))) (h1 := ((((h.1.set 72 (.inr (12, (zF72.set 67 (.int 0))))).set 119 (.inl (0, 17, .inl (upd (fun _ => 0) (Int32.toNatClampNeg 0) 0)))).set 72 (.inr (12, (((((zF72.set 67 (.int 0)).set 68 (.int 0)).set 64 (.int 0)).set 65 (.int (-1))).set 66 (.int 0))))), h.2)) f256_6 rfl zg255 rfl rfl rfl rfl rfl rfl hc13).trans ?_
                refine (r_if_lt_t f256_9 (by decide)).trans ?_
                refine (r_iloadn f256_32 rfl).trans ?_
                refine (r_bipush (v := 33) f256_33 rfl).trans ?_
                refine (r_icmp_eq_f f256_35 (by decide)).trans ?_
                refine (r_iloadn f256_38 rfl).trans ?_
                refine (r_bipush (v := 45) f256_39 rfl).trans ?_
                refine (r_icmp_ne_t f256_41 (by decide)).trans ?_
                refine (r_iloadn f256_83 rfl).trans ?_
                refine (r_bipush (v := 40) f256_84 rfl).trans ?_
                refine (r_icmp_ne_t f256_86 (by decide)).trans ?_
                refine (r_iconst (v := 0) f256_144 rfl).trans ?_
                refine (r_istoren (L' := [some (.ref 72), some (.int (-1)), some (.int 0), none]) f256_145 rfl rfl).trans ?_
                refine (r_iconst (v := 0) f256_146 rfl).trans ?_
                refine (r_istoren (L' := [some (.ref 72), some (.int (-1)), some (.int 0), some (.int 0)]) f256_147 rfl rfl).trans ?_
                refine (r_iloadn f256_148 rfl).trans ?_
                refine (r_bipush (v := 6) f256_149 rfl).trans ?_
                refine (r_icmp_ge_f f256_151 (by decide)).trans ?_
                refine (r_aloadn f256_154 rfl).trans ?_
                have hc14 : arun X (n + 16) (d + 1) zM251 0 [some (.ref 72)] [] ((((h.1.set 72 (.inr (12, (zF72.set 67 (.int 0))))).set 119 (.inl (0, 17, .inl (upd (fun _ => 0) (Int32.toNatClampNeg 0) 0)))).set 72 (.inr (12, (((((zF72.set 67 (.int 0)).set 68 (.int 0)).set 64 (.int 0)).set 65 (.int (-1))).set 66 (.int 0))))), h.2) = some ((some (.int (-1))), ((((h.1.set 72 (.inr (12, (zF72.set 67 (.int 0))))).set 119 (.inl (0, 17, .inl (upd (fun _ => 0) (Int32.toNatClampNeg 0) 0)))).set 72 (.inr (12, (((((zF72.set 67 (.int 0)).set 68 (.int 0)).set 64 (.int 0)).set 65 (.int (-1))).set 66 (.int 0))))), h.2)) := by
                  refine (r_aloadn f251_0 rfl).trans ?_
                  refine (r_get (v := .int 0) f251_1 (gs_eq (gs_ne (gs_eq g72) (by decide))) rfl).trans ?_
                  refine (r_aloadn f251_4 rfl).trans ?_
                  refine (r_get (v := .int 0) f251_5 (gs_eq (gs_ne (gs_eq g72) (by decide))) rfl).trans ?_
                  refine (r_icmp_ge_t f251_8 (by decide)).trans ?_
                  refine (r_iconst (v := (-1)) f251_23 rfl).trans ?_
                  exact r_ireturn f251_24 rfl
                refine (r_virt (as := []) (v := (some (.int (-1)))) (h1 := ((((h.1.set 72 (.inr (12, (zF72.set 67 (.int 0))))).set 119 (.inl (0, 17, .inl (upd (fun _ => 0) (Int32.toNatClampNeg 0) 0)))).set 72 (.inr (12, (((((zF72.set 67 (.int 0)).set 68 (.int 0)).set 64 (.int 0)).set 65 (.int (-1))).set 66 (.int 0))))), h.2)) f256_155 (gs_eq (gs_ne (gs_eq g72) (by decide))) zg251 rfl rfl rfl rfl rfl rfl hc14).trans ?_
                refine (r_bipush (v := 48) f256_158 rfl).trans ?_
                refine (r_bipush (v := 57) f256_160 rfl).trans ?_
                have hc15 : arun X (n + 13) (d + 1) zM196 0 [some (.int (-1)), some (.int 48), some (.int 57)] [] ((((h.1.set 72 (.inr (12, (zF72.set 67 (.int 0))))).set 119 (.inl (0, 17, .inl (upd (fun _ => 0) (Int32.toNatClampNeg 0) 0)))).set 72 (.inr (12, (((((zF72.set 67 (.int 0)).set 68 (.int 0)).set 64 (.int 0)).set 65 (.int (-1))).set 66 (.int 0))))), h.2) = some ((some (.int 0)), ((((h.1.set 72 (.inr (12, (zF72.set 67 (.int 0))))).set 119 (.inl (0, 17, .inl (upd (fun _ => 0) (Int32.toNatClampNeg 0) 0)))).set 72 (.inr (12, (((((zF72.set 67 (.int 0)).set 68 (.int 0)).set 64 (.int 0)).set 65 (.int (-1))).set 66 (.int 0))))), h.2)) := by
                  refine (r_iloadn f196_0 rfl).trans ?_
                  refine (r_iloadn f196_1 rfl).trans ?_
                  refine (r_icmp_lt_t f196_2 (by decide)).trans ?_
                  refine (r_iconst (v := 0) f196_14 rfl).trans ?_
                  exact r_zreturn f196_15 rfl (by decide)
                refine (r_stat (as := [.int (-1), .int 48, .int 57]) (v := (some (.int 0))) (h1 := ((((h.1.set 72 (.inr (12, (zF72.set 67 (.int 0))))).set 119 (.inl (0, 17, .inl (upd (fun _ => 0) (Int32.toNatClampNeg 0) 0)))).set 72 (.inr (12, (((((zF72.set 67 (.int 0)).set 68 (.int 0)).set 64 (.int 0)).set 65 (.int (-1))).set 66 (.int 0))))), h.2)) f256_162 rfl zg196 rfl rfl rfl rfl rfl rfl hc15).trans ?_
                refine (r_if_eq_t f256_165 (by decide)).trans ?_
                refine (r_iloadn f256_197 rfl).trans ?_
                refine (r_if_eq_t f256_198 (by decide)).trans ?_
                refine (r_aloadn f256_215 rfl).trans ?_
                have hc16 : arun X (n + 8) (d + 1) zM252 0 [some (.ref 72)] [] ((((h.1.set 72 (.inr (12, (zF72.set 67 (.int 0))))).set 119 (.inl (0, 17, .inl (upd (fun _ => 0) (Int32.toNatClampNeg 0) 0)))).set 72 (.inr (12, (((((zF72.set 67 (.int 0)).set 68 (.int 0)).set 64 (.int 0)).set 65 (.int (-1))).set 66 (.int 0))))), h.2) = some (none, ((((h.1.set 72 (.inr (12, (zF72.set 67 (.int 0))))).set 119 (.inl (0, 17, .inl (upd (fun _ => 0) (Int32.toNatClampNeg 0) 0)))).set 72 (.inr (12, ((((((zF72.set 67 (.int 0)).set 68 (.int 0)).set 64 (.int 0)).set 65 (.int (-1))).set 66 (.int 0)).set 65 (.int 0))))), h.2)) := by
                  refine (r_aloadn f252_0 rfl).trans ?_
                  refine (r_get (v := .int (-1)) f252_1 (gs_eq (gs_ne (gs_eq g72) (by decide))) rfl).trans ?_
                  refine (r_if_ge_f f252_4 (by decide)).trans ?_
                  refine (r_aloadn f252_7 rfl).trans ?_
                  refine (r_aloadn f252_8 rfl).trans ?_
                  refine (r_get (v := .int 0) f252_9 (gs_eq (gs_ne (gs_eq g72) (by decide))) rfl).trans ?_
                  refine (r_put (h' := ((((h.1.set 72 (.inr (12, (zF72.set 67 (.int 0))))).set 119 (.inl (0, 17, .inl (upd (fun _ => 0) (Int32.toNatClampNeg 0) 0)))).set 72 (.inr (12, ((((((zF72.set 67 (.int 0)).set 68 (.int 0)).set 64 (.int 0)).set 65 (.int (-1))).set 66 (.int 0)).set 65 (.int 0))))), h.2)) f252_12 (gs_eq (gs_ne (gs_eq g72) (by decide))) rfl hss).trans ?_
                  exact r_vreturn f252_15 rfl
                refine (r_virt (as := []) (v := none) (h1 := ((((h.1.set 72 (.inr (12, (zF72.set 67 (.int 0))))).set 119 (.inl (0, 17, .inl (upd (fun _ => 0) (Int32.toNatClampNeg 0) 0)))).set 72 (.inr (12, ((((((zF72.set 67 (.int 0)).set 68 (.int 0)).set 64 (.int 0)).set 65 (.int (-1))).set 66 (.int 0)).set 65 (.int 0))))), h.2)) f256_216 (gs_eq (gs_ne (gs_eq g72) (by decide))) zg252 rfl rfl rfl rfl rfl rfl hc16).trans ?_
                refine (r_goto f256_219).trans ?_
                exact r_vreturn f256_228 rfl
              refine (r_virt (as := []) (v := none) (h1 := ((((h.1.set 72 (.inr (12, (zF72.set 67 (.int 0))))).set 119 (.inl (0, 17, .inl (upd (fun _ => 0) (Int32.toNatClampNeg 0) 0)))).set 72 (.inr (12, ((((((zF72.set 67 (.int 0)).set 68 (.int 0)).set 64 (.int 0)).set 65 (.int (-1))).set 66 (.int 0)).set 65 (.int 0))))), h.2)) f257_1 (gs_eq (gs_ne (gs_eq g72) (by decide))) zg256 rfl rfl rfl rfl rfl rfl hc11).trans ?_
              refine (r_aloadn f257_4 rfl).trans ?_
              refine (r_get (v := .int 0) f257_5 (gs_eq (gs_ne (gs_eq g72) (by decide))) rfl).trans ?_
              refine (r_if_ge_t f257_8 (by decide)).trans ?_
              exact r_vreturn f257_66 rfl
            refine (r_virt (as := []) (v := none) (h1 := ((((h.1.set 72 (.inr (12, (zF72.set 67 (.int 0))))).set 119 (.inl (0, 17, .inl (upd (fun _ => 0) (Int32.toNatClampNeg 0) 0)))).set 72 (.inr (12, ((((((zF72.set 67 (.int 0)).set 68 (.int 0)).set 64 (.int 0)).set 65 (.int (-1))).set 66 (.int 0)).set 65 (.int 0))))), h.2)) f258_1 (gs_eq (gs_ne (gs_eq g72) (by decide))) zg257 rfl rfl rfl rfl rfl rfl hc10).trans ?_
            refine (r_aloadn f258_4 rfl).trans ?_
            refine (r_get (v := .int 0) f258_5 (gs_eq (gs_ne (gs_eq g72) (by decide))) rfl).trans ?_
            refine (r_if_ge_t f258_8 (by decide)).trans ?_
            exact r_vreturn f258_57 rfl
          refine (r_virt (as := []) (v := none) (h1 := ((((h.1.set 72 (.inr (12, (zF72.set 67 (.int 0))))).set 119 (.inl (0, 17, .inl (upd (fun _ => 0) (Int32.toNatClampNeg 0) 0)))).set 72 (.inr (12, ((((((zF72.set 67 (.int 0)).set 68 (.int 0)).set 64 (.int 0)).set 65 (.int (-1))).set 66 (.int 0)).set 65 (.int 0))))), h.2)) f259_1 (gs_eq (gs_ne (gs_eq g72) (by decide))) zg258 rfl rfl rfl rfl rfl rfl hc9).trans ?_
          refine (r_aloadn f259_4 rfl).trans ?_
          have hc17 : arun X (n + 42) (d + 4) zM251 0 [some (.ref 72)] [] ((((h.1.set 72 (.inr (12, (zF72.set 67 (.int 0))))).set 119 (.inl (0, 17, .inl (upd (fun _ => 0) (Int32.toNatClampNeg 0) 0)))).set 72 (.inr (12, ((((((zF72.set 67 (.int 0)).set 68 (.int 0)).set 64 (.int 0)).set 65 (.int (-1))).set 66 (.int 0)).set 65 (.int 0))))), h.2) = some ((some (.int (-1))), ((((h.1.set 72 (.inr (12, (zF72.set 67 (.int 0))))).set 119 (.inl (0, 17, .inl (upd (fun _ => 0) (Int32.toNatClampNeg 0) 0)))).set 72 (.inr (12, ((((((zF72.set 67 (.int 0)).set 68 (.int 0)).set 64 (.int 0)).set 65 (.int (-1))).set 66 (.int 0)).set 65 (.int 0))))), h.2)) := by
            refine (r_aloadn f251_0 rfl).trans ?_
            refine (r_get (v := .int 0) f251_1 (gs_eq (gs_ne (gs_eq g72) (by decide))) rfl).trans ?_
            refine (r_aloadn f251_4 rfl).trans ?_
            refine (r_get (v := .int 0) f251_5 (gs_eq (gs_ne (gs_eq g72) (by decide))) rfl).trans ?_
            refine (r_icmp_ge_t f251_8 (by decide)).trans ?_
            refine (r_iconst (v := (-1)) f251_23 rfl).trans ?_
            exact r_ireturn f251_24 rfl
          refine (r_virt (as := []) (v := (some (.int (-1)))) (h1 := ((((h.1.set 72 (.inr (12, (zF72.set 67 (.int 0))))).set 119 (.inl (0, 17, .inl (upd (fun _ => 0) (Int32.toNatClampNeg 0) 0)))).set 72 (.inr (12, ((((((zF72.set 67 (.int 0)).set 68 (.int 0)).set 64 (.int 0)).set 65 (.int (-1))).set 66 (.int 0)).set 65 (.int 0))))), h.2)) f259_5 (gs_eq (gs_ne (gs_eq g72) (by decide))) zg251 rfl rfl rfl rfl rfl rfl hc17).trans ?_
          refine (r_istoren (L' := [some (.ref 72), some (.int (-1))]) f259_8 rfl rfl).trans ?_
          refine (r_aloadn f259_9 rfl).trans ?_
          refine (r_get (v := .int 0) f259_10 (gs_eq (gs_ne (gs_eq g72) (by decide))) rfl).trans ?_
          refine (r_if_ge_t f259_13 (by decide)).trans ?_
          exact r_vreturn f259_34 rfl
        refine (r_virt (as := []) (v := none) (h1 := ((((h.1.set 72 (.inr (12, (zF72.set 67 (.int 0))))).set 119 (.inl (0, 17, .inl (upd (fun _ => 0) (Int32.toNatClampNeg 0) 0)))).set 72 (.inr (12, ((((((zF72.set 67 (.int 0)).set 68 (.int 0)).set 64 (.int 0)).set 65 (.int (-1))).set 66 (.int 0)).set 65 (.int 0))))), h.2)) f260_1 (gs_eq (gs_ne (gs_eq g72) (by decide))) zg259 rfl rfl rfl rfl rfl rfl hc8).trans ?_
        refine (r_aloadn f260_4 rfl).trans ?_
        refine (r_get (v := .int 0) f260_5 (gs_eq (gs_ne (gs_eq g72) (by decide))) rfl).trans ?_
        refine (r_if_ge_t f260_8 (by decide)).trans ?_
        exact r_vreturn f260_44 rfl
      refine (r_virt (as := []) (v := none) (h1 := ((((h.1.set 72 (.inr (12, (zF72.set 67 (.int 0))))).set 119 (.inl (0, 17, .inl (upd (fun _ => 0) (Int32.toNatClampNeg 0) 0)))).set 72 (.inr (12, ((((((zF72.set 67 (.int 0)).set 68 (.int 0)).set 64 (.int 0)).set 65 (.int (-1))).set 66 (.int 0)).set 65 (.int 0))))), h.2)) f261_1 (gs_eq (gs_ne (gs_eq g72) (by decide))) zg260 rfl rfl rfl rfl rfl rfl hc7).trans ?_
      refine (r_aloadn f261_4 rfl).trans ?_
      refine (r_get (v := .int 0) f261_5 (gs_eq (gs_ne (gs_eq g72) (by decide))) rfl).trans ?_
      refine (r_if_ge_t f261_8 (by decide)).trans ?_
      exact r_vreturn f261_44 rfl
    refine (r_virt (as := []) (v := none) (h1 := ((((h.1.set 72 (.inr (12, (zF72.set 67 (.int 0))))).set 119 (.inl (0, 17, .inl (upd (fun _ => 0) (Int32.toNatClampNeg 0) 0)))).set 72 (.inr (12, ((((((zF72.set 67 (.int 0)).set 68 (.int 0)).set 64 (.int 0)).set 65 (.int (-1))).set 66 (.int 0)).set 65 (.int 0))))), h.2)) f262_24 (gs_eq (gs_ne (gs_eq g72) (by decide))) zg261 rfl rfl rfl rfl rfl rfl hc6).trans ?_
    refine (r_aloadn f262_27 rfl).trans ?_
    refine (r_get (v := .ref 120) f262_28 (gs_eq (gs_ne (gs_eq g72) (by decide))) rfl).trans ?_
    refine (r_iloadn f262_31 rfl).trans ?_
    refine (r_iloadn f262_32 rfl).trans ?_
    refine (r_iast (h' := (((((h.1.set 72 (.inr (12, (zF72.set 67 (.int 0))))).set 119 (.inl (0, 17, .inl (upd (fun _ => 0) (Int32.toNatClampNeg 0) 0)))).set 72 (.inr (12, ((((((zF72.set 67 (.int 0)).set 68 (.int 0)).set 64 (.int 0)).set 65 (.int (-1))).set 66 (.int 0)).set 65 (.int 0))))).set 120 (.inl (0, 1530, .inl (upd (fun _ => 0) (Int32.toNatClampNeg 0) 0)))), h.2)) f262_33 (gs_ne (gs_ne (gs_ne g120 (by decide)) (by decide)) (by decide)) (by decide) rfl).trans ?_
    refine (r_aloadn f262_34 rfl).trans ?_
    refine (r_get (v := .int 0) f262_35 (gs_ne (gs_eq (gs_ne (gs_eq g72) (by decide))) (by decide)) rfl).trans ?_
    refine (r_if_ge_t f262_38 (by decide)).trans ?_
    refine (r_aloadn f262_74 rfl).trans ?_
    refine (r_get (v := .ref 121) f262_75 (gs_ne (gs_eq (gs_ne (gs_eq g72) (by decide))) (by decide)) rfl).trans ?_
    refine (r_iloadn f262_78 rfl).trans ?_
    refine (r_aloadn f262_79 rfl).trans ?_
    refine (r_get (v := .int 0) f262_80 (gs_ne (gs_eq (gs_ne (gs_eq g72) (by decide))) (by decide)) rfl).trans ?_
    refine (r_iast (h' := ((((((h.1.set 72 (.inr (12, (zF72.set 67 (.int 0))))).set 119 (.inl (0, 17, .inl (upd (fun _ => 0) (Int32.toNatClampNeg 0) 0)))).set 72 (.inr (12, ((((((zF72.set 67 (.int 0)).set 68 (.int 0)).set 64 (.int 0)).set 65 (.int (-1))).set 66 (.int 0)).set 65 (.int 0))))).set 120 (.inl (0, 1530, .inl (upd (fun _ => 0) (Int32.toNatClampNeg 0) 0)))).set 121 (.inl (0, 1530, .inl (upd (fun _ => 0) (Int32.toNatClampNeg 0) 0)))), h.2)) f262_83 (gs_ne (gs_ne (gs_ne (gs_ne g121 (by decide)) (by decide)) (by decide)) (by decide)) (by decide) rfl).trans ?_
    refine (r_aloadn f262_84 rfl).trans ?_
    refine (r_get (v := .ref 119) f262_85 (gs_ne (gs_ne (gs_eq (gs_ne (gs_eq g72) (by decide))) (by decide)) (by decide)) rfl).trans ?_
    refine (r_aloadn f262_88 rfl).trans ?_
    refine (r_get (v := .int 0) f262_89 (gs_ne (gs_ne (gs_eq (gs_ne (gs_eq g72) (by decide))) (by decide)) (by decide)) rfl).trans ?_
    refine (r_dup2 f262_92 rfl).trans ?_
    refine (r_iald (v := 0) f262_93 (gs_ne (gs_ne (gs_ne (gs_eq (gs_ne g119 (by decide))) (by decide)) (by decide)) (by decide)) (by decide) rfl).trans ?_
    refine (r_iconst (v := 1) f262_94 rfl).trans ?_
    refine (r_iadd (v := 1) f262_95 (by decide)).trans ?_
    refine (r_iast (h' := (((((((h.1.set 72 (.inr (12, (zF72.set 67 (.int 0))))).set 119 (.inl (0, 17, .inl (upd (fun _ => 0) (Int32.toNatClampNeg 0) 0)))).set 72 (.inr (12, ((((((zF72.set 67 (.int 0)).set 68 (.int 0)).set 64 (.int 0)).set 65 (.int (-1))).set 66 (.int 0)).set 65 (.int 0))))).set 120 (.inl (0, 1530, .inl (upd (fun _ => 0) (Int32.toNatClampNeg 0) 0)))).set 121 (.inl (0, 1530, .inl (upd (fun _ => 0) (Int32.toNatClampNeg 0) 0)))).set 119 (.inl (0, 17, .inl (upd (upd (fun _ => 0) (Int32.toNatClampNeg 0) 0) (Int32.toNatClampNeg 0) 1)))), h.2)) f262_96 (gs_ne (gs_ne (gs_ne (gs_eq (gs_ne g119 (by decide))) (by decide)) (by decide)) (by decide)) (by decide) rfl).trans ?_
    exact r_vreturn f262_97 rfl
  refine (r_virt (as := []) (v := none) (h1 := (((((((h.1.set 72 (.inr (12, (zF72.set 67 (.int 0))))).set 119 (.inl (0, 17, .inl (upd (fun _ => 0) (Int32.toNatClampNeg 0) 0)))).set 72 (.inr (12, ((((((zF72.set 67 (.int 0)).set 68 (.int 0)).set 64 (.int 0)).set 65 (.int (-1))).set 66 (.int 0)).set 65 (.int 0))))).set 120 (.inl (0, 1530, .inl (upd (fun _ => 0) (Int32.toNatClampNeg 0) 0)))).set 121 (.inl (0, 1530, .inl (upd (fun _ => 0) (Int32.toNatClampNeg 0) 0)))).set 119 (.inl (0, 17, .inl (upd (upd (fun _ => 0) (Int32.toNatClampNeg 0) 0) (Int32.toNatClampNeg 0) 1)))), h.2)) f264_67 (gs_eq (gs_ne (gs_eq g72) (by decide))) zg262 rfl rfl rfl rfl rfl rfl hc5).trans ?_
  refine (r_aloadn f264_70 rfl).trans ?_
  refine (r_get (v := .int 0) f264_71 (gs_ne (gs_ne (gs_ne (gs_eq (gs_ne (gs_eq g72) (by decide))) (by decide)) (by decide)) (by decide)) rfl).trans ?_
  refine (r_if_ge_t f264_74 (by decide)).trans ?_
  refine (r_aloadn f264_103 rfl).trans ?_
  refine (r_get (v := .int 0) f264_104 (gs_ne (gs_ne (gs_ne (gs_eq (gs_ne (gs_eq g72) (by decide))) (by decide)) (by decide)) (by decide)) rfl).trans ?_
  refine (r_if_ge_t f264_107 (by decide)).trans ?_
  refine (r_aloadn f264_125 rfl).trans ?_
  refine (r_iconst (v := 0) f264_126 rfl).trans ?_
  refine (r_put (h' := ((((((((h.1.set 72 (.inr (12, (zF72.set 67 (.int 0))))).set 119 (.inl (0, 17, .inl (upd (fun _ => 0) (Int32.toNatClampNeg 0) 0)))).set 72 (.inr (12, ((((((zF72.set 67 (.int 0)).set 68 (.int 0)).set 64 (.int 0)).set 65 (.int (-1))).set 66 (.int 0)).set 65 (.int 0))))).set 120 (.inl (0, 1530, .inl (upd (fun _ => 0) (Int32.toNatClampNeg 0) 0)))).set 121 (.inl (0, 1530, .inl (upd (fun _ => 0) (Int32.toNatClampNeg 0) 0)))).set 119 (.inl (0, 17, .inl (upd (upd (fun _ => 0) (Int32.toNatClampNeg 0) 0) (Int32.toNatClampNeg 0) 1)))).set 72 (.inr (12, (((((((zF72.set 67 (.int 0)).set 68 (.int 0)).set 64 (.int 0)).set 65 (.int (-1))).set 66 (.int 0)).set 65 (.int 0)).set 54 (.int 0))))), h.2)) f264_127 (gs_ne (gs_ne (gs_ne (gs_eq (gs_ne (gs_eq g72) (by decide))) (by decide)) (by decide)) (by decide)) rfl rfl).trans ?_
  refine (r_aloadn f264_130 rfl).trans ?_
  refine (r_get (v := .int 0) f264_131 (gs_eq (gs_ne (gs_ne (gs_ne (gs_eq (gs_ne (gs_eq g72) (by decide))) (by decide)) (by decide)) (by decide))) rfl).trans ?_
  refine (r_if_lt_f f264_134 (by decide)).trans ?_
  refine (r_bipush (v := (-100)) f264_137 rfl).trans ?_
  refine (r_aloadn f264_139 rfl).trans ?_
  refine (r_get (v := .int 0) f264_140 (gs_eq (gs_ne (gs_ne (gs_ne (gs_eq (gs_ne (gs_eq g72) (by decide))) (by decide)) (by decide)) (by decide))) rfl).trans ?_
  refine (r_isub (v := (-100)) f264_143 (by decide)).trans ?_
  exact r_ireturn f264_144 rfl
set_option maxHeartbeats 40000000 in
theorem qc25_0 {X : aX} {n d : Nat} {h : aH} {x1 : Int32} {x2 : Int32} {x3 : Int32}  (ec0 : x1 < 0) : arun X (n + 6) (d + 2) zM169 0 [some (.ref 0), some (.int x1), some (.int x2), some (.int x3), none] [] h = some (some (.int (-1)), h) := by
  refine (r_iloadn f169_0 rfl).trans ?_
  have hc1 : arun X (n + 4) (d + 1) zM143 0 [some (.int x1)] [] h = some ((some (.int 0)), h) := by
    refine (r_iloadn f143_0 rfl).trans ?_
    refine (r_if_lt_t f143_1 ec0).trans ?_
    refine (r_iconst (v := 0) f143_26 rfl).trans ?_
    exact r_zreturn f143_27 rfl (by decide)
  refine (r_stat (as := [.int x1]) (v := (some (.int 0))) (h1 := h) f169_1 rfl zg143 rfl rfl rfl rfl rfl rfl hc1).trans ?_
  refine (r_if_eq_t f169_4 (by decide)).trans ?_
  refine (r_iconst (v := (-1)) f169_21 rfl).trans ?_
  exact r_ireturn f169_22 rfl
set_option maxHeartbeats 40000000 in
theorem qm25_0_0 {X : aX} {n d : Nat} {h : aH} {x1 : Int32} {x2 : Int32} {x3 : Int32}  (ec0 : x1 < 0) : arun X (n + 11) (d + 3) zM266 0 [some (.ref 72), some (.int x1), some (.int x2), some (.int x3)] [] h = some (some (.int (-1)), h) := by
  refine (r_iloadn f266_0 rfl).trans ?_
  have hc1 : arun X (n + 9) (d + 2) zM263 0 [some (.int x1)] [] h = some ((some (.int 0)), h) := by
    refine (r_iloadn f263_0 rfl).trans ?_
    refine (r_iconst (v := 0) f263_1 rfl).trans ?_
    refine (r_bipush (v := 33) f263_2 rfl).trans ?_
    have hc2 : arun X (n + 5) (d + 1) zM196 0 [some (.int x1), some (.int 0), some (.int 33)] [] h = some ((some (.int 0)), h) := by
      refine (r_iloadn f196_0 rfl).trans ?_
      refine (r_iloadn f196_1 rfl).trans ?_
      refine (r_icmp_lt_t f196_2 ec0).trans ?_
      refine (r_iconst (v := 0) f196_14 rfl).trans ?_
      exact r_zreturn f196_15 rfl (by decide)
    refine (r_stat (as := [.int x1, .int 0, .int 33]) (v := (some (.int 0))) (h1 := h) f263_4 rfl zg196 rfl rfl rfl rfl rfl rfl hc2).trans ?_
    refine (r_if_eq_t f263_7 (by decide)).trans ?_
    refine (r_iconst (v := 0) f263_22 rfl).trans ?_
    exact r_zreturn f263_23 rfl (by decide)
  refine (r_stat (as := [.int x1]) (v := (some (.int 0))) (h1 := h) f266_1 rfl zg263 rfl rfl rfl rfl rfl rfl hc1).trans ?_
  refine (r_if_eq_t f266_4 (by decide)).trans ?_
  refine (r_iconst (v := (-1)) f266_31 rfl).trans ?_
  exact r_ireturn f266_32 rfl
set_option maxHeartbeats 40000000 in
theorem qc25_1 {X : aX} {n d : Nat} {h : aH} {x1 : Int32} {x2 : Int32} {x3 : Int32}  (ec0 : ¬ x1 < 0) (ec1 : (x1 / 10) < 0) : arun X (n + 17) (d + 4) zM169 0 [some (.ref 0), some (.int x1), some (.int x2), some (.int x3), none] [] h = some (some (.int (-1)), h) := by
  refine (r_iloadn f169_0 rfl).trans ?_
  have hc1 : arun X (n + 15) (d + 3) zM143 0 [some (.int x1)] [] h = some ((some (.int 0)), h) := by
    refine (r_iloadn f143_0 rfl).trans ?_
    refine (r_if_lt_f f143_1 ec0).trans ?_
    refine (r_iloadn f143_4 rfl).trans ?_
    refine (r_bipush (v := 10) f143_5 rfl).trans ?_
    refine (r_idiv (v := (x1 / 10)) f143_7 (by decide) rfl).trans ?_
    have hc2 : arun X (n + 9) (d + 2) zM140 0 [some (.int (x1 / 10))] [] h = some ((some (.int 0)), h) := by
      refine (r_iloadn f140_0 rfl).trans ?_
      refine (r_iconst (v := 0) f140_1 rfl).trans ?_
      refine (r_iconst (v := 3) f140_2 rfl).trans ?_
      have hc3 : arun X (n + 5) (d + 1) zM137 0 [some (.int (x1 / 10)), some (.int 0), some (.int 3)] [] h = some ((some (.int 0)), h) := by
        refine (r_iloadn f137_0 rfl).trans ?_
        refine (r_iloadn f137_1 rfl).trans ?_
        refine (r_icmp_gt_t f137_2 ec1).trans ?_
        refine (r_iconst (v := 0) f137_14 rfl).trans ?_
        exact r_zreturn f137_15 rfl (by decide)
      refine (r_stat (as := [.int (x1 / 10), .int 0, .int 3]) (v := (some (.int 0))) (h1 := h) f140_3 rfl zg137 rfl rfl rfl rfl rfl rfl hc3).trans ?_
      exact r_zreturn f140_6 rfl (by decide)
    refine (r_stat (as := [.int (x1 / 10)]) (v := (some (.int 0))) (h1 := h) f143_8 rfl zg140 rfl rfl rfl rfl rfl rfl hc2).trans ?_
    refine (r_if_eq_t f143_11 (by decide)).trans ?_
    refine (r_iconst (v := 0) f143_26 rfl).trans ?_
    exact r_zreturn f143_27 rfl (by decide)
  refine (r_stat (as := [.int x1]) (v := (some (.int 0))) (h1 := h) f169_1 rfl zg143 rfl rfl rfl rfl rfl rfl hc1).trans ?_
  refine (r_if_eq_t f169_4 (by decide)).trans ?_
  refine (r_iconst (v := (-1)) f169_21 rfl).trans ?_
  exact r_ireturn f169_22 rfl
set_option maxHeartbeats 40000000 in
theorem qm25_1_0 {X : aX} {n d : Nat} {h : aH} {x1 : Int32} {x2 : Int32} {x3 : Int32}  (ec0 : ¬ x1 < 0) (em0 : 33 < x1) : arun X (n + 14) (d + 3) zM266 0 [some (.ref 72), some (.int x1), some (.int x2), some (.int x3)] [] h = some (some (.int (-1)), h) := by
  refine (r_iloadn f266_0 rfl).trans ?_
  have hc1 : arun X (n + 12) (d + 2) zM263 0 [some (.int x1)] [] h = some ((some (.int 0)), h) := by
    refine (r_iloadn f263_0 rfl).trans ?_
    refine (r_iconst (v := 0) f263_1 rfl).trans ?_
    refine (r_bipush (v := 33) f263_2 rfl).trans ?_
    have hc2 : arun X (n + 8) (d + 1) zM196 0 [some (.int x1), some (.int 0), some (.int 33)] [] h = some ((some (.int 0)), h) := by
      refine (r_iloadn f196_0 rfl).trans ?_
      refine (r_iloadn f196_1 rfl).trans ?_
      refine (r_icmp_lt_f f196_2 ec0).trans ?_
      refine (r_iloadn f196_5 rfl).trans ?_
      refine (r_iloadn f196_6 rfl).trans ?_
      refine (r_icmp_gt_t f196_7 em0).trans ?_
      refine (r_iconst (v := 0) f196_14 rfl).trans ?_
      exact r_zreturn f196_15 rfl (by decide)
    refine (r_stat (as := [.int x1, .int 0, .int 33]) (v := (some (.int 0))) (h1 := h) f263_4 rfl zg196 rfl rfl rfl rfl rfl rfl hc2).trans ?_
    refine (r_if_eq_t f263_7 (by decide)).trans ?_
    refine (r_iconst (v := 0) f263_22 rfl).trans ?_
    exact r_zreturn f263_23 rfl (by decide)
  refine (r_stat (as := [.int x1]) (v := (some (.int 0))) (h1 := h) f266_1 rfl zg263 rfl rfl rfl rfl rfl rfl hc1).trans ?_
  refine (r_if_eq_t f266_4 (by decide)).trans ?_
  refine (r_iconst (v := (-1)) f266_31 rfl).trans ?_
  exact r_ireturn f266_32 rfl
set_option maxHeartbeats 40000000 in
theorem qm25_1_1 {X : aX} {n d : Nat} {h : aH} {x1 : Int32} {x2 : Int32} {x3 : Int32}  (ec0 : ¬ x1 < 0) (em0 : ¬ 33 < x1) (em1 : 3 < (x1 - x1 / 10 * 10)) : arun X (n + 15) (d + 3) zM266 0 [some (.ref 72), some (.int x1), some (.int x2), some (.int x3)] [] h = some (some (.int (-1)), h) := by
  refine (r_iloadn f266_0 rfl).trans ?_
  have hc1 : arun X (n + 13) (d + 2) zM263 0 [some (.int x1)] [] h = some ((some (.int 0)), h) := by
    refine (r_iloadn f263_0 rfl).trans ?_
    refine (r_iconst (v := 0) f263_1 rfl).trans ?_
    refine (r_bipush (v := 33) f263_2 rfl).trans ?_
    have hc2 : arun X (n + 9) (d + 1) zM196 0 [some (.int x1), some (.int 0), some (.int 33)] [] h = some ((some (.int 1)), h) := by
      refine (r_iloadn f196_0 rfl).trans ?_
      refine (r_iloadn f196_1 rfl).trans ?_
      refine (r_icmp_lt_f f196_2 ec0).trans ?_
      refine (r_iloadn f196_5 rfl).trans ?_
      refine (r_iloadn f196_6 rfl).trans ?_
      refine (r_icmp_gt_f f196_7 em0).trans ?_
      refine (r_iconst (v := 1) f196_10 rfl).trans ?_
      refine (r_goto f196_11).trans ?_
      exact r_zreturn f196_15 rfl (by decide)
    refine (r_stat (as := [.int x1, .int 0, .int 33]) (v := (some (.int 1))) (h1 := h) f263_4 rfl zg196 rfl rfl rfl rfl rfl rfl hc2).trans ?_
    refine (r_if_eq_f f263_7 (by decide)).trans ?_
    refine (r_iloadn f263_10 rfl).trans ?_
    refine (r_bipush (v := 10) f263_11 rfl).trans ?_
    refine (r_irem (v := (x1 - x1 / 10 * 10)) f263_13 (by decide) rfl).trans ?_
    refine (r_iconst (v := 3) f263_14 rfl).trans ?_
    refine (r_icmp_gt_t f263_15 em1).trans ?_
    refine (r_iconst (v := 0) f263_22 rfl).trans ?_
    exact r_zreturn f263_23 rfl (by decide)
  refine (r_stat (as := [.int x1]) (v := (some (.int 0))) (h1 := h) f266_1 rfl zg263 rfl rfl rfl rfl rfl rfl hc1).trans ?_
  refine (r_if_eq_t f266_4 (by decide)).trans ?_
  refine (r_iconst (v := (-1)) f266_31 rfl).trans ?_
  exact r_ireturn f266_32 rfl
set_option maxHeartbeats 40000000 in
theorem qm25_1_2 {X : aX} {n d : Nat} {h : aH} {x1 : Int32} {x2 : Int32} {x3 : Int32}  (ec0 : ¬ x1 < 0) (em0 : ¬ 33 < x1) (em1 : ¬ 3 < (x1 - x1 / 10 * 10)) (em2 : x2 < 0) : arun X (n + 15) (d + 3) zM266 0 [some (.ref 72), some (.int x1), some (.int x2), some (.int x3)] [] h = some (some (.int (-1)), h) := by
  refine (r_iloadn f266_0 rfl).trans ?_
  have hc1 : arun X (n + 13) (d + 2) zM263 0 [some (.int x1)] [] h = some ((some (.int 1)), h) := by
    refine (r_iloadn f263_0 rfl).trans ?_
    refine (r_iconst (v := 0) f263_1 rfl).trans ?_
    refine (r_bipush (v := 33) f263_2 rfl).trans ?_
    have hc2 : arun X (n + 9) (d + 1) zM196 0 [some (.int x1), some (.int 0), some (.int 33)] [] h = some ((some (.int 1)), h) := by
      refine (r_iloadn f196_0 rfl).trans ?_
      refine (r_iloadn f196_1 rfl).trans ?_
      refine (r_icmp_lt_f f196_2 ec0).trans ?_
      refine (r_iloadn f196_5 rfl).trans ?_
      refine (r_iloadn f196_6 rfl).trans ?_
      refine (r_icmp_gt_f f196_7 em0).trans ?_
      refine (r_iconst (v := 1) f196_10 rfl).trans ?_
      refine (r_goto f196_11).trans ?_
      exact r_zreturn f196_15 rfl (by decide)
    refine (r_stat (as := [.int x1, .int 0, .int 33]) (v := (some (.int 1))) (h1 := h) f263_4 rfl zg196 rfl rfl rfl rfl rfl rfl hc2).trans ?_
    refine (r_if_eq_f f263_7 (by decide)).trans ?_
    refine (r_iloadn f263_10 rfl).trans ?_
    refine (r_bipush (v := 10) f263_11 rfl).trans ?_
    refine (r_irem (v := (x1 - x1 / 10 * 10)) f263_13 (by decide) rfl).trans ?_
    refine (r_iconst (v := 3) f263_14 rfl).trans ?_
    refine (r_icmp_gt_f f263_15 em1).trans ?_
    refine (r_iconst (v := 1) f263_18 rfl).trans ?_
    refine (r_goto f263_19).trans ?_
    exact r_zreturn f263_23 rfl (by decide)
  refine (r_stat (as := [.int x1]) (v := (some (.int 1))) (h1 := h) f266_1 rfl zg263 rfl rfl rfl rfl rfl rfl hc1).trans ?_
  refine (r_if_eq_f f266_4 (by decide)).trans ?_
  refine (r_iloadn f266_7 rfl).trans ?_
  have hc3 : arun X (n + 10) (d + 2) zM198 0 [some (.int x2)] [] h = some ((some (.int 0)), h) := by
    refine (r_iloadn f198_0 rfl).trans ?_
    refine (r_iconst (v := 0) f198_1 rfl).trans ?_
    refine (r_bipush (v := 9) f198_2 rfl).trans ?_
    have hc4 : arun X (n + 6) (d + 1) zM196 0 [some (.int x2), some (.int 0), some (.int 9)] [] h = some ((some (.int 0)), h) := by
      refine (r_iloadn f196_0 rfl).trans ?_
      refine (r_iloadn f196_1 rfl).trans ?_
      refine (r_icmp_lt_t f196_2 em2).trans ?_
      refine (r_iconst (v := 0) f196_14 rfl).trans ?_
      exact r_zreturn f196_15 rfl (by decide)
    refine (r_stat (as := [.int x2, .int 0, .int 9]) (v := (some (.int 0))) (h1 := h) f198_4 rfl zg196 rfl rfl rfl rfl rfl rfl hc4).trans ?_
    exact r_zreturn f198_7 rfl (by decide)
  refine (r_stat (as := [.int x2]) (v := (some (.int 0))) (h1 := h) f266_8 rfl zg198 rfl rfl rfl rfl rfl rfl hc3).trans ?_
  refine (r_if_eq_t f266_11 (by decide)).trans ?_
  refine (r_iconst (v := (-1)) f266_31 rfl).trans ?_
  exact r_ireturn f266_32 rfl
set_option maxHeartbeats 40000000 in
theorem qm25_1_3 {X : aX} {n d : Nat} {h : aH} {x1 : Int32} {x2 : Int32} {x3 : Int32}  (ec0 : ¬ x1 < 0) (em0 : ¬ 33 < x1) (em1 : ¬ 3 < (x1 - x1 / 10 * 10)) (em2 : ¬ x2 < 0) (em3 : 9 < x2) : arun X (n + 17) (d + 3) zM266 0 [some (.ref 72), some (.int x1), some (.int x2), some (.int x3)] [] h = some (some (.int (-1)), h) := by
  refine (r_iloadn f266_0 rfl).trans ?_
  have hc1 : arun X (n + 15) (d + 2) zM263 0 [some (.int x1)] [] h = some ((some (.int 1)), h) := by
    refine (r_iloadn f263_0 rfl).trans ?_
    refine (r_iconst (v := 0) f263_1 rfl).trans ?_
    refine (r_bipush (v := 33) f263_2 rfl).trans ?_
    have hc2 : arun X (n + 11) (d + 1) zM196 0 [some (.int x1), some (.int 0), some (.int 33)] [] h = some ((some (.int 1)), h) := by
      refine (r_iloadn f196_0 rfl).trans ?_
      refine (r_iloadn f196_1 rfl).trans ?_
      refine (r_icmp_lt_f f196_2 ec0).trans ?_
      refine (r_iloadn f196_5 rfl).trans ?_
      refine (r_iloadn f196_6 rfl).trans ?_
      refine (r_icmp_gt_f f196_7 em0).trans ?_
      refine (r_iconst (v := 1) f196_10 rfl).trans ?_
      refine (r_goto f196_11).trans ?_
      exact r_zreturn f196_15 rfl (by decide)
    refine (r_stat (as := [.int x1, .int 0, .int 33]) (v := (some (.int 1))) (h1 := h) f263_4 rfl zg196 rfl rfl rfl rfl rfl rfl hc2).trans ?_
    refine (r_if_eq_f f263_7 (by decide)).trans ?_
    refine (r_iloadn f263_10 rfl).trans ?_
    refine (r_bipush (v := 10) f263_11 rfl).trans ?_
    refine (r_irem (v := (x1 - x1 / 10 * 10)) f263_13 (by decide) rfl).trans ?_
    refine (r_iconst (v := 3) f263_14 rfl).trans ?_
    refine (r_icmp_gt_f f263_15 em1).trans ?_
    refine (r_iconst (v := 1) f263_18 rfl).trans ?_
    refine (r_goto f263_19).trans ?_
    exact r_zreturn f263_23 rfl (by decide)
  refine (r_stat (as := [.int x1]) (v := (some (.int 1))) (h1 := h) f266_1 rfl zg263 rfl rfl rfl rfl rfl rfl hc1).trans ?_
  refine (r_if_eq_f f266_4 (by decide)).trans ?_
  refine (r_iloadn f266_7 rfl).trans ?_
  have hc3 : arun X (n + 12) (d + 2) zM198 0 [some (.int x2)] [] h = some ((some (.int 0)), h) := by
    refine (r_iloadn f198_0 rfl).trans ?_
    refine (r_iconst (v := 0) f198_1 rfl).trans ?_
    refine (r_bipush (v := 9) f198_2 rfl).trans ?_
    have hc4 : arun X (n + 8) (d + 1) zM196 0 [some (.int x2), some (.int 0), some (.int 9)] [] h = some ((some (.int 0)), h) := by
      refine (r_iloadn f196_0 rfl).trans ?_
      refine (r_iloadn f196_1 rfl).trans ?_
      refine (r_icmp_lt_f f196_2 em2).trans ?_
      refine (r_iloadn f196_5 rfl).trans ?_
      refine (r_iloadn f196_6 rfl).trans ?_
      refine (r_icmp_gt_t f196_7 em3).trans ?_
      refine (r_iconst (v := 0) f196_14 rfl).trans ?_
      exact r_zreturn f196_15 rfl (by decide)
    refine (r_stat (as := [.int x2, .int 0, .int 9]) (v := (some (.int 0))) (h1 := h) f198_4 rfl zg196 rfl rfl rfl rfl rfl rfl hc4).trans ?_
    exact r_zreturn f198_7 rfl (by decide)
  refine (r_stat (as := [.int x2]) (v := (some (.int 0))) (h1 := h) f266_8 rfl zg198 rfl rfl rfl rfl rfl rfl hc3).trans ?_
  refine (r_if_eq_t f266_11 (by decide)).trans ?_
  refine (r_iconst (v := (-1)) f266_31 rfl).trans ?_
  exact r_ireturn f266_32 rfl
set_option maxHeartbeats 40000000 in
theorem qm25_1_4 {X : aX} {n d : Nat} {h : aH} {x1 : Int32} {x2 : Int32} {x3 : Int32}  (ec0 : ¬ x1 < 0) (em0 : ¬ 33 < x1) (em1 : ¬ 3 < (x1 - x1 / 10 * 10)) (em2 : ¬ x2 < 0) (em3 : ¬ 9 < x2) (em4 : x3 < 0) : arun X (n + 18) (d + 3) zM266 0 [some (.ref 72), some (.int x1), some (.int x2), some (.int x3)] [] h = some (some (.int (-1)), h) := by
  refine (r_iloadn f266_0 rfl).trans ?_
  have hc1 : arun X (n + 16) (d + 2) zM263 0 [some (.int x1)] [] h = some ((some (.int 1)), h) := by
    refine (r_iloadn f263_0 rfl).trans ?_
    refine (r_iconst (v := 0) f263_1 rfl).trans ?_
    refine (r_bipush (v := 33) f263_2 rfl).trans ?_
    have hc2 : arun X (n + 12) (d + 1) zM196 0 [some (.int x1), some (.int 0), some (.int 33)] [] h = some ((some (.int 1)), h) := by
      refine (r_iloadn f196_0 rfl).trans ?_
      refine (r_iloadn f196_1 rfl).trans ?_
      refine (r_icmp_lt_f f196_2 ec0).trans ?_
      refine (r_iloadn f196_5 rfl).trans ?_
      refine (r_iloadn f196_6 rfl).trans ?_
      refine (r_icmp_gt_f f196_7 em0).trans ?_
      refine (r_iconst (v := 1) f196_10 rfl).trans ?_
      refine (r_goto f196_11).trans ?_
      exact r_zreturn f196_15 rfl (by decide)
    refine (r_stat (as := [.int x1, .int 0, .int 33]) (v := (some (.int 1))) (h1 := h) f263_4 rfl zg196 rfl rfl rfl rfl rfl rfl hc2).trans ?_
    refine (r_if_eq_f f263_7 (by decide)).trans ?_
    refine (r_iloadn f263_10 rfl).trans ?_
    refine (r_bipush (v := 10) f263_11 rfl).trans ?_
    refine (r_irem (v := (x1 - x1 / 10 * 10)) f263_13 (by decide) rfl).trans ?_
    refine (r_iconst (v := 3) f263_14 rfl).trans ?_
    refine (r_icmp_gt_f f263_15 em1).trans ?_
    refine (r_iconst (v := 1) f263_18 rfl).trans ?_
    refine (r_goto f263_19).trans ?_
    exact r_zreturn f263_23 rfl (by decide)
  refine (r_stat (as := [.int x1]) (v := (some (.int 1))) (h1 := h) f266_1 rfl zg263 rfl rfl rfl rfl rfl rfl hc1).trans ?_
  refine (r_if_eq_f f266_4 (by decide)).trans ?_
  refine (r_iloadn f266_7 rfl).trans ?_
  have hc3 : arun X (n + 13) (d + 2) zM198 0 [some (.int x2)] [] h = some ((some (.int 1)), h) := by
    refine (r_iloadn f198_0 rfl).trans ?_
    refine (r_iconst (v := 0) f198_1 rfl).trans ?_
    refine (r_bipush (v := 9) f198_2 rfl).trans ?_
    have hc4 : arun X (n + 9) (d + 1) zM196 0 [some (.int x2), some (.int 0), some (.int 9)] [] h = some ((some (.int 1)), h) := by
      refine (r_iloadn f196_0 rfl).trans ?_
      refine (r_iloadn f196_1 rfl).trans ?_
      refine (r_icmp_lt_f f196_2 em2).trans ?_
      refine (r_iloadn f196_5 rfl).trans ?_
      refine (r_iloadn f196_6 rfl).trans ?_
      refine (r_icmp_gt_f f196_7 em3).trans ?_
      refine (r_iconst (v := 1) f196_10 rfl).trans ?_
      refine (r_goto f196_11).trans ?_
      exact r_zreturn f196_15 rfl (by decide)
    refine (r_stat (as := [.int x2, .int 0, .int 9]) (v := (some (.int 1))) (h1 := h) f198_4 rfl zg196 rfl rfl rfl rfl rfl rfl hc4).trans ?_
    exact r_zreturn f198_7 rfl (by decide)
  refine (r_stat (as := [.int x2]) (v := (some (.int 1))) (h1 := h) f266_8 rfl zg198 rfl rfl rfl rfl rfl rfl hc3).trans ?_
  refine (r_if_eq_f f266_11 (by decide)).trans ?_
  refine (r_iloadn f266_14 rfl).trans ?_
  have hc5 : arun X (n + 10) (d + 2) zM197 0 [some (.int x3)] [] h = some ((some (.int 0)), h) := by
    refine (r_iloadn f197_0 rfl).trans ?_
    refine (r_iconst (v := 0) f197_1 rfl).trans ?_
    refine (r_sipush (v := 3649) f197_2 rfl).trans ?_
    have hc6 : arun X (n + 6) (d + 1) zM196 0 [some (.int x3), some (.int 0), some (.int 3649)] [] h = some ((some (.int 0)), h) := by
      refine (r_iloadn f196_0 rfl).trans ?_
      refine (r_iloadn f196_1 rfl).trans ?_
      refine (r_icmp_lt_t f196_2 em4).trans ?_
      refine (r_iconst (v := 0) f196_14 rfl).trans ?_
      exact r_zreturn f196_15 rfl (by decide)
    refine (r_stat (as := [.int x3, .int 0, .int 3649]) (v := (some (.int 0))) (h1 := h) f197_5 rfl zg196 rfl rfl rfl rfl rfl rfl hc6).trans ?_
    exact r_zreturn f197_8 rfl (by decide)
  refine (r_stat (as := [.int x3]) (v := (some (.int 0))) (h1 := h) f266_15 rfl zg197 rfl rfl rfl rfl rfl rfl hc5).trans ?_
  refine (r_if_eq_t f266_18 (by decide)).trans ?_
  refine (r_iconst (v := (-1)) f266_31 rfl).trans ?_
  exact r_ireturn f266_32 rfl
set_option maxHeartbeats 40000000 in
theorem qm25_1_5 {X : aX} {n d : Nat} {h : aH} {x1 : Int32} {x2 : Int32} {x3 : Int32}  (ec0 : ¬ x1 < 0) (em0 : ¬ 33 < x1) (em1 : ¬ 3 < (x1 - x1 / 10 * 10)) (em2 : ¬ x2 < 0) (em3 : ¬ 9 < x2) (em4 : ¬ x3 < 0) (em5 : 3649 < x3) : arun X (n + 20) (d + 3) zM266 0 [some (.ref 72), some (.int x1), some (.int x2), some (.int x3)] [] h = some (some (.int (-1)), h) := by
  refine (r_iloadn f266_0 rfl).trans ?_
  have hc1 : arun X (n + 18) (d + 2) zM263 0 [some (.int x1)] [] h = some ((some (.int 1)), h) := by
    refine (r_iloadn f263_0 rfl).trans ?_
    refine (r_iconst (v := 0) f263_1 rfl).trans ?_
    refine (r_bipush (v := 33) f263_2 rfl).trans ?_
    have hc2 : arun X (n + 14) (d + 1) zM196 0 [some (.int x1), some (.int 0), some (.int 33)] [] h = some ((some (.int 1)), h) := by
      refine (r_iloadn f196_0 rfl).trans ?_
      refine (r_iloadn f196_1 rfl).trans ?_
      refine (r_icmp_lt_f f196_2 ec0).trans ?_
      refine (r_iloadn f196_5 rfl).trans ?_
      refine (r_iloadn f196_6 rfl).trans ?_
      refine (r_icmp_gt_f f196_7 em0).trans ?_
      refine (r_iconst (v := 1) f196_10 rfl).trans ?_
      refine (r_goto f196_11).trans ?_
      exact r_zreturn f196_15 rfl (by decide)
    refine (r_stat (as := [.int x1, .int 0, .int 33]) (v := (some (.int 1))) (h1 := h) f263_4 rfl zg196 rfl rfl rfl rfl rfl rfl hc2).trans ?_
    refine (r_if_eq_f f263_7 (by decide)).trans ?_
    refine (r_iloadn f263_10 rfl).trans ?_
    refine (r_bipush (v := 10) f263_11 rfl).trans ?_
    refine (r_irem (v := (x1 - x1 / 10 * 10)) f263_13 (by decide) rfl).trans ?_
    refine (r_iconst (v := 3) f263_14 rfl).trans ?_
    refine (r_icmp_gt_f f263_15 em1).trans ?_
    refine (r_iconst (v := 1) f263_18 rfl).trans ?_
    refine (r_goto f263_19).trans ?_
    exact r_zreturn f263_23 rfl (by decide)
  refine (r_stat (as := [.int x1]) (v := (some (.int 1))) (h1 := h) f266_1 rfl zg263 rfl rfl rfl rfl rfl rfl hc1).trans ?_
  refine (r_if_eq_f f266_4 (by decide)).trans ?_
  refine (r_iloadn f266_7 rfl).trans ?_
  have hc3 : arun X (n + 15) (d + 2) zM198 0 [some (.int x2)] [] h = some ((some (.int 1)), h) := by
    refine (r_iloadn f198_0 rfl).trans ?_
    refine (r_iconst (v := 0) f198_1 rfl).trans ?_
    refine (r_bipush (v := 9) f198_2 rfl).trans ?_
    have hc4 : arun X (n + 11) (d + 1) zM196 0 [some (.int x2), some (.int 0), some (.int 9)] [] h = some ((some (.int 1)), h) := by
      refine (r_iloadn f196_0 rfl).trans ?_
      refine (r_iloadn f196_1 rfl).trans ?_
      refine (r_icmp_lt_f f196_2 em2).trans ?_
      refine (r_iloadn f196_5 rfl).trans ?_
      refine (r_iloadn f196_6 rfl).trans ?_
      refine (r_icmp_gt_f f196_7 em3).trans ?_
      refine (r_iconst (v := 1) f196_10 rfl).trans ?_
      refine (r_goto f196_11).trans ?_
      exact r_zreturn f196_15 rfl (by decide)
    refine (r_stat (as := [.int x2, .int 0, .int 9]) (v := (some (.int 1))) (h1 := h) f198_4 rfl zg196 rfl rfl rfl rfl rfl rfl hc4).trans ?_
    exact r_zreturn f198_7 rfl (by decide)
  refine (r_stat (as := [.int x2]) (v := (some (.int 1))) (h1 := h) f266_8 rfl zg198 rfl rfl rfl rfl rfl rfl hc3).trans ?_
  refine (r_if_eq_f f266_11 (by decide)).trans ?_
  refine (r_iloadn f266_14 rfl).trans ?_
  have hc5 : arun X (n + 12) (d + 2) zM197 0 [some (.int x3)] [] h = some ((some (.int 0)), h) := by
    refine (r_iloadn f197_0 rfl).trans ?_
    refine (r_iconst (v := 0) f197_1 rfl).trans ?_
    refine (r_sipush (v := 3649) f197_2 rfl).trans ?_
    have hc6 : arun X (n + 8) (d + 1) zM196 0 [some (.int x3), some (.int 0), some (.int 3649)] [] h = some ((some (.int 0)), h) := by
      refine (r_iloadn f196_0 rfl).trans ?_
      refine (r_iloadn f196_1 rfl).trans ?_
      refine (r_icmp_lt_f f196_2 em4).trans ?_
      refine (r_iloadn f196_5 rfl).trans ?_
      refine (r_iloadn f196_6 rfl).trans ?_
      refine (r_icmp_gt_t f196_7 em5).trans ?_
      refine (r_iconst (v := 0) f196_14 rfl).trans ?_
      exact r_zreturn f196_15 rfl (by decide)
    refine (r_stat (as := [.int x3, .int 0, .int 3649]) (v := (some (.int 0))) (h1 := h) f197_5 rfl zg196 rfl rfl rfl rfl rfl rfl hc6).trans ?_
    exact r_zreturn f197_8 rfl (by decide)
  refine (r_stat (as := [.int x3]) (v := (some (.int 0))) (h1 := h) f266_15 rfl zg197 rfl rfl rfl rfl rfl rfl hc5).trans ?_
  refine (r_if_eq_t f266_18 (by decide)).trans ?_
  refine (r_iconst (v := (-1)) f266_31 rfl).trans ?_
  exact r_ireturn f266_32 rfl
set_option maxHeartbeats 40000000 in
theorem qm25_1_6 {X : aX} {n d : Nat} {h : aH} {x1 : Int32} {x2 : Int32} {x3 : Int32}  (g72 : h.1[72]? = some (.inr (12, zF72))) (ec0 : ¬ x1 < 0) (em0 : ¬ 33 < x1) (em1 : ¬ 3 < (x1 - x1 / 10 * 10)) (em2 : ¬ x2 < 0) (em3 : ¬ 9 < x2) (em4 : ¬ x3 < 0) (em5 : ¬ 3649 < x3) : arun X (n + 23) (d + 3) zM266 0 [some (.ref 72), some (.int x1), some (.int x2), some (.int x3)] [] h = some (some (.int (-2)), h) := by
  refine (r_iloadn f266_0 rfl).trans ?_
  have hc1 : arun X (n + 21) (d + 2) zM263 0 [some (.int x1)] [] h = some ((some (.int 1)), h) := by
    refine (r_iloadn f263_0 rfl).trans ?_
    refine (r_iconst (v := 0) f263_1 rfl).trans ?_
    refine (r_bipush (v := 33) f263_2 rfl).trans ?_
    have hc2 : arun X (n + 17) (d + 1) zM196 0 [some (.int x1), some (.int 0), some (.int 33)] [] h = some ((some (.int 1)), h) := by
      refine (r_iloadn f196_0 rfl).trans ?_
      refine (r_iloadn f196_1 rfl).trans ?_
      refine (r_icmp_lt_f f196_2 ec0).trans ?_
      refine (r_iloadn f196_5 rfl).trans ?_
      refine (r_iloadn f196_6 rfl).trans ?_
      refine (r_icmp_gt_f f196_7 em0).trans ?_
      refine (r_iconst (v := 1) f196_10 rfl).trans ?_
      refine (r_goto f196_11).trans ?_
      exact r_zreturn f196_15 rfl (by decide)
    refine (r_stat (as := [.int x1, .int 0, .int 33]) (v := (some (.int 1))) (h1 := h) f263_4 rfl zg196 rfl rfl rfl rfl rfl rfl hc2).trans ?_
    refine (r_if_eq_f f263_7 (by decide)).trans ?_
    refine (r_iloadn f263_10 rfl).trans ?_
    refine (r_bipush (v := 10) f263_11 rfl).trans ?_
    refine (r_irem (v := (x1 - x1 / 10 * 10)) f263_13 (by decide) rfl).trans ?_
    refine (r_iconst (v := 3) f263_14 rfl).trans ?_
    refine (r_icmp_gt_f f263_15 em1).trans ?_
    refine (r_iconst (v := 1) f263_18 rfl).trans ?_
    refine (r_goto f263_19).trans ?_
    exact r_zreturn f263_23 rfl (by decide)
  refine (r_stat (as := [.int x1]) (v := (some (.int 1))) (h1 := h) f266_1 rfl zg263 rfl rfl rfl rfl rfl rfl hc1).trans ?_
  refine (r_if_eq_f f266_4 (by decide)).trans ?_
  refine (r_iloadn f266_7 rfl).trans ?_
  have hc3 : arun X (n + 18) (d + 2) zM198 0 [some (.int x2)] [] h = some ((some (.int 1)), h) := by
    refine (r_iloadn f198_0 rfl).trans ?_
    refine (r_iconst (v := 0) f198_1 rfl).trans ?_
    refine (r_bipush (v := 9) f198_2 rfl).trans ?_
    have hc4 : arun X (n + 14) (d + 1) zM196 0 [some (.int x2), some (.int 0), some (.int 9)] [] h = some ((some (.int 1)), h) := by
      refine (r_iloadn f196_0 rfl).trans ?_
      refine (r_iloadn f196_1 rfl).trans ?_
      refine (r_icmp_lt_f f196_2 em2).trans ?_
      refine (r_iloadn f196_5 rfl).trans ?_
      refine (r_iloadn f196_6 rfl).trans ?_
      refine (r_icmp_gt_f f196_7 em3).trans ?_
      refine (r_iconst (v := 1) f196_10 rfl).trans ?_
      refine (r_goto f196_11).trans ?_
      exact r_zreturn f196_15 rfl (by decide)
    refine (r_stat (as := [.int x2, .int 0, .int 9]) (v := (some (.int 1))) (h1 := h) f198_4 rfl zg196 rfl rfl rfl rfl rfl rfl hc4).trans ?_
    exact r_zreturn f198_7 rfl (by decide)
  refine (r_stat (as := [.int x2]) (v := (some (.int 1))) (h1 := h) f266_8 rfl zg198 rfl rfl rfl rfl rfl rfl hc3).trans ?_
  refine (r_if_eq_f f266_11 (by decide)).trans ?_
  refine (r_iloadn f266_14 rfl).trans ?_
  have hc5 : arun X (n + 15) (d + 2) zM197 0 [some (.int x3)] [] h = some ((some (.int 1)), h) := by
    refine (r_iloadn f197_0 rfl).trans ?_
    refine (r_iconst (v := 0) f197_1 rfl).trans ?_
    refine (r_sipush (v := 3649) f197_2 rfl).trans ?_
    have hc6 : arun X (n + 11) (d + 1) zM196 0 [some (.int x3), some (.int 0), some (.int 3649)] [] h = some ((some (.int 1)), h) := by
      refine (r_iloadn f196_0 rfl).trans ?_
      refine (r_iloadn f196_1 rfl).trans ?_
      refine (r_icmp_lt_f f196_2 em4).trans ?_
      refine (r_iloadn f196_5 rfl).trans ?_
      refine (r_iloadn f196_6 rfl).trans ?_
      refine (r_icmp_gt_f f196_7 em5).trans ?_
      refine (r_iconst (v := 1) f196_10 rfl).trans ?_
      refine (r_goto f196_11).trans ?_
      exact r_zreturn f196_15 rfl (by decide)
    refine (r_stat (as := [.int x3, .int 0, .int 3649]) (v := (some (.int 1))) (h1 := h) f197_5 rfl zg196 rfl rfl rfl rfl rfl rfl hc6).trans ?_
    exact r_zreturn f197_8 rfl (by decide)
  refine (r_stat (as := [.int x3]) (v := (some (.int 1))) (h1 := h) f266_15 rfl zg197 rfl rfl rfl rfl rfl rfl hc5).trans ?_
  refine (r_if_eq_f f266_18 (by decide)).trans ?_
  refine (r_aloadn f266_21 rfl).trans ?_
  refine (r_iloadn f266_22 rfl).trans ?_
  refine (r_iloadn f266_23 rfl).trans ?_
  refine (r_iloadn f266_24 rfl).trans ?_
  have hc7 : arun X (n + 9) (d + 2) zM265 0 [some (.ref 72), some (.int x1), some (.int x2), some (.int x3), none] [] h = some ((some (.int (-2))), h) := by
    refine (r_aloadn f265_0 rfl).trans ?_
    refine (r_get (v := .int 0) f265_1 g72 rfl).trans ?_
    refine (r_iconst (v := 1) f265_4 rfl).trans ?_
    refine (r_isub (v := (-1)) f265_5 (by decide)).trans ?_
    refine (r_istore (L' := [some (.ref 72), some (.int x1), some (.int x2), some (.int x3), some (.int (-1))]) f265_6 rfl rfl).trans ?_
    refine (r_iload f265_8 rfl).trans ?_
    refine (r_if_lt_t f265_10 (by decide)).trans ?_
    refine (r_bipush (v := (-2)) f265_55 rfl).trans ?_
    exact r_ireturn f265_57 rfl
  refine (r_virt (as := [.int x1, .int x2, .int x3]) (v := (some (.int (-2)))) (h1 := h) f266_25 g72 zg265 rfl rfl rfl rfl rfl rfl hc7).trans ?_
  refine (r_goto f266_28).trans ?_
  exact r_ireturn f266_32 rfl
set_option maxHeartbeats 40000000 in
theorem qc25_2 {X : aX} {n d : Nat} {h : aH} {x1 : Int32} {x2 : Int32} {x3 : Int32}  (ec0 : ¬ x1 < 0) (ec1 : ¬ (x1 / 10) < 0) (ec2 : 3 < (x1 / 10)) : arun X (n + 20) (d + 4) zM169 0 [some (.ref 0), some (.int x1), some (.int x2), some (.int x3), none] [] h = some (some (.int (-1)), h) := by
  refine (r_iloadn f169_0 rfl).trans ?_
  have hc1 : arun X (n + 18) (d + 3) zM143 0 [some (.int x1)] [] h = some ((some (.int 0)), h) := by
    refine (r_iloadn f143_0 rfl).trans ?_
    refine (r_if_lt_f f143_1 ec0).trans ?_
    refine (r_iloadn f143_4 rfl).trans ?_
    refine (r_bipush (v := 10) f143_5 rfl).trans ?_
    refine (r_idiv (v := (x1 / 10)) f143_7 (by decide) rfl).trans ?_
    have hc2 : arun X (n + 12) (d + 2) zM140 0 [some (.int (x1 / 10))] [] h = some ((some (.int 0)), h) := by
      refine (r_iloadn f140_0 rfl).trans ?_
      refine (r_iconst (v := 0) f140_1 rfl).trans ?_
      refine (r_iconst (v := 3) f140_2 rfl).trans ?_
      have hc3 : arun X (n + 8) (d + 1) zM137 0 [some (.int (x1 / 10)), some (.int 0), some (.int 3)] [] h = some ((some (.int 0)), h) := by
        refine (r_iloadn f137_0 rfl).trans ?_
        refine (r_iloadn f137_1 rfl).trans ?_
        refine (r_icmp_gt_f f137_2 ec1).trans ?_
        refine (r_iloadn f137_5 rfl).trans ?_
        refine (r_iloadn f137_6 rfl).trans ?_
        refine (r_icmp_gt_t f137_7 ec2).trans ?_
        refine (r_iconst (v := 0) f137_14 rfl).trans ?_
        exact r_zreturn f137_15 rfl (by decide)
      refine (r_stat (as := [.int (x1 / 10), .int 0, .int 3]) (v := (some (.int 0))) (h1 := h) f140_3 rfl zg137 rfl rfl rfl rfl rfl rfl hc3).trans ?_
      exact r_zreturn f140_6 rfl (by decide)
    refine (r_stat (as := [.int (x1 / 10)]) (v := (some (.int 0))) (h1 := h) f143_8 rfl zg140 rfl rfl rfl rfl rfl rfl hc2).trans ?_
    refine (r_if_eq_t f143_11 (by decide)).trans ?_
    refine (r_iconst (v := 0) f143_26 rfl).trans ?_
    exact r_zreturn f143_27 rfl (by decide)
  refine (r_stat (as := [.int x1]) (v := (some (.int 0))) (h1 := h) f169_1 rfl zg143 rfl rfl rfl rfl rfl rfl hc1).trans ?_
  refine (r_if_eq_t f169_4 (by decide)).trans ?_
  refine (r_iconst (v := (-1)) f169_21 rfl).trans ?_
  exact r_ireturn f169_22 rfl
set_option maxHeartbeats 40000000 in
theorem qm25_2_0 {X : aX} {n d : Nat} {h : aH} {x1 : Int32} {x2 : Int32} {x3 : Int32}  (ec0 : ¬ x1 < 0) (em0 : 33 < x1) : arun X (n + 14) (d + 3) zM266 0 [some (.ref 72), some (.int x1), some (.int x2), some (.int x3)] [] h = some (some (.int (-1)), h) := by
  refine (r_iloadn f266_0 rfl).trans ?_
  have hc1 : arun X (n + 12) (d + 2) zM263 0 [some (.int x1)] [] h = some ((some (.int 0)), h) := by
    refine (r_iloadn f263_0 rfl).trans ?_
    refine (r_iconst (v := 0) f263_1 rfl).trans ?_
    refine (r_bipush (v := 33) f263_2 rfl).trans ?_
    have hc2 : arun X (n + 8) (d + 1) zM196 0 [some (.int x1), some (.int 0), some (.int 33)] [] h = some ((some (.int 0)), h) := by
      refine (r_iloadn f196_0 rfl).trans ?_
      refine (r_iloadn f196_1 rfl).trans ?_
      refine (r_icmp_lt_f f196_2 ec0).trans ?_
      refine (r_iloadn f196_5 rfl).trans ?_
      refine (r_iloadn f196_6 rfl).trans ?_
      refine (r_icmp_gt_t f196_7 em0).trans ?_
      refine (r_iconst (v := 0) f196_14 rfl).trans ?_
      exact r_zreturn f196_15 rfl (by decide)
    refine (r_stat (as := [.int x1, .int 0, .int 33]) (v := (some (.int 0))) (h1 := h) f263_4 rfl zg196 rfl rfl rfl rfl rfl rfl hc2).trans ?_
    refine (r_if_eq_t f263_7 (by decide)).trans ?_
    refine (r_iconst (v := 0) f263_22 rfl).trans ?_
    exact r_zreturn f263_23 rfl (by decide)
  refine (r_stat (as := [.int x1]) (v := (some (.int 0))) (h1 := h) f266_1 rfl zg263 rfl rfl rfl rfl rfl rfl hc1).trans ?_
  refine (r_if_eq_t f266_4 (by decide)).trans ?_
  refine (r_iconst (v := (-1)) f266_31 rfl).trans ?_
  exact r_ireturn f266_32 rfl
set_option maxHeartbeats 40000000 in
theorem qm25_2_1 {X : aX} {n d : Nat} {h : aH} {x1 : Int32} {x2 : Int32} {x3 : Int32}  (ec0 : ¬ x1 < 0) (em0 : ¬ 33 < x1) (em1 : 3 < (x1 - x1 / 10 * 10)) : arun X (n + 15) (d + 3) zM266 0 [some (.ref 72), some (.int x1), some (.int x2), some (.int x3)] [] h = some (some (.int (-1)), h) := by
  refine (r_iloadn f266_0 rfl).trans ?_
  have hc1 : arun X (n + 13) (d + 2) zM263 0 [some (.int x1)] [] h = some ((some (.int 0)), h) := by
    refine (r_iloadn f263_0 rfl).trans ?_
    refine (r_iconst (v := 0) f263_1 rfl).trans ?_
    refine (r_bipush (v := 33) f263_2 rfl).trans ?_
    have hc2 : arun X (n + 9) (d + 1) zM196 0 [some (.int x1), some (.int 0), some (.int 33)] [] h = some ((some (.int 1)), h) := by
      refine (r_iloadn f196_0 rfl).trans ?_
      refine (r_iloadn f196_1 rfl).trans ?_
      refine (r_icmp_lt_f f196_2 ec0).trans ?_
      refine (r_iloadn f196_5 rfl).trans ?_
      refine (r_iloadn f196_6 rfl).trans ?_
      refine (r_icmp_gt_f f196_7 em0).trans ?_
      refine (r_iconst (v := 1) f196_10 rfl).trans ?_
      refine (r_goto f196_11).trans ?_
      exact r_zreturn f196_15 rfl (by decide)
    refine (r_stat (as := [.int x1, .int 0, .int 33]) (v := (some (.int 1))) (h1 := h) f263_4 rfl zg196 rfl rfl rfl rfl rfl rfl hc2).trans ?_
    refine (r_if_eq_f f263_7 (by decide)).trans ?_
    refine (r_iloadn f263_10 rfl).trans ?_
    refine (r_bipush (v := 10) f263_11 rfl).trans ?_
    refine (r_irem (v := (x1 - x1 / 10 * 10)) f263_13 (by decide) rfl).trans ?_
    refine (r_iconst (v := 3) f263_14 rfl).trans ?_
    refine (r_icmp_gt_t f263_15 em1).trans ?_
    refine (r_iconst (v := 0) f263_22 rfl).trans ?_
    exact r_zreturn f263_23 rfl (by decide)
  refine (r_stat (as := [.int x1]) (v := (some (.int 0))) (h1 := h) f266_1 rfl zg263 rfl rfl rfl rfl rfl rfl hc1).trans ?_
  refine (r_if_eq_t f266_4 (by decide)).trans ?_
  refine (r_iconst (v := (-1)) f266_31 rfl).trans ?_
  exact r_ireturn f266_32 rfl
set_option maxHeartbeats 40000000 in
theorem qm25_2_2 {X : aX} {n d : Nat} {h : aH} {x1 : Int32} {x2 : Int32} {x3 : Int32}  (ec0 : ¬ x1 < 0) (em0 : ¬ 33 < x1) (em1 : ¬ 3 < (x1 - x1 / 10 * 10)) (em2 : x2 < 0) : arun X (n + 15) (d + 3) zM266 0 [some (.ref 72), some (.int x1), some (.int x2), some (.int x3)] [] h = some (some (.int (-1)), h) := by
  refine (r_iloadn f266_0 rfl).trans ?_
  have hc1 : arun X (n + 13) (d + 2) zM263 0 [some (.int x1)] [] h = some ((some (.int 1)), h) := by
    refine (r_iloadn f263_0 rfl).trans ?_
    refine (r_iconst (v := 0) f263_1 rfl).trans ?_
    refine (r_bipush (v := 33) f263_2 rfl).trans ?_
    have hc2 : arun X (n + 9) (d + 1) zM196 0 [some (.int x1), some (.int 0), some (.int 33)] [] h = some ((some (.int 1)), h) := by
      refine (r_iloadn f196_0 rfl).trans ?_
      refine (r_iloadn f196_1 rfl).trans ?_
      refine (r_icmp_lt_f f196_2 ec0).trans ?_
      refine (r_iloadn f196_5 rfl).trans ?_
      refine (r_iloadn f196_6 rfl).trans ?_
      refine (r_icmp_gt_f f196_7 em0).trans ?_
      refine (r_iconst (v := 1) f196_10 rfl).trans ?_
      refine (r_goto f196_11).trans ?_
      exact r_zreturn f196_15 rfl (by decide)
    refine (r_stat (as := [.int x1, .int 0, .int 33]) (v := (some (.int 1))) (h1 := h) f263_4 rfl zg196 rfl rfl rfl rfl rfl rfl hc2).trans ?_
    refine (r_if_eq_f f263_7 (by decide)).trans ?_
    refine (r_iloadn f263_10 rfl).trans ?_
    refine (r_bipush (v := 10) f263_11 rfl).trans ?_
    refine (r_irem (v := (x1 - x1 / 10 * 10)) f263_13 (by decide) rfl).trans ?_
    refine (r_iconst (v := 3) f263_14 rfl).trans ?_
    refine (r_icmp_gt_f f263_15 em1).trans ?_
    refine (r_iconst (v := 1) f263_18 rfl).trans ?_
    refine (r_goto f263_19).trans ?_
    exact r_zreturn f263_23 rfl (by decide)
  refine (r_stat (as := [.int x1]) (v := (some (.int 1))) (h1 := h) f266_1 rfl zg263 rfl rfl rfl rfl rfl rfl hc1).trans ?_
  refine (r_if_eq_f f266_4 (by decide)).trans ?_
  refine (r_iloadn f266_7 rfl).trans ?_
  have hc3 : arun X (n + 10) (d + 2) zM198 0 [some (.int x2)] [] h = some ((some (.int 0)), h) := by
    refine (r_iloadn f198_0 rfl).trans ?_
    refine (r_iconst (v := 0) f198_1 rfl).trans ?_
    refine (r_bipush (v := 9) f198_2 rfl).trans ?_
    have hc4 : arun X (n + 6) (d + 1) zM196 0 [some (.int x2), some (.int 0), some (.int 9)] [] h = some ((some (.int 0)), h) := by
      refine (r_iloadn f196_0 rfl).trans ?_
      refine (r_iloadn f196_1 rfl).trans ?_
      refine (r_icmp_lt_t f196_2 em2).trans ?_
      refine (r_iconst (v := 0) f196_14 rfl).trans ?_
      exact r_zreturn f196_15 rfl (by decide)
    refine (r_stat (as := [.int x2, .int 0, .int 9]) (v := (some (.int 0))) (h1 := h) f198_4 rfl zg196 rfl rfl rfl rfl rfl rfl hc4).trans ?_
    exact r_zreturn f198_7 rfl (by decide)
  refine (r_stat (as := [.int x2]) (v := (some (.int 0))) (h1 := h) f266_8 rfl zg198 rfl rfl rfl rfl rfl rfl hc3).trans ?_
  refine (r_if_eq_t f266_11 (by decide)).trans ?_
  refine (r_iconst (v := (-1)) f266_31 rfl).trans ?_
  exact r_ireturn f266_32 rfl
set_option maxHeartbeats 40000000 in
theorem qm25_2_3 {X : aX} {n d : Nat} {h : aH} {x1 : Int32} {x2 : Int32} {x3 : Int32}  (ec0 : ¬ x1 < 0) (em0 : ¬ 33 < x1) (em1 : ¬ 3 < (x1 - x1 / 10 * 10)) (em2 : ¬ x2 < 0) (em3 : 9 < x2) : arun X (n + 17) (d + 3) zM266 0 [some (.ref 72), some (.int x1), some (.int x2), some (.int x3)] [] h = some (some (.int (-1)), h) := by
  refine (r_iloadn f266_0 rfl).trans ?_
  have hc1 : arun X (n + 15) (d + 2) zM263 0 [some (.int x1)] [] h = some ((some (.int 1)), h) := by
    refine (r_iloadn f263_0 rfl).trans ?_
    refine (r_iconst (v := 0) f263_1 rfl).trans ?_
    refine (r_bipush (v := 33) f263_2 rfl).trans ?_
    have hc2 : arun X (n + 11) (d + 1) zM196 0 [some (.int x1), some (.int 0), some (.int 33)] [] h = some ((some (.int 1)), h) := by
      refine (r_iloadn f196_0 rfl).trans ?_
      refine (r_iloadn f196_1 rfl).trans ?_
      refine (r_icmp_lt_f f196_2 ec0).trans ?_
      refine (r_iloadn f196_5 rfl).trans ?_
      refine (r_iloadn f196_6 rfl).trans ?_
      refine (r_icmp_gt_f f196_7 em0).trans ?_
      refine (r_iconst (v := 1) f196_10 rfl).trans ?_
      refine (r_goto f196_11).trans ?_
      exact r_zreturn f196_15 rfl (by decide)
    refine (r_stat (as := [.int x1, .int 0, .int 33]) (v := (some (.int 1))) (h1 := h) f263_4 rfl zg196 rfl rfl rfl rfl rfl rfl hc2).trans ?_
    refine (r_if_eq_f f263_7 (by decide)).trans ?_
    refine (r_iloadn f263_10 rfl).trans ?_
    refine (r_bipush (v := 10) f263_11 rfl).trans ?_
    refine (r_irem (v := (x1 - x1 / 10 * 10)) f263_13 (by decide) rfl).trans ?_
    refine (r_iconst (v := 3) f263_14 rfl).trans ?_
    refine (r_icmp_gt_f f263_15 em1).trans ?_
    refine (r_iconst (v := 1) f263_18 rfl).trans ?_
    refine (r_goto f263_19).trans ?_
    exact r_zreturn f263_23 rfl (by decide)
  refine (r_stat (as := [.int x1]) (v := (some (.int 1))) (h1 := h) f266_1 rfl zg263 rfl rfl rfl rfl rfl rfl hc1).trans ?_
  refine (r_if_eq_f f266_4 (by decide)).trans ?_
  refine (r_iloadn f266_7 rfl).trans ?_
  have hc3 : arun X (n + 12) (d + 2) zM198 0 [some (.int x2)] [] h = some ((some (.int 0)), h) := by
    refine (r_iloadn f198_0 rfl).trans ?_
    refine (r_iconst (v := 0) f198_1 rfl).trans ?_
    refine (r_bipush (v := 9) f198_2 rfl).trans ?_
    have hc4 : arun X (n + 8) (d + 1) zM196 0 [some (.int x2), some (.int 0), some (.int 9)] [] h = some ((some (.int 0)), h) := by
      refine (r_iloadn f196_0 rfl).trans ?_
      refine (r_iloadn f196_1 rfl).trans ?_
      refine (r_icmp_lt_f f196_2 em2).trans ?_
      refine (r_iloadn f196_5 rfl).trans ?_
      refine (r_iloadn f196_6 rfl).trans ?_
      refine (r_icmp_gt_t f196_7 em3).trans ?_
      refine (r_iconst (v := 0) f196_14 rfl).trans ?_
      exact r_zreturn f196_15 rfl (by decide)
    refine (r_stat (as := [.int x2, .int 0, .int 9]) (v := (some (.int 0))) (h1 := h) f198_4 rfl zg196 rfl rfl rfl rfl rfl rfl hc4).trans ?_
    exact r_zreturn f198_7 rfl (by decide)
  refine (r_stat (as := [.int x2]) (v := (some (.int 0))) (h1 := h) f266_8 rfl zg198 rfl rfl rfl rfl rfl rfl hc3).trans ?_
  refine (r_if_eq_t f266_11 (by decide)).trans ?_
  refine (r_iconst (v := (-1)) f266_31 rfl).trans ?_
  exact r_ireturn f266_32 rfl
set_option maxHeartbeats 40000000 in
theorem qm25_2_4 {X : aX} {n d : Nat} {h : aH} {x1 : Int32} {x2 : Int32} {x3 : Int32}  (ec0 : ¬ x1 < 0) (em0 : ¬ 33 < x1) (em1 : ¬ 3 < (x1 - x1 / 10 * 10)) (em2 : ¬ x2 < 0) (em3 : ¬ 9 < x2) (em4 : x3 < 0) : arun X (n + 18) (d + 3) zM266 0 [some (.ref 72), some (.int x1), some (.int x2), some (.int x3)] [] h = some (some (.int (-1)), h) := by
  refine (r_iloadn f266_0 rfl).trans ?_
  have hc1 : arun X (n + 16) (d + 2) zM263 0 [some (.int x1)] [] h = some ((some (.int 1)), h) := by
    refine (r_iloadn f263_0 rfl).trans ?_
    refine (r_iconst (v := 0) f263_1 rfl).trans ?_
    refine (r_bipush (v := 33) f263_2 rfl).trans ?_
    have hc2 : arun X (n + 12) (d + 1) zM196 0 [some (.int x1), some (.int 0), some (.int 33)] [] h = some ((some (.int 1)), h) := by
      refine (r_iloadn f196_0 rfl).trans ?_
      refine (r_iloadn f196_1 rfl).trans ?_
      refine (r_icmp_lt_f f196_2 ec0).trans ?_
      refine (r_iloadn f196_5 rfl).trans ?_
      refine (r_iloadn f196_6 rfl).trans ?_
      refine (r_icmp_gt_f f196_7 em0).trans ?_
      refine (r_iconst (v := 1) f196_10 rfl).trans ?_
      refine (r_goto f196_11).trans ?_
      exact r_zreturn f196_15 rfl (by decide)
    refine (r_stat (as := [.int x1, .int 0, .int 33]) (v := (some (.int 1))) (h1 := h) f263_4 rfl zg196 rfl rfl rfl rfl rfl rfl hc2).trans ?_
    refine (r_if_eq_f f263_7 (by decide)).trans ?_
    refine (r_iloadn f263_10 rfl).trans ?_
    refine (r_bipush (v := 10) f263_11 rfl).trans ?_
    refine (r_irem (v := (x1 - x1 / 10 * 10)) f263_13 (by decide) rfl).trans ?_
    refine (r_iconst (v := 3) f263_14 rfl).trans ?_
    refine (r_icmp_gt_f f263_15 em1).trans ?_
    refine (r_iconst (v := 1) f263_18 rfl).trans ?_
    refine (r_goto f263_19).trans ?_
    exact r_zreturn f263_23 rfl (by decide)
  refine (r_stat (as := [.int x1]) (v := (some (.int 1))) (h1 := h) f266_1 rfl zg263 rfl rfl rfl rfl rfl rfl hc1).trans ?_
  refine (r_if_eq_f f266_4 (by decide)).trans ?_
  refine (r_iloadn f266_7 rfl).trans ?_
  have hc3 : arun X (n + 13) (d + 2) zM198 0 [some (.int x2)] [] h = some ((some (.int 1)), h) := by
    refine (r_iloadn f198_0 rfl).trans ?_
    refine (r_iconst (v := 0) f198_1 rfl).trans ?_
    refine (r_bipush (v := 9) f198_2 rfl).trans ?_
    have hc4 : arun X (n + 9) (d + 1) zM196 0 [some (.int x2), some (.int 0), some (.int 9)] [] h = some ((some (.int 1)), h) := by
      refine (r_iloadn f196_0 rfl).trans ?_
      refine (r_iloadn f196_1 rfl).trans ?_
      refine (r_icmp_lt_f f196_2 em2).trans ?_
      refine (r_iloadn f196_5 rfl).trans ?_
      refine (r_iloadn f196_6 rfl).trans ?_
      refine (r_icmp_gt_f f196_7 em3).trans ?_
      refine (r_iconst (v := 1) f196_10 rfl).trans ?_
      refine (r_goto f196_11).trans ?_
      exact r_zreturn f196_15 rfl (by decide)
    refine (r_stat (as := [.int x2, .int 0, .int 9]) (v := (some (.int 1))) (h1 := h) f198_4 rfl zg196 rfl rfl rfl rfl rfl rfl hc4).trans ?_
    exact r_zreturn f198_7 rfl (by decide)
  refine (r_stat (as := [.int x2]) (v := (some (.int 1))) (h1 := h) f266_8 rfl zg198 rfl rfl rfl rfl rfl rfl hc3).trans ?_
  refine (r_if_eq_f f266_11 (by decide)).trans ?_
  refine (r_iloadn f266_14 rfl).trans ?_
  have hc5 : arun X (n + 10) (d + 2) zM197 0 [some (.int x3)] [] h = some ((some (.int 0)), h) := by
    refine (r_iloadn f197_0 rfl).trans ?_
    refine (r_iconst (v := 0) f197_1 rfl).trans ?_
    refine (r_sipush (v := 3649) f197_2 rfl).trans ?_
    have hc6 : arun X (n + 6) (d + 1) zM196 0 [some (.int x3), some (.int 0), some (.int 3649)] [] h = some ((some (.int 0)), h) := by
      refine (r_iloadn f196_0 rfl).trans ?_
      refine (r_iloadn f196_1 rfl).trans ?_
      refine (r_icmp_lt_t f196_2 em4).trans ?_
      refine (r_iconst (v := 0) f196_14 rfl).trans ?_
      exact r_zreturn f196_15 rfl (by decide)
    refine (r_stat (as := [.int x3, .int 0, .int 3649]) (v := (some (.int 0))) (h1 := h) f197_5 rfl zg196 rfl rfl rfl rfl rfl rfl hc6).trans ?_
    exact r_zreturn f197_8 rfl (by decide)
  refine (r_stat (as := [.int x3]) (v := (some (.int 0))) (h1 := h) f266_15 rfl zg197 rfl rfl rfl rfl rfl rfl hc5).trans ?_
  refine (r_if_eq_t f266_18 (by decide)).trans ?_
  refine (r_iconst (v := (-1)) f266_31 rfl).trans ?_
  exact r_ireturn f266_32 rfl
set_option maxHeartbeats 40000000 in
theorem qm25_2_5 {X : aX} {n d : Nat} {h : aH} {x1 : Int32} {x2 : Int32} {x3 : Int32}  (ec0 : ¬ x1 < 0) (em0 : ¬ 33 < x1) (em1 : ¬ 3 < (x1 - x1 / 10 * 10)) (em2 : ¬ x2 < 0) (em3 : ¬ 9 < x2) (em4 : ¬ x3 < 0) (em5 : 3649 < x3) : arun X (n + 20) (d + 3) zM266 0 [some (.ref 72), some (.int x1), some (.int x2), some (.int x3)] [] h = some (some (.int (-1)), h) := by
  refine (r_iloadn f266_0 rfl).trans ?_
  have hc1 : arun X (n + 18) (d + 2) zM263 0 [some (.int x1)] [] h = some ((some (.int 1)), h) := by
    refine (r_iloadn f263_0 rfl).trans ?_
    refine (r_iconst (v := 0) f263_1 rfl).trans ?_
    refine (r_bipush (v := 33) f263_2 rfl).trans ?_
    have hc2 : arun X (n + 14) (d + 1) zM196 0 [some (.int x1), some (.int 0), some (.int 33)] [] h = some ((some (.int 1)), h) := by
      refine (r_iloadn f196_0 rfl).trans ?_
      refine (r_iloadn f196_1 rfl).trans ?_
      refine (r_icmp_lt_f f196_2 ec0).trans ?_
      refine (r_iloadn f196_5 rfl).trans ?_
      refine (r_iloadn f196_6 rfl).trans ?_
      refine (r_icmp_gt_f f196_7 em0).trans ?_
      refine (r_iconst (v := 1) f196_10 rfl).trans ?_
      refine (r_goto f196_11).trans ?_
      exact r_zreturn f196_15 rfl (by decide)
    refine (r_stat (as := [.int x1, .int 0, .int 33]) (v := (some (.int 1))) (h1 := h) f263_4 rfl zg196 rfl rfl rfl rfl rfl rfl hc2).trans ?_
    refine (r_if_eq_f f263_7 (by decide)).trans ?_
    refine (r_iloadn f263_10 rfl).trans ?_
    refine (r_bipush (v := 10) f263_11 rfl).trans ?_
    refine (r_irem (v := (x1 - x1 / 10 * 10)) f263_13 (by decide) rfl).trans ?_
    refine (r_iconst (v := 3) f263_14 rfl).trans ?_
    refine (r_icmp_gt_f f263_15 em1).trans ?_
    refine (r_iconst (v := 1) f263_18 rfl).trans ?_
    refine (r_goto f263_19).trans ?_
    exact r_zreturn f263_23 rfl (by decide)
  refine (r_stat (as := [.int x1]) (v := (some (.int 1))) (h1 := h) f266_1 rfl zg263 rfl rfl rfl rfl rfl rfl hc1).trans ?_
  refine (r_if_eq_f f266_4 (by decide)).trans ?_
  refine (r_iloadn f266_7 rfl).trans ?_
  have hc3 : arun X (n + 15) (d + 2) zM198 0 [some (.int x2)] [] h = some ((some (.int 1)), h) := by
    refine (r_iloadn f198_0 rfl).trans ?_
    refine (r_iconst (v := 0) f198_1 rfl).trans ?_
    refine (r_bipush (v := 9) f198_2 rfl).trans ?_
    have hc4 : arun X (n + 11) (d + 1) zM196 0 [some (.int x2), some (.int 0), some (.int 9)] [] h = some ((some (.int 1)), h) := by
      refine (r_iloadn f196_0 rfl).trans ?_
      refine (r_iloadn f196_1 rfl).trans ?_
      refine (r_icmp_lt_f f196_2 em2).trans ?_
      refine (r_iloadn f196_5 rfl).trans ?_
      refine (r_iloadn f196_6 rfl).trans ?_
      refine (r_icmp_gt_f f196_7 em3).trans ?_
      refine (r_iconst (v := 1) f196_10 rfl).trans ?_
      refine (r_goto f196_11).trans ?_
      exact r_zreturn f196_15 rfl (by decide)
    refine (r_stat (as := [.int x2, .int 0, .int 9]) (v := (some (.int 1))) (h1 := h) f198_4 rfl zg196 rfl rfl rfl rfl rfl rfl hc4).trans ?_
    exact r_zreturn f198_7 rfl (by decide)
  refine (r_stat (as := [.int x2]) (v := (some (.int 1))) (h1 := h) f266_8 rfl zg198 rfl rfl rfl rfl rfl rfl hc3).trans ?_
  refine (r_if_eq_f f266_11 (by decide)).trans ?_
  refine (r_iloadn f266_14 rfl).trans ?_
  have hc5 : arun X (n + 12) (d + 2) zM197 0 [some (.int x3)] [] h = some ((some (.int 0)), h) := by
    refine (r_iloadn f197_0 rfl).trans ?_
    refine (r_iconst (v := 0) f197_1 rfl).trans ?_
    refine (r_sipush (v := 3649) f197_2 rfl).trans ?_
    have hc6 : arun X (n + 8) (d + 1) zM196 0 [some (.int x3), some (.int 0), some (.int 3649)] [] h = some ((some (.int 0)), h) := by
      refine (r_iloadn f196_0 rfl).trans ?_
      refine (r_iloadn f196_1 rfl).trans ?_
      refine (r_icmp_lt_f f196_2 em4).trans ?_
      refine (r_iloadn f196_5 rfl).trans ?_
      refine (r_iloadn f196_6 rfl).trans ?_
      refine (r_icmp_gt_t f196_7 em5).trans ?_
      refine (r_iconst (v := 0) f196_14 rfl).trans ?_
      exact r_zreturn f196_15 rfl (by decide)
    refine (r_stat (as := [.int x3, .int 0, .int 3649]) (v := (some (.int 0))) (h1 := h) f197_5 rfl zg196 rfl rfl rfl rfl rfl rfl hc6).trans ?_
    exact r_zreturn f197_8 rfl (by decide)
  refine (r_stat (as := [.int x3]) (v := (some (.int 0))) (h1 := h) f266_15 rfl zg197 rfl rfl rfl rfl rfl rfl hc5).trans ?_
  refine (r_if_eq_t f266_18 (by decide)).trans ?_
  refine (r_iconst (v := (-1)) f266_31 rfl).trans ?_
  exact r_ireturn f266_32 rfl
set_option maxHeartbeats 40000000 in
theorem qm25_2_6 {X : aX} {n d : Nat} {h : aH} {x1 : Int32} {x2 : Int32} {x3 : Int32}  (g72 : h.1[72]? = some (.inr (12, zF72))) (ec0 : ¬ x1 < 0) (em0 : ¬ 33 < x1) (em1 : ¬ 3 < (x1 - x1 / 10 * 10)) (em2 : ¬ x2 < 0) (em3 : ¬ 9 < x2) (em4 : ¬ x3 < 0) (em5 : ¬ 3649 < x3) : arun X (n + 23) (d + 3) zM266 0 [some (.ref 72), some (.int x1), some (.int x2), some (.int x3)] [] h = some (some (.int (-2)), h) := by
  refine (r_iloadn f266_0 rfl).trans ?_
  have hc1 : arun X (n + 21) (d + 2) zM263 0 [some (.int x1)] [] h = some ((some (.int 1)), h) := by
    refine (r_iloadn f263_0 rfl).trans ?_
    refine (r_iconst (v := 0) f263_1 rfl).trans ?_
    refine (r_bipush (v := 33) f263_2 rfl).trans ?_
    have hc2 : arun X (n + 17) (d + 1) zM196 0 [some (.int x1), some (.int 0), some (.int 33)] [] h = some ((some (.int 1)), h) := by
      refine (r_iloadn f196_0 rfl).trans ?_
      refine (r_iloadn f196_1 rfl).trans ?_
      refine (r_icmp_lt_f f196_2 ec0).trans ?_
      refine (r_iloadn f196_5 rfl).trans ?_
      refine (r_iloadn f196_6 rfl).trans ?_
      refine (r_icmp_gt_f f196_7 em0).trans ?_
      refine (r_iconst (v := 1) f196_10 rfl).trans ?_
      refine (r_goto f196_11).trans ?_
      exact r_zreturn f196_15 rfl (by decide)
    refine (r_stat (as := [.int x1, .int 0, .int 33]) (v := (some (.int 1))) (h1 := h) f263_4 rfl zg196 rfl rfl rfl rfl rfl rfl hc2).trans ?_
    refine (r_if_eq_f f263_7 (by decide)).trans ?_
    refine (r_iloadn f263_10 rfl).trans ?_
    refine (r_bipush (v := 10) f263_11 rfl).trans ?_
    refine (r_irem (v := (x1 - x1 / 10 * 10)) f263_13 (by decide) rfl).trans ?_
    refine (r_iconst (v := 3) f263_14 rfl).trans ?_
    refine (r_icmp_gt_f f263_15 em1).trans ?_
    refine (r_iconst (v := 1) f263_18 rfl).trans ?_
    refine (r_goto f263_19).trans ?_
    exact r_zreturn f263_23 rfl (by decide)
  refine (r_stat (as := [.int x1]) (v := (some (.int 1))) (h1 := h) f266_1 rfl zg263 rfl rfl rfl rfl rfl rfl hc1).trans ?_
  refine (r_if_eq_f f266_4 (by decide)).trans ?_
  refine (r_iloadn f266_7 rfl).trans ?_
  have hc3 : arun X (n + 18) (d + 2) zM198 0 [some (.int x2)] [] h = some ((some (.int 1)), h) := by
    refine (r_iloadn f198_0 rfl).trans ?_
    refine (r_iconst (v := 0) f198_1 rfl).trans ?_
    refine (r_bipush (v := 9) f198_2 rfl).trans ?_
    have hc4 : arun X (n + 14) (d + 1) zM196 0 [some (.int x2), some (.int 0), some (.int 9)] [] h = some ((some (.int 1)), h) := by
      refine (r_iloadn f196_0 rfl).trans ?_
      refine (r_iloadn f196_1 rfl).trans ?_
      refine (r_icmp_lt_f f196_2 em2).trans ?_
      refine (r_iloadn f196_5 rfl).trans ?_
      refine (r_iloadn f196_6 rfl).trans ?_
      refine (r_icmp_gt_f f196_7 em3).trans ?_
      refine (r_iconst (v := 1) f196_10 rfl).trans ?_
      refine (r_goto f196_11).trans ?_
      exact r_zreturn f196_15 rfl (by decide)
    refine (r_stat (as := [.int x2, .int 0, .int 9]) (v := (some (.int 1))) (h1 := h) f198_4 rfl zg196 rfl rfl rfl rfl rfl rfl hc4).trans ?_
    exact r_zreturn f198_7 rfl (by decide)
  refine (r_stat (as := [.int x2]) (v := (some (.int 1))) (h1 := h) f266_8 rfl zg198 rfl rfl rfl rfl rfl rfl hc3).trans ?_
  refine (r_if_eq_f f266_11 (by decide)).trans ?_
  refine (r_iloadn f266_14 rfl).trans ?_
  have hc5 : arun X (n + 15) (d + 2) zM197 0 [some (.int x3)] [] h = some ((some (.int 1)), h) := by
    refine (r_iloadn f197_0 rfl).trans ?_
    refine (r_iconst (v := 0) f197_1 rfl).trans ?_
    refine (r_sipush (v := 3649) f197_2 rfl).trans ?_
    have hc6 : arun X (n + 11) (d + 1) zM196 0 [some (.int x3), some (.int 0), some (.int 3649)] [] h = some ((some (.int 1)), h) := by
      refine (r_iloadn f196_0 rfl).trans ?_
      refine (r_iloadn f196_1 rfl).trans ?_
      refine (r_icmp_lt_f f196_2 em4).trans ?_
      refine (r_iloadn f196_5 rfl).trans ?_
      refine (r_iloadn f196_6 rfl).trans ?_
      refine (r_icmp_gt_f f196_7 em5).trans ?_
      refine (r_iconst (v := 1) f196_10 rfl).trans ?_
      refine (r_goto f196_11).trans ?_
      exact r_zreturn f196_15 rfl (by decide)
    refine (r_stat (as := [.int x3, .int 0, .int 3649]) (v := (some (.int 1))) (h1 := h) f197_5 rfl zg196 rfl rfl rfl rfl rfl rfl hc6).trans ?_
    exact r_zreturn f197_8 rfl (by decide)
  refine (r_stat (as := [.int x3]) (v := (some (.int 1))) (h1 := h) f266_15 rfl zg197 rfl rfl rfl rfl rfl rfl hc5).trans ?_
  refine (r_if_eq_f f266_18 (by decide)).trans ?_
  refine (r_aloadn f266_21 rfl).trans ?_
  refine (r_iloadn f266_22 rfl).trans ?_
  refine (r_iloadn f266_23 rfl).trans ?_
  refine (r_iloadn f266_24 rfl).trans ?_
  have hc7 : arun X (n + 9) (d + 2) zM265 0 [some (.ref 72), some (.int x1), some (.int x2), some (.int x3), none] [] h = some ((some (.int (-2))), h) := by
    refine (r_aloadn f265_0 rfl).trans ?_
    refine (r_get (v := .int 0) f265_1 g72 rfl).trans ?_
    refine (r_iconst (v := 1) f265_4 rfl).trans ?_
    refine (r_isub (v := (-1)) f265_5 (by decide)).trans ?_
    refine (r_istore (L' := [some (.ref 72), some (.int x1), some (.int x2), some (.int x3), some (.int (-1))]) f265_6 rfl rfl).trans ?_
    refine (r_iload f265_8 rfl).trans ?_
    refine (r_if_lt_t f265_10 (by decide)).trans ?_
    refine (r_bipush (v := (-2)) f265_55 rfl).trans ?_
    exact r_ireturn f265_57 rfl
  refine (r_virt (as := [.int x1, .int x2, .int x3]) (v := (some (.int (-2)))) (h1 := h) f266_25 g72 zg265 rfl rfl rfl rfl rfl rfl hc7).trans ?_
  refine (r_goto f266_28).trans ?_
  exact r_ireturn f266_32 rfl
set_option maxHeartbeats 40000000 in
theorem qc25_3 {X : aX} {n d : Nat} {h : aH} {x1 : Int32} {x2 : Int32} {x3 : Int32}  (ec0 : ¬ x1 < 0) (ec1 : ¬ (x1 / 10) < 0) (ec2 : ¬ 3 < (x1 / 10)) (ec3 : 4 ≤ (x1 - x1 / 10 * 10)) : arun X (n + 21) (d + 4) zM169 0 [some (.ref 0), some (.int x1), some (.int x2), some (.int x3), none] [] h = some (some (.int (-1)), h) := by
  refine (r_iloadn f169_0 rfl).trans ?_
  have hc1 : arun X (n + 19) (d + 3) zM143 0 [some (.int x1)] [] h = some ((some (.int 0)), h) := by
    refine (r_iloadn f143_0 rfl).trans ?_
    refine (r_if_lt_f f143_1 ec0).trans ?_
    refine (r_iloadn f143_4 rfl).trans ?_
    refine (r_bipush (v := 10) f143_5 rfl).trans ?_
    refine (r_idiv (v := (x1 / 10)) f143_7 (by decide) rfl).trans ?_
    have hc2 : arun X (n + 13) (d + 2) zM140 0 [some (.int (x1 / 10))] [] h = some ((some (.int 1)), h) := by
      refine (r_iloadn f140_0 rfl).trans ?_
      refine (r_iconst (v := 0) f140_1 rfl).trans ?_
      refine (r_iconst (v := 3) f140_2 rfl).trans ?_
      have hc3 : arun X (n + 9) (d + 1) zM137 0 [some (.int (x1 / 10)), some (.int 0), some (.int 3)] [] h = some ((some (.int 1)), h) := by
        refine (r_iloadn f137_0 rfl).trans ?_
        refine (r_iloadn f137_1 rfl).trans ?_
        refine (r_icmp_gt_f f137_2 ec1).trans ?_
        refine (r_iloadn f137_5 rfl).trans ?_
        refine (r_iloadn f137_6 rfl).trans ?_
        refine (r_icmp_gt_f f137_7 ec2).trans ?_
        refine (r_iconst (v := 1) f137_10 rfl).trans ?_
        refine (r_goto f137_11).trans ?_
        exact r_zreturn f137_15 rfl (by decide)
      refine (r_stat (as := [.int (x1 / 10), .int 0, .int 3]) (v := (some (.int 1))) (h1 := h) f140_3 rfl zg137 rfl rfl rfl rfl rfl rfl hc3).trans ?_
      exact r_zreturn f140_6 rfl (by decide)
    refine (r_stat (as := [.int (x1 / 10)]) (v := (some (.int 1))) (h1 := h) f143_8 rfl zg140 rfl rfl rfl rfl rfl rfl hc2).trans ?_
    refine (r_if_eq_f f143_11 (by decide)).trans ?_
    refine (r_iloadn f143_14 rfl).trans ?_
    refine (r_bipush (v := 10) f143_15 rfl).trans ?_
    refine (r_irem (v := (x1 - x1 / 10 * 10)) f143_17 (by decide) rfl).trans ?_
    refine (r_iconst (v := 4) f143_18 rfl).trans ?_
    refine (r_icmp_ge_t f143_19 ec3).trans ?_
    refine (r_iconst (v := 0) f143_26 rfl).trans ?_
    exact r_zreturn f143_27 rfl (by decide)
  refine (r_stat (as := [.int x1]) (v := (some (.int 0))) (h1 := h) f169_1 rfl zg143 rfl rfl rfl rfl rfl rfl hc1).trans ?_
  refine (r_if_eq_t f169_4 (by decide)).trans ?_
  refine (r_iconst (v := (-1)) f169_21 rfl).trans ?_
  exact r_ireturn f169_22 rfl

-- ===== paths on a fresh object (by program) =====
set_option maxHeartbeats 40000000 in
theorem qm25_3_0 {X : aX} {n d : Nat} {h : aH} {x1 : Int32} {x2 : Int32} {x3 : Int32}  (ec0 : ¬ x1 < 0) (em0 : 33 < x1) : arun X (n + 14) (d + 3) zM266 0 [some (.ref 72), some (.int x1), some (.int x2), some (.int x3)] [] h = some (some (.int (-1)), h) := by
  refine (r_iloadn f266_0 rfl).trans ?_
  have hc1 : arun X (n + 12) (d + 2) zM263 0 [some (.int x1)] [] h = some ((some (.int 0)), h) := by
    refine (r_iloadn f263_0 rfl).trans ?_
    refine (r_iconst (v := 0) f263_1 rfl).trans ?_
    refine (r_bipush (v := 33) f263_2 rfl).trans ?_
    have hc2 : arun X (n + 8) (d + 1) zM196 0 [some (.int x1), some (.int 0), some (.int 33)] [] h = some ((some (.int 0)), h) := by
      refine (r_iloadn f196_0 rfl).trans ?_
      refine (r_iloadn f196_1 rfl).trans ?_
      refine (r_icmp_lt_f f196_2 ec0).trans ?_
      refine (r_iloadn f196_5 rfl).trans ?_
      refine (r_iloadn f196_6 rfl).trans ?_
      refine (r_icmp_gt_t f196_7 em0).trans ?_
      refine (r_iconst (v := 0) f196_14 rfl).trans ?_
      exact r_zreturn f196_15 rfl (by decide)
    refine (r_stat (as := [.int x1, .int 0, .int 33]) (v := (some (.int 0))) (h1 := h) f263_4 rfl zg196 rfl rfl rfl rfl rfl rfl hc2).trans ?_
    refine (r_if_eq_t f263_7 (by decide)).trans ?_
    refine (r_iconst (v := 0) f263_22 rfl).trans ?_
    exact r_zreturn f263_23 rfl (by decide)
  refine (r_stat (as := [.int x1]) (v := (some (.int 0))) (h1 := h) f266_1 rfl zg263 rfl rfl rfl rfl rfl rfl hc1).trans ?_
  refine (r_if_eq_t f266_4 (by decide)).trans ?_
  refine (r_iconst (v := (-1)) f266_31 rfl).trans ?_
  exact r_ireturn f266_32 rfl
set_option maxHeartbeats 40000000 in
theorem qm25_3_1 {X : aX} {n d : Nat} {h : aH} {x1 : Int32} {x2 : Int32} {x3 : Int32}  (ec0 : ¬ x1 < 0) (em0 : ¬ 33 < x1) (em1 : 3 < (x1 - x1 / 10 * 10)) : arun X (n + 15) (d + 3) zM266 0 [some (.ref 72), some (.int x1), some (.int x2), some (.int x3)] [] h = some (some (.int (-1)), h) := by
  refine (r_iloadn f266_0 rfl).trans ?_
  have hc1 : arun X (n + 13) (d + 2) zM263 0 [some (.int x1)] [] h = some ((some (.int 0)), h) := by
    refine (r_iloadn f263_0 rfl).trans ?_
    refine (r_iconst (v := 0) f263_1 rfl).trans ?_
    refine (r_bipush (v := 33) f263_2 rfl).trans ?_
    have hc2 : arun X (n + 9) (d + 1) zM196 0 [some (.int x1), some (.int 0), some (.int 33)] [] h = some ((some (.int 1)), h) := by
      refine (r_iloadn f196_0 rfl).trans ?_
      refine (r_iloadn f196_1 rfl).trans ?_
      refine (r_icmp_lt_f f196_2 ec0).trans ?_
      refine (r_iloadn f196_5 rfl).trans ?_
      refine (r_iloadn f196_6 rfl).trans ?_
      refine (r_icmp_gt_f f196_7 em0).trans ?_
      refine (r_iconst (v := 1) f196_10 rfl).trans ?_
      refine (r_goto f196_11).trans ?_
      exact r_zreturn f196_15 rfl (by decide)
    refine (r_stat (as := [.int x1, .int 0, .int 33]) (v := (some (.int 1))) (h1 := h) f263_4 rfl zg196 rfl rfl rfl rfl rfl rfl hc2).trans ?_
    refine (r_if_eq_f f263_7 (by decide)).trans ?_
    refine (r_iloadn f263_10 rfl).trans ?_
    refine (r_bipush (v := 10) f263_11 rfl).trans ?_
    refine (r_irem (v := (x1 - x1 / 10 * 10)) f263_13 (by decide) rfl).trans ?_
    refine (r_iconst (v := 3) f263_14 rfl).trans ?_
    refine (r_icmp_gt_t f263_15 em1).trans ?_
    refine (r_iconst (v := 0) f263_22 rfl).trans ?_
    exact r_zreturn f263_23 rfl (by decide)
  refine (r_stat (as := [.int x1]) (v := (some (.int 0))) (h1 := h) f266_1 rfl zg263 rfl rfl rfl rfl rfl rfl hc1).trans ?_
  refine (r_if_eq_t f266_4 (by decide)).trans ?_
  refine (r_iconst (v := (-1)) f266_31 rfl).trans ?_
  exact r_ireturn f266_32 rfl
set_option maxHeartbeats 40000000 in
theorem qc25_4 {X : aX} {n d : Nat} {h : aH} {x1 : Int32} {x2 : Int32} {x3 : Int32}  (ec0 : ¬ x1 < 0) (ec1 : ¬ (x1 / 10) < 0) (ec2 : ¬ 3 < (x1 / 10)) (ec3 : ¬ 4 ≤ (x1 - x1 / 10 * 10)) (ec4 : x2 < 0) : arun X (n + 21) (d + 4) zM169 0 [some (.ref 0), some (.int x1), some (.int x2), some (.int x3), none] [] h = some (some (.int (-1)), h) := by
  refine (r_iloadn f169_0 rfl).trans ?_
  have hc1 : arun X (n + 19) (d + 3) zM143 0 [some (.int x1)] [] h = some ((some (.int 1)), h) := by
    refine (r_iloadn f143_0 rfl).trans ?_
    refine (r_if_lt_f f143_1 ec0).trans ?_
    refine (r_iloadn f143_4 rfl).trans ?_
    refine (r_bipush (v := 10) f143_5 rfl).trans ?_
    refine (r_idiv (v := (x1 / 10)) f143_7 (by decide) rfl).trans ?_
    have hc2 : arun X (n + 13) (d + 2) zM140 0 [some (.int (x1 / 10))] [] h = some ((some (.int 1)), h) := by
      refine (r_iloadn f140_0 rfl).trans ?_
      refine (r_iconst (v := 0) f140_1 rfl).trans ?_
      refine (r_iconst (v := 3) f140_2 rfl).trans ?_
      have hc3 : arun X (n + 9) (d + 1) zM137 0 [some (.int (x1 / 10)), some (.int 0), some (.int 3)] [] h = some ((some (.int 1)), h) := by
        refine (r_iloadn f137_0 rfl).trans ?_
        refine (r_iloadn f137_1 rfl).trans ?_
        refine (r_icmp_gt_f f137_2 ec1).trans ?_
        refine (r_iloadn f137_5 rfl).trans ?_
        refine (r_iloadn f137_6 rfl).trans ?_
        refine (r_icmp_gt_f f137_7 ec2).trans ?_
        refine (r_iconst (v := 1) f137_10 rfl).trans ?_
        refine (r_goto f137_11).trans ?_
        exact r_zreturn f137_15 rfl (by decide)
      refine (r_stat (as := [.int (x1 / 10), .int 0, .int 3]) (v := (some (.int 1))) (h1 := h) f140_3 rfl zg137 rfl rfl rfl rfl rfl rfl hc3).trans ?_
      exact r_zreturn f140_6 rfl (by decide)
    refine (r_stat (as := [.int (x1 / 10)]) (v := (some (.int 1))) (h1 := h) f143_8 rfl zg140 rfl rfl rfl rfl rfl rfl hc2).trans ?_
    refine (r_if_eq_f f143_11 (by decide)).trans ?_
    refine (r_iloadn f143_14 rfl).trans ?_
    refine (r_bipush (v := 10) f143_15 rfl).trans ?_
    refine (r_irem (v := (x1 - x1 / 10 * 10)) f143_17 (by decide) rfl).trans ?_
    refine (r_iconst (v := 4) f143_18 rfl).trans ?_
    refine (r_icmp_ge_f f143_19 ec3).trans ?_
    refine (r_iconst (v := 1) f143_22 rfl).trans ?_
    refine (r_goto f143_23).trans ?_
    exact r_zreturn f143_27 rfl (by decide)
  refine (r_stat (as := [.int x1]) (v := (some (.int 1))) (h1 := h) f169_1 rfl zg143 rfl rfl rfl rfl rfl rfl hc1).trans ?_
  refine (r_if_eq_f f169_4 (by decide)).trans ?_
  refine (r_iloadn f169_7 rfl).trans ?_
  have hc4 : arun X (n + 16) (d + 3) zM139 0 [some (.int x2)] [] h = some ((some (.int 0)), h) := by
    refine (r_iloadn f139_0 rfl).trans ?_
    refine (r_iconst (v := 0) f139_1 rfl).trans ?_
    refine (r_bipush (v := 9) f139_2 rfl).trans ?_
    have hc5 : arun X (n + 12) (d + 2) zM137 0 [some (.int x2), some (.int 0), some (.int 9)] [] h = some ((some (.int 0)), h) := by
      refine (r_iloadn f137_0 rfl).trans ?_
      refine (r_iloadn f137_1 rfl).trans ?_
      refine (r_icmp_gt_t f137_2 ec4).trans ?_
      refine (r_iconst (v := 0) f137_14 rfl).trans ?_
      exact r_zreturn f137_15 rfl (by decide)
    refine (r_stat (as := [.int x2, .int 0, .int 9]) (v := (some (.int 0))) (h1 := h) f139_4 rfl zg137 rfl rfl rfl rfl rfl rfl hc5).trans ?_
    exact r_zreturn f139_7 rfl (by decide)
  refine (r_stat (as := [.int x2]) (v := (some (.int 0))) (h1 := h) f169_8 rfl zg139 rfl rfl rfl rfl rfl rfl hc4).trans ?_
  refine (r_if_eq_t f169_11 (by decide)).trans ?_
  refine (r_iconst (v := (-1)) f169_21 rfl).trans ?_
  exact r_ireturn f169_22 rfl
set_option maxHeartbeats 40000000 in
theorem qm25_4_0 {X : aX} {n d : Nat} {h : aH} {x1 : Int32} {x2 : Int32} {x3 : Int32}  (ec0 : ¬ x1 < 0) (em0 : 33 < x1) : arun X (n + 14) (d + 3) zM266 0 [some (.ref 72), some (.int x1), some (.int x2), some (.int x3)] [] h = some (some (.int (-1)), h) := by
  refine (r_iloadn f266_0 rfl).trans ?_
  have hc1 : arun X (n + 12) (d + 2) zM263 0 [some (.int x1)] [] h = some ((some (.int 0)), h) := by
    refine (r_iloadn f263_0 rfl).trans ?_
    refine (r_iconst (v := 0) f263_1 rfl).trans ?_
    refine (r_bipush (v := 33) f263_2 rfl).trans ?_
    have hc2 : arun X (n + 8) (d + 1) zM196 0 [some (.int x1), some (.int 0), some (.int 33)] [] h = some ((some (.int 0)), h) := by
      refine (r_iloadn f196_0 rfl).trans ?_
      refine (r_iloadn f196_1 rfl).trans ?_
      refine (r_icmp_lt_f f196_2 ec0).trans ?_
      refine (r_iloadn f196_5 rfl).trans ?_
      refine (r_iloadn f196_6 rfl).trans ?_
      refine (r_icmp_gt_t f196_7 em0).trans ?_
      refine (r_iconst (v := 0) f196_14 rfl).trans ?_
      exact r_zreturn f196_15 rfl (by decide)
    refine (r_stat (as := [.int x1, .int 0, .int 33]) (v := (some (.int 0))) (h1 := h) f263_4 rfl zg196 rfl rfl rfl rfl rfl rfl hc2).trans ?_
    refine (r_if_eq_t f263_7 (by decide)).trans ?_
    refine (r_iconst (v := 0) f263_22 rfl).trans ?_
    exact r_zreturn f263_23 rfl (by decide)
  refine (r_stat (as := [.int x1]) (v := (some (.int 0))) (h1 := h) f266_1 rfl zg263 rfl rfl rfl rfl rfl rfl hc1).trans ?_
  refine (r_if_eq_t f266_4 (by decide)).trans ?_
  refine (r_iconst (v := (-1)) f266_31 rfl).trans ?_
  exact r_ireturn f266_32 rfl
set_option maxHeartbeats 40000000 in
theorem qm25_4_1 {X : aX} {n d : Nat} {h : aH} {x1 : Int32} {x2 : Int32} {x3 : Int32}  (ec0 : ¬ x1 < 0) (ec4 : x2 < 0) (em0 : ¬ 33 < x1) (em1 : ¬ 3 < (x1 - x1 / 10 * 10)) : arun X (n + 15) (d + 3) zM266 0 [some (.ref 72), some (.int x1), some (.int x2), some (.int x3)] [] h = some (some (.int (-1)), h) := by
  refine (r_iloadn f266_0 rfl).trans ?_
  have hc1 : arun X (n + 13) (d + 2) zM263 0 [some (.int x1)] [] h = some ((some (.int 1)), h) := by
    refine (r_iloadn f263_0 rfl).trans ?_
    refine (r_iconst (v := 0) f263_1 rfl).trans ?_
    refine (r_bipush (v := 33) f263_2 rfl).trans ?_
    have hc2 : arun X (n + 9) (d + 1) zM196 0 [some (.int x1), some (.int 0), some (.int 33)] [] h = some ((some (.int 1)), h) := by
      refine (r_iloadn f196_0 rfl).trans ?_
      refine (r_iloadn f196_1 rfl).trans ?_
      refine (r_icmp_lt_f f196_2 ec0).trans ?_
      refine (r_iloadn f196_5 rfl).trans ?_
      refine (r_iloadn f196_6 rfl).trans ?_
      refine (r_icmp_gt_f f196_7 em0).trans ?_
      refine (r_iconst (v := 1) f196_10 rfl).trans ?_
      refine (r_goto f196_11).trans ?_
      exact r_zreturn f196_15 rfl (by decide)
    refine (r_stat (as := [.int x1, .int 0, .int 33]) (v := (some (.int 1))) (h1 := h) f263_4 rfl zg196 rfl rfl rfl rfl rfl rfl hc2).trans ?_
    refine (r_if_eq_f f263_7 (by decide)).trans ?_
    refine (r_iloadn f263_10 rfl).trans ?_
    refine (r_bipush (v := 10) f263_11 rfl).trans ?_
    refine (r_irem (v := (x1 - x1 / 10 * 10)) f263_13 (by decide) rfl).trans ?_
    refine (r_iconst (v := 3) f263_14 rfl).trans ?_
    refine (r_icmp_gt_f f263_15 em1).trans ?_
    refine (r_iconst (v := 1) f263_18 rfl).trans ?_
    refine (r_goto f263_19).trans ?_
    exact r_zreturn f263_23 rfl (by decide)
  refine (r_stat (as := [.int x1]) (v := (some (.int 1))) (h1 := h) f266_1 rfl zg263 rfl rfl rfl rfl rfl rfl hc1).trans ?_
  refine (r_if_eq_f f266_4 (by decide)).trans ?_
  refine (r_iloadn f266_7 rfl).trans ?_
  have hc3 : arun X (n + 10) (d + 2) zM198 0 [some (.int x2)] [] h = some ((some (.int 0)), h) := by
    refine (r_iloadn f198_0 rfl).trans ?_
    refine (r_iconst (v := 0) f198_1 rfl).trans ?_
    refine (r_bipush (v := 9) f198_2 rfl).trans ?_
    have hc4 : arun X (n + 6) (d + 1) zM196 0 [some (.int x2), some (.int 0), some (.int 9)] [] h = some ((some (.int 0)), h) := by
      refine (r_iloadn f196_0 rfl).trans ?_
      refine (r_iloadn f196_1 rfl).trans ?_
      refine (r_icmp_lt_t f196_2 ec4).trans ?_
      refine (r_iconst (v := 0) f196_14 rfl).trans ?_
      exact r_zreturn f196_15 rfl (by decide)
    refine (r_stat (as := [.int x2, .int 0, .int 9]) (v := (some (.int 0))) (h1 := h) f198_4 rfl zg196 rfl rfl rfl rfl rfl rfl hc4).trans ?_
    exact r_zreturn f198_7 rfl (by decide)
  refine (r_stat (as := [.int x2]) (v := (some (.int 0))) (h1 := h) f266_8 rfl zg198 rfl rfl rfl rfl rfl rfl hc3).trans ?_
  refine (r_if_eq_t f266_11 (by decide)).trans ?_
  refine (r_iconst (v := (-1)) f266_31 rfl).trans ?_
  exact r_ireturn f266_32 rfl
set_option maxHeartbeats 40000000 in
theorem qc25_5 {X : aX} {n d : Nat} {h : aH} {x1 : Int32} {x2 : Int32} {x3 : Int32}  (ec0 : ¬ x1 < 0) (ec1 : ¬ (x1 / 10) < 0) (ec2 : ¬ 3 < (x1 / 10)) (ec3 : ¬ 4 ≤ (x1 - x1 / 10 * 10)) (ec4 : ¬ x2 < 0) (ec5 : 9 < x2) : arun X (n + 21) (d + 4) zM169 0 [some (.ref 0), some (.int x1), some (.int x2), some (.int x3), none] [] h = some (some (.int (-1)), h) := by
  refine (r_iloadn f169_0 rfl).trans ?_
  have hc1 : arun X (n + 19) (d + 3) zM143 0 [some (.int x1)] [] h = some ((some (.int 1)), h) := by
    refine (r_iloadn f143_0 rfl).trans ?_
    refine (r_if_lt_f f143_1 ec0).trans ?_
    refine (r_iloadn f143_4 rfl).trans ?_
    refine (r_bipush (v := 10) f143_5 rfl).trans ?_
    refine (r_idiv (v := (x1 / 10)) f143_7 (by decide) rfl).trans ?_
    have hc2 : arun X (n + 13) (d + 2) zM140 0 [some (.int (x1 / 10))] [] h = some ((some (.int 1)), h) := by
      refine (r_iloadn f140_0 rfl).trans ?_
      refine (r_iconst (v := 0) f140_1 rfl).trans ?_
      refine (r_iconst (v := 3) f140_2 rfl).trans ?_
      have hc3 : arun X (n + 9) (d + 1) zM137 0 [some (.int (x1 / 10)), some (.int 0), some (.int 3)] [] h = some ((some (.int 1)), h) := by
        refine (r_iloadn f137_0 rfl).trans ?_
        refine (r_iloadn f137_1 rfl).trans ?_
        refine (r_icmp_gt_f f137_2 ec1).trans ?_
        refine (r_iloadn f137_5 rfl).trans ?_
        refine (r_iloadn f137_6 rfl).trans ?_
        refine (r_icmp_gt_f f137_7 ec2).trans ?_
        refine (r_iconst (v := 1) f137_10 rfl).trans ?_
        refine (r_goto f137_11).trans ?_
        exact r_zreturn f137_15 rfl (by decide)
      refine (r_stat (as := [.int (x1 / 10), .int 0, .int 3]) (v := (some (.int 1))) (h1 := h) f140_3 rfl zg137 rfl rfl rfl rfl rfl rfl hc3).trans ?_
      exact r_zreturn f140_6 rfl (by decide)
    refine (r_stat (as := [.int (x1 / 10)]) (v := (some (.int 1))) (h1 := h) f143_8 rfl zg140 rfl rfl rfl rfl rfl rfl hc2).trans ?_
    refine (r_if_eq_f f143_11 (by decide)).trans ?_
    refine (r_iloadn f143_14 rfl).trans ?_
    refine (r_bipush (v := 10) f143_15 rfl).trans ?_
    refine (r_irem (v := (x1 - x1 / 10 * 10)) f143_17 (by decide) rfl).trans ?_
    refine (r_iconst (v := 4) f143_18 rfl).trans ?_
    refine (r_icmp_ge_f f143_19 ec3).trans ?_
    refine (r_iconst (v := 1) f143_22 rfl).trans ?_
    refine (r_goto f143_23).trans ?_
    exact r_zreturn f143_27 rfl (by decide)
  refine (r_stat (as := [.int x1]) (v := (some (.int 1))) (h1 := h) f169_1 rfl zg143 rfl rfl rfl rfl rfl rfl hc1).trans ?_
  refine (r_if_eq_f f169_4 (by decide)).trans ?_
  refine (r_iloadn f169_7 rfl).trans ?_
  have hc4 : arun X (n + 16) (d + 3) zM139 0 [some (.int x2)] [] h = some ((some (.int 0)), h) := by
    refine (r_iloadn f139_0 rfl).trans ?_
    refine (r_iconst (v := 0) f139_1 rfl).trans ?_
    refine (r_bipush (v := 9) f139_2 rfl).trans ?_
    have hc5 : arun X (n + 12) (d + 2) zM137 0 [some (.int x2), some (.int 0), some (.int 9)] [] h = some ((some (.int 0)), h) := by
      refine (r_iloadn f137_0 rfl).trans ?_
      refine (r_iloadn f137_1 rfl).trans ?_
      refine (r_icmp_gt_f f137_2 ec4).trans ?_
      refine (r_iloadn f137_5 rfl).trans ?_
      refine (r_iloadn f137_6 rfl).trans ?_
      refine (r_icmp_gt_t f137_7 ec5).trans ?_
      refine (r_iconst (v := 0) f137_14 rfl).trans ?_
      exact r_zreturn f137_15 rfl (by decide)
    refine (r_stat (as := [.int x2, .int 0, .int 9]) (v := (some (.int 0))) (h1 := h) f139_4 rfl zg137 rfl rfl rfl rfl rfl rfl hc5).trans ?_
    exact r_zreturn f139_7 rfl (by decide)
  refine (r_stat (as := [.int x2]) (v := (some (.int 0))) (h1 := h) f169_8 rfl zg139 rfl rfl rfl rfl rfl rfl hc4).trans ?_
  refine (r_if_eq_t f169_11 (by decide)).trans ?_
  refine (r_iconst (v := (-1)) f169_21 rfl).trans ?_
  exact r_ireturn f169_22 rfl
set_option maxHeartbeats 40000000 in
theorem qm25_5_0 {X : aX} {n d : Nat} {h : aH} {x1 : Int32} {x2 : Int32} {x3 : Int32}  (ec0 : ¬ x1 < 0) (em0 : 33 < x1) : arun X (n + 14) (d + 3) zM266 0 [some (.ref 72), some (.int x1), some (.int x2), some (.int x3)] [] h = some (some (.int (-1)), h) := by
  refine (r_iloadn f266_0 rfl).trans ?_
  have hc1 : arun X (n + 12) (d + 2) zM263 0 [some (.int x1)] [] h = some ((some (.int 0)), h) := by
    refine (r_iloadn f263_0 rfl).trans ?_
    refine (r_iconst (v := 0) f263_1 rfl).trans ?_
    refine (r_bipush (v := 33) f263_2 rfl).trans ?_
    have hc2 : arun X (n + 8) (d + 1) zM196 0 [some (.int x1), some (.int 0), some (.int 33)] [] h = some ((some (.int 0)), h) := by
      refine (r_iloadn f196_0 rfl).trans ?_
      refine (r_iloadn f196_1 rfl).trans ?_
      refine (r_icmp_lt_f f196_2 ec0).trans ?_
      refine (r_iloadn f196_5 rfl).trans ?_
      refine (r_iloadn f196_6 rfl).trans ?_
      refine (r_icmp_gt_t f196_7 em0).trans ?_
      refine (r_iconst (v := 0) f196_14 rfl).trans ?_
      exact r_zreturn f196_15 rfl (by decide)
    refine (r_stat (as := [.int x1, .int 0, .int 33]) (v := (some (.int 0))) (h1 := h) f263_4 rfl zg196 rfl rfl rfl rfl rfl rfl hc2).trans ?_
    refine (r_if_eq_t f263_7 (by decide)).trans ?_
    refine (r_iconst (v := 0) f263_22 rfl).trans ?_
    exact r_zreturn f263_23 rfl (by decide)
  refine (r_stat (as := [.int x1]) (v := (some (.int 0))) (h1 := h) f266_1 rfl zg263 rfl rfl rfl rfl rfl rfl hc1).trans ?_
  refine (r_if_eq_t f266_4 (by decide)).trans ?_
  refine (r_iconst (v := (-1)) f266_31 rfl).trans ?_
  exact r_ireturn f266_32 rfl
set_option maxHeartbeats 40000000 in
theorem qm25_5_1 {X : aX} {n d : Nat} {h : aH} {x1 : Int32} {x2 : Int32} {x3 : Int32}  (ec0 : ¬ x1 < 0) (ec4 : ¬ x2 < 0) (ec5 : 9 < x2) (em0 : ¬ 33 < x1) (em1 : ¬ 3 < (x1 - x1 / 10 * 10)) : arun X (n + 17) (d + 3) zM266 0 [some (.ref 72), some (.int x1), some (.int x2), some (.int x3)] [] h = some (some (.int (-1)), h) := by
  refine (r_iloadn f266_0 rfl).trans ?_
  have hc1 : arun X (n + 15) (d + 2) zM263 0 [some (.int x1)] [] h = some ((some (.int 1)), h) := by
    refine (r_iloadn f263_0 rfl).trans ?_
    refine (r_iconst (v := 0) f263_1 rfl).trans ?_
    refine (r_bipush (v := 33) f263_2 rfl).trans ?_
    have hc2 : arun X (n + 11) (d + 1) zM196 0 [some (.int x1), some (.int 0), some (.int 33)] [] h = some ((some (.int 1)), h) := by
      refine (r_iloadn f196_0 rfl).trans ?_
      refine (r_iloadn f196_1 rfl).trans ?_
      refine (r_icmp_lt_f f196_2 ec0).trans ?_
      refine (r_iloadn f196_5 rfl).trans ?_
      refine (r_iloadn f196_6 rfl).trans ?_
      refine (r_icmp_gt_f f196_7 em0).trans ?_
      refine (r_iconst (v := 1) f196_10 rfl).trans ?_
      refine (r_goto f196_11).trans ?_
      exact r_zreturn f196_15 rfl (by decide)
    refine (r_stat (as := [.int x1, .int 0, .int 33]) (v := (some (.int 1))) (h1 := h) f263_4 rfl zg196 rfl rfl rfl rfl rfl rfl hc2).trans ?_
    refine (r_if_eq_f f263_7 (by decide)).trans ?_
    refine (r_iloadn f263_10 rfl).trans ?_
    refine (r_bipush (v := 10) f263_11 rfl).trans ?_
    refine (r_irem (v := (x1 - x1 / 10 * 10)) f263_13 (by decide) rfl).trans ?_
    refine (r_iconst (v := 3) f263_14 rfl).trans ?_
    refine (r_icmp_gt_f f263_15 em1).trans ?_
    refine (r_iconst (v := 1) f263_18 rfl).trans ?_
    refine (r_goto f263_19).trans ?_
    exact r_zreturn f263_23 rfl (by decide)
  refine (r_stat (as := [.int x1]) (v := (some (.int 1))) (h1 := h) f266_1 rfl zg263 rfl rfl rfl rfl rfl rfl hc1).trans ?_
  refine (r_if_eq_f f266_4 (by decide)).trans ?_
  refine (r_iloadn f266_7 rfl).trans ?_
  have hc3 : arun X (n + 12) (d + 2) zM198 0 [some (.int x2)] [] h = some ((some (.int 0)), h) := by
    refine (r_iloadn f198_0 rfl).trans ?_
    refine (r_iconst (v := 0) f198_1 rfl).trans ?_
    refine (r_bipush (v := 9) f198_2 rfl).trans ?_
    have hc4 : arun X (n + 8) (d + 1) zM196 0 [some (.int x2), some (.int 0), some (.int 9)] [] h = some ((some (.int 0)), h) := by
      refine (r_iloadn f196_0 rfl).trans ?_
      refine (r_iloadn f196_1 rfl).trans ?_
      refine (r_icmp_lt_f f196_2 ec4).trans ?_
      refine (r_iloadn f196_5 rfl).trans ?_
      refine (r_iloadn f196_6 rfl).trans ?_
      refine (r_icmp_gt_t f196_7 ec5).trans ?_
      refine (r_iconst (v := 0) f196_14 rfl).trans ?_
      exact r_zreturn f196_15 rfl (by decide)
    refine (r_stat (as := [.int x2, .int 0, .int 9]) (v := (some (.int 0))) (h1 := h) f198_4 rfl zg196 rfl rfl rfl rfl rfl rfl hc4).trans ?_
    exact r_zreturn f198_7 rfl (by decide)
  refine (r_stat (as := [.int x2]) (v := (some (.int 0))) (h1 := h) f266_8 rfl zg198 rfl rfl rfl rfl rfl rfl hc3).trans ?_
  refine (r_if_eq_t f266_11 (by decide)).trans ?_
  refine (r_iconst (v := (-1)) f266_31 rfl).trans ?_
  exact r_ireturn f266_32 rfl
set_option maxHeartbeats 40000000 in
theorem qc25_6 {X : aX} {n d : Nat} {h : aH} {x1 : Int32} {x2 : Int32} {x3 : Int32}  (ec0 : ¬ x1 < 0) (ec1 : ¬ (x1 / 10) < 0) (ec2 : ¬ 3 < (x1 / 10)) (ec3 : ¬ 4 ≤ (x1 - x1 / 10 * 10)) (ec4 : ¬ x2 < 0) (ec5 : ¬ 9 < x2) (ec6 : x3 < 0) : arun X (n + 21) (d + 4) zM169 0 [some (.ref 0), some (.int x1), some (.int x2), some (.int x3), none] [] h = some (some (.int (-1)), h) := by
  refine (r_iloadn f169_0 rfl).trans ?_
  have hc1 : arun X (n + 19) (d + 3) zM143 0 [some (.int x1)] [] h = some ((some (.int 1)), h) := by
    refine (r_iloadn f143_0 rfl).trans ?_
    refine (r_if_lt_f f143_1 ec0).trans ?_
    refine (r_iloadn f143_4 rfl).trans ?_
    refine (r_bipush (v := 10) f143_5 rfl).trans ?_
    refine (r_idiv (v := (x1 / 10)) f143_7 (by decide) rfl).trans ?_
    have hc2 : arun X (n + 13) (d + 2) zM140 0 [some (.int (x1 / 10))] [] h = some ((some (.int 1)), h) := by
      refine (r_iloadn f140_0 rfl).trans ?_
      refine (r_iconst (v := 0) f140_1 rfl).trans ?_
      refine (r_iconst (v := 3) f140_2 rfl).trans ?_
      have hc3 : arun X (n + 9) (d + 1) zM137 0 [some (.int (x1 / 10)), some (.int 0), some (.int 3)] [] h = some ((some (.int 1)), h) := by
        refine (r_iloadn f137_0 rfl).trans ?_
        refine (r_iloadn f137_1 rfl).trans ?_
        refine (r_icmp_gt_f f137_2 ec1).trans ?_
        refine (r_iloadn f137_5 rfl).trans ?_
        refine (r_iloadn f137_6 rfl).trans ?_
        refine (r_icmp_gt_f f137_7 ec2).trans ?_
        refine (r_iconst (v := 1) f137_10 rfl).trans ?_
        refine (r_goto f137_11).trans ?_
        exact r_zreturn f137_15 rfl (by decide)
      refine (r_stat (as := [.int (x1 / 10), .int 0, .int 3]) (v := (some (.int 1))) (h1 := h) f140_3 rfl zg137 rfl rfl rfl rfl rfl rfl hc3).trans ?_
      exact r_zreturn f140_6 rfl (by decide)
    refine (r_stat (as := [.int (x1 / 10)]) (v := (some (.int 1))) (h1 := h) f143_8 rfl zg140 rfl rfl rfl rfl rfl rfl hc2).trans ?_
    refine (r_if_eq_f f143_11 (by decide)).trans ?_
    refine (r_iloadn f143_14 rfl).trans ?_
    refine (r_bipush (v := 10) f143_15 rfl).trans ?_
    refine (r_irem (v := (x1 - x1 / 10 * 10)) f143_17 (by decide) rfl).trans ?_
    refine (r_iconst (v := 4) f143_18 rfl).trans ?_
    refine (r_icmp_ge_f f143_19 ec3).trans ?_
    refine (r_iconst (v := 1) f143_22 rfl).trans ?_
    refine (r_goto f143_23).trans ?_
    exact r_zreturn f143_27 rfl (by decide)
  refine (r_stat (as := [.int x1]) (v := (some (.int 1))) (h1 := h) f169_1 rfl zg143 rfl rfl rfl rfl rfl rfl hc1).trans ?_
  refine (r_if_eq_f f169_4 (by decide)).trans ?_
  refine (r_iloadn f169_7 rfl).trans ?_
  have hc4 : arun X (n + 16) (d + 3) zM139 0 [some (.int x2)] [] h = some ((some (.int 1)), h) := by
    refine (r_iloadn f139_0 rfl).trans ?_
    refine (r_iconst (v := 0) f139_1 rfl).trans ?_
    refine (r_bipush (v := 9) f139_2 rfl).trans ?_
    have hc5 : arun X (n + 12) (d + 2) zM137 0 [some (.int x2), some (.int 0), some (.int 9)] [] h = some ((some (.int 1)), h) := by
      refine (r_iloadn f137_0 rfl).trans ?_
      refine (r_iloadn f137_1 rfl).trans ?_
      refine (r_icmp_gt_f f137_2 ec4).trans ?_
      refine (r_iloadn f137_5 rfl).trans ?_
      refine (r_iloadn f137_6 rfl).trans ?_
      refine (r_icmp_gt_f f137_7 ec5).trans ?_
      refine (r_iconst (v := 1) f137_10 rfl).trans ?_
      refine (r_goto f137_11).trans ?_
      exact r_zreturn f137_15 rfl (by decide)
    refine (r_stat (as := [.int x2, .int 0, .int 9]) (v := (some (.int 1))) (h1 := h) f139_4 rfl zg137 rfl rfl rfl rfl rfl rfl hc5).trans ?_
    exact r_zreturn f139_7 rfl (by decide)
  refine (r_stat (as := [.int x2]) (v := (some (.int 1))) (h1 := h) f169_8 rfl zg139 rfl rfl rfl rfl rfl rfl hc4).trans ?_
  refine (r_if_eq_f f169_11 (by decide)).trans ?_
  refine (r_iloadn f169_14 rfl).trans ?_
  have hc6 : arun X (n + 13) (d + 3) zM138 0 [some (.int x3)] [] h = some ((some (.int 0)), h) := by
    refine (r_iloadn f138_0 rfl).trans ?_
    refine (r_iconst (v := 0) f138_1 rfl).trans ?_
    refine (r_sipush (v := 3649) f138_2 rfl).trans ?_
    have hc7 : arun X (n + 9) (d + 2) zM137 0 [some (.int x3), some (.int 0), some (.int 3649)] [] h = some ((some (.int 0)), h) := by
      refine (r_iloadn f137_0 rfl).trans ?_
      refine (r_iloadn f137_1 rfl).trans ?_
      refine (r_icmp_gt_t f137_2 ec6).trans ?_
      refine (r_iconst (v := 0) f137_14 rfl).trans ?_
      exact r_zreturn f137_15 rfl (by decide)
    refine (r_stat (as := [.int x3, .int 0, .int 3649]) (v := (some (.int 0))) (h1 := h) f138_5 rfl zg137 rfl rfl rfl rfl rfl rfl hc7).trans ?_
    exact r_zreturn f138_8 rfl (by decide)
  refine (r_stat (as := [.int x3]) (v := (some (.int 0))) (h1 := h) f169_15 rfl zg138 rfl rfl rfl rfl rfl rfl hc6).trans ?_
  refine (r_if_ne_f f169_18 (by decide)).trans ?_
  refine (r_iconst (v := (-1)) f169_21 rfl).trans ?_
  exact r_ireturn f169_22 rfl
set_option maxHeartbeats 40000000 in
theorem qm25_6_0 {X : aX} {n d : Nat} {h : aH} {x1 : Int32} {x2 : Int32} {x3 : Int32}  (ec0 : ¬ x1 < 0) (em0 : 33 < x1) : arun X (n + 14) (d + 3) zM266 0 [some (.ref 72), some (.int x1), some (.int x2), some (.int x3)] [] h = some (some (.int (-1)), h) := by
  refine (r_iloadn f266_0 rfl).trans ?_
  have hc1 : arun X (n + 12) (d + 2) zM263 0 [some (.int x1)] [] h = some ((some (.int 0)), h) := by
    refine (r_iloadn f263_0 rfl).trans ?_
    refine (r_iconst (v := 0) f263_1 rfl).trans ?_
    refine (r_bipush (v := 33) f263_2 rfl).trans ?_
    have hc2 : arun X (n + 8) (d + 1) zM196 0 [some (.int x1), some (.int 0), some (.int 33)] [] h = some ((some (.int 0)), h) := by
      refine (r_iloadn f196_0 rfl).trans ?_
      refine (r_iloadn f196_1 rfl).trans ?_
      refine (r_icmp_lt_f f196_2 ec0).trans ?_
      refine (r_iloadn f196_5 rfl).trans ?_
      refine (r_iloadn f196_6 rfl).trans ?_
      refine (r_icmp_gt_t f196_7 em0).trans ?_
      refine (r_iconst (v := 0) f196_14 rfl).trans ?_
      exact r_zreturn f196_15 rfl (by decide)
    refine (r_stat (as := [.int x1, .int 0, .int 33]) (v := (some (.int 0))) (h1 := h) f263_4 rfl zg196 rfl rfl rfl rfl rfl rfl hc2).trans ?_
    refine (r_if_eq_t f263_7 (by decide)).trans ?_
    refine (r_iconst (v := 0) f263_22 rfl).trans ?_
    exact r_zreturn f263_23 rfl (by decide)
  refine (r_stat (as := [.int x1]) (v := (some (.int 0))) (h1 := h) f266_1 rfl zg263 rfl rfl rfl rfl rfl rfl hc1).trans ?_
  refine (r_if_eq_t f266_4 (by decide)).trans ?_
  refine (r_iconst (v := (-1)) f266_31 rfl).trans ?_
  exact r_ireturn f266_32 rfl
set_option maxHeartbeats 40000000 in
theorem qm25_6_1 {X : aX} {n d : Nat} {h : aH} {x1 : Int32} {x2 : Int32} {x3 : Int32}  (ec0 : ¬ x1 < 0) (ec4 : ¬ x2 < 0) (ec5 : ¬ 9 < x2) (ec6 : x3 < 0) (em0 : ¬ 33 < x1) (em1 : ¬ 3 < (x1 - x1 / 10 * 10)) : arun X (n + 18) (d + 3) zM266 0 [some (.ref 72), some (.int x1), some (.int x2), some (.int x3)] [] h = some (some (.int (-1)), h) := by
  refine (r_iloadn f266_0 rfl).trans ?_
  have hc1 : arun X (n + 16) (d + 2) zM263 0 [some (.int x1)] [] h = some ((some (.int 1)), h) := by
    refine (r_iloadn f263_0 rfl).trans ?_
    refine (r_iconst (v := 0) f263_1 rfl).trans ?_
    refine (r_bipush (v := 33) f263_2 rfl).trans ?_
    have hc2 : arun X (n + 12) (d + 1) zM196 0 [some (.int x1), some (.int 0), some (.int 33)] [] h = some ((some (.int 1)), h) := by
      refine (r_iloadn f196_0 rfl).trans ?_
      refine (r_iloadn f196_1 rfl).trans ?_
      refine (r_icmp_lt_f f196_2 ec0).trans ?_
      refine (r_iloadn f196_5 rfl).trans ?_
      refine (r_iloadn f196_6 rfl).trans ?_
      refine (r_icmp_gt_f f196_7 em0).trans ?_
      refine (r_iconst (v := 1) f196_10 rfl).trans ?_
      refine (r_goto f196_11).trans ?_
      exact r_zreturn f196_15 rfl (by decide)
    refine (r_stat (as := [.int x1, .int 0, .int 33]) (v := (some (.int 1))) (h1 := h) f263_4 rfl zg196 rfl rfl rfl rfl rfl rfl hc2).trans ?_
    refine (r_if_eq_f f263_7 (by decide)).trans ?_
    refine (r_iloadn f263_10 rfl).trans ?_
    refine (r_bipush (v := 10) f263_11 rfl).trans ?_
    refine (r_irem (v := (x1 - x1 / 10 * 10)) f263_13 (by decide) rfl).trans ?_
    refine (r_iconst (v := 3) f263_14 rfl).trans ?_
    refine (r_icmp_gt_f f263_15 em1).trans ?_
    refine (r_iconst (v := 1) f263_18 rfl).trans ?_
    refine (r_goto f263_19).trans ?_
    exact r_zreturn f263_23 rfl (by decide)
  refine (r_stat (as := [.int x1]) (v := (some (.int 1))) (h1 := h) f266_1 rfl zg263 rfl rfl rfl rfl rfl rfl hc1).trans ?_
  refine (r_if_eq_f f266_4 (by decide)).trans ?_
  refine (r_iloadn f266_7 rfl).trans ?_
  have hc3 : arun X (n + 13) (d + 2) zM198 0 [some (.int x2)] [] h = some ((some (.int 1)), h) := by
    refine (r_iloadn f198_0 rfl).trans ?_
    refine (r_iconst (v := 0) f198_1 rfl).trans ?_
    refine (r_bipush (v := 9) f198_2 rfl).trans ?_
    have hc4 : arun X (n + 9) (d + 1) zM196 0 [some (.int x2), some (.int 0), some (.int 9)] [] h = some ((some (.int 1)), h) := by
      refine (r_iloadn f196_0 rfl).trans ?_
      refine (r_iloadn f196_1 rfl).trans ?_
      refine (r_icmp_lt_f f196_2 ec4).trans ?_
      refine (r_iloadn f196_5 rfl).trans ?_
      refine (r_iloadn f196_6 rfl).trans ?_
      refine (r_icmp_gt_f f196_7 ec5).trans ?_
      refine (r_iconst (v := 1) f196_10 rfl).trans ?_
      refine (r_goto f196_11).trans ?_
      exact r_zreturn f196_15 rfl (by decide)
    refine (r_stat (as := [.int x2, .int 0, .int 9]) (v := (some (.int 1))) (h1 := h) f198_4 rfl zg196 rfl rfl rfl rfl rfl rfl hc4).trans ?_
    exact r_zreturn f198_7 rfl (by decide)
  refine (r_stat (as := [.int x2]) (v := (some (.int 1))) (h1 := h) f266_8 rfl zg198 rfl rfl rfl rfl rfl rfl hc3).trans ?_
  refine (r_if_eq_f f266_11 (by decide)).trans ?_
  refine (r_iloadn f266_14 rfl).trans ?_
  have hc5 : arun X (n + 10) (d + 2) zM197 0 [some (.int x3)] [] h = some ((some (.int 0)), h) := by
    refine (r_iloadn f197_0 rfl).trans ?_
    refine (r_iconst (v := 0) f197_1 rfl).trans ?_
    refine (r_sipush (v := 3649) f197_2 rfl).trans ?_
    have hc6 : arun X (n + 6) (d + 1) zM196 0 [some (.int x3), some (.int 0), some (.int 3649)] [] h = some ((some (.int 0)), h) := by
      refine (r_iloadn f196_0 rfl).trans ?_
      refine (r_iloadn f196_1 rfl).trans ?_
      refine (r_icmp_lt_t f196_2 ec6).trans ?_
      refine (r_iconst (v := 0) f196_14 rfl).trans ?_
      exact r_zreturn f196_15 rfl (by decide)
    refine (r_stat (as := [.int x3, .int 0, .int 3649]) (v := (some (.int 0))) (h1 := h) f197_5 rfl zg196 rfl rfl rfl rfl rfl rfl hc6).trans ?_
    exact r_zreturn f197_8 rfl (by decide)
  refine (r_stat (as := [.int x3]) (v := (some (.int 0))) (h1 := h) f266_15 rfl zg197 rfl rfl rfl rfl rfl rfl hc5).trans ?_
  refine (r_if_eq_t f266_18 (by decide)).trans ?_
  refine (r_iconst (v := (-1)) f266_31 rfl).trans ?_
  exact r_ireturn f266_32 rfl
set_option maxHeartbeats 40000000 in
theorem qc25_7 {X : aX} {n d : Nat} {h : aH} {x1 : Int32} {x2 : Int32} {x3 : Int32}  (ec0 : ¬ x1 < 0) (ec1 : ¬ (x1 / 10) < 0) (ec2 : ¬ 3 < (x1 / 10)) (ec3 : ¬ 4 ≤ (x1 - x1 / 10 * 10)) (ec4 : ¬ x2 < 0) (ec5 : ¬ 9 < x2) (ec6 : ¬ x3 < 0) (ec7 : 3649 < x3) : arun X (n + 21) (d + 4) zM169 0 [some (.ref 0), some (.int x1), some (.int x2), some (.int x3), none] [] h = some (some (.int (-1)), h) := by
  refine (r_iloadn f169_0 rfl).trans ?_
  have hc1 : arun X (n + 19) (d + 3) zM143 0 [some (.int x1)] [] h = some ((some (.int 1)), h) := by
    refine (r_iloadn f143_0 rfl).trans ?_
    refine (r_if_lt_f f143_1 ec0).trans ?_
    refine (r_iloadn f143_4 rfl).trans ?_
    refine (r_bipush (v := 10) f143_5 rfl).trans ?_
    refine (r_idiv (v := (x1 / 10)) f143_7 (by decide) rfl).trans ?_
    have hc2 : arun X (n + 13) (d + 2) zM140 0 [some (.int (x1 / 10))] [] h = some ((some (.int 1)), h) := by
      refine (r_iloadn f140_0 rfl).trans ?_
      refine (r_iconst (v := 0) f140_1 rfl).trans ?_
      refine (r_iconst (v := 3) f140_2 rfl).trans ?_
      have hc3 : arun X (n + 9) (d + 1) zM137 0 [some (.int (x1 / 10)), some (.int 0), some (.int 3)] [] h = some ((some (.int 1)), h) := by
        refine (r_iloadn f137_0 rfl).trans ?_
        refine (r_iloadn f137_1 rfl).trans ?_
        refine (r_icmp_gt_f f137_2 ec1).trans ?_
        refine (r_iloadn f137_5 rfl).trans ?_
        refine (r_iloadn f137_6 rfl).trans ?_
        refine (r_icmp_gt_f f137_7 ec2).trans ?_
        refine (r_iconst (v := 1) f137_10 rfl).trans ?_
        refine (r_goto f137_11).trans ?_
        exact r_zreturn f137_15 rfl (by decide)
      refine (r_stat (as := [.int (x1 / 10), .int 0, .int 3]) (v := (some (.int 1))) (h1 := h) f140_3 rfl zg137 rfl rfl rfl rfl rfl rfl hc3).trans ?_
      exact r_zreturn f140_6 rfl (by decide)
    refine (r_stat (as := [.int (x1 / 10)]) (v := (some (.int 1))) (h1 := h) f143_8 rfl zg140 rfl rfl rfl rfl rfl rfl hc2).trans ?_
    refine (r_if_eq_f f143_11 (by decide)).trans ?_
    refine (r_iloadn f143_14 rfl).trans ?_
    refine (r_bipush (v := 10) f143_15 rfl).trans ?_
    refine (r_irem (v := (x1 - x1 / 10 * 10)) f143_17 (by decide) rfl).trans ?_
    refine (r_iconst (v := 4) f143_18 rfl).trans ?_
    refine (r_icmp_ge_f f143_19 ec3).trans ?_
    refine (r_iconst (v := 1) f143_22 rfl).trans ?_
    refine (r_goto f143_23).trans ?_
    exact r_zreturn f143_27 rfl (by decide)
  refine (r_stat (as := [.int x1]) (v := (some (.int 1))) (h1 := h) f169_1 rfl zg143 rfl rfl rfl rfl rfl rfl hc1).trans ?_
  refine (r_if_eq_f f169_4 (by decide)).trans ?_
  refine (r_iloadn f169_7 rfl).trans ?_
  have hc4 : arun X (n + 16) (d + 3) zM139 0 [some (.int x2)] [] h = some ((some (.int 1)), h) := by
    refine (r_iloadn f139_0 rfl).trans ?_
    refine (r_iconst (v := 0) f139_1 rfl).trans ?_
    refine (r_bipush (v := 9) f139_2 rfl).trans ?_
    have hc5 : arun X (n + 12) (d + 2) zM137 0 [some (.int x2), some (.int 0), some (.int 9)] [] h = some ((some (.int 1)), h) := by
      refine (r_iloadn f137_0 rfl).trans ?_
      refine (r_iloadn f137_1 rfl).trans ?_
      refine (r_icmp_gt_f f137_2 ec4).trans ?_
      refine (r_iloadn f137_5 rfl).trans ?_
      refine (r_iloadn f137_6 rfl).trans ?_
      refine (r_icmp_gt_f f137_7 ec5).trans ?_
      refine (r_iconst (v := 1) f137_10 rfl).trans ?_
      refine (r_goto f137_11).trans ?_
      exact r_zreturn f137_15 rfl (by decide)
    refine (r_stat (as := [.int x2, .int 0, .int 9]) (v := (some (.int 1))) (h1 := h) f139_4 rfl zg137 rfl rfl rfl rfl rfl rfl hc5).trans ?_
    exact r_zreturn f139_7 rfl (by decide)
  refine (r_stat (as := [.int x2]) (v := (some (.int 1))) (h1 := h) f169_8 rfl zg139 rfl rfl rfl rfl rfl rfl hc4).trans ?_
  refine (r_if_eq_f f169_11 (by decide)).trans ?_
  refine (r_iloadn f169_14 rfl).trans ?_
  have hc6 : arun X (n + 13) (d + 3) zM138 0 [some (.int x3)] [] h = some ((some (.int 0)), h) := by
    refine (r_iloadn f138_0 rfl).trans ?_
    refine (r_iconst (v := 0) f138_1 rfl).trans ?_
    refine (r_sipush (v := 3649) f138_2 rfl).trans ?_
    have hc7 : arun X (n + 9) (d + 2) zM137 0 [some (.int x3), some (.int 0), some (.int 3649)] [] h = some ((some (.int 0)), h) := by
      refine (r_iloadn f137_0 rfl).trans ?_
      refine (r_iloadn f137_1 rfl).trans ?_
      refine (r_icmp_gt_f f137_2 ec6).trans ?_
      refine (r_iloadn f137_5 rfl).trans ?_
      refine (r_iloadn f137_6 rfl).trans ?_
      refine (r_icmp_gt_t f137_7 ec7).trans ?_
      refine (r_iconst (v := 0) f137_14 rfl).trans ?_
      exact r_zreturn f137_15 rfl (by decide)
    refine (r_stat (as := [.int x3, .int 0, .int 3649]) (v := (some (.int 0))) (h1 := h) f138_5 rfl zg137 rfl rfl rfl rfl rfl rfl hc7).trans ?_
    exact r_zreturn f138_8 rfl (by decide)
  refine (r_stat (as := [.int x3]) (v := (some (.int 0))) (h1 := h) f169_15 rfl zg138 rfl rfl rfl rfl rfl rfl hc6).trans ?_
  refine (r_if_ne_f f169_18 (by decide)).trans ?_
  refine (r_iconst (v := (-1)) f169_21 rfl).trans ?_
  exact r_ireturn f169_22 rfl
set_option maxHeartbeats 40000000 in
theorem qm25_7_0 {X : aX} {n d : Nat} {h : aH} {x1 : Int32} {x2 : Int32} {x3 : Int32}  (ec0 : ¬ x1 < 0) (em0 : 33 < x1) : arun X (n + 14) (d + 3) zM266 0 [some (.ref 72), some (.int x1), some (.int x2), some (.int x3)] [] h = some (some (.int (-1)), h) := by
  refine (r_iloadn f266_0 rfl).trans ?_
  have hc1 : arun X (n + 12) (d + 2) zM263 0 [some (.int x1)] [] h = some ((some (.int 0)), h) := by
    refine (r_iloadn f263_0 rfl).trans ?_
    refine (r_iconst (v := 0) f263_1 rfl).trans ?_
    refine (r_bipush (v := 33) f263_2 rfl).trans ?_
    have hc2 : arun X (n + 8) (d + 1) zM196 0 [some (.int x1), some (.int 0), some (.int 33)] [] h = some ((some (.int 0)), h) := by
      refine (r_iloadn f196_0 rfl).trans ?_
      refine (r_iloadn f196_1 rfl).trans ?_
      refine (r_icmp_lt_f f196_2 ec0).trans ?_
      refine (r_iloadn f196_5 rfl).trans ?_
      refine (r_iloadn f196_6 rfl).trans ?_
      refine (r_icmp_gt_t f196_7 em0).trans ?_
      refine (r_iconst (v := 0) f196_14 rfl).trans ?_
      exact r_zreturn f196_15 rfl (by decide)
    refine (r_stat (as := [.int x1, .int 0, .int 33]) (v := (some (.int 0))) (h1 := h) f263_4 rfl zg196 rfl rfl rfl rfl rfl rfl hc2).trans ?_
    refine (r_if_eq_t f263_7 (by decide)).trans ?_
    refine (r_iconst (v := 0) f263_22 rfl).trans ?_
    exact r_zreturn f263_23 rfl (by decide)
  refine (r_stat (as := [.int x1]) (v := (some (.int 0))) (h1 := h) f266_1 rfl zg263 rfl rfl rfl rfl rfl rfl hc1).trans ?_
  refine (r_if_eq_t f266_4 (by decide)).trans ?_
  refine (r_iconst (v := (-1)) f266_31 rfl).trans ?_
  exact r_ireturn f266_32 rfl
set_option maxHeartbeats 40000000 in
theorem qm25_7_1 {X : aX} {n d : Nat} {h : aH} {x1 : Int32} {x2 : Int32} {x3 : Int32}  (ec0 : ¬ x1 < 0) (ec4 : ¬ x2 < 0) (ec5 : ¬ 9 < x2) (ec6 : ¬ x3 < 0) (ec7 : 3649 < x3) (em0 : ¬ 33 < x1) (em1 : ¬ 3 < (x1 - x1 / 10 * 10)) : arun X (n + 20) (d + 3) zM266 0 [some (.ref 72), some (.int x1), some (.int x2), some (.int x3)] [] h = some (some (.int (-1)), h) := by
  refine (r_iloadn f266_0 rfl).trans ?_
  have hc1 : arun X (n + 18) (d + 2) zM263 0 [some (.int x1)] [] h = some ((some (.int 1)), h) := by
    refine (r_iloadn f263_0 rfl).trans ?_
    refine (r_iconst (v := 0) f263_1 rfl).trans ?_
    refine (r_bipush (v := 33) f263_2 rfl).trans ?_
    have hc2 : arun X (n + 14) (d + 1) zM196 0 [some (.int x1), some (.int 0), some (.int 33)] [] h = some ((some (.int 1)), h) := by
      refine (r_iloadn f196_0 rfl).trans ?_
      refine (r_iloadn f196_1 rfl).trans ?_
      refine (r_icmp_lt_f f196_2 ec0).trans ?_
      refine (r_iloadn f196_5 rfl).trans ?_
      refine (r_iloadn f196_6 rfl).trans ?_
      refine (r_icmp_gt_f f196_7 em0).trans ?_
      refine (r_iconst (v := 1) f196_10 rfl).trans ?_
      refine (r_goto f196_11).trans ?_
      exact r_zreturn f196_15 rfl (by decide)
    refine (r_stat (as := [.int x1, .int 0, .int 33]) (v := (some (.int 1))) (h1 := h) f263_4 rfl zg196 rfl rfl rfl rfl rfl rfl hc2).trans ?_
    refine (r_if_eq_f f263_7 (by decide)).trans ?_
    refine (r_iloadn f263_10 rfl).trans ?_
    refine (r_bipush (v := 10) f263_11 rfl).trans ?_
    refine (r_irem (v := (x1 - x1 / 10 * 10)) f263_13 (by decide) rfl).trans ?_
    refine (r_iconst (v := 3) f263_14 rfl).trans ?_
    refine (r_icmp_gt_f f263_15 em1).trans ?_
    refine (r_iconst (v := 1) f263_18 rfl).trans ?_
    refine (r_goto f263_19).trans ?_
    exact r_zreturn f263_23 rfl (by decide)
  refine (r_stat (as := [.int x1]) (v := (some (.int 1))) (h1 := h) f266_1 rfl zg263 rfl rfl rfl rfl rfl rfl hc1).trans ?_
  refine (r_if_eq_f f266_4 (by decide)).trans ?_
  refine (r_iloadn f266_7 rfl).trans ?_
  have hc3 : arun X (n + 15) (d + 2) zM198 0 [some (.int x2)] [] h = some ((some (.int 1)), h) := by
    refine (r_iloadn f198_0 rfl).trans ?_
    refine (r_iconst (v := 0) f198_1 rfl).trans ?_
    refine (r_bipush (v := 9) f198_2 rfl).trans ?_
    have hc4 : arun X (n + 11) (d + 1) zM196 0 [some (.int x2), some (.int 0), some (.int 9)] [] h = some ((some (.int 1)), h) := by
      refine (r_iloadn f196_0 rfl).trans ?_
      refine (r_iloadn f196_1 rfl).trans ?_
      refine (r_icmp_lt_f f196_2 ec4).trans ?_
      refine (r_iloadn f196_5 rfl).trans ?_
      refine (r_iloadn f196_6 rfl).trans ?_
      refine (r_icmp_gt_f f196_7 ec5).trans ?_
      refine (r_iconst (v := 1) f196_10 rfl).trans ?_
      refine (r_goto f196_11).trans ?_
      exact r_zreturn f196_15 rfl (by decide)
    refine (r_stat (as := [.int x2, .int 0, .int 9]) (v := (some (.int 1))) (h1 := h) f198_4 rfl zg196 rfl rfl rfl rfl rfl rfl hc4).trans ?_
    exact r_zreturn f198_7 rfl (by decide)
  refine (r_stat (as := [.int x2]) (v := (some (.int 1))) (h1 := h) f266_8 rfl zg198 rfl rfl rfl rfl rfl rfl hc3).trans ?_
  refine (r_if_eq_f f266_11 (by decide)).trans ?_
  refine (r_iloadn f266_14 rfl).trans ?_
  have hc5 : arun X (n + 12) (d + 2) zM197 0 [some (.int x3)] [] h = some ((some (.int 0)), h) := by
    refine (r_iloadn f197_0 rfl).trans ?_
    refine (r_iconst (v := 0) f197_1 rfl).trans ?_
    refine (r_sipush (v := 3649) f197_2 rfl).trans ?_
    have hc6 : arun X (n + 8) (d + 1) zM196 0 [some (.int x3), some (.int 0), some (.int 3649)] [] h = some ((some (.int 0)), h) := by
      refine (r_iloadn f196_0 rfl).trans ?_
      refine (r_iloadn f196_1 rfl).trans ?_
      refine (r_icmp_lt_f f196_2 ec6).trans ?_
      refine (r_iloadn f196_5 rfl).trans ?_
      refine (r_iloadn f196_6 rfl).trans ?_
      refine (r_icmp_gt_t f196_7 ec7).trans ?_
      refine (r_iconst (v := 0) f196_14 rfl).trans ?_
      exact r_zreturn f196_15 rfl (by decide)
    refine (r_stat (as := [.int x3, .int 0, .int 3649]) (v := (some (.int 0))) (h1 := h) f197_5 rfl zg196 rfl rfl rfl rfl rfl rfl hc6).trans ?_
    exact r_zreturn f197_8 rfl (by decide)
  refine (r_stat (as := [.int x3]) (v := (some (.int 0))) (h1 := h) f266_15 rfl zg197 rfl rfl rfl rfl rfl rfl hc5).trans ?_
  refine (r_if_eq_t f266_18 (by decide)).trans ?_
  refine (r_iconst (v := (-1)) f266_31 rfl).trans ?_
  exact r_ireturn f266_32 rfl
set_option maxHeartbeats 40000000 in
theorem qc25_8 {X : aX} {n d : Nat} {h : aH} {x1 : Int32} {x2 : Int32} {x3 : Int32}  (g0 : h.1[0]? = some (.inr (11, zF0))) (g33 : h.1[33]? = some (.inr (10, zF33))) (ec0 : ¬ x1 < 0) (ec1 : ¬ (x1 / 10) < 0) (ec2 : ¬ 3 < (x1 / 10)) (ec3 : ¬ 4 ≤ (x1 - x1 / 10 * 10)) (ec4 : ¬ x2 < 0) (ec5 : ¬ 9 < x2) (ec6 : ¬ x3 < 0) (ec7 : ¬ 3649 < x3) : arun X (n + 24) (d + 4) zM169 0 [some (.ref 0), some (.int x1), some (.int x2), some (.int x3), none] [] h = some (some (.int (-2)), h) := by
  refine (r_iloadn f169_0 rfl).trans ?_
  have hc1 : arun X (n + 22) (d + 3) zM143 0 [some (.int x1)] [] h = some ((some (.int 1)), h) := by
    refine (r_iloadn f143_0 rfl).trans ?_
    refine (r_if_lt_f f143_1 ec0).trans ?_
    refine (r_iloadn f143_4 rfl).trans ?_
    refine (r_bipush (v := 10) f143_5 rfl).trans ?_
    refine (r_idiv (v := (x1 / 10)) f143_7 (by decide) rfl).trans ?_
    have hc2 : arun X (n + 16) (d + 2) zM140 0 [some (.int (x1 / 10))] [] h = some ((some (.int 1)), h) := by
      refine (r_iloadn f140_0 rfl).trans ?_
      refine (r_iconst (v := 0) f140_1 rfl).trans ?_
      refine (r_iconst (v := 3) f140_2 rfl).trans ?_
      have hc3 : arun X (n + 12) (d + 1) zM137 0 [some (.int (x1 / 10)), some (.int 0), some (.int 3)] [] h = some ((some (.int 1)), h) := by
        refine (r_iloadn f137_0 rfl).trans ?_
        refine (r_iloadn f137_1 rfl).trans ?_
        refine (r_icmp_gt_f f137_2 ec1).trans ?_
        refine (r_iloadn f137_5 rfl).trans ?_
        refine (r_iloadn f137_6 rfl).trans ?_
        refine (r_icmp_gt_f f137_7 ec2).trans ?_
        refine (r_iconst (v := 1) f137_10 rfl).trans ?_
        refine (r_goto f137_11).trans ?_
        exact r_zreturn f137_15 rfl (by decide)
      refine (r_stat (as := [.int (x1 / 10), .int 0, .int 3]) (v := (some (.int 1))) (h1 := h) f140_3 rfl zg137 rfl rfl rfl rfl rfl rfl hc3).trans ?_
      exact r_zreturn f140_6 rfl (by decide)
    refine (r_stat (as := [.int (x1 / 10)]) (v := (some (.int 1))) (h1 := h) f143_8 rfl zg140 rfl rfl rfl rfl rfl rfl hc2).trans ?_
    refine (r_if_eq_f f143_11 (by decide)).trans ?_
    refine (r_iloadn f143_14 rfl).trans ?_
    refine (r_bipush (v := 10) f143_15 rfl).trans ?_
    refine (r_irem (v := (x1 - x1 / 10 * 10)) f143_17 (by decide) rfl).trans ?_
    refine (r_iconst (v := 4) f143_18 rfl).trans ?_
    refine (r_icmp_ge_f f143_19 ec3).trans ?_
    refine (r_iconst (v := 1) f143_22 rfl).trans ?_
    refine (r_goto f143_23).trans ?_
    exact r_zreturn f143_27 rfl (by decide)
  refine (r_stat (as := [.int x1]) (v := (some (.int 1))) (h1 := h) f169_1 rfl zg143 rfl rfl rfl rfl rfl rfl hc1).trans ?_
  refine (r_if_eq_f f169_4 (by decide)).trans ?_
  refine (r_iloadn f169_7 rfl).trans ?_
  have hc4 : arun X (n + 19) (d + 3) zM139 0 [some (.int x2)] [] h = some ((some (.int 1)), h) := by
    refine (r_iloadn f139_0 rfl).trans ?_
    refine (r_iconst (v := 0) f139_1 rfl).trans ?_
    refine (r_bipush (v := 9) f139_2 rfl).trans ?_
    have hc5 : arun X (n + 15) (d + 2) zM137 0 [some (.int x2), some (.int 0), some (.int 9)] [] h = some ((some (.int 1)), h) := by
      refine (r_iloadn f137_0 rfl).trans ?_
      refine (r_iloadn f137_1 rfl).trans ?_
      refine (r_icmp_gt_f f137_2 ec4).trans ?_
      refine (r_iloadn f137_5 rfl).trans ?_
      refine (r_iloadn f137_6 rfl).trans ?_
      refine (r_icmp_gt_f f137_7 ec5).trans ?_
      refine (r_iconst (v := 1) f137_10 rfl).trans ?_
      refine (r_goto f137_11).trans ?_
      exact r_zreturn f137_15 rfl (by decide)
    refine (r_stat (as := [.int x2, .int 0, .int 9]) (v := (some (.int 1))) (h1 := h) f139_4 rfl zg137 rfl rfl rfl rfl rfl rfl hc5).trans ?_
    exact r_zreturn f139_7 rfl (by decide)
  refine (r_stat (as := [.int x2]) (v := (some (.int 1))) (h1 := h) f169_8 rfl zg139 rfl rfl rfl rfl rfl rfl hc4).trans ?_
  refine (r_if_eq_f f169_11 (by decide)).trans ?_
  refine (r_iloadn f169_14 rfl).trans ?_
  have hc6 : arun X (n + 16) (d + 3) zM138 0 [some (.int x3)] [] h = some ((some (.int 1)), h) := by
    refine (r_iloadn f138_0 rfl).trans ?_
    refine (r_iconst (v := 0) f138_1 rfl).trans ?_
    refine (r_sipush (v := 3649) f138_2 rfl).trans ?_
    have hc7 : arun X (n + 12) (d + 2) zM137 0 [some (.int x3), some (.int 0), some (.int 3649)] [] h = some ((some (.int 1)), h) := by
      refine (r_iloadn f137_0 rfl).trans ?_
      refine (r_iloadn f137_1 rfl).trans ?_
      refine (r_icmp_gt_f f137_2 ec6).trans ?_
      refine (r_iloadn f137_5 rfl).trans ?_
      refine (r_iloadn f137_6 rfl).trans ?_
      refine (r_icmp_gt_f f137_7 ec7).trans ?_
      refine (r_iconst (v := 1) f137_10 rfl).trans ?_
      refine (r_goto f137_11).trans ?_
      exact r_zreturn f137_15 rfl (by decide)
    refine (r_stat (as := [.int x3, .int 0, .int 3649]) (v := (some (.int 1))) (h1 := h) f138_5 rfl zg137 rfl rfl rfl rfl rfl rfl hc7).trans ?_
    exact r_zreturn f138_8 rfl (by decide)
  refine (r_stat (as := [.int x3]) (v := (some (.int 1))) (h1 := h) f169_15 rfl zg138 rfl rfl rfl rfl rfl rfl hc6).trans ?_
  refine (r_if_ne_t f169_18 (by decide)).trans ?_
  refine (r_aloadn f169_23 rfl).trans ?_
  refine (r_get (v := .ref 33) f169_24 g0 rfl).trans ?_
  refine (r_iloadn f169_27 rfl).trans ?_
  refine (r_iloadn f169_28 rfl).trans ?_
  refine (r_iloadn f169_29 rfl).trans ?_
  have hc8 : arun X (n + 9) (d + 3) zM120 0 [some (.ref 33), some (.int x1), some (.int x2), some (.int x3), none] [] h = some ((some (.int (-1))), h) := by
    refine (r_aloadn f120_0 rfl).trans ?_
    refine (r_get (v := .int 0) f120_1 g33 rfl).trans ?_
    refine (r_iconst (v := 1) f120_4 rfl).trans ?_
    refine (r_isub (v := (-1)) f120_5 (by decide)).trans ?_
    refine (r_istore (L' := [some (.ref 33), some (.int x1), some (.int x2), some (.int x3), some (.int (-1))]) f120_6 rfl rfl).trans ?_
    refine (r_iload f120_8 rfl).trans ?_
    refine (r_if_lt_t f120_10 (by decide)).trans ?_
    refine (r_iconst (v := (-1)) f120_55 rfl).trans ?_
    exact r_ireturn f120_56 rfl
  refine (r_virt (as := [.int x1, .int x2, .int x3]) (v := (some (.int (-1)))) (h1 := h) f169_30 g33 zg120 rfl rfl rfl rfl rfl rfl hc8).trans ?_
  refine (r_istore (L' := [some (.ref 0), some (.int x1), some (.int x2), some (.int x3), some (.int (-1))]) f169_33 rfl rfl).trans ?_
  refine (r_iload f169_35 rfl).trans ?_
  refine (r_iconst (v := (-1)) f169_37 rfl).trans ?_
  refine (r_icmp_ne_f f169_38 (by decide)).trans ?_
  refine (r_bipush (v := (-2)) f169_41 rfl).trans ?_
  refine (r_goto f169_43).trans ?_
  exact r_ireturn f169_48 rfl
set_option maxHeartbeats 40000000 in
theorem qm25_8_0 {X : aX} {n d : Nat} {h : aH} {x1 : Int32} {x2 : Int32} {x3 : Int32}  (ec0 : ¬ x1 < 0) (em0 : 33 < x1) : arun X (n + 14) (d + 3) zM266 0 [some (.ref 72), some (.int x1), some (.int x2), some (.int x3)] [] h = some (some (.int (-1)), h) := by
  refine (r_iloadn f266_0 rfl).trans ?_
  have hc1 : arun X (n + 12) (d + 2) zM263 0 [some (.int x1)] [] h = some ((some (.int 0)), h) := by
    refine (r_iloadn f263_0 rfl).trans ?_
    refine (r_iconst (v := 0) f263_1 rfl).trans ?_
    refine (r_bipush (v := 33) f263_2 rfl).trans ?_
    have hc2 : arun X (n + 8) (d + 1) zM196 0 [some (.int x1), some (.int 0), some (.int 33)] [] h = some ((some (.int 0)), h) := by
      refine (r_iloadn f196_0 rfl).trans ?_
      refine (r_iloadn f196_1 rfl).trans ?_
      refine (r_icmp_lt_f f196_2 ec0).trans ?_
      refine (r_iloadn f196_5 rfl).trans ?_
      refine (r_iloadn f196_6 rfl).trans ?_
      refine (r_icmp_gt_t f196_7 em0).trans ?_
      refine (r_iconst (v := 0) f196_14 rfl).trans ?_
      exact r_zreturn f196_15 rfl (by decide)
    refine (r_stat (as := [.int x1, .int 0, .int 33]) (v := (some (.int 0))) (h1 := h) f263_4 rfl zg196 rfl rfl rfl rfl rfl rfl hc2).trans ?_
    refine (r_if_eq_t f263_7 (by decide)).trans ?_
    refine (r_iconst (v := 0) f263_22 rfl).trans ?_
    exact r_zreturn f263_23 rfl (by decide)
  refine (r_stat (as := [.int x1]) (v := (some (.int 0))) (h1 := h) f266_1 rfl zg263 rfl rfl rfl rfl rfl rfl hc1).trans ?_
  refine (r_if_eq_t f266_4 (by decide)).trans ?_
  refine (r_iconst (v := (-1)) f266_31 rfl).trans ?_
  exact r_ireturn f266_32 rfl
set_option maxHeartbeats 40000000 in
theorem qm25_8_1 {X : aX} {n d : Nat} {h : aH} {x1 : Int32} {x2 : Int32} {x3 : Int32}  (g72 : h.1[72]? = some (.inr (12, zF72))) (ec0 : ¬ x1 < 0) (ec4 : ¬ x2 < 0) (ec5 : ¬ 9 < x2) (ec6 : ¬ x3 < 0) (ec7 : ¬ 3649 < x3) (em0 : ¬ 33 < x1) (em1 : ¬ 3 < (x1 - x1 / 10 * 10)) : arun X (n + 23) (d + 3) zM266 0 [some (.ref 72), some (.int x1), some (.int x2), some (.int x3)] [] h = some (some (.int (-2)), h) := by
  refine (r_iloadn f266_0 rfl).trans ?_
  have hc1 : arun X (n + 21) (d + 2) zM263 0 [some (.int x1)] [] h = some ((some (.int 1)), h) := by
    refine (r_iloadn f263_0 rfl).trans ?_
    refine (r_iconst (v := 0) f263_1 rfl).trans ?_
    refine (r_bipush (v := 33) f263_2 rfl).trans ?_
    have hc2 : arun X (n + 17) (d + 1) zM196 0 [some (.int x1), some (.int 0), some (.int 33)] [] h = some ((some (.int 1)), h) := by
      refine (r_iloadn f196_0 rfl).trans ?_
      refine (r_iloadn f196_1 rfl).trans ?_
      refine (r_icmp_lt_f f196_2 ec0).trans ?_
      refine (r_iloadn f196_5 rfl).trans ?_
      refine (r_iloadn f196_6 rfl).trans ?_
      refine (r_icmp_gt_f f196_7 em0).trans ?_
      refine (r_iconst (v := 1) f196_10 rfl).trans ?_
      refine (r_goto f196_11).trans ?_
      exact r_zreturn f196_15 rfl (by decide)
    refine (r_stat (as := [.int x1, .int 0, .int 33]) (v := (some (.int 1))) (h1 := h) f263_4 rfl zg196 rfl rfl rfl rfl rfl rfl hc2).trans ?_
    refine (r_if_eq_f f263_7 (by decide)).trans ?_
    refine (r_iloadn f263_10 rfl).trans ?_
    refine (r_bipush (v := 10) f263_11 rfl).trans ?_
    refine (r_irem (v := (x1 - x1 / 10 * 10)) f263_13 (by decide) rfl).trans ?_
    refine (r_iconst (v := 3) f263_14 rfl).trans ?_
    refine (r_icmp_gt_f f263_15 em1).trans ?_
    refine (r_iconst (v := 1) f263_18 rfl).trans ?_
    refine (r_goto f263_19).trans ?_
    exact r_zreturn f263_23 rfl (by decide)
  refine (r_stat (as := [.int x1]) (v := (some (.int 1))) (h1 := h) f266_1 rfl zg263 rfl rfl rfl rfl rfl rfl hc1).trans ?_
  refine (r_if_eq_f f266_4 (by decide)).trans ?_
  refine (r_iloadn f266_7 rfl).trans ?_
  have hc3 : arun X (n + 18) (d + 2) zM198 0 [some (.int x2)] [] h = some ((some (.int 1)), h) := by
    refine (r_iloadn f198_0 rfl).trans ?_
    refine (r_iconst (v := 0) f198_1 rfl).trans ?_
    refine (r_bipush (v := 9) f198_2 rfl).trans ?_
    have hc4 : arun X (n + 14) (d + 1) zM196 0 [some (.int x2), some (.int 0), some (.int 9)] [] h = some ((some (.int 1)), h) := by
      refine (r_iloadn f196_0 rfl).trans ?_
      refine (r_iloadn f196_1 rfl).trans ?_
      refine (r_icmp_lt_f f196_2 ec4).trans ?_
      refine (r_iloadn f196_5 rfl).trans ?_
      refine (r_iloadn f196_6 rfl).trans ?_
      refine (r_icmp_gt_f f196_7 ec5).trans ?_
      refine (r_iconst (v := 1) f196_10 rfl).trans ?_
      refine (r_goto f196_11).trans ?_
      exact r_zreturn f196_15 rfl (by decide)
    refine (r_stat (as := [.int x2, .int 0, .int 9]) (v := (some (.int 1))) (h1 := h) f198_4 rfl zg196 rfl rfl rfl rfl rfl rfl hc4).trans ?_
    exact r_zreturn f198_7 rfl (by decide)
  refine (r_stat (as := [.int x2]) (v := (some (.int 1))) (h1 := h) f266_8 rfl zg198 rfl rfl rfl rfl rfl rfl hc3).trans ?_
  refine (r_if_eq_f f266_11 (by decide)).trans ?_
  refine (r_iloadn f266_14 rfl).trans ?_
  have hc5 : arun X (n + 15) (d + 2) zM197 0 [some (.int x3)] [] h = some ((some (.int 1)), h) := by
    refine (r_iloadn f197_0 rfl).trans ?_
    refine (r_iconst (v := 0) f197_1 rfl).trans ?_
    refine (r_sipush (v := 3649) f197_2 rfl).trans ?_
    have hc6 : arun X (n + 11) (d + 1) zM196 0 [some (.int x3), some (.int 0), some (.int 3649)] [] h = some ((some (.int 1)), h) := by
      refine (r_iloadn f196_0 rfl).trans ?_
      refine (r_iloadn f196_1 rfl).trans ?_
      refine (r_icmp_lt_f f196_2 ec6).trans ?_
      refine (r_iloadn f196_5 rfl).trans ?_
      refine (r_iloadn f196_6 rfl).trans ?_
      refine (r_icmp_gt_f f196_7 ec7).trans ?_
      refine (r_iconst (v := 1) f196_10 rfl).trans ?_
      refine (r_goto f196_11).trans ?_
      exact r_zreturn f196_15 rfl (by decide)
    refine (r_stat (as := [.int x3, .int 0, .int 3649]) (v := (some (.int 1))) (h1 := h) f197_5 rfl zg196 rfl rfl rfl rfl rfl rfl hc6).trans ?_
    exact r_zreturn f197_8 rfl (by decide)
  refine (r_stat (as := [.int x3]) (v := (some (.int 1))) (h1 := h) f266_15 rfl zg197 rfl rfl rfl rfl rfl rfl hc5).trans ?_
  refine (r_if_eq_f f266_18 (by decide)).trans ?_
  refine (r_aloadn f266_21 rfl).trans ?_
  refine (r_iloadn f266_22 rfl).trans ?_
  refine (r_iloadn f266_23 rfl).trans ?_
  refine (r_iloadn f266_24 rfl).trans ?_
  have hc7 : arun X (n + 9) (d + 2) zM265 0 [some (.ref 72), some (.int x1), some (.int x2), some (.int x3), none] [] h = some ((some (.int (-2))), h) := by
    refine (r_aloadn f265_0 rfl).trans ?_
    refine (r_get (v := .int 0) f265_1 g72 rfl).trans ?_
    refine (r_iconst (v := 1) f265_4 rfl).trans ?_
    refine (r_isub (v := (-1)) f265_5 (by decide)).trans ?_
    refine (r_istore (L' := [some (.ref 72), some (.int x1), some (.int x2), some (.int x3), some (.int (-1))]) f265_6 rfl rfl).trans ?_
    refine (r_iload f265_8 rfl).trans ?_
    refine (r_if_lt_t f265_10 (by decide)).trans ?_
    refine (r_bipush (v := (-2)) f265_55 rfl).trans ?_
    exact r_ireturn f265_57 rfl
  refine (r_virt (as := [.int x1, .int x2, .int x3]) (v := (some (.int (-2)))) (h1 := h) f266_25 g72 zg265 rfl rfl rfl rfl rfl rfl hc7).trans ?_
  refine (r_goto f266_28).trans ?_
  exact r_ireturn f266_32 rfl
set_option maxHeartbeats 40000000 in
theorem qc26_0 {X : aX} {n d : Nat} {h : aH} {x1 : Int32} {x2 : Int32} {x3 : Int32} {x4 : Int32}  (g0 : h.1[0]? = some (.inr (11, zF0))) (g1 : h.1[1]? = some (.inr (6, zF1))) (ec0 : x1 < 0) : arun X (n + 19) (d + 4) zM170 0 [some (.ref 0), some (.int x1), some (.int x2), some (.int x3), some (.int x4)] [] h = some (some (.int (-1)), h) := by
  refine (r_aloadn f170_0 rfl).trans ?_
  refine (r_get (v := .ref 1) f170_1 g0 rfl).trans ?_
  refine (r_iloadn f170_4 rfl).trans ?_
  have hc1 : arun X (n + 15) (d + 3) zM75 0 [some (.ref 1), some (.int x1)] [] h = some ((some (.int 0)), h) := by
    refine (r_aloadn f75_0 rfl).trans ?_
    refine (r_iloadn f75_1 rfl).trans ?_
    have hc2 : arun X (n + 12) (d + 2) zM74 0 [some (.ref 1), some (.int x1)] [] h = some ((some (.int 0)), h) := by
      refine (r_iloadn f74_0 rfl).trans ?_
      refine (r_iconst (v := 0) f74_1 rfl).trans ?_
      refine (r_aloadn f74_2 rfl).trans ?_
      refine (r_get (v := .int 0) f74_3 g1 rfl).trans ?_
      refine (r_iconst (v := 1) f74_6 rfl).trans ?_
      refine (r_isub (v := (-1)) f74_7 (by decide)).trans ?_
      have hc3 : arun X (n + 5) (d + 1) zM137 0 [some (.int x1), some (.int 0), some (.int (-1))] [] h = some ((some (.int 0)), h) := by
        refine (r_iloadn f137_0 rfl).trans ?_
        refine (r_iloadn f137_1 rfl).trans ?_
        refine (r_icmp_gt_t f137_2 ec0).trans ?_
        refine (r_iconst (v := 0) f137_14 rfl).trans ?_
        exact r_zreturn f137_15 rfl (by decide)
      refine (r_stat (as := [.int x1, .int 0, .int (-1)]) (v := (some (.int 0))) (h1 := h) f74_8 rfl zg137 rfl rfl rfl rfl rfl rfl hc3).trans ?_
      exact r_zreturn f74_11 rfl (by decide)
    refine (r_virt (as := [.int x1]) (v := (some (.int 0))) (h1 := h) f75_2 g1 zg74 rfl rfl rfl rfl rfl rfl hc2).trans ?_
    refine (r_if_eq_t f75_5 (by decide)).trans ?_
    refine (r_iconst (v := 0) f75_24 rfl).trans ?_
    exact r_zreturn f75_25 rfl (by decide)
  refine (r_virt (as := [.int x1]) (v := (some (.int 0))) (h1 := h) f170_5 g1 zg75 rfl rfl rfl rfl rfl rfl hc1).trans ?_
  refine (r_if_eq_t f170_8 (by decide)).trans ?_
  refine (r_iconst (v := (-1)) f170_36 rfl).trans ?_
  exact r_ireturn f170_37 rfl
set_option maxHeartbeats 40000000 in
theorem qm26_0_0 {X : aX} {n d : Nat} {h : aH} {x1 : Int32} {x2 : Int32} {x3 : Int32} {x4 : Int32}  (g72 : h.1[72]? = some (.inr (12, zF72))) (ec0 : x1 < 0) : arun X (n + 18) (d + 4) zM274 0 [some (.ref 72), some (.int x1), some (.int x2), some (.int x3), some (.int x4)] [] h = some (some (.int (-1)), h) := by
  refine (r_aloadn f274_0 rfl).trans ?_
  refine (r_iloadn f274_1 rfl).trans ?_
  have hc1 : arun X (n + 15) (d + 3) zM202 0 [some (.ref 72), some (.int x1)] [] h = some ((some (.int 0)), h) := by
    refine (r_aloadn f202_0 rfl).trans ?_
    refine (r_iloadn f202_1 rfl).trans ?_
    have hc2 : arun X (n + 12) (d + 2) zM200 0 [some (.ref 72), some (.int x1)] [] h = some ((some (.int 0)), h) := by
      refine (r_iloadn f200_0 rfl).trans ?_
      refine (r_iconst (v := 0) f200_1 rfl).trans ?_
      refine (r_aloadn f200_2 rfl).trans ?_
      refine (r_get (v := .int 0) f200_3 g72 rfl).trans ?_
      refine (r_iconst (v := 1) f200_6 rfl).trans ?_
      refine (r_isub (v := (-1)) f200_7 (by decide)).trans ?_
      have hc3 : arun X (n + 5) (d + 1) zM196 0 [some (.int x1), some (.int 0), some (.int (-1))] [] h = some ((some (.int 0)), h) := by
        refine (r_iloadn f196_0 rfl).trans ?_
        refine (r_iloadn f196_1 rfl).trans ?_
        refine (r_icmp_lt_t f196_2 ec0).trans ?_
        refine (r_iconst (v := 0) f196_14 rfl).trans ?_
        exact r_zreturn f196_15 rfl (by decide)
      refine (r_stat (as := [.int x1, .int 0, .int (-1)]) (v := (some (.int 0))) (h1 := h) f200_8 rfl zg196 rfl rfl rfl rfl rfl rfl hc3).trans ?_
      exact r_zreturn f200_11 rfl (by decide)
    refine (r_virt (as := [.int x1]) (v := (some (.int 0))) (h1 := h) f202_2 g72 zg200 rfl rfl rfl rfl rfl rfl hc2).trans ?_
    refine (r_if_eq_t f202_5 (by decide)).trans ?_
    refine (r_iconst (v := 0) f202_25 rfl).trans ?_
    exact r_zreturn f202_26 rfl (by decide)
  refine (r_virt (as := [.int x1]) (v := (some (.int 0))) (h1 := h) f274_2 g72 zg202 rfl rfl rfl rfl rfl rfl hc1).trans ?_
  refine (r_if_eq_t f274_5 (by decide)).trans ?_
  refine (r_iconst (v := (-1)) f274_33 rfl).trans ?_
  exact r_ireturn f274_34 rfl
set_option maxHeartbeats 40000000 in
theorem qc26_1 {X : aX} {n d : Nat} {h : aH} {x1 : Int32} {x2 : Int32} {x3 : Int32} {x4 : Int32}  (g0 : h.1[0]? = some (.inr (11, zF0))) (g1 : h.1[1]? = some (.inr (6, zF1))) (ec0 : ¬ x1 < 0) (ec1 : (-1) < x1) : arun X (n + 22) (d + 4) zM170 0 [some (.ref 0), some (.int x1), some (.int x2), some (.int x3), some (.int x4)] [] h = some (some (.int (-1)), h) := by
  refine (r_aloadn f170_0 rfl).trans ?_
  refine (r_get (v := .ref 1) f170_1 g0 rfl).trans ?_
  refine (r_iloadn f170_4 rfl).trans ?_
  have hc1 : arun X (n + 18) (d + 3) zM75 0 [some (.ref 1), some (.int x1)] [] h = some ((some (.int 0)), h) := by
    refine (r_aloadn f75_0 rfl).trans ?_
    refine (r_iloadn f75_1 rfl).trans ?_
    have hc2 : arun X (n + 15) (d + 2) zM74 0 [some (.ref 1), some (.int x1)] [] h = some ((some (.int 0)), h) := by
      refine (r_iloadn f74_0 rfl).trans ?_
      refine (r_iconst (v := 0) f74_1 rfl).trans ?_
      refine (r_aloadn f74_2 rfl).trans ?_
      refine (r_get (v := .int 0) f74_3 g1 rfl).trans ?_
      refine (r_iconst (v := 1) f74_6 rfl).trans ?_
      refine (r_isub (v := (-1)) f74_7 (by decide)).trans ?_
      have hc3 : arun X (n + 8) (d + 1) zM137 0 [some (.int x1), some (.int 0), some (.int (-1))] [] h = some ((some (.int 0)), h) := by
        refine (r_iloadn f137_0 rfl).trans ?_
        refine (r_iloadn f137_1 rfl).trans ?_
        refine (r_icmp_gt_f f137_2 ec0).trans ?_
        refine (r_iloadn f137_5 rfl).trans ?_
        refine (r_iloadn f137_6 rfl).trans ?_
        refine (r_icmp_gt_t f137_7 ec1).trans ?_
        refine (r_iconst (v := 0) f137_14 rfl).trans ?_
        exact r_zreturn f137_15 rfl (by decide)
      refine (r_stat (as := [.int x1, .int 0, .int (-1)]) (v := (some (.int 0))) (h1 := h) f74_8 rfl zg137 rfl rfl rfl rfl rfl rfl hc3).trans ?_
      exact r_zreturn f74_11 rfl (by decide)
    refine (r_virt (as := [.int x1]) (v := (some (.int 0))) (h1 := h) f75_2 g1 zg74 rfl rfl rfl rfl rfl rfl hc2).trans ?_
    refine (r_if_eq_t f75_5 (by decide)).trans ?_
    refine (r_iconst (v := 0) f75_24 rfl).trans ?_
    exact r_zreturn f75_25 rfl (by decide)
  refine (r_virt (as := [.int x1]) (v := (some (.int 0))) (h1 := h) f170_5 g1 zg75 rfl rfl rfl rfl rfl rfl hc1).trans ?_
  refine (r_if_eq_t f170_8 (by decide)).trans ?_
  refine (r_iconst (v := (-1)) f170_36 rfl).trans ?_
  exact r_ireturn f170_37 rfl
set_option maxHeartbeats 40000000 in
theorem qm26_1_0 {X : aX} {n d : Nat} {h : aH} {x1 : Int32} {x2 : Int32} {x3 : Int32} {x4 : Int32}  (g72 : h.1[72]? = some (.inr (12, zF72))) (ec0 : ¬ x1 < 0) (ec1 : (-1) < x1) : arun X (n + 21) (d + 4) zM274 0 [some (.ref 72), some (.int x1), some (.int x2), some (.int x3), some (.int x4)] [] h = some (some (.int (-1)), h) := by
  refine (r_aloadn f274_0 rfl).trans ?_
  refine (r_iloadn f274_1 rfl).trans ?_
  have hc1 : arun X (n + 18) (d + 3) zM202 0 [some (.ref 72), some (.int x1)] [] h = some ((some (.int 0)), h) := by
    refine (r_aloadn f202_0 rfl).trans ?_
    refine (r_iloadn f202_1 rfl).trans ?_
    have hc2 : arun X (n + 15) (d + 2) zM200 0 [some (.ref 72), some (.int x1)] [] h = some ((some (.int 0)), h) := by
      refine (r_iloadn f200_0 rfl).trans ?_
      refine (r_iconst (v := 0) f200_1 rfl).trans ?_
      refine (r_aloadn f200_2 rfl).trans ?_
      refine (r_get (v := .int 0) f200_3 g72 rfl).trans ?_
      refine (r_iconst (v := 1) f200_6 rfl).trans ?_
      refine (r_isub (v := (-1)) f200_7 (by decide)).trans ?_
      have hc3 : arun X (n + 8) (d + 1) zM196 0 [some (.int x1), some (.int 0), some (.int (-1))] [] h = some ((some (.int 0)), h) := by
        refine (r_iloadn f196_0 rfl).trans ?_
        refine (r_iloadn f196_1 rfl).trans ?_
        refine (r_icmp_lt_f f196_2 ec0).trans ?_
        refine (r_iloadn f196_5 rfl).trans ?_
        refine (r_iloadn f196_6 rfl).trans ?_
        refine (r_icmp_gt_t f196_7 ec1).trans ?_
        refine (r_iconst (v := 0) f196_14 rfl).trans ?_
        exact r_zreturn f196_15 rfl (by decide)
      refine (r_stat (as := [.int x1, .int 0, .int (-1)]) (v := (some (.int 0))) (h1 := h) f200_8 rfl zg196 rfl rfl rfl rfl rfl rfl hc3).trans ?_
      exact r_zreturn f200_11 rfl (by decide)
    refine (r_virt (as := [.int x1]) (v := (some (.int 0))) (h1 := h) f202_2 g72 zg200 rfl rfl rfl rfl rfl rfl hc2).trans ?_
    refine (r_if_eq_t f202_5 (by decide)).trans ?_
    refine (r_iconst (v := 0) f202_25 rfl).trans ?_
    exact r_zreturn f202_26 rfl (by decide)
  refine (r_virt (as := [.int x1]) (v := (some (.int 0))) (h1 := h) f274_2 g72 zg202 rfl rfl rfl rfl rfl rfl hc1).trans ?_
  refine (r_if_eq_t f274_5 (by decide)).trans ?_
  refine (r_iconst (v := (-1)) f274_33 rfl).trans ?_
  exact r_ireturn f274_34 rfl
set_option maxHeartbeats 40000000 in
theorem qc27_0 {X : aX} {n d : Nat} {h : aH} {x1 : Int32} {x2 : Int32} {x3 : Int32} {x4 : Int32}  (g0 : h.1[0]? = some (.inr (11, zF0))) (g1 : h.1[1]? = some (.inr (6, zF1))) (ec0 : x1 < 0) : arun X (n + 19) (d + 4) zM171 0 [some (.ref 0), some (.int x1), some (.int x2), some (.int x3), some (.int x4), none] [] h = some (some (.int (-2000000000)), h) := by
  refine (r_aloadn f171_0 rfl).trans ?_
  refine (r_get (v := .ref 1) f171_1 g0 rfl).trans ?_
  refine (r_iloadn f171_4 rfl).trans ?_
  have hc1 : arun X (n + 15) (d + 3) zM75 0 [some (.ref 1), some (.int x1)] [] h = some ((some (.int 0)), h) := by
    refine (r_aloadn f75_0 rfl).trans ?_
    refine (r_iloadn f75_1 rfl).trans ?_
    have hc2 : arun X (n + 12) (d + 2) zM74 0 [some (.ref 1), some (.int x1)] [] h = some ((some (.int 0)), h) := by
      refine (r_iloadn f74_0 rfl).trans ?_
      refine (r_iconst (v := 0) f74_1 rfl).trans ?_
      refine (r_aloadn f74_2 rfl).trans ?_
      refine (r_get (v := .int 0) f74_3 g1 rfl).trans ?_
      refine (r_iconst (v := 1) f74_6 rfl).trans ?_
      refine (r_isub (v := (-1)) f74_7 (by decide)).trans ?_
      have hc3 : arun X (n + 5) (d + 1) zM137 0 [some (.int x1), some (.int 0), some (.int (-1))] [] h = some ((some (.int 0)), h) := by
        refine (r_iloadn f137_0 rfl).trans ?_
        refine (r_iloadn f137_1 rfl).trans ?_
        refine (r_icmp_gt_t f137_2 ec0).trans ?_
        refine (r_iconst (v := 0) f137_14 rfl).trans ?_
        exact r_zreturn f137_15 rfl (by decide)
      refine (r_stat (as := [.int x1, .int 0, .int (-1)]) (v := (some (.int 0))) (h1 := h) f74_8 rfl zg137 rfl rfl rfl rfl rfl rfl hc3).trans ?_
      exact r_zreturn f74_11 rfl (by decide)
    refine (r_virt (as := [.int x1]) (v := (some (.int 0))) (h1 := h) f75_2 g1 zg74 rfl rfl rfl rfl rfl rfl hc2).trans ?_
    refine (r_if_eq_t f75_5 (by decide)).trans ?_
    refine (r_iconst (v := 0) f75_24 rfl).trans ?_
    exact r_zreturn f75_25 rfl (by decide)
  refine (r_virt (as := [.int x1]) (v := (some (.int 0))) (h1 := h) f171_5 g1 zg75 rfl rfl rfl rfl rfl rfl hc1).trans ?_
  refine (r_if_eq_t f171_8 (by decide)).trans ?_
  refine (r_ldc (v := (-2000000000)) f171_36 (by decide)).trans ?_
  exact r_ireturn f171_38 rfl
set_option maxHeartbeats 40000000 in
theorem qm27_0_0 {X : aX} {n d : Nat} {h : aH} {x1 : Int32} {x2 : Int32} {x3 : Int32} {x4 : Int32}  (g72 : h.1[72]? = some (.inr (12, zF72))) (ec0 : x1 < 0) : arun X (n + 18) (d + 4) zM278 0 [some (.ref 72), some (.int x1), some (.int x2), some (.int x3), some (.int x4)] [] h = some (some (.int (-2000000000)), h) := by
  refine (r_aloadn f278_0 rfl).trans ?_
  refine (r_iloadn f278_1 rfl).trans ?_
  have hc1 : arun X (n + 15) (d + 3) zM202 0 [some (.ref 72), some (.int x1)] [] h = some ((some (.int 0)), h) := by
    refine (r_aloadn f202_0 rfl).trans ?_
    refine (r_iloadn f202_1 rfl).trans ?_
    have hc2 : arun X (n + 12) (d + 2) zM200 0 [some (.ref 72), some (.int x1)] [] h = some ((some (.int 0)), h) := by
      refine (r_iloadn f200_0 rfl).trans ?_
      refine (r_iconst (v := 0) f200_1 rfl).trans ?_
      refine (r_aloadn f200_2 rfl).trans ?_
      refine (r_get (v := .int 0) f200_3 g72 rfl).trans ?_
      refine (r_iconst (v := 1) f200_6 rfl).trans ?_
      refine (r_isub (v := (-1)) f200_7 (by decide)).trans ?_
      have hc3 : arun X (n + 5) (d + 1) zM196 0 [some (.int x1), some (.int 0), some (.int (-1))] [] h = some ((some (.int 0)), h) := by
        refine (r_iloadn f196_0 rfl).trans ?_
        refine (r_iloadn f196_1 rfl).trans ?_
        refine (r_icmp_lt_t f196_2 ec0).trans ?_
        refine (r_iconst (v := 0) f196_14 rfl).trans ?_
        exact r_zreturn f196_15 rfl (by decide)
      refine (r_stat (as := [.int x1, .int 0, .int (-1)]) (v := (some (.int 0))) (h1 := h) f200_8 rfl zg196 rfl rfl rfl rfl rfl rfl hc3).trans ?_
      exact r_zreturn f200_11 rfl (by decide)
    refine (r_virt (as := [.int x1]) (v := (some (.int 0))) (h1 := h) f202_2 g72 zg200 rfl rfl rfl rfl rfl rfl hc2).trans ?_
    refine (r_if_eq_t f202_5 (by decide)).trans ?_
    refine (r_iconst (v := 0) f202_25 rfl).trans ?_
    exact r_zreturn f202_26 rfl (by decide)
  refine (r_virt (as := [.int x1]) (v := (some (.int 0))) (h1 := h) f278_2 g72 zg202 rfl rfl rfl rfl rfl rfl hc1).trans ?_
  refine (r_if_eq_t f278_5 (by decide)).trans ?_
  refine (r_ldcw (v := (-2000000000)) f278_33 (by decide)).trans ?_
  exact r_ireturn f278_36 rfl
set_option maxHeartbeats 40000000 in
theorem qc27_1 {X : aX} {n d : Nat} {h : aH} {x1 : Int32} {x2 : Int32} {x3 : Int32} {x4 : Int32}  (g0 : h.1[0]? = some (.inr (11, zF0))) (g1 : h.1[1]? = some (.inr (6, zF1))) (ec0 : ¬ x1 < 0) (ec1 : (-1) < x1) : arun X (n + 22) (d + 4) zM171 0 [some (.ref 0), some (.int x1), some (.int x2), some (.int x3), some (.int x4), none] [] h = some (some (.int (-2000000000)), h) := by
  refine (r_aloadn f171_0 rfl).trans ?_
  refine (r_get (v := .ref 1) f171_1 g0 rfl).trans ?_
  refine (r_iloadn f171_4 rfl).trans ?_
  have hc1 : arun X (n + 18) (d + 3) zM75 0 [some (.ref 1), some (.int x1)] [] h = some ((some (.int 0)), h) := by
    refine (r_aloadn f75_0 rfl).trans ?_
    refine (r_iloadn f75_1 rfl).trans ?_
    have hc2 : arun X (n + 15) (d + 2) zM74 0 [some (.ref 1), some (.int x1)] [] h = some ((some (.int 0)), h) := by
      refine (r_iloadn f74_0 rfl).trans ?_
      refine (r_iconst (v := 0) f74_1 rfl).trans ?_
      refine (r_aloadn f74_2 rfl).trans ?_
      refine (r_get (v := .int 0) f74_3 g1 rfl).trans ?_
      refine (r_iconst (v := 1) f74_6 rfl).trans ?_
      refine (r_isub (v := (-1)) f74_7 (by decide)).trans ?_
      have hc3 : arun X (n + 8) (d + 1) zM137 0 [some (.int x1), some (.int 0), some (.int (-1))] [] h = some ((some (.int 0)), h) := by
        refine (r_iloadn f137_0 rfl).trans ?_
        refine (r_iloadn f137_1 rfl).trans ?_
        refine (r_icmp_gt_f f137_2 ec0).trans ?_
        refine (r_iloadn f137_5 rfl).trans ?_
        refine (r_iloadn f137_6 rfl).trans ?_
        refine (r_icmp_gt_t f137_7 ec1).trans ?_
        refine (r_iconst (v := 0) f137_14 rfl).trans ?_
        exact r_zreturn f137_15 rfl (by decide)
      refine (r_stat (as := [.int x1, .int 0, .int (-1)]) (v := (some (.int 0))) (h1 := h) f74_8 rfl zg137 rfl rfl rfl rfl rfl rfl hc3).trans ?_
      exact r_zreturn f74_11 rfl (by decide)
    refine (r_virt (as := [.int x1]) (v := (some (.int 0))) (h1 := h) f75_2 g1 zg74 rfl rfl rfl rfl rfl rfl hc2).trans ?_
    refine (r_if_eq_t f75_5 (by decide)).trans ?_
    refine (r_iconst (v := 0) f75_24 rfl).trans ?_
    exact r_zreturn f75_25 rfl (by decide)
  refine (r_virt (as := [.int x1]) (v := (some (.int 0))) (h1 := h) f171_5 g1 zg75 rfl rfl rfl rfl rfl rfl hc1).trans ?_
  refine (r_if_eq_t f171_8 (by decide)).trans ?_
  refine (r_ldc (v := (-2000000000)) f171_36 (by decide)).trans ?_
  exact r_ireturn f171_38 rfl
set_option maxHeartbeats 40000000 in
theorem qm27_1_0 {X : aX} {n d : Nat} {h : aH} {x1 : Int32} {x2 : Int32} {x3 : Int32} {x4 : Int32}  (g72 : h.1[72]? = some (.inr (12, zF72))) (ec0 : ¬ x1 < 0) (ec1 : (-1) < x1) : arun X (n + 21) (d + 4) zM278 0 [some (.ref 72), some (.int x1), some (.int x2), some (.int x3), some (.int x4)] [] h = some (some (.int (-2000000000)), h) := by
  refine (r_aloadn f278_0 rfl).trans ?_
  refine (r_iloadn f278_1 rfl).trans ?_
  have hc1 : arun X (n + 18) (d + 3) zM202 0 [some (.ref 72), some (.int x1)] [] h = some ((some (.int 0)), h) := by
    refine (r_aloadn f202_0 rfl).trans ?_
    refine (r_iloadn f202_1 rfl).trans ?_
    have hc2 : arun X (n + 15) (d + 2) zM200 0 [some (.ref 72), some (.int x1)] [] h = some ((some (.int 0)), h) := by
      refine (r_iloadn f200_0 rfl).trans ?_
      refine (r_iconst (v := 0) f200_1 rfl).trans ?_
      refine (r_aloadn f200_2 rfl).trans ?_
      refine (r_get (v := .int 0) f200_3 g72 rfl).trans ?_
      refine (r_iconst (v := 1) f200_6 rfl).trans ?_
      refine (r_isub (v := (-1)) f200_7 (by decide)).trans ?_
      have hc3 : arun X (n + 8) (d + 1) zM196 0 [some (.int x1), some (.int 0), some (.int (-1))] [] h = some ((some (.int 0)), h) := by
        refine (r_iloadn f196_0 rfl).trans ?_
        refine (r_iloadn f196_1 rfl).trans ?_
        refine (r_icmp_lt_f f196_2 ec0).trans ?_
        refine (r_iloadn f196_5 rfl).trans ?_
        refine (r_iloadn f196_6 rfl).trans ?_
        refine (r_icmp_gt_t f196_7 ec1).trans ?_
        refine (r_iconst (v := 0) f196_14 rfl).trans ?_
        exact r_zreturn f196_15 rfl (by decide)
      refine (r_stat (as := [.int x1, .int 0, .int (-1)]) (v := (some (.int 0))) (h1 := h) f200_8 rfl zg196 rfl rfl rfl rfl rfl rfl hc3).trans ?_
      exact r_zreturn f200_11 rfl (by decide)
    refine (r_virt (as := [.int x1]) (v := (some (.int 0))) (h1 := h) f202_2 g72 zg200 rfl rfl rfl rfl rfl rfl hc2).trans ?_
    refine (r_if_eq_t f202_5 (by decide)).trans ?_
    refine (r_iconst (v := 0) f202_25 rfl).trans ?_
    exact r_zreturn f202_26 rfl (by decide)
  refine (r_virt (as := [.int x1]) (v := (some (.int 0))) (h1 := h) f278_2 g72 zg202 rfl rfl rfl rfl rfl rfl hc1).trans ?_
  refine (r_if_eq_t f278_5 (by decide)).trans ?_
  refine (r_ldcw (v := (-2000000000)) f278_33 (by decide)).trans ?_
  exact r_ireturn f278_36 rfl
set_option maxHeartbeats 40000000 in
theorem qc28_0 {X : aX} {n d : Nat} {h : aH} {x1 : Int32} {x2 : Int32}  (g0 : h.1[0]? = some (.inr (11, zF0))) (g1 : h.1[1]? = some (.inr (6, zF1))) (ec0 : x1 < 0) : arun X (n + 19) (d + 4) zM172 0 [some (.ref 0), some (.int x1), some (.int x2)] [] h = some (some (.int (-1)), h) := by
  refine (r_aloadn f172_0 rfl).trans ?_
  refine (r_get (v := .ref 1) f172_1 g0 rfl).trans ?_
  refine (r_iloadn f172_4 rfl).trans ?_
  have hc1 : arun X (n + 15) (d + 3) zM75 0 [some (.ref 1), some (.int x1)] [] h = some ((some (.int 0)), h) := by
    refine (r_aloadn f75_0 rfl).trans ?_
    refine (r_iloadn f75_1 rfl).trans ?_
    have hc2 : arun X (n + 12) (d + 2) zM74 0 [some (.ref 1), some (.int x1)] [] h = some ((some (.int 0)), h) := by
      refine (r_iloadn f74_0 rfl).trans ?_
      refine (r_iconst (v := 0) f74_1 rfl).trans ?_
      refine (r_aloadn f74_2 rfl).trans ?_
      refine (r_get (v := .int 0) f74_3 g1 rfl).trans ?_
      refine (r_iconst (v := 1) f74_6 rfl).trans ?_
      refine (r_isub (v := (-1)) f74_7 (by decide)).trans ?_
      have hc3 : arun X (n + 5) (d + 1) zM137 0 [some (.int x1), some (.int 0), some (.int (-1))] [] h = some ((some (.int 0)), h) := by
        refine (r_iloadn f137_0 rfl).trans ?_
        refine (r_iloadn f137_1 rfl).trans ?_
        refine (r_icmp_gt_t f137_2 ec0).trans ?_
        refine (r_iconst (v := 0) f137_14 rfl).trans ?_
        exact r_zreturn f137_15 rfl (by decide)
      refine (r_stat (as := [.int x1, .int 0, .int (-1)]) (v := (some (.int 0))) (h1 := h) f74_8 rfl zg137 rfl rfl rfl rfl rfl rfl hc3).trans ?_
      exact r_zreturn f74_11 rfl (by decide)
    refine (r_virt (as := [.int x1]) (v := (some (.int 0))) (h1 := h) f75_2 g1 zg74 rfl rfl rfl rfl rfl rfl hc2).trans ?_
    refine (r_if_eq_t f75_5 (by decide)).trans ?_
    refine (r_iconst (v := 0) f75_24 rfl).trans ?_
    exact r_zreturn f75_25 rfl (by decide)
  refine (r_virt (as := [.int x1]) (v := (some (.int 0))) (h1 := h) f172_5 g1 zg75 rfl rfl rfl rfl rfl rfl hc1).trans ?_
  refine (r_if_eq_t f172_8 (by decide)).trans ?_
  refine (r_iconst (v := (-1)) f172_30 rfl).trans ?_
  exact r_ireturn f172_31 rfl
set_option maxHeartbeats 40000000 in
theorem qm28_0_0 {X : aX} {n d : Nat} {h : aH} {x1 : Int32} {x2 : Int32}  (g72 : h.1[72]? = some (.inr (12, zF72))) (ec0 : x1 < 0) : arun X (n + 18) (d + 4) zM279 0 [some (.ref 72), some (.int x1), some (.int x2)] [] h = some (some (.int (-1)), h) := by
  refine (r_aloadn f279_0 rfl).trans ?_
  refine (r_iloadn f279_1 rfl).trans ?_
  have hc1 : arun X (n + 15) (d + 3) zM202 0 [some (.ref 72), some (.int x1)] [] h = some ((some (.int 0)), h) := by
    refine (r_aloadn f202_0 rfl).trans ?_
    refine (r_iloadn f202_1 rfl).trans ?_
    have hc2 : arun X (n + 12) (d + 2) zM200 0 [some (.ref 72), some (.int x1)] [] h = some ((some (.int 0)), h) := by
      refine (r_iloadn f200_0 rfl).trans ?_
      refine (r_iconst (v := 0) f200_1 rfl).trans ?_
      refine (r_aloadn f200_2 rfl).trans ?_
      refine (r_get (v := .int 0) f200_3 g72 rfl).trans ?_
      refine (r_iconst (v := 1) f200_6 rfl).trans ?_
      refine (r_isub (v := (-1)) f200_7 (by decide)).trans ?_
      have hc3 : arun X (n + 5) (d + 1) zM196 0 [some (.int x1), some (.int 0), some (.int (-1))] [] h = some ((some (.int 0)), h) := by
        refine (r_iloadn f196_0 rfl).trans ?_
        refine (r_iloadn f196_1 rfl).trans ?_
        refine (r_icmp_lt_t f196_2 ec0).trans ?_
        refine (r_iconst (v := 0) f196_14 rfl).trans ?_
        exact r_zreturn f196_15 rfl (by decide)
      refine (r_stat (as := [.int x1, .int 0, .int (-1)]) (v := (some (.int 0))) (h1 := h) f200_8 rfl zg196 rfl rfl rfl rfl rfl rfl hc3).trans ?_
      exact r_zreturn f200_11 rfl (by decide)
    refine (r_virt (as := [.int x1]) (v := (some (.int 0))) (h1 := h) f202_2 g72 zg200 rfl rfl rfl rfl rfl rfl hc2).trans ?_
    refine (r_if_eq_t f202_5 (by decide)).trans ?_
    refine (r_iconst (v := 0) f202_25 rfl).trans ?_
    exact r_zreturn f202_26 rfl (by decide)
  refine (r_virt (as := [.int x1]) (v := (some (.int 0))) (h1 := h) f279_2 g72 zg202 rfl rfl rfl rfl rfl rfl hc1).trans ?_
  refine (r_if_eq_t f279_5 (by decide)).trans ?_
  refine (r_iconst (v := (-1)) f279_24 rfl).trans ?_
  exact r_ireturn f279_25 rfl
set_option maxHeartbeats 40000000 in
theorem qc28_1 {X : aX} {n d : Nat} {h : aH} {x1 : Int32} {x2 : Int32}  (g0 : h.1[0]? = some (.inr (11, zF0))) (g1 : h.1[1]? = some (.inr (6, zF1))) (ec0 : ¬ x1 < 0) (ec1 : (-1) < x1) : arun X (n + 22) (d + 4) zM172 0 [some (.ref 0), some (.int x1), some (.int x2)] [] h = some (some (.int (-1)), h) := by
  refine (r_aloadn f172_0 rfl).trans ?_
  refine (r_get (v := .ref 1) f172_1 g0 rfl).trans ?_
  refine (r_iloadn f172_4 rfl).trans ?_
  have hc1 : arun X (n + 18) (d + 3) zM75 0 [some (.ref 1), some (.int x1)] [] h = some ((some (.int 0)), h) := by
    refine (r_aloadn f75_0 rfl).trans ?_
    refine (r_iloadn f75_1 rfl).trans ?_
    have hc2 : arun X (n + 15) (d + 2) zM74 0 [some (.ref 1), some (.int x1)] [] h = some ((some (.int 0)), h) := by
      refine (r_iloadn f74_0 rfl).trans ?_
      refine (r_iconst (v := 0) f74_1 rfl).trans ?_
      refine (r_aloadn f74_2 rfl).trans ?_
      refine (r_get (v := .int 0) f74_3 g1 rfl).trans ?_
      refine (r_iconst (v := 1) f74_6 rfl).trans ?_
      refine (r_isub (v := (-1)) f74_7 (by decide)).trans ?_
      have hc3 : arun X (n + 8) (d + 1) zM137 0 [some (.int x1), some (.int 0), some (.int (-1))] [] h = some ((some (.int 0)), h) := by
        refine (r_iloadn f137_0 rfl).trans ?_
        refine (r_iloadn f137_1 rfl).trans ?_
        refine (r_icmp_gt_f f137_2 ec0).trans ?_
        refine (r_iloadn f137_5 rfl).trans ?_
        refine (r_iloadn f137_6 rfl).trans ?_
        refine (r_icmp_gt_t f137_7 ec1).trans ?_
        refine (r_iconst (v := 0) f137_14 rfl).trans ?_
        exact r_zreturn f137_15 rfl (by decide)
      refine (r_stat (as := [.int x1, .int 0, .int (-1)]) (v := (some (.int 0))) (h1 := h) f74_8 rfl zg137 rfl rfl rfl rfl rfl rfl hc3).trans ?_
      exact r_zreturn f74_11 rfl (by decide)
    refine (r_virt (as := [.int x1]) (v := (some (.int 0))) (h1 := h) f75_2 g1 zg74 rfl rfl rfl rfl rfl rfl hc2).trans ?_
    refine (r_if_eq_t f75_5 (by decide)).trans ?_
    refine (r_iconst (v := 0) f75_24 rfl).trans ?_
    exact r_zreturn f75_25 rfl (by decide)
  refine (r_virt (as := [.int x1]) (v := (some (.int 0))) (h1 := h) f172_5 g1 zg75 rfl rfl rfl rfl rfl rfl hc1).trans ?_
  refine (r_if_eq_t f172_8 (by decide)).trans ?_
  refine (r_iconst (v := (-1)) f172_30 rfl).trans ?_
  exact r_ireturn f172_31 rfl
set_option maxHeartbeats 40000000 in
theorem qm28_1_0 {X : aX} {n d : Nat} {h : aH} {x1 : Int32} {x2 : Int32}  (g72 : h.1[72]? = some (.inr (12, zF72))) (ec0 : ¬ x1 < 0) (ec1 : (-1) < x1) : arun X (n + 21) (d + 4) zM279 0 [some (.ref 72), some (.int x1), some (.int x2)] [] h = some (some (.int (-1)), h) := by
  refine (r_aloadn f279_0 rfl).trans ?_
  refine (r_iloadn f279_1 rfl).trans ?_
  have hc1 : arun X (n + 18) (d + 3) zM202 0 [some (.ref 72), some (.int x1)] [] h = some ((some (.int 0)), h) := by
    refine (r_aloadn f202_0 rfl).trans ?_
    refine (r_iloadn f202_1 rfl).trans ?_
    have hc2 : arun X (n + 15) (d + 2) zM200 0 [some (.ref 72), some (.int x1)] [] h = some ((some (.int 0)), h) := by
      refine (r_iloadn f200_0 rfl).trans ?_
      refine (r_iconst (v := 0) f200_1 rfl).trans ?_
      refine (r_aloadn f200_2 rfl).trans ?_
      refine (r_get (v := .int 0) f200_3 g72 rfl).trans ?_
      refine (r_iconst (v := 1) f200_6 rfl).trans ?_
      refine (r_isub (v := (-1)) f200_7 (by decide)).trans ?_
      have hc3 : arun X (n + 8) (d + 1) zM196 0 [some (.int x1), some (.int 0), some (.int (-1))] [] h = some ((some (.int 0)), h) := by
        refine (r_iloadn f196_0 rfl).trans ?_
        refine (r_iloadn f196_1 rfl).trans ?_
        refine (r_icmp_lt_f f196_2 ec0).trans ?_
        refine (r_iloadn f196_5 rfl).trans ?_
        refine (r_iloadn f196_6 rfl).trans ?_
        refine (r_icmp_gt_t f196_7 ec1).trans ?_
        refine (r_iconst (v := 0) f196_14 rfl).trans ?_
        exact r_zreturn f196_15 rfl (by decide)
      refine (r_stat (as := [.int x1, .int 0, .int (-1)]) (v := (some (.int 0))) (h1 := h) f200_8 rfl zg196 rfl rfl rfl rfl rfl rfl hc3).trans ?_
      exact r_zreturn f200_11 rfl (by decide)
    refine (r_virt (as := [.int x1]) (v := (some (.int 0))) (h1 := h) f202_2 g72 zg200 rfl rfl rfl rfl rfl rfl hc2).trans ?_
    refine (r_if_eq_t f202_5 (by decide)).trans ?_
    refine (r_iconst (v := 0) f202_25 rfl).trans ?_
    exact r_zreturn f202_26 rfl (by decide)
  refine (r_virt (as := [.int x1]) (v := (some (.int 0))) (h1 := h) f279_2 g72 zg202 rfl rfl rfl rfl rfl rfl hc1).trans ?_
  refine (r_if_eq_t f279_5 (by decide)).trans ?_
  refine (r_iconst (v := (-1)) f279_24 rfl).trans ?_
  exact r_ireturn f279_25 rfl
set_option maxHeartbeats 40000000 in
theorem qc29_0 {X : aX} {n d : Nat} {h : aH} {x1 : Int32}  (g0 : h.1[0]? = some (.inr (11, zF0))) (g1 : h.1[1]? = some (.inr (6, zF1))) (ec0 : x1 < 0) : arun X (n + 19) (d + 4) zM173 0 [some (.ref 0), some (.int x1)] [] h = some (some (.int (-2000000000)), h) := by
  refine (r_aloadn f173_0 rfl).trans ?_
  refine (r_get (v := .ref 1) f173_1 g0 rfl).trans ?_
  refine (r_iloadn f173_4 rfl).trans ?_
  have hc1 : arun X (n + 15) (d + 3) zM75 0 [some (.ref 1), some (.int x1)] [] h = some ((some (.int 0)), h) := by
    refine (r_aloadn f75_0 rfl).trans ?_
    refine (r_iloadn f75_1 rfl).trans ?_
    have hc2 : arun X (n + 12) (d + 2) zM74 0 [some (.ref 1), some (.int x1)] [] h = some ((some (.int 0)), h) := by
      refine (r_iloadn f74_0 rfl).trans ?_
      refine (r_iconst (v := 0) f74_1 rfl).trans ?_
      refine (r_aloadn f74_2 rfl).trans ?_
      refine (r_get (v := .int 0) f74_3 g1 rfl).trans ?_
      refine (r_iconst (v := 1) f74_6 rfl).trans ?_
      refine (r_isub (v := (-1)) f74_7 (by decide)).trans ?_
      have hc3 : arun X (n + 5) (d + 1) zM137 0 [some (.int x1), some (.int 0), some (.int (-1))] [] h = some ((some (.int 0)), h) := by
        refine (r_iloadn f137_0 rfl).trans ?_
        refine (r_iloadn f137_1 rfl).trans ?_
        refine (r_icmp_gt_t f137_2 ec0).trans ?_
        refine (r_iconst (v := 0) f137_14 rfl).trans ?_
        exact r_zreturn f137_15 rfl (by decide)
      refine (r_stat (as := [.int x1, .int 0, .int (-1)]) (v := (some (.int 0))) (h1 := h) f74_8 rfl zg137 rfl rfl rfl rfl rfl rfl hc3).trans ?_
      exact r_zreturn f74_11 rfl (by decide)
    refine (r_virt (as := [.int x1]) (v := (some (.int 0))) (h1 := h) f75_2 g1 zg74 rfl rfl rfl rfl rfl rfl hc2).trans ?_
    refine (r_if_eq_t f75_5 (by decide)).trans ?_
    refine (r_iconst (v := 0) f75_24 rfl).trans ?_
    exact r_zreturn f75_25 rfl (by decide)
  refine (r_virt (as := [.int x1]) (v := (some (.int 0))) (h1 := h) f173_5 g1 zg75 rfl rfl rfl rfl rfl rfl hc1).trans ?_
  refine (r_if_eq_t f173_8 (by decide)).trans ?_
  refine (r_ldc (v := (-2000000000)) f173_22 (by decide)).trans ?_
  exact r_ireturn f173_24 rfl
set_option maxHeartbeats 40000000 in
theorem qm29_0_0 {X : aX} {n d : Nat} {h : aH} {x1 : Int32}  (g72 : h.1[72]? = some (.inr (12, zF72))) (ec0 : x1 < 0) : arun X (n + 18) (d + 4) zM280 0 [some (.ref 72), some (.int x1), none, none, none] [] h = some (some (.int (-2000000000)), h) := by
  refine (r_aloadn f280_0 rfl).trans ?_
  refine (r_iloadn f280_1 rfl).trans ?_
  have hc1 : arun X (n + 15) (d + 3) zM202 0 [some (.ref 72), some (.int x1)] [] h = some ((some (.int 0)), h) := by
    refine (r_aloadn f202_0 rfl).trans ?_
    refine (r_iloadn f202_1 rfl).trans ?_
    have hc2 : arun X (n + 12) (d + 2) zM200 0 [some (.ref 72), some (.int x1)] [] h = some ((some (.int 0)), h) := by
      refine (r_iloadn f200_0 rfl).trans ?_
      refine (r_iconst (v := 0) f200_1 rfl).trans ?_
      refine (r_aloadn f200_2 rfl).trans ?_
      refine (r_get (v := .int 0) f200_3 g72 rfl).trans ?_
      refine (r_iconst (v := 1) f200_6 rfl).trans ?_
      refine (r_isub (v := (-1)) f200_7 (by decide)).trans ?_
      have hc3 : arun X (n + 5) (d + 1) zM196 0 [some (.int x1), some (.int 0), some (.int (-1))] [] h = some ((some (.int 0)), h) := by
        refine (r_iloadn f196_0 rfl).trans ?_
        refine (r_iloadn f196_1 rfl).trans ?_
        refine (r_icmp_lt_t f196_2 ec0).trans ?_
        refine (r_iconst (v := 0) f196_14 rfl).trans ?_
        exact r_zreturn f196_15 rfl (by decide)
      refine (r_stat (as := [.int x1, .int 0, .int (-1)]) (v := (some (.int 0))) (h1 := h) f200_8 rfl zg196 rfl rfl rfl rfl rfl rfl hc3).trans ?_
      exact r_zreturn f200_11 rfl (by decide)
    refine (r_virt (as := [.int x1]) (v := (some (.int 0))) (h1 := h) f202_2 g72 zg200 rfl rfl rfl rfl rfl rfl hc2).trans ?_
    refine (r_if_eq_t f202_5 (by decide)).trans ?_
    refine (r_iconst (v := 0) f202_25 rfl).trans ?_
    exact r_zreturn f202_26 rfl (by decide)
  refine (r_virt (as := [.int x1]) (v := (some (.int 0))) (h1 := h) f280_2 g72 zg202 rfl rfl rfl rfl rfl rfl hc1).trans ?_
  refine (r_if_ne_f f280_5 (by decide)).trans ?_
  refine (r_ldcw (v := (-2000000000)) f280_8 (by decide)).trans ?_
  exact r_ireturn f280_11 rfl
set_option maxHeartbeats 40000000 in
theorem qc29_1 {X : aX} {n d : Nat} {h : aH} {x1 : Int32}  (g0 : h.1[0]? = some (.inr (11, zF0))) (g1 : h.1[1]? = some (.inr (6, zF1))) (ec0 : ¬ x1 < 0) (ec1 : (-1) < x1) : arun X (n + 22) (d + 4) zM173 0 [some (.ref 0), some (.int x1)] [] h = some (some (.int (-2000000000)), h) := by
  refine (r_aloadn f173_0 rfl).trans ?_
  refine (r_get (v := .ref 1) f173_1 g0 rfl).trans ?_
  refine (r_iloadn f173_4 rfl).trans ?_
  have hc1 : arun X (n + 18) (d + 3) zM75 0 [some (.ref 1), some (.int x1)] [] h = some ((some (.int 0)), h) := by
    refine (r_aloadn f75_0 rfl).trans ?_
    refine (r_iloadn f75_1 rfl).trans ?_
    have hc2 : arun X (n + 15) (d + 2) zM74 0 [some (.ref 1), some (.int x1)] [] h = some ((some (.int 0)), h) := by
      refine (r_iloadn f74_0 rfl).trans ?_
      refine (r_iconst (v := 0) f74_1 rfl).trans ?_
      refine (r_aloadn f74_2 rfl).trans ?_
      refine (r_get (v := .int 0) f74_3 g1 rfl).trans ?_
      refine (r_iconst (v := 1) f74_6 rfl).trans ?_
      refine (r_isub (v := (-1)) f74_7 (by decide)).trans ?_
      have hc3 : arun X (n + 8) (d + 1) zM137 0 [some (.int x1), some (.int 0), some (.int (-1))] [] h = some ((some (.int 0)), h) := by
        refine (r_iloadn f137_0 rfl).trans ?_
        refine (r_iloadn f137_1 rfl).trans ?_
        refine (r_icmp_gt_f f137_2 ec0).trans ?_
        refine (r_iloadn f137_5 rfl).trans ?_
        refine (r_iloadn f137_6 rfl).trans ?_
        refine (r_icmp_gt_t f137_7 ec1).trans ?_
        refine (r_iconst (v := 0) f137_14 rfl).trans ?_
        exact r_zreturn f137_15 rfl (by decide)
      refine (r_stat (as := [.int x1, .int 0, .int (-1)]) (v := (some (.int 0))) (h1 := h) f74_8 rfl zg137 rfl rfl rfl rfl rfl rfl hc3).trans ?_
      exact r_zreturn f74_11 rfl (by decide)
    refine (r_virt (as := [.int x1]) (v := (some (.int 0))) (h1 := h) f75_2 g1 zg74 rfl rfl rfl rfl rfl rfl hc2).trans ?_
    refine (r_if_eq_t f75_5 (by decide)).trans ?_
    refine (r_iconst (v := 0) f75_24 rfl).trans ?_
    exact r_zreturn f75_25 rfl (by decide)
  refine (r_virt (as := [.int x1]) (v := (some (.int 0))) (h1 := h) f173_5 g1 zg75 rfl rfl rfl rfl rfl rfl hc1).trans ?_
  refine (r_if_eq_t f173_8 (by decide)).trans ?_
  refine (r_ldc (v := (-2000000000)) f173_22 (by decide)).trans ?_
  exact r_ireturn f173_24 rfl
set_option maxHeartbeats 40000000 in
theorem qm29_1_0 {X : aX} {n d : Nat} {h : aH} {x1 : Int32}  (g72 : h.1[72]? = some (.inr (12, zF72))) (ec0 : ¬ x1 < 0) (ec1 : (-1) < x1) : arun X (n + 21) (d + 4) zM280 0 [some (.ref 72), some (.int x1), none, none, none] [] h = some (some (.int (-2000000000)), h) := by
  refine (r_aloadn f280_0 rfl).trans ?_
  refine (r_iloadn f280_1 rfl).trans ?_
  have hc1 : arun X (n + 18) (d + 3) zM202 0 [some (.ref 72), some (.int x1)] [] h = some ((some (.int 0)), h) := by
    refine (r_aloadn f202_0 rfl).trans ?_
    refine (r_iloadn f202_1 rfl).trans ?_
    have hc2 : arun X (n + 15) (d + 2) zM200 0 [some (.ref 72), some (.int x1)] [] h = some ((some (.int 0)), h) := by
      refine (r_iloadn f200_0 rfl).trans ?_
      refine (r_iconst (v := 0) f200_1 rfl).trans ?_
      refine (r_aloadn f200_2 rfl).trans ?_
      refine (r_get (v := .int 0) f200_3 g72 rfl).trans ?_
      refine (r_iconst (v := 1) f200_6 rfl).trans ?_
      refine (r_isub (v := (-1)) f200_7 (by decide)).trans ?_
      have hc3 : arun X (n + 8) (d + 1) zM196 0 [some (.int x1), some (.int 0), some (.int (-1))] [] h = some ((some (.int 0)), h) := by
        refine (r_iloadn f196_0 rfl).trans ?_
        refine (r_iloadn f196_1 rfl).trans ?_
        refine (r_icmp_lt_f f196_2 ec0).trans ?_
        refine (r_iloadn f196_5 rfl).trans ?_
        refine (r_iloadn f196_6 rfl).trans ?_
        refine (r_icmp_gt_t f196_7 ec1).trans ?_
        refine (r_iconst (v := 0) f196_14 rfl).trans ?_
        exact r_zreturn f196_15 rfl (by decide)
      refine (r_stat (as := [.int x1, .int 0, .int (-1)]) (v := (some (.int 0))) (h1 := h) f200_8 rfl zg196 rfl rfl rfl rfl rfl rfl hc3).trans ?_
      exact r_zreturn f200_11 rfl (by decide)
    refine (r_virt (as := [.int x1]) (v := (some (.int 0))) (h1 := h) f202_2 g72 zg200 rfl rfl rfl rfl rfl rfl hc2).trans ?_
    refine (r_if_eq_t f202_5 (by decide)).trans ?_
    refine (r_iconst (v := 0) f202_25 rfl).trans ?_
    exact r_zreturn f202_26 rfl (by decide)
  refine (r_virt (as := [.int x1]) (v := (some (.int 0))) (h1 := h) f280_2 g72 zg202 rfl rfl rfl rfl rfl rfl hc1).trans ?_
  refine (r_if_ne_f f280_5 (by decide)).trans ?_
  refine (r_ldcw (v := (-2000000000)) f280_8 (by decide)).trans ?_
  exact r_ireturn f280_11 rfl
set_option maxHeartbeats 40000000 in
theorem qc30_0 {X : aX} {n d : Nat} {h : aH} {x1 : Int32} {x2 : Int32} {x3 : Int32}  (g0 : h.1[0]? = some (.inr (11, zF0))) (g1 : h.1[1]? = some (.inr (6, zF1))) (ec0 : x1 < 0) : arun X (n + 19) (d + 4) zM174 0 [some (.ref 0), some (.int x1), some (.int x2), some (.int x3)] [] h = some (some (.int (-1)), h) := by
  refine (r_aloadn f174_0 rfl).trans ?_
  refine (r_get (v := .ref 1) f174_1 g0 rfl).trans ?_
  refine (r_iloadn f174_4 rfl).trans ?_
  have hc1 : arun X (n + 15) (d + 3) zM75 0 [some (.ref 1), some (.int x1)] [] h = some ((some (.int 0)), h) := by
    refine (r_aloadn f75_0 rfl).trans ?_
    refine (r_iloadn f75_1 rfl).trans ?_
    have hc2 : arun X (n + 12) (d + 2) zM74 0 [some (.ref 1), some (.int x1)] [] h = some ((some (.int 0)), h) := by
      refine (r_iloadn f74_0 rfl).trans ?_
      refine (r_iconst (v := 0) f74_1 rfl).trans ?_
      refine (r_aloadn f74_2 rfl).trans ?_
      refine (r_get (v := .int 0) f74_3 g1 rfl).trans ?_
      refine (r_iconst (v := 1) f74_6 rfl).trans ?_
      refine (r_isub (v := (-1)) f74_7 (by decide)).trans ?_
      have hc3 : arun X (n + 5) (d + 1) zM137 0 [some (.int x1), some (.int 0), some (.int (-1))] [] h = some ((some (.int 0)), h) := by
        refine (r_iloadn f137_0 rfl).trans ?_
        refine (r_iloadn f137_1 rfl).trans ?_
        refine (r_icmp_gt_t f137_2 ec0).trans ?_
        refine (r_iconst (v := 0) f137_14 rfl).trans ?_
        exact r_zreturn f137_15 rfl (by decide)
      refine (r_stat (as := [.int x1, .int 0, .int (-1)]) (v := (some (.int 0))) (h1 := h) f74_8 rfl zg137 rfl rfl rfl rfl rfl rfl hc3).trans ?_
      exact r_zreturn f74_11 rfl (by decide)
    refine (r_virt (as := [.int x1]) (v := (some (.int 0))) (h1 := h) f75_2 g1 zg74 rfl rfl rfl rfl rfl rfl hc2).trans ?_
    refine (r_if_eq_t f75_5 (by decide)).trans ?_
    refine (r_iconst (v := 0) f75_24 rfl).trans ?_
    exact r_zreturn f75_25 rfl (by decide)
  refine (r_virt (as := [.int x1]) (v := (some (.int 0))) (h1 := h) f174_5 g1 zg75 rfl rfl rfl rfl rfl rfl hc1).trans ?_
  refine (r_if_eq_t f174_8 (by decide)).trans ?_
  refine (r_iconst (v := (-1)) f174_29 rfl).trans ?_
  exact r_ireturn f174_30 rfl
set_option maxHeartbeats 40000000 in
theorem qm30_0_0 {X : aX} {n d : Nat} {h : aH} {x1 : Int32} {x2 : Int32} {x3 : Int32}  (g72 : h.1[72]? = some (.inr (12, zF72))) (ec0 : x1 < 0) : arun X (n + 18) (d + 4) zM281 0 [some (.ref 72), some (.int x1), some (.int x2), some (.int x3), none, none, none, none, none, none] [] h = some (some (.int (-1)), h) := by
  refine (r_aloadn f281_0 rfl).trans ?_
  refine (r_iloadn f281_1 rfl).trans ?_
  have hc1 : arun X (n + 15) (d + 3) zM202 0 [some (.ref 72), some (.int x1)] [] h = some ((some (.int 0)), h) := by
    refine (r_aloadn f202_0 rfl).trans ?_
    refine (r_iloadn f202_1 rfl).trans ?_
    have hc2 : arun X (n + 12) (d + 2) zM200 0 [some (.ref 72), some (.int x1)] [] h = some ((some (.int 0)), h) := by
      refine (r_iloadn f200_0 rfl).trans ?_
      refine (r_iconst (v := 0) f200_1 rfl).trans ?_
      refine (r_aloadn f200_2 rfl).trans ?_
      refine (r_get (v := .int 0) f200_3 g72 rfl).trans ?_
      refine (r_iconst (v := 1) f200_6 rfl).trans ?_
      refine (r_isub (v := (-1)) f200_7 (by decide)).trans ?_
      have hc3 : arun X (n + 5) (d + 1) zM196 0 [some (.int x1), some (.int 0), some (.int (-1))] [] h = some ((some (.int 0)), h) := by
        refine (r_iloadn f196_0 rfl).trans ?_
        refine (r_iloadn f196_1 rfl).trans ?_
        refine (r_icmp_lt_t f196_2 ec0).trans ?_
        refine (r_iconst (v := 0) f196_14 rfl).trans ?_
        exact r_zreturn f196_15 rfl (by decide)
      refine (r_stat (as := [.int x1, .int 0, .int (-1)]) (v := (some (.int 0))) (h1 := h) f200_8 rfl zg196 rfl rfl rfl rfl rfl rfl hc3).trans ?_
      exact r_zreturn f200_11 rfl (by decide)
    refine (r_virt (as := [.int x1]) (v := (some (.int 0))) (h1 := h) f202_2 g72 zg200 rfl rfl rfl rfl rfl rfl hc2).trans ?_
    refine (r_if_eq_t f202_5 (by decide)).trans ?_
    refine (r_iconst (v := 0) f202_25 rfl).trans ?_
    exact r_zreturn f202_26 rfl (by decide)
  refine (r_virt (as := [.int x1]) (v := (some (.int 0))) (h1 := h) f281_2 g72 zg202 rfl rfl rfl rfl rfl rfl hc1).trans ?_
  refine (r_if_eq_t f281_5 (by decide)).trans ?_
  refine (r_iconst (v := (-1)) f281_26 rfl).trans ?_
  exact r_ireturn f281_27 rfl
set_option maxHeartbeats 40000000 in
theorem qc30_1 {X : aX} {n d : Nat} {h : aH} {x1 : Int32} {x2 : Int32} {x3 : Int32}  (g0 : h.1[0]? = some (.inr (11, zF0))) (g1 : h.1[1]? = some (.inr (6, zF1))) (ec0 : ¬ x1 < 0) (ec1 : (-1) < x1) : arun X (n + 22) (d + 4) zM174 0 [some (.ref 0), some (.int x1), some (.int x2), some (.int x3)] [] h = some (some (.int (-1)), h) := by
  refine (r_aloadn f174_0 rfl).trans ?_
  refine (r_get (v := .ref 1) f174_1 g0 rfl).trans ?_
  refine (r_iloadn f174_4 rfl).trans ?_
  have hc1 : arun X (n + 18) (d + 3) zM75 0 [some (.ref 1), some (.int x1)] [] h = some ((some (.int 0)), h) := by
    refine (r_aloadn f75_0 rfl).trans ?_
    refine (r_iloadn f75_1 rfl).trans ?_
    have hc2 : arun X (n + 15) (d + 2) zM74 0 [some (.ref 1), some (.int x1)] [] h = some ((some (.int 0)), h) := by
      refine (r_iloadn f74_0 rfl).trans ?_
      refine (r_iconst (v := 0) f74_1 rfl).trans ?_
      refine (r_aloadn f74_2 rfl).trans ?_
      refine (r_get (v := .int 0) f74_3 g1 rfl).trans ?_
      refine (r_iconst (v := 1) f74_6 rfl).trans ?_
      refine (r_isub (v := (-1)) f74_7 (by decide)).trans ?_
      have hc3 : arun X (n + 8) (d + 1) zM137 0 [some (.int x1), some (.int 0), some (.int (-1))] [] h = some ((some (.int 0)), h) := by
        refine (r_iloadn f137_0 rfl).trans ?_
        refine (r_iloadn f137_1 rfl).trans ?_
        refine (r_icmp_gt_f f137_2 ec0).trans ?_
        refine (r_iloadn f137_5 rfl).trans ?_
        refine (r_iloadn f137_6 rfl).trans ?_
        refine (r_icmp_gt_t f137_7 ec1).trans ?_
        refine (r_iconst (v := 0) f137_14 rfl).trans ?_
        exact r_zreturn f137_15 rfl (by decide)
      refine (r_stat (as := [.int x1, .int 0, .int (-1)]) (v := (some (.int 0))) (h1 := h) f74_8 rfl zg137 rfl rfl rfl rfl rfl rfl hc3).trans ?_
      exact r_zreturn f74_11 rfl (by decide)
    refine (r_virt (as := [.int x1]) (v := (some (.int 0))) (h1 := h) f75_2 g1 zg74 rfl rfl rfl rfl rfl rfl hc2).trans ?_
    refine (r_if_eq_t f75_5 (by decide)).trans ?_
    refine (r_iconst (v := 0) f75_24 rfl).trans ?_
    exact r_zreturn f75_25 rfl (by decide)
  refine (r_virt (as := [.int x1]) (v := (some (.int 0))) (h1 := h) f174_5 g1 zg75 rfl rfl rfl rfl rfl rfl hc1).trans ?_
  refine (r_if_eq_t f174_8 (by decide)).trans ?_
  refine (r_iconst (v := (-1)) f174_29 rfl).trans ?_
  exact r_ireturn f174_30 rfl
set_option maxHeartbeats 40000000 in
theorem qm30_1_0 {X : aX} {n d : Nat} {h : aH} {x1 : Int32} {x2 : Int32} {x3 : Int32}  (g72 : h.1[72]? = some (.inr (12, zF72))) (ec0 : ¬ x1 < 0) (ec1 : (-1) < x1) : arun X (n + 21) (d + 4) zM281 0 [some (.ref 72), some (.int x1), some (.int x2), some (.int x3), none, none, none, none, none, none] [] h = some (some (.int (-1)), h) := by
  refine (r_aloadn f281_0 rfl).trans ?_
  refine (r_iloadn f281_1 rfl).trans ?_
  have hc1 : arun X (n + 18) (d + 3) zM202 0 [some (.ref 72), some (.int x1)] [] h = some ((some (.int 0)), h) := by
    refine (r_aloadn f202_0 rfl).trans ?_
    refine (r_iloadn f202_1 rfl).trans ?_
    have hc2 : arun X (n + 15) (d + 2) zM200 0 [some (.ref 72), some (.int x1)] [] h = some ((some (.int 0)), h) := by
      refine (r_iloadn f200_0 rfl).trans ?_
      refine (r_iconst (v := 0) f200_1 rfl).trans ?_
      refine (r_aloadn f200_2 rfl).trans ?_
      refine (r_get (v := .int 0) f200_3 g72 rfl).trans ?_
      refine (r_iconst (v := 1) f200_6 rfl).trans ?_
      refine (r_isub (v := (-1)) f200_7 (by decide)).trans ?_
      have hc3 : arun X (n + 8) (d + 1) zM196 0 [some (.int x1), some (.int 0), some (.int (-1))] [] h = some ((some (.int 0)), h) := by
        refine (r_iloadn f196_0 rfl).trans ?_
        refine (r_iloadn f196_1 rfl).trans ?_
        refine (r_icmp_lt_f f196_2 ec0).trans ?_
        refine (r_iloadn f196_5 rfl).trans ?_
        refine (r_iloadn f196_6 rfl).trans ?_
        refine (r_icmp_gt_t f196_7 ec1).trans ?_
        refine (r_iconst (v := 0) f196_14 rfl).trans ?_
        exact r_zreturn f196_15 rfl (by decide)
      refine (r_stat (as := [.int x1, .int 0, .int (-1)]) (v := (some (.int 0))) (h1 := h) f200_8 rfl zg196 rfl rfl rfl rfl rfl rfl hc3).trans ?_
      exact r_zreturn f200_11 rfl (by decide)
    refine (r_virt (as := [.int x1]) (v := (some (.int 0))) (h1 := h) f202_2 g72 zg200 rfl rfl rfl rfl rfl rfl hc2).trans ?_
    refine (r_if_eq_t f202_5 (by decide)).trans ?_
    refine (r_iconst (v := 0) f202_25 rfl).trans ?_
    exact r_zreturn f202_26 rfl (by decide)
  refine (r_virt (as := [.int x1]) (v := (some (.int 0))) (h1 := h) f281_2 g72 zg202 rfl rfl rfl rfl rfl rfl hc1).trans ?_
  refine (r_if_eq_t f281_5 (by decide)).trans ?_
  refine (r_iconst (v := (-1)) f281_26 rfl).trans ?_
  exact r_ireturn f281_27 rfl
set_option maxHeartbeats 40000000 in
theorem qc32_0 {X : aX} {n d : Nat} {h : aH} {x1 : Int32}  (g0 : h.1[0]? = some (.inr (11, zF0))) (g48 : h.1[48]? = some (.inr (5, zF48))) (ec0 : x1 < 0) : arun X (n + 13) (d + 2) zM176 0 [some (.ref 0), some (.int x1)] [] h = some (some (.int (-1)), h) := by
  refine (r_iloadn f176_0 rfl).trans ?_
  refine (r_iconst (v := 0) f176_1 rfl).trans ?_
  refine (r_aloadn f176_2 rfl).trans ?_
  refine (r_get (v := .ref 48) f176_3 g0 rfl).trans ?_
  refine (r_get (v := .int 0) f176_6 g48 rfl).trans ?_
  refine (r_iconst (v := 1) f176_9 rfl).trans ?_
  refine (r_isub (v := (-1)) f176_10 (by decide)).trans ?_
  have hc1 : arun X (n + 5) (d + 1) zM137 0 [some (.int x1), some (.int 0), some (.int (-1))] [] h = some ((some (.int 0)), h) := by
    refine (r_iloadn f137_0 rfl).trans ?_
    refine (r_iloadn f137_1 rfl).trans ?_
    refine (r_icmp_gt_t f137_2 ec0).trans ?_
    refine (r_iconst (v := 0) f137_14 rfl).trans ?_
    exact r_zreturn f137_15 rfl (by decide)
  refine (r_stat (as := [.int x1, .int 0, .int (-1)]) (v := (some (.int 0))) (h1 := h) f176_11 rfl zg137 rfl rfl rfl rfl rfl rfl hc1).trans ?_
  refine (r_if_eq_t f176_14 (by decide)).trans ?_
  refine (r_iconst (v := (-1)) f176_29 rfl).trans ?_
  exact r_ireturn f176_30 rfl
set_option maxHeartbeats 40000000 in
theorem qm32_0_0 {X : aX} {n d : Nat} {h : aH} {x1 : Int32}  (g72 : h.1[72]? = some (.inr (12, zF72))) (ec0 : x1 < 0) : arun X (n + 12) (d + 2) zM289 0 [some (.ref 72), some (.int x1)] [] h = some (some (.int (-1)), h) := by
  refine (r_iloadn f289_0 rfl).trans ?_
  refine (r_iconst (v := 0) f289_1 rfl).trans ?_
  refine (r_aloadn f289_2 rfl).trans ?_
  refine (r_get (v := .int (-1)) f289_3 g72 rfl).trans ?_
  refine (r_iconst (v := 1) f289_6 rfl).trans ?_
  refine (r_isub (v := (-2)) f289_7 (by decide)).trans ?_
  have hc1 : arun X (n + 5) (d + 1) zM196 0 [some (.int x1), some (.int 0), some (.int (-2))] [] h = some ((some (.int 0)), h) := by
    refine (r_iloadn f196_0 rfl).trans ?_
    refine (r_iloadn f196_1 rfl).trans ?_
    refine (r_icmp_lt_t f196_2 ec0).trans ?_
    refine (r_iconst (v := 0) f196_14 rfl).trans ?_
    exact r_zreturn f196_15 rfl (by decide)
  refine (r_stat (as := [.int x1, .int 0, .int (-2)]) (v := (some (.int 0))) (h1 := h) f289_8 rfl zg196 rfl rfl rfl rfl rfl rfl hc1).trans ?_
  refine (r_if_eq_t f289_11 (by decide)).trans ?_
  refine (r_iconst (v := (-1)) f289_23 rfl).trans ?_
  exact r_ireturn f289_24 rfl
set_option maxHeartbeats 40000000 in
theorem qc32_1 {X : aX} {n d : Nat} {h : aH} {x1 : Int32}  (g0 : h.1[0]? = some (.inr (11, zF0))) (g48 : h.1[48]? = some (.inr (5, zF48))) (ec0 : ¬ x1 < 0) (ec1 : (-1) < x1) : arun X (n + 16) (d + 2) zM176 0 [some (.ref 0), some (.int x1)] [] h = some (some (.int (-1)), h) := by
  refine (r_iloadn f176_0 rfl).trans ?_
  refine (r_iconst (v := 0) f176_1 rfl).trans ?_
  refine (r_aloadn f176_2 rfl).trans ?_
  refine (r_get (v := .ref 48) f176_3 g0 rfl).trans ?_
  refine (r_get (v := .int 0) f176_6 g48 rfl).trans ?_
  refine (r_iconst (v := 1) f176_9 rfl).trans ?_
  refine (r_isub (v := (-1)) f176_10 (by decide)).trans ?_
  have hc1 : arun X (n + 8) (d + 1) zM137 0 [some (.int x1), some (.int 0), some (.int (-1))] [] h = some ((some (.int 0)), h) := by
    refine (r_iloadn f137_0 rfl).trans ?_
    refine (r_iloadn f137_1 rfl).trans ?_
    refine (r_icmp_gt_f f137_2 ec0).trans ?_
    refine (r_iloadn f137_5 rfl).trans ?_
    refine (r_iloadn f137_6 rfl).trans ?_
    refine (r_icmp_gt_t f137_7 ec1).trans ?_
    refine (r_iconst (v := 0) f137_14 rfl).trans ?_
    exact r_zreturn f137_15 rfl (by decide)
  refine (r_stat (as := [.int x1, .int 0, .int (-1)]) (v := (some (.int 0))) (h1 := h) f176_11 rfl zg137 rfl rfl rfl rfl rfl rfl hc1).trans ?_
  refine (r_if_eq_t f176_14 (by decide)).trans ?_
  refine (r_iconst (v := (-1)) f176_29 rfl).trans ?_
  exact r_ireturn f176_30 rfl
set_option maxHeartbeats 40000000 in
theorem qm32_1_0 {X : aX} {n d : Nat} {h : aH} {x1 : Int32}  (g72 : h.1[72]? = some (.inr (12, zF72))) (ec0 : ¬ x1 < 0) (em0 : (-2) < x1) : arun X (n + 15) (d + 2) zM289 0 [some (.ref 72), some (.int x1)] [] h = some (some (.int (-1)), h) := by
  refine (r_iloadn f289_0 rfl).trans ?_
  refine (r_iconst (v := 0) f289_1 rfl).trans ?_
  refine (r_aloadn f289_2 rfl).trans ?_
  refine (r_get (v := .int (-1)) f289_3 g72 rfl).trans ?_
  refine (r_iconst (v := 1) f289_6 rfl).trans ?_
  refine (r_isub (v := (-2)) f289_7 (by decide)).trans ?_
  have hc1 : arun X (n + 8) (d + 1) zM196 0 [some (.int x1), some (.int 0), some (.int (-2))] [] h = some ((some (.int 0)), h) := by
    refine (r_iloadn f196_0 rfl).trans ?_
    refine (r_iloadn f196_1 rfl).trans ?_
    refine (r_icmp_lt_f f196_2 ec0).trans ?_
    refine (r_iloadn f196_5 rfl).trans ?_
    refine (r_iloadn f196_6 rfl).trans ?_
    refine (r_icmp_gt_t f196_7 em0).trans ?_
    refine (r_iconst (v := 0) f196_14 rfl).trans ?_
    exact r_zreturn f196_15 rfl (by decide)
  refine (r_stat (as := [.int x1, .int 0, .int (-2)]) (v := (some (.int 0))) (h1 := h) f289_8 rfl zg196 rfl rfl rfl rfl rfl rfl hc1).trans ?_
  refine (r_if_eq_t f289_11 (by decide)).trans ?_
  refine (r_iconst (v := (-1)) f289_23 rfl).trans ?_
  exact r_ireturn f289_24 rfl
set_option maxHeartbeats 40000000 in
theorem qc33_0 {X : aX} {n d : Nat} {h : aH} {x1 : Int32}  (g0 : h.1[0]? = some (.inr (11, zF0))) (g48 : h.1[48]? = some (.inr (5, zF48))) : arun X (n + 6) (d + 1) zM177 0 [some (.ref 0), some (.int x1)] [] h = some (some (.int 1), ((h.1.set 48 (.inr (5, [.ref 1, .ref 16, .ref 41, .ref 49, .int 0, .ref 50, .ref 51, .int x1, .ref 52, .int 0, .ref 53, .ref 54, .int 0, .int 0, .int 0, .int 0, .int 0]))), h.2)) := by
  refine (r_aloadn f177_0 rfl).trans ?_
  refine (r_get (v := .ref 48) f177_1 g0 rfl).trans ?_
  refine (r_iloadn f177_4 rfl).trans ?_
  refine (r_put (h' := ((h.1.set 48 (.inr (5, [.ref 1, .ref 16, .ref 41, .ref 49, .int 0, .ref 50, .ref 51, .int x1, .ref 52, .int 0, .ref 53, .ref 54, .int 0, .int 0, .int 0, .int 0, .int 0]))), h.2)) f177_5 g48 rfl rfl).trans ?_
  refine (r_iconst (v := 1) f177_8 rfl).trans ?_
  exact r_ireturn f177_9 rfl
set_option maxHeartbeats 40000000 in
theorem qm33_0_0 {X : aX} {n d : Nat} {h : aH} {x1 : Int32}  (g72 : h.1[72]? = some (.inr (12, zF72))) : arun X (n + 5) (d + 1) zM290 0 [some (.ref 72), some (.int x1)] [] h = some (some (.int 1), ((h.1.set 72 (.inr (12, (zF72.set 83 (.int x1))))), h.2)) := by
  refine (r_aloadn f290_0 rfl).trans ?_
  refine (r_iloadn f290_1 rfl).trans ?_
  refine (r_put (h' := ((h.1.set 72 (.inr (12, (zF72.set 83 (.int x1))))), h.2)) f290_2 g72 rfl rfl).trans ?_
  refine (r_iconst (v := 1) f290_5 rfl).trans ?_
  exact r_ireturn f290_6 rfl
set_option maxHeartbeats 40000000 in
theorem qc35_0 {X : aX} {n d : Nat} {h : aH} {x1 : Int32}  (g0 : h.1[0]? = some (.inr (11, zF0))) (g48 : h.1[48]? = some (.inr (5, zF48))) (ec0 : x1 < 0) : arun X (n + 13) (d + 2) zM179 0 [some (.ref 0), some (.int x1)] [] h = some (some (.int (-1)), h) := by
  refine (r_iloadn f179_0 rfl).trans ?_
  refine (r_iconst (v := 0) f179_1 rfl).trans ?_
  refine (r_aloadn f179_2 rfl).trans ?_
  refine (r_get (v := .ref 48) f179_3 g0 rfl).trans ?_
  refine (r_get (v := .int 0) f179_6 g48 rfl).trans ?_
  refine (r_iconst (v := 1) f179_9 rfl).trans ?_
  refine (r_isub (v := (-1)) f179_10 (by decide)).trans ?_
  have hc1 : arun X (n + 5) (d + 1) zM137 0 [some (.int x1), some (.int 0), some (.int (-1))] [] h = some ((some (.int 0)), h) := by
    refine (r_iloadn f137_0 rfl).trans ?_
    refine (r_iloadn f137_1 rfl).trans ?_
    refine (r_icmp_gt_t f137_2 ec0).trans ?_
    refine (r_iconst (v := 0) f137_14 rfl).trans ?_
    exact r_zreturn f137_15 rfl (by decide)
  refine (r_stat (as := [.int x1, .int 0, .int (-1)]) (v := (some (.int 0))) (h1 := h) f179_11 rfl zg137 rfl rfl rfl rfl rfl rfl hc1).trans ?_
  refine (r_if_eq_t f179_14 (by decide)).trans ?_
  refine (r_iconst (v := (-1)) f179_29 rfl).trans ?_
  exact r_ireturn f179_30 rfl
set_option maxHeartbeats 40000000 in
theorem qm35_0_0 {X : aX} {n d : Nat} {h : aH} {x1 : Int32}  (g72 : h.1[72]? = some (.inr (12, zF72))) (ec0 : x1 < 0) : arun X (n + 12) (d + 2) zM294 0 [some (.ref 72), some (.int x1)] [] h = some (some (.int (-1)), h) := by
  refine (r_iloadn f294_0 rfl).trans ?_
  refine (r_iconst (v := 0) f294_1 rfl).trans ?_
  refine (r_aloadn f294_2 rfl).trans ?_
  refine (r_get (v := .int (-1)) f294_3 g72 rfl).trans ?_
  refine (r_iconst (v := 1) f294_6 rfl).trans ?_
  refine (r_isub (v := (-2)) f294_7 (by decide)).trans ?_
  have hc1 : arun X (n + 5) (d + 1) zM196 0 [some (.int x1), some (.int 0), some (.int (-2))] [] h = some ((some (.int 0)), h) := by
    refine (r_iloadn f196_0 rfl).trans ?_
    refine (r_iloadn f196_1 rfl).trans ?_
    refine (r_icmp_lt_t f196_2 ec0).trans ?_
    refine (r_iconst (v := 0) f196_14 rfl).trans ?_
    exact r_zreturn f196_15 rfl (by decide)
  refine (r_stat (as := [.int x1, .int 0, .int (-2)]) (v := (some (.int 0))) (h1 := h) f294_8 rfl zg196 rfl rfl rfl rfl rfl rfl hc1).trans ?_
  refine (r_if_eq_t f294_11 (by decide)).trans ?_
  refine (r_iconst (v := (-1)) f294_23 rfl).trans ?_
  exact r_ireturn f294_24 rfl
set_option maxHeartbeats 40000000 in
theorem qc35_1 {X : aX} {n d : Nat} {h : aH} {x1 : Int32}  (g0 : h.1[0]? = some (.inr (11, zF0))) (g48 : h.1[48]? = some (.inr (5, zF48))) (ec0 : ¬ x1 < 0) (ec1 : (-1) < x1) : arun X (n + 16) (d + 2) zM179 0 [some (.ref 0), some (.int x1)] [] h = some (some (.int (-1)), h) := by
  refine (r_iloadn f179_0 rfl).trans ?_
  refine (r_iconst (v := 0) f179_1 rfl).trans ?_
  refine (r_aloadn f179_2 rfl).trans ?_
  refine (r_get (v := .ref 48) f179_3 g0 rfl).trans ?_
  refine (r_get (v := .int 0) f179_6 g48 rfl).trans ?_
  refine (r_iconst (v := 1) f179_9 rfl).trans ?_
  refine (r_isub (v := (-1)) f179_10 (by decide)).trans ?_
  have hc1 : arun X (n + 8) (d + 1) zM137 0 [some (.int x1), some (.int 0), some (.int (-1))] [] h = some ((some (.int 0)), h) := by
    refine (r_iloadn f137_0 rfl).trans ?_
    refine (r_iloadn f137_1 rfl).trans ?_
    refine (r_icmp_gt_f f137_2 ec0).trans ?_
    refine (r_iloadn f137_5 rfl).trans ?_
    refine (r_iloadn f137_6 rfl).trans ?_
    refine (r_icmp_gt_t f137_7 ec1).trans ?_
    refine (r_iconst (v := 0) f137_14 rfl).trans ?_
    exact r_zreturn f137_15 rfl (by decide)
  refine (r_stat (as := [.int x1, .int 0, .int (-1)]) (v := (some (.int 0))) (h1 := h) f179_11 rfl zg137 rfl rfl rfl rfl rfl rfl hc1).trans ?_
  refine (r_if_eq_t f179_14 (by decide)).trans ?_
  refine (r_iconst (v := (-1)) f179_29 rfl).trans ?_
  exact r_ireturn f179_30 rfl
set_option maxHeartbeats 40000000 in
theorem qm35_1_0 {X : aX} {n d : Nat} {h : aH} {x1 : Int32}  (g72 : h.1[72]? = some (.inr (12, zF72))) (ec0 : ¬ x1 < 0) (em0 : (-2) < x1) : arun X (n + 15) (d + 2) zM294 0 [some (.ref 72), some (.int x1)] [] h = some (some (.int (-1)), h) := by
  refine (r_iloadn f294_0 rfl).trans ?_
  refine (r_iconst (v := 0) f294_1 rfl).trans ?_
  refine (r_aloadn f294_2 rfl).trans ?_
  refine (r_get (v := .int (-1)) f294_3 g72 rfl).trans ?_
  refine (r_iconst (v := 1) f294_6 rfl).trans ?_
  refine (r_isub (v := (-2)) f294_7 (by decide)).trans ?_
  have hc1 : arun X (n + 8) (d + 1) zM196 0 [some (.int x1), some (.int 0), some (.int (-2))] [] h = some ((some (.int 0)), h) := by
    refine (r_iloadn f196_0 rfl).trans ?_
    refine (r_iloadn f196_1 rfl).trans ?_
    refine (r_icmp_lt_f f196_2 ec0).trans ?_
    refine (r_iloadn f196_5 rfl).trans ?_
    refine (r_iloadn f196_6 rfl).trans ?_
    refine (r_icmp_gt_t f196_7 em0).trans ?_
    refine (r_iconst (v := 0) f196_14 rfl).trans ?_
    exact r_zreturn f196_15 rfl (by decide)
  refine (r_stat (as := [.int x1, .int 0, .int (-2)]) (v := (some (.int 0))) (h1 := h) f294_8 rfl zg196 rfl rfl rfl rfl rfl rfl hc1).trans ?_
  refine (r_if_eq_t f294_11 (by decide)).trans ?_
  refine (r_iconst (v := (-1)) f294_23 rfl).trans ?_
  exact r_ireturn f294_24 rfl
set_option maxHeartbeats 40000000 in
theorem qc37_0 {X : aX} {n d : Nat} {h : aH} {x1 : Int32}  (ec0 : x1 < 1) : arun X (n + 9) (d + 2) zM181 0 [some (.ref 0), some (.int x1)] [] h = some (some (.int (-1)), h) := by
  refine (r_iloadn f181_0 rfl).trans ?_
  refine (r_iconst (v := 1) f181_1 rfl).trans ?_
  refine (r_sipush (v := 576) f181_2 rfl).trans ?_
  have hc1 : arun X (n + 5) (d + 1) zM137 0 [some (.int x1), some (.int 1), some (.int 576)] [] h = some ((some (.int 0)), h) := by
    refine (r_iloadn f137_0 rfl).trans ?_
    refine (r_iloadn f137_1 rfl).trans ?_
    refine (r_icmp_gt_t f137_2 ec0).trans ?_
    refine (r_iconst (v := 0) f137_14 rfl).trans ?_
    exact r_zreturn f137_15 rfl (by decide)
  refine (r_stat (as := [.int x1, .int 1, .int 576]) (v := (some (.int 0))) (h1 := h) f181_5 rfl zg137 rfl rfl rfl rfl rfl rfl hc1).trans ?_
  refine (r_if_ne_f f181_8 (by decide)).trans ?_
  refine (r_iconst (v := (-1)) f181_11 rfl).trans ?_
  exact r_ireturn f181_12 rfl
set_option maxHeartbeats 40000000 in
theorem qm37_0_0 {X : aX} {n d : Nat} {h : aH} {x1 : Int32}  (ec0 : x1 < 1) : arun X (n + 9) (d + 2) zM299 0 [some (.ref 72), some (.int x1)] [] h = some (some (.int (-1)), h) := by
  refine (r_iloadn f299_0 rfl).trans ?_
  refine (r_iconst (v := 1) f299_1 rfl).trans ?_
  refine (r_sipush (v := 576) f299_2 rfl).trans ?_
  have hc1 : arun X (n + 5) (d + 1) zM196 0 [some (.int x1), some (.int 1), some (.int 576)] [] h = some ((some (.int 0)), h) := by
    refine (r_iloadn f196_0 rfl).trans ?_
    refine (r_iloadn f196_1 rfl).trans ?_
    refine (r_icmp_lt_t f196_2 ec0).trans ?_
    refine (r_iconst (v := 0) f196_14 rfl).trans ?_
    exact r_zreturn f196_15 rfl (by decide)
  refine (r_stat (as := [.int x1, .int 1, .int 576]) (v := (some (.int 0))) (h1 := h) f299_5 rfl zg196 rfl rfl rfl rfl rfl rfl hc1).trans ?_
  refine (r_if_ne_f f299_8 (by decide)).trans ?_
  refine (r_iconst (v := (-1)) f299_11 rfl).trans ?_
  exact r_ireturn f299_12 rfl
set_option maxHeartbeats 40000000 in
theorem qc37_1 {X : aX} {n d : Nat} {h : aH} {x1 : Int32}  (ec0 : ¬ x1 < 1) (ec1 : 576 < x1) : arun X (n + 12) (d + 2) zM181 0 [some (.ref 0), some (.int x1)] [] h = some (some (.int (-1)), h) := by
  refine (r_iloadn f181_0 rfl).trans ?_
  refine (r_iconst (v := 1) f181_1 rfl).trans ?_
  refine (r_sipush (v := 576) f181_2 rfl).trans ?_
  have hc1 : arun X (n + 8) (d + 1) zM137 0 [some (.int x1), some (.int 1), some (.int 576)] [] h = some ((some (.int 0)), h) := by
    refine (r_iloadn f137_0 rfl).trans ?_
    refine (r_iloadn f137_1 rfl).trans ?_
    refine (r_icmp_gt_f f137_2 ec0).trans ?_
    refine (r_iloadn f137_5 rfl).trans ?_
    refine (r_iloadn f137_6 rfl).trans ?_
    refine (r_icmp_gt_t f137_7 ec1).trans ?_
    refine (r_iconst (v := 0) f137_14 rfl).trans ?_
    exact r_zreturn f137_15 rfl (by decide)
  refine (r_stat (as := [.int x1, .int 1, .int 576]) (v := (some (.int 0))) (h1 := h) f181_5 rfl zg137 rfl rfl rfl rfl rfl rfl hc1).trans ?_
  refine (r_if_ne_f f181_8 (by decide)).trans ?_
  refine (r_iconst (v := (-1)) f181_11 rfl).trans ?_
  exact r_ireturn f181_12 rfl
set_option maxHeartbeats 40000000 in
theorem qm37_1_0 {X : aX} {n d : Nat} {h : aH} {x1 : Int32}  (ec0 : ¬ x1 < 1) (ec1 : 576 < x1) : arun X (n + 12) (d + 2) zM299 0 [some (.ref 72), some (.int x1)] [] h = some (some (.int (-1)), h) := by
  refine (r_iloadn f299_0 rfl).trans ?_
  refine (r_iconst (v := 1) f299_1 rfl).trans ?_
  refine (r_sipush (v := 576) f299_2 rfl).trans ?_
  have hc1 : arun X (n + 8) (d + 1) zM196 0 [some (.int x1), some (.int 1), some (.int 576)] [] h = some ((some (.int 0)), h) := by
    refine (r_iloadn f196_0 rfl).trans ?_
    refine (r_iloadn f196_1 rfl).trans ?_
    refine (r_icmp_lt_f f196_2 ec0).trans ?_
    refine (r_iloadn f196_5 rfl).trans ?_
    refine (r_iloadn f196_6 rfl).trans ?_
    refine (r_icmp_gt_t f196_7 ec1).trans ?_
    refine (r_iconst (v := 0) f196_14 rfl).trans ?_
    exact r_zreturn f196_15 rfl (by decide)
  refine (r_stat (as := [.int x1, .int 1, .int 576]) (v := (some (.int 0))) (h1 := h) f299_5 rfl zg196 rfl rfl rfl rfl rfl rfl hc1).trans ?_
  refine (r_if_ne_f f299_8 (by decide)).trans ?_
  refine (r_iconst (v := (-1)) f299_11 rfl).trans ?_
  exact r_ireturn f299_12 rfl
set_option maxHeartbeats 40000000 in
theorem qc37_2 {X : aX} {n d : Nat} {h : aH} {x1 : Int32}  (g0 : h.1[0]? = some (.inr (11, zF0))) (g55 : h.1[55]? = some (.inr (4, zF55))) (g56 : h.1[56]? = some (.inl (0, 6, .inl (fun _ => 0)))) (ec0 : ¬ x1 < 1) (ec1 : ¬ 576 < x1) : arun X (n + 33) (d + 2) zM181 0 [some (.ref 0), some (.int x1)] [] h = some (some (.int 1), (((h.1.set 56 (.inl (0, 6, .inl (upd (fun _ => 0) (Int32.toNatClampNeg 0) x1)))).set 55 (.inr (4, [.ref 56, .int 1, .ref 57, .ref 58, .int 0, .ref 59, .ref 60, .ref 61, .ref 62, .int 0, .int 0, .int 0]))), h.2)) := by
  refine (r_iloadn f181_0 rfl).trans ?_
  refine (r_iconst (v := 1) f181_1 rfl).trans ?_
  refine (r_sipush (v := 576) f181_2 rfl).trans ?_
  have hc1 : arun X (n + 29) (d + 1) zM137 0 [some (.int x1), some (.int 1), some (.int 576)] [] h = some ((some (.int 1)), h) := by
    refine (r_iloadn f137_0 rfl).trans ?_
    refine (r_iloadn f137_1 rfl).trans ?_
    refine (r_icmp_gt_f f137_2 ec0).trans ?_
    refine (r_iloadn f137_5 rfl).trans ?_
    refine (r_iloadn f137_6 rfl).trans ?_
    refine (r_icmp_gt_f f137_7 ec1).trans ?_
    refine (r_iconst (v := 1) f137_10 rfl).trans ?_
    refine (r_goto f137_11).trans ?_
    exact r_zreturn f137_15 rfl (by decide)
  refine (r_stat (as := [.int x1, .int 1, .int 576]) (v := (some (.int 1))) (h1 := h) f181_5 rfl zg137 rfl rfl rfl rfl rfl rfl hc1).trans ?_
  refine (r_if_ne_t f181_8 (by decide)).trans ?_
  refine (r_aloadn f181_13 rfl).trans ?_
  refine (r_get (v := .ref 55) f181_14 g0 rfl).trans ?_
  refine (r_get (v := .int 0) f181_17 g55 rfl).trans ?_
  refine (r_bipush (v := 6) f181_20 rfl).trans ?_
  refine (r_icmp_lt_t f181_22 (by decide)).trans ?_
  refine (r_aloadn f181_30 rfl).trans ?_
  refine (r_get (v := .ref 55) f181_31 g0 rfl).trans ?_
  refine (r_iloadn f181_34 rfl).trans ?_
  have hc2 : arun X (n + 19) (d + 1) zM45 0 [some (.ref 55), some (.int x1)] [] h = some ((some (.int 1)), (((h.1.set 56 (.inl (0, 6, .inl (upd (fun _ => 0) (Int32.toNatClampNeg 0) x1)))).set 55 (.inr (4, [.ref 56, .int 1, .ref 57, .ref 58, .int 0, .ref 59, .ref 60, .ref 61, .ref 62, .int 0, .int 0, .int 0]))), h.2)) := by
    refine (r_aloadn f45_0 rfl).trans ?_
    refine (r_get (v := .int 0) f45_1 g55 rfl).trans ?_
    refine (r_bipush (v := 6) f45_4 rfl).trans ?_
    refine (r_icmp_ge_f f45_6 (by decide)).trans ?_
    refine (r_aloadn f45_9 rfl).trans ?_
    refine (r_get (v := .ref 56) f45_10 g55 rfl).trans ?_
    refine (r_aloadn f45_13 rfl).trans ?_
    refine (r_get (v := .int 0) f45_14 g55 rfl).trans ?_
    refine (r_iloadn f45_17 rfl).trans ?_
    refine (r_iast (h' := ((h.1.set 56 (.inl (0, 6, .inl (upd (fun _ => 0) (Int32.toNatClampNeg 0) x1)))), h.2)) f45_18 g56 (by decide) rfl).trans ?_
    refine (r_aloadn f45_19 rfl).trans ?_
    refine (r_dup f45_20 rfl).trans ?_
    refine (r_get (v := .int 0) f45_21 (gs_ne g55 (by decide)) rfl).trans ?_
    refine (r_iconst (v := 1) f45_24 rfl).trans ?_
    refine (r_iadd (v := 1) f45_25 (by decide)).trans ?_
    refine (r_put (h' := (((h.1.set 56 (.inl (0, 6, .inl (upd (fun _ => 0) (Int32.toNatClampNeg 0) x1)))).set 55 (.inr (4, [.ref 56, .int 1, .ref 57, .ref 58, .int 0, .ref 59, .ref 60, .ref 61, .ref 62, .int 0, .int 0, .int 0]))), h.2)) f45_26 (gs_ne g55 (by decide)) rfl rfl).trans ?_
    refine (r_aloadn f45_29 rfl).trans ?_
    refine (r_get (v := .int 1) f45_30 (gs_eq (gs_ne g55 (by decide))) rfl).trans ?_
    exact r_ireturn f45_33 rfl
  refine (r_virt (as := [.int x1]) (v := (some (.int 1))) (h1 := (((h.1.set 56 (.inl (0, 6, .inl (upd (fun _ => 0) (Int32.toNatClampNeg 0) x1)))).set 55 (.inr (4, [.ref 56, .int 1, .ref 57, .ref 58, .int 0, .ref 59, .ref 60, .ref 61, .ref 62, .int 0, .int 0, .int 0]))), h.2)) f181_35 g55 zg45 rfl rfl rfl rfl rfl rfl hc2).trans ?_
  exact r_ireturn f181_38 rfl
set_option maxHeartbeats 40000000 in
theorem qm37_2_0 {X : aX} {n d : Nat} {h : aH} {x1 : Int32}  (g72 : h.1[72]? = some (.inr (12, zF72))) (g136 : h.1[136]? = some (.inl (0, 6, .inl (fun _ => 0)))) (ec0 : ¬ x1 < 1) (ec1 : ¬ 576 < x1) : arun X (n + 24) (d + 2) zM299 0 [some (.ref 72), some (.int x1)] [] h = some (some (.int 1), (((h.1.set 136 (.inl (0, 6, .inl (upd (fun _ => 0) (Int32.toNatClampNeg 0) x1)))).set 72 (.inr (12, (zF72.set 87 (.int 1))))), h.2)) := by
  refine (r_iloadn f299_0 rfl).trans ?_
  refine (r_iconst (v := 1) f299_1 rfl).trans ?_
  refine (r_sipush (v := 576) f299_2 rfl).trans ?_
  have hc1 : arun X (n + 20) (d + 1) zM196 0 [some (.int x1), some (.int 1), some (.int 576)] [] h = some ((some (.int 1)), h) := by
    refine (r_iloadn f196_0 rfl).trans ?_
    refine (r_iloadn f196_1 rfl).trans ?_
    refine (r_icmp_lt_f f196_2 ec0).trans ?_
    refine (r_iloadn f196_5 rfl).trans ?_
    refine (r_iloadn f196_6 rfl).trans ?_
    refine (r_icmp_gt_f f196_7 ec1).trans ?_
    refine (r_iconst (v := 1) f196_10 rfl).trans ?_
    refine (r_goto f196_11).trans ?_
    exact r_zreturn f196_15 rfl (by decide)
  refine (r_stat (as := [.int x1, .int 1, .int 576]) (v := (some (.int 1))) (h1 := h) f299_5 rfl zg196 rfl rfl rfl rfl rfl rfl hc1).trans ?_
  refine (r_if_ne_t f299_8 (by decide)).trans ?_
  refine (r_aloadn f299_13 rfl).trans ?_
  refine (r_get (v := .int 0) f299_14 g72 rfl).trans ?_
  refine (r_bipush (v := 6) f299_17 rfl).trans ?_
  refine (r_icmp_ne_t f299_19 (by decide)).trans ?_
  refine (r_aloadn f299_25 rfl).trans ?_
  refine (r_get (v := .ref 136) f299_26 g72 rfl).trans ?_
  refine (r_aloadn f299_29 rfl).trans ?_
  refine (r_get (v := .int 0) f299_30 g72 rfl).trans ?_
  refine (r_iloadn f299_33 rfl).trans ?_
  refine (r_iast (h' := ((h.1.set 136 (.inl (0, 6, .inl (upd (fun _ => 0) (Int32.toNatClampNeg 0) x1)))), h.2)) f299_34 g136 (by decide) rfl).trans ?_
  refine (r_aloadn f299_35 rfl).trans ?_
  refine (r_dup f299_36 rfl).trans ?_
  refine (r_get (v := .int 0) f299_37 (gs_ne g72 (by decide)) rfl).trans ?_
  refine (r_iconst (v := 1) f299_40 rfl).trans ?_
  refine (r_iadd (v := 1) f299_41 (by decide)).trans ?_
  refine (r_put (h' := (((h.1.set 136 (.inl (0, 6, .inl (upd (fun _ => 0) (Int32.toNatClampNeg 0) x1)))).set 72 (.inr (12, (zF72.set 87 (.int 1))))), h.2)) f299_42 (gs_ne g72 (by decide)) rfl rfl).trans ?_
  refine (r_aloadn f299_45 rfl).trans ?_
  refine (r_get (v := .int 1) f299_46 (gs_eq (gs_ne g72 (by decide))) rfl).trans ?_
  exact r_ireturn f299_49 rfl
set_option maxHeartbeats 40000000 in
theorem qc38_0 {X : aX} {n d : Nat} {h : aH} {x1 : Int32} {x2 : Int32}  (ec0 : x1 < 0) : arun X (n + 11) (d + 3) zM182 0 [some (.ref 0), some (.int x1), some (.int x2), none] [] h = some (some (.int (-1)), h) := by
  refine (r_iloadn f182_0 rfl).trans ?_
  have hc1 : arun X (n + 9) (d + 2) zM141 0 [some (.int x1)] [] h = some ((some (.int 0)), h) := by
    refine (r_iloadn f141_0 rfl).trans ?_
    refine (r_iconst (v := 0) f141_1 rfl).trans ?_
    refine (r_bipush (v := 7) f141_2 rfl).trans ?_
    have hc2 : arun X (n + 5) (d + 1) zM137 0 [some (.int x1), some (.int 0), some (.int 7)] [] h = some ((some (.int 0)), h) := by
      refine (r_iloadn f137_0 rfl).trans ?_
      refine (r_iloadn f137_1 rfl).trans ?_
      refine (r_icmp_gt_t f137_2 ec0).trans ?_
      refine (r_iconst (v := 0) f137_14 rfl).trans ?_
      exact r_zreturn f137_15 rfl (by decide)
    refine (r_stat (as := [.int x1, .int 0, .int 7]) (v := (some (.int 0))) (h1 := h) f141_4 rfl zg137 rfl rfl rfl rfl rfl rfl hc2).trans ?_
    exact r_zreturn f141_7 rfl (by decide)
  refine (r_stat (as := [.int x1]) (v := (some (.int 0))) (h1 := h) f182_1 rfl zg141 rfl rfl rfl rfl rfl rfl hc1).trans ?_
  refine (r_if_eq_t f182_4 (by decide)).trans ?_
  refine (r_iconst (v := (-1)) f182_17 rfl).trans ?_
  exact r_ireturn f182_18 rfl
set_option maxHeartbeats 40000000 in
theorem qm38_0_0 {X : aX} {n d : Nat} {h : aH} {x1 : Int32} {x2 : Int32}  (ec0 : x1 < 0) : arun X (n + 9) (d + 2) zM300 0 [some (.ref 72), some (.int x1), some (.int x2), none] [] h = some (some (.int (-1)), h) := by
  refine (r_iloadn f300_0 rfl).trans ?_
  refine (r_iconst (v := 0) f300_1 rfl).trans ?_
  refine (r_bipush (v := 7) f300_2 rfl).trans ?_
  have hc1 : arun X (n + 5) (d + 1) zM196 0 [some (.int x1), some (.int 0), some (.int 7)] [] h = some ((some (.int 0)), h) := by
    refine (r_iloadn f196_0 rfl).trans ?_
    refine (r_iloadn f196_1 rfl).trans ?_
    refine (r_icmp_lt_t f196_2 ec0).trans ?_
    refine (r_iconst (v := 0) f196_14 rfl).trans ?_
    exact r_zreturn f196_15 rfl (by decide)
  refine (r_stat (as := [.int x1, .int 0, .int 7]) (v := (some (.int 0))) (h1 := h) f300_4 rfl zg196 rfl rfl rfl rfl rfl rfl hc1).trans ?_
  refine (r_if_eq_t f300_7 (by decide)).trans ?_
  refine (r_iconst (v := (-1)) f300_20 rfl).trans ?_
  exact r_ireturn f300_21 rfl
set_option maxHeartbeats 40000000 in
theorem qc38_1 {X : aX} {n d : Nat} {h : aH} {x1 : Int32} {x2 : Int32}  (ec0 : ¬ x1 < 0) (ec1 : 7 < x1) : arun X (n + 14) (d + 3) zM182 0 [some (.ref 0), some (.int x1), some (.int x2), none] [] h = some (some (.int (-1)), h) := by
  refine (r_iloadn f182_0 rfl).trans ?_
  have hc1 : arun X (n + 12) (d + 2) zM141 0 [some (.int x1)] [] h = some ((some (.int 0)), h) := by
    refine (r_iloadn f141_0 rfl).trans ?_
    refine (r_iconst (v := 0) f141_1 rfl).trans ?_
    refine (r_bipush (v := 7) f141_2 rfl).trans ?_
    have hc2 : arun X (n + 8) (d + 1) zM137 0 [some (.int x1), some (.int 0), some (.int 7)] [] h = some ((some (.int 0)), h) := by
      refine (r_iloadn f137_0 rfl).trans ?_
      refine (r_iloadn f137_1 rfl).trans ?_
      refine (r_icmp_gt_f f137_2 ec0).trans ?_
      refine (r_iloadn f137_5 rfl).trans ?_
      refine (r_iloadn f137_6 rfl).trans ?_
      refine (r_icmp_gt_t f137_7 ec1).trans ?_
      refine (r_iconst (v := 0) f137_14 rfl).trans ?_
      exact r_zreturn f137_15 rfl (by decide)
    refine (r_stat (as := [.int x1, .int 0, .int 7]) (v := (some (.int 0))) (h1 := h) f141_4 rfl zg137 rfl rfl rfl rfl rfl rfl hc2).trans ?_
    exact r_zreturn f141_7 rfl (by decide)
  refine (r_stat (as := [.int x1]) (v := (some (.int 0))) (h1 := h) f182_1 rfl zg141 rfl rfl rfl rfl rfl rfl hc1).trans ?_
  refine (r_if_eq_t f182_4 (by decide)).trans ?_
  refine (r_iconst (v := (-1)) f182_17 rfl).trans ?_
  exact r_ireturn f182_18 rfl
set_option maxHeartbeats 40000000 in
theorem qm38_1_0 {X : aX} {n d : Nat} {h : aH} {x1 : Int32} {x2 : Int32}  (ec0 : ¬ x1 < 0) (ec1 : 7 < x1) : arun X (n + 12) (d + 2) zM300 0 [some (.ref 72), some (.int x1), some (.int x2), none] [] h = some (some (.int (-1)), h) := by
  refine (r_iloadn f300_0 rfl).trans ?_
  refine (r_iconst (v := 0) f300_1 rfl).trans ?_
  refine (r_bipush (v := 7) f300_2 rfl).trans ?_
  have hc1 : arun X (n + 8) (d + 1) zM196 0 [some (.int x1), some (.int 0), some (.int 7)] [] h = some ((some (.int 0)), h) := by
    refine (r_iloadn f196_0 rfl).trans ?_
    refine (r_iloadn f196_1 rfl).trans ?_
    refine (r_icmp_lt_f f196_2 ec0).trans ?_
    refine (r_iloadn f196_5 rfl).trans ?_
    refine (r_iloadn f196_6 rfl).trans ?_
    refine (r_icmp_gt_t f196_7 ec1).trans ?_
    refine (r_iconst (v := 0) f196_14 rfl).trans ?_
    exact r_zreturn f196_15 rfl (by decide)
  refine (r_stat (as := [.int x1, .int 0, .int 7]) (v := (some (.int 0))) (h1 := h) f300_4 rfl zg196 rfl rfl rfl rfl rfl rfl hc1).trans ?_
  refine (r_if_eq_t f300_7 (by decide)).trans ?_
  refine (r_iconst (v := (-1)) f300_20 rfl).trans ?_
  exact r_ireturn f300_21 rfl
set_option maxHeartbeats 40000000 in
theorem qc38_2 {X : aX} {n d : Nat} {h : aH} {x1 : Int32} {x2 : Int32}  (ec0 : ¬ x1 < 0) (ec1 : ¬ 7 < x1) (ec2 : x2 < 0) : arun X (n + 15) (d + 3) zM182 0 [some (.ref 0), some (.int x1), some (.int x2), none] [] h = some (some (.int (-1)), h) := by
  refine (r_iloadn f182_0 rfl).trans ?_
  have hc1 : arun X (n + 13) (d + 2) zM141 0 [some (.int x1)] [] h = some ((some (.int 1)), h) := by
    refine (r_iloadn f141_0 rfl).trans ?_
    refine (r_iconst (v := 0) f141_1 rfl).trans ?_
    refine (r_bipush (v := 7) f141_2 rfl).trans ?_
    have hc2 : arun X (n + 9) (d + 1) zM137 0 [some (.int x1), some (.int 0), some (.int 7)] [] h = some ((some (.int 1)), h) := by
      refine (r_iloadn f137_0 rfl).trans ?_
      refine (r_iloadn f137_1 rfl).trans ?_
      refine (r_icmp_gt_f f137_2 ec0).trans ?_
      refine (r_iloadn f137_5 rfl).trans ?_
      refine (r_iloadn f137_6 rfl).trans ?_
      refine (r_icmp_gt_f f137_7 ec1).trans ?_
      refine (r_iconst (v := 1) f137_10 rfl).trans ?_
      refine (r_goto f137_11).trans ?_
      exact r_zreturn f137_15 rfl (by decide)
    refine (r_stat (as := [.int x1, .int 0, .int 7]) (v := (some (.int 1))) (h1 := h) f141_4 rfl zg137 rfl rfl rfl rfl rfl rfl hc2).trans ?_
    exact r_zreturn f141_7 rfl (by decide)
  refine (r_stat (as := [.int x1]) (v := (some (.int 1))) (h1 := h) f182_1 rfl zg141 rfl rfl rfl rfl rfl rfl hc1).trans ?_
  refine (r_if_eq_f f182_4 (by decide)).trans ?_
  refine (r_iloadn f182_7 rfl).trans ?_
  refine (r_iconst (v := 0) f182_8 rfl).trans ?_
  refine (r_bipush (v := 99) f182_9 rfl).trans ?_
  have hc3 : arun X (n + 8) (d + 2) zM137 0 [some (.int x2), some (.int 0), some (.int 99)] [] h = some ((some (.int 0)), h) := by
    refine (r_iloadn f137_0 rfl).trans ?_
    refine (r_iloadn f137_1 rfl).trans ?_
    refine (r_icmp_gt_t f137_2 ec2).trans ?_
    refine (r_iconst (v := 0) f137_14 rfl).trans ?_
    exact r_zreturn f137_15 rfl (by decide)
  refine (r_stat (as := [.int x2, .int 0, .int 99]) (v := (some (.int 0))) (h1 := h) f182_11 rfl zg137 rfl rfl rfl rfl rfl rfl hc3).trans ?_
  refine (r_if_ne_f f182_14 (by decide)).trans ?_
  refine (r_iconst (v := (-1)) f182_17 rfl).trans ?_
  exact r_ireturn f182_18 rfl
set_option maxHeartbeats 40000000 in
theorem qm38_2_0 {X : aX} {n d : Nat} {h : aH} {x1 : Int32} {x2 : Int32}  (ec0 : ¬ x1 < 0) (ec1 : ¬ 7 < x1) (ec2 : x2 < 0) : arun X (n + 14) (d + 2) zM300 0 [some (.ref 72), some (.int x1), some (.int x2), none] [] h = some (some (.int (-1)), h) := by
  refine (r_iloadn f300_0 rfl).trans ?_
  refine (r_iconst (v := 0) f300_1 rfl).trans ?_
  refine (r_bipush (v := 7) f300_2 rfl).trans ?_
  have hc1 : arun X (n + 10) (d + 1) zM196 0 [some (.int x1), some (.int 0), some (.int 7)] [] h = some ((some (.int 1)), h) := by
    refine (r_iloadn f196_0 rfl).trans ?_
    refine (r_iloadn f196_1 rfl).trans ?_
    refine (r_icmp_lt_f f196_2 ec0).trans ?_
    refine (r_iloadn f196_5 rfl).trans ?_
    refine (r_iloadn f196_6 rfl).trans ?_
    refine (r_icmp_gt_f f196_7 ec1).trans ?_
    refine (r_iconst (v := 1) f196_10 rfl).trans ?_
    refine (r_goto f196_11).trans ?_
    exact r_zreturn f196_15 rfl (by decide)
  refine (r_stat (as := [.int x1, .int 0, .int 7]) (v := (some (.int 1))) (h1 := h) f300_4 rfl zg196 rfl rfl rfl rfl rfl rfl hc1).trans ?_
  refine (r_if_eq_f f300_7 (by decide)).trans ?_
  refine (r_iloadn f300_10 rfl).trans ?_
  refine (r_iconst (v := 0) f300_11 rfl).trans ?_
  refine (r_bipush (v := 99) f300_12 rfl).trans ?_
  have hc2 : arun X (n + 5) (d + 1) zM196 0 [some (.int x2), some (.int 0), some (.int 99)] [] h = some ((some (.int 0)), h) := by
    refine (r_iloadn f196_0 rfl).trans ?_
    refine (r_iloadn f196_1 rfl).trans ?_
    refine (r_icmp_lt_t f196_2 ec2).trans ?_
    refine (r_iconst (v := 0) f196_14 rfl).trans ?_
    exact r_zreturn f196_15 rfl (by decide)
  refine (r_stat (as := [.int x2, .int 0, .int 99]) (v := (some (.int 0))) (h1 := h) f300_14 rfl zg196 rfl rfl rfl rfl rfl rfl hc2).trans ?_
  refine (r_if_ne_f f300_17 (by decide)).trans ?_
  refine (r_iconst (v := (-1)) f300_20 rfl).trans ?_
  exact r_ireturn f300_21 rfl
set_option maxHeartbeats 40000000 in
theorem qc38_3 {X : aX} {n d : Nat} {h : aH} {x1 : Int32} {x2 : Int32}  (ec0 : ¬ x1 < 0) (ec1 : ¬ 7 < x1) (ec2 : ¬ x2 < 0) (ec3 : 99 < x2) : arun X (n + 15) (d + 3) zM182 0 [some (.ref 0), some (.int x1), some (.int x2), none] [] h = some (some (.int (-1)), h) := by
  refine (r_iloadn f182_0 rfl).trans ?_
  have hc1 : arun X (n + 13) (d + 2) zM141 0 [some (.int x1)] [] h = some ((some (.int 1)), h) := by
    refine (r_iloadn f141_0 rfl).trans ?_
    refine (r_iconst (v := 0) f141_1 rfl).trans ?_
    refine (r_bipush (v := 7) f141_2 rfl).trans ?_
    have hc2 : arun X (n + 9) (d + 1) zM137 0 [some (.int x1), some (.int 0), some (.int 7)] [] h = some ((some (.int 1)), h) := by
      refine (r_iloadn f137_0 rfl).trans ?_
      refine (r_iloadn f137_1 rfl).trans ?_
      refine (r_icmp_gt_f f137_2 ec0).trans ?_
      refine (r_iloadn f137_5 rfl).trans ?_
      refine (r_iloadn f137_6 rfl).trans ?_
      refine (r_icmp_gt_f f137_7 ec1).trans ?_
      refine (r_iconst (v := 1) f137_10 rfl).trans ?_
      refine (r_goto f137_11).trans ?_
      exact r_zreturn f137_15 rfl (by decide)
    refine (r_stat (as := [.int x1, .int 0, .int 7]) (v := (some (.int 1))) (h1 := h) f141_4 rfl zg137 rfl rfl rfl rfl rfl rfl hc2).trans ?_
    exact r_zreturn f141_7 rfl (by decide)
  refine (r_stat (as := [.int x1]) (v := (some (.int 1))) (h1 := h) f182_1 rfl zg141 rfl rfl rfl rfl rfl rfl hc1).trans ?_
  refine (r_if_eq_f f182_4 (by decide)).trans ?_
  refine (r_iloadn f182_7 rfl).trans ?_
  refine (r_iconst (v := 0) f182_8 rfl).trans ?_
  refine (r_bipush (v := 99) f182_9 rfl).trans ?_
  have hc3 : arun X (n + 8) (d + 2) zM137 0 [some (.int x2), some (.int 0), some (.int 99)] [] h = some ((some (.int 0)), h) := by
    refine (r_iloadn f137_0 rfl).trans ?_
    refine (r_iloadn f137_1 rfl).trans ?_
    refine (r_icmp_gt_f f137_2 ec2).trans ?_
    refine (r_iloadn f137_5 rfl).trans ?_
    refine (r_iloadn f137_6 rfl).trans ?_
    refine (r_icmp_gt_t f137_7 ec3).trans ?_
    refine (r_iconst (v := 0) f137_14 rfl).trans ?_
    exact r_zreturn f137_15 rfl (by decide)
  refine (r_stat (as := [.int x2, .int 0, .int 99]) (v := (some (.int 0))) (h1 := h) f182_11 rfl zg137 rfl rfl rfl rfl rfl rfl hc3).trans ?_
  refine (r_if_ne_f f182_14 (by decide)).trans ?_
  refine (r_iconst (v := (-1)) f182_17 rfl).trans ?_
  exact r_ireturn f182_18 rfl
set_option maxHeartbeats 40000000 in
theorem qm38_3_0 {X : aX} {n d : Nat} {h : aH} {x1 : Int32} {x2 : Int32}  (ec0 : ¬ x1 < 0) (ec1 : ¬ 7 < x1) (ec2 : ¬ x2 < 0) (ec3 : 99 < x2) : arun X (n + 17) (d + 2) zM300 0 [some (.ref 72), some (.int x1), some (.int x2), none] [] h = some (some (.int (-1)), h) := by
  refine (r_iloadn f300_0 rfl).trans ?_
  refine (r_iconst (v := 0) f300_1 rfl).trans ?_
  refine (r_bipush (v := 7) f300_2 rfl).trans ?_
  have hc1 : arun X (n + 13) (d + 1) zM196 0 [some (.int x1), some (.int 0), some (.int 7)] [] h = some ((some (.int 1)), h) := by
    refine (r_iloadn f196_0 rfl).trans ?_
    refine (r_iloadn f196_1 rfl).trans ?_
    refine (r_icmp_lt_f f196_2 ec0).trans ?_
    refine (r_iloadn f196_5 rfl).trans ?_
    refine (r_iloadn f196_6 rfl).trans ?_
    refine (r_icmp_gt_f f196_7 ec1).trans ?_
    refine (r_iconst (v := 1) f196_10 rfl).trans ?_
    refine (r_goto f196_11).trans ?_
    exact r_zreturn f196_15 rfl (by decide)
  refine (r_stat (as := [.int x1, .int 0, .int 7]) (v := (some (.int 1))) (h1 := h) f300_4 rfl zg196 rfl rfl rfl rfl rfl rfl hc1).trans ?_
  refine (r_if_eq_f f300_7 (by decide)).trans ?_
  refine (r_iloadn f300_10 rfl).trans ?_
  refine (r_iconst (v := 0) f300_11 rfl).trans ?_
  refine (r_bipush (v := 99) f300_12 rfl).trans ?_
  have hc2 : arun X (n + 8) (d + 1) zM196 0 [some (.int x2), some (.int 0), some (.int 99)] [] h = some ((some (.int 0)), h) := by
    refine (r_iloadn f196_0 rfl).trans ?_
    refine (r_iloadn f196_1 rfl).trans ?_
    refine (r_icmp_lt_f f196_2 ec2).trans ?_
    refine (r_iloadn f196_5 rfl).trans ?_
    refine (r_iloadn f196_6 rfl).trans ?_
    refine (r_icmp_gt_t f196_7 ec3).trans ?_
    refine (r_iconst (v := 0) f196_14 rfl).trans ?_
    exact r_zreturn f196_15 rfl (by decide)
  refine (r_stat (as := [.int x2, .int 0, .int 99]) (v := (some (.int 0))) (h1 := h) f300_14 rfl zg196 rfl rfl rfl rfl rfl rfl hc2).trans ?_
  refine (r_if_ne_f f300_17 (by decide)).trans ?_
  refine (r_iconst (v := (-1)) f300_20 rfl).trans ?_
  exact r_ireturn f300_21 rfl
set_option maxHeartbeats 40000000 in
theorem qc38_4 {X : aX} {n d : Nat} {h : aH} {x1 : Int32} {x2 : Int32}  (g0 : h.1[0]? = some (.inr (11, zF0))) (g55 : h.1[55]? = some (.inr (4, zF55))) (g57 : h.1[57]? = some (.inl (0, 8, .inl (fun _ => 0)))) (ec0 : ¬ x1 < 0) (ec1 : ¬ 7 < x1) (ec2 : ¬ x2 < 0) (ec3 : ¬ 99 < x2) (jc0 : ¬ (x1 < 0 ∨ 8 ≤ Int32.toNatClampNeg x1)) : arun X (n + 22) (d + 3) zM182 0 [some (.ref 0), some (.int x1), some (.int x2), none] [] h = some (some (.int 0), ((h.1.set 57 (.inl (0, 8, .inl (upd (fun _ => 0) (Int32.toNatClampNeg x1) x2)))), h.2)) := by
  refine (r_iloadn f182_0 rfl).trans ?_
  have hc1 : arun X (n + 20) (d + 2) zM141 0 [some (.int x1)] [] h = some ((some (.int 1)), h) := by
    refine (r_iloadn f141_0 rfl).trans ?_
    refine (r_iconst (v := 0) f141_1 rfl).trans ?_
    refine (r_bipush (v := 7) f141_2 rfl).trans ?_
    have hc2 : arun X (n + 16) (d + 1) zM137 0 [some (.int x1), some (.int 0), some (.int 7)] [] h = some ((some (.int 1)), h) := by
      refine (r_iloadn f137_0 rfl).trans ?_
      refine (r_iloadn f137_1 rfl).trans ?_
      refine (r_icmp_gt_f f137_2 ec0).trans ?_
      refine (r_iloadn f137_5 rfl).trans ?_
      refine (r_iloadn f137_6 rfl).trans ?_
      refine (r_icmp_gt_f f137_7 ec1).trans ?_
      refine (r_iconst (v := 1) f137_10 rfl).trans ?_
      refine (r_goto f137_11).trans ?_
      exact r_zreturn f137_15 rfl (by decide)
    refine (r_stat (as := [.int x1, .int 0, .int 7]) (v := (some (.int 1))) (h1 := h) f141_4 rfl zg137 rfl rfl rfl rfl rfl rfl hc2).trans ?_
    exact r_zreturn f141_7 rfl (by decide)
  refine (r_stat (as := [.int x1]) (v := (some (.int 1))) (h1 := h) f182_1 rfl zg141 rfl rfl rfl rfl rfl rfl hc1).trans ?_
  refine (r_if_eq_f f182_4 (by decide)).trans ?_
  refine (r_iloadn f182_7 rfl).trans ?_
  refine (r_iconst (v := 0) f182_8 rfl).trans ?_
  refine (r_bipush (v := 99) f182_9 rfl).trans ?_
  have hc3 : arun X (n + 15) (d + 2) zM137 0 [some (.int x2), some (.int 0), some (.int 99)] [] h = some ((some (.int 1)), h) := by
    refine (r_iloadn f137_0 rfl).trans ?_
    refine (r_iloadn f137_1 rfl).trans ?_
    refine (r_icmp_gt_f f137_2 ec2).trans ?_
    refine (r_iloadn f137_5 rfl).trans ?_
    refine (r_iloadn f137_6 rfl).trans ?_
    refine (r_icmp_gt_f f137_7 ec3).trans ?_
    refine (r_iconst (v := 1) f137_10 rfl).trans ?_
    refine (r_goto f137_11).trans ?_
    exact r_zreturn f137_15 rfl (by decide)
  refine (r_stat (as := [.int x2, .int 0, .int 99]) (v := (some (.int 1))) (h1 := h) f182_11 rfl zg137 rfl rfl rfl rfl rfl rfl hc3).trans ?_
  refine (r_if_ne_t f182_14 (by decide)).trans ?_
  refine (r_aloadn f182_19 rfl).trans ?_
  refine (r_get (v := .ref 55) f182_20 g0 rfl).trans ?_
  refine (r_get (v := .ref 57) f182_23 g55 rfl).trans ?_
  refine (r_iloadn f182_26 rfl).trans ?_
  refine (r_iald (v := 0) f182_27 g57 jc0 rfl).trans ?_
  refine (r_istoren (L' := [some (.ref 0), some (.int x1), some (.int x2), some (.int 0)]) f182_28 rfl rfl).trans ?_
  refine (r_aloadn f182_29 rfl).trans ?_
  refine (r_get (v := .ref 55) f182_30 g0 rfl).trans ?_
  refine (r_get (v := .ref 57) f182_33 g55 rfl).trans ?_
  refine (r_iloadn f182_36 rfl).trans ?_
  refine (r_iloadn f182_37 rfl).trans ?_
  refine (r_iast (h' := ((h.1.set 57 (.inl (0, 8, .inl (upd (fun _ => 0) (Int32.toNatClampNeg x1) x2)))), h.2)) f182_38 g57 jc0 rfl).trans ?_
  refine (r_iloadn f182_39 rfl).trans ?_
  exact r_ireturn f182_40 rfl
set_option maxHeartbeats 40000000 in
theorem qm38_4_0 {X : aX} {n d : Nat} {h : aH} {x1 : Int32} {x2 : Int32}  (g72 : h.1[72]? = some (.inr (12, zF72))) (g137 : h.1[137]? = some (.inl (0, 8, .inl (fun _ => 0)))) (ec0 : ¬ x1 < 0) (ec1 : ¬ 7 < x1) (ec2 : ¬ x2 < 0) (ec3 : ¬ 99 < x2) (jm0 : ¬ (x1 < 0 ∨ 8 ≤ Int32.toNatClampNeg x1)) : arun X (n + 22) (d + 2) zM300 0 [some (.ref 72), some (.int x1), some (.int x2), none] [] h = some (some (.int 0), ((h.1.set 137 (.inl (0, 8, .inl (upd (fun _ => 0) (Int32.toNatClampNeg x1) x2)))), h.2)) := by
  refine (r_iloadn f300_0 rfl).trans ?_
  refine (r_iconst (v := 0) f300_1 rfl).trans ?_
  refine (r_bipush (v := 7) f300_2 rfl).trans ?_
  have hc1 : arun X (n + 18) (d + 1) zM196 0 [some (.int x1), some (.int 0), some (.int 7)] [] h = some ((some (.int 1)), h) := by
    refine (r_iloadn f196_0 rfl).trans ?_
    refine (r_iloadn f196_1 rfl).trans ?_
    refine (r_icmp_lt_f f196_2 ec0).trans ?_
    refine (r_iloadn f196_5 rfl).trans ?_
    refine (r_iloadn f196_6 rfl).trans ?_
    refine (r_icmp_gt_f f196_7 ec1).trans ?_
    refine (r_iconst (v := 1) f196_10 rfl).trans ?_
    refine (r_goto f196_11).trans ?_
    exact r_zreturn f196_15 rfl (by decide)
  refine (r_stat (as := [.int x1, .int 0, .int 7]) (v := (some (.int 1))) (h1 := h) f300_4 rfl zg196 rfl rfl rfl rfl rfl rfl hc1).trans ?_
  refine (r_if_eq_f f300_7 (by decide)).trans ?_
  refine (r_iloadn f300_10 rfl).trans ?_
  refine (r_iconst (v := 0) f300_11 rfl).trans ?_
  refine (r_bipush (v := 99) f300_12 rfl).trans ?_
  have hc2 : arun X (n + 13) (d + 1) zM196 0 [some (.int x2), some (.int 0), some (.int 99)] [] h = some ((some (.int 1)), h) := by
    refine (r_iloadn f196_0 rfl).trans ?_
    refine (r_iloadn f196_1 rfl).trans ?_
    refine (r_icmp_lt_f f196_2 ec2).trans ?_
    refine (r_iloadn f196_5 rfl).trans ?_
    refine (r_iloadn f196_6 rfl).trans ?_
    refine (r_icmp_gt_f f196_7 ec3).trans ?_
    refine (r_iconst (v := 1) f196_10 rfl).trans ?_
    refine (r_goto f196_11).trans ?_
    exact r_zreturn f196_15 rfl (by decide)
  refine (r_stat (as := [.int x2, .int 0, .int 99]) (v := (some (.int 1))) (h1 := h) f300_14 rfl zg196 rfl rfl rfl rfl rfl rfl hc2).trans ?_
  refine (r_if_ne_t f300_17 (by decide)).trans ?_
  refine (r_aloadn f300_22 rfl).trans ?_
  refine (r_get (v := .ref 137) f300_23 g72 rfl).trans ?_
  refine (r_iloadn f300_26 rfl).trans ?_
  refine (r_iald (v := 0) f300_27 g137 jm0 rfl).trans ?_
  refine (r_istoren (L' := [some (.ref 72), some (.int x1), some (.int x2), some (.int 0)]) f300_28 rfl rfl).trans ?_
  refine (r_aloadn f300_29 rfl).trans ?_
  refine (r_get (v := .ref 137) f300_30 g72 rfl).trans ?_
  refine (r_iloadn f300_33 rfl).trans ?_
  refine (r_iloadn f300_34 rfl).trans ?_
  refine (r_iast (h' := ((h.1.set 137 (.inl (0, 8, .inl (upd (fun _ => 0) (Int32.toNatClampNeg x1) x2)))), h.2)) f300_35 g137 jm0 rfl).trans ?_
  refine (r_iloadn f300_36 rfl).trans ?_
  exact r_ireturn f300_37 rfl
set_option maxHeartbeats 40000000 in
theorem qc39_0 {X : aX} {n d : Nat} {h : aH} {x1 : Int32} {x2 : Int32}  (ec0 : x1 < 1) : arun X (n + 9) (d + 2) zM183 0 [some (.ref 0), some (.int x1), some (.int x2)] [] h = some (some (.int (-1)), h) := by
  refine (r_iloadn f183_0 rfl).trans ?_
  refine (r_iconst (v := 1) f183_1 rfl).trans ?_
  refine (r_bipush (v := 100) f183_2 rfl).trans ?_
  have hc1 : arun X (n + 5) (d + 1) zM137 0 [some (.int x1), some (.int 1), some (.int 100)] [] h = some ((some (.int 0)), h) := by
    refine (r_iloadn f137_0 rfl).trans ?_
    refine (r_iloadn f137_1 rfl).trans ?_
    refine (r_icmp_gt_t f137_2 ec0).trans ?_
    refine (r_iconst (v := 0) f137_14 rfl).trans ?_
    exact r_zreturn f137_15 rfl (by decide)
  refine (r_stat (as := [.int x1, .int 1, .int 100]) (v := (some (.int 0))) (h1 := h) f183_4 rfl zg137 rfl rfl rfl rfl rfl rfl hc1).trans ?_
  refine (r_if_eq_t f183_7 (by decide)).trans ?_
  refine (r_iconst (v := (-1)) f183_29 rfl).trans ?_
  exact r_ireturn f183_30 rfl
set_option maxHeartbeats 40000000 in
theorem qm39_0_0 {X : aX} {n d : Nat} {h : aH} {x1 : Int32} {x2 : Int32}  (g72 : h.1[72]? = some (.inr (12, zF72))) : arun X (n + 5) (d + 1) zM302 0 [some (.ref 72), some (.int x1), some (.int x2), none, none] [] h = some (some (.int (-1)), h) := by
  refine (r_aloadn f302_0 rfl).trans ?_
  refine (r_get (v := .int 0) f302_1 g72 rfl).trans ?_
  refine (r_if_eq_t f302_4 (by decide)).trans ?_
  refine (r_iconst (v := (-1)) f302_26 rfl).trans ?_
  exact r_ireturn f302_27 rfl
set_option maxHeartbeats 40000000 in
theorem qc39_1 {X : aX} {n d : Nat} {h : aH} {x1 : Int32} {x2 : Int32}  (ec0 : ¬ x1 < 1) (ec1 : 100 < x1) : arun X (n + 12) (d + 2) zM183 0 [some (.ref 0), some (.int x1), some (.int x2)] [] h = some (some (.int (-1)), h) := by
  refine (r_iloadn f183_0 rfl).trans ?_
  refine (r_iconst (v := 1) f183_1 rfl).trans ?_
  refine (r_bipush (v := 100) f183_2 rfl).trans ?_
  have hc1 : arun X (n + 8) (d + 1) zM137 0 [some (.int x1), some (.int 1), some (.int 100)] [] h = some ((some (.int 0)), h) := by
    refine (r_iloadn f137_0 rfl).trans ?_
    refine (r_iloadn f137_1 rfl).trans ?_
    refine (r_icmp_gt_f f137_2 ec0).trans ?_
    refine (r_iloadn f137_5 rfl).trans ?_
    refine (r_iloadn f137_6 rfl).trans ?_
    refine (r_icmp_gt_t f137_7 ec1).trans ?_
    refine (r_iconst (v := 0) f137_14 rfl).trans ?_
    exact r_zreturn f137_15 rfl (by decide)
  refine (r_stat (as := [.int x1, .int 1, .int 100]) (v := (some (.int 0))) (h1 := h) f183_4 rfl zg137 rfl rfl rfl rfl rfl rfl hc1).trans ?_
  refine (r_if_eq_t f183_7 (by decide)).trans ?_
  refine (r_iconst (v := (-1)) f183_29 rfl).trans ?_
  exact r_ireturn f183_30 rfl
set_option maxHeartbeats 40000000 in
theorem qm39_1_0 {X : aX} {n d : Nat} {h : aH} {x1 : Int32} {x2 : Int32}  (g72 : h.1[72]? = some (.inr (12, zF72))) : arun X (n + 5) (d + 1) zM302 0 [some (.ref 72), some (.int x1), some (.int x2), none, none] [] h = some (some (.int (-1)), h) := by
  refine (r_aloadn f302_0 rfl).trans ?_
  refine (r_get (v := .int 0) f302_1 g72 rfl).trans ?_
  refine (r_if_eq_t f302_4 (by decide)).trans ?_
  refine (r_iconst (v := (-1)) f302_26 rfl).trans ?_
  exact r_ireturn f302_27 rfl
set_option maxHeartbeats 40000000 in
theorem qc39_2 {X : aX} {n d : Nat} {h : aH} {x1 : Int32} {x2 : Int32}  (ec0 : ¬ x1 < 1) (ec1 : ¬ 100 < x1) (ec2 : x2 < 1) : arun X (n + 14) (d + 2) zM183 0 [some (.ref 0), some (.int x1), some (.int x2)] [] h = some (some (.int (-1)), h) := by
  refine (r_iloadn f183_0 rfl).trans ?_
  refine (r_iconst (v := 1) f183_1 rfl).trans ?_
  refine (r_bipush (v := 100) f183_2 rfl).trans ?_
  have hc1 : arun X (n + 10) (d + 1) zM137 0 [some (.int x1), some (.int 1), some (.int 100)] [] h = some ((some (.int 1)), h) := by
    refine (r_iloadn f137_0 rfl).trans ?_
    refine (r_iloadn f137_1 rfl).trans ?_
    refine (r_icmp_gt_f f137_2 ec0).trans ?_
    refine (r_iloadn f137_5 rfl).trans ?_
    refine (r_iloadn f137_6 rfl).trans ?_
    refine (r_icmp_gt_f f137_7 ec1).trans ?_
    refine (r_iconst (v := 1) f137_10 rfl).trans ?_
    refine (r_goto f137_11).trans ?_
    exact r_zreturn f137_15 rfl (by decide)
  refine (r_stat (as := [.int x1, .int 1, .int 100]) (v := (some (.int 1))) (h1 := h) f183_4 rfl zg137 rfl rfl rfl rfl rfl rfl hc1).trans ?_
  refine (r_if_eq_f f183_7 (by decide)).trans ?_
  refine (r_iloadn f183_10 rfl).trans ?_
  refine (r_iconst (v := 1) f183_11 rfl).trans ?_
  refine (r_iconst (v := 3) f183_12 rfl).trans ?_
  have hc2 : arun X (n + 5) (d + 1) zM137 0 [some (.int x2), some (.int 1), some (.int 3)] [] h = some ((some (.int 0)), h) := by
    refine (r_iloadn f137_0 rfl).trans ?_
    refine (r_iloadn f137_1 rfl).trans ?_
    refine (r_icmp_gt_t f137_2 ec2).trans ?_
    refine (r_iconst (v := 0) f137_14 rfl).trans ?_
    exact r_zreturn f137_15 rfl (by decide)
  refine (r_stat (as := [.int x2, .int 1, .int 3]) (v := (some (.int 0))) (h1 := h) f183_13 rfl zg137 rfl rfl rfl rfl rfl rfl hc2).trans ?_
  refine (r_if_eq_t f183_16 (by decide)).trans ?_
  refine (r_iconst (v := (-1)) f183_29 rfl).trans ?_
  exact r_ireturn f183_30 rfl
set_option maxHeartbeats 40000000 in
theorem qm39_2_0 {X : aX} {n d : Nat} {h : aH} {x1 : Int32} {x2 : Int32}  (g72 : h.1[72]? = some (.inr (12, zF72))) : arun X (n + 5) (d + 1) zM302 0 [some (.ref 72), some (.int x1), some (.int x2), none, none] [] h = some (some (.int (-1)), h) := by
  refine (r_aloadn f302_0 rfl).trans ?_
  refine (r_get (v := .int 0) f302_1 g72 rfl).trans ?_
  refine (r_if_eq_t f302_4 (by decide)).trans ?_
  refine (r_iconst (v := (-1)) f302_26 rfl).trans ?_
  exact r_ireturn f302_27 rfl
set_option maxHeartbeats 40000000 in
theorem qc39_3 {X : aX} {n d : Nat} {h : aH} {x1 : Int32} {x2 : Int32}  (ec0 : ¬ x1 < 1) (ec1 : ¬ 100 < x1) (ec2 : ¬ x2 < 1) (ec3 : 3 < x2) : arun X (n + 17) (d + 2) zM183 0 [some (.ref 0), some (.int x1), some (.int x2)] [] h = some (some (.int (-1)), h) := by
  refine (r_iloadn f183_0 rfl).trans ?_
  refine (r_iconst (v := 1) f183_1 rfl).trans ?_
  refine (r_bipush (v := 100) f183_2 rfl).trans ?_
  have hc1 : arun X (n + 13) (d + 1) zM137 0 [some (.int x1), some (.int 1), some (.int 100)] [] h = some ((some (.int 1)), h) := by
    refine (r_iloadn f137_0 rfl).trans ?_
    refine (r_iloadn f137_1 rfl).trans ?_
    refine (r_icmp_gt_f f137_2 ec0).trans ?_
    refine (r_iloadn f137_5 rfl).trans ?_
    refine (r_iloadn f137_6 rfl).trans ?_
    refine (r_icmp_gt_f f137_7 ec1).trans ?_
    refine (r_iconst (v := 1) f137_10 rfl).trans ?_
    refine (r_goto f137_11).trans ?_
    exact r_zreturn f137_15 rfl (by decide)
  refine (r_stat (as := [.int x1, .int 1, .int 100]) (v := (some (.int 1))) (h1 := h) f183_4 rfl zg137 rfl rfl rfl rfl rfl rfl hc1).trans ?_
  refine (r_if_eq_f f183_7 (by decide)).trans ?_
  refine (r_iloadn f183_10 rfl).trans ?_
  refine (r_iconst (v := 1) f183_11 rfl).trans ?_
  refine (r_iconst (v := 3) f183_12 rfl).trans ?_
  have hc2 : arun X (n + 8) (d + 1) zM137 0 [some (.int x2), some (.int 1), some (.int 3)] [] h = some ((some (.int 0)), h) := by
    refine (r_iloadn f137_0 rfl).trans ?_
    refine (r_iloadn f137_1 rfl).trans ?_
    refine (r_icmp_gt_f f137_2 ec2).trans ?_
    refine (r_iloadn f137_5 rfl).trans ?_
    refine (r_iloadn f137_6 rfl).trans ?_
    refine (r_icmp_gt_t f137_7 ec3).trans ?_
    refine (r_iconst (v := 0) f137_14 rfl).trans ?_
    exact r_zreturn f137_15 rfl (by decide)
  refine (r_stat (as := [.int x2, .int 1, .int 3]) (v := (some (.int 0))) (h1 := h) f183_13 rfl zg137 rfl rfl rfl rfl rfl rfl hc2).trans ?_
  refine (r_if_eq_t f183_16 (by decide)).trans ?_
  refine (r_iconst (v := (-1)) f183_29 rfl).trans ?_
  exact r_ireturn f183_30 rfl
set_option maxHeartbeats 40000000 in
theorem qm39_3_0 {X : aX} {n d : Nat} {h : aH} {x1 : Int32} {x2 : Int32}  (g72 : h.1[72]? = some (.inr (12, zF72))) : arun X (n + 5) (d + 1) zM302 0 [some (.ref 72), some (.int x1), some (.int x2), none, none] [] h = some (some (.int (-1)), h) := by
  refine (r_aloadn f302_0 rfl).trans ?_
  refine (r_get (v := .int 0) f302_1 g72 rfl).trans ?_
  refine (r_if_eq_t f302_4 (by decide)).trans ?_
  refine (r_iconst (v := (-1)) f302_26 rfl).trans ?_
  exact r_ireturn f302_27 rfl
set_option maxHeartbeats 40000000 in
theorem qc39_4 {X : aX} {n d : Nat} {h : aH} {x1 : Int32} {x2 : Int32}  (g0 : h.1[0]? = some (.inr (11, zF0))) (g55 : h.1[55]? = some (.inr (4, zF55))) (ec0 : ¬ x1 < 1) (ec1 : ¬ 100 < x1) (ec2 : ¬ x2 < 1) (ec3 : ¬ 3 < x2) : arun X (n + 18) (d + 2) zM183 0 [some (.ref 0), some (.int x1), some (.int x2)] [] h = some (some (.int (-1)), h) := by
  refine (r_iloadn f183_0 rfl).trans ?_
  refine (r_iconst (v := 1) f183_1 rfl).trans ?_
  refine (r_bipush (v := 100) f183_2 rfl).trans ?_
  have hc1 : arun X (n + 14) (d + 1) zM137 0 [some (.int x1), some (.int 1), some (.int 100)] [] h = some ((some (.int 1)), h) := by
    refine (r_iloadn f137_0 rfl).trans ?_
    refine (r_iloadn f137_1 rfl).trans ?_
    refine (r_icmp_gt_f f137_2 ec0).trans ?_
    refine (r_iloadn f137_5 rfl).trans ?_
    refine (r_iloadn f137_6 rfl).trans ?_
    refine (r_icmp_gt_f f137_7 ec1).trans ?_
    refine (r_iconst (v := 1) f137_10 rfl).trans ?_
    refine (r_goto f137_11).trans ?_
    exact r_zreturn f137_15 rfl (by decide)
  refine (r_stat (as := [.int x1, .int 1, .int 100]) (v := (some (.int 1))) (h1 := h) f183_4 rfl zg137 rfl rfl rfl rfl rfl rfl hc1).trans ?_
  refine (r_if_eq_f f183_7 (by decide)).trans ?_
  refine (r_iloadn f183_10 rfl).trans ?_
  refine (r_iconst (v := 1) f183_11 rfl).trans ?_
  refine (r_iconst (v := 3) f183_12 rfl).trans ?_
  have hc2 : arun X (n + 9) (d + 1) zM137 0 [some (.int x2), some (.int 1), some (.int 3)] [] h = some ((some (.int 1)), h) := by
    refine (r_iloadn f137_0 rfl).trans ?_
    refine (r_iloadn f137_1 rfl).trans ?_
    refine (r_icmp_gt_f f137_2 ec2).trans ?_
    refine (r_iloadn f137_5 rfl).trans ?_
    refine (r_iloadn f137_6 rfl).trans ?_
    refine (r_icmp_gt_f f137_7 ec3).trans ?_
    refine (r_iconst (v := 1) f137_10 rfl).trans ?_
    refine (r_goto f137_11).trans ?_
    exact r_zreturn f137_15 rfl (by decide)
  refine (r_stat (as := [.int x2, .int 1, .int 3]) (v := (some (.int 1))) (h1 := h) f183_13 rfl zg137 rfl rfl rfl rfl rfl rfl hc2).trans ?_
  refine (r_if_eq_f f183_16 (by decide)).trans ?_
  refine (r_aloadn f183_19 rfl).trans ?_
  refine (r_get (v := .ref 55) f183_20 g0 rfl).trans ?_
  refine (r_get (v := .int 0) f183_23 g55 rfl).trans ?_
  refine (r_if_ne_f f183_26 (by decide)).trans ?_
  refine (r_iconst (v := (-1)) f183_29 rfl).trans ?_
  exact r_ireturn f183_30 rfl
set_option maxHeartbeats 40000000 in
theorem qm39_4_0 {X : aX} {n d : Nat} {h : aH} {x1 : Int32} {x2 : Int32}  (g72 : h.1[72]? = some (.inr (12, zF72))) : arun X (n + 5) (d + 1) zM302 0 [some (.ref 72), some (.int x1), some (.int x2), none, none] [] h = some (some (.int (-1)), h) := by
  refine (r_aloadn f302_0 rfl).trans ?_
  refine (r_get (v := .int 0) f302_1 g72 rfl).trans ?_
  refine (r_if_eq_t f302_4 (by decide)).trans ?_
  refine (r_iconst (v := (-1)) f302_26 rfl).trans ?_
  exact r_ireturn f302_27 rfl
set_option maxHeartbeats 40000000 in
theorem qc40_0 {X : aX} {n d : Nat} {h : aH} {x1 : Int32}  (g0 : h.1[0]? = some (.inr (11, zF0))) (g55 : h.1[55]? = some (.inr (4, zF55))) (ec0 : x1 < 0) : arun X (n + 13) (d + 2) zM184 0 [some (.ref 0), some (.int x1)] [] h = some (some (.int (-1)), h) := by
  refine (r_iloadn f184_0 rfl).trans ?_
  refine (r_iconst (v := 0) f184_1 rfl).trans ?_
  refine (r_aloadn f184_2 rfl).trans ?_
  refine (r_get (v := .ref 55) f184_3 g0 rfl).trans ?_
  refine (r_get (v := .int 0) f184_6 g55 rfl).trans ?_
  refine (r_iconst (v := 1) f184_9 rfl).trans ?_
  refine (r_isub (v := (-1)) f184_10 (by decide)).trans ?_
  have hc1 : arun X (n + 5) (d + 1) zM137 0 [some (.int x1), some (.int 0), some (.int (-1))] [] h = some ((some (.int 0)), h) := by
    refine (r_iloadn f137_0 rfl).trans ?_
    refine (r_iloadn f137_1 rfl).trans ?_
    refine (r_icmp_gt_t f137_2 ec0).trans ?_
    refine (r_iconst (v := 0) f137_14 rfl).trans ?_
    exact r_zreturn f137_15 rfl (by decide)
  refine (r_stat (as := [.int x1, .int 0, .int (-1)]) (v := (some (.int 0))) (h1 := h) f184_11 rfl zg137 rfl rfl rfl rfl rfl rfl hc1).trans ?_
  refine (r_if_eq_t f184_14 (by decide)).trans ?_
  refine (r_iconst (v := (-1)) f184_29 rfl).trans ?_
  exact r_ireturn f184_30 rfl
set_option maxHeartbeats 40000000 in
theorem qm40_0_0 {X : aX} {n d : Nat} {h : aH} {x1 : Int32}  (g72 : h.1[72]? = some (.inr (12, zF72))) (ec0 : x1 < 0) : arun X (n + 12) (d + 2) zM303 0 [some (.ref 72), some (.int x1)] [] h = some (some (.int (-1)), h) := by
  refine (r_iloadn f303_0 rfl).trans ?_
  refine (r_iconst (v := 0) f303_1 rfl).trans ?_
  refine (r_aloadn f303_2 rfl).trans ?_
  refine (r_get (v := .int (-1)) f303_3 g72 rfl).trans ?_
  refine (r_iconst (v := 1) f303_6 rfl).trans ?_
  refine (r_isub (v := (-2)) f303_7 (by decide)).trans ?_
  have hc1 : arun X (n + 5) (d + 1) zM196 0 [some (.int x1), some (.int 0), some (.int (-2))] [] h = some ((some (.int 0)), h) := by
    refine (r_iloadn f196_0 rfl).trans ?_
    refine (r_iloadn f196_1 rfl).trans ?_
    refine (r_icmp_lt_t f196_2 ec0).trans ?_
    refine (r_iconst (v := 0) f196_14 rfl).trans ?_
    exact r_zreturn f196_15 rfl (by decide)
  refine (r_stat (as := [.int x1, .int 0, .int (-2)]) (v := (some (.int 0))) (h1 := h) f303_8 rfl zg196 rfl rfl rfl rfl rfl rfl hc1).trans ?_
  refine (r_if_eq_t f303_11 (by decide)).trans ?_
  refine (r_iconst (v := (-1)) f303_23 rfl).trans ?_
  exact r_ireturn f303_24 rfl
set_option maxHeartbeats 40000000 in
theorem qc40_1 {X : aX} {n d : Nat} {h : aH} {x1 : Int32}  (g0 : h.1[0]? = some (.inr (11, zF0))) (g55 : h.1[55]? = some (.inr (4, zF55))) (ec0 : ¬ x1 < 0) (ec1 : (-1) < x1) : arun X (n + 16) (d + 2) zM184 0 [some (.ref 0), some (.int x1)] [] h = some (some (.int (-1)), h) := by
  refine (r_iloadn f184_0 rfl).trans ?_
  refine (r_iconst (v := 0) f184_1 rfl).trans ?_
  refine (r_aloadn f184_2 rfl).trans ?_
  refine (r_get (v := .ref 55) f184_3 g0 rfl).trans ?_
  refine (r_get (v := .int 0) f184_6 g55 rfl).trans ?_
  refine (r_iconst (v := 1) f184_9 rfl).trans ?_
  refine (r_isub (v := (-1)) f184_10 (by decide)).trans ?_
  have hc1 : arun X (n + 8) (d + 1) zM137 0 [some (.int x1), some (.int 0), some (.int (-1))] [] h = some ((some (.int 0)), h) := by
    refine (r_iloadn f137_0 rfl).trans ?_
    refine (r_iloadn f137_1 rfl).trans ?_
    refine (r_icmp_gt_f f137_2 ec0).trans ?_
    refine (r_iloadn f137_5 rfl).trans ?_
    refine (r_iloadn f137_6 rfl).trans ?_
    refine (r_icmp_gt_t f137_7 ec1).trans ?_
    refine (r_iconst (v := 0) f137_14 rfl).trans ?_
    exact r_zreturn f137_15 rfl (by decide)
  refine (r_stat (as := [.int x1, .int 0, .int (-1)]) (v := (some (.int 0))) (h1 := h) f184_11 rfl zg137 rfl rfl rfl rfl rfl rfl hc1).trans ?_
  refine (r_if_eq_t f184_14 (by decide)).trans ?_
  refine (r_iconst (v := (-1)) f184_29 rfl).trans ?_
  exact r_ireturn f184_30 rfl
set_option maxHeartbeats 40000000 in
theorem qm40_1_0 {X : aX} {n d : Nat} {h : aH} {x1 : Int32}  (g72 : h.1[72]? = some (.inr (12, zF72))) (ec0 : ¬ x1 < 0) (em0 : (-2) < x1) : arun X (n + 15) (d + 2) zM303 0 [some (.ref 72), some (.int x1)] [] h = some (some (.int (-1)), h) := by
  refine (r_iloadn f303_0 rfl).trans ?_
  refine (r_iconst (v := 0) f303_1 rfl).trans ?_
  refine (r_aloadn f303_2 rfl).trans ?_
  refine (r_get (v := .int (-1)) f303_3 g72 rfl).trans ?_
  refine (r_iconst (v := 1) f303_6 rfl).trans ?_
  refine (r_isub (v := (-2)) f303_7 (by decide)).trans ?_
  have hc1 : arun X (n + 8) (d + 1) zM196 0 [some (.int x1), some (.int 0), some (.int (-2))] [] h = some ((some (.int 0)), h) := by
    refine (r_iloadn f196_0 rfl).trans ?_
    refine (r_iloadn f196_1 rfl).trans ?_
    refine (r_icmp_lt_f f196_2 ec0).trans ?_
    refine (r_iloadn f196_5 rfl).trans ?_
    refine (r_iloadn f196_6 rfl).trans ?_
    refine (r_icmp_gt_t f196_7 em0).trans ?_
    refine (r_iconst (v := 0) f196_14 rfl).trans ?_
    exact r_zreturn f196_15 rfl (by decide)
  refine (r_stat (as := [.int x1, .int 0, .int (-2)]) (v := (some (.int 0))) (h1 := h) f303_8 rfl zg196 rfl rfl rfl rfl rfl rfl hc1).trans ?_
  refine (r_if_eq_t f303_11 (by decide)).trans ?_
  refine (r_iconst (v := (-1)) f303_23 rfl).trans ?_
  exact r_ireturn f303_24 rfl
set_option maxHeartbeats 40000000 in
theorem qc41_0 {X : aX} {n d : Nat} {h : aH} {x1 : Int32} {x2 : Int32} {x3 : Int32} {x4 : Int32}  (g0 : h.1[0]? = some (.inr (11, zF0))) (g33 : h.1[33]? = some (.inr (10, zF33))) (ec0 : x1 < 0) : arun X (n + 16) (d + 3) zM185 0 [some (.ref 0), some (.int x1), some (.int x2), some (.int x3), some (.int x4)] [] h = some (some (.int (-1)), h) := by
  refine (r_aloadn f185_0 rfl).trans ?_
  refine (r_get (v := .ref 33) f185_1 g0 rfl).trans ?_
  refine (r_iloadn f185_4 rfl).trans ?_
  have hc1 : arun X (n + 12) (d + 2) zM119 0 [some (.ref 33), some (.int x1)] [] h = some ((some (.int 0)), h) := by
    refine (r_iloadn f119_0 rfl).trans ?_
    refine (r_iconst (v := 0) f119_1 rfl).trans ?_
    refine (r_aloadn f119_2 rfl).trans ?_
    refine (r_get (v := .int 0) f119_3 g33 rfl).trans ?_
    refine (r_iconst (v := 1) f119_6 rfl).trans ?_
    refine (r_isub (v := (-1)) f119_7 (by decide)).trans ?_
    have hc2 : arun X (n + 5) (d + 1) zM137 0 [some (.int x1), some (.int 0), some (.int (-1))] [] h = some ((some (.int 0)), h) := by
      refine (r_iloadn f137_0 rfl).trans ?_
      refine (r_iloadn f137_1 rfl).trans ?_
      refine (r_icmp_gt_t f137_2 ec0).trans ?_
      refine (r_iconst (v := 0) f137_14 rfl).trans ?_
      exact r_zreturn f137_15 rfl (by decide)
    refine (r_stat (as := [.int x1, .int 0, .int (-1)]) (v := (some (.int 0))) (h1 := h) f119_8 rfl zg137 rfl rfl rfl rfl rfl rfl hc2).trans ?_
    refine (r_if_eq_t f119_11 (by decide)).trans ?_
    refine (r_iconst (v := 0) f119_30 rfl).trans ?_
    exact r_zreturn f119_31 rfl (by decide)
  refine (r_virt (as := [.int x1]) (v := (some (.int 0))) (h1 := h) f185_5 g33 zg119 rfl rfl rfl rfl rfl rfl hc1).trans ?_
  refine (r_if_eq_t f185_8 (by decide)).trans ?_
  refine (r_iconst (v := (-1)) f185_35 rfl).trans ?_
  exact r_ireturn f185_36 rfl
set_option maxHeartbeats 40000000 in
theorem qm41_0_0 {X : aX} {n d : Nat} {h : aH} {x1 : Int32} {x2 : Int32} {x3 : Int32} {x4 : Int32}  (g72 : h.1[72]? = some (.inr (12, zF72))) (ec0 : x1 < 0) : arun X (n + 12) (d + 2) zM304 0 [some (.ref 72), some (.int x1), some (.int x2), some (.int x3), some (.int x4), none, none, none, none] [] h = some (some (.int (-1)), h) := by
  refine (r_iloadn f304_0 rfl).trans ?_
  refine (r_iconst (v := 0) f304_1 rfl).trans ?_
  refine (r_aloadn f304_2 rfl).trans ?_
  refine (r_get (v := .int 0) f304_3 g72 rfl).trans ?_
  refine (r_iconst (v := 1) f304_6 rfl).trans ?_
  refine (r_isub (v := (-1)) f304_7 (by decide)).trans ?_
  have hc1 : arun X (n + 5) (d + 1) zM196 0 [some (.int x1), some (.int 0), some (.int (-1))] [] h = some ((some (.int 0)), h) := by
    refine (r_iloadn f196_0 rfl).trans ?_
    refine (r_iloadn f196_1 rfl).trans ?_
    refine (r_icmp_lt_t f196_2 ec0).trans ?_
    refine (r_iconst (v := 0) f196_14 rfl).trans ?_
    exact r_zreturn f196_15 rfl (by decide)
  refine (r_stat (as := [.int x1, .int 0, .int (-1)]) (v := (some (.int 0))) (h1 := h) f304_8 rfl zg196 rfl rfl rfl rfl rfl rfl hc1).trans ?_
  refine (r_if_eq_t f304_11 (by decide)).trans ?_
  refine (r_iconst (v := (-1)) f304_50 rfl).trans ?_
  exact r_ireturn f304_51 rfl
set_option maxHeartbeats 40000000 in
theorem qc41_1 {X : aX} {n d : Nat} {h : aH} {x1 : Int32} {x2 : Int32} {x3 : Int32} {x4 : Int32}  (g0 : h.1[0]? = some (.inr (11, zF0))) (g33 : h.1[33]? = some (.inr (10, zF33))) (ec0 : ¬ x1 < 0) (ec1 : (-1) < x1) : arun X (n + 19) (d + 3) zM185 0 [some (.ref 0), some (.int x1), some (.int x2), some (.int x3), some (.int x4)] [] h = some (some (.int (-1)), h) := by
  refine (r_aloadn f185_0 rfl).trans ?_
  refine (r_get (v := .ref 33) f185_1 g0 rfl).trans ?_
  refine (r_iloadn f185_4 rfl).trans ?_
  have hc1 : arun X (n + 15) (d + 2) zM119 0 [some (.ref 33), some (.int x1)] [] h = some ((some (.int 0)), h) := by
    refine (r_iloadn f119_0 rfl).trans ?_
    refine (r_iconst (v := 0) f119_1 rfl).trans ?_
    refine (r_aloadn f119_2 rfl).trans ?_
    refine (r_get (v := .int 0) f119_3 g33 rfl).trans ?_
    refine (r_iconst (v := 1) f119_6 rfl).trans ?_
    refine (r_isub (v := (-1)) f119_7 (by decide)).trans ?_
    have hc2 : arun X (n + 8) (d + 1) zM137 0 [some (.int x1), some (.int 0), some (.int (-1))] [] h = some ((some (.int 0)), h) := by
      refine (r_iloadn f137_0 rfl).trans ?_
      refine (r_iloadn f137_1 rfl).trans ?_
      refine (r_icmp_gt_f f137_2 ec0).trans ?_
      refine (r_iloadn f137_5 rfl).trans ?_
      refine (r_iloadn f137_6 rfl).trans ?_
      refine (r_icmp_gt_t f137_7 ec1).trans ?_
      refine (r_iconst (v := 0) f137_14 rfl).trans ?_
      exact r_zreturn f137_15 rfl (by decide)
    refine (r_stat (as := [.int x1, .int 0, .int (-1)]) (v := (some (.int 0))) (h1 := h) f119_8 rfl zg137 rfl rfl rfl rfl rfl rfl hc2).trans ?_
    refine (r_if_eq_t f119_11 (by decide)).trans ?_
    refine (r_iconst (v := 0) f119_30 rfl).trans ?_
    exact r_zreturn f119_31 rfl (by decide)
  refine (r_virt (as := [.int x1]) (v := (some (.int 0))) (h1 := h) f185_5 g33 zg119 rfl rfl rfl rfl rfl rfl hc1).trans ?_
  refine (r_if_eq_t f185_8 (by decide)).trans ?_
  refine (r_iconst (v := (-1)) f185_35 rfl).trans ?_
  exact r_ireturn f185_36 rfl

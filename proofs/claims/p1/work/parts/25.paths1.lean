-- ===== paths on a fresh object (by program) =====
set_option maxHeartbeats 40000000 in
theorem qc14_0 {X : aX} {n d : Nat} {h : aH} {x1 : Int32} {x2 : Int32}  (ec0 : x1 < 0) : arun X (n + 11) (d + 3) zM158 0 [some (.ref 0), some (.int x1), some (.int x2), none] [] h = some (some (.int (-1)), h) := by
  refine (r_iloadn f158_0 rfl).trans ?_
  have hc1 : arun X (n + 9) (d + 2) zM140 0 [some (.int x1)] [] h = some ((some (.int 0)), h) := by
    refine (r_iloadn f140_0 rfl).trans ?_
    refine (r_iconst (v := 0) f140_1 rfl).trans ?_
    refine (r_iconst (v := 3) f140_2 rfl).trans ?_
    have hc2 : arun X (n + 5) (d + 1) zM137 0 [some (.int x1), some (.int 0), some (.int 3)] [] h = some ((some (.int 0)), h) := by
      refine (r_iloadn f137_0 rfl).trans ?_
      refine (r_iloadn f137_1 rfl).trans ?_
      refine (r_icmp_gt_t f137_2 ec0).trans ?_
      refine (r_iconst (v := 0) f137_14 rfl).trans ?_
      exact r_zreturn f137_15 rfl (by decide)
    refine (r_stat (as := [.int x1, .int 0, .int 3]) (v := (some (.int 0))) (h1 := h) f140_3 rfl zg137 rfl rfl rfl rfl rfl rfl hc2).trans ?_
    exact r_zreturn f140_6 rfl (by decide)
  refine (r_stat (as := [.int x1]) (v := (some (.int 0))) (h1 := h) f158_1 rfl zg140 rfl rfl rfl rfl rfl rfl hc1).trans ?_
  refine (r_if_eq_t f158_4 (by decide)).trans ?_
  refine (r_iconst (v := (-1)) f158_18 rfl).trans ?_
  exact r_ireturn f158_19 rfl
set_option maxHeartbeats 40000000 in
theorem qm14_0_0 {X : aX} {n d : Nat} {h : aH} {x1 : Int32} {x2 : Int32}  (ec0 : x1 < 0) : arun X (n + 11) (d + 3) zM231 0 [some (.ref 72), some (.int x1), some (.int x2), none] [] h = some (some (.int (-1)), h) := by
  refine (r_iloadn f231_0 rfl).trans ?_
  have hc1 : arun X (n + 9) (d + 2) zM206 0 [some (.int x1)] [] h = some ((some (.int 0)), h) := by
    refine (r_iloadn f206_0 rfl).trans ?_
    refine (r_iconst (v := 0) f206_1 rfl).trans ?_
    refine (r_iconst (v := 3) f206_2 rfl).trans ?_
    have hc2 : arun X (n + 5) (d + 1) zM196 0 [some (.int x1), some (.int 0), some (.int 3)] [] h = some ((some (.int 0)), h) := by
      refine (r_iloadn f196_0 rfl).trans ?_
      refine (r_iloadn f196_1 rfl).trans ?_
      refine (r_icmp_lt_t f196_2 ec0).trans ?_
      refine (r_iconst (v := 0) f196_14 rfl).trans ?_
      exact r_zreturn f196_15 rfl (by decide)
    refine (r_stat (as := [.int x1, .int 0, .int 3]) (v := (some (.int 0))) (h1 := h) f206_3 rfl zg196 rfl rfl rfl rfl rfl rfl hc2).trans ?_
    exact r_zreturn f206_6 rfl (by decide)
  refine (r_stat (as := [.int x1]) (v := (some (.int 0))) (h1 := h) f231_1 rfl zg206 rfl rfl rfl rfl rfl rfl hc1).trans ?_
  refine (r_if_eq_t f231_4 (by decide)).trans ?_
  refine (r_iconst (v := (-1)) f231_18 rfl).trans ?_
  exact r_ireturn f231_19 rfl
set_option maxHeartbeats 40000000 in
theorem qc14_1 {X : aX} {n d : Nat} {h : aH} {x1 : Int32} {x2 : Int32}  (ec0 : ¬ x1 < 0) (ec1 : 3 < x1) : arun X (n + 14) (d + 3) zM158 0 [some (.ref 0), some (.int x1), some (.int x2), none] [] h = some (some (.int (-1)), h) := by
  refine (r_iloadn f158_0 rfl).trans ?_
  have hc1 : arun X (n + 12) (d + 2) zM140 0 [some (.int x1)] [] h = some ((some (.int 0)), h) := by
    refine (r_iloadn f140_0 rfl).trans ?_
    refine (r_iconst (v := 0) f140_1 rfl).trans ?_
    refine (r_iconst (v := 3) f140_2 rfl).trans ?_
    have hc2 : arun X (n + 8) (d + 1) zM137 0 [some (.int x1), some (.int 0), some (.int 3)] [] h = some ((some (.int 0)), h) := by
      refine (r_iloadn f137_0 rfl).trans ?_
      refine (r_iloadn f137_1 rfl).trans ?_
      refine (r_icmp_gt_f f137_2 ec0).trans ?_
      refine (r_iloadn f137_5 rfl).trans ?_
      refine (r_iloadn f137_6 rfl).trans ?_
      refine (r_icmp_gt_t f137_7 ec1).trans ?_
      refine (r_iconst (v := 0) f137_14 rfl).trans ?_
      exact r_zreturn f137_15 rfl (by decide)
    refine (r_stat (as := [.int x1, .int 0, .int 3]) (v := (some (.int 0))) (h1 := h) f140_3 rfl zg137 rfl rfl rfl rfl rfl rfl hc2).trans ?_
    exact r_zreturn f140_6 rfl (by decide)
  refine (r_stat (as := [.int x1]) (v := (some (.int 0))) (h1 := h) f158_1 rfl zg140 rfl rfl rfl rfl rfl rfl hc1).trans ?_
  refine (r_if_eq_t f158_4 (by decide)).trans ?_
  refine (r_iconst (v := (-1)) f158_18 rfl).trans ?_
  exact r_ireturn f158_19 rfl
set_option maxHeartbeats 40000000 in
theorem qm14_1_0 {X : aX} {n d : Nat} {h : aH} {x1 : Int32} {x2 : Int32}  (ec0 : ¬ x1 < 0) (ec1 : 3 < x1) : arun X (n + 14) (d + 3) zM231 0 [some (.ref 72), some (.int x1), some (.int x2), none] [] h = some (some (.int (-1)), h) := by
  refine (r_iloadn f231_0 rfl).trans ?_
  have hc1 : arun X (n + 12) (d + 2) zM206 0 [some (.int x1)] [] h = some ((some (.int 0)), h) := by
    refine (r_iloadn f206_0 rfl).trans ?_
    refine (r_iconst (v := 0) f206_1 rfl).trans ?_
    refine (r_iconst (v := 3) f206_2 rfl).trans ?_
    have hc2 : arun X (n + 8) (d + 1) zM196 0 [some (.int x1), some (.int 0), some (.int 3)] [] h = some ((some (.int 0)), h) := by
      refine (r_iloadn f196_0 rfl).trans ?_
      refine (r_iloadn f196_1 rfl).trans ?_
      refine (r_icmp_lt_f f196_2 ec0).trans ?_
      refine (r_iloadn f196_5 rfl).trans ?_
      refine (r_iloadn f196_6 rfl).trans ?_
      refine (r_icmp_gt_t f196_7 ec1).trans ?_
      refine (r_iconst (v := 0) f196_14 rfl).trans ?_
      exact r_zreturn f196_15 rfl (by decide)
    refine (r_stat (as := [.int x1, .int 0, .int 3]) (v := (some (.int 0))) (h1 := h) f206_3 rfl zg196 rfl rfl rfl rfl rfl rfl hc2).trans ?_
    exact r_zreturn f206_6 rfl (by decide)
  refine (r_stat (as := [.int x1]) (v := (some (.int 0))) (h1 := h) f231_1 rfl zg206 rfl rfl rfl rfl rfl rfl hc1).trans ?_
  refine (r_if_eq_t f231_4 (by decide)).trans ?_
  refine (r_iconst (v := (-1)) f231_18 rfl).trans ?_
  exact r_ireturn f231_19 rfl
set_option maxHeartbeats 40000000 in
theorem qc14_2 {X : aX} {n d : Nat} {h : aH} {x1 : Int32} {x2 : Int32}  (ec0 : ¬ x1 < 0) (ec1 : ¬ 3 < x1) (ec2 : x2 < 0) : arun X (n + 15) (d + 3) zM158 0 [some (.ref 0), some (.int x1), some (.int x2), none] [] h = some (some (.int (-1)), h) := by
  refine (r_iloadn f158_0 rfl).trans ?_
  have hc1 : arun X (n + 13) (d + 2) zM140 0 [some (.int x1)] [] h = some ((some (.int 1)), h) := by
    refine (r_iloadn f140_0 rfl).trans ?_
    refine (r_iconst (v := 0) f140_1 rfl).trans ?_
    refine (r_iconst (v := 3) f140_2 rfl).trans ?_
    have hc2 : arun X (n + 9) (d + 1) zM137 0 [some (.int x1), some (.int 0), some (.int 3)] [] h = some ((some (.int 1)), h) := by
      refine (r_iloadn f137_0 rfl).trans ?_
      refine (r_iloadn f137_1 rfl).trans ?_
      refine (r_icmp_gt_f f137_2 ec0).trans ?_
      refine (r_iloadn f137_5 rfl).trans ?_
      refine (r_iloadn f137_6 rfl).trans ?_
      refine (r_icmp_gt_f f137_7 ec1).trans ?_
      refine (r_iconst (v := 1) f137_10 rfl).trans ?_
      refine (r_goto f137_11).trans ?_
      exact r_zreturn f137_15 rfl (by decide)
    refine (r_stat (as := [.int x1, .int 0, .int 3]) (v := (some (.int 1))) (h1 := h) f140_3 rfl zg137 rfl rfl rfl rfl rfl rfl hc2).trans ?_
    exact r_zreturn f140_6 rfl (by decide)
  refine (r_stat (as := [.int x1]) (v := (some (.int 1))) (h1 := h) f158_1 rfl zg140 rfl rfl rfl rfl rfl rfl hc1).trans ?_
  refine (r_if_eq_f f158_4 (by decide)).trans ?_
  refine (r_iloadn f158_7 rfl).trans ?_
  refine (r_iconst (v := 0) f158_8 rfl).trans ?_
  refine (r_sipush (v := 364) f158_9 rfl).trans ?_
  have hc3 : arun X (n + 8) (d + 2) zM137 0 [some (.int x2), some (.int 0), some (.int 364)] [] h = some ((some (.int 0)), h) := by
    refine (r_iloadn f137_0 rfl).trans ?_
    refine (r_iloadn f137_1 rfl).trans ?_
    refine (r_icmp_gt_t f137_2 ec2).trans ?_
    refine (r_iconst (v := 0) f137_14 rfl).trans ?_
    exact r_zreturn f137_15 rfl (by decide)
  refine (r_stat (as := [.int x2, .int 0, .int 364]) (v := (some (.int 0))) (h1 := h) f158_12 rfl zg137 rfl rfl rfl rfl rfl rfl hc3).trans ?_
  refine (r_if_ne_f f158_15 (by decide)).trans ?_
  refine (r_iconst (v := (-1)) f158_18 rfl).trans ?_
  exact r_ireturn f158_19 rfl
set_option maxHeartbeats 40000000 in
theorem qm14_2_0 {X : aX} {n d : Nat} {h : aH} {x1 : Int32} {x2 : Int32}  (ec0 : ¬ x1 < 0) (ec1 : ¬ 3 < x1) (ec2 : x2 < 0) : arun X (n + 15) (d + 3) zM231 0 [some (.ref 72), some (.int x1), some (.int x2), none] [] h = some (some (.int (-1)), h) := by
  refine (r_iloadn f231_0 rfl).trans ?_
  have hc1 : arun X (n + 13) (d + 2) zM206 0 [some (.int x1)] [] h = some ((some (.int 1)), h) := by
    refine (r_iloadn f206_0 rfl).trans ?_
    refine (r_iconst (v := 0) f206_1 rfl).trans ?_
    refine (r_iconst (v := 3) f206_2 rfl).trans ?_
    have hc2 : arun X (n + 9) (d + 1) zM196 0 [some (.int x1), some (.int 0), some (.int 3)] [] h = some ((some (.int 1)), h) := by
      refine (r_iloadn f196_0 rfl).trans ?_
      refine (r_iloadn f196_1 rfl).trans ?_
      refine (r_icmp_lt_f f196_2 ec0).trans ?_
      refine (r_iloadn f196_5 rfl).trans ?_
      refine (r_iloadn f196_6 rfl).trans ?_
      refine (r_icmp_gt_f f196_7 ec1).trans ?_
      refine (r_iconst (v := 1) f196_10 rfl).trans ?_
      refine (r_goto f196_11).trans ?_
      exact r_zreturn f196_15 rfl (by decide)
    refine (r_stat (as := [.int x1, .int 0, .int 3]) (v := (some (.int 1))) (h1 := h) f206_3 rfl zg196 rfl rfl rfl rfl rfl rfl hc2).trans ?_
    exact r_zreturn f206_6 rfl (by decide)
  refine (r_stat (as := [.int x1]) (v := (some (.int 1))) (h1 := h) f231_1 rfl zg206 rfl rfl rfl rfl rfl rfl hc1).trans ?_
  refine (r_if_eq_f f231_4 (by decide)).trans ?_
  refine (r_iloadn f231_7 rfl).trans ?_
  refine (r_iconst (v := 0) f231_8 rfl).trans ?_
  refine (r_sipush (v := 364) f231_9 rfl).trans ?_
  have hc3 : arun X (n + 8) (d + 2) zM196 0 [some (.int x2), some (.int 0), some (.int 364)] [] h = some ((some (.int 0)), h) := by
    refine (r_iloadn f196_0 rfl).trans ?_
    refine (r_iloadn f196_1 rfl).trans ?_
    refine (r_icmp_lt_t f196_2 ec2).trans ?_
    refine (r_iconst (v := 0) f196_14 rfl).trans ?_
    exact r_zreturn f196_15 rfl (by decide)
  refine (r_stat (as := [.int x2, .int 0, .int 364]) (v := (some (.int 0))) (h1 := h) f231_12 rfl zg196 rfl rfl rfl rfl rfl rfl hc3).trans ?_
  refine (r_if_ne_f f231_15 (by decide)).trans ?_
  refine (r_iconst (v := (-1)) f231_18 rfl).trans ?_
  exact r_ireturn f231_19 rfl
set_option maxHeartbeats 40000000 in
theorem qc14_3 {X : aX} {n d : Nat} {h : aH} {x1 : Int32} {x2 : Int32}  (ec0 : ¬ x1 < 0) (ec1 : ¬ 3 < x1) (ec2 : ¬ x2 < 0) (ec3 : 364 < x2) : arun X (n + 15) (d + 3) zM158 0 [some (.ref 0), some (.int x1), some (.int x2), none] [] h = some (some (.int (-1)), h) := by
  refine (r_iloadn f158_0 rfl).trans ?_
  have hc1 : arun X (n + 13) (d + 2) zM140 0 [some (.int x1)] [] h = some ((some (.int 1)), h) := by
    refine (r_iloadn f140_0 rfl).trans ?_
    refine (r_iconst (v := 0) f140_1 rfl).trans ?_
    refine (r_iconst (v := 3) f140_2 rfl).trans ?_
    have hc2 : arun X (n + 9) (d + 1) zM137 0 [some (.int x1), some (.int 0), some (.int 3)] [] h = some ((some (.int 1)), h) := by
      refine (r_iloadn f137_0 rfl).trans ?_
      refine (r_iloadn f137_1 rfl).trans ?_
      refine (r_icmp_gt_f f137_2 ec0).trans ?_
      refine (r_iloadn f137_5 rfl).trans ?_
      refine (r_iloadn f137_6 rfl).trans ?_
      refine (r_icmp_gt_f f137_7 ec1).trans ?_
      refine (r_iconst (v := 1) f137_10 rfl).trans ?_
      refine (r_goto f137_11).trans ?_
      exact r_zreturn f137_15 rfl (by decide)
    refine (r_stat (as := [.int x1, .int 0, .int 3]) (v := (some (.int 1))) (h1 := h) f140_3 rfl zg137 rfl rfl rfl rfl rfl rfl hc2).trans ?_
    exact r_zreturn f140_6 rfl (by decide)
  refine (r_stat (as := [.int x1]) (v := (some (.int 1))) (h1 := h) f158_1 rfl zg140 rfl rfl rfl rfl rfl rfl hc1).trans ?_
  refine (r_if_eq_f f158_4 (by decide)).trans ?_
  refine (r_iloadn f158_7 rfl).trans ?_
  refine (r_iconst (v := 0) f158_8 rfl).trans ?_
  refine (r_sipush (v := 364) f158_9 rfl).trans ?_
  have hc3 : arun X (n + 8) (d + 2) zM137 0 [some (.int x2), some (.int 0), some (.int 364)] [] h = some ((some (.int 0)), h) := by
    refine (r_iloadn f137_0 rfl).trans ?_
    refine (r_iloadn f137_1 rfl).trans ?_
    refine (r_icmp_gt_f f137_2 ec2).trans ?_
    refine (r_iloadn f137_5 rfl).trans ?_
    refine (r_iloadn f137_6 rfl).trans ?_
    refine (r_icmp_gt_t f137_7 ec3).trans ?_
    refine (r_iconst (v := 0) f137_14 rfl).trans ?_
    exact r_zreturn f137_15 rfl (by decide)
  refine (r_stat (as := [.int x2, .int 0, .int 364]) (v := (some (.int 0))) (h1 := h) f158_12 rfl zg137 rfl rfl rfl rfl rfl rfl hc3).trans ?_
  refine (r_if_ne_f f158_15 (by decide)).trans ?_
  refine (r_iconst (v := (-1)) f158_18 rfl).trans ?_
  exact r_ireturn f158_19 rfl
set_option maxHeartbeats 40000000 in
theorem qm14_3_0 {X : aX} {n d : Nat} {h : aH} {x1 : Int32} {x2 : Int32}  (ec0 : ¬ x1 < 0) (ec1 : ¬ 3 < x1) (ec2 : ¬ x2 < 0) (ec3 : 364 < x2) : arun X (n + 15) (d + 3) zM231 0 [some (.ref 72), some (.int x1), some (.int x2), none] [] h = some (some (.int (-1)), h) := by
  refine (r_iloadn f231_0 rfl).trans ?_
  have hc1 : arun X (n + 13) (d + 2) zM206 0 [some (.int x1)] [] h = some ((some (.int 1)), h) := by
    refine (r_iloadn f206_0 rfl).trans ?_
    refine (r_iconst (v := 0) f206_1 rfl).trans ?_
    refine (r_iconst (v := 3) f206_2 rfl).trans ?_
    have hc2 : arun X (n + 9) (d + 1) zM196 0 [some (.int x1), some (.int 0), some (.int 3)] [] h = some ((some (.int 1)), h) := by
      refine (r_iloadn f196_0 rfl).trans ?_
      refine (r_iloadn f196_1 rfl).trans ?_
      refine (r_icmp_lt_f f196_2 ec0).trans ?_
      refine (r_iloadn f196_5 rfl).trans ?_
      refine (r_iloadn f196_6 rfl).trans ?_
      refine (r_icmp_gt_f f196_7 ec1).trans ?_
      refine (r_iconst (v := 1) f196_10 rfl).trans ?_
      refine (r_goto f196_11).trans ?_
      exact r_zreturn f196_15 rfl (by decide)
    refine (r_stat (as := [.int x1, .int 0, .int 3]) (v := (some (.int 1))) (h1 := h) f206_3 rfl zg196 rfl rfl rfl rfl rfl rfl hc2).trans ?_
    exact r_zreturn f206_6 rfl (by decide)
  refine (r_stat (as := [.int x1]) (v := (some (.int 1))) (h1 := h) f231_1 rfl zg206 rfl rfl rfl rfl rfl rfl hc1).trans ?_
  refine (r_if_eq_f f231_4 (by decide)).trans ?_
  refine (r_iloadn f231_7 rfl).trans ?_
  refine (r_iconst (v := 0) f231_8 rfl).trans ?_
  refine (r_sipush (v := 364) f231_9 rfl).trans ?_
  have hc3 : arun X (n + 8) (d + 2) zM196 0 [some (.int x2), some (.int 0), some (.int 364)] [] h = some ((some (.int 0)), h) := by
    refine (r_iloadn f196_0 rfl).trans ?_
    refine (r_iloadn f196_1 rfl).trans ?_
    refine (r_icmp_lt_f f196_2 ec2).trans ?_
    refine (r_iloadn f196_5 rfl).trans ?_
    refine (r_iloadn f196_6 rfl).trans ?_
    refine (r_icmp_gt_t f196_7 ec3).trans ?_
    refine (r_iconst (v := 0) f196_14 rfl).trans ?_
    exact r_zreturn f196_15 rfl (by decide)
  refine (r_stat (as := [.int x2, .int 0, .int 364]) (v := (some (.int 0))) (h1 := h) f231_12 rfl zg196 rfl rfl rfl rfl rfl rfl hc3).trans ?_
  refine (r_if_ne_f f231_15 (by decide)).trans ?_
  refine (r_iconst (v := (-1)) f231_18 rfl).trans ?_
  exact r_ireturn f231_19 rfl
set_option maxHeartbeats 40000000 in
theorem qc14_4 {X : aX} {n d : Nat} {h : aH} {x1 : Int32} {x2 : Int32}  (g0 : h.1[0]? = some (.inr (11, zF0))) (g16 : h.1[16]? = some (.inr (2, zF16))) (g22 : h.1[22]? = some (.inl (0, 4, .inl (fun _ => 135)))) (ec0 : ¬ x1 < 0) (ec1 : ¬ 3 < x1) (ec2 : ¬ x2 < 0) (ec3 : ¬ 364 < x2) (jc0 : ¬ (x1 < 0 ∨ 4 ≤ Int32.toNatClampNeg x1)) : arun X (n + 22) (d + 3) zM158 0 [some (.ref 0), some (.int x1), some (.int x2), none] [] h = some (some (.int 135), ((h.1.set 22 (.inl (0, 4, .inl (upd (fun _ => 135) (Int32.toNatClampNeg x1) x2)))), h.2)) := by
  refine (r_iloadn f158_0 rfl).trans ?_
  have hc1 : arun X (n + 20) (d + 2) zM140 0 [some (.int x1)] [] h = some ((some (.int 1)), h) := by
    refine (r_iloadn f140_0 rfl).trans ?_
    refine (r_iconst (v := 0) f140_1 rfl).trans ?_
    refine (r_iconst (v := 3) f140_2 rfl).trans ?_
    have hc2 : arun X (n + 16) (d + 1) zM137 0 [some (.int x1), some (.int 0), some (.int 3)] [] h = some ((some (.int 1)), h) := by
      refine (r_iloadn f137_0 rfl).trans ?_
      refine (r_iloadn f137_1 rfl).trans ?_
      refine (r_icmp_gt_f f137_2 ec0).trans ?_
      refine (r_iloadn f137_5 rfl).trans ?_
      refine (r_iloadn f137_6 rfl).trans ?_
      refine (r_icmp_gt_f f137_7 ec1).trans ?_
      refine (r_iconst (v := 1) f137_10 rfl).trans ?_
      refine (r_goto f137_11).trans ?_
      exact r_zreturn f137_15 rfl (by decide)
    refine (r_stat (as := [.int x1, .int 0, .int 3]) (v := (some (.int 1))) (h1 := h) f140_3 rfl zg137 rfl rfl rfl rfl rfl rfl hc2).trans ?_
    exact r_zreturn f140_6 rfl (by decide)
  refine (r_stat (as := [.int x1]) (v := (some (.int 1))) (h1 := h) f158_1 rfl zg140 rfl rfl rfl rfl rfl rfl hc1).trans ?_
  refine (r_if_eq_f f158_4 (by decide)).trans ?_
  refine (r_iloadn f158_7 rfl).trans ?_
  refine (r_iconst (v := 0) f158_8 rfl).trans ?_
  refine (r_sipush (v := 364) f158_9 rfl).trans ?_
  have hc3 : arun X (n + 15) (d + 2) zM137 0 [some (.int x2), some (.int 0), some (.int 364)] [] h = some ((some (.int 1)), h) := by
    refine (r_iloadn f137_0 rfl).trans ?_
    refine (r_iloadn f137_1 rfl).trans ?_
    refine (r_icmp_gt_f f137_2 ec2).trans ?_
    refine (r_iloadn f137_5 rfl).trans ?_
    refine (r_iloadn f137_6 rfl).trans ?_
    refine (r_icmp_gt_f f137_7 ec3).trans ?_
    refine (r_iconst (v := 1) f137_10 rfl).trans ?_
    refine (r_goto f137_11).trans ?_
    exact r_zreturn f137_15 rfl (by decide)
  refine (r_stat (as := [.int x2, .int 0, .int 364]) (v := (some (.int 1))) (h1 := h) f158_12 rfl zg137 rfl rfl rfl rfl rfl rfl hc3).trans ?_
  refine (r_if_ne_t f158_15 (by decide)).trans ?_
  refine (r_aloadn f158_20 rfl).trans ?_
  refine (r_get (v := .ref 16) f158_21 g0 rfl).trans ?_
  refine (r_get (v := .ref 22) f158_24 g16 rfl).trans ?_
  refine (r_iloadn f158_27 rfl).trans ?_
  refine (r_iald (v := 135) f158_28 g22 jc0 rfl).trans ?_
  refine (r_istoren (L' := [some (.ref 0), some (.int x1), some (.int x2), some (.int 135)]) f158_29 rfl rfl).trans ?_
  refine (r_aloadn f158_30 rfl).trans ?_
  refine (r_get (v := .ref 16) f158_31 g0 rfl).trans ?_
  refine (r_get (v := .ref 22) f158_34 g16 rfl).trans ?_
  refine (r_iloadn f158_37 rfl).trans ?_
  refine (r_iloadn f158_38 rfl).trans ?_
  refine (r_iast (h' := ((h.1.set 22 (.inl (0, 4, .inl (upd (fun _ => 135) (Int32.toNatClampNeg x1) x2)))), h.2)) f158_39 g22 jc0 rfl).trans ?_
  refine (r_iloadn f158_40 rfl).trans ?_
  exact r_ireturn f158_41 rfl
set_option maxHeartbeats 40000000 in
theorem qm14_4_0 {X : aX} {n d : Nat} {h : aH} {x1 : Int32} {x2 : Int32}  (g72 : h.1[72]? = some (.inr (12, zF72))) (g91 : h.1[91]? = some (.inl (0, 4, .inl (fun _ => 135)))) (ec0 : ¬ x1 < 0) (ec1 : ¬ 3 < x1) (ec2 : ¬ x2 < 0) (ec3 : ¬ 364 < x2) (jm0 : ¬ (x1 < 0 ∨ 4 ≤ Int32.toNatClampNeg x1)) : arun X (n + 20) (d + 3) zM231 0 [some (.ref 72), some (.int x1), some (.int x2), none] [] h = some (some (.int 135), ((h.1.set 91 (.inl (0, 4, .inl (upd (fun _ => 135) (Int32.toNatClampNeg x1) x2)))), h.2)) := by
  refine (r_iloadn f231_0 rfl).trans ?_
  have hc1 : arun X (n + 18) (d + 2) zM206 0 [some (.int x1)] [] h = some ((some (.int 1)), h) := by
    refine (r_iloadn f206_0 rfl).trans ?_
    refine (r_iconst (v := 0) f206_1 rfl).trans ?_
    refine (r_iconst (v := 3) f206_2 rfl).trans ?_
    have hc2 : arun X (n + 14) (d + 1) zM196 0 [some (.int x1), some (.int 0), some (.int 3)] [] h = some ((some (.int 1)), h) := by
      refine (r_iloadn f196_0 rfl).trans ?_
      refine (r_iloadn f196_1 rfl).trans ?_
      refine (r_icmp_lt_f f196_2 ec0).trans ?_
      refine (r_iloadn f196_5 rfl).trans ?_
      refine (r_iloadn f196_6 rfl).trans ?_
      refine (r_icmp_gt_f f196_7 ec1).trans ?_
      refine (r_iconst (v := 1) f196_10 rfl).trans ?_
      refine (r_goto f196_11).trans ?_
      exact r_zreturn f196_15 rfl (by decide)
    refine (r_stat (as := [.int x1, .int 0, .int 3]) (v := (some (.int 1))) (h1 := h) f206_3 rfl zg196 rfl rfl rfl rfl rfl rfl hc2).trans ?_
    exact r_zreturn f206_6 rfl (by decide)
  refine (r_stat (as := [.int x1]) (v := (some (.int 1))) (h1 := h) f231_1 rfl zg206 rfl rfl rfl rfl rfl rfl hc1).trans ?_
  refine (r_if_eq_f f231_4 (by decide)).trans ?_
  refine (r_iloadn f231_7 rfl).trans ?_
  refine (r_iconst (v := 0) f231_8 rfl).trans ?_
  refine (r_sipush (v := 364) f231_9 rfl).trans ?_
  have hc3 : arun X (n + 13) (d + 2) zM196 0 [some (.int x2), some (.int 0), some (.int 364)] [] h = some ((some (.int 1)), h) := by
    refine (r_iloadn f196_0 rfl).trans ?_
    refine (r_iloadn f196_1 rfl).trans ?_
    refine (r_icmp_lt_f f196_2 ec2).trans ?_
    refine (r_iloadn f196_5 rfl).trans ?_
    refine (r_iloadn f196_6 rfl).trans ?_
    refine (r_icmp_gt_f f196_7 ec3).trans ?_
    refine (r_iconst (v := 1) f196_10 rfl).trans ?_
    refine (r_goto f196_11).trans ?_
    exact r_zreturn f196_15 rfl (by decide)
  refine (r_stat (as := [.int x2, .int 0, .int 364]) (v := (some (.int 1))) (h1 := h) f231_12 rfl zg196 rfl rfl rfl rfl rfl rfl hc3).trans ?_
  refine (r_if_ne_t f231_15 (by decide)).trans ?_
  refine (r_aloadn f231_20 rfl).trans ?_
  refine (r_get (v := .ref 91) f231_21 g72 rfl).trans ?_
  refine (r_iloadn f231_24 rfl).trans ?_
  refine (r_iald (v := 135) f231_25 g91 jm0 rfl).trans ?_
  refine (r_istoren (L' := [some (.ref 72), some (.int x1), some (.int x2), some (.int 135)]) f231_26 rfl rfl).trans ?_
  refine (r_aloadn f231_27 rfl).trans ?_
  refine (r_get (v := .ref 91) f231_28 g72 rfl).trans ?_
  refine (r_iloadn f231_31 rfl).trans ?_
  refine (r_iloadn f231_32 rfl).trans ?_
  refine (r_iast (h' := ((h.1.set 91 (.inl (0, 4, .inl (upd (fun _ => 135) (Int32.toNatClampNeg x1) x2)))), h.2)) f231_33 g91 jm0 rfl).trans ?_
  refine (r_iloadn f231_34 rfl).trans ?_
  exact r_ireturn f231_35 rfl
set_option maxHeartbeats 40000000 in
theorem qc15_0 {X : aX} {n d : Nat} {h : aH} {x1 : Int32} {x2 : Int32} {x3 : Int32}  (ec0 : x1 < 0) : arun X (n + 4) (d + 1) zM159 0 [some (.ref 0), some (.int x1), some (.int x2), some (.int x3), none, none, none, none] [] h = some (some (.int (-1)), h) := by
  refine (r_iloadn f159_0 rfl).trans ?_
  refine (r_if_lt_t f159_1 ec0).trans ?_
  refine (r_iconst (v := (-1)) f159_15 rfl).trans ?_
  exact r_ireturn f159_16 rfl
set_option maxHeartbeats 40000000 in
theorem qm15_0_0 {X : aX} {n d : Nat} {h : aH} {x1 : Int32} {x2 : Int32} {x3 : Int32}  (ec0 : x1 < 0) : arun X (n + 4) (d + 1) zM232 0 [some (.ref 72), some (.int x1), some (.int x2), some (.int x3)] [] h = some (some (.int (-1)), h) := by
  refine (r_iloadn f232_0 rfl).trans ?_
  refine (r_if_lt_t f232_1 ec0).trans ?_
  refine (r_iconst (v := (-1)) f232_73 rfl).trans ?_
  exact r_ireturn f232_74 rfl
set_option maxHeartbeats 40000000 in
theorem qc15_1 {X : aX} {n d : Nat} {h : aH} {x1 : Int32} {x2 : Int32} {x3 : Int32}  (ec0 : ¬ x1 < 0) (ec1 : x2 < 0) : arun X (n + 6) (d + 1) zM159 0 [some (.ref 0), some (.int x1), some (.int x2), some (.int x3), none, none, none, none] [] h = some (some (.int (-1)), h) := by
  refine (r_iloadn f159_0 rfl).trans ?_
  refine (r_if_lt_f f159_1 ec0).trans ?_
  refine (r_iloadn f159_4 rfl).trans ?_
  refine (r_if_lt_t f159_5 ec1).trans ?_
  refine (r_iconst (v := (-1)) f159_15 rfl).trans ?_
  exact r_ireturn f159_16 rfl
set_option maxHeartbeats 40000000 in
theorem qm15_1_0 {X : aX} {n d : Nat} {h : aH} {x1 : Int32} {x2 : Int32} {x3 : Int32}  (ec0 : ¬ x1 < 0) (ec1 : x2 < 0) : arun X (n + 6) (d + 1) zM232 0 [some (.ref 72), some (.int x1), some (.int x2), some (.int x3)] [] h = some (some (.int (-1)), h) := by
  refine (r_iloadn f232_0 rfl).trans ?_
  refine (r_if_lt_f f232_1 ec0).trans ?_
  refine (r_iloadn f232_4 rfl).trans ?_
  refine (r_if_lt_t f232_5 ec1).trans ?_
  refine (r_iconst (v := (-1)) f232_73 rfl).trans ?_
  exact r_ireturn f232_74 rfl
set_option maxHeartbeats 40000000 in
theorem qc15_2 {X : aX} {n d : Nat} {h : aH} {x1 : Int32} {x2 : Int32} {x3 : Int32}  (ec0 : ¬ x1 < 0) (ec1 : ¬ x2 < 0) (ec2 : x3 < 0) : arun X (n + 15) (d + 3) zM159 0 [some (.ref 0), some (.int x1), some (.int x2), some (.int x3), none, none, none, none] [] h = some (some (.int (-1)), h) := by
  refine (r_iloadn f159_0 rfl).trans ?_
  refine (r_if_lt_f f159_1 ec0).trans ?_
  refine (r_iloadn f159_4 rfl).trans ?_
  refine (r_if_lt_f f159_5 ec1).trans ?_
  refine (r_iloadn f159_8 rfl).trans ?_
  have hc1 : arun X (n + 9) (d + 2) zM138 0 [some (.int x3)] [] h = some ((some (.int 0)), h) := by
    refine (r_iloadn f138_0 rfl).trans ?_
    refine (r_iconst (v := 0) f138_1 rfl).trans ?_
    refine (r_sipush (v := 3649) f138_2 rfl).trans ?_
    have hc2 : arun X (n + 5) (d + 1) zM137 0 [some (.int x3), some (.int 0), some (.int 3649)] [] h = some ((some (.int 0)), h) := by
      refine (r_iloadn f137_0 rfl).trans ?_
      refine (r_iloadn f137_1 rfl).trans ?_
      refine (r_icmp_gt_t f137_2 ec2).trans ?_
      refine (r_iconst (v := 0) f137_14 rfl).trans ?_
      exact r_zreturn f137_15 rfl (by decide)
    refine (r_stat (as := [.int x3, .int 0, .int 3649]) (v := (some (.int 0))) (h1 := h) f138_5 rfl zg137 rfl rfl rfl rfl rfl rfl hc2).trans ?_
    exact r_zreturn f138_8 rfl (by decide)
  refine (r_stat (as := [.int x3]) (v := (some (.int 0))) (h1 := h) f159_9 rfl zg138 rfl rfl rfl rfl rfl rfl hc1).trans ?_
  refine (r_if_ne_f f159_12 (by decide)).trans ?_
  refine (r_iconst (v := (-1)) f159_15 rfl).trans ?_
  exact r_ireturn f159_16 rfl
set_option maxHeartbeats 40000000 in
theorem qm15_2_0 {X : aX} {n d : Nat} {h : aH} {x1 : Int32} {x2 : Int32} {x3 : Int32}  (ec0 : ¬ x1 < 0) (ec1 : ¬ x2 < 0) (em0 : (x1 / 100) < 0) : arun X (n + 15) (d + 2) zM232 0 [some (.ref 72), some (.int x1), some (.int x2), some (.int x3)] [] h = some (some (.int (-1)), h) := by
  refine (r_iloadn f232_0 rfl).trans ?_
  refine (r_if_lt_f f232_1 ec0).trans ?_
  refine (r_iloadn f232_4 rfl).trans ?_
  refine (r_if_lt_f f232_5 ec1).trans ?_
  refine (r_iloadn f232_8 rfl).trans ?_
  refine (r_bipush (v := 100) f232_9 rfl).trans ?_
  refine (r_idiv (v := (x1 / 100)) f232_11 (by decide) rfl).trans ?_
  refine (r_iconst (v := 0) f232_12 rfl).trans ?_
  refine (r_bipush (v := 23) f232_13 rfl).trans ?_
  have hc1 : arun X (n + 5) (d + 1) zM196 0 [some (.int (x1 / 100)), some (.int 0), some (.int 23)] [] h = some ((some (.int 0)), h) := by
    refine (r_iloadn f196_0 rfl).trans ?_
    refine (r_iloadn f196_1 rfl).trans ?_
    refine (r_icmp_lt_t f196_2 em0).trans ?_
    refine (r_iconst (v := 0) f196_14 rfl).trans ?_
    exact r_zreturn f196_15 rfl (by decide)
  refine (r_stat (as := [.int (x1 / 100), .int 0, .int 23]) (v := (some (.int 0))) (h1 := h) f232_15 rfl zg196 rfl rfl rfl rfl rfl rfl hc1).trans ?_
  refine (r_if_eq_t f232_18 (by decide)).trans ?_
  refine (r_iconst (v := (-1)) f232_73 rfl).trans ?_
  exact r_ireturn f232_74 rfl
set_option maxHeartbeats 40000000 in
theorem qm15_2_1 {X : aX} {n d : Nat} {h : aH} {x1 : Int32} {x2 : Int32} {x3 : Int32}  (ec0 : ¬ x1 < 0) (ec1 : ¬ x2 < 0) (em0 : ¬ (x1 / 100) < 0) (em1 : 23 < (x1 / 100)) : arun X (n + 18) (d + 2) zM232 0 [some (.ref 72), some (.int x1), some (.int x2), some (.int x3)] [] h = some (some (.int (-1)), h) := by
  refine (r_iloadn f232_0 rfl).trans ?_
  refine (r_if_lt_f f232_1 ec0).trans ?_
  refine (r_iloadn f232_4 rfl).trans ?_
  refine (r_if_lt_f f232_5 ec1).trans ?_
  refine (r_iloadn f232_8 rfl).trans ?_
  refine (r_bipush (v := 100) f232_9 rfl).trans ?_
  refine (r_idiv (v := (x1 / 100)) f232_11 (by decide) rfl).trans ?_
  refine (r_iconst (v := 0) f232_12 rfl).trans ?_
  refine (r_bipush (v := 23) f232_13 rfl).trans ?_
  have hc1 : arun X (n + 8) (d + 1) zM196 0 [some (.int (x1 / 100)), some (.int 0), some (.int 23)] [] h = some ((some (.int 0)), h) := by
    refine (r_iloadn f196_0 rfl).trans ?_
    refine (r_iloadn f196_1 rfl).trans ?_
    refine (r_icmp_lt_f f196_2 em0).trans ?_
    refine (r_iloadn f196_5 rfl).trans ?_
    refine (r_iloadn f196_6 rfl).trans ?_
    refine (r_icmp_gt_t f196_7 em1).trans ?_
    refine (r_iconst (v := 0) f196_14 rfl).trans ?_
    exact r_zreturn f196_15 rfl (by decide)
  refine (r_stat (as := [.int (x1 / 100), .int 0, .int 23]) (v := (some (.int 0))) (h1 := h) f232_15 rfl zg196 rfl rfl rfl rfl rfl rfl hc1).trans ?_
  refine (r_if_eq_t f232_18 (by decide)).trans ?_
  refine (r_iconst (v := (-1)) f232_73 rfl).trans ?_
  exact r_ireturn f232_74 rfl
set_option maxHeartbeats 40000000 in
theorem qm15_2_2 {X : aX} {n d : Nat} {h : aH} {x1 : Int32} {x2 : Int32} {x3 : Int32}  (ec0 : ¬ x1 < 0) (ec1 : ¬ x2 < 0) (em0 : ¬ (x1 / 100) < 0) (em1 : ¬ 23 < (x1 / 100)) (em2 : (x1 - x1 / 100 * 100) < 0) : arun X (n + 22) (d + 2) zM232 0 [some (.ref 72), some (.int x1), some (.int x2), some (.int x3)] [] h = some (some (.int (-1)), h) := by
  refine (r_iloadn f232_0 rfl).trans ?_
  refine (r_if_lt_f f232_1 ec0).trans ?_
  refine (r_iloadn f232_4 rfl).trans ?_
  refine (r_if_lt_f f232_5 ec1).trans ?_
  refine (r_iloadn f232_8 rfl).trans ?_
  refine (r_bipush (v := 100) f232_9 rfl).trans ?_
  refine (r_idiv (v := (x1 / 100)) f232_11 (by decide) rfl).trans ?_
  refine (r_iconst (v := 0) f232_12 rfl).trans ?_
  refine (r_bipush (v := 23) f232_13 rfl).trans ?_
  have hc1 : arun X (n + 12) (d + 1) zM196 0 [some (.int (x1 / 100)), some (.int 0), some (.int 23)] [] h = some ((some (.int 1)), h) := by
    refine (r_iloadn f196_0 rfl).trans ?_
    refine (r_iloadn f196_1 rfl).trans ?_
    refine (r_icmp_lt_f f196_2 em0).trans ?_
    refine (r_iloadn f196_5 rfl).trans ?_
    refine (r_iloadn f196_6 rfl).trans ?_
    refine (r_icmp_gt_f f196_7 em1).trans ?_
    refine (r_iconst (v := 1) f196_10 rfl).trans ?_
    refine (r_goto f196_11).trans ?_
    exact r_zreturn f196_15 rfl (by decide)
  refine (r_stat (as := [.int (x1 / 100), .int 0, .int 23]) (v := (some (.int 1))) (h1 := h) f232_15 rfl zg196 rfl rfl rfl rfl rfl rfl hc1).trans ?_
  refine (r_if_eq_f f232_18 (by decide)).trans ?_
  refine (r_iloadn f232_21 rfl).trans ?_
  refine (r_bipush (v := 100) f232_22 rfl).trans ?_
  refine (r_irem (v := (x1 - x1 / 100 * 100)) f232_24 (by decide) rfl).trans ?_
  refine (r_iconst (v := 0) f232_25 rfl).trans ?_
  refine (r_bipush (v := 23) f232_26 rfl).trans ?_
  have hc2 : arun X (n + 5) (d + 1) zM196 0 [some (.int (x1 - x1 / 100 * 100)), some (.int 0), some (.int 23)] [] h = some ((some (.int 0)), h) := by
    refine (r_iloadn f196_0 rfl).trans ?_
    refine (r_iloadn f196_1 rfl).trans ?_
    refine (r_icmp_lt_t f196_2 em2).trans ?_
    refine (r_iconst (v := 0) f196_14 rfl).trans ?_
    exact r_zreturn f196_15 rfl (by decide)
  refine (r_stat (as := [.int (x1 - x1 / 100 * 100), .int 0, .int 23]) (v := (some (.int 0))) (h1 := h) f232_28 rfl zg196 rfl rfl rfl rfl rfl rfl hc2).trans ?_
  refine (r_if_eq_t f232_31 (by decide)).trans ?_
  refine (r_iconst (v := (-1)) f232_73 rfl).trans ?_
  exact r_ireturn f232_74 rfl
set_option maxHeartbeats 40000000 in
theorem qm15_2_3 {X : aX} {n d : Nat} {h : aH} {x1 : Int32} {x2 : Int32} {x3 : Int32}  (ec0 : ¬ x1 < 0) (ec1 : ¬ x2 < 0) (em0 : ¬ (x1 / 100) < 0) (em1 : ¬ 23 < (x1 / 100)) (em2 : ¬ (x1 - x1 / 100 * 100) < 0) (em3 : 23 < (x1 - x1 / 100 * 100)) : arun X (n + 25) (d + 2) zM232 0 [some (.ref 72), some (.int x1), some (.int x2), some (.int x3)] [] h = some (some (.int (-1)), h) := by
  refine (r_iloadn f232_0 rfl).trans ?_
  refine (r_if_lt_f f232_1 ec0).trans ?_
  refine (r_iloadn f232_4 rfl).trans ?_
  refine (r_if_lt_f f232_5 ec1).trans ?_
  refine (r_iloadn f232_8 rfl).trans ?_
  refine (r_bipush (v := 100) f232_9 rfl).trans ?_
  refine (r_idiv (v := (x1 / 100)) f232_11 (by decide) rfl).trans ?_
  refine (r_iconst (v := 0) f232_12 rfl).trans ?_
  refine (r_bipush (v := 23) f232_13 rfl).trans ?_
  have hc1 : arun X (n + 15) (d + 1) zM196 0 [some (.int (x1 / 100)), some (.int 0), some (.int 23)] [] h = some ((some (.int 1)), h) := by
    refine (r_iloadn f196_0 rfl).trans ?_
    refine (r_iloadn f196_1 rfl).trans ?_
    refine (r_icmp_lt_f f196_2 em0).trans ?_
    refine (r_iloadn f196_5 rfl).trans ?_
    refine (r_iloadn f196_6 rfl).trans ?_
    refine (r_icmp_gt_f f196_7 em1).trans ?_
    refine (r_iconst (v := 1) f196_10 rfl).trans ?_
    refine (r_goto f196_11).trans ?_
    exact r_zreturn f196_15 rfl (by decide)
  refine (r_stat (as := [.int (x1 / 100), .int 0, .int 23]) (v := (some (.int 1))) (h1 := h) f232_15 rfl zg196 rfl rfl rfl rfl rfl rfl hc1).trans ?_
  refine (r_if_eq_f f232_18 (by decide)).trans ?_
  refine (r_iloadn f232_21 rfl).trans ?_
  refine (r_bipush (v := 100) f232_22 rfl).trans ?_
  refine (r_irem (v := (x1 - x1 / 100 * 100)) f232_24 (by decide) rfl).trans ?_
  refine (r_iconst (v := 0) f232_25 rfl).trans ?_
  refine (r_bipush (v := 23) f232_26 rfl).trans ?_
  have hc2 : arun X (n + 8) (d + 1) zM196 0 [some (.int (x1 - x1 / 100 * 100)), some (.int 0), some (.int 23)] [] h = some ((some (.int 0)), h) := by
    refine (r_iloadn f196_0 rfl).trans ?_
    refine (r_iloadn f196_1 rfl).trans ?_
    refine (r_icmp_lt_f f196_2 em2).trans ?_
    refine (r_iloadn f196_5 rfl).trans ?_
    refine (r_iloadn f196_6 rfl).trans ?_
    refine (r_icmp_gt_t f196_7 em3).trans ?_
    refine (r_iconst (v := 0) f196_14 rfl).trans ?_
    exact r_zreturn f196_15 rfl (by decide)
  refine (r_stat (as := [.int (x1 - x1 / 100 * 100), .int 0, .int 23]) (v := (some (.int 0))) (h1 := h) f232_28 rfl zg196 rfl rfl rfl rfl rfl rfl hc2).trans ?_
  refine (r_if_eq_t f232_31 (by decide)).trans ?_
  refine (r_iconst (v := (-1)) f232_73 rfl).trans ?_
  exact r_ireturn f232_74 rfl
set_option maxHeartbeats 40000000 in
theorem qm15_2_4 {X : aX} {n d : Nat} {h : aH} {x1 : Int32} {x2 : Int32} {x3 : Int32}  (ec0 : ¬ x1 < 0) (ec1 : ¬ x2 < 0) (em0 : ¬ (x1 / 100) < 0) (em1 : ¬ 23 < (x1 / 100)) (em2 : ¬ (x1 - x1 / 100 * 100) < 0) (em3 : ¬ 23 < (x1 - x1 / 100 * 100)) (em4 : (x2 / 100) < (x1 / 100)) : arun X (n + 31) (d + 2) zM232 0 [some (.ref 72), some (.int x1), some (.int x2), some (.int x3)] [] h = some (some (.int (-1)), h) := by
  refine (r_iloadn f232_0 rfl).trans ?_
  refine (r_if_lt_f f232_1 ec0).trans ?_
  refine (r_iloadn f232_4 rfl).trans ?_
  refine (r_if_lt_f f232_5 ec1).trans ?_
  refine (r_iloadn f232_8 rfl).trans ?_
  refine (r_bipush (v := 100) f232_9 rfl).trans ?_
  refine (r_idiv (v := (x1 / 100)) f232_11 (by decide) rfl).trans ?_
  refine (r_iconst (v := 0) f232_12 rfl).trans ?_
  refine (r_bipush (v := 23) f232_13 rfl).trans ?_
  have hc1 : arun X (n + 21) (d + 1) zM196 0 [some (.int (x1 / 100)), some (.int 0), some (.int 23)] [] h = some ((some (.int 1)), h) := by
    refine (r_iloadn f196_0 rfl).trans ?_
    refine (r_iloadn f196_1 rfl).trans ?_
    refine (r_icmp_lt_f f196_2 em0).trans ?_
    refine (r_iloadn f196_5 rfl).trans ?_
    refine (r_iloadn f196_6 rfl).trans ?_
    refine (r_icmp_gt_f f196_7 em1).trans ?_
    refine (r_iconst (v := 1) f196_10 rfl).trans ?_
    refine (r_goto f196_11).trans ?_
    exact r_zreturn f196_15 rfl (by decide)
  refine (r_stat (as := [.int (x1 / 100), .int 0, .int 23]) (v := (some (.int 1))) (h1 := h) f232_15 rfl zg196 rfl rfl rfl rfl rfl rfl hc1).trans ?_
  refine (r_if_eq_f f232_18 (by decide)).trans ?_
  refine (r_iloadn f232_21 rfl).trans ?_
  refine (r_bipush (v := 100) f232_22 rfl).trans ?_
  refine (r_irem (v := (x1 - x1 / 100 * 100)) f232_24 (by decide) rfl).trans ?_
  refine (r_iconst (v := 0) f232_25 rfl).trans ?_
  refine (r_bipush (v := 23) f232_26 rfl).trans ?_
  have hc2 : arun X (n + 14) (d + 1) zM196 0 [some (.int (x1 - x1 / 100 * 100)), some (.int 0), some (.int 23)] [] h = some ((some (.int 1)), h) := by
    refine (r_iloadn f196_0 rfl).trans ?_
    refine (r_iloadn f196_1 rfl).trans ?_
    refine (r_icmp_lt_f f196_2 em2).trans ?_
    refine (r_iloadn f196_5 rfl).trans ?_
    refine (r_iloadn f196_6 rfl).trans ?_
    refine (r_icmp_gt_f f196_7 em3).trans ?_
    refine (r_iconst (v := 1) f196_10 rfl).trans ?_
    refine (r_goto f196_11).trans ?_
    exact r_zreturn f196_15 rfl (by decide)
  refine (r_stat (as := [.int (x1 - x1 / 100 * 100), .int 0, .int 23]) (v := (some (.int 1))) (h1 := h) f232_28 rfl zg196 rfl rfl rfl rfl rfl rfl hc2).trans ?_
  refine (r_if_eq_f f232_31 (by decide)).trans ?_
  refine (r_iloadn f232_34 rfl).trans ?_
  refine (r_bipush (v := 100) f232_35 rfl).trans ?_
  refine (r_idiv (v := (x2 / 100)) f232_37 (by decide) rfl).trans ?_
  refine (r_iloadn f232_38 rfl).trans ?_
  refine (r_bipush (v := 100) f232_39 rfl).trans ?_
  refine (r_idiv (v := (x1 / 100)) f232_41 (by decide) rfl).trans ?_
  refine (r_bipush (v := 23) f232_42 rfl).trans ?_
  have hc3 : arun X (n + 5) (d + 1) zM196 0 [some (.int (x2 / 100)), some (.int (x1 / 100)), some (.int 23)] [] h = some ((some (.int 0)), h) := by
    refine (r_iloadn f196_0 rfl).trans ?_
    refine (r_iloadn f196_1 rfl).trans ?_
    refine (r_icmp_lt_t f196_2 em4).trans ?_
    refine (r_iconst (v := 0) f196_14 rfl).trans ?_
    exact r_zreturn f196_15 rfl (by decide)
  refine (r_stat (as := [.int (x2 / 100), .int (x1 / 100), .int 23]) (v := (some (.int 0))) (h1 := h) f232_44 rfl zg196 rfl rfl rfl rfl rfl rfl hc3).trans ?_
  refine (r_if_eq_t f232_47 (by decide)).trans ?_
  refine (r_iconst (v := (-1)) f232_73 rfl).trans ?_
  exact r_ireturn f232_74 rfl
set_option maxHeartbeats 40000000 in
theorem qm15_2_5 {X : aX} {n d : Nat} {h : aH} {x1 : Int32} {x2 : Int32} {x3 : Int32}  (ec0 : ¬ x1 < 0) (ec1 : ¬ x2 < 0) (em0 : ¬ (x1 / 100) < 0) (em1 : ¬ 23 < (x1 / 100)) (em2 : ¬ (x1 - x1 / 100 * 100) < 0) (em3 : ¬ 23 < (x1 - x1 / 100 * 100)) (em4 : ¬ (x2 / 100) < (x1 / 100)) (em5 : 23 < (x2 / 100)) : arun X (n + 34) (d + 2) zM232 0 [some (.ref 72), some (.int x1), some (.int x2), some (.int x3)] [] h = some (some (.int (-1)), h) := by
  refine (r_iloadn f232_0 rfl).trans ?_
  refine (r_if_lt_f f232_1 ec0).trans ?_
  refine (r_iloadn f232_4 rfl).trans ?_
  refine (r_if_lt_f f232_5 ec1).trans ?_
  refine (r_iloadn f232_8 rfl).trans ?_
  refine (r_bipush (v := 100) f232_9 rfl).trans ?_
  refine (r_idiv (v := (x1 / 100)) f232_11 (by decide) rfl).trans ?_
  refine (r_iconst (v := 0) f232_12 rfl).trans ?_
  refine (r_bipush (v := 23) f232_13 rfl).trans ?_
  have hc1 : arun X (n + 24) (d + 1) zM196 0 [some (.int (x1 / 100)), some (.int 0), some (.int 23)] [] h = some ((some (.int 1)), h) := by
    refine (r_iloadn f196_0 rfl).trans ?_
    refine (r_iloadn f196_1 rfl).trans ?_
    refine (r_icmp_lt_f f196_2 em0).trans ?_
    refine (r_iloadn f196_5 rfl).trans ?_
    refine (r_iloadn f196_6 rfl).trans ?_
    refine (r_icmp_gt_f f196_7 em1).trans ?_
    refine (r_iconst (v := 1) f196_10 rfl).trans ?_
    refine (r_goto f196_11).trans ?_
    exact r_zreturn f196_15 rfl (by decide)
  refine (r_stat (as := [.int (x1 / 100), .int 0, .int 23]) (v := (some (.int 1))) (h1 := h) f232_15 rfl zg196 rfl rfl rfl rfl rfl rfl hc1).trans ?_
  refine (r_if_eq_f f232_18 (by decide)).trans ?_
  refine (r_iloadn f232_21 rfl).trans ?_
  refine (r_bipush (v := 100) f232_22 rfl).trans ?_
  refine (r_irem (v := (x1 - x1 / 100 * 100)) f232_24 (by decide) rfl).trans ?_
  refine (r_iconst (v := 0) f232_25 rfl).trans ?_
  refine (r_bipush (v := 23) f232_26 rfl).trans ?_
  have hc2 : arun X (n + 17) (d + 1) zM196 0 [some (.int (x1 - x1 / 100 * 100)), some (.int 0), some (.int 23)] [] h = some ((some (.int 1)), h) := by
    refine (r_iloadn f196_0 rfl).trans ?_
    refine (r_iloadn f196_1 rfl).trans ?_
    refine (r_icmp_lt_f f196_2 em2).trans ?_
    refine (r_iloadn f196_5 rfl).trans ?_
    refine (r_iloadn f196_6 rfl).trans ?_
    refine (r_icmp_gt_f f196_7 em3).trans ?_
    refine (r_iconst (v := 1) f196_10 rfl).trans ?_
    refine (r_goto f196_11).trans ?_
    exact r_zreturn f196_15 rfl (by decide)
  refine (r_stat (as := [.int (x1 - x1 / 100 * 100), .int 0, .int 23]) (v := (some (.int 1))) (h1 := h) f232_28 rfl zg196 rfl rfl rfl rfl rfl rfl hc2).trans ?_
  refine (r_if_eq_f f232_31 (by decide)).trans ?_
  refine (r_iloadn f232_34 rfl).trans ?_
  refine (r_bipush (v := 100) f232_35 rfl).trans ?_
  refine (r_idiv (v := (x2 / 100)) f232_37 (by decide) rfl).trans ?_
  refine (r_iloadn f232_38 rfl).trans ?_
  refine (r_bipush (v := 100) f232_39 rfl).trans ?_
  refine (r_idiv (v := (x1 / 100)) f232_41 (by decide) rfl).trans ?_
  refine (r_bipush (v := 23) f232_42 rfl).trans ?_
  have hc3 : arun X (n + 8) (d + 1) zM196 0 [some (.int (x2 / 100)), some (.int (x1 / 100)), some (.int 23)] [] h = some ((some (.int 0)), h) := by
    refine (r_iloadn f196_0 rfl).trans ?_
    refine (r_iloadn f196_1 rfl).trans ?_
    refine (r_icmp_lt_f f196_2 em4).trans ?_
    refine (r_iloadn f196_5 rfl).trans ?_
    refine (r_iloadn f196_6 rfl).trans ?_
    refine (r_icmp_gt_t f196_7 em5).trans ?_
    refine (r_iconst (v := 0) f196_14 rfl).trans ?_
    exact r_zreturn f196_15 rfl (by decide)
  refine (r_stat (as := [.int (x2 / 100), .int (x1 / 100), .int 23]) (v := (some (.int 0))) (h1 := h) f232_44 rfl zg196 rfl rfl rfl rfl rfl rfl hc3).trans ?_
  refine (r_if_eq_t f232_47 (by decide)).trans ?_
  refine (r_iconst (v := (-1)) f232_73 rfl).trans ?_
  exact r_ireturn f232_74 rfl
set_option maxHeartbeats 40000000 in
theorem qm15_2_6 {X : aX} {n d : Nat} {h : aH} {x1 : Int32} {x2 : Int32} {x3 : Int32}  (ec0 : ¬ x1 < 0) (ec1 : ¬ x2 < 0) (em0 : ¬ (x1 / 100) < 0) (em1 : ¬ 23 < (x1 / 100)) (em2 : ¬ (x1 - x1 / 100 * 100) < 0) (em3 : ¬ 23 < (x1 - x1 / 100 * 100)) (em4 : ¬ (x2 / 100) < (x1 / 100)) (em5 : ¬ 23 < (x2 / 100)) (em6 : (x2 - x2 / 100 * 100) < (x1 - x1 / 100 * 100)) : arun X (n + 40) (d + 2) zM232 0 [some (.ref 72), some (.int x1), some (.int x2), some (.int x3)] [] h = some (some (.int (-1)), h) := by
  refine (r_iloadn f232_0 rfl).trans ?_
  refine (r_if_lt_f f232_1 ec0).trans ?_
  refine (r_iloadn f232_4 rfl).trans ?_
  refine (r_if_lt_f f232_5 ec1).trans ?_
  refine (r_iloadn f232_8 rfl).trans ?_
  refine (r_bipush (v := 100) f232_9 rfl).trans ?_
  refine (r_idiv (v := (x1 / 100)) f232_11 (by decide) rfl).trans ?_
  refine (r_iconst (v := 0) f232_12 rfl).trans ?_
  refine (r_bipush (v := 23) f232_13 rfl).trans ?_
  have hc1 : arun X (n + 30) (d + 1) zM196 0 [some (.int (x1 / 100)), some (.int 0), some (.int 23)] [] h = some ((some (.int 1)), h) := by
    refine (r_iloadn f196_0 rfl).trans ?_
    refine (r_iloadn f196_1 rfl).trans ?_
    refine (r_icmp_lt_f f196_2 em0).trans ?_
    refine (r_iloadn f196_5 rfl).trans ?_
    refine (r_iloadn f196_6 rfl).trans ?_
    refine (r_icmp_gt_f f196_7 em1).trans ?_
    refine (r_iconst (v := 1) f196_10 rfl).trans ?_
    refine (r_goto f196_11).trans ?_
    exact r_zreturn f196_15 rfl (by decide)
  refine (r_stat (as := [.int (x1 / 100), .int 0, .int 23]) (v := (some (.int 1))) (h1 := h) f232_15 rfl zg196 rfl rfl rfl rfl rfl rfl hc1).trans ?_
  refine (r_if_eq_f f232_18 (by decide)).trans ?_
  refine (r_iloadn f232_21 rfl).trans ?_
  refine (r_bipush (v := 100) f232_22 rfl).trans ?_
  refine (r_irem (v := (x1 - x1 / 100 * 100)) f232_24 (by decide) rfl).trans ?_
  refine (r_iconst (v := 0) f232_25 rfl).trans ?_
  refine (r_bipush (v := 23) f232_26 rfl).trans ?_
  have hc2 : arun X (n + 23) (d + 1) zM196 0 [some (.int (x1 - x1 / 100 * 100)), some (.int 0), some (.int 23)] [] h = some ((some (.int 1)), h) := by
    refine (r_iloadn f196_0 rfl).trans ?_
    refine (r_iloadn f196_1 rfl).trans ?_
    refine (r_icmp_lt_f f196_2 em2).trans ?_
    refine (r_iloadn f196_5 rfl).trans ?_
    refine (r_iloadn f196_6 rfl).trans ?_
    refine (r_icmp_gt_f f196_7 em3).trans ?_
    refine (r_iconst (v := 1) f196_10 rfl).trans ?_
    refine (r_goto f196_11).trans ?_
    exact r_zreturn f196_15 rfl (by decide)
  refine (r_stat (as := [.int (x1 - x1 / 100 * 100), .int 0, .int 23]) (v := (some (.int 1))) (h1 := h) f232_28 rfl zg196 rfl rfl rfl rfl rfl rfl hc2).trans ?_
  refine (r_if_eq_f f232_31 (by decide)).trans ?_
  refine (r_iloadn f232_34 rfl).trans ?_
  refine (r_bipush (v := 100) f232_35 rfl).trans ?_
  refine (r_idiv (v := (x2 / 100)) f232_37 (by decide) rfl).trans ?_
  refine (r_iloadn f232_38 rfl).trans ?_
  refine (r_bipush (v := 100) f232_39 rfl).trans ?_
  refine (r_idiv (v := (x1 / 100)) f232_41 (by decide) rfl).trans ?_
  refine (r_bipush (v := 23) f232_42 rfl).trans ?_
  have hc3 : arun X (n + 14) (d + 1) zM196 0 [some (.int (x2 / 100)), some (.int (x1 / 100)), some (.int 23)] [] h = some ((some (.int 1)), h) := by
    refine (r_iloadn f196_0 rfl).trans ?_
    refine (r_iloadn f196_1 rfl).trans ?_
    refine (r_icmp_lt_f f196_2 em4).trans ?_
    refine (r_iloadn f196_5 rfl).trans ?_
    refine (r_iloadn f196_6 rfl).trans ?_
    refine (r_icmp_gt_f f196_7 em5).trans ?_
    refine (r_iconst (v := 1) f196_10 rfl).trans ?_
    refine (r_goto f196_11).trans ?_
    exact r_zreturn f196_15 rfl (by decide)
  refine (r_stat (as := [.int (x2 / 100), .int (x1 / 100), .int 23]) (v := (some (.int 1))) (h1 := h) f232_44 rfl zg196 rfl rfl rfl rfl rfl rfl hc3).trans ?_
  refine (r_if_eq_f f232_47 (by decide)).trans ?_
  refine (r_iloadn f232_50 rfl).trans ?_
  refine (r_bipush (v := 100) f232_51 rfl).trans ?_
  refine (r_irem (v := (x2 - x2 / 100 * 100)) f232_53 (by decide) rfl).trans ?_
  refine (r_iloadn f232_54 rfl).trans ?_
  refine (r_bipush (v := 100) f232_55 rfl).trans ?_
  refine (r_irem (v := (x1 - x1 / 100 * 100)) f232_57 (by decide) rfl).trans ?_
  refine (r_bipush (v := 23) f232_58 rfl).trans ?_
  have hc4 : arun X (n + 5) (d + 1) zM196 0 [some (.int (x2 - x2 / 100 * 100)), some (.int (x1 - x1 / 100 * 100)), some (.int 23)] [] h = some ((some (.int 0)), h) := by
    refine (r_iloadn f196_0 rfl).trans ?_
    refine (r_iloadn f196_1 rfl).trans ?_
    refine (r_icmp_lt_t f196_2 em6).trans ?_
    refine (r_iconst (v := 0) f196_14 rfl).trans ?_
    exact r_zreturn f196_15 rfl (by decide)
  refine (r_stat (as := [.int (x2 - x2 / 100 * 100), .int (x1 - x1 / 100 * 100), .int 23]) (v := (some (.int 0))) (h1 := h) f232_60 rfl zg196 rfl rfl rfl rfl rfl rfl hc4).trans ?_
  refine (r_if_eq_t f232_63 (by decide)).trans ?_
  refine (r_iconst (v := (-1)) f232_73 rfl).trans ?_
  exact r_ireturn f232_74 rfl
set_option maxHeartbeats 40000000 in
theorem qm15_2_7 {X : aX} {n d : Nat} {h : aH} {x1 : Int32} {x2 : Int32} {x3 : Int32}  (ec0 : ¬ x1 < 0) (ec1 : ¬ x2 < 0) (em0 : ¬ (x1 / 100) < 0) (em1 : ¬ 23 < (x1 / 100)) (em2 : ¬ (x1 - x1 / 100 * 100) < 0) (em3 : ¬ 23 < (x1 - x1 / 100 * 100)) (em4 : ¬ (x2 / 100) < (x1 / 100)) (em5 : ¬ 23 < (x2 / 100)) (em6 : ¬ (x2 - x2 / 100 * 100) < (x1 - x1 / 100 * 100)) (em7 : 23 < (x2 - x2 / 100 * 100)) : arun X (n + 43) (d + 2) zM232 0 [some (.ref 72), some (.int x1), some (.int x2), some (.int x3)] [] h = some (some (.int (-1)), h) := by
  refine (r_iloadn f232_0 rfl).trans ?_
  refine (r_if_lt_f f232_1 ec0).trans ?_
  refine (r_iloadn f232_4 rfl).trans ?_
  refine (r_if_lt_f f232_5 ec1).trans ?_
  refine (r_iloadn f232_8 rfl).trans ?_
  refine (r_bipush (v := 100) f232_9 rfl).trans ?_
  refine (r_idiv (v := (x1 / 100)) f232_11 (by decide) rfl).trans ?_
  refine (r_iconst (v := 0) f232_12 rfl).trans ?_
  refine (r_bipush (v := 23) f232_13 rfl).trans ?_
  have hc1 : arun X (n + 33) (d + 1) zM196 0 [some (.int (x1 / 100)), some (.int 0), some (.int 23)] [] h = some ((some (.int 1)), h) := by
    refine (r_iloadn f196_0 rfl).trans ?_
    refine (r_iloadn f196_1 rfl).trans ?_
    refine (r_icmp_lt_f f196_2 em0).trans ?_
    refine (r_iloadn f196_5 rfl).trans ?_
    refine (r_iloadn f196_6 rfl).trans ?_
    refine (r_icmp_gt_f f196_7 em1).trans ?_
    refine (r_iconst (v := 1) f196_10 rfl).trans ?_
    refine (r_goto f196_11).trans ?_
    exact r_zreturn f196_15 rfl (by decide)
  refine (r_stat (as := [.int (x1 / 100), .int 0, .int 23]) (v := (some (.int 1))) (h1 := h) f232_15 rfl zg196 rfl rfl rfl rfl rfl rfl hc1).trans ?_
  refine (r_if_eq_f f232_18 (by decide)).trans ?_
  refine (r_iloadn f232_21 rfl).trans ?_
  refine (r_bipush (v := 100) f232_22 rfl).trans ?_
  refine (r_irem (v := (x1 - x1 / 100 * 100)) f232_24 (by decide) rfl).trans ?_
  refine (r_iconst (v := 0) f232_25 rfl).trans ?_
  refine (r_bipush (v := 23) f232_26 rfl).trans ?_
  have hc2 : arun X (n + 26) (d + 1) zM196 0 [some (.int (x1 - x1 / 100 * 100)), some (.int 0), some (.int 23)] [] h = some ((some (.int 1)), h) := by
    refine (r_iloadn f196_0 rfl).trans ?_
    refine (r_iloadn f196_1 rfl).trans ?_
    refine (r_icmp_lt_f f196_2 em2).trans ?_
    refine (r_iloadn f196_5 rfl).trans ?_
    refine (r_iloadn f196_6 rfl).trans ?_
    refine (r_icmp_gt_f f196_7 em3).trans ?_
    refine (r_iconst (v := 1) f196_10 rfl).trans ?_
    refine (r_goto f196_11).trans ?_
    exact r_zreturn f196_15 rfl (by decide)
  refine (r_stat (as := [.int (x1 - x1 / 100 * 100), .int 0, .int 23]) (v := (some (.int 1))) (h1 := h) f232_28 rfl zg196 rfl rfl rfl rfl rfl rfl hc2).trans ?_
  refine (r_if_eq_f f232_31 (by decide)).trans ?_
  refine (r_iloadn f232_34 rfl).trans ?_
  refine (r_bipush (v := 100) f232_35 rfl).trans ?_
  refine (r_idiv (v := (x2 / 100)) f232_37 (by decide) rfl).trans ?_
  refine (r_iloadn f232_38 rfl).trans ?_
  refine (r_bipush (v := 100) f232_39 rfl).trans ?_
  refine (r_idiv (v := (x1 / 100)) f232_41 (by decide) rfl).trans ?_
  refine (r_bipush (v := 23) f232_42 rfl).trans ?_
  have hc3 : arun X (n + 17) (d + 1) zM196 0 [some (.int (x2 / 100)), some (.int (x1 / 100)), some (.int 23)] [] h = some ((some (.int 1)), h) := by
    refine (r_iloadn f196_0 rfl).trans ?_
    refine (r_iloadn f196_1 rfl).trans ?_
    refine (r_icmp_lt_f f196_2 em4).trans ?_
    refine (r_iloadn f196_5 rfl).trans ?_
    refine (r_iloadn f196_6 rfl).trans ?_
    refine (r_icmp_gt_f f196_7 em5).trans ?_
    refine (r_iconst (v := 1) f196_10 rfl).trans ?_
    refine (r_goto f196_11).trans ?_
    exact r_zreturn f196_15 rfl (by decide)
  refine (r_stat (as := [.int (x2 / 100), .int (x1 / 100), .int 23]) (v := (some (.int 1))) (h1 := h) f232_44 rfl zg196 rfl rfl rfl rfl rfl rfl hc3).trans ?_
  refine (r_if_eq_f f232_47 (by decide)).trans ?_
  refine (r_iloadn f232_50 rfl).trans ?_
  refine (r_bipush (v := 100) f232_51 rfl).trans ?_
  refine (r_irem (v := (x2 - x2 / 100 * 100)) f232_53 (by decide) rfl).trans ?_
  refine (r_iloadn f232_54 rfl).trans ?_
  refine (r_bipush (v := 100) f232_55 rfl).trans ?_
  refine (r_irem (v := (x1 - x1 / 100 * 100)) f232_57 (by decide) rfl).trans ?_
  refine (r_bipush (v := 23) f232_58 rfl).trans ?_
  have hc4 : arun X (n + 8) (d + 1) zM196 0 [some (.int (x2 - x2 / 100 * 100)), some (.int (x1 - x1 / 100 * 100)), some (.int 23)] [] h = some ((some (.int 0)), h) := by
    refine (r_iloadn f196_0 rfl).trans ?_
    refine (r_iloadn f196_1 rfl).trans ?_
    refine (r_icmp_lt_f f196_2 em6).trans ?_
    refine (r_iloadn f196_5 rfl).trans ?_
    refine (r_iloadn f196_6 rfl).trans ?_
    refine (r_icmp_gt_t f196_7 em7).trans ?_
    refine (r_iconst (v := 0) f196_14 rfl).trans ?_
    exact r_zreturn f196_15 rfl (by decide)
  refine (r_stat (as := [.int (x2 - x2 / 100 * 100), .int (x1 - x1 / 100 * 100), .int 23]) (v := (some (.int 0))) (h1 := h) f232_60 rfl zg196 rfl rfl rfl rfl rfl rfl hc4).trans ?_
  refine (r_if_eq_t f232_63 (by decide)).trans ?_
  refine (r_iconst (v := (-1)) f232_73 rfl).trans ?_
  exact r_ireturn f232_74 rfl
set_option maxHeartbeats 40000000 in
theorem qm15_2_8 {X : aX} {n d : Nat} {h : aH} {x1 : Int32} {x2 : Int32} {x3 : Int32}  (ec0 : ¬ x1 < 0) (ec1 : ¬ x2 < 0) (ec2 : x3 < 0) (em0 : ¬ (x1 / 100) < 0) (em1 : ¬ 23 < (x1 / 100)) (em2 : ¬ (x1 - x1 / 100 * 100) < 0) (em3 : ¬ 23 < (x1 - x1 / 100 * 100)) (em4 : ¬ (x2 / 100) < (x1 / 100)) (em5 : ¬ 23 < (x2 / 100)) (em6 : ¬ (x2 - x2 / 100 * 100) < (x1 - x1 / 100 * 100)) (em7 : ¬ 23 < (x2 - x2 / 100 * 100)) : arun X (n + 47) (d + 3) zM232 0 [some (.ref 72), some (.int x1), some (.int x2), some (.int x3)] [] h = some (some (.int (-1)), h) := by
  refine (r_iloadn f232_0 rfl).trans ?_
  refine (r_if_lt_f f232_1 ec0).trans ?_
  refine (r_iloadn f232_4 rfl).trans ?_
  refine (r_if_lt_f f232_5 ec1).trans ?_
  refine (r_iloadn f232_8 rfl).trans ?_
  refine (r_bipush (v := 100) f232_9 rfl).trans ?_
  refine (r_idiv (v := (x1 / 100)) f232_11 (by decide) rfl).trans ?_
  refine (r_iconst (v := 0) f232_12 rfl).trans ?_
  refine (r_bipush (v := 23) f232_13 rfl).trans ?_
  have hc1 : arun X (n + 37) (d + 2) zM196 0 [some (.int (x1 / 100)), some (.int 0), some (.int 23)] [] h = some ((some (.int 1)), h) := by
    refine (r_iloadn f196_0 rfl).trans ?_
    refine (r_iloadn f196_1 rfl).trans ?_
    refine (r_icmp_lt_f f196_2 em0).trans ?_
    refine (r_iloadn f196_5 rfl).trans ?_
    refine (r_iloadn f196_6 rfl).trans ?_
    refine (r_icmp_gt_f f196_7 em1).trans ?_
    refine (r_iconst (v := 1) f196_10 rfl).trans ?_
    refine (r_goto f196_11).trans ?_
    exact r_zreturn f196_15 rfl (by decide)
  refine (r_stat (as := [.int (x1 / 100), .int 0, .int 23]) (v := (some (.int 1))) (h1 := h) f232_15 rfl zg196 rfl rfl rfl rfl rfl rfl hc1).trans ?_
  refine (r_if_eq_f f232_18 (by decide)).trans ?_
  refine (r_iloadn f232_21 rfl).trans ?_
  refine (r_bipush (v := 100) f232_22 rfl).trans ?_
  refine (r_irem (v := (x1 - x1 / 100 * 100)) f232_24 (by decide) rfl).trans ?_
  refine (r_iconst (v := 0) f232_25 rfl).trans ?_
  refine (r_bipush (v := 23) f232_26 rfl).trans ?_
  have hc2 : arun X (n + 30) (d + 2) zM196 0 [some (.int (x1 - x1 / 100 * 100)), some (.int 0), some (.int 23)] [] h = some ((some (.int 1)), h) := by
    refine (r_iloadn f196_0 rfl).trans ?_
    refine (r_iloadn f196_1 rfl).trans ?_
    refine (r_icmp_lt_f f196_2 em2).trans ?_
    refine (r_iloadn f196_5 rfl).trans ?_
    refine (r_iloadn f196_6 rfl).trans ?_
    refine (r_icmp_gt_f f196_7 em3).trans ?_
    refine (r_iconst (v := 1) f196_10 rfl).trans ?_
    refine (r_goto f196_11).trans ?_
    exact r_zreturn f196_15 rfl (by decide)
  refine (r_stat (as := [.int (x1 - x1 / 100 * 100), .int 0, .int 23]) (v := (some (.int 1))) (h1 := h) f232_28 rfl zg196 rfl rfl rfl rfl rfl rfl hc2).trans ?_
  refine (r_if_eq_f f232_31 (by decide)).trans ?_
  refine (r_iloadn f232_34 rfl).trans ?_
  refine (r_bipush (v := 100) f232_35 rfl).trans ?_
  refine (r_idiv (v := (x2 / 100)) f232_37 (by decide) rfl).trans ?_
  refine (r_iloadn f232_38 rfl).trans ?_
  refine (r_bipush (v := 100) f232_39 rfl).trans ?_
  refine (r_idiv (v := (x1 / 100)) f232_41 (by decide) rfl).trans ?_
  refine (r_bipush (v := 23) f232_42 rfl).trans ?_
  have hc3 : arun X (n + 21) (d + 2) zM196 0 [some (.int (x2 / 100)), some (.int (x1 / 100)), some (.int 23)] [] h = some ((some (.int 1)), h) := by
    refine (r_iloadn f196_0 rfl).trans ?_
    refine (r_iloadn f196_1 rfl).trans ?_
    refine (r_icmp_lt_f f196_2 em4).trans ?_
    refine (r_iloadn f196_5 rfl).trans ?_
    refine (r_iloadn f196_6 rfl).trans ?_
    refine (r_icmp_gt_f f196_7 em5).trans ?_
    refine (r_iconst (v := 1) f196_10 rfl).trans ?_
    refine (r_goto f196_11).trans ?_
    exact r_zreturn f196_15 rfl (by decide)
  refine (r_stat (as := [.int (x2 / 100), .int (x1 / 100), .int 23]) (v := (some (.int 1))) (h1 := h) f232_44 rfl zg196 rfl rfl rfl rfl rfl rfl hc3).trans ?_
  refine (r_if_eq_f f232_47 (by decide)).trans ?_
  refine (r_iloadn f232_50 rfl).trans ?_
  refine (r_bipush (v := 100) f232_51 rfl).trans ?_
  refine (r_irem (v := (x2 - x2 / 100 * 100)) f232_53 (by decide) rfl).trans ?_
  refine (r_iloadn f232_54 rfl).trans ?_
  refine (r_bipush (v := 100) f232_55 rfl).trans ?_
  refine (r_irem (v := (x1 - x1 / 100 * 100)) f232_57 (by decide) rfl).trans ?_
  refine (r_bipush (v := 23) f232_58 rfl).trans ?_
  have hc4 : arun X (n + 12) (d + 2) zM196 0 [some (.int (x2 - x2 / 100 * 100)), some (.int (x1 - x1 / 100 * 100)), some (.int 23)] [] h = some ((some (.int 1)), h) := by
    refine (r_iloadn f196_0 rfl).trans ?_
    refine (r_iloadn f196_1 rfl).trans ?_
    refine (r_icmp_lt_f f196_2 em6).trans ?_
    refine (r_iloadn f196_5 rfl).trans ?_
    refine (r_iloadn f196_6 rfl).trans ?_
    refine (r_icmp_gt_f f196_7 em7).trans ?_
    refine (r_iconst (v := 1) f196_10 rfl).trans ?_
    refine (r_goto f196_11).trans ?_
    exact r_zreturn f196_15 rfl (by decide)
  refine (r_stat (as := [.int (x2 - x2 / 100 * 100), .int (x1 - x1 / 100 * 100), .int 23]) (v := (some (.int 1))) (h1 := h) f232_60 rfl zg196 rfl rfl rfl rfl rfl rfl hc4).trans ?_
  refine (r_if_eq_f f232_63 (by decide)).trans ?_
  refine (r_iloadn f232_66 rfl).trans ?_
  have hc5 : arun X (n + 9) (d + 2) zM197 0 [some (.int x3)] [] h = some ((some (.int 0)), h) := by
    refine (r_iloadn f197_0 rfl).trans ?_
    refine (r_iconst (v := 0) f197_1 rfl).trans ?_
    refine (r_sipush (v := 3649) f197_2 rfl).trans ?_
    have hc6 : arun X (n + 5) (d + 1) zM196 0 [some (.int x3), some (.int 0), some (.int 3649)] [] h = some ((some (.int 0)), h) := by
      refine (r_iloadn f196_0 rfl).trans ?_
      refine (r_iloadn f196_1 rfl).trans ?_
      refine (r_icmp_lt_t f196_2 ec2).trans ?_
      refine (r_iconst (v := 0) f196_14 rfl).trans ?_
      exact r_zreturn f196_15 rfl (by decide)
    refine (r_stat (as := [.int x3, .int 0, .int 3649]) (v := (some (.int 0))) (h1 := h) f197_5 rfl zg196 rfl rfl rfl rfl rfl rfl hc6).trans ?_
    exact r_zreturn f197_8 rfl (by decide)
  refine (r_stat (as := [.int x3]) (v := (some (.int 0))) (h1 := h) f232_67 rfl zg197 rfl rfl rfl rfl rfl rfl hc5).trans ?_
  refine (r_if_ne_f f232_70 (by decide)).trans ?_
  refine (r_iconst (v := (-1)) f232_73 rfl).trans ?_
  exact r_ireturn f232_74 rfl
set_option maxHeartbeats 40000000 in
theorem qc15_3 {X : aX} {n d : Nat} {h : aH} {x1 : Int32} {x2 : Int32} {x3 : Int32}  (ec0 : ¬ x1 < 0) (ec1 : ¬ x2 < 0) (ec2 : ¬ x3 < 0) (ec3 : 3649 < x3) : arun X (n + 18) (d + 3) zM159 0 [some (.ref 0), some (.int x1), some (.int x2), some (.int x3), none, none, none, none] [] h = some (some (.int (-1)), h) := by
  refine (r_iloadn f159_0 rfl).trans ?_
  refine (r_if_lt_f f159_1 ec0).trans ?_
  refine (r_iloadn f159_4 rfl).trans ?_
  refine (r_if_lt_f f159_5 ec1).trans ?_
  refine (r_iloadn f159_8 rfl).trans ?_
  have hc1 : arun X (n + 12) (d + 2) zM138 0 [some (.int x3)] [] h = some ((some (.int 0)), h) := by
    refine (r_iloadn f138_0 rfl).trans ?_
    refine (r_iconst (v := 0) f138_1 rfl).trans ?_
    refine (r_sipush (v := 3649) f138_2 rfl).trans ?_
    have hc2 : arun X (n + 8) (d + 1) zM137 0 [some (.int x3), some (.int 0), some (.int 3649)] [] h = some ((some (.int 0)), h) := by
      refine (r_iloadn f137_0 rfl).trans ?_
      refine (r_iloadn f137_1 rfl).trans ?_
      refine (r_icmp_gt_f f137_2 ec2).trans ?_
      refine (r_iloadn f137_5 rfl).trans ?_
      refine (r_iloadn f137_6 rfl).trans ?_
      refine (r_icmp_gt_t f137_7 ec3).trans ?_
      refine (r_iconst (v := 0) f137_14 rfl).trans ?_
      exact r_zreturn f137_15 rfl (by decide)
    refine (r_stat (as := [.int x3, .int 0, .int 3649]) (v := (some (.int 0))) (h1 := h) f138_5 rfl zg137 rfl rfl rfl rfl rfl rfl hc2).trans ?_
    exact r_zreturn f138_8 rfl (by decide)
  refine (r_stat (as := [.int x3]) (v := (some (.int 0))) (h1 := h) f159_9 rfl zg138 rfl rfl rfl rfl rfl rfl hc1).trans ?_
  refine (r_if_ne_f f159_12 (by decide)).trans ?_
  refine (r_iconst (v := (-1)) f159_15 rfl).trans ?_
  exact r_ireturn f159_16 rfl
set_option maxHeartbeats 40000000 in
theorem qm15_3_0 {X : aX} {n d : Nat} {h : aH} {x1 : Int32} {x2 : Int32} {x3 : Int32}  (ec0 : ¬ x1 < 0) (ec1 : ¬ x2 < 0) (em0 : (x1 / 100) < 0) : arun X (n + 15) (d + 2) zM232 0 [some (.ref 72), some (.int x1), some (.int x2), some (.int x3)] [] h = some (some (.int (-1)), h) := by
  refine (r_iloadn f232_0 rfl).trans ?_
  refine (r_if_lt_f f232_1 ec0).trans ?_
  refine (r_iloadn f232_4 rfl).trans ?_
  refine (r_if_lt_f f232_5 ec1).trans ?_
  refine (r_iloadn f232_8 rfl).trans ?_
  refine (r_bipush (v := 100) f232_9 rfl).trans ?_
  refine (r_idiv (v := (x1 / 100)) f232_11 (by decide) rfl).trans ?_
  refine (r_iconst (v := 0) f232_12 rfl).trans ?_
  refine (r_bipush (v := 23) f232_13 rfl).trans ?_
  have hc1 : arun X (n + 5) (d + 1) zM196 0 [some (.int (x1 / 100)), some (.int 0), some (.int 23)] [] h = some ((some (.int 0)), h) := by
    refine (r_iloadn f196_0 rfl).trans ?_
    refine (r_iloadn f196_1 rfl).trans ?_
    refine (r_icmp_lt_t f196_2 em0).trans ?_
    refine (r_iconst (v := 0) f196_14 rfl).trans ?_
    exact r_zreturn f196_15 rfl (by decide)
  refine (r_stat (as := [.int (x1 / 100), .int 0, .int 23]) (v := (some (.int 0))) (h1 := h) f232_15 rfl zg196 rfl rfl rfl rfl rfl rfl hc1).trans ?_
  refine (r_if_eq_t f232_18 (by decide)).trans ?_
  refine (r_iconst (v := (-1)) f232_73 rfl).trans ?_
  exact r_ireturn f232_74 rfl
set_option maxHeartbeats 40000000 in
theorem qm15_3_1 {X : aX} {n d : Nat} {h : aH} {x1 : Int32} {x2 : Int32} {x3 : Int32}  (ec0 : ¬ x1 < 0) (ec1 : ¬ x2 < 0) (em0 : ¬ (x1 / 100) < 0) (em1 : 23 < (x1 / 100)) : arun X (n + 18) (d + 2) zM232 0 [some (.ref 72), some (.int x1), some (.int x2), some (.int x3)] [] h = some (some (.int (-1)), h) := by
  refine (r_iloadn f232_0 rfl).trans ?_
  refine (r_if_lt_f f232_1 ec0).trans ?_
  refine (r_iloadn f232_4 rfl).trans ?_
  refine (r_if_lt_f f232_5 ec1).trans ?_
  refine (r_iloadn f232_8 rfl).trans ?_
  refine (r_bipush (v := 100) f232_9 rfl).trans ?_
  refine (r_idiv (v := (x1 / 100)) f232_11 (by decide) rfl).trans ?_
  refine (r_iconst (v := 0) f232_12 rfl).trans ?_
  refine (r_bipush (v := 23) f232_13 rfl).trans ?_
  have hc1 : arun X (n + 8) (d + 1) zM196 0 [some (.int (x1 / 100)), some (.int 0), some (.int 23)] [] h = some ((some (.int 0)), h) := by
    refine (r_iloadn f196_0 rfl).trans ?_
    refine (r_iloadn f196_1 rfl).trans ?_
    refine (r_icmp_lt_f f196_2 em0).trans ?_
    refine (r_iloadn f196_5 rfl).trans ?_
    refine (r_iloadn f196_6 rfl).trans ?_
    refine (r_icmp_gt_t f196_7 em1).trans ?_
    refine (r_iconst (v := 0) f196_14 rfl).trans ?_
    exact r_zreturn f196_15 rfl (by decide)
  refine (r_stat (as := [.int (x1 / 100), .int 0, .int 23]) (v := (some (.int 0))) (h1 := h) f232_15 rfl zg196 rfl rfl rfl rfl rfl rfl hc1).trans ?_
  refine (r_if_eq_t f232_18 (by decide)).trans ?_
  refine (r_iconst (v := (-1)) f232_73 rfl).trans ?_
  exact r_ireturn f232_74 rfl
set_option maxHeartbeats 40000000 in
theorem qm15_3_2 {X : aX} {n d : Nat} {h : aH} {x1 : Int32} {x2 : Int32} {x3 : Int32}  (ec0 : ¬ x1 < 0) (ec1 : ¬ x2 < 0) (em0 : ¬ (x1 / 100) < 0) (em1 : ¬ 23 < (x1 / 100)) (em2 : (x1 - x1 / 100 * 100) < 0) : arun X (n + 22) (d + 2) zM232 0 [some (.ref 72), some (.int x1), some (.int x2), some (.int x3)] [] h = some (some (.int (-1)), h) := by
  refine (r_iloadn f232_0 rfl).trans ?_
  refine (r_if_lt_f f232_1 ec0).trans ?_
  refine (r_iloadn f232_4 rfl).trans ?_
  refine (r_if_lt_f f232_5 ec1).trans ?_
  refine (r_iloadn f232_8 rfl).trans ?_
  refine (r_bipush (v := 100) f232_9 rfl).trans ?_
  refine (r_idiv (v := (x1 / 100)) f232_11 (by decide) rfl).trans ?_
  refine (r_iconst (v := 0) f232_12 rfl).trans ?_
  refine (r_bipush (v := 23) f232_13 rfl).trans ?_
  have hc1 : arun X (n + 12) (d + 1) zM196 0 [some (.int (x1 / 100)), some (.int 0), some (.int 23)] [] h = some ((some (.int 1)), h) := by
    refine (r_iloadn f196_0 rfl).trans ?_
    refine (r_iloadn f196_1 rfl).trans ?_
    refine (r_icmp_lt_f f196_2 em0).trans ?_
    refine (r_iloadn f196_5 rfl).trans ?_
    refine (r_iloadn f196_6 rfl).trans ?_
    refine (r_icmp_gt_f f196_7 em1).trans ?_
    refine (r_iconst (v := 1) f196_10 rfl).trans ?_
    refine (r_goto f196_11).trans ?_
    exact r_zreturn f196_15 rfl (by decide)
  refine (r_stat (as := [.int (x1 / 100), .int 0, .int 23]) (v := (some (.int 1))) (h1 := h) f232_15 rfl zg196 rfl rfl rfl rfl rfl rfl hc1).trans ?_
  refine (r_if_eq_f f232_18 (by decide)).trans ?_
  refine (r_iloadn f232_21 rfl).trans ?_
  refine (r_bipush (v := 100) f232_22 rfl).trans ?_
  refine (r_irem (v := (x1 - x1 / 100 * 100)) f232_24 (by decide) rfl).trans ?_
  refine (r_iconst (v := 0) f232_25 rfl).trans ?_
  refine (r_bipush (v := 23) f232_26 rfl).trans ?_
  have hc2 : arun X (n + 5) (d + 1) zM196 0 [some (.int (x1 - x1 / 100 * 100)), some (.int 0), some (.int 23)] [] h = some ((some (.int 0)), h) := by
    refine (r_iloadn f196_0 rfl).trans ?_
    refine (r_iloadn f196_1 rfl).trans ?_
    refine (r_icmp_lt_t f196_2 em2).trans ?_
    refine (r_iconst (v := 0) f196_14 rfl).trans ?_
    exact r_zreturn f196_15 rfl (by decide)
  refine (r_stat (as := [.int (x1 - x1 / 100 * 100), .int 0, .int 23]) (v := (some (.int 0))) (h1 := h) f232_28 rfl zg196 rfl rfl rfl rfl rfl rfl hc2).trans ?_
  refine (r_if_eq_t f232_31 (by decide)).trans ?_
  refine (r_iconst (v := (-1)) f232_73 rfl).trans ?_
  exact r_ireturn f232_74 rfl
set_option maxHeartbeats 40000000 in
theorem qm15_3_3 {X : aX} {n d : Nat} {h : aH} {x1 : Int32} {x2 : Int32} {x3 : Int32}  (ec0 : ¬ x1 < 0) (ec1 : ¬ x2 < 0) (em0 : ¬ (x1 / 100) < 0) (em1 : ¬ 23 < (x1 / 100)) (em2 : ¬ (x1 - x1 / 100 * 100) < 0) (em3 : 23 < (x1 - x1 / 100 * 100)) : arun X (n + 25) (d + 2) zM232 0 [some (.ref 72), some (.int x1), some (.int x2), some (.int x3)] [] h = some (some (.int (-1)), h) := by
  refine (r_iloadn f232_0 rfl).trans ?_
  refine (r_if_lt_f f232_1 ec0).trans ?_
  refine (r_iloadn f232_4 rfl).trans ?_
  refine (r_if_lt_f f232_5 ec1).trans ?_
  refine (r_iloadn f232_8 rfl).trans ?_
  refine (r_bipush (v := 100) f232_9 rfl).trans ?_
  refine (r_idiv (v := (x1 / 100)) f232_11 (by decide) rfl).trans ?_
  refine (r_iconst (v := 0) f232_12 rfl).trans ?_
  refine (r_bipush (v := 23) f232_13 rfl).trans ?_
  have hc1 : arun X (n + 15) (d + 1) zM196 0 [some (.int (x1 / 100)), some (.int 0), some (.int 23)] [] h = some ((some (.int 1)), h) := by
    refine (r_iloadn f196_0 rfl).trans ?_
    refine (r_iloadn f196_1 rfl).trans ?_
    refine (r_icmp_lt_f f196_2 em0).trans ?_
    refine (r_iloadn f196_5 rfl).trans ?_
    refine (r_iloadn f196_6 rfl).trans ?_
    refine (r_icmp_gt_f f196_7 em1).trans ?_
    refine (r_iconst (v := 1) f196_10 rfl).trans ?_
    refine (r_goto f196_11).trans ?_
    exact r_zreturn f196_15 rfl (by decide)
  refine (r_stat (as := [.int (x1 / 100), .int 0, .int 23]) (v := (some (.int 1))) (h1 := h) f232_15 rfl zg196 rfl rfl rfl rfl rfl rfl hc1).trans ?_
  refine (r_if_eq_f f232_18 (by decide)).trans ?_
  refine (r_iloadn f232_21 rfl).trans ?_
  refine (r_bipush (v := 100) f232_22 rfl).trans ?_
  refine (r_irem (v := (x1 - x1 / 100 * 100)) f232_24 (by decide) rfl).trans ?_
  refine (r_iconst (v := 0) f232_25 rfl).trans ?_
  refine (r_bipush (v := 23) f232_26 rfl).trans ?_
  have hc2 : arun X (n + 8) (d + 1) zM196 0 [some (.int (x1 - x1 / 100 * 100)), some (.int 0), some (.int 23)] [] h = some ((some (.int 0)), h) := by
    refine (r_iloadn f196_0 rfl).trans ?_
    refine (r_iloadn f196_1 rfl).trans ?_
    refine (r_icmp_lt_f f196_2 em2).trans ?_
    refine (r_iloadn f196_5 rfl).trans ?_
    refine (r_iloadn f196_6 rfl).trans ?_
    refine (r_icmp_gt_t f196_7 em3).trans ?_
    refine (r_iconst (v := 0) f196_14 rfl).trans ?_
    exact r_zreturn f196_15 rfl (by decide)
  refine (r_stat (as := [.int (x1 - x1 / 100 * 100), .int 0, .int 23]) (v := (some (.int 0))) (h1 := h) f232_28 rfl zg196 rfl rfl rfl rfl rfl rfl hc2).trans ?_
  refine (r_if_eq_t f232_31 (by decide)).trans ?_
  refine (r_iconst (v := (-1)) f232_73 rfl).trans ?_
  exact r_ireturn f232_74 rfl
set_option maxHeartbeats 40000000 in
theorem qm15_3_4 {X : aX} {n d : Nat} {h : aH} {x1 : Int32} {x2 : Int32} {x3 : Int32}  (ec0 : ¬ x1 < 0) (ec1 : ¬ x2 < 0) (em0 : ¬ (x1 / 100) < 0) (em1 : ¬ 23 < (x1 / 100)) (em2 : ¬ (x1 - x1 / 100 * 100) < 0) (em3 : ¬ 23 < (x1 - x1 / 100 * 100)) (em4 : (x2 / 100) < (x1 / 100)) : arun X (n + 31) (d + 2) zM232 0 [some (.ref 72), some (.int x1), some (.int x2), some (.int x3)] [] h = some (some (.int (-1)), h) := by
  refine (r_iloadn f232_0 rfl).trans ?_
  refine (r_if_lt_f f232_1 ec0).trans ?_
  refine (r_iloadn f232_4 rfl).trans ?_
  refine (r_if_lt_f f232_5 ec1).trans ?_
  refine (r_iloadn f232_8 rfl).trans ?_
  refine (r_bipush (v := 100) f232_9 rfl).trans ?_
  refine (r_idiv (v := (x1 / 100)) f232_11 (by decide) rfl).trans ?_
  refine (r_iconst (v := 0) f232_12 rfl).trans ?_
  refine (r_bipush (v := 23) f232_13 rfl).trans ?_
  have hc1 : arun X (n + 21) (d + 1) zM196 0 [some (.int (x1 / 100)), some (.int 0), some (.int 23)] [] h = some ((some (.int 1)), h) := by
    refine (r_iloadn f196_0 rfl).trans ?_
    refine (r_iloadn f196_1 rfl).trans ?_
    refine (r_icmp_lt_f f196_2 em0).trans ?_
    refine (r_iloadn f196_5 rfl).trans ?_
    refine (r_iloadn f196_6 rfl).trans ?_
    refine (r_icmp_gt_f f196_7 em1).trans ?_
    refine (r_iconst (v := 1) f196_10 rfl).trans ?_
    refine (r_goto f196_11).trans ?_
    exact r_zreturn f196_15 rfl (by decide)
  refine (r_stat (as := [.int (x1 / 100), .int 0, .int 23]) (v := (some (.int 1))) (h1 := h) f232_15 rfl zg196 rfl rfl rfl rfl rfl rfl hc1).trans ?_
  refine (r_if_eq_f f232_18 (by decide)).trans ?_
  refine (r_iloadn f232_21 rfl).trans ?_
  refine (r_bipush (v := 100) f232_22 rfl).trans ?_
  refine (r_irem (v := (x1 - x1 / 100 * 100)) f232_24 (by decide) rfl).trans ?_
  refine (r_iconst (v := 0) f232_25 rfl).trans ?_
  refine (r_bipush (v := 23) f232_26 rfl).trans ?_
  have hc2 : arun X (n + 14) (d + 1) zM196 0 [some (.int (x1 - x1 / 100 * 100)), some (.int 0), some (.int 23)] [] h = some ((some (.int 1)), h) := by
    refine (r_iloadn f196_0 rfl).trans ?_
    refine (r_iloadn f196_1 rfl).trans ?_
    refine (r_icmp_lt_f f196_2 em2).trans ?_
    refine (r_iloadn f196_5 rfl).trans ?_
    refine (r_iloadn f196_6 rfl).trans ?_
    refine (r_icmp_gt_f f196_7 em3).trans ?_
    refine (r_iconst (v := 1) f196_10 rfl).trans ?_
    refine (r_goto f196_11).trans ?_
    exact r_zreturn f196_15 rfl (by decide)
  refine (r_stat (as := [.int (x1 - x1 / 100 * 100), .int 0, .int 23]) (v := (some (.int 1))) (h1 := h) f232_28 rfl zg196 rfl rfl rfl rfl rfl rfl hc2).trans ?_
  refine (r_if_eq_f f232_31 (by decide)).trans ?_
  refine (r_iloadn f232_34 rfl).trans ?_
  refine (r_bipush (v := 100) f232_35 rfl).trans ?_
  refine (r_idiv (v := (x2 / 100)) f232_37 (by decide) rfl).trans ?_
  refine (r_iloadn f232_38 rfl).trans ?_
  refine (r_bipush (v := 100) f232_39 rfl).trans ?_
  refine (r_idiv (v := (x1 / 100)) f232_41 (by decide) rfl).trans ?_
  refine (r_bipush (v := 23) f232_42 rfl).trans ?_
  have hc3 : arun X (n + 5) (d + 1) zM196 0 [some (.int (x2 / 100)), some (.int (x1 / 100)), some (.int 23)] [] h = some ((some (.int 0)), h) := by
    refine (r_iloadn f196_0 rfl).trans ?_
    refine (r_iloadn f196_1 rfl).trans ?_
    refine (r_icmp_lt_t f196_2 em4).trans ?_
    refine (r_iconst (v := 0) f196_14 rfl).trans ?_
    exact r_zreturn f196_15 rfl (by decide)
  refine (r_stat (as := [.int (x2 / 100), .int (x1 / 100), .int 23]) (v := (some (.int 0))) (h1 := h) f232_44 rfl zg196 rfl rfl rfl rfl rfl rfl hc3).trans ?_
  refine (r_if_eq_t f232_47 (by decide)).trans ?_
  refine (r_iconst (v := (-1)) f232_73 rfl).trans ?_
  exact r_ireturn f232_74 rfl
set_option maxHeartbeats 40000000 in
theorem qm15_3_5 {X : aX} {n d : Nat} {h : aH} {x1 : Int32} {x2 : Int32} {x3 : Int32}  (ec0 : ¬ x1 < 0) (ec1 : ¬ x2 < 0) (em0 : ¬ (x1 / 100) < 0) (em1 : ¬ 23 < (x1 / 100)) (em2 : ¬ (x1 - x1 / 100 * 100) < 0) (em3 : ¬ 23 < (x1 - x1 / 100 * 100)) (em4 : ¬ (x2 / 100) < (x1 / 100)) (em5 : 23 < (x2 / 100)) : arun X (n + 34) (d + 2) zM232 0 [some (.ref 72), some (.int x1), some (.int x2), some (.int x3)] [] h = some (some (.int (-1)), h) := by
  refine (r_iloadn f232_0 rfl).trans ?_
  refine (r_if_lt_f f232_1 ec0).trans ?_
  refine (r_iloadn f232_4 rfl).trans ?_
  refine (r_if_lt_f f232_5 ec1).trans ?_
  refine (r_iloadn f232_8 rfl).trans ?_
  refine (r_bipush (v := 100) f232_9 rfl).trans ?_
  refine (r_idiv (v := (x1 / 100)) f232_11 (by decide) rfl).trans ?_
  refine (r_iconst (v := 0) f232_12 rfl).trans ?_
  refine (r_bipush (v := 23) f232_13 rfl).trans ?_
  have hc1 : arun X (n + 24) (d + 1) zM196 0 [some (.int (x1 / 100)), some (.int 0), some (.int 23)] [] h = some ((some (.int 1)), h) := by
    refine (r_iloadn f196_0 rfl).trans ?_
    refine (r_iloadn f196_1 rfl).trans ?_
    refine (r_icmp_lt_f f196_2 em0).trans ?_
    refine (r_iloadn f196_5 rfl).trans ?_
    refine (r_iloadn f196_6 rfl).trans ?_
    refine (r_icmp_gt_f f196_7 em1).trans ?_
    refine (r_iconst (v := 1) f196_10 rfl).trans ?_
    refine (r_goto f196_11).trans ?_
    exact r_zreturn f196_15 rfl (by decide)
  refine (r_stat (as := [.int (x1 / 100), .int 0, .int 23]) (v := (some (.int 1))) (h1 := h) f232_15 rfl zg196 rfl rfl rfl rfl rfl rfl hc1).trans ?_
  refine (r_if_eq_f f232_18 (by decide)).trans ?_
  refine (r_iloadn f232_21 rfl).trans ?_
  refine (r_bipush (v := 100) f232_22 rfl).trans ?_
  refine (r_irem (v := (x1 - x1 / 100 * 100)) f232_24 (by decide) rfl).trans ?_
  refine (r_iconst (v := 0) f232_25 rfl).trans ?_
  refine (r_bipush (v := 23) f232_26 rfl).trans ?_
  have hc2 : arun X (n + 17) (d + 1) zM196 0 [some (.int (x1 - x1 / 100 * 100)), some (.int 0), some (.int 23)] [] h = some ((some (.int 1)), h) := by
    refine (r_iloadn f196_0 rfl).trans ?_
    refine (r_iloadn f196_1 rfl).trans ?_
    refine (r_icmp_lt_f f196_2 em2).trans ?_
    refine (r_iloadn f196_5 rfl).trans ?_
    refine (r_iloadn f196_6 rfl).trans ?_
    refine (r_icmp_gt_f f196_7 em3).trans ?_
    refine (r_iconst (v := 1) f196_10 rfl).trans ?_
    refine (r_goto f196_11).trans ?_
    exact r_zreturn f196_15 rfl (by decide)
  refine (r_stat (as := [.int (x1 - x1 / 100 * 100), .int 0, .int 23]) (v := (some (.int 1))) (h1 := h) f232_28 rfl zg196 rfl rfl rfl rfl rfl rfl hc2).trans ?_
  refine (r_if_eq_f f232_31 (by decide)).trans ?_
  refine (r_iloadn f232_34 rfl).trans ?_
  refine (r_bipush (v := 100) f232_35 rfl).trans ?_
  refine (r_idiv (v := (x2 / 100)) f232_37 (by decide) rfl).trans ?_
  refine (r_iloadn f232_38 rfl).trans ?_
  refine (r_bipush (v := 100) f232_39 rfl).trans ?_
  refine (r_idiv (v := (x1 / 100)) f232_41 (by decide) rfl).trans ?_
  refine (r_bipush (v := 23) f232_42 rfl).trans ?_
  have hc3 : arun X (n + 8) (d + 1) zM196 0 [some (.int (x2 / 100)), some (.int (x1 / 100)), some (.int 23)] [] h = some ((some (.int 0)), h) := by
    refine (r_iloadn f196_0 rfl).trans ?_
    refine (r_iloadn f196_1 rfl).trans ?_
    refine (r_icmp_lt_f f196_2 em4).trans ?_
    refine (r_iloadn f196_5 rfl).trans ?_
    refine (r_iloadn f196_6 rfl).trans ?_
    refine (r_icmp_gt_t f196_7 em5).trans ?_
    refine (r_iconst (v := 0) f196_14 rfl).trans ?_
    exact r_zreturn f196_15 rfl (by decide)
  refine (r_stat (as := [.int (x2 / 100), .int (x1 / 100), .int 23]) (v := (some (.int 0))) (h1 := h) f232_44 rfl zg196 rfl rfl rfl rfl rfl rfl hc3).trans ?_
  refine (r_if_eq_t f232_47 (by decide)).trans ?_
  refine (r_iconst (v := (-1)) f232_73 rfl).trans ?_
  exact r_ireturn f232_74 rfl
set_option maxHeartbeats 40000000 in
theorem qm15_3_6 {X : aX} {n d : Nat} {h : aH} {x1 : Int32} {x2 : Int32} {x3 : Int32}  (ec0 : ¬ x1 < 0) (ec1 : ¬ x2 < 0) (em0 : ¬ (x1 / 100) < 0) (em1 : ¬ 23 < (x1 / 100)) (em2 : ¬ (x1 - x1 / 100 * 100) < 0) (em3 : ¬ 23 < (x1 - x1 / 100 * 100)) (em4 : ¬ (x2 / 100) < (x1 / 100)) (em5 : ¬ 23 < (x2 / 100)) (em6 : (x2 - x2 / 100 * 100) < (x1 - x1 / 100 * 100)) : arun X (n + 40) (d + 2) zM232 0 [some (.ref 72), some (.int x1), some (.int x2), some (.int x3)] [] h = some (some (.int (-1)), h) := by
  refine (r_iloadn f232_0 rfl).trans ?_
  refine (r_if_lt_f f232_1 ec0).trans ?_
  refine (r_iloadn f232_4 rfl).trans ?_
  refine (r_if_lt_f f232_5 ec1).trans ?_
  refine (r_iloadn f232_8 rfl).trans ?_
  refine (r_bipush (v := 100) f232_9 rfl).trans ?_
  refine (r_idiv (v := (x1 / 100)) f232_11 (by decide) rfl).trans ?_
  refine (r_iconst (v := 0) f232_12 rfl).trans ?_
  refine (r_bipush (v := 23) f232_13 rfl).trans ?_
  have hc1 : arun X (n + 30) (d + 1) zM196 0 [some (.int (x1 / 100)), some (.int 0), some (.int 23)] [] h = some ((some (.int 1)), h) := by
    refine (r_iloadn f196_0 rfl).trans ?_
    refine (r_iloadn f196_1 rfl).trans ?_
    refine (r_icmp_lt_f f196_2 em0).trans ?_
    refine (r_iloadn f196_5 rfl).trans ?_
    refine (r_iloadn f196_6 rfl).trans ?_
    refine (r_icmp_gt_f f196_7 em1).trans ?_
    refine (r_iconst (v := 1) f196_10 rfl).trans ?_
    refine (r_goto f196_11).trans ?_
    exact r_zreturn f196_15 rfl (by decide)
  refine (r_stat (as := [.int (x1 / 100), .int 0, .int 23]) (v := (some (.int 1))) (h1 := h) f232_15 rfl zg196 rfl rfl rfl rfl rfl rfl hc1).trans ?_
  refine (r_if_eq_f f232_18 (by decide)).trans ?_
  refine (r_iloadn f232_21 rfl).trans ?_
  refine (r_bipush (v := 100) f232_22 rfl).trans ?_
  refine (r_irem (v := (x1 - x1 / 100 * 100)) f232_24 (by decide) rfl).trans ?_
  refine (r_iconst (v := 0) f232_25 rfl).trans ?_
  refine (r_bipush (v := 23) f232_26 rfl).trans ?_
  have hc2 : arun X (n + 23) (d + 1) zM196 0 [some (.int (x1 - x1 / 100 * 100)), some (.int 0), some (.int 23)] [] h = some ((some (.int 1)), h) := by
    refine (r_iloadn f196_0 rfl).trans ?_
    refine (r_iloadn f196_1 rfl).trans ?_
    refine (r_icmp_lt_f f196_2 em2).trans ?_
    refine (r_iloadn f196_5 rfl).trans ?_
    refine (r_iloadn f196_6 rfl).trans ?_
    refine (r_icmp_gt_f f196_7 em3).trans ?_
    refine (r_iconst (v := 1) f196_10 rfl).trans ?_
    refine (r_goto f196_11).trans ?_
    exact r_zreturn f196_15 rfl (by decide)
  refine (r_stat (as := [.int (x1 - x1 / 100 * 100), .int 0, .int 23]) (v := (some (.int 1))) (h1 := h) f232_28 rfl zg196 rfl rfl rfl rfl rfl rfl hc2).trans ?_
  refine (r_if_eq_f f232_31 (by decide)).trans ?_
  refine (r_iloadn f232_34 rfl).trans ?_
  refine (r_bipush (v := 100) f232_35 rfl).trans ?_
  refine (r_idiv (v := (x2 / 100)) f232_37 (by decide) rfl).trans ?_
  refine (r_iloadn f232_38 rfl).trans ?_
  refine (r_bipush (v := 100) f232_39 rfl).trans ?_
  refine (r_idiv (v := (x1 / 100)) f232_41 (by decide) rfl).trans ?_
  refine (r_bipush (v := 23) f232_42 rfl).trans ?_
  have hc3 : arun X (n + 14) (d + 1) zM196 0 [some (.int (x2 / 100)), some (.int (x1 / 100)), some (.int 23)] [] h = some ((some (.int 1)), h) := by
    refine (r_iloadn f196_0 rfl).trans ?_
    refine (r_iloadn f196_1 rfl).trans ?_
    refine (r_icmp_lt_f f196_2 em4).trans ?_
    refine (r_iloadn f196_5 rfl).trans ?_
    refine (r_iloadn f196_6 rfl).trans ?_
    refine (r_icmp_gt_f f196_7 em5).trans ?_
    refine (r_iconst (v := 1) f196_10 rfl).trans ?_
    refine (r_goto f196_11).trans ?_
    exact r_zreturn f196_15 rfl (by decide)
  refine (r_stat (as := [.int (x2 / 100), .int (x1 / 100), .int 23]) (v := (some (.int 1))) (h1 := h) f232_44 rfl zg196 rfl rfl rfl rfl rfl rfl hc3).trans ?_
  refine (r_if_eq_f f232_47 (by decide)).trans ?_
  refine (r_iloadn f232_50 rfl).trans ?_
  refine (r_bipush (v := 100) f232_51 rfl).trans ?_
  refine (r_irem (v := (x2 - x2 / 100 * 100)) f232_53 (by decide) rfl).trans ?_
  refine (r_iloadn f232_54 rfl).trans ?_
  refine (r_bipush (v := 100) f232_55 rfl).trans ?_
  refine (r_irem (v := (x1 - x1 / 100 * 100)) f232_57 (by decide) rfl).trans ?_
  refine (r_bipush (v := 23) f232_58 rfl).trans ?_
  have hc4 : arun X (n + 5) (d + 1) zM196 0 [some (.int (x2 - x2 / 100 * 100)), some (.int (x1 - x1 / 100 * 100)), some (.int 23)] [] h = some ((some (.int 0)), h) := by
    refine (r_iloadn f196_0 rfl).trans ?_
    refine (r_iloadn f196_1 rfl).trans ?_
    refine (r_icmp_lt_t f196_2 em6).trans ?_
    refine (r_iconst (v := 0) f196_14 rfl).trans ?_
    exact r_zreturn f196_15 rfl (by decide)
  refine (r_stat (as := [.int (x2 - x2 / 100 * 100), .int (x1 - x1 / 100 * 100), .int 23]) (v := (some (.int 0))) (h1 := h) f232_60 rfl zg196 rfl rfl rfl rfl rfl rfl hc4).trans ?_
  refine (r_if_eq_t f232_63 (by decide)).trans ?_
  refine (r_iconst (v := (-1)) f232_73 rfl).trans ?_
  exact r_ireturn f232_74 rfl
set_option maxHeartbeats 40000000 in
theorem qm15_3_7 {X : aX} {n d : Nat} {h : aH} {x1 : Int32} {x2 : Int32} {x3 : Int32}  (ec0 : ¬ x1 < 0) (ec1 : ¬ x2 < 0) (em0 : ¬ (x1 / 100) < 0) (em1 : ¬ 23 < (x1 / 100)) (em2 : ¬ (x1 - x1 / 100 * 100) < 0) (em3 : ¬ 23 < (x1 - x1 / 100 * 100)) (em4 : ¬ (x2 / 100) < (x1 / 100)) (em5 : ¬ 23 < (x2 / 100)) (em6 : ¬ (x2 - x2 / 100 * 100) < (x1 - x1 / 100 * 100)) (em7 : 23 < (x2 - x2 / 100 * 100)) : arun X (n + 43) (d + 2) zM232 0 [some (.ref 72), some (.int x1), some (.int x2), some (.int x3)] [] h = some (some (.int (-1)), h) := by
  refine (r_iloadn f232_0 rfl).trans ?_
  refine (r_if_lt_f f232_1 ec0).trans ?_
  refine (r_iloadn f232_4 rfl).trans ?_
  refine (r_if_lt_f f232_5 ec1).trans ?_
  refine (r_iloadn f232_8 rfl).trans ?_
  refine (r_bipush (v := 100) f232_9 rfl).trans ?_
  refine (r_idiv (v := (x1 / 100)) f232_11 (by decide) rfl).trans ?_
  refine (r_iconst (v := 0) f232_12 rfl).trans ?_
  refine (r_bipush (v := 23) f232_13 rfl).trans ?_
  have hc1 : arun X (n + 33) (d + 1) zM196 0 [some (.int (x1 / 100)), some (.int 0), some (.int 23)] [] h = some ((some (.int 1)), h) := by
    refine (r_iloadn f196_0 rfl).trans ?_
    refine (r_iloadn f196_1 rfl).trans ?_
    refine (r_icmp_lt_f f196_2 em0).trans ?_
    refine (r_iloadn f196_5 rfl).trans ?_
    refine (r_iloadn f196_6 rfl).trans ?_
    refine (r_icmp_gt_f f196_7 em1).trans ?_
    refine (r_iconst (v := 1) f196_10 rfl).trans ?_
    refine (r_goto f196_11).trans ?_
    exact r_zreturn f196_15 rfl (by decide)
  refine (r_stat (as := [.int (x1 / 100), .int 0, .int 23]) (v := (some (.int 1))) (h1 := h) f232_15 rfl zg196 rfl rfl rfl rfl rfl rfl hc1).trans ?_
  refine (r_if_eq_f f232_18 (by decide)).trans ?_
  refine (r_iloadn f232_21 rfl).trans ?_
  refine (r_bipush (v := 100) f232_22 rfl).trans ?_
  refine (r_irem (v := (x1 - x1 / 100 * 100)) f232_24 (by decide) rfl).trans ?_
  refine (r_iconst (v := 0) f232_25 rfl).trans ?_
  refine (r_bipush (v := 23) f232_26 rfl).trans ?_
  have hc2 : arun X (n + 26) (d + 1) zM196 0 [some (.int (x1 - x1 / 100 * 100)), some (.int 0), some (.int 23)] [] h = some ((some (.int 1)), h) := by
    refine (r_iloadn f196_0 rfl).trans ?_
    refine (r_iloadn f196_1 rfl).trans ?_
    refine (r_icmp_lt_f f196_2 em2).trans ?_
    refine (r_iloadn f196_5 rfl).trans ?_
    refine (r_iloadn f196_6 rfl).trans ?_
    refine (r_icmp_gt_f f196_7 em3).trans ?_
    refine (r_iconst (v := 1) f196_10 rfl).trans ?_
    refine (r_goto f196_11).trans ?_
    exact r_zreturn f196_15 rfl (by decide)
  refine (r_stat (as := [.int (x1 - x1 / 100 * 100), .int 0, .int 23]) (v := (some (.int 1))) (h1 := h) f232_28 rfl zg196 rfl rfl rfl rfl rfl rfl hc2).trans ?_
  refine (r_if_eq_f f232_31 (by decide)).trans ?_
  refine (r_iloadn f232_34 rfl).trans ?_
  refine (r_bipush (v := 100) f232_35 rfl).trans ?_
  refine (r_idiv (v := (x2 / 100)) f232_37 (by decide) rfl).trans ?_
  refine (r_iloadn f232_38 rfl).trans ?_
  refine (r_bipush (v := 100) f232_39 rfl).trans ?_
  refine (r_idiv (v := (x1 / 100)) f232_41 (by decide) rfl).trans ?_
  refine (r_bipush (v := 23) f232_42 rfl).trans ?_
  have hc3 : arun X (n + 17) (d + 1) zM196 0 [some (.int (x2 / 100)), some (.int (x1 / 100)), some (.int 23)] [] h = some ((some (.int 1)), h) := by
    refine (r_iloadn f196_0 rfl).trans ?_
    refine (r_iloadn f196_1 rfl).trans ?_
    refine (r_icmp_lt_f f196_2 em4).trans ?_
    refine (r_iloadn f196_5 rfl).trans ?_
    refine (r_iloadn f196_6 rfl).trans ?_
    refine (r_icmp_gt_f f196_7 em5).trans ?_
    refine (r_iconst (v := 1) f196_10 rfl).trans ?_
    refine (r_goto f196_11).trans ?_
    exact r_zreturn f196_15 rfl (by decide)
  refine (r_stat (as := [.int (x2 / 100), .int (x1 / 100), .int 23]) (v := (some (.int 1))) (h1 := h) f232_44 rfl zg196 rfl rfl rfl rfl rfl rfl hc3).trans ?_
  refine (r_if_eq_f f232_47 (by decide)).trans ?_
  refine (r_iloadn f232_50 rfl).trans ?_
  refine (r_bipush (v := 100) f232_51 rfl).trans ?_
  refine (r_irem (v := (x2 - x2 / 100 * 100)) f232_53 (by decide) rfl).trans ?_
  refine (r_iloadn f232_54 rfl).trans ?_
  refine (r_bipush (v := 100) f232_55 rfl).trans ?_
  refine (r_irem (v := (x1 - x1 / 100 * 100)) f232_57 (by decide) rfl).trans ?_
  refine (r_bipush (v := 23) f232_58 rfl).trans ?_
  have hc4 : arun X (n + 8) (d + 1) zM196 0 [some (.int (x2 - x2 / 100 * 100)), some (.int (x1 - x1 / 100 * 100)), some (.int 23)] [] h = some ((some (.int 0)), h) := by
    refine (r_iloadn f196_0 rfl).trans ?_
    refine (r_iloadn f196_1 rfl).trans ?_
    refine (r_icmp_lt_f f196_2 em6).trans ?_
    refine (r_iloadn f196_5 rfl).trans ?_
    refine (r_iloadn f196_6 rfl).trans ?_
    refine (r_icmp_gt_t f196_7 em7).trans ?_
    refine (r_iconst (v := 0) f196_14 rfl).trans ?_
    exact r_zreturn f196_15 rfl (by decide)
  refine (r_stat (as := [.int (x2 - x2 / 100 * 100), .int (x1 - x1 / 100 * 100), .int 23]) (v := (some (.int 0))) (h1 := h) f232_60 rfl zg196 rfl rfl rfl rfl rfl rfl hc4).trans ?_
  refine (r_if_eq_t f232_63 (by decide)).trans ?_
  refine (r_iconst (v := (-1)) f232_73 rfl).trans ?_
  exact r_ireturn f232_74 rfl
set_option maxHeartbeats 40000000 in
theorem qm15_3_8 {X : aX} {n d : Nat} {h : aH} {x1 : Int32} {x2 : Int32} {x3 : Int32}  (ec0 : ¬ x1 < 0) (ec1 : ¬ x2 < 0) (ec2 : ¬ x3 < 0) (ec3 : 3649 < x3) (em0 : ¬ (x1 / 100) < 0) (em1 : ¬ 23 < (x1 / 100)) (em2 : ¬ (x1 - x1 / 100 * 100) < 0) (em3 : ¬ 23 < (x1 - x1 / 100 * 100)) (em4 : ¬ (x2 / 100) < (x1 / 100)) (em5 : ¬ 23 < (x2 / 100)) (em6 : ¬ (x2 - x2 / 100 * 100) < (x1 - x1 / 100 * 100)) (em7 : ¬ 23 < (x2 - x2 / 100 * 100)) : arun X (n + 50) (d + 3) zM232 0 [some (.ref 72), some (.int x1), some (.int x2), some (.int x3)] [] h = some (some (.int (-1)), h) := by
  refine (r_iloadn f232_0 rfl).trans ?_
  refine (r_if_lt_f f232_1 ec0).trans ?_
  refine (r_iloadn f232_4 rfl).trans ?_
  refine (r_if_lt_f f232_5 ec1).trans ?_
  refine (r_iloadn f232_8 rfl).trans ?_
  refine (r_bipush (v := 100) f232_9 rfl).trans ?_
  refine (r_idiv (v := (x1 / 100)) f232_11 (by decide) rfl).trans ?_
  refine (r_iconst (v := 0) f232_12 rfl).trans ?_
  refine (r_bipush (v := 23) f232_13 rfl).trans ?_
  have hc1 : arun X (n + 40) (d + 2) zM196 0 [some (.int (x1 / 100)), some (.int 0), some (.int 23)] [] h = some ((some (.int 1)), h) := by
    refine (r_iloadn f196_0 rfl).trans ?_
    refine (r_iloadn f196_1 rfl).trans ?_
    refine (r_icmp_lt_f f196_2 em0).trans ?_
    refine (r_iloadn f196_5 rfl).trans ?_
    refine (r_iloadn f196_6 rfl).trans ?_
    refine (r_icmp_gt_f f196_7 em1).trans ?_
    refine (r_iconst (v := 1) f196_10 rfl).trans ?_
    refine (r_goto f196_11).trans ?_
    exact r_zreturn f196_15 rfl (by decide)
  refine (r_stat (as := [.int (x1 / 100), .int 0, .int 23]) (v := (some (.int 1))) (h1 := h) f232_15 rfl zg196 rfl rfl rfl rfl rfl rfl hc1).trans ?_
  refine (r_if_eq_f f232_18 (by decide)).trans ?_
  refine (r_iloadn f232_21 rfl).trans ?_
  refine (r_bipush (v := 100) f232_22 rfl).trans ?_
  refine (r_irem (v := (x1 - x1 / 100 * 100)) f232_24 (by decide) rfl).trans ?_
  refine (r_iconst (v := 0) f232_25 rfl).trans ?_
  refine (r_bipush (v := 23) f232_26 rfl).trans ?_
  have hc2 : arun X (n + 33) (d + 2) zM196 0 [some (.int (x1 - x1 / 100 * 100)), some (.int 0), some (.int 23)] [] h = some ((some (.int 1)), h) := by
    refine (r_iloadn f196_0 rfl).trans ?_
    refine (r_iloadn f196_1 rfl).trans ?_
    refine (r_icmp_lt_f f196_2 em2).trans ?_
    refine (r_iloadn f196_5 rfl).trans ?_
    refine (r_iloadn f196_6 rfl).trans ?_
    refine (r_icmp_gt_f f196_7 em3).trans ?_
    refine (r_iconst (v := 1) f196_10 rfl).trans ?_
    refine (r_goto f196_11).trans ?_
    exact r_zreturn f196_15 rfl (by decide)
  refine (r_stat (as := [.int (x1 - x1 / 100 * 100), .int 0, .int 23]) (v := (some (.int 1))) (h1 := h) f232_28 rfl zg196 rfl rfl rfl rfl rfl rfl hc2).trans ?_
  refine (r_if_eq_f f232_31 (by decide)).trans ?_
  refine (r_iloadn f232_34 rfl).trans ?_
  refine (r_bipush (v := 100) f232_35 rfl).trans ?_
  refine (r_idiv (v := (x2 / 100)) f232_37 (by decide) rfl).trans ?_
  refine (r_iloadn f232_38 rfl).trans ?_
  refine (r_bipush (v := 100) f232_39 rfl).trans ?_
  refine (r_idiv (v := (x1 / 100)) f232_41 (by decide) rfl).trans ?_
  refine (r_bipush (v := 23) f232_42 rfl).trans ?_
  have hc3 : arun X (n + 24) (d + 2) zM196 0 [some (.int (x2 / 100)), some (.int (x1 / 100)), some (.int 23)] [] h = some ((some (.int 1)), h) := by
    refine (r_iloadn f196_0 rfl).trans ?_
    refine (r_iloadn f196_1 rfl).trans ?_
    refine (r_icmp_lt_f f196_2 em4).trans ?_
    refine (r_iloadn f196_5 rfl).trans ?_
    refine (r_iloadn f196_6 rfl).trans ?_
    refine (r_icmp_gt_f f196_7 em5).trans ?_
    refine (r_iconst (v := 1) f196_10 rfl).trans ?_
    refine (r_goto f196_11).trans ?_
    exact r_zreturn f196_15 rfl (by decide)
  refine (r_stat (as := [.int (x2 / 100), .int (x1 / 100), .int 23]) (v := (some (.int 1))) (h1 := h) f232_44 rfl zg196 rfl rfl rfl rfl rfl rfl hc3).trans ?_
  refine (r_if_eq_f f232_47 (by decide)).trans ?_
  refine (r_iloadn f232_50 rfl).trans ?_
  refine (r_bipush (v := 100) f232_51 rfl).trans ?_
  refine (r_irem (v := (x2 - x2 / 100 * 100)) f232_53 (by decide) rfl).trans ?_
  refine (r_iloadn f232_54 rfl).trans ?_
  refine (r_bipush (v := 100) f232_55 rfl).trans ?_
  refine (r_irem (v := (x1 - x1 / 100 * 100)) f232_57 (by decide) rfl).trans ?_
  refine (r_bipush (v := 23) f232_58 rfl).trans ?_
  have hc4 : arun X (n + 15) (d + 2) zM196 0 [some (.int (x2 - x2 / 100 * 100)), some (.int (x1 - x1 / 100 * 100)), some (.int 23)] [] h = some ((some (.int 1)), h) := by
    refine (r_iloadn f196_0 rfl).trans ?_
    refine (r_iloadn f196_1 rfl).trans ?_
    refine (r_icmp_lt_f f196_2 em6).trans ?_
    refine (r_iloadn f196_5 rfl).trans ?_
    refine (r_iloadn f196_6 rfl).trans ?_
    refine (r_icmp_gt_f f196_7 em7).trans ?_
    refine (r_iconst (v := 1) f196_10 rfl).trans ?_
    refine (r_goto f196_11).trans ?_
    exact r_zreturn f196_15 rfl (by decide)
  refine (r_stat (as := [.int (x2 - x2 / 100 * 100), .int (x1 - x1 / 100 * 100), .int 23]) (v := (some (.int 1))) (h1 := h) f232_60 rfl zg196 rfl rfl rfl rfl rfl rfl hc4).trans ?_
  refine (r_if_eq_f f232_63 (by decide)).trans ?_
  refine (r_iloadn f232_66 rfl).trans ?_
  have hc5 : arun X (n + 12) (d + 2) zM197 0 [some (.int x3)] [] h = some ((some (.int 0)), h) := by
    refine (r_iloadn f197_0 rfl).trans ?_
    refine (r_iconst (v := 0) f197_1 rfl).trans ?_
    refine (r_sipush (v := 3649) f197_2 rfl).trans ?_
    have hc6 : arun X (n + 8) (d + 1) zM196 0 [some (.int x3), some (.int 0), some (.int 3649)] [] h = some ((some (.int 0)), h) := by
      refine (r_iloadn f196_0 rfl).trans ?_
      refine (r_iloadn f196_1 rfl).trans ?_
      refine (r_icmp_lt_f f196_2 ec2).trans ?_
      refine (r_iloadn f196_5 rfl).trans ?_
      refine (r_iloadn f196_6 rfl).trans ?_
      refine (r_icmp_gt_t f196_7 ec3).trans ?_
      refine (r_iconst (v := 0) f196_14 rfl).trans ?_
      exact r_zreturn f196_15 rfl (by decide)
    refine (r_stat (as := [.int x3, .int 0, .int 3649]) (v := (some (.int 0))) (h1 := h) f197_5 rfl zg196 rfl rfl rfl rfl rfl rfl hc6).trans ?_
    exact r_zreturn f197_8 rfl (by decide)
  refine (r_stat (as := [.int x3]) (v := (some (.int 0))) (h1 := h) f232_67 rfl zg197 rfl rfl rfl rfl rfl rfl hc5).trans ?_
  refine (r_if_ne_f f232_70 (by decide)).trans ?_
  refine (r_iconst (v := (-1)) f232_73 rfl).trans ?_
  exact r_ireturn f232_74 rfl
set_option maxHeartbeats 40000000 in
theorem qc15_4 {X : aX} {n d : Nat} {h : aH} {x1 : Int32} {x2 : Int32} {x3 : Int32}  (ec0 : ¬ x1 < 0) (ec1 : ¬ x2 < 0) (ec2 : ¬ x3 < 0) (ec3 : ¬ 3649 < x3) (ec4 : (x2 / 100) < (x1 / 100)) : arun X (n + 28) (d + 3) zM159 0 [some (.ref 0), some (.int x1), some (.int x2), some (.int x3), none, none, none, none] [] h = some (some (.int (-1)), h) := by
  refine (r_iloadn f159_0 rfl).trans ?_
  refine (r_if_lt_f f159_1 ec0).trans ?_
  refine (r_iloadn f159_4 rfl).trans ?_
  refine (r_if_lt_f f159_5 ec1).trans ?_
  refine (r_iloadn f159_8 rfl).trans ?_
  have hc1 : arun X (n + 22) (d + 2) zM138 0 [some (.int x3)] [] h = some ((some (.int 1)), h) := by
    refine (r_iloadn f138_0 rfl).trans ?_
    refine (r_iconst (v := 0) f138_1 rfl).trans ?_
    refine (r_sipush (v := 3649) f138_2 rfl).trans ?_
    have hc2 : arun X (n + 18) (d + 1) zM137 0 [some (.int x3), some (.int 0), some (.int 3649)] [] h = some ((some (.int 1)), h) := by
      refine (r_iloadn f137_0 rfl).trans ?_
      refine (r_iloadn f137_1 rfl).trans ?_
      refine (r_icmp_gt_f f137_2 ec2).trans ?_
      refine (r_iloadn f137_5 rfl).trans ?_
      refine (r_iloadn f137_6 rfl).trans ?_
      refine (r_icmp_gt_f f137_7 ec3).trans ?_
      refine (r_iconst (v := 1) f137_10 rfl).trans ?_
      refine (r_goto f137_11).trans ?_
      exact r_zreturn f137_15 rfl (by decide)
    refine (r_stat (as := [.int x3, .int 0, .int 3649]) (v := (some (.int 1))) (h1 := h) f138_5 rfl zg137 rfl rfl rfl rfl rfl rfl hc2).trans ?_
    exact r_zreturn f138_8 rfl (by decide)
  refine (r_stat (as := [.int x3]) (v := (some (.int 1))) (h1 := h) f159_9 rfl zg138 rfl rfl rfl rfl rfl rfl hc1).trans ?_
  refine (r_if_ne_t f159_12 (by decide)).trans ?_
  refine (r_iloadn f159_17 rfl).trans ?_
  refine (r_bipush (v := 100) f159_18 rfl).trans ?_
  refine (r_idiv (v := (x1 / 100)) f159_20 (by decide) rfl).trans ?_
  refine (r_istore (L' := [some (.ref 0), some (.int x1), some (.int x2), some (.int x3), some (.int (x1 / 100)), none, none, none]) f159_21 rfl rfl).trans ?_
  refine (r_iloadn f159_23 rfl).trans ?_
  refine (r_bipush (v := 100) f159_24 rfl).trans ?_
  refine (r_irem (v := (x1 - x1 / 100 * 100)) f159_26 (by decide) rfl).trans ?_
  refine (r_istore (L' := [some (.ref 0), some (.int x1), some (.int x2), some (.int x3), some (.int (x1 / 100)), some (.int (x1 - x1 / 100 * 100)), none, none]) f159_27 rfl rfl).trans ?_
  refine (r_iloadn f159_29 rfl).trans ?_
  refine (r_bipush (v := 100) f159_30 rfl).trans ?_
  refine (r_idiv (v := (x2 / 100)) f159_32 (by decide) rfl).trans ?_
  refine (r_istore (L' := [some (.ref 0), some (.int x1), some (.int x2), some (.int x3), some (.int (x1 / 100)), some (.int (x1 - x1 / 100 * 100)), some (.int (x2 / 100)), none]) f159_33 rfl rfl).trans ?_
  refine (r_iloadn f159_35 rfl).trans ?_
  refine (r_bipush (v := 100) f159_36 rfl).trans ?_
  refine (r_irem (v := (x2 - x2 / 100 * 100)) f159_38 (by decide) rfl).trans ?_
  refine (r_istore (L' := [some (.ref 0), some (.int x1), some (.int x2), some (.int x3), some (.int (x1 / 100)), some (.int (x1 - x1 / 100 * 100)), some (.int (x2 / 100)), some (.int (x2 - x2 / 100 * 100))]) f159_39 rfl rfl).trans ?_
  refine (r_iload f159_41 rfl).trans ?_
  refine (r_iload f159_43 rfl).trans ?_
  refine (r_icmp_gt_t f159_45 ec4).trans ?_
  refine (r_iconst (v := (-1)) f159_69 rfl).trans ?_
  exact r_ireturn f159_70 rfl
set_option maxHeartbeats 40000000 in
theorem qm15_4_0 {X : aX} {n d : Nat} {h : aH} {x1 : Int32} {x2 : Int32} {x3 : Int32}  (ec0 : ¬ x1 < 0) (ec1 : ¬ x2 < 0) (em0 : (x1 / 100) < 0) : arun X (n + 15) (d + 2) zM232 0 [some (.ref 72), some (.int x1), some (.int x2), some (.int x3)] [] h = some (some (.int (-1)), h) := by
  refine (r_iloadn f232_0 rfl).trans ?_
  refine (r_if_lt_f f232_1 ec0).trans ?_
  refine (r_iloadn f232_4 rfl).trans ?_
  refine (r_if_lt_f f232_5 ec1).trans ?_
  refine (r_iloadn f232_8 rfl).trans ?_
  refine (r_bipush (v := 100) f232_9 rfl).trans ?_
  refine (r_idiv (v := (x1 / 100)) f232_11 (by decide) rfl).trans ?_
  refine (r_iconst (v := 0) f232_12 rfl).trans ?_
  refine (r_bipush (v := 23) f232_13 rfl).trans ?_
  have hc1 : arun X (n + 5) (d + 1) zM196 0 [some (.int (x1 / 100)), some (.int 0), some (.int 23)] [] h = some ((some (.int 0)), h) := by
    refine (r_iloadn f196_0 rfl).trans ?_
    refine (r_iloadn f196_1 rfl).trans ?_
    refine (r_icmp_lt_t f196_2 em0).trans ?_
    refine (r_iconst (v := 0) f196_14 rfl).trans ?_
    exact r_zreturn f196_15 rfl (by decide)
  refine (r_stat (as := [.int (x1 / 100), .int 0, .int 23]) (v := (some (.int 0))) (h1 := h) f232_15 rfl zg196 rfl rfl rfl rfl rfl rfl hc1).trans ?_
  refine (r_if_eq_t f232_18 (by decide)).trans ?_
  refine (r_iconst (v := (-1)) f232_73 rfl).trans ?_
  exact r_ireturn f232_74 rfl
set_option maxHeartbeats 40000000 in
theorem qm15_4_1 {X : aX} {n d : Nat} {h : aH} {x1 : Int32} {x2 : Int32} {x3 : Int32}  (ec0 : ¬ x1 < 0) (ec1 : ¬ x2 < 0) (em0 : ¬ (x1 / 100) < 0) (em1 : 23 < (x1 / 100)) : arun X (n + 18) (d + 2) zM232 0 [some (.ref 72), some (.int x1), some (.int x2), some (.int x3)] [] h = some (some (.int (-1)), h) := by
  refine (r_iloadn f232_0 rfl).trans ?_
  refine (r_if_lt_f f232_1 ec0).trans ?_
  refine (r_iloadn f232_4 rfl).trans ?_
  refine (r_if_lt_f f232_5 ec1).trans ?_
  refine (r_iloadn f232_8 rfl).trans ?_
  refine (r_bipush (v := 100) f232_9 rfl).trans ?_
  refine (r_idiv (v := (x1 / 100)) f232_11 (by decide) rfl).trans ?_
  refine (r_iconst (v := 0) f232_12 rfl).trans ?_
  refine (r_bipush (v := 23) f232_13 rfl).trans ?_
  have hc1 : arun X (n + 8) (d + 1) zM196 0 [some (.int (x1 / 100)), some (.int 0), some (.int 23)] [] h = some ((some (.int 0)), h) := by
    refine (r_iloadn f196_0 rfl).trans ?_
    refine (r_iloadn f196_1 rfl).trans ?_
    refine (r_icmp_lt_f f196_2 em0).trans ?_
    refine (r_iloadn f196_5 rfl).trans ?_
    refine (r_iloadn f196_6 rfl).trans ?_
    refine (r_icmp_gt_t f196_7 em1).trans ?_
    refine (r_iconst (v := 0) f196_14 rfl).trans ?_
    exact r_zreturn f196_15 rfl (by decide)
  refine (r_stat (as := [.int (x1 / 100), .int 0, .int 23]) (v := (some (.int 0))) (h1 := h) f232_15 rfl zg196 rfl rfl rfl rfl rfl rfl hc1).trans ?_
  refine (r_if_eq_t f232_18 (by decide)).trans ?_
  refine (r_iconst (v := (-1)) f232_73 rfl).trans ?_
  exact r_ireturn f232_74 rfl
set_option maxHeartbeats 40000000 in
theorem qm15_4_2 {X : aX} {n d : Nat} {h : aH} {x1 : Int32} {x2 : Int32} {x3 : Int32}  (ec0 : ¬ x1 < 0) (ec1 : ¬ x2 < 0) (em0 : ¬ (x1 / 100) < 0) (em1 : ¬ 23 < (x1 / 100)) (em2 : (x1 - x1 / 100 * 100) < 0) : arun X (n + 22) (d + 2) zM232 0 [some (.ref 72), some (.int x1), some (.int x2), some (.int x3)] [] h = some (some (.int (-1)), h) := by
  refine (r_iloadn f232_0 rfl).trans ?_
  refine (r_if_lt_f f232_1 ec0).trans ?_
  refine (r_iloadn f232_4 rfl).trans ?_
  refine (r_if_lt_f f232_5 ec1).trans ?_
  refine (r_iloadn f232_8 rfl).trans ?_
  refine (r_bipush (v := 100) f232_9 rfl).trans ?_
  refine (r_idiv (v := (x1 / 100)) f232_11 (by decide) rfl).trans ?_
  refine (r_iconst (v := 0) f232_12 rfl).trans ?_
  refine (r_bipush (v := 23) f232_13 rfl).trans ?_
  have hc1 : arun X (n + 12) (d + 1) zM196 0 [some (.int (x1 / 100)), some (.int 0), some (.int 23)] [] h = some ((some (.int 1)), h) := by
    refine (r_iloadn f196_0 rfl).trans ?_
    refine (r_iloadn f196_1 rfl).trans ?_
    refine (r_icmp_lt_f f196_2 em0).trans ?_
    refine (r_iloadn f196_5 rfl).trans ?_
    refine (r_iloadn f196_6 rfl).trans ?_
    refine (r_icmp_gt_f f196_7 em1).trans ?_
    refine (r_iconst (v := 1) f196_10 rfl).trans ?_
    refine (r_goto f196_11).trans ?_
    exact r_zreturn f196_15 rfl (by decide)
  refine (r_stat (as := [.int (x1 / 100), .int 0, .int 23]) (v := (some (.int 1))) (h1 := h) f232_15 rfl zg196 rfl rfl rfl rfl rfl rfl hc1).trans ?_
  refine (r_if_eq_f f232_18 (by decide)).trans ?_
  refine (r_iloadn f232_21 rfl).trans ?_
  refine (r_bipush (v := 100) f232_22 rfl).trans ?_
  refine (r_irem (v := (x1 - x1 / 100 * 100)) f232_24 (by decide) rfl).trans ?_
  refine (r_iconst (v := 0) f232_25 rfl).trans ?_
  refine (r_bipush (v := 23) f232_26 rfl).trans ?_
  have hc2 : arun X (n + 5) (d + 1) zM196 0 [some (.int (x1 - x1 / 100 * 100)), some (.int 0), some (.int 23)] [] h = some ((some (.int 0)), h) := by
    refine (r_iloadn f196_0 rfl).trans ?_
    refine (r_iloadn f196_1 rfl).trans ?_
    refine (r_icmp_lt_t f196_2 em2).trans ?_
    refine (r_iconst (v := 0) f196_14 rfl).trans ?_
    exact r_zreturn f196_15 rfl (by decide)
  refine (r_stat (as := [.int (x1 - x1 / 100 * 100), .int 0, .int 23]) (v := (some (.int 0))) (h1 := h) f232_28 rfl zg196 rfl rfl rfl rfl rfl rfl hc2).trans ?_
  refine (r_if_eq_t f232_31 (by decide)).trans ?_
  refine (r_iconst (v := (-1)) f232_73 rfl).trans ?_
  exact r_ireturn f232_74 rfl
set_option maxHeartbeats 40000000 in
theorem qm15_4_3 {X : aX} {n d : Nat} {h : aH} {x1 : Int32} {x2 : Int32} {x3 : Int32}  (ec0 : ¬ x1 < 0) (ec1 : ¬ x2 < 0) (em0 : ¬ (x1 / 100) < 0) (em1 : ¬ 23 < (x1 / 100)) (em2 : ¬ (x1 - x1 / 100 * 100) < 0) (em3 : 23 < (x1 - x1 / 100 * 100)) : arun X (n + 25) (d + 2) zM232 0 [some (.ref 72), some (.int x1), some (.int x2), some (.int x3)] [] h = some (some (.int (-1)), h) := by
  refine (r_iloadn f232_0 rfl).trans ?_
  refine (r_if_lt_f f232_1 ec0).trans ?_
  refine (r_iloadn f232_4 rfl).trans ?_
  refine (r_if_lt_f f232_5 ec1).trans ?_
  refine (r_iloadn f232_8 rfl).trans ?_
  refine (r_bipush (v := 100) f232_9 rfl).trans ?_
  refine (r_idiv (v := (x1 / 100)) f232_11 (by decide) rfl).trans ?_
  refine (r_iconst (v := 0) f232_12 rfl).trans ?_
  refine (r_bipush (v := 23) f232_13 rfl).trans ?_
  have hc1 : arun X (n + 15) (d + 1) zM196 0 [some (.int (x1 / 100)), some (.int 0), some (.int 23)] [] h = some ((some (.int 1)), h) := by
    refine (r_iloadn f196_0 rfl).trans ?_
    refine (r_iloadn f196_1 rfl).trans ?_
    refine (r_icmp_lt_f f196_2 em0).trans ?_
    refine (r_iloadn f196_5 rfl).trans ?_
    refine (r_iloadn f196_6 rfl).trans ?_
    refine (r_icmp_gt_f f196_7 em1).trans ?_
    refine (r_iconst (v := 1) f196_10 rfl).trans ?_
    refine (r_goto f196_11).trans ?_
    exact r_zreturn f196_15 rfl (by decide)
  refine (r_stat (as := [.int (x1 / 100), .int 0, .int 23]) (v := (some (.int 1))) (h1 := h) f232_15 rfl zg196 rfl rfl rfl rfl rfl rfl hc1).trans ?_
  refine (r_if_eq_f f232_18 (by decide)).trans ?_
  refine (r_iloadn f232_21 rfl).trans ?_
  refine (r_bipush (v := 100) f232_22 rfl).trans ?_
  refine (r_irem (v := (x1 - x1 / 100 * 100)) f232_24 (by decide) rfl).trans ?_
  refine (r_iconst (v := 0) f232_25 rfl).trans ?_
  refine (r_bipush (v := 23) f232_26 rfl).trans ?_
  have hc2 : arun X (n + 8) (d + 1) zM196 0 [some (.int (x1 - x1 / 100 * 100)), some (.int 0), some (.int 23)] [] h = some ((some (.int 0)), h) := by
    refine (r_iloadn f196_0 rfl).trans ?_
    refine (r_iloadn f196_1 rfl).trans ?_
    refine (r_icmp_lt_f f196_2 em2).trans ?_
    refine (r_iloadn f196_5 rfl).trans ?_
    refine (r_iloadn f196_6 rfl).trans ?_
    refine (r_icmp_gt_t f196_7 em3).trans ?_
    refine (r_iconst (v := 0) f196_14 rfl).trans ?_
    exact r_zreturn f196_15 rfl (by decide)
  refine (r_stat (as := [.int (x1 - x1 / 100 * 100), .int 0, .int 23]) (v := (some (.int 0))) (h1 := h) f232_28 rfl zg196 rfl rfl rfl rfl rfl rfl hc2).trans ?_
  refine (r_if_eq_t f232_31 (by decide)).trans ?_
  refine (r_iconst (v := (-1)) f232_73 rfl).trans ?_
  exact r_ireturn f232_74 rfl
set_option maxHeartbeats 40000000 in
theorem qm15_4_4 {X : aX} {n d : Nat} {h : aH} {x1 : Int32} {x2 : Int32} {x3 : Int32}  (ec0 : ¬ x1 < 0) (ec1 : ¬ x2 < 0) (ec4 : (x2 / 100) < (x1 / 100)) (em0 : ¬ (x1 / 100) < 0) (em1 : ¬ 23 < (x1 / 100)) (em2 : ¬ (x1 - x1 / 100 * 100) < 0) (em3 : ¬ 23 < (x1 - x1 / 100 * 100)) : arun X (n + 31) (d + 2) zM232 0 [some (.ref 72), some (.int x1), some (.int x2), some (.int x3)] [] h = some (some (.int (-1)), h) := by
  refine (r_iloadn f232_0 rfl).trans ?_
  refine (r_if_lt_f f232_1 ec0).trans ?_
  refine (r_iloadn f232_4 rfl).trans ?_
  refine (r_if_lt_f f232_5 ec1).trans ?_
  refine (r_iloadn f232_8 rfl).trans ?_
  refine (r_bipush (v := 100) f232_9 rfl).trans ?_
  refine (r_idiv (v := (x1 / 100)) f232_11 (by decide) rfl).trans ?_
  refine (r_iconst (v := 0) f232_12 rfl).trans ?_
  refine (r_bipush (v := 23) f232_13 rfl).trans ?_
  have hc1 : arun X (n + 21) (d + 1) zM196 0 [some (.int (x1 / 100)), some (.int 0), some (.int 23)] [] h = some ((some (.int 1)), h) := by
    refine (r_iloadn f196_0 rfl).trans ?_
    refine (r_iloadn f196_1 rfl).trans ?_
    refine (r_icmp_lt_f f196_2 em0).trans ?_
    refine (r_iloadn f196_5 rfl).trans ?_
    refine (r_iloadn f196_6 rfl).trans ?_
    refine (r_icmp_gt_f f196_7 em1).trans ?_
    refine (r_iconst (v := 1) f196_10 rfl).trans ?_
    refine (r_goto f196_11).trans ?_
    exact r_zreturn f196_15 rfl (by decide)
  refine (r_stat (as := [.int (x1 / 100), .int 0, .int 23]) (v := (some (.int 1))) (h1 := h) f232_15 rfl zg196 rfl rfl rfl rfl rfl rfl hc1).trans ?_
  refine (r_if_eq_f f232_18 (by decide)).trans ?_
  refine (r_iloadn f232_21 rfl).trans ?_
  refine (r_bipush (v := 100) f232_22 rfl).trans ?_
  refine (r_irem (v := (x1 - x1 / 100 * 100)) f232_24 (by decide) rfl).trans ?_
  refine (r_iconst (v := 0) f232_25 rfl).trans ?_
  refine (r_bipush (v := 23) f232_26 rfl).trans ?_
  have hc2 : arun X (n + 14) (d + 1) zM196 0 [some (.int (x1 - x1 / 100 * 100)), some (.int 0), some (.int 23)] [] h = some ((some (.int 1)), h) := by
    refine (r_iloadn f196_0 rfl).trans ?_
    refine (r_iloadn f196_1 rfl).trans ?_
    refine (r_icmp_lt_f f196_2 em2).trans ?_
    refine (r_iloadn f196_5 rfl).trans ?_
    refine (r_iloadn f196_6 rfl).trans ?_
    refine (r_icmp_gt_f f196_7 em3).trans ?_
    refine (r_iconst (v := 1) f196_10 rfl).trans ?_
    refine (r_goto f196_11).trans ?_
    exact r_zreturn f196_15 rfl (by decide)
  refine (r_stat (as := [.int (x1 - x1 / 100 * 100), .int 0, .int 23]) (v := (some (.int 1))) (h1 := h) f232_28 rfl zg196 rfl rfl rfl rfl rfl rfl hc2).trans ?_
  refine (r_if_eq_f f232_31 (by decide)).trans ?_
  refine (r_iloadn f232_34 rfl).trans ?_
  refine (r_bipush (v := 100) f232_35 rfl).trans ?_
  refine (r_idiv (v := (x2 / 100)) f232_37 (by decide) rfl).trans ?_
  refine (r_iloadn f232_38 rfl).trans ?_
  refine (r_bipush (v := 100) f232_39 rfl).trans ?_
  refine (r_idiv (v := (x1 / 100)) f232_41 (by decide) rfl).trans ?_
  refine (r_bipush (v := 23) f232_42 rfl).trans ?_
  have hc3 : arun X (n + 5) (d + 1) zM196 0 [some (.int (x2 / 100)), some (.int (x1 / 100)), some (.int 23)] [] h = some ((some (.int 0)), h) := by
    refine (r_iloadn f196_0 rfl).trans ?_
    refine (r_iloadn f196_1 rfl).trans ?_
    refine (r_icmp_lt_t f196_2 ec4).trans ?_
    refine (r_iconst (v := 0) f196_14 rfl).trans ?_
    exact r_zreturn f196_15 rfl (by decide)
  refine (r_stat (as := [.int (x2 / 100), .int (x1 / 100), .int 23]) (v := (some (.int 0))) (h1 := h) f232_44 rfl zg196 rfl rfl rfl rfl rfl rfl hc3).trans ?_
  refine (r_if_eq_t f232_47 (by decide)).trans ?_
  refine (r_iconst (v := (-1)) f232_73 rfl).trans ?_
  exact r_ireturn f232_74 rfl
set_option maxHeartbeats 40000000 in
theorem qc15_5 {X : aX} {n d : Nat} {h : aH} {x1 : Int32} {x2 : Int32} {x3 : Int32}  (ec0 : ¬ x1 < 0) (ec1 : ¬ x2 < 0) (ec2 : ¬ x3 < 0) (ec3 : ¬ 3649 < x3) (ec4 : ¬ (x2 / 100) < (x1 / 100)) (ec5 : (x2 - x2 / 100 * 100) < (x1 - x1 / 100 * 100)) : arun X (n + 31) (d + 3) zM159 0 [some (.ref 0), some (.int x1), some (.int x2), some (.int x3), none, none, none, none] [] h = some (some (.int (-1)), h) := by
  refine (r_iloadn f159_0 rfl).trans ?_
  refine (r_if_lt_f f159_1 ec0).trans ?_
  refine (r_iloadn f159_4 rfl).trans ?_
  refine (r_if_lt_f f159_5 ec1).trans ?_
  refine (r_iloadn f159_8 rfl).trans ?_
  have hc1 : arun X (n + 25) (d + 2) zM138 0 [some (.int x3)] [] h = some ((some (.int 1)), h) := by
    refine (r_iloadn f138_0 rfl).trans ?_
    refine (r_iconst (v := 0) f138_1 rfl).trans ?_
    refine (r_sipush (v := 3649) f138_2 rfl).trans ?_
    have hc2 : arun X (n + 21) (d + 1) zM137 0 [some (.int x3), some (.int 0), some (.int 3649)] [] h = some ((some (.int 1)), h) := by
      refine (r_iloadn f137_0 rfl).trans ?_
      refine (r_iloadn f137_1 rfl).trans ?_
      refine (r_icmp_gt_f f137_2 ec2).trans ?_
      refine (r_iloadn f137_5 rfl).trans ?_
      refine (r_iloadn f137_6 rfl).trans ?_
      refine (r_icmp_gt_f f137_7 ec3).trans ?_
      refine (r_iconst (v := 1) f137_10 rfl).trans ?_
      refine (r_goto f137_11).trans ?_
      exact r_zreturn f137_15 rfl (by decide)
    refine (r_stat (as := [.int x3, .int 0, .int 3649]) (v := (some (.int 1))) (h1 := h) f138_5 rfl zg137 rfl rfl rfl rfl rfl rfl hc2).trans ?_
    exact r_zreturn f138_8 rfl (by decide)
  refine (r_stat (as := [.int x3]) (v := (some (.int 1))) (h1 := h) f159_9 rfl zg138 rfl rfl rfl rfl rfl rfl hc1).trans ?_
  refine (r_if_ne_t f159_12 (by decide)).trans ?_
  refine (r_iloadn f159_17 rfl).trans ?_
  refine (r_bipush (v := 100) f159_18 rfl).trans ?_
  refine (r_idiv (v := (x1 / 100)) f159_20 (by decide) rfl).trans ?_
  refine (r_istore (L' := [some (.ref 0), some (.int x1), some (.int x2), some (.int x3), some (.int (x1 / 100)), none, none, none]) f159_21 rfl rfl).trans ?_
  refine (r_iloadn f159_23 rfl).trans ?_
  refine (r_bipush (v := 100) f159_24 rfl).trans ?_
  refine (r_irem (v := (x1 - x1 / 100 * 100)) f159_26 (by decide) rfl).trans ?_
  refine (r_istore (L' := [some (.ref 0), some (.int x1), some (.int x2), some (.int x3), some (.int (x1 / 100)), some (.int (x1 - x1 / 100 * 100)), none, none]) f159_27 rfl rfl).trans ?_
  refine (r_iloadn f159_29 rfl).trans ?_
  refine (r_bipush (v := 100) f159_30 rfl).trans ?_
  refine (r_idiv (v := (x2 / 100)) f159_32 (by decide) rfl).trans ?_
  refine (r_istore (L' := [some (.ref 0), some (.int x1), some (.int x2), some (.int x3), some (.int (x1 / 100)), some (.int (x1 - x1 / 100 * 100)), some (.int (x2 / 100)), none]) f159_33 rfl rfl).trans ?_
  refine (r_iloadn f159_35 rfl).trans ?_
  refine (r_bipush (v := 100) f159_36 rfl).trans ?_
  refine (r_irem (v := (x2 - x2 / 100 * 100)) f159_38 (by decide) rfl).trans ?_
  refine (r_istore (L' := [some (.ref 0), some (.int x1), some (.int x2), some (.int x3), some (.int (x1 / 100)), some (.int (x1 - x1 / 100 * 100)), some (.int (x2 / 100)), some (.int (x2 - x2 / 100 * 100))]) f159_39 rfl rfl).trans ?_
  refine (r_iload f159_41 rfl).trans ?_
  refine (r_iload f159_43 rfl).trans ?_
  refine (r_icmp_gt_f f159_45 ec4).trans ?_
  refine (r_iload f159_48 rfl).trans ?_
  refine (r_iload f159_50 rfl).trans ?_
  refine (r_icmp_gt_t f159_52 ec5).trans ?_
  refine (r_iconst (v := (-1)) f159_69 rfl).trans ?_
  exact r_ireturn f159_70 rfl
set_option maxHeartbeats 40000000 in
theorem qm15_5_0 {X : aX} {n d : Nat} {h : aH} {x1 : Int32} {x2 : Int32} {x3 : Int32}  (ec0 : ¬ x1 < 0) (ec1 : ¬ x2 < 0) (em0 : (x1 / 100) < 0) : arun X (n + 15) (d + 2) zM232 0 [some (.ref 72), some (.int x1), some (.int x2), some (.int x3)] [] h = some (some (.int (-1)), h) := by
  refine (r_iloadn f232_0 rfl).trans ?_
  refine (r_if_lt_f f232_1 ec0).trans ?_
  refine (r_iloadn f232_4 rfl).trans ?_
  refine (r_if_lt_f f232_5 ec1).trans ?_
  refine (r_iloadn f232_8 rfl).trans ?_
  refine (r_bipush (v := 100) f232_9 rfl).trans ?_
  refine (r_idiv (v := (x1 / 100)) f232_11 (by decide) rfl).trans ?_
  refine (r_iconst (v := 0) f232_12 rfl).trans ?_
  refine (r_bipush (v := 23) f232_13 rfl).trans ?_
  have hc1 : arun X (n + 5) (d + 1) zM196 0 [some (.int (x1 / 100)), some (.int 0), some (.int 23)] [] h = some ((some (.int 0)), h) := by
    refine (r_iloadn f196_0 rfl).trans ?_
    refine (r_iloadn f196_1 rfl).trans ?_
    refine (r_icmp_lt_t f196_2 em0).trans ?_
    refine (r_iconst (v := 0) f196_14 rfl).trans ?_
    exact r_zreturn f196_15 rfl (by decide)
  refine (r_stat (as := [.int (x1 / 100), .int 0, .int 23]) (v := (some (.int 0))) (h1 := h) f232_15 rfl zg196 rfl rfl rfl rfl rfl rfl hc1).trans ?_
  refine (r_if_eq_t f232_18 (by decide)).trans ?_
  refine (r_iconst (v := (-1)) f232_73 rfl).trans ?_
  exact r_ireturn f232_74 rfl
set_option maxHeartbeats 40000000 in
theorem qm15_5_1 {X : aX} {n d : Nat} {h : aH} {x1 : Int32} {x2 : Int32} {x3 : Int32}  (ec0 : ¬ x1 < 0) (ec1 : ¬ x2 < 0) (em0 : ¬ (x1 / 100) < 0) (em1 : 23 < (x1 / 100)) : arun X (n + 18) (d + 2) zM232 0 [some (.ref 72), some (.int x1), some (.int x2), some (.int x3)] [] h = some (some (.int (-1)), h) := by
  refine (r_iloadn f232_0 rfl).trans ?_
  refine (r_if_lt_f f232_1 ec0).trans ?_
  refine (r_iloadn f232_4 rfl).trans ?_
  refine (r_if_lt_f f232_5 ec1).trans ?_
  refine (r_iloadn f232_8 rfl).trans ?_
  refine (r_bipush (v := 100) f232_9 rfl).trans ?_
  refine (r_idiv (v := (x1 / 100)) f232_11 (by decide) rfl).trans ?_
  refine (r_iconst (v := 0) f232_12 rfl).trans ?_
  refine (r_bipush (v := 23) f232_13 rfl).trans ?_
  have hc1 : arun X (n + 8) (d + 1) zM196 0 [some (.int (x1 / 100)), some (.int 0), some (.int 23)] [] h = some ((some (.int 0)), h) := by
    refine (r_iloadn f196_0 rfl).trans ?_
    refine (r_iloadn f196_1 rfl).trans ?_
    refine (r_icmp_lt_f f196_2 em0).trans ?_
    refine (r_iloadn f196_5 rfl).trans ?_
    refine (r_iloadn f196_6 rfl).trans ?_
    refine (r_icmp_gt_t f196_7 em1).trans ?_
    refine (r_iconst (v := 0) f196_14 rfl).trans ?_
    exact r_zreturn f196_15 rfl (by decide)
  refine (r_stat (as := [.int (x1 / 100), .int 0, .int 23]) (v := (some (.int 0))) (h1 := h) f232_15 rfl zg196 rfl rfl rfl rfl rfl rfl hc1).trans ?_
  refine (r_if_eq_t f232_18 (by decide)).trans ?_
  refine (r_iconst (v := (-1)) f232_73 rfl).trans ?_
  exact r_ireturn f232_74 rfl
set_option maxHeartbeats 40000000 in
theorem qm15_5_2 {X : aX} {n d : Nat} {h : aH} {x1 : Int32} {x2 : Int32} {x3 : Int32}  (ec0 : ¬ x1 < 0) (ec1 : ¬ x2 < 0) (em0 : ¬ (x1 / 100) < 0) (em1 : ¬ 23 < (x1 / 100)) (em2 : (x1 - x1 / 100 * 100) < 0) : arun X (n + 22) (d + 2) zM232 0 [some (.ref 72), some (.int x1), some (.int x2), some (.int x3)] [] h = some (some (.int (-1)), h) := by
  refine (r_iloadn f232_0 rfl).trans ?_
  refine (r_if_lt_f f232_1 ec0).trans ?_
  refine (r_iloadn f232_4 rfl).trans ?_
  refine (r_if_lt_f f232_5 ec1).trans ?_
  refine (r_iloadn f232_8 rfl).trans ?_
  refine (r_bipush (v := 100) f232_9 rfl).trans ?_
  refine (r_idiv (v := (x1 / 100)) f232_11 (by decide) rfl).trans ?_
  refine (r_iconst (v := 0) f232_12 rfl).trans ?_
  refine (r_bipush (v := 23) f232_13 rfl).trans ?_
  have hc1 : arun X (n + 12) (d + 1) zM196 0 [some (.int (x1 / 100)), some (.int 0), some (.int 23)] [] h = some ((some (.int 1)), h) := by
    refine (r_iloadn f196_0 rfl).trans ?_
    refine (r_iloadn f196_1 rfl).trans ?_
    refine (r_icmp_lt_f f196_2 em0).trans ?_
    refine (r_iloadn f196_5 rfl).trans ?_
    refine (r_iloadn f196_6 rfl).trans ?_
    refine (r_icmp_gt_f f196_7 em1).trans ?_
    refine (r_iconst (v := 1) f196_10 rfl).trans ?_
    refine (r_goto f196_11).trans ?_
    exact r_zreturn f196_15 rfl (by decide)
  refine (r_stat (as := [.int (x1 / 100), .int 0, .int 23]) (v := (some (.int 1))) (h1 := h) f232_15 rfl zg196 rfl rfl rfl rfl rfl rfl hc1).trans ?_
  refine (r_if_eq_f f232_18 (by decide)).trans ?_
  refine (r_iloadn f232_21 rfl).trans ?_
  refine (r_bipush (v := 100) f232_22 rfl).trans ?_
  refine (r_irem (v := (x1 - x1 / 100 * 100)) f232_24 (by decide) rfl).trans ?_
  refine (r_iconst (v := 0) f232_25 rfl).trans ?_
  refine (r_bipush (v := 23) f232_26 rfl).trans ?_
  have hc2 : arun X (n + 5) (d + 1) zM196 0 [some (.int (x1 - x1 / 100 * 100)), some (.int 0), some (.int 23)] [] h = some ((some (.int 0)), h) := by
    refine (r_iloadn f196_0 rfl).trans ?_
    refine (r_iloadn f196_1 rfl).trans ?_
    refine (r_icmp_lt_t f196_2 em2).trans ?_
    refine (r_iconst (v := 0) f196_14 rfl).trans ?_
    exact r_zreturn f196_15 rfl (by decide)
  refine (r_stat (as := [.int (x1 - x1 / 100 * 100), .int 0, .int 23]) (v := (some (.int 0))) (h1 := h) f232_28 rfl zg196 rfl rfl rfl rfl rfl rfl hc2).trans ?_
  refine (r_if_eq_t f232_31 (by decide)).trans ?_
  refine (r_iconst (v := (-1)) f232_73 rfl).trans ?_
  exact r_ireturn f232_74 rfl
set_option maxHeartbeats 40000000 in
theorem qm15_5_3 {X : aX} {n d : Nat} {h : aH} {x1 : Int32} {x2 : Int32} {x3 : Int32}  (ec0 : ¬ x1 < 0) (ec1 : ¬ x2 < 0) (em0 : ¬ (x1 / 100) < 0) (em1 : ¬ 23 < (x1 / 100)) (em2 : ¬ (x1 - x1 / 100 * 100) < 0) (em3 : 23 < (x1 - x1 / 100 * 100)) : arun X (n + 25) (d + 2) zM232 0 [some (.ref 72), some (.int x1), some (.int x2), some (.int x3)] [] h = some (some (.int (-1)), h) := by
  refine (r_iloadn f232_0 rfl).trans ?_
  refine (r_if_lt_f f232_1 ec0).trans ?_
  refine (r_iloadn f232_4 rfl).trans ?_
  refine (r_if_lt_f f232_5 ec1).trans ?_
  refine (r_iloadn f232_8 rfl).trans ?_
  refine (r_bipush (v := 100) f232_9 rfl).trans ?_
  refine (r_idiv (v := (x1 / 100)) f232_11 (by decide) rfl).trans ?_
  refine (r_iconst (v := 0) f232_12 rfl).trans ?_
  refine (r_bipush (v := 23) f232_13 rfl).trans ?_
  have hc1 : arun X (n + 15) (d + 1) zM196 0 [some (.int (x1 / 100)), some (.int 0), some (.int 23)] [] h = some ((some (.int 1)), h) := by
    refine (r_iloadn f196_0 rfl).trans ?_
    refine (r_iloadn f196_1 rfl).trans ?_
    refine (r_icmp_lt_f f196_2 em0).trans ?_
    refine (r_iloadn f196_5 rfl).trans ?_
    refine (r_iloadn f196_6 rfl).trans ?_
    refine (r_icmp_gt_f f196_7 em1).trans ?_
    refine (r_iconst (v := 1) f196_10 rfl).trans ?_
    refine (r_goto f196_11).trans ?_
    exact r_zreturn f196_15 rfl (by decide)
  refine (r_stat (as := [.int (x1 / 100), .int 0, .int 23]) (v := (some (.int 1))) (h1 := h) f232_15 rfl zg196 rfl rfl rfl rfl rfl rfl hc1).trans ?_
  refine (r_if_eq_f f232_18 (by decide)).trans ?_
  refine (r_iloadn f232_21 rfl).trans ?_
  refine (r_bipush (v := 100) f232_22 rfl).trans ?_
  refine (r_irem (v := (x1 - x1 / 100 * 100)) f232_24 (by decide) rfl).trans ?_
  refine (r_iconst (v := 0) f232_25 rfl).trans ?_
  refine (r_bipush (v := 23) f232_26 rfl).trans ?_
  have hc2 : arun X (n + 8) (d + 1) zM196 0 [some (.int (x1 - x1 / 100 * 100)), some (.int 0), some (.int 23)] [] h = some ((some (.int 0)), h) := by
    refine (r_iloadn f196_0 rfl).trans ?_
    refine (r_iloadn f196_1 rfl).trans ?_
    refine (r_icmp_lt_f f196_2 em2).trans ?_
    refine (r_iloadn f196_5 rfl).trans ?_
    refine (r_iloadn f196_6 rfl).trans ?_
    refine (r_icmp_gt_t f196_7 em3).trans ?_
    refine (r_iconst (v := 0) f196_14 rfl).trans ?_
    exact r_zreturn f196_15 rfl (by decide)
  refine (r_stat (as := [.int (x1 - x1 / 100 * 100), .int 0, .int 23]) (v := (some (.int 0))) (h1 := h) f232_28 rfl zg196 rfl rfl rfl rfl rfl rfl hc2).trans ?_
  refine (r_if_eq_t f232_31 (by decide)).trans ?_
  refine (r_iconst (v := (-1)) f232_73 rfl).trans ?_
  exact r_ireturn f232_74 rfl
set_option maxHeartbeats 40000000 in
theorem qm15_5_4 {X : aX} {n d : Nat} {h : aH} {x1 : Int32} {x2 : Int32} {x3 : Int32}  (ec0 : ¬ x1 < 0) (ec1 : ¬ x2 < 0) (ec4 : ¬ (x2 / 100) < (x1 / 100)) (em0 : ¬ (x1 / 100) < 0) (em1 : ¬ 23 < (x1 / 100)) (em2 : ¬ (x1 - x1 / 100 * 100) < 0) (em3 : ¬ 23 < (x1 - x1 / 100 * 100)) (em4 : 23 < (x2 / 100)) : arun X (n + 34) (d + 2) zM232 0 [some (.ref 72), some (.int x1), some (.int x2), some (.int x3)] [] h = some (some (.int (-1)), h) := by
  refine (r_iloadn f232_0 rfl).trans ?_
  refine (r_if_lt_f f232_1 ec0).trans ?_
  refine (r_iloadn f232_4 rfl).trans ?_
  refine (r_if_lt_f f232_5 ec1).trans ?_
  refine (r_iloadn f232_8 rfl).trans ?_
  refine (r_bipush (v := 100) f232_9 rfl).trans ?_
  refine (r_idiv (v := (x1 / 100)) f232_11 (by decide) rfl).trans ?_
  refine (r_iconst (v := 0) f232_12 rfl).trans ?_
  refine (r_bipush (v := 23) f232_13 rfl).trans ?_
  have hc1 : arun X (n + 24) (d + 1) zM196 0 [some (.int (x1 / 100)), some (.int 0), some (.int 23)] [] h = some ((some (.int 1)), h) := by
    refine (r_iloadn f196_0 rfl).trans ?_
    refine (r_iloadn f196_1 rfl).trans ?_
    refine (r_icmp_lt_f f196_2 em0).trans ?_
    refine (r_iloadn f196_5 rfl).trans ?_
    refine (r_iloadn f196_6 rfl).trans ?_
    refine (r_icmp_gt_f f196_7 em1).trans ?_
    refine (r_iconst (v := 1) f196_10 rfl).trans ?_
    refine (r_goto f196_11).trans ?_
    exact r_zreturn f196_15 rfl (by decide)
  refine (r_stat (as := [.int (x1 / 100), .int 0, .int 23]) (v := (some (.int 1))) (h1 := h) f232_15 rfl zg196 rfl rfl rfl rfl rfl rfl hc1).trans ?_
  refine (r_if_eq_f f232_18 (by decide)).trans ?_
  refine (r_iloadn f232_21 rfl).trans ?_
  refine (r_bipush (v := 100) f232_22 rfl).trans ?_
  refine (r_irem (v := (x1 - x1 / 100 * 100)) f232_24 (by decide) rfl).trans ?_
  refine (r_iconst (v := 0) f232_25 rfl).trans ?_
  refine (r_bipush (v := 23) f232_26 rfl).trans ?_
  have hc2 : arun X (n + 17) (d + 1) zM196 0 [some (.int (x1 - x1 / 100 * 100)), some (.int 0), some (.int 23)] [] h = some ((some (.int 1)), h) := by
    refine (r_iloadn f196_0 rfl).trans ?_
    refine (r_iloadn f196_1 rfl).trans ?_
    refine (r_icmp_lt_f f196_2 em2).trans ?_
    refine (r_iloadn f196_5 rfl).trans ?_
    refine (r_iloadn f196_6 rfl).trans ?_
    refine (r_icmp_gt_f f196_7 em3).trans ?_
    refine (r_iconst (v := 1) f196_10 rfl).trans ?_
    refine (r_goto f196_11).trans ?_
    exact r_zreturn f196_15 rfl (by decide)
  refine (r_stat (as := [.int (x1 - x1 / 100 * 100), .int 0, .int 23]) (v := (some (.int 1))) (h1 := h) f232_28 rfl zg196 rfl rfl rfl rfl rfl rfl hc2).trans ?_
  refine (r_if_eq_f f232_31 (by decide)).trans ?_
  refine (r_iloadn f232_34 rfl).trans ?_
  refine (r_bipush (v := 100) f232_35 rfl).trans ?_
  refine (r_idiv (v := (x2 / 100)) f232_37 (by decide) rfl).trans ?_
  refine (r_iloadn f232_38 rfl).trans ?_
  refine (r_bipush (v := 100) f232_39 rfl).trans ?_
  refine (r_idiv (v := (x1 / 100)) f232_41 (by decide) rfl).trans ?_
  refine (r_bipush (v := 23) f232_42 rfl).trans ?_
  have hc3 : arun X (n + 8) (d + 1) zM196 0 [some (.int (x2 / 100)), some (.int (x1 / 100)), some (.int 23)] [] h = some ((some (.int 0)), h) := by
    refine (r_iloadn f196_0 rfl).trans ?_
    refine (r_iloadn f196_1 rfl).trans ?_
    refine (r_icmp_lt_f f196_2 ec4).trans ?_
    refine (r_iloadn f196_5 rfl).trans ?_
    refine (r_iloadn f196_6 rfl).trans ?_
    refine (r_icmp_gt_t f196_7 em4).trans ?_
    refine (r_iconst (v := 0) f196_14 rfl).trans ?_
    exact r_zreturn f196_15 rfl (by decide)
  refine (r_stat (as := [.int (x2 / 100), .int (x1 / 100), .int 23]) (v := (some (.int 0))) (h1 := h) f232_44 rfl zg196 rfl rfl rfl rfl rfl rfl hc3).trans ?_
  refine (r_if_eq_t f232_47 (by decide)).trans ?_
  refine (r_iconst (v := (-1)) f232_73 rfl).trans ?_
  exact r_ireturn f232_74 rfl
set_option maxHeartbeats 40000000 in
theorem qm15_5_5 {X : aX} {n d : Nat} {h : aH} {x1 : Int32} {x2 : Int32} {x3 : Int32}  (ec0 : ¬ x1 < 0) (ec1 : ¬ x2 < 0) (ec4 : ¬ (x2 / 100) < (x1 / 100)) (ec5 : (x2 - x2 / 100 * 100) < (x1 - x1 / 100 * 100)) (em0 : ¬ (x1 / 100) < 0) (em1 : ¬ 23 < (x1 / 100)) (em2 : ¬ (x1 - x1 / 100 * 100) < 0) (em3 : ¬ 23 < (x1 - x1 / 100 * 100)) (em4 : ¬ 23 < (x2 / 100)) : arun X (n + 40) (d + 2) zM232 0 [some (.ref 72), some (.int x1), some (.int x2), some (.int x3)] [] h = some (some (.int (-1)), h) := by
  refine (r_iloadn f232_0 rfl).trans ?_
  refine (r_if_lt_f f232_1 ec0).trans ?_
  refine (r_iloadn f232_4 rfl).trans ?_
  refine (r_if_lt_f f232_5 ec1).trans ?_
  refine (r_iloadn f232_8 rfl).trans ?_
  refine (r_bipush (v := 100) f232_9 rfl).trans ?_
  refine (r_idiv (v := (x1 / 100)) f232_11 (by decide) rfl).trans ?_
  refine (r_iconst (v := 0) f232_12 rfl).trans ?_
  refine (r_bipush (v := 23) f232_13 rfl).trans ?_
  have hc1 : arun X (n + 30) (d + 1) zM196 0 [some (.int (x1 / 100)), some (.int 0), some (.int 23)] [] h = some ((some (.int 1)), h) := by
    refine (r_iloadn f196_0 rfl).trans ?_
    refine (r_iloadn f196_1 rfl).trans ?_
    refine (r_icmp_lt_f f196_2 em0).trans ?_
    refine (r_iloadn f196_5 rfl).trans ?_
    refine (r_iloadn f196_6 rfl).trans ?_
    refine (r_icmp_gt_f f196_7 em1).trans ?_
    refine (r_iconst (v := 1) f196_10 rfl).trans ?_
    refine (r_goto f196_11).trans ?_
    exact r_zreturn f196_15 rfl (by decide)
  refine (r_stat (as := [.int (x1 / 100), .int 0, .int 23]) (v := (some (.int 1))) (h1 := h) f232_15 rfl zg196 rfl rfl rfl rfl rfl rfl hc1).trans ?_
  refine (r_if_eq_f f232_18 (by decide)).trans ?_
  refine (r_iloadn f232_21 rfl).trans ?_
  refine (r_bipush (v := 100) f232_22 rfl).trans ?_
  refine (r_irem (v := (x1 - x1 / 100 * 100)) f232_24 (by decide) rfl).trans ?_
  refine (r_iconst (v := 0) f232_25 rfl).trans ?_
  refine (r_bipush (v := 23) f232_26 rfl).trans ?_
  have hc2 : arun X (n + 23) (d + 1) zM196 0 [some (.int (x1 - x1 / 100 * 100)), some (.int 0), some (.int 23)] [] h = some ((some (.int 1)), h) := by
    refine (r_iloadn f196_0 rfl).trans ?_
    refine (r_iloadn f196_1 rfl).trans ?_
    refine (r_icmp_lt_f f196_2 em2).trans ?_
    refine (r_iloadn f196_5 rfl).trans ?_
    refine (r_iloadn f196_6 rfl).trans ?_
    refine (r_icmp_gt_f f196_7 em3).trans ?_
    refine (r_iconst (v := 1) f196_10 rfl).trans ?_
    refine (r_goto f196_11).trans ?_
    exact r_zreturn f196_15 rfl (by decide)
  refine (r_stat (as := [.int (x1 - x1 / 100 * 100), .int 0, .int 23]) (v := (some (.int 1))) (h1 := h) f232_28 rfl zg196 rfl rfl rfl rfl rfl rfl hc2).trans ?_
  refine (r_if_eq_f f232_31 (by decide)).trans ?_
  refine (r_iloadn f232_34 rfl).trans ?_
  refine (r_bipush (v := 100) f232_35 rfl).trans ?_
  refine (r_idiv (v := (x2 / 100)) f232_37 (by decide) rfl).trans ?_
  refine (r_iloadn f232_38 rfl).trans ?_
  refine (r_bipush (v := 100) f232_39 rfl).trans ?_
  refine (r_idiv (v := (x1 / 100)) f232_41 (by decide) rfl).trans ?_
  refine (r_bipush (v := 23) f232_42 rfl).trans ?_
  have hc3 : arun X (n + 14) (d + 1) zM196 0 [some (.int (x2 / 100)), some (.int (x1 / 100)), some (.int 23)] [] h = some ((some (.int 1)), h) := by
    refine (r_iloadn f196_0 rfl).trans ?_
    refine (r_iloadn f196_1 rfl).trans ?_
    refine (r_icmp_lt_f f196_2 ec4).trans ?_
    refine (r_iloadn f196_5 rfl).trans ?_
    refine (r_iloadn f196_6 rfl).trans ?_
    refine (r_icmp_gt_f f196_7 em4).trans ?_
    refine (r_iconst (v := 1) f196_10 rfl).trans ?_
    refine (r_goto f196_11).trans ?_
    exact r_zreturn f196_15 rfl (by decide)
  refine (r_stat (as := [.int (x2 / 100), .int (x1 / 100), .int 23]) (v := (some (.int 1))) (h1 := h) f232_44 rfl zg196 rfl rfl rfl rfl rfl rfl hc3).trans ?_
  refine (r_if_eq_f f232_47 (by decide)).trans ?_
  refine (r_iloadn f232_50 rfl).trans ?_
  refine (r_bipush (v := 100) f232_51 rfl).trans ?_
  refine (r_irem (v := (x2 - x2 / 100 * 100)) f232_53 (by decide) rfl).trans ?_
  refine (r_iloadn f232_54 rfl).trans ?_
  refine (r_bipush (v := 100) f232_55 rfl).trans ?_
  refine (r_irem (v := (x1 - x1 / 100 * 100)) f232_57 (by decide) rfl).trans ?_
  refine (r_bipush (v := 23) f232_58 rfl).trans ?_
  have hc4 : arun X (n + 5) (d + 1) zM196 0 [some (.int (x2 - x2 / 100 * 100)), some (.int (x1 - x1 / 100 * 100)), some (.int 23)] [] h = some ((some (.int 0)), h) := by
    refine (r_iloadn f196_0 rfl).trans ?_
    refine (r_iloadn f196_1 rfl).trans ?_
    refine (r_icmp_lt_t f196_2 ec5).trans ?_
    refine (r_iconst (v := 0) f196_14 rfl).trans ?_
    exact r_zreturn f196_15 rfl (by decide)
  refine (r_stat (as := [.int (x2 - x2 / 100 * 100), .int (x1 - x1 / 100 * 100), .int 23]) (v := (some (.int 0))) (h1 := h) f232_60 rfl zg196 rfl rfl rfl rfl rfl rfl hc4).trans ?_
  refine (r_if_eq_t f232_63 (by decide)).trans ?_
  refine (r_iconst (v := (-1)) f232_73 rfl).trans ?_
  exact r_ireturn f232_74 rfl
set_option maxHeartbeats 40000000 in
theorem qc15_6 {X : aX} {n d : Nat} {h : aH} {x1 : Int32} {x2 : Int32} {x3 : Int32}  (ec0 : ¬ x1 < 0) (ec1 : ¬ x2 < 0) (ec2 : ¬ x3 < 0) (ec3 : ¬ 3649 < x3) (ec4 : ¬ (x2 / 100) < (x1 / 100)) (ec5 : ¬ (x2 - x2 / 100 * 100) < (x1 - x1 / 100 * 100)) (ec6 : 24 ≤ (x2 / 100)) : arun X (n + 34) (d + 3) zM159 0 [some (.ref 0), some (.int x1), some (.int x2), some (.int x3), none, none, none, none] [] h = some (some (.int (-1)), h) := by
  refine (r_iloadn f159_0 rfl).trans ?_
  refine (r_if_lt_f f159_1 ec0).trans ?_
  refine (r_iloadn f159_4 rfl).trans ?_
  refine (r_if_lt_f f159_5 ec1).trans ?_
  refine (r_iloadn f159_8 rfl).trans ?_
  have hc1 : arun X (n + 28) (d + 2) zM138 0 [some (.int x3)] [] h = some ((some (.int 1)), h) := by
    refine (r_iloadn f138_0 rfl).trans ?_
    refine (r_iconst (v := 0) f138_1 rfl).trans ?_
    refine (r_sipush (v := 3649) f138_2 rfl).trans ?_
    have hc2 : arun X (n + 24) (d + 1) zM137 0 [some (.int x3), some (.int 0), some (.int 3649)] [] h = some ((some (.int 1)), h) := by
      refine (r_iloadn f137_0 rfl).trans ?_
      refine (r_iloadn f137_1 rfl).trans ?_
      refine (r_icmp_gt_f f137_2 ec2).trans ?_
      refine (r_iloadn f137_5 rfl).trans ?_
      refine (r_iloadn f137_6 rfl).trans ?_
      refine (r_icmp_gt_f f137_7 ec3).trans ?_
      refine (r_iconst (v := 1) f137_10 rfl).trans ?_
      refine (r_goto f137_11).trans ?_
      exact r_zreturn f137_15 rfl (by decide)
    refine (r_stat (as := [.int x3, .int 0, .int 3649]) (v := (some (.int 1))) (h1 := h) f138_5 rfl zg137 rfl rfl rfl rfl rfl rfl hc2).trans ?_
    exact r_zreturn f138_8 rfl (by decide)
  refine (r_stat (as := [.int x3]) (v := (some (.int 1))) (h1 := h) f159_9 rfl zg138 rfl rfl rfl rfl rfl rfl hc1).trans ?_
  refine (r_if_ne_t f159_12 (by decide)).trans ?_
  refine (r_iloadn f159_17 rfl).trans ?_
  refine (r_bipush (v := 100) f159_18 rfl).trans ?_
  refine (r_idiv (v := (x1 / 100)) f159_20 (by decide) rfl).trans ?_
  refine (r_istore (L' := [some (.ref 0), some (.int x1), some (.int x2), some (.int x3), some (.int (x1 / 100)), none, none, none]) f159_21 rfl rfl).trans ?_
  refine (r_iloadn f159_23 rfl).trans ?_
  refine (r_bipush (v := 100) f159_24 rfl).trans ?_
  refine (r_irem (v := (x1 - x1 / 100 * 100)) f159_26 (by decide) rfl).trans ?_
  refine (r_istore (L' := [some (.ref 0), some (.int x1), some (.int x2), some (.int x3), some (.int (x1 / 100)), some (.int (x1 - x1 / 100 * 100)), none, none]) f159_27 rfl rfl).trans ?_
  refine (r_iloadn f159_29 rfl).trans ?_
  refine (r_bipush (v := 100) f159_30 rfl).trans ?_
  refine (r_idiv (v := (x2 / 100)) f159_32 (by decide) rfl).trans ?_
  refine (r_istore (L' := [some (.ref 0), some (.int x1), some (.int x2), some (.int x3), some (.int (x1 / 100)), some (.int (x1 - x1 / 100 * 100)), some (.int (x2 / 100)), none]) f159_33 rfl rfl).trans ?_
  refine (r_iloadn f159_35 rfl).trans ?_
  refine (r_bipush (v := 100) f159_36 rfl).trans ?_
  refine (r_irem (v := (x2 - x2 / 100 * 100)) f159_38 (by decide) rfl).trans ?_
  refine (r_istore (L' := [some (.ref 0), some (.int x1), some (.int x2), some (.int x3), some (.int (x1 / 100)), some (.int (x1 - x1 / 100 * 100)), some (.int (x2 / 100)), some (.int (x2 - x2 / 100 * 100))]) f159_39 rfl rfl).trans ?_
  refine (r_iload f159_41 rfl).trans ?_
  refine (r_iload f159_43 rfl).trans ?_
  refine (r_icmp_gt_f f159_45 ec4).trans ?_
  refine (r_iload f159_48 rfl).trans ?_
  refine (r_iload f159_50 rfl).trans ?_
  refine (r_icmp_gt_f f159_52 ec5).trans ?_
  refine (r_iload f159_55 rfl).trans ?_
  refine (r_bipush (v := 24) f159_57 rfl).trans ?_
  refine (r_icmp_ge_t f159_59 ec6).trans ?_
  refine (r_iconst (v := (-1)) f159_69 rfl).trans ?_
  exact r_ireturn f159_70 rfl
set_option maxHeartbeats 40000000 in
theorem qm15_6_0 {X : aX} {n d : Nat} {h : aH} {x1 : Int32} {x2 : Int32} {x3 : Int32}  (ec0 : ¬ x1 < 0) (ec1 : ¬ x2 < 0) (em0 : (x1 / 100) < 0) : arun X (n + 15) (d + 2) zM232 0 [some (.ref 72), some (.int x1), some (.int x2), some (.int x3)] [] h = some (some (.int (-1)), h) := by
  refine (r_iloadn f232_0 rfl).trans ?_
  refine (r_if_lt_f f232_1 ec0).trans ?_
  refine (r_iloadn f232_4 rfl).trans ?_
  refine (r_if_lt_f f232_5 ec1).trans ?_
  refine (r_iloadn f232_8 rfl).trans ?_
  refine (r_bipush (v := 100) f232_9 rfl).trans ?_
  refine (r_idiv (v := (x1 / 100)) f232_11 (by decide) rfl).trans ?_
  refine (r_iconst (v := 0) f232_12 rfl).trans ?_
  refine (r_bipush (v := 23) f232_13 rfl).trans ?_
  have hc1 : arun X (n + 5) (d + 1) zM196 0 [some (.int (x1 / 100)), some (.int 0), some (.int 23)] [] h = some ((some (.int 0)), h) := by
    refine (r_iloadn f196_0 rfl).trans ?_
    refine (r_iloadn f196_1 rfl).trans ?_
    refine (r_icmp_lt_t f196_2 em0).trans ?_
    refine (r_iconst (v := 0) f196_14 rfl).trans ?_
    exact r_zreturn f196_15 rfl (by decide)
  refine (r_stat (as := [.int (x1 / 100), .int 0, .int 23]) (v := (some (.int 0))) (h1 := h) f232_15 rfl zg196 rfl rfl rfl rfl rfl rfl hc1).trans ?_
  refine (r_if_eq_t f232_18 (by decide)).trans ?_
  refine (r_iconst (v := (-1)) f232_73 rfl).trans ?_
  exact r_ireturn f232_74 rfl
set_option maxHeartbeats 40000000 in
theorem qm15_6_1 {X : aX} {n d : Nat} {h : aH} {x1 : Int32} {x2 : Int32} {x3 : Int32}  (ec0 : ¬ x1 < 0) (ec1 : ¬ x2 < 0) (em0 : ¬ (x1 / 100) < 0) (em1 : 23 < (x1 / 100)) : arun X (n + 18) (d + 2) zM232 0 [some (.ref 72), some (.int x1), some (.int x2), some (.int x3)] [] h = some (some (.int (-1)), h) := by
  refine (r_iloadn f232_0 rfl).trans ?_
  refine (r_if_lt_f f232_1 ec0).trans ?_
  refine (r_iloadn f232_4 rfl).trans ?_
  refine (r_if_lt_f f232_5 ec1).trans ?_
  refine (r_iloadn f232_8 rfl).trans ?_
  refine (r_bipush (v := 100) f232_9 rfl).trans ?_
  refine (r_idiv (v := (x1 / 100)) f232_11 (by decide) rfl).trans ?_
  refine (r_iconst (v := 0) f232_12 rfl).trans ?_
  refine (r_bipush (v := 23) f232_13 rfl).trans ?_
  have hc1 : arun X (n + 8) (d + 1) zM196 0 [some (.int (x1 / 100)), some (.int 0), some (.int 23)] [] h = some ((some (.int 0)), h) := by
    refine (r_iloadn f196_0 rfl).trans ?_
    refine (r_iloadn f196_1 rfl).trans ?_
    refine (r_icmp_lt_f f196_2 em0).trans ?_
    refine (r_iloadn f196_5 rfl).trans ?_
    refine (r_iloadn f196_6 rfl).trans ?_
    refine (r_icmp_gt_t f196_7 em1).trans ?_
    refine (r_iconst (v := 0) f196_14 rfl).trans ?_
    exact r_zreturn f196_15 rfl (by decide)
  refine (r_stat (as := [.int (x1 / 100), .int 0, .int 23]) (v := (some (.int 0))) (h1 := h) f232_15 rfl zg196 rfl rfl rfl rfl rfl rfl hc1).trans ?_
  refine (r_if_eq_t f232_18 (by decide)).trans ?_
  refine (r_iconst (v := (-1)) f232_73 rfl).trans ?_
  exact r_ireturn f232_74 rfl
set_option maxHeartbeats 40000000 in
theorem qm15_6_2 {X : aX} {n d : Nat} {h : aH} {x1 : Int32} {x2 : Int32} {x3 : Int32}  (ec0 : ¬ x1 < 0) (ec1 : ¬ x2 < 0) (em0 : ¬ (x1 / 100) < 0) (em1 : ¬ 23 < (x1 / 100)) (em2 : (x1 - x1 / 100 * 100) < 0) : arun X (n + 22) (d + 2) zM232 0 [some (.ref 72), some (.int x1), some (.int x2), some (.int x3)] [] h = some (some (.int (-1)), h) := by
  refine (r_iloadn f232_0 rfl).trans ?_
  refine (r_if_lt_f f232_1 ec0).trans ?_
  refine (r_iloadn f232_4 rfl).trans ?_
  refine (r_if_lt_f f232_5 ec1).trans ?_
  refine (r_iloadn f232_8 rfl).trans ?_
  refine (r_bipush (v := 100) f232_9 rfl).trans ?_
  refine (r_idiv (v := (x1 / 100)) f232_11 (by decide) rfl).trans ?_
  refine (r_iconst (v := 0) f232_12 rfl).trans ?_
  refine (r_bipush (v := 23) f232_13 rfl).trans ?_
  have hc1 : arun X (n + 12) (d + 1) zM196 0 [some (.int (x1 / 100)), some (.int 0), some (.int 23)] [] h = some ((some (.int 1)), h) := by
    refine (r_iloadn f196_0 rfl).trans ?_
    refine (r_iloadn f196_1 rfl).trans ?_
    refine (r_icmp_lt_f f196_2 em0).trans ?_
    refine (r_iloadn f196_5 rfl).trans ?_
    refine (r_iloadn f196_6 rfl).trans ?_
    refine (r_icmp_gt_f f196_7 em1).trans ?_
    refine (r_iconst (v := 1) f196_10 rfl).trans ?_
    refine (r_goto f196_11).trans ?_
    exact r_zreturn f196_15 rfl (by decide)
  refine (r_stat (as := [.int (x1 / 100), .int 0, .int 23]) (v := (some (.int 1))) (h1 := h) f232_15 rfl zg196 rfl rfl rfl rfl rfl rfl hc1).trans ?_
  refine (r_if_eq_f f232_18 (by decide)).trans ?_
  refine (r_iloadn f232_21 rfl).trans ?_
  refine (r_bipush (v := 100) f232_22 rfl).trans ?_
  refine (r_irem (v := (x1 - x1 / 100 * 100)) f232_24 (by decide) rfl).trans ?_
  refine (r_iconst (v := 0) f232_25 rfl).trans ?_
  refine (r_bipush (v := 23) f232_26 rfl).trans ?_
  have hc2 : arun X (n + 5) (d + 1) zM196 0 [some (.int (x1 - x1 / 100 * 100)), some (.int 0), some (.int 23)] [] h = some ((some (.int 0)), h) := by
    refine (r_iloadn f196_0 rfl).trans ?_
    refine (r_iloadn f196_1 rfl).trans ?_
    refine (r_icmp_lt_t f196_2 em2).trans ?_
    refine (r_iconst (v := 0) f196_14 rfl).trans ?_
    exact r_zreturn f196_15 rfl (by decide)
  refine (r_stat (as := [.int (x1 - x1 / 100 * 100), .int 0, .int 23]) (v := (some (.int 0))) (h1 := h) f232_28 rfl zg196 rfl rfl rfl rfl rfl rfl hc2).trans ?_
  refine (r_if_eq_t f232_31 (by decide)).trans ?_
  refine (r_iconst (v := (-1)) f232_73 rfl).trans ?_
  exact r_ireturn f232_74 rfl
set_option maxHeartbeats 40000000 in
theorem qm15_6_3 {X : aX} {n d : Nat} {h : aH} {x1 : Int32} {x2 : Int32} {x3 : Int32}  (ec0 : ¬ x1 < 0) (ec1 : ¬ x2 < 0) (em0 : ¬ (x1 / 100) < 0) (em1 : ¬ 23 < (x1 / 100)) (em2 : ¬ (x1 - x1 / 100 * 100) < 0) (em3 : 23 < (x1 - x1 / 100 * 100)) : arun X (n + 25) (d + 2) zM232 0 [some (.ref 72), some (.int x1), some (.int x2), some (.int x3)] [] h = some (some (.int (-1)), h) := by
  refine (r_iloadn f232_0 rfl).trans ?_
  refine (r_if_lt_f f232_1 ec0).trans ?_
  refine (r_iloadn f232_4 rfl).trans ?_
  refine (r_if_lt_f f232_5 ec1).trans ?_
  refine (r_iloadn f232_8 rfl).trans ?_
  refine (r_bipush (v := 100) f232_9 rfl).trans ?_
  refine (r_idiv (v := (x1 / 100)) f232_11 (by decide) rfl).trans ?_
  refine (r_iconst (v := 0) f232_12 rfl).trans ?_
  refine (r_bipush (v := 23) f232_13 rfl).trans ?_
  have hc1 : arun X (n + 15) (d + 1) zM196 0 [some (.int (x1 / 100)), some (.int 0), some (.int 23)] [] h = some ((some (.int 1)), h) := by
    refine (r_iloadn f196_0 rfl).trans ?_
    refine (r_iloadn f196_1 rfl).trans ?_
    refine (r_icmp_lt_f f196_2 em0).trans ?_
    refine (r_iloadn f196_5 rfl).trans ?_
    refine (r_iloadn f196_6 rfl).trans ?_
    refine (r_icmp_gt_f f196_7 em1).trans ?_
    refine (r_iconst (v := 1) f196_10 rfl).trans ?_
    refine (r_goto f196_11).trans ?_
    exact r_zreturn f196_15 rfl (by decide)
  refine (r_stat (as := [.int (x1 / 100), .int 0, .int 23]) (v := (some (.int 1))) (h1 := h) f232_15 rfl zg196 rfl rfl rfl rfl rfl rfl hc1).trans ?_
  refine (r_if_eq_f f232_18 (by decide)).trans ?_
  refine (r_iloadn f232_21 rfl).trans ?_
  refine (r_bipush (v := 100) f232_22 rfl).trans ?_
  refine (r_irem (v := (x1 - x1 / 100 * 100)) f232_24 (by decide) rfl).trans ?_
  refine (r_iconst (v := 0) f232_25 rfl).trans ?_
  refine (r_bipush (v := 23) f232_26 rfl).trans ?_
  have hc2 : arun X (n + 8) (d + 1) zM196 0 [some (.int (x1 - x1 / 100 * 100)), some (.int 0), some (.int 23)] [] h = some ((some (.int 0)), h) := by
    refine (r_iloadn f196_0 rfl).trans ?_
    refine (r_iloadn f196_1 rfl).trans ?_
    refine (r_icmp_lt_f f196_2 em2).trans ?_
    refine (r_iloadn f196_5 rfl).trans ?_
    refine (r_iloadn f196_6 rfl).trans ?_
    refine (r_icmp_gt_t f196_7 em3).trans ?_
    refine (r_iconst (v := 0) f196_14 rfl).trans ?_
    exact r_zreturn f196_15 rfl (by decide)
  refine (r_stat (as := [.int (x1 - x1 / 100 * 100), .int 0, .int 23]) (v := (some (.int 0))) (h1 := h) f232_28 rfl zg196 rfl rfl rfl rfl rfl rfl hc2).trans ?_
  refine (r_if_eq_t f232_31 (by decide)).trans ?_
  refine (r_iconst (v := (-1)) f232_73 rfl).trans ?_
  exact r_ireturn f232_74 rfl
set_option maxHeartbeats 40000000 in
theorem qm15_6_4 {X : aX} {n d : Nat} {h : aH} {x1 : Int32} {x2 : Int32} {x3 : Int32}  (ec0 : ¬ x1 < 0) (ec1 : ¬ x2 < 0) (ec4 : ¬ (x2 / 100) < (x1 / 100)) (em0 : ¬ (x1 / 100) < 0) (em1 : ¬ 23 < (x1 / 100)) (em2 : ¬ (x1 - x1 / 100 * 100) < 0) (em3 : ¬ 23 < (x1 - x1 / 100 * 100)) (em4 : 23 < (x2 / 100)) : arun X (n + 34) (d + 2) zM232 0 [some (.ref 72), some (.int x1), some (.int x2), some (.int x3)] [] h = some (some (.int (-1)), h) := by
  refine (r_iloadn f232_0 rfl).trans ?_
  refine (r_if_lt_f f232_1 ec0).trans ?_
  refine (r_iloadn f232_4 rfl).trans ?_
  refine (r_if_lt_f f232_5 ec1).trans ?_
  refine (r_iloadn f232_8 rfl).trans ?_
  refine (r_bipush (v := 100) f232_9 rfl).trans ?_
  refine (r_idiv (v := (x1 / 100)) f232_11 (by decide) rfl).trans ?_
  refine (r_iconst (v := 0) f232_12 rfl).trans ?_
  refine (r_bipush (v := 23) f232_13 rfl).trans ?_
  have hc1 : arun X (n + 24) (d + 1) zM196 0 [some (.int (x1 / 100)), some (.int 0), some (.int 23)] [] h = some ((some (.int 1)), h) := by
    refine (r_iloadn f196_0 rfl).trans ?_
    refine (r_iloadn f196_1 rfl).trans ?_
    refine (r_icmp_lt_f f196_2 em0).trans ?_
    refine (r_iloadn f196_5 rfl).trans ?_
    refine (r_iloadn f196_6 rfl).trans ?_
    refine (r_icmp_gt_f f196_7 em1).trans ?_
    refine (r_iconst (v := 1) f196_10 rfl).trans ?_
    refine (r_goto f196_11).trans ?_
    exact r_zreturn f196_15 rfl (by decide)
  refine (r_stat (as := [.int (x1 / 100), .int 0, .int 23]) (v := (some (.int 1))) (h1 := h) f232_15 rfl zg196 rfl rfl rfl rfl rfl rfl hc1).trans ?_
  refine (r_if_eq_f f232_18 (by decide)).trans ?_
  refine (r_iloadn f232_21 rfl).trans ?_
  refine (r_bipush (v := 100) f232_22 rfl).trans ?_
  refine (r_irem (v := (x1 - x1 / 100 * 100)) f232_24 (by decide) rfl).trans ?_
  refine (r_iconst (v := 0) f232_25 rfl).trans ?_
  refine (r_bipush (v := 23) f232_26 rfl).trans ?_
  have hc2 : arun X (n + 17) (d + 1) zM196 0 [some (.int (x1 - x1 / 100 * 100)), some (.int 0), some (.int 23)] [] h = some ((some (.int 1)), h) := by
    refine (r_iloadn f196_0 rfl).trans ?_
    refine (r_iloadn f196_1 rfl).trans ?_
    refine (r_icmp_lt_f f196_2 em2).trans ?_
    refine (r_iloadn f196_5 rfl).trans ?_
    refine (r_iloadn f196_6 rfl).trans ?_
    refine (r_icmp_gt_f f196_7 em3).trans ?_
    refine (r_iconst (v := 1) f196_10 rfl).trans ?_
    refine (r_goto f196_11).trans ?_
    exact r_zreturn f196_15 rfl (by decide)
  refine (r_stat (as := [.int (x1 - x1 / 100 * 100), .int 0, .int 23]) (v := (some (.int 1))) (h1 := h) f232_28 rfl zg196 rfl rfl rfl rfl rfl rfl hc2).trans ?_
  refine (r_if_eq_f f232_31 (by decide)).trans ?_
  refine (r_iloadn f232_34 rfl).trans ?_
  refine (r_bipush (v := 100) f232_35 rfl).trans ?_
  refine (r_idiv (v := (x2 / 100)) f232_37 (by decide) rfl).trans ?_
  refine (r_iloadn f232_38 rfl).trans ?_
  refine (r_bipush (v := 100) f232_39 rfl).trans ?_
  refine (r_idiv (v := (x1 / 100)) f232_41 (by decide) rfl).trans ?_
  refine (r_bipush (v := 23) f232_42 rfl).trans ?_
  have hc3 : arun X (n + 8) (d + 1) zM196 0 [some (.int (x2 / 100)), some (.int (x1 / 100)), some (.int 23)] [] h = some ((some (.int 0)), h) := by
    refine (r_iloadn f196_0 rfl).trans ?_
    refine (r_iloadn f196_1 rfl).trans ?_
    refine (r_icmp_lt_f f196_2 ec4).trans ?_
    refine (r_iloadn f196_5 rfl).trans ?_
    refine (r_iloadn f196_6 rfl).trans ?_
    refine (r_icmp_gt_t f196_7 em4).trans ?_
    refine (r_iconst (v := 0) f196_14 rfl).trans ?_
    exact r_zreturn f196_15 rfl (by decide)
  refine (r_stat (as := [.int (x2 / 100), .int (x1 / 100), .int 23]) (v := (some (.int 0))) (h1 := h) f232_44 rfl zg196 rfl rfl rfl rfl rfl rfl hc3).trans ?_
  refine (r_if_eq_t f232_47 (by decide)).trans ?_
  refine (r_iconst (v := (-1)) f232_73 rfl).trans ?_
  exact r_ireturn f232_74 rfl
set_option maxHeartbeats 40000000 in
theorem qc15_7 {X : aX} {n d : Nat} {h : aH} {x1 : Int32} {x2 : Int32} {x3 : Int32}  (g0 : h.1[0]? = some (.inr (11, zF0))) (g1 : h.1[1]? = some (.inr (6, zF1))) (g16 : h.1[16]? = some (.inr (2, zF16))) (g23 : h.1[23]? = some (.inl (0, 40, .inl (fun _ => 0)))) (g24 : h.1[24]? = some (.inl (0, 40, .inl (fun _ => 0)))) (g25 : h.1[25]? = some (.inl (0, 40, .inl (fun _ => 0)))) (g26 : h.1[26]? = some (.inl (0, 40, .inl (fun _ => 0)))) (ec0 : ¬ x1 < 0) (ec1 : ¬ x2 < 0) (ec2 : ¬ x3 < 0) (ec3 : ¬ 3649 < x3) (ec4 : ¬ (x2 / 100) < (x1 / 100)) (ec5 : ¬ (x2 - x2 / 100 * 100) < (x1 - x1 / 100 * 100)) (ec6 : ¬ 24 ≤ (x2 / 100)) (ec7 : (x2 - x2 / 100 * 100) < 24) : arun X (n + 85) (d + 3) zM159 0 [some (.ref 0), some (.int x1), some (.int x2), some (.int x3), none, none, none, none] [] h = some (some (.int 1), ((((((h.1.set 23 (.inl (0, 40, .inl (upd (fun _ => 0) (Int32.toNatClampNeg 0) x1)))).set 24 (.inl (0, 40, .inl (upd (fun _ => 0) (Int32.toNatClampNeg 0) x2)))).set 25 (.inl (0, 40, .inl (upd (fun _ => 0) (Int32.toNatClampNeg 0) x3)))).set 26 (.inl (0, 40, .inl (upd (fun _ => 0) (Int32.toNatClampNeg 0) 0)))).set 16 (.inr (2, [.ref 1, .int 0, .int 1, .int 0, .ref 17, .ref 18, .ref 19, .ref 20, .ref 21, .ref 22, .ref 23, .ref 24, .ref 25, .ref 26, .ref 27, .ref 28, .ref 29, .ref 30, .ref 31, .ref 32]))), h.2)) := by
  refine (r_iloadn f159_0 rfl).trans ?_
  refine (r_if_lt_f f159_1 ec0).trans ?_
  refine (r_iloadn f159_4 rfl).trans ?_
  refine (r_if_lt_f f159_5 ec1).trans ?_
  refine (r_iloadn f159_8 rfl).trans ?_
  have hc1 : arun X (n + 79) (d + 2) zM138 0 [some (.int x3)] [] h = some ((some (.int 1)), h) := by
    refine (r_iloadn f138_0 rfl).trans ?_
    refine (r_iconst (v := 0) f138_1 rfl).trans ?_
    refine (r_sipush (v := 3649) f138_2 rfl).trans ?_
    have hc2 : arun X (n + 75) (d + 1) zM137 0 [some (.int x3), some (.int 0), some (.int 3649)] [] h = some ((some (.int 1)), h) := by
      refine (r_iloadn f137_0 rfl).trans ?_
      refine (r_iloadn f137_1 rfl).trans ?_
      refine (r_icmp_gt_f f137_2 ec2).trans ?_
      refine (r_iloadn f137_5 rfl).trans ?_
      refine (r_iloadn f137_6 rfl).trans ?_
      refine (r_icmp_gt_f f137_7 ec3).trans ?_
      refine (r_iconst (v := 1) f137_10 rfl).trans ?_
      refine (r_goto f137_11).trans ?_
      exact r_zreturn f137_15 rfl (by decide)
    refine (r_stat (as := [.int x3, .int 0, .int 3649]) (v := (some (.int 1))) (h1 := h) f138_5 rfl zg137 rfl rfl rfl rfl rfl rfl hc2).trans ?_
    exact r_zreturn f138_8 rfl (by decide)
  refine (r_stat (as := [.int x3]) (v := (some (.int 1))) (h1 := h) f159_9 rfl zg138 rfl rfl rfl rfl rfl rfl hc1).trans ?_
  refine (r_if_ne_t f159_12 (by decide)).trans ?_
  refine (r_iloadn f159_17 rfl).trans ?_
  refine (r_bipush (v := 100) f159_18 rfl).trans ?_
  refine (r_idiv (v := (x1 / 100)) f159_20 (by decide) rfl).trans ?_
  refine (r_istore (L' := [some (.ref 0), some (.int x1), some (.int x2), some (.int x3), some (.int (x1 / 100)), none, none, none]) f159_21 rfl rfl).trans ?_
  refine (r_iloadn f159_23 rfl).trans ?_
  refine (r_bipush (v := 100) f159_24 rfl).trans ?_
  refine (r_irem (v := (x1 - x1 / 100 * 100)) f159_26 (by decide) rfl).trans ?_
  refine (r_istore (L' := [some (.ref 0), some (.int x1), some (.int x2), some (.int x3), some (.int (x1 / 100)), some (.int (x1 - x1 / 100 * 100)), none, none]) f159_27 rfl rfl).trans ?_
  refine (r_iloadn f159_29 rfl).trans ?_
  refine (r_bipush (v := 100) f159_30 rfl).trans ?_
  refine (r_idiv (v := (x2 / 100)) f159_32 (by decide) rfl).trans ?_
  refine (r_istore (L' := [some (.ref 0), some (.int x1), some (.int x2), some (.int x3), some (.int (x1 / 100)), some (.int (x1 - x1 / 100 * 100)), some (.int (x2 / 100)), none]) f159_33 rfl rfl).trans ?_
  refine (r_iloadn f159_35 rfl).trans ?_
  refine (r_bipush (v := 100) f159_36 rfl).trans ?_
  refine (r_irem (v := (x2 - x2 / 100 * 100)) f159_38 (by decide) rfl).trans ?_
  refine (r_istore (L' := [some (.ref 0), some (.int x1), some (.int x2), some (.int x3), some (.int (x1 / 100)), some (.int (x1 - x1 / 100 * 100)), some (.int (x2 / 100)), some (.int (x2 - x2 / 100 * 100))]) f159_39 rfl rfl).trans ?_
  refine (r_iload f159_41 rfl).trans ?_
  refine (r_iload f159_43 rfl).trans ?_
  refine (r_icmp_gt_f f159_45 ec4).trans ?_
  refine (r_iload f159_48 rfl).trans ?_
  refine (r_iload f159_50 rfl).trans ?_
  refine (r_icmp_gt_f f159_52 ec5).trans ?_
  refine (r_iload f159_55 rfl).trans ?_
  refine (r_bipush (v := 24) f159_57 rfl).trans ?_
  refine (r_icmp_ge_f f159_59 ec6).trans ?_
  refine (r_iload f159_62 rfl).trans ?_
  refine (r_bipush (v := 24) f159_64 rfl).trans ?_
  refine (r_icmp_lt_t f159_66 ec7).trans ?_
  refine (r_aloadn f159_71 rfl).trans ?_
  refine (r_get (v := .ref 16) f159_72 g0 rfl).trans ?_
  refine (r_get (v := .int 0) f159_75 g16 rfl).trans ?_
  refine (r_bipush (v := 40) f159_78 rfl).trans ?_
  refine (r_icmp_lt_t f159_80 (by decide)).trans ?_
  refine (r_aloadn f159_88 rfl).trans ?_
  refine (r_get (v := .ref 16) f159_89 g0 rfl).trans ?_
  refine (r_iloadn f159_92 rfl).trans ?_
  refine (r_iloadn f159_93 rfl).trans ?_
  refine (r_iloadn f159_94 rfl).trans ?_
  have hc3 : arun X (n + 39) (d + 2) zM32 0 [some (.ref 16), some (.int x1), some (.int x2), some (.int x3)] [] h = some ((some (.int 1)), ((((((h.1.set 23 (.inl (0, 40, .inl (upd (fun _ => 0) (Int32.toNatClampNeg 0) x1)))).set 24 (.inl (0, 40, .inl (upd (fun _ => 0) (Int32.toNatClampNeg 0) x2)))).set 25 (.inl (0, 40, .inl (upd (fun _ => 0) (Int32.toNatClampNeg 0) x3)))).set 26 (.inl (0, 40, .inl (upd (fun _ => 0) (Int32.toNatClampNeg 0) 0)))).set 16 (.inr (2, [.ref 1, .int 0, .int 1, .int 0, .ref 17, .ref 18, .ref 19, .ref 20, .ref 21, .ref 22, .ref 23, .ref 24, .ref 25, .ref 26, .ref 27, .ref 28, .ref 29, .ref 30, .ref 31, .ref 32]))), h.2)) := by
    refine (r_aloadn f32_0 rfl).trans ?_
    refine (r_get (v := .int 0) f32_1 g16 rfl).trans ?_
    refine (r_bipush (v := 40) f32_4 rfl).trans ?_
    refine (r_icmp_ge_f f32_6 (by decide)).trans ?_
    refine (r_aloadn f32_9 rfl).trans ?_
    refine (r_get (v := .ref 23) f32_10 g16 rfl).trans ?_
    refine (r_aloadn f32_13 rfl).trans ?_
    refine (r_get (v := .int 0) f32_14 g16 rfl).trans ?_
    refine (r_iloadn f32_17 rfl).trans ?_
    refine (r_iast (h' := ((h.1.set 23 (.inl (0, 40, .inl (upd (fun _ => 0) (Int32.toNatClampNeg 0) x1)))), h.2)) f32_18 g23 (by decide) rfl).trans ?_
    refine (r_aloadn f32_19 rfl).trans ?_
    refine (r_get (v := .ref 24) f32_20 (gs_ne g16 (by decide)) rfl).trans ?_
    refine (r_aloadn f32_23 rfl).trans ?_
    refine (r_get (v := .int 0) f32_24 (gs_ne g16 (by decide)) rfl).trans ?_
    refine (r_iloadn f32_27 rfl).trans ?_
    refine (r_iast (h' := (((h.1.set 23 (.inl (0, 40, .inl (upd (fun _ => 0) (Int32.toNatClampNeg 0) x1)))).set 24 (.inl (0, 40, .inl (upd (fun _ => 0) (Int32.toNatClampNeg 0) x2)))), h.2)) f32_28 (gs_ne g24 (by decide)) (by decide) rfl).trans ?_
    refine (r_aloadn f32_29 rfl).trans ?_
    refine (r_get (v := .ref 25) f32_30 (gs_ne (gs_ne g16 (by decide)) (by decide)) rfl).trans ?_
    refine (r_aloadn f32_33 rfl).trans ?_
    refine (r_get (v := .int 0) f32_34 (gs_ne (gs_ne g16 (by decide)) (by decide)) rfl).trans ?_
    refine (r_iloadn f32_37 rfl).trans ?_
    refine (r_iast (h' := ((((h.1.set 23 (.inl (0, 40, .inl (upd (fun _ => 0) (Int32.toNatClampNeg 0) x1)))).set 24 (.inl (0, 40, .inl (upd (fun _ => 0) (Int32.toNatClampNeg 0) x2)))).set 25 (.inl (0, 40, .inl (upd (fun _ => 0) (Int32.toNatClampNeg 0) x3)))), h.2)) f32_38 (gs_ne (gs_ne g25 (by decide)) (by decide)) (by decide) rfl).trans ?_
    refine (r_aloadn f32_39 rfl).trans ?_
    refine (r_get (v := .ref 26) f32_40 (gs_ne (gs_ne (gs_ne g16 (by decide)) (by decide)) (by decide)) rfl).trans ?_
    refine (r_aloadn f32_43 rfl).trans ?_
    refine (r_get (v := .int 0) f32_44 (gs_ne (gs_ne (gs_ne g16 (by decide)) (by decide)) (by decide)) rfl).trans ?_
    refine (r_aloadn f32_47 rfl).trans ?_
    refine (r_get (v := .ref 1) f32_48 (gs_ne (gs_ne (gs_ne g16 (by decide)) (by decide)) (by decide)) rfl).trans ?_
    refine (r_get (v := .int 0) f32_51 (gs_ne (gs_ne (gs_ne g1 (by decide)) (by decide)) (by decide)) rfl).trans ?_
    refine (r_iast (h' := (((((h.1.set 23 (.inl (0, 40, .inl (upd (fun _ => 0) (Int32.toNatClampNeg 0) x1)))).set 24 (.inl (0, 40, .inl (upd (fun _ => 0) (Int32.toNatClampNeg 0) x2)))).set 25 (.inl (0, 40, .inl (upd (fun _ => 0) (Int32.toNatClampNeg 0) x3)))).set 26 (.inl (0, 40, .inl (upd (fun _ => 0) (Int32.toNatClampNeg 0) 0)))), h.2)) f32_54 (gs_ne (gs_ne (gs_ne g26 (by decide)) (by decide)) (by decide)) (by decide) rfl).trans ?_
    refine (r_aloadn f32_55 rfl).trans ?_
    refine (r_dup f32_56 rfl).trans ?_
    refine (r_get (v := .int 0) f32_57 (gs_ne (gs_ne (gs_ne (gs_ne g16 (by decide)) (by decide)) (by decide)) (by decide)) rfl).trans ?_
    refine (r_iconst (v := 1) f32_60 rfl).trans ?_
    refine (r_iadd (v := 1) f32_61 (by decide)).trans ?_
    refine (r_put (h' := ((((((h.1.set 23 (.inl (0, 40, .inl (upd (fun _ => 0) (Int32.toNatClampNeg 0) x1)))).set 24 (.inl (0, 40, .inl (upd (fun _ => 0) (Int32.toNatClampNeg 0) x2)))).set 25 (.inl (0, 40, .inl (upd (fun _ => 0) (Int32.toNatClampNeg 0) x3)))).set 26 (.inl (0, 40, .inl (upd (fun _ => 0) (Int32.toNatClampNeg 0) 0)))).set 16 (.inr (2, [.ref 1, .int 0, .int 1, .int 0, .ref 17, .ref 18, .ref 19, .ref 20, .ref 21, .ref 22, .ref 23, .ref 24, .ref 25, .ref 26, .ref 27, .ref 28, .ref 29, .ref 30, .ref 31, .ref 32]))), h.2)) f32_62 (gs_ne (gs_ne (gs_ne (gs_ne g16 (by decide)) (by decide)) (by decide)) (by decide)) rfl rfl).trans ?_
    refine (r_aloadn f32_65 rfl).trans ?_
    refine (r_get (v := .int 1) f32_66 (gs_eq (gs_ne (gs_ne (gs_ne (gs_ne g16 (by decide)) (by decide)) (by decide)) (by decide))) rfl).trans ?_
    exact r_ireturn f32_69 rfl
  refine (r_virt (as := [.int x1, .int x2, .int x3]) (v := (some (.int 1))) (h1 := ((((((h.1.set 23 (.inl (0, 40, .inl (upd (fun _ => 0) (Int32.toNatClampNeg 0) x1)))).set 24 (.inl (0, 40, .inl (upd (fun _ => 0) (Int32.toNatClampNeg 0) x2)))).set 25 (.inl (0, 40, .inl (upd (fun _ => 0) (Int32.toNatClampNeg 0) x3)))).set 26 (.inl (0, 40, .inl (upd (fun _ => 0) (Int32.toNatClampNeg 0) 0)))).set 16 (.inr (2, [.ref 1, .int 0, .int 1, .int 0, .ref 17, .ref 18, .ref 19, .ref 20, .ref 21, .ref 22, .ref 23, .ref 24, .ref 25, .ref 26, .ref 27, .ref 28, .ref 29, .ref 30, .ref 31, .ref 32]))), h.2)) f159_95 g16 zg32 rfl rfl rfl rfl rfl rfl hc3).trans ?_
  exact r_ireturn f159_98 rfl
set_option maxHeartbeats 40000000 in
theorem qm15_7_0 {X : aX} {n d : Nat} {h : aH} {x1 : Int32} {x2 : Int32} {x3 : Int32}  (ec0 : ¬ x1 < 0) (ec1 : ¬ x2 < 0) (em0 : (x1 / 100) < 0) : arun X (n + 15) (d + 2) zM232 0 [some (.ref 72), some (.int x1), some (.int x2), some (.int x3)] [] h = some (some (.int (-1)), h) := by
  refine (r_iloadn f232_0 rfl).trans ?_
  refine (r_if_lt_f f232_1 ec0).trans ?_
  refine (r_iloadn f232_4 rfl).trans ?_
  refine (r_if_lt_f f232_5 ec1).trans ?_
  refine (r_iloadn f232_8 rfl).trans ?_
  refine (r_bipush (v := 100) f232_9 rfl).trans ?_
  refine (r_idiv (v := (x1 / 100)) f232_11 (by decide) rfl).trans ?_
  refine (r_iconst (v := 0) f232_12 rfl).trans ?_
  refine (r_bipush (v := 23) f232_13 rfl).trans ?_
  have hc1 : arun X (n + 5) (d + 1) zM196 0 [some (.int (x1 / 100)), some (.int 0), some (.int 23)] [] h = some ((some (.int 0)), h) := by
    refine (r_iloadn f196_0 rfl).trans ?_
    refine (r_iloadn f196_1 rfl).trans ?_
    refine (r_icmp_lt_t f196_2 em0).trans ?_
    refine (r_iconst (v := 0) f196_14 rfl).trans ?_
    exact r_zreturn f196_15 rfl (by decide)
  refine (r_stat (as := [.int (x1 / 100), .int 0, .int 23]) (v := (some (.int 0))) (h1 := h) f232_15 rfl zg196 rfl rfl rfl rfl rfl rfl hc1).trans ?_
  refine (r_if_eq_t f232_18 (by decide)).trans ?_
  refine (r_iconst (v := (-1)) f232_73 rfl).trans ?_
  exact r_ireturn f232_74 rfl
set_option maxHeartbeats 40000000 in
theorem qm15_7_1 {X : aX} {n d : Nat} {h : aH} {x1 : Int32} {x2 : Int32} {x3 : Int32}  (ec0 : ¬ x1 < 0) (ec1 : ¬ x2 < 0) (em0 : ¬ (x1 / 100) < 0) (em1 : 23 < (x1 / 100)) : arun X (n + 18) (d + 2) zM232 0 [some (.ref 72), some (.int x1), some (.int x2), some (.int x3)] [] h = some (some (.int (-1)), h) := by
  refine (r_iloadn f232_0 rfl).trans ?_
  refine (r_if_lt_f f232_1 ec0).trans ?_
  refine (r_iloadn f232_4 rfl).trans ?_
  refine (r_if_lt_f f232_5 ec1).trans ?_
  refine (r_iloadn f232_8 rfl).trans ?_
  refine (r_bipush (v := 100) f232_9 rfl).trans ?_
  refine (r_idiv (v := (x1 / 100)) f232_11 (by decide) rfl).trans ?_
  refine (r_iconst (v := 0) f232_12 rfl).trans ?_
  refine (r_bipush (v := 23) f232_13 rfl).trans ?_
  have hc1 : arun X (n + 8) (d + 1) zM196 0 [some (.int (x1 / 100)), some (.int 0), some (.int 23)] [] h = some ((some (.int 0)), h) := by
    refine (r_iloadn f196_0 rfl).trans ?_
    refine (r_iloadn f196_1 rfl).trans ?_
    refine (r_icmp_lt_f f196_2 em0).trans ?_
    refine (r_iloadn f196_5 rfl).trans ?_
    refine (r_iloadn f196_6 rfl).trans ?_
    refine (r_icmp_gt_t f196_7 em1).trans ?_
    refine (r_iconst (v := 0) f196_14 rfl).trans ?_
    exact r_zreturn f196_15 rfl (by decide)
  refine (r_stat (as := [.int (x1 / 100), .int 0, .int 23]) (v := (some (.int 0))) (h1 := h) f232_15 rfl zg196 rfl rfl rfl rfl rfl rfl hc1).trans ?_
  refine (r_if_eq_t f232_18 (by decide)).trans ?_
  refine (r_iconst (v := (-1)) f232_73 rfl).trans ?_
  exact r_ireturn f232_74 rfl
set_option maxHeartbeats 40000000 in
theorem qm15_7_2 {X : aX} {n d : Nat} {h : aH} {x1 : Int32} {x2 : Int32} {x3 : Int32}  (ec0 : ¬ x1 < 0) (ec1 : ¬ x2 < 0) (em0 : ¬ (x1 / 100) < 0) (em1 : ¬ 23 < (x1 / 100)) (em2 : (x1 - x1 / 100 * 100) < 0) : arun X (n + 22) (d + 2) zM232 0 [some (.ref 72), some (.int x1), some (.int x2), some (.int x3)] [] h = some (some (.int (-1)), h) := by
  refine (r_iloadn f232_0 rfl).trans ?_
  refine (r_if_lt_f f232_1 ec0).trans ?_
  refine (r_iloadn f232_4 rfl).trans ?_
  refine (r_if_lt_f f232_5 ec1).trans ?_
  refine (r_iloadn f232_8 rfl).trans ?_
  refine (r_bipush (v := 100) f232_9 rfl).trans ?_
  refine (r_idiv (v := (x1 / 100)) f232_11 (by decide) rfl).trans ?_
  refine (r_iconst (v := 0) f232_12 rfl).trans ?_
  refine (r_bipush (v := 23) f232_13 rfl).trans ?_
  have hc1 : arun X (n + 12) (d + 1) zM196 0 [some (.int (x1 / 100)), some (.int 0), some (.int 23)] [] h = some ((some (.int 1)), h) := by
    refine (r_iloadn f196_0 rfl).trans ?_
    refine (r_iloadn f196_1 rfl).trans ?_
    refine (r_icmp_lt_f f196_2 em0).trans ?_
    refine (r_iloadn f196_5 rfl).trans ?_
    refine (r_iloadn f196_6 rfl).trans ?_
    refine (r_icmp_gt_f f196_7 em1).trans ?_
    refine (r_iconst (v := 1) f196_10 rfl).trans ?_
    refine (r_goto f196_11).trans ?_
    exact r_zreturn f196_15 rfl (by decide)
  refine (r_stat (as := [.int (x1 / 100), .int 0, .int 23]) (v := (some (.int 1))) (h1 := h) f232_15 rfl zg196 rfl rfl rfl rfl rfl rfl hc1).trans ?_
  refine (r_if_eq_f f232_18 (by decide)).trans ?_
  refine (r_iloadn f232_21 rfl).trans ?_
  refine (r_bipush (v := 100) f232_22 rfl).trans ?_
  refine (r_irem (v := (x1 - x1 / 100 * 100)) f232_24 (by decide) rfl).trans ?_
  refine (r_iconst (v := 0) f232_25 rfl).trans ?_
  refine (r_bipush (v := 23) f232_26 rfl).trans ?_
  have hc2 : arun X (n + 5) (d + 1) zM196 0 [some (.int (x1 - x1 / 100 * 100)), some (.int 0), some (.int 23)] [] h = some ((some (.int 0)), h) := by
    refine (r_iloadn f196_0 rfl).trans ?_
    refine (r_iloadn f196_1 rfl).trans ?_
    refine (r_icmp_lt_t f196_2 em2).trans ?_
    refine (r_iconst (v := 0) f196_14 rfl).trans ?_
    exact r_zreturn f196_15 rfl (by decide)
  refine (r_stat (as := [.int (x1 - x1 / 100 * 100), .int 0, .int 23]) (v := (some (.int 0))) (h1 := h) f232_28 rfl zg196 rfl rfl rfl rfl rfl rfl hc2).trans ?_
  refine (r_if_eq_t f232_31 (by decide)).trans ?_
  refine (r_iconst (v := (-1)) f232_73 rfl).trans ?_
  exact r_ireturn f232_74 rfl
set_option maxHeartbeats 40000000 in
theorem qm15_7_3 {X : aX} {n d : Nat} {h : aH} {x1 : Int32} {x2 : Int32} {x3 : Int32}  (ec0 : ¬ x1 < 0) (ec1 : ¬ x2 < 0) (em0 : ¬ (x1 / 100) < 0) (em1 : ¬ 23 < (x1 / 100)) (em2 : ¬ (x1 - x1 / 100 * 100) < 0) (em3 : 23 < (x1 - x1 / 100 * 100)) : arun X (n + 25) (d + 2) zM232 0 [some (.ref 72), some (.int x1), some (.int x2), some (.int x3)] [] h = some (some (.int (-1)), h) := by
  refine (r_iloadn f232_0 rfl).trans ?_
  refine (r_if_lt_f f232_1 ec0).trans ?_
  refine (r_iloadn f232_4 rfl).trans ?_
  refine (r_if_lt_f f232_5 ec1).trans ?_
  refine (r_iloadn f232_8 rfl).trans ?_
  refine (r_bipush (v := 100) f232_9 rfl).trans ?_
  refine (r_idiv (v := (x1 / 100)) f232_11 (by decide) rfl).trans ?_
  refine (r_iconst (v := 0) f232_12 rfl).trans ?_
  refine (r_bipush (v := 23) f232_13 rfl).trans ?_
  have hc1 : arun X (n + 15) (d + 1) zM196 0 [some (.int (x1 / 100)), some (.int 0), some (.int 23)] [] h = some ((some (.int 1)), h) := by
    refine (r_iloadn f196_0 rfl).trans ?_
    refine (r_iloadn f196_1 rfl).trans ?_
    refine (r_icmp_lt_f f196_2 em0).trans ?_
    refine (r_iloadn f196_5 rfl).trans ?_
    refine (r_iloadn f196_6 rfl).trans ?_
    refine (r_icmp_gt_f f196_7 em1).trans ?_
    refine (r_iconst (v := 1) f196_10 rfl).trans ?_
    refine (r_goto f196_11).trans ?_
    exact r_zreturn f196_15 rfl (by decide)
  refine (r_stat (as := [.int (x1 / 100), .int 0, .int 23]) (v := (some (.int 1))) (h1 := h) f232_15 rfl zg196 rfl rfl rfl rfl rfl rfl hc1).trans ?_
  refine (r_if_eq_f f232_18 (by decide)).trans ?_
  refine (r_iloadn f232_21 rfl).trans ?_
  refine (r_bipush (v := 100) f232_22 rfl).trans ?_
  refine (r_irem (v := (x1 - x1 / 100 * 100)) f232_24 (by decide) rfl).trans ?_
  refine (r_iconst (v := 0) f232_25 rfl).trans ?_
  refine (r_bipush (v := 23) f232_26 rfl).trans ?_
  have hc2 : arun X (n + 8) (d + 1) zM196 0 [some (.int (x1 - x1 / 100 * 100)), some (.int 0), some (.int 23)] [] h = some ((some (.int 0)), h) := by
    refine (r_iloadn f196_0 rfl).trans ?_
    refine (r_iloadn f196_1 rfl).trans ?_
    refine (r_icmp_lt_f f196_2 em2).trans ?_
    refine (r_iloadn f196_5 rfl).trans ?_
    refine (r_iloadn f196_6 rfl).trans ?_
    refine (r_icmp_gt_t f196_7 em3).trans ?_
    refine (r_iconst (v := 0) f196_14 rfl).trans ?_
    exact r_zreturn f196_15 rfl (by decide)
  refine (r_stat (as := [.int (x1 - x1 / 100 * 100), .int 0, .int 23]) (v := (some (.int 0))) (h1 := h) f232_28 rfl zg196 rfl rfl rfl rfl rfl rfl hc2).trans ?_
  refine (r_if_eq_t f232_31 (by decide)).trans ?_
  refine (r_iconst (v := (-1)) f232_73 rfl).trans ?_
  exact r_ireturn f232_74 rfl
set_option maxHeartbeats 40000000 in
theorem qm15_7_4 {X : aX} {n d : Nat} {h : aH} {x1 : Int32} {x2 : Int32} {x3 : Int32}  (g72 : h.1[72]? = some (.inr (12, zF72))) (g92 : h.1[92]? = some (.inl (0, 40, .inl (fun _ => 0)))) (g93 : h.1[93]? = some (.inl (0, 40, .inl (fun _ => 0)))) (g94 : h.1[94]? = some (.inl (0, 40, .inl (fun _ => 0)))) (g95 : h.1[95]? = some (.inl (0, 40, .inl (fun _ => 0)))) (g96 : h.1[96]? = some (.inl (0, 40, .inl (fun _ => 0)))) (g97 : h.1[97]? = some (.inl (0, 40, .inl (fun _ => 0)))) (ec0 : ¬ x1 < 0) (ec1 : ¬ x2 < 0) (ec2 : ¬ x3 < 0) (ec3 : ¬ 3649 < x3) (ec4 : ¬ (x2 / 100) < (x1 / 100)) (ec5 : ¬ (x2 - x2 / 100 * 100) < (x1 - x1 / 100 * 100)) (em0 : ¬ (x1 / 100) < 0) (em1 : ¬ 23 < (x1 / 100)) (em2 : ¬ (x1 - x1 / 100 * 100) < 0) (em3 : ¬ 23 < (x1 - x1 / 100 * 100)) (em4 : ¬ 23 < (x2 / 100)) (em5 : ¬ 23 < (x2 - x2 / 100 * 100)) : arun X (n + 100) (d + 3) zM232 0 [some (.ref 72), some (.int x1), some (.int x2), some (.int x3)] [] h = some (some (.int 1), ((((((((h.1.set 92 (.inl (0, 40, .inl (upd (fun _ => 0) (Int32.toNatClampNeg 0) (x1 / 100))))).set 93 (.inl (0, 40, .inl (upd (fun _ => 0) (Int32.toNatClampNeg 0) (x1 - x1 / 100 * 100))))).set 94 (.inl (0, 40, .inl (upd (fun _ => 0) (Int32.toNatClampNeg 0) (x2 / 100))))).set 95 (.inl (0, 40, .inl (upd (fun _ => 0) (Int32.toNatClampNeg 0) (x2 - x2 / 100 * 100))))).set 96 (.inl (0, 40, .inl (upd (fun _ => 0) (Int32.toNatClampNeg 0) x3)))).set 97 (.inl (0, 40, .inl (upd (fun _ => 0) (Int32.toNatClampNeg 0) 0)))).set 72 (.inr (12, ((zF72.set 25 (.int 1)).set 38 (.int 1))))), h.2)) := by
  refine (r_iloadn f232_0 rfl).trans ?_
  refine (r_if_lt_f f232_1 ec0).trans ?_
  refine (r_iloadn f232_4 rfl).trans ?_
  refine (r_if_lt_f f232_5 ec1).trans ?_
  refine (r_iloadn f232_8 rfl).trans ?_
  refine (r_bipush (v := 100) f232_9 rfl).trans ?_
  refine (r_idiv (v := (x1 / 100)) f232_11 (by decide) rfl).trans ?_
  refine (r_iconst (v := 0) f232_12 rfl).trans ?_
  refine (r_bipush (v := 23) f232_13 rfl).trans ?_
  have hc1 : arun X (n + 90) (d + 2) zM196 0 [some (.int (x1 / 100)), some (.int 0), some (.int 23)] [] h = some ((some (.int 1)), h) := by
    refine (r_iloadn f196_0 rfl).trans ?_
    refine (r_iloadn f196_1 rfl).trans ?_
    refine (r_icmp_lt_f f196_2 em0).trans ?_
    refine (r_iloadn f196_5 rfl).trans ?_
    refine (r_iloadn f196_6 rfl).trans ?_
    refine (r_icmp_gt_f f196_7 em1).trans ?_
    refine (r_iconst (v := 1) f196_10 rfl).trans ?_
    refine (r_goto f196_11).trans ?_
    exact r_zreturn f196_15 rfl (by decide)
  refine (r_stat (as := [.int (x1 / 100), .int 0, .int 23]) (v := (some (.int 1))) (h1 := h) f232_15 rfl zg196 rfl rfl rfl rfl rfl rfl hc1).trans ?_
  refine (r_if_eq_f f232_18 (by decide)).trans ?_
  refine (r_iloadn f232_21 rfl).trans ?_
  refine (r_bipush (v := 100) f232_22 rfl).trans ?_
  refine (r_irem (v := (x1 - x1 / 100 * 100)) f232_24 (by decide) rfl).trans ?_
  refine (r_iconst (v := 0) f232_25 rfl).trans ?_
  refine (r_bipush (v := 23) f232_26 rfl).trans ?_
  have hc2 : arun X (n + 83) (d + 2) zM196 0 [some (.int (x1 - x1 / 100 * 100)), some (.int 0), some (.int 23)] [] h = some ((some (.int 1)), h) := by
    refine (r_iloadn f196_0 rfl).trans ?_
    refine (r_iloadn f196_1 rfl).trans ?_
    refine (r_icmp_lt_f f196_2 em2).trans ?_
    refine (r_iloadn f196_5 rfl).trans ?_
    refine (r_iloadn f196_6 rfl).trans ?_
    refine (r_icmp_gt_f f196_7 em3).trans ?_
    refine (r_iconst (v := 1) f196_10 rfl).trans ?_
    refine (r_goto f196_11).trans ?_
    exact r_zreturn f196_15 rfl (by decide)
  refine (r_stat (as := [.int (x1 - x1 / 100 * 100), .int 0, .int 23]) (v := (some (.int 1))) (h1 := h) f232_28 rfl zg196 rfl rfl rfl rfl rfl rfl hc2).trans ?_
  refine (r_if_eq_f f232_31 (by decide)).trans ?_
  refine (r_iloadn f232_34 rfl).trans ?_
  refine (r_bipush (v := 100) f232_35 rfl).trans ?_
  refine (r_idiv (v := (x2 / 100)) f232_37 (by decide) rfl).trans ?_
  refine (r_iloadn f232_38 rfl).trans ?_
  refine (r_bipush (v := 100) f232_39 rfl).trans ?_
  refine (r_idiv (v := (x1 / 100)) f232_41 (by decide) rfl).trans ?_
  refine (r_bipush (v := 23) f232_42 rfl).trans ?_
  have hc3 : arun X (n + 74) (d + 2) zM196 0 [some (.int (x2 / 100)), some (.int (x1 / 100)), some (.int 23)] [] h = some ((some (.int 1)), h) := by
    refine (r_iloadn f196_0 rfl).trans ?_
    refine (r_iloadn f196_1 rfl).trans ?_
    refine (r_icmp_lt_f f196_2 ec4).trans ?_
    refine (r_iloadn f196_5 rfl).trans ?_
    refine (r_iloadn f196_6 rfl).trans ?_
    refine (r_icmp_gt_f f196_7 em4).trans ?_
    refine (r_iconst (v := 1) f196_10 rfl).trans ?_
    refine (r_goto f196_11).trans ?_
    exact r_zreturn f196_15 rfl (by decide)
  refine (r_stat (as := [.int (x2 / 100), .int (x1 / 100), .int 23]) (v := (some (.int 1))) (h1 := h) f232_44 rfl zg196 rfl rfl rfl rfl rfl rfl hc3).trans ?_
  refine (r_if_eq_f f232_47 (by decide)).trans ?_
  refine (r_iloadn f232_50 rfl).trans ?_
  refine (r_bipush (v := 100) f232_51 rfl).trans ?_
  refine (r_irem (v := (x2 - x2 / 100 * 100)) f232_53 (by decide) rfl).trans ?_
  refine (r_iloadn f232_54 rfl).trans ?_
  refine (r_bipush (v := 100) f232_55 rfl).trans ?_
  refine (r_irem (v := (x1 - x1 / 100 * 100)) f232_57 (by decide) rfl).trans ?_
  refine (r_bipush (v := 23) f232_58 rfl).trans ?_
  have hc4 : arun X (n + 65) (d + 2) zM196 0 [some (.int (x2 - x2 / 100 * 100)), some (.int (x1 - x1 / 100 * 100)), some (.int 23)] [] h = some ((some (.int 1)), h) := by
    refine (r_iloadn f196_0 rfl).trans ?_
    refine (r_iloadn f196_1 rfl).trans ?_
    refine (r_icmp_lt_f f196_2 ec5).trans ?_
    refine (r_iloadn f196_5 rfl).trans ?_
    refine (r_iloadn f196_6 rfl).trans ?_
    refine (r_icmp_gt_f f196_7 em5).trans ?_
    refine (r_iconst (v := 1) f196_10 rfl).trans ?_
    refine (r_goto f196_11).trans ?_
    exact r_zreturn f196_15 rfl (by decide)
  refine (r_stat (as := [.int (x2 - x2 / 100 * 100), .int (x1 - x1 / 100 * 100), .int 23]) (v := (some (.int 1))) (h1 := h) f232_60 rfl zg196 rfl rfl rfl rfl rfl rfl hc4).trans ?_
  refine (r_if_eq_f f232_63 (by decide)).trans ?_
  refine (r_iloadn f232_66 rfl).trans ?_
  have hc5 : arun X (n + 62) (d + 2) zM197 0 [some (.int x3)] [] h = some ((some (.int 1)), h) := by
    refine (r_iloadn f197_0 rfl).trans ?_
    refine (r_iconst (v := 0) f197_1 rfl).trans ?_
    refine (r_sipush (v := 3649) f197_2 rfl).trans ?_
    have hc6 : arun X (n + 58) (d + 1) zM196 0 [some (.int x3), some (.int 0), some (.int 3649)] [] h = some ((some (.int 1)), h) := by
      refine (r_iloadn f196_0 rfl).trans ?_
      refine (r_iloadn f196_1 rfl).trans ?_
      refine (r_icmp_lt_f f196_2 ec2).trans ?_
      refine (r_iloadn f196_5 rfl).trans ?_
      refine (r_iloadn f196_6 rfl).trans ?_
      refine (r_icmp_gt_f f196_7 ec3).trans ?_
      refine (r_iconst (v := 1) f196_10 rfl).trans ?_
      refine (r_goto f196_11).trans ?_
      exact r_zreturn f196_15 rfl (by decide)
    refine (r_stat (as := [.int x3, .int 0, .int 3649]) (v := (some (.int 1))) (h1 := h) f197_5 rfl zg196 rfl rfl rfl rfl rfl rfl hc6).trans ?_
    exact r_zreturn f197_8 rfl (by decide)
  refine (r_stat (as := [.int x3]) (v := (some (.int 1))) (h1 := h) f232_67 rfl zg197 rfl rfl rfl rfl rfl rfl hc5).trans ?_
  refine (r_if_ne_t f232_70 (by decide)).trans ?_
  refine (r_aloadn f232_75 rfl).trans ?_
  refine (r_get (v := .int 0) f232_76 g72 rfl).trans ?_
  refine (r_bipush (v := 40) f232_79 rfl).trans ?_
  refine (r_icmp_ne_t f232_81 (by decide)).trans ?_
  refine (r_aloadn f232_87 rfl).trans ?_
  refine (r_get (v := .ref 92) f232_88 g72 rfl).trans ?_
  refine (r_aloadn f232_91 rfl).trans ?_
  refine (r_get (v := .int 0) f232_92 g72 rfl).trans ?_
  refine (r_iloadn f232_95 rfl).trans ?_
  refine (r_bipush (v := 100) f232_96 rfl).trans ?_
  refine (r_idiv (v := (x1 / 100)) f232_98 (by decide) rfl).trans ?_
  refine (r_iast (h' := ((h.1.set 92 (.inl (0, 40, .inl (upd (fun _ => 0) (Int32.toNatClampNeg 0) (x1 / 100))))), h.2)) f232_99 g92 (by decide) rfl).trans ?_
  refine (r_aloadn f232_100 rfl).trans ?_
  refine (r_get (v := .ref 93) f232_101 (gs_ne g72 (by decide)) rfl).trans ?_
  refine (r_aloadn f232_104 rfl).trans ?_
  refine (r_get (v := .int 0) f232_105 (gs_ne g72 (by decide)) rfl).trans ?_
  refine (r_iloadn f232_108 rfl).trans ?_
  refine (r_bipush (v := 100) f232_109 rfl).trans ?_
  refine (r_irem (v := (x1 - x1 / 100 * 100)) f232_111 (by decide) rfl).trans ?_
  refine (r_iast (h' := (((h.1.set 92 (.inl (0, 40, .inl (upd (fun _ => 0) (Int32.toNatClampNeg 0) (x1 / 100))))).set 93 (.inl (0, 40, .inl (upd (fun _ => 0) (Int32.toNatClampNeg 0) (x1 - x1 / 100 * 100))))), h.2)) f232_112 (gs_ne g93 (by decide)) (by decide) rfl).trans ?_
  refine (r_aloadn f232_113 rfl).trans ?_
  refine (r_get (v := .ref 94) f232_114 (gs_ne (gs_ne g72 (by decide)) (by decide)) rfl).trans ?_
  refine (r_aloadn f232_117 rfl).trans ?_
  refine (r_get (v := .int 0) f232_118 (gs_ne (gs_ne g72 (by decide)) (by decide)) rfl).trans ?_
  refine (r_iloadn f232_121 rfl).trans ?_
  refine (r_bipush (v := 100) f232_122 rfl).trans ?_
  refine (r_idiv (v := (x2 / 100)) f232_124 (by decide) rfl).trans ?_
  refine (r_iast (h' := ((((h.1.set 92 (.inl (0, 40, .inl (upd (fun _ => 0) (Int32.toNatClampNeg 0) (x1 / 100))))).set 93 (.inl (0, 40, .inl (upd (fun _ => 0) (Int32.toNatClampNeg 0) (x1 - x1 / 100 * 100))))).set 94 (.inl (0, 40, .inl (upd (fun _ => 0) (Int32.toNatClampNeg 0) (x2 / 100))))), h.2)) f232_125 (gs_ne (gs_ne g94 (by decide)) (by decide)) (by decide) rfl).trans ?_
  refine (r_aloadn f232_126 rfl).trans ?_
  refine (r_get (v := .ref 95) f232_127 (gs_ne (gs_ne (gs_ne g72 (by decide)) (by decide)) (by decide)) rfl).trans ?_
  refine (r_aloadn f232_130 rfl).trans ?_
  refine (r_get (v := .int 0) f232_131 (gs_ne (gs_ne (gs_ne g72 (by decide)) (by decide)) (by decide)) rfl).trans ?_
  refine (r_iloadn f232_134 rfl).trans ?_
  refine (r_bipush (v := 100) f232_135 rfl).trans ?_
  refine (r_irem (v := (x2 - x2 / 100 * 100)) f232_137 (by decide) rfl).trans ?_
  refine (r_iast (h' := (((((h.1.set 92 (.inl (0, 40, .inl (upd (fun _ => 0) (Int32.toNatClampNeg 0) (x1 / 100))))).set 93 (.inl (0, 40, .inl (upd (fun _ => 0) (Int32.toNatClampNeg 0) (x1 - x1 / 100 * 100))))).set 94 (.inl (0, 40, .inl (upd (fun _ => 0) (Int32.toNatClampNeg 0) (x2 / 100))))).set 95 (.inl (0, 40, .inl (upd (fun _ => 0) (Int32.toNatClampNeg 0) (x2 - x2 / 100 * 100))))), h.2)) f232_138 (gs_ne (gs_ne (gs_ne g95 (by decide)) (by decide)) (by decide)) (by decide) rfl).trans ?_
  refine (r_aloadn f232_139 rfl).trans ?_
  refine (r_get (v := .ref 96) f232_140 (gs_ne (gs_ne (gs_ne (gs_ne g72 (by decide)) (by decide)) (by decide)) (by decide)) rfl).trans ?_
  refine (r_aloadn f232_143 rfl).trans ?_
  refine (r_get (v := .int 0) f232_144 (gs_ne (gs_ne (gs_ne (gs_ne g72 (by decide)) (by decide)) (by decide)) (by decide)) rfl).trans ?_
  refine (r_iloadn f232_147 rfl).trans ?_
  refine (r_iast (h' := ((((((h.1.set 92 (.inl (0, 40, .inl (upd (fun _ => 0) (Int32.toNatClampNeg 0) (x1 / 100))))).set 93 (.inl (0, 40, .inl (upd (fun _ => 0) (Int32.toNatClampNeg 0) (x1 - x1 / 100 * 100))))).set 94 (.inl (0, 40, .inl (upd (fun _ => 0) (Int32.toNatClampNeg 0) (x2 / 100))))).set 95 (.inl (0, 40, .inl (upd (fun _ => 0) (Int32.toNatClampNeg 0) (x2 - x2 / 100 * 100))))).set 96 (.inl (0, 40, .inl (upd (fun _ => 0) (Int32.toNatClampNeg 0) x3)))), h.2)) f232_148 (gs_ne (gs_ne (gs_ne (gs_ne g96 (by decide)) (by decide)) (by decide)) (by decide)) (by decide) rfl).trans ?_
  refine (r_aloadn f232_149 rfl).trans ?_
  refine (r_get (v := .ref 97) f232_150 (gs_ne (gs_ne (gs_ne (gs_ne (gs_ne g72 (by decide)) (by decide)) (by decide)) (by decide)) (by decide)) rfl).trans ?_
  refine (r_aloadn f232_153 rfl).trans ?_
  refine (r_get (v := .int 0) f232_154 (gs_ne (gs_ne (gs_ne (gs_ne (gs_ne g72 (by decide)) (by decide)) (by decide)) (by decide)) (by decide)) rfl).trans ?_
  refine (r_aloadn f232_157 rfl).trans ?_
  refine (r_get (v := .int 0) f232_158 (gs_ne (gs_ne (gs_ne (gs_ne (gs_ne g72 (by decide)) (by decide)) (by decide)) (by decide)) (by decide)) rfl).trans ?_
  refine (r_iast (h' := (((((((h.1.set 92 (.inl (0, 40, .inl (upd (fun _ => 0) (Int32.toNatClampNeg 0) (x1 / 100))))).set 93 (.inl (0, 40, .inl (upd (fun _ => 0) (Int32.toNatClampNeg 0) (x1 - x1 / 100 * 100))))).set 94 (.inl (0, 40, .inl (upd (fun _ => 0) (Int32.toNatClampNeg 0) (x2 / 100))))).set 95 (.inl (0, 40, .inl (upd (fun _ => 0) (Int32.toNatClampNeg 0) (x2 - x2 / 100 * 100))))).set 96 (.inl (0, 40, .inl (upd (fun _ => 0) (Int32.toNatClampNeg 0) x3)))).set 97 (.inl (0, 40, .inl (upd (fun _ => 0) (Int32.toNatClampNeg 0) 0)))), h.2)) f232_161 (gs_ne (gs_ne (gs_ne (gs_ne (gs_ne g97 (by decide)) (by decide)) (by decide)) (by decide)) (by decide)) (by decide) rfl).trans ?_
  refine (r_aloadn f232_162 rfl).trans ?_
  refine (r_dup f232_163 rfl).trans ?_
  refine (r_get (v := .int 0) f232_164 (gs_ne (gs_ne (gs_ne (gs_ne (gs_ne (gs_ne g72 (by decide)) (by decide)) (by decide)) (by decide)) (by decide)) (by decide)) rfl).trans ?_
  refine (r_iconst (v := 1) f232_167 rfl).trans ?_
  refine (r_iadd (v := 1) f232_168 (by decide)).trans ?_
  refine (r_put (h' := ((((((((h.1.set 92 (.inl (0, 40, .inl (upd (fun _ => 0) (Int32.toNatClampNeg 0) (x1 / 100))))).set 93 (.inl (0, 40, .inl (upd (fun _ => 0) (Int32.toNatClampNeg 0) (x1 - x1 / 100 * 100))))).set 94 (.inl (0, 40, .inl (upd (fun _ => 0) (Int32.toNatClampNeg 0) (x2 / 100))))).set 95 (.inl (0, 40, .inl (upd (fun _ => 0) (Int32.toNatClampNeg 0) (x2 - x2 / 100 * 100))))).set 96 (.inl (0, 40, .inl (upd (fun _ => 0) (Int32.toNatClampNeg 0) x3)))).set 97 (.inl (0, 40, .inl (upd (fun _ => 0) (Int32.toNatClampNeg 0) 0)))).set 72 (.inr (12, (zF72.set 25 (.int 1))))), h.2)) f232_169 (gs_ne (gs_ne (gs_ne (gs_ne (gs_ne (gs_ne g72 (by decide)) (by decide)) (by decide)) (by decide)) (by decide)) (by decide)) rfl rfl).trans ?_
  refine (r_aloadn f232_172 rfl).trans ?_
  refine (r_iconst (v := 1) f232_173 rfl).trans ?_
  refine (r_put (h' := ((((((((h.1.set 92 (.inl (0, 40, .inl (upd (fun _ => 0) (Int32.toNatClampNeg 0) (x1 / 100))))).set 93 (.inl (0, 40, .inl (upd (fun _ => 0) (Int32.toNatClampNeg 0) (x1 - x1 / 100 * 100))))).set 94 (.inl (0, 40, .inl (upd (fun _ => 0) (Int32.toNatClampNeg 0) (x2 / 100))))).set 95 (.inl (0, 40, .inl (upd (fun _ => 0) (Int32.toNatClampNeg 0) (x2 - x2 / 100 * 100))))).set 96 (.inl (0, 40, .inl (upd (fun _ => 0) (Int32.toNatClampNeg 0) x3)))).set 97 (.inl (0, 40, .inl (upd (fun _ => 0) (Int32.toNatClampNeg 0) 0)))).set 72 (.inr (12, ((zF72.set 25 (.int 1)).set 38 (.int 1))))), h.2)) f232_174 (gs_eq (gs_ne (gs_ne (gs_ne (gs_ne (gs_ne (gs_ne g72 (by decide)) (by decide)) (by decide)) (by decide)) (by decide)) (by decide))) rfl hss).trans ?_
  refine (r_aloadn f232_177 rfl).trans ?_
  refine (r_get (v := .int 1) f232_178 (gs_eq (gs_ne (gs_ne (gs_ne (gs_ne (gs_ne (gs_ne g72 (by decide)) (by decide)) (by decide)) (by decide)) (by decide)) (by decide))) rfl).trans ?_
  exact r_ireturn f232_181 rfl
set_option maxHeartbeats 40000000 in
theorem qc15_8 {X : aX} {n d : Nat} {h : aH} {x1 : Int32} {x2 : Int32} {x3 : Int32}  (ec0 : ¬ x1 < 0) (ec1 : ¬ x2 < 0) (ec2 : ¬ x3 < 0) (ec3 : ¬ 3649 < x3) (ec4 : ¬ (x2 / 100) < (x1 / 100)) (ec5 : ¬ (x2 - x2 / 100 * 100) < (x1 - x1 / 100 * 100)) (ec6 : ¬ 24 ≤ (x2 / 100)) (ec7 : ¬ (x2 - x2 / 100 * 100) < 24) : arun X (n + 37) (d + 3) zM159 0 [some (.ref 0), some (.int x1), some (.int x2), some (.int x3), none, none, none, none] [] h = some (some (.int (-1)), h) := by
  refine (r_iloadn f159_0 rfl).trans ?_
  refine (r_if_lt_f f159_1 ec0).trans ?_
  refine (r_iloadn f159_4 rfl).trans ?_
  refine (r_if_lt_f f159_5 ec1).trans ?_
  refine (r_iloadn f159_8 rfl).trans ?_
  have hc1 : arun X (n + 31) (d + 2) zM138 0 [some (.int x3)] [] h = some ((some (.int 1)), h) := by
    refine (r_iloadn f138_0 rfl).trans ?_
    refine (r_iconst (v := 0) f138_1 rfl).trans ?_
    refine (r_sipush (v := 3649) f138_2 rfl).trans ?_
    have hc2 : arun X (n + 27) (d + 1) zM137 0 [some (.int x3), some (.int 0), some (.int 3649)] [] h = some ((some (.int 1)), h) := by
      refine (r_iloadn f137_0 rfl).trans ?_
      refine (r_iloadn f137_1 rfl).trans ?_
      refine (r_icmp_gt_f f137_2 ec2).trans ?_
      refine (r_iloadn f137_5 rfl).trans ?_
      refine (r_iloadn f137_6 rfl).trans ?_
      refine (r_icmp_gt_f f137_7 ec3).trans ?_
      refine (r_iconst (v := 1) f137_10 rfl).trans ?_
      refine (r_goto f137_11).trans ?_
      exact r_zreturn f137_15 rfl (by decide)
    refine (r_stat (as := [.int x3, .int 0, .int 3649]) (v := (some (.int 1))) (h1 := h) f138_5 rfl zg137 rfl rfl rfl rfl rfl rfl hc2).trans ?_
    exact r_zreturn f138_8 rfl (by decide)
  refine (r_stat (as := [.int x3]) (v := (some (.int 1))) (h1 := h) f159_9 rfl zg138 rfl rfl rfl rfl rfl rfl hc1).trans ?_
  refine (r_if_ne_t f159_12 (by decide)).trans ?_
  refine (r_iloadn f159_17 rfl).trans ?_
  refine (r_bipush (v := 100) f159_18 rfl).trans ?_
  refine (r_idiv (v := (x1 / 100)) f159_20 (by decide) rfl).trans ?_
  refine (r_istore (L' := [some (.ref 0), some (.int x1), some (.int x2), some (.int x3), some (.int (x1 / 100)), none, none, none]) f159_21 rfl rfl).trans ?_
  refine (r_iloadn f159_23 rfl).trans ?_
  refine (r_bipush (v := 100) f159_24 rfl).trans ?_
  refine (r_irem (v := (x1 - x1 / 100 * 100)) f159_26 (by decide) rfl).trans ?_
  refine (r_istore (L' := [some (.ref 0), some (.int x1), some (.int x2), some (.int x3), some (.int (x1 / 100)), some (.int (x1 - x1 / 100 * 100)), none, none]) f159_27 rfl rfl).trans ?_
  refine (r_iloadn f159_29 rfl).trans ?_
  refine (r_bipush (v := 100) f159_30 rfl).trans ?_
  refine (r_idiv (v := (x2 / 100)) f159_32 (by decide) rfl).trans ?_
  refine (r_istore (L' := [some (.ref 0), some (.int x1), some (.int x2), some (.int x3), some (.int (x1 / 100)), some (.int (x1 - x1 / 100 * 100)), some (.int (x2 / 100)), none]) f159_33 rfl rfl).trans ?_
  refine (r_iloadn f159_35 rfl).trans ?_
  refine (r_bipush (v := 100) f159_36 rfl).trans ?_
  refine (r_irem (v := (x2 - x2 / 100 * 100)) f159_38 (by decide) rfl).trans ?_
  refine (r_istore (L' := [some (.ref 0), some (.int x1), some (.int x2), some (.int x3), some (.int (x1 / 100)), some (.int (x1 - x1 / 100 * 100)), some (.int (x2 / 100)), some (.int (x2 - x2 / 100 * 100))]) f159_39 rfl rfl).trans ?_
  refine (r_iload f159_41 rfl).trans ?_
  refine (r_iload f159_43 rfl).trans ?_
  refine (r_icmp_gt_f f159_45 ec4).trans ?_
  refine (r_iload f159_48 rfl).trans ?_
  refine (r_iload f159_50 rfl).trans ?_
  refine (r_icmp_gt_f f159_52 ec5).trans ?_
  refine (r_iload f159_55 rfl).trans ?_
  refine (r_bipush (v := 24) f159_57 rfl).trans ?_
  refine (r_icmp_ge_f f159_59 ec6).trans ?_
  refine (r_iload f159_62 rfl).trans ?_
  refine (r_bipush (v := 24) f159_64 rfl).trans ?_
  refine (r_icmp_lt_f f159_66 ec7).trans ?_
  refine (r_iconst (v := (-1)) f159_69 rfl).trans ?_
  exact r_ireturn f159_70 rfl
set_option maxHeartbeats 40000000 in
theorem qm15_8_0 {X : aX} {n d : Nat} {h : aH} {x1 : Int32} {x2 : Int32} {x3 : Int32}  (ec0 : ¬ x1 < 0) (ec1 : ¬ x2 < 0) (em0 : (x1 / 100) < 0) : arun X (n + 15) (d + 2) zM232 0 [some (.ref 72), some (.int x1), some (.int x2), some (.int x3)] [] h = some (some (.int (-1)), h) := by
  refine (r_iloadn f232_0 rfl).trans ?_
  refine (r_if_lt_f f232_1 ec0).trans ?_
  refine (r_iloadn f232_4 rfl).trans ?_
  refine (r_if_lt_f f232_5 ec1).trans ?_
  refine (r_iloadn f232_8 rfl).trans ?_
  refine (r_bipush (v := 100) f232_9 rfl).trans ?_
  refine (r_idiv (v := (x1 / 100)) f232_11 (by decide) rfl).trans ?_
  refine (r_iconst (v := 0) f232_12 rfl).trans ?_
  refine (r_bipush (v := 23) f232_13 rfl).trans ?_
  have hc1 : arun X (n + 5) (d + 1) zM196 0 [some (.int (x1 / 100)), some (.int 0), some (.int 23)] [] h = some ((some (.int 0)), h) := by
    refine (r_iloadn f196_0 rfl).trans ?_
    refine (r_iloadn f196_1 rfl).trans ?_
    refine (r_icmp_lt_t f196_2 em0).trans ?_
    refine (r_iconst (v := 0) f196_14 rfl).trans ?_
    exact r_zreturn f196_15 rfl (by decide)
  refine (r_stat (as := [.int (x1 / 100), .int 0, .int 23]) (v := (some (.int 0))) (h1 := h) f232_15 rfl zg196 rfl rfl rfl rfl rfl rfl hc1).trans ?_
  refine (r_if_eq_t f232_18 (by decide)).trans ?_
  refine (r_iconst (v := (-1)) f232_73 rfl).trans ?_
  exact r_ireturn f232_74 rfl
set_option maxHeartbeats 40000000 in
theorem qm15_8_1 {X : aX} {n d : Nat} {h : aH} {x1 : Int32} {x2 : Int32} {x3 : Int32}  (ec0 : ¬ x1 < 0) (ec1 : ¬ x2 < 0) (em0 : ¬ (x1 / 100) < 0) (em1 : 23 < (x1 / 100)) : arun X (n + 18) (d + 2) zM232 0 [some (.ref 72), some (.int x1), some (.int x2), some (.int x3)] [] h = some (some (.int (-1)), h) := by
  refine (r_iloadn f232_0 rfl).trans ?_
  refine (r_if_lt_f f232_1 ec0).trans ?_
  refine (r_iloadn f232_4 rfl).trans ?_
  refine (r_if_lt_f f232_5 ec1).trans ?_
  refine (r_iloadn f232_8 rfl).trans ?_
  refine (r_bipush (v := 100) f232_9 rfl).trans ?_
  refine (r_idiv (v := (x1 / 100)) f232_11 (by decide) rfl).trans ?_
  refine (r_iconst (v := 0) f232_12 rfl).trans ?_
  refine (r_bipush (v := 23) f232_13 rfl).trans ?_
  have hc1 : arun X (n + 8) (d + 1) zM196 0 [some (.int (x1 / 100)), some (.int 0), some (.int 23)] [] h = some ((some (.int 0)), h) := by
    refine (r_iloadn f196_0 rfl).trans ?_
    refine (r_iloadn f196_1 rfl).trans ?_
    refine (r_icmp_lt_f f196_2 em0).trans ?_
    refine (r_iloadn f196_5 rfl).trans ?_
    refine (r_iloadn f196_6 rfl).trans ?_
    refine (r_icmp_gt_t f196_7 em1).trans ?_
    refine (r_iconst (v := 0) f196_14 rfl).trans ?_
    exact r_zreturn f196_15 rfl (by decide)
  refine (r_stat (as := [.int (x1 / 100), .int 0, .int 23]) (v := (some (.int 0))) (h1 := h) f232_15 rfl zg196 rfl rfl rfl rfl rfl rfl hc1).trans ?_
  refine (r_if_eq_t f232_18 (by decide)).trans ?_
  refine (r_iconst (v := (-1)) f232_73 rfl).trans ?_
  exact r_ireturn f232_74 rfl
set_option maxHeartbeats 40000000 in
theorem qm15_8_2 {X : aX} {n d : Nat} {h : aH} {x1 : Int32} {x2 : Int32} {x3 : Int32}  (ec0 : ¬ x1 < 0) (ec1 : ¬ x2 < 0) (em0 : ¬ (x1 / 100) < 0) (em1 : ¬ 23 < (x1 / 100)) (em2 : (x1 - x1 / 100 * 100) < 0) : arun X (n + 22) (d + 2) zM232 0 [some (.ref 72), some (.int x1), some (.int x2), some (.int x3)] [] h = some (some (.int (-1)), h) := by
  refine (r_iloadn f232_0 rfl).trans ?_
  refine (r_if_lt_f f232_1 ec0).trans ?_
  refine (r_iloadn f232_4 rfl).trans ?_
  refine (r_if_lt_f f232_5 ec1).trans ?_
  refine (r_iloadn f232_8 rfl).trans ?_
  refine (r_bipush (v := 100) f232_9 rfl).trans ?_
  refine (r_idiv (v := (x1 / 100)) f232_11 (by decide) rfl).trans ?_
  refine (r_iconst (v := 0) f232_12 rfl).trans ?_
  refine (r_bipush (v := 23) f232_13 rfl).trans ?_
  have hc1 : arun X (n + 12) (d + 1) zM196 0 [some (.int (x1 / 100)), some (.int 0), some (.int 23)] [] h = some ((some (.int 1)), h) := by
    refine (r_iloadn f196_0 rfl).trans ?_
    refine (r_iloadn f196_1 rfl).trans ?_
    refine (r_icmp_lt_f f196_2 em0).trans ?_
    refine (r_iloadn f196_5 rfl).trans ?_
    refine (r_iloadn f196_6 rfl).trans ?_
    refine (r_icmp_gt_f f196_7 em1).trans ?_
    refine (r_iconst (v := 1) f196_10 rfl).trans ?_
    refine (r_goto f196_11).trans ?_
    exact r_zreturn f196_15 rfl (by decide)
  refine (r_stat (as := [.int (x1 / 100), .int 0, .int 23]) (v := (some (.int 1))) (h1 := h) f232_15 rfl zg196 rfl rfl rfl rfl rfl rfl hc1).trans ?_
  refine (r_if_eq_f f232_18 (by decide)).trans ?_
  refine (r_iloadn f232_21 rfl).trans ?_
  refine (r_bipush (v := 100) f232_22 rfl).trans ?_
  refine (r_irem (v := (x1 - x1 / 100 * 100)) f232_24 (by decide) rfl).trans ?_
  refine (r_iconst (v := 0) f232_25 rfl).trans ?_
  refine (r_bipush (v := 23) f232_26 rfl).trans ?_
  have hc2 : arun X (n + 5) (d + 1) zM196 0 [some (.int (x1 - x1 / 100 * 100)), some (.int 0), some (.int 23)] [] h = some ((some (.int 0)), h) := by
    refine (r_iloadn f196_0 rfl).trans ?_
    refine (r_iloadn f196_1 rfl).trans ?_
    refine (r_icmp_lt_t f196_2 em2).trans ?_
    refine (r_iconst (v := 0) f196_14 rfl).trans ?_
    exact r_zreturn f196_15 rfl (by decide)
  refine (r_stat (as := [.int (x1 - x1 / 100 * 100), .int 0, .int 23]) (v := (some (.int 0))) (h1 := h) f232_28 rfl zg196 rfl rfl rfl rfl rfl rfl hc2).trans ?_
  refine (r_if_eq_t f232_31 (by decide)).trans ?_
  refine (r_iconst (v := (-1)) f232_73 rfl).trans ?_
  exact r_ireturn f232_74 rfl
set_option maxHeartbeats 40000000 in
theorem qm15_8_3 {X : aX} {n d : Nat} {h : aH} {x1 : Int32} {x2 : Int32} {x3 : Int32}  (ec0 : ¬ x1 < 0) (ec1 : ¬ x2 < 0) (em0 : ¬ (x1 / 100) < 0) (em1 : ¬ 23 < (x1 / 100)) (em2 : ¬ (x1 - x1 / 100 * 100) < 0) (em3 : 23 < (x1 - x1 / 100 * 100)) : arun X (n + 25) (d + 2) zM232 0 [some (.ref 72), some (.int x1), some (.int x2), some (.int x3)] [] h = some (some (.int (-1)), h) := by
  refine (r_iloadn f232_0 rfl).trans ?_
  refine (r_if_lt_f f232_1 ec0).trans ?_
  refine (r_iloadn f232_4 rfl).trans ?_
  refine (r_if_lt_f f232_5 ec1).trans ?_
  refine (r_iloadn f232_8 rfl).trans ?_
  refine (r_bipush (v := 100) f232_9 rfl).trans ?_
  refine (r_idiv (v := (x1 / 100)) f232_11 (by decide) rfl).trans ?_
  refine (r_iconst (v := 0) f232_12 rfl).trans ?_
  refine (r_bipush (v := 23) f232_13 rfl).trans ?_
  have hc1 : arun X (n + 15) (d + 1) zM196 0 [some (.int (x1 / 100)), some (.int 0), some (.int 23)] [] h = some ((some (.int 1)), h) := by
    refine (r_iloadn f196_0 rfl).trans ?_
    refine (r_iloadn f196_1 rfl).trans ?_
    refine (r_icmp_lt_f f196_2 em0).trans ?_
    refine (r_iloadn f196_5 rfl).trans ?_
    refine (r_iloadn f196_6 rfl).trans ?_
    refine (r_icmp_gt_f f196_7 em1).trans ?_
    refine (r_iconst (v := 1) f196_10 rfl).trans ?_
    refine (r_goto f196_11).trans ?_
    exact r_zreturn f196_15 rfl (by decide)
  refine (r_stat (as := [.int (x1 / 100), .int 0, .int 23]) (v := (some (.int 1))) (h1 := h) f232_15 rfl zg196 rfl rfl rfl rfl rfl rfl hc1).trans ?_
  refine (r_if_eq_f f232_18 (by decide)).trans ?_
  refine (r_iloadn f232_21 rfl).trans ?_
  refine (r_bipush (v := 100) f232_22 rfl).trans ?_
  refine (r_irem (v := (x1 - x1 / 100 * 100)) f232_24 (by decide) rfl).trans ?_
  refine (r_iconst (v := 0) f232_25 rfl).trans ?_
  refine (r_bipush (v := 23) f232_26 rfl).trans ?_
  have hc2 : arun X (n + 8) (d + 1) zM196 0 [some (.int (x1 - x1 / 100 * 100)), some (.int 0), some (.int 23)] [] h = some ((some (.int 0)), h) := by
    refine (r_iloadn f196_0 rfl).trans ?_
    refine (r_iloadn f196_1 rfl).trans ?_
    refine (r_icmp_lt_f f196_2 em2).trans ?_
    refine (r_iloadn f196_5 rfl).trans ?_
    refine (r_iloadn f196_6 rfl).trans ?_
    refine (r_icmp_gt_t f196_7 em3).trans ?_
    refine (r_iconst (v := 0) f196_14 rfl).trans ?_
    exact r_zreturn f196_15 rfl (by decide)
  refine (r_stat (as := [.int (x1 - x1 / 100 * 100), .int 0, .int 23]) (v := (some (.int 0))) (h1 := h) f232_28 rfl zg196 rfl rfl rfl rfl rfl rfl hc2).trans ?_
  refine (r_if_eq_t f232_31 (by decide)).trans ?_
  refine (r_iconst (v := (-1)) f232_73 rfl).trans ?_
  exact r_ireturn f232_74 rfl
set_option maxHeartbeats 40000000 in
theorem qm15_8_4 {X : aX} {n d : Nat} {h : aH} {x1 : Int32} {x2 : Int32} {x3 : Int32}  (ec0 : ¬ x1 < 0) (ec1 : ¬ x2 < 0) (ec4 : ¬ (x2 / 100) < (x1 / 100)) (ec5 : ¬ (x2 - x2 / 100 * 100) < (x1 - x1 / 100 * 100)) (em0 : ¬ (x1 / 100) < 0) (em1 : ¬ 23 < (x1 / 100)) (em2 : ¬ (x1 - x1 / 100 * 100) < 0) (em3 : ¬ 23 < (x1 - x1 / 100 * 100)) (em4 : ¬ 23 < (x2 / 100)) (em5 : 23 < (x2 - x2 / 100 * 100)) : arun X (n + 43) (d + 2) zM232 0 [some (.ref 72), some (.int x1), some (.int x2), some (.int x3)] [] h = some (some (.int (-1)), h) := by
  refine (r_iloadn f232_0 rfl).trans ?_
  refine (r_if_lt_f f232_1 ec0).trans ?_
  refine (r_iloadn f232_4 rfl).trans ?_
  refine (r_if_lt_f f232_5 ec1).trans ?_
  refine (r_iloadn f232_8 rfl).trans ?_
  refine (r_bipush (v := 100) f232_9 rfl).trans ?_
  refine (r_idiv (v := (x1 / 100)) f232_11 (by decide) rfl).trans ?_
  refine (r_iconst (v := 0) f232_12 rfl).trans ?_
  refine (r_bipush (v := 23) f232_13 rfl).trans ?_
  have hc1 : arun X (n + 33) (d + 1) zM196 0 [some (.int (x1 / 100)), some (.int 0), some (.int 23)] [] h = some ((some (.int 1)), h) := by
    refine (r_iloadn f196_0 rfl).trans ?_
    refine (r_iloadn f196_1 rfl).trans ?_
    refine (r_icmp_lt_f f196_2 em0).trans ?_
    refine (r_iloadn f196_5 rfl).trans ?_
    refine (r_iloadn f196_6 rfl).trans ?_
    refine (r_icmp_gt_f f196_7 em1).trans ?_
    refine (r_iconst (v := 1) f196_10 rfl).trans ?_
    refine (r_goto f196_11).trans ?_
    exact r_zreturn f196_15 rfl (by decide)
  refine (r_stat (as := [.int (x1 / 100), .int 0, .int 23]) (v := (some (.int 1))) (h1 := h) f232_15 rfl zg196 rfl rfl rfl rfl rfl rfl hc1).trans ?_
  refine (r_if_eq_f f232_18 (by decide)).trans ?_
  refine (r_iloadn f232_21 rfl).trans ?_
  refine (r_bipush (v := 100) f232_22 rfl).trans ?_
  refine (r_irem (v := (x1 - x1 / 100 * 100)) f232_24 (by decide) rfl).trans ?_
  refine (r_iconst (v := 0) f232_25 rfl).trans ?_
  refine (r_bipush (v := 23) f232_26 rfl).trans ?_
  have hc2 : arun X (n + 26) (d + 1) zM196 0 [some (.int (x1 - x1 / 100 * 100)), some (.int 0), some (.int 23)] [] h = some ((some (.int 1)), h) := by
    refine (r_iloadn f196_0 rfl).trans ?_
    refine (r_iloadn f196_1 rfl).trans ?_
    refine (r_icmp_lt_f f196_2 em2).trans ?_
    refine (r_iloadn f196_5 rfl).trans ?_
    refine (r_iloadn f196_6 rfl).trans ?_
    refine (r_icmp_gt_f f196_7 em3).trans ?_
    refine (r_iconst (v := 1) f196_10 rfl).trans ?_
    refine (r_goto f196_11).trans ?_
    exact r_zreturn f196_15 rfl (by decide)
  refine (r_stat (as := [.int (x1 - x1 / 100 * 100), .int 0, .int 23]) (v := (some (.int 1))) (h1 := h) f232_28 rfl zg196 rfl rfl rfl rfl rfl rfl hc2).trans ?_
  refine (r_if_eq_f f232_31 (by decide)).trans ?_
  refine (r_iloadn f232_34 rfl).trans ?_
  refine (r_bipush (v := 100) f232_35 rfl).trans ?_
  refine (r_idiv (v := (x2 / 100)) f232_37 (by decide) rfl).trans ?_
  refine (r_iloadn f232_38 rfl).trans ?_
  refine (r_bipush (v := 100) f232_39 rfl).trans ?_
  refine (r_idiv (v := (x1 / 100)) f232_41 (by decide) rfl).trans ?_
  refine (r_bipush (v := 23) f232_42 rfl).trans ?_
  have hc3 : arun X (n + 17) (d + 1) zM196 0 [some (.int (x2 / 100)), some (.int (x1 / 100)), some (.int 23)] [] h = some ((some (.int 1)), h) := by
    refine (r_iloadn f196_0 rfl).trans ?_
    refine (r_iloadn f196_1 rfl).trans ?_
    refine (r_icmp_lt_f f196_2 ec4).trans ?_
    refine (r_iloadn f196_5 rfl).trans ?_
    refine (r_iloadn f196_6 rfl).trans ?_
    refine (r_icmp_gt_f f196_7 em4).trans ?_
    refine (r_iconst (v := 1) f196_10 rfl).trans ?_
    refine (r_goto f196_11).trans ?_
    exact r_zreturn f196_15 rfl (by decide)
  refine (r_stat (as := [.int (x2 / 100), .int (x1 / 100), .int 23]) (v := (some (.int 1))) (h1 := h) f232_44 rfl zg196 rfl rfl rfl rfl rfl rfl hc3).trans ?_
  refine (r_if_eq_f f232_47 (by decide)).trans ?_
  refine (r_iloadn f232_50 rfl).trans ?_
  refine (r_bipush (v := 100) f232_51 rfl).trans ?_
  refine (r_irem (v := (x2 - x2 / 100 * 100)) f232_53 (by decide) rfl).trans ?_
  refine (r_iloadn f232_54 rfl).trans ?_
  refine (r_bipush (v := 100) f232_55 rfl).trans ?_
  refine (r_irem (v := (x1 - x1 / 100 * 100)) f232_57 (by decide) rfl).trans ?_
  refine (r_bipush (v := 23) f232_58 rfl).trans ?_
  have hc4 : arun X (n + 8) (d + 1) zM196 0 [some (.int (x2 - x2 / 100 * 100)), some (.int (x1 - x1 / 100 * 100)), some (.int 23)] [] h = some ((some (.int 0)), h) := by
    refine (r_iloadn f196_0 rfl).trans ?_
    refine (r_iloadn f196_1 rfl).trans ?_
    refine (r_icmp_lt_f f196_2 ec5).trans ?_
    refine (r_iloadn f196_5 rfl).trans ?_
    refine (r_iloadn f196_6 rfl).trans ?_
    refine (r_icmp_gt_t f196_7 em5).trans ?_
    refine (r_iconst (v := 0) f196_14 rfl).trans ?_
    exact r_zreturn f196_15 rfl (by decide)
  refine (r_stat (as := [.int (x2 - x2 / 100 * 100), .int (x1 - x1 / 100 * 100), .int 23]) (v := (some (.int 0))) (h1 := h) f232_60 rfl zg196 rfl rfl rfl rfl rfl rfl hc4).trans ?_
  refine (r_if_eq_t f232_63 (by decide)).trans ?_
  refine (r_iconst (v := (-1)) f232_73 rfl).trans ?_
  exact r_ireturn f232_74 rfl
set_option maxHeartbeats 40000000 in
theorem qc16_0 {X : aX} {n d : Nat} {h : aH} {x1 : Int32} {x2 : Int32} {x3 : Int32} {x4 : Int32} {x5 : Int32}  (g0 : h.1[0]? = some (.inr (11, zF0))) (g1 : h.1[1]? = some (.inr (6, zF1))) (ec0 : x1 < 0) : arun X (n + 19) (d + 4) zM160 0 [some (.ref 0), some (.int x1), some (.int x2), some (.int x3), some (.int x4), some (.int x5), none, none] [] h = some (some (.int (-1)), h) := by
  refine (r_aloadn f160_0 rfl).trans ?_
  refine (r_get (v := .ref 1) f160_1 g0 rfl).trans ?_
  refine (r_iloadn f160_4 rfl).trans ?_
  have hc1 : arun X (n + 15) (d + 3) zM75 0 [some (.ref 1), some (.int x1)] [] h = some ((some (.int 0)), h) := by
    refine (r_aloadn f75_0 rfl).trans ?_
    refine (r_iloadn f75_1 rfl).trans ?_
    have hc2 : arun X (n + 12) (d + 2) zM74 0 [some (.ref 1), some (.int x1)] [] h = some ((some (.int 0)), h) := by
      refine (r_iloadn f74_0 rfl).trans ?_
      refine (r_iconst (v := 0) f74_1 rfl).trans ?_
      refine (r_aloadn f74_2 rfl).trans ?_
      refine (r_get (v := .int 0) f74_3 g1 rfl).trans ?_
      refine (r_iconst (v := 1) f74_6 rfl).trans ?_
      refine (r_isub (v := (-1)) f74_7 (by decide)).trans ?_
      have hc3 : arun X (n + 5) (d + 1) zM137 0 [some (.int x1), some (.int 0), some (.int (-1))] [] h = some ((some (.int 0)), h) := by
        refine (r_iloadn f137_0 rfl).trans ?_
        refine (r_iloadn f137_1 rfl).trans ?_
        refine (r_icmp_gt_t f137_2 ec0).trans ?_
        refine (r_iconst (v := 0) f137_14 rfl).trans ?_
        exact r_zreturn f137_15 rfl (by decide)
      refine (r_stat (as := [.int x1, .int 0, .int (-1)]) (v := (some (.int 0))) (h1 := h) f74_8 rfl zg137 rfl rfl rfl rfl rfl rfl hc3).trans ?_
      exact r_zreturn f74_11 rfl (by decide)
    refine (r_virt (as := [.int x1]) (v := (some (.int 0))) (h1 := h) f75_2 g1 zg74 rfl rfl rfl rfl rfl rfl hc2).trans ?_
    refine (r_if_eq_t f75_5 (by decide)).trans ?_
    refine (r_iconst (v := 0) f75_24 rfl).trans ?_
    exact r_zreturn f75_25 rfl (by decide)
  refine (r_virt (as := [.int x1]) (v := (some (.int 0))) (h1 := h) f160_5 g1 zg75 rfl rfl rfl rfl rfl rfl hc1).trans ?_
  refine (r_if_eq_t f160_8 (by decide)).trans ?_
  refine (r_iconst (v := (-1)) f160_47 rfl).trans ?_
  exact r_ireturn f160_48 rfl
set_option maxHeartbeats 40000000 in
theorem qm16_0_0 {X : aX} {n d : Nat} {h : aH} {x1 : Int32} {x2 : Int32} {x3 : Int32} {x4 : Int32} {x5 : Int32}  (g72 : h.1[72]? = some (.inr (12, zF72))) (ec0 : x1 < 0) : arun X (n + 18) (d + 4) zM242 0 [some (.ref 72), some (.int x1), some (.int x2), some (.int x3), some (.int x4), some (.int x5), none] [] h = some (some (.int (-1)), h) := by
  refine (r_aloadn f242_0 rfl).trans ?_
  refine (r_iloadn f242_1 rfl).trans ?_
  have hc1 : arun X (n + 15) (d + 3) zM202 0 [some (.ref 72), some (.int x1)] [] h = some ((some (.int 0)), h) := by
    refine (r_aloadn f202_0 rfl).trans ?_
    refine (r_iloadn f202_1 rfl).trans ?_
    have hc2 : arun X (n + 12) (d + 2) zM200 0 [some (.ref 72), some (.int x1)] [] h = some ((some (.int 0)), h) := by
      refine (r_iloadn f200_0 rfl).trans ?_
      refine (r_iconst (v := 0) f200_1 rfl).trans ?_
      refine (r_aloadn f200_2 rfl).trans ?_
      refine (r_get (v := .int 0) f200_3 g72 rfl).trans ?_
      refine (r_iconst (v := 1) f200_6 rfl).trans ?_
      refine (r_isub (v := (-1)) f200_7 (by decide)).trans ?_
      have hc3 : arun X (n + 5) (d + 1) zM196 0 [some (.int x1), some (.int 0), some (.int (-1))] [] h = some ((some (.int 0)), h) := by
        refine (r_iloadn f196_0 rfl).trans ?_
        refine (r_iloadn f196_1 rfl).trans ?_
        refine (r_icmp_lt_t f196_2 ec0).trans ?_
        refine (r_iconst (v := 0) f196_14 rfl).trans ?_
        exact r_zreturn f196_15 rfl (by decide)
      refine (r_stat (as := [.int x1, .int 0, .int (-1)]) (v := (some (.int 0))) (h1 := h) f200_8 rfl zg196 rfl rfl rfl rfl rfl rfl hc3).trans ?_
      exact r_zreturn f200_11 rfl (by decide)
    refine (r_virt (as := [.int x1]) (v := (some (.int 0))) (h1 := h) f202_2 g72 zg200 rfl rfl rfl rfl rfl rfl hc2).trans ?_
    refine (r_if_eq_t f202_5 (by decide)).trans ?_
    refine (r_iconst (v := 0) f202_25 rfl).trans ?_
    exact r_zreturn f202_26 rfl (by decide)
  refine (r_virt (as := [.int x1]) (v := (some (.int 0))) (h1 := h) f242_2 g72 zg202 rfl rfl rfl rfl rfl rfl hc1).trans ?_
  refine (r_if_eq_t f242_5 (by decide)).trans ?_
  refine (r_iconst (v := (-1)) f242_41 rfl).trans ?_
  exact r_ireturn f242_42 rfl
set_option maxHeartbeats 40000000 in
theorem qc16_1 {X : aX} {n d : Nat} {h : aH} {x1 : Int32} {x2 : Int32} {x3 : Int32} {x4 : Int32} {x5 : Int32}  (g0 : h.1[0]? = some (.inr (11, zF0))) (g1 : h.1[1]? = some (.inr (6, zF1))) (ec0 : ¬ x1 < 0) (ec1 : (-1) < x1) : arun X (n + 22) (d + 4) zM160 0 [some (.ref 0), some (.int x1), some (.int x2), some (.int x3), some (.int x4), some (.int x5), none, none] [] h = some (some (.int (-1)), h) := by
  refine (r_aloadn f160_0 rfl).trans ?_
  refine (r_get (v := .ref 1) f160_1 g0 rfl).trans ?_
  refine (r_iloadn f160_4 rfl).trans ?_
  have hc1 : arun X (n + 18) (d + 3) zM75 0 [some (.ref 1), some (.int x1)] [] h = some ((some (.int 0)), h) := by
    refine (r_aloadn f75_0 rfl).trans ?_
    refine (r_iloadn f75_1 rfl).trans ?_
    have hc2 : arun X (n + 15) (d + 2) zM74 0 [some (.ref 1), some (.int x1)] [] h = some ((some (.int 0)), h) := by
      refine (r_iloadn f74_0 rfl).trans ?_
      refine (r_iconst (v := 0) f74_1 rfl).trans ?_
      refine (r_aloadn f74_2 rfl).trans ?_
      refine (r_get (v := .int 0) f74_3 g1 rfl).trans ?_
      refine (r_iconst (v := 1) f74_6 rfl).trans ?_
      refine (r_isub (v := (-1)) f74_7 (by decide)).trans ?_
      have hc3 : arun X (n + 8) (d + 1) zM137 0 [some (.int x1), some (.int 0), some (.int (-1))] [] h = some ((some (.int 0)), h) := by
        refine (r_iloadn f137_0 rfl).trans ?_
        refine (r_iloadn f137_1 rfl).trans ?_
        refine (r_icmp_gt_f f137_2 ec0).trans ?_
        refine (r_iloadn f137_5 rfl).trans ?_
        refine (r_iloadn f137_6 rfl).trans ?_
        refine (r_icmp_gt_t f137_7 ec1).trans ?_
        refine (r_iconst (v := 0) f137_14 rfl).trans ?_
        exact r_zreturn f137_15 rfl (by decide)
      refine (r_stat (as := [.int x1, .int 0, .int (-1)]) (v := (some (.int 0))) (h1 := h) f74_8 rfl zg137 rfl rfl rfl rfl rfl rfl hc3).trans ?_
      exact r_zreturn f74_11 rfl (by decide)
    refine (r_virt (as := [.int x1]) (v := (some (.int 0))) (h1 := h) f75_2 g1 zg74 rfl rfl rfl rfl rfl rfl hc2).trans ?_
    refine (r_if_eq_t f75_5 (by decide)).trans ?_
    refine (r_iconst (v := 0) f75_24 rfl).trans ?_
    exact r_zreturn f75_25 rfl (by decide)
  refine (r_virt (as := [.int x1]) (v := (some (.int 0))) (h1 := h) f160_5 g1 zg75 rfl rfl rfl rfl rfl rfl hc1).trans ?_
  refine (r_if_eq_t f160_8 (by decide)).trans ?_
  refine (r_iconst (v := (-1)) f160_47 rfl).trans ?_
  exact r_ireturn f160_48 rfl
set_option maxHeartbeats 40000000 in
theorem qm16_1_0 {X : aX} {n d : Nat} {h : aH} {x1 : Int32} {x2 : Int32} {x3 : Int32} {x4 : Int32} {x5 : Int32}  (g72 : h.1[72]? = some (.inr (12, zF72))) (ec0 : ¬ x1 < 0) (ec1 : (-1) < x1) : arun X (n + 21) (d + 4) zM242 0 [some (.ref 72), some (.int x1), some (.int x2), some (.int x3), some (.int x4), some (.int x5), none] [] h = some (some (.int (-1)), h) := by
  refine (r_aloadn f242_0 rfl).trans ?_
  refine (r_iloadn f242_1 rfl).trans ?_
  have hc1 : arun X (n + 18) (d + 3) zM202 0 [some (.ref 72), some (.int x1)] [] h = some ((some (.int 0)), h) := by
    refine (r_aloadn f202_0 rfl).trans ?_
    refine (r_iloadn f202_1 rfl).trans ?_
    have hc2 : arun X (n + 15) (d + 2) zM200 0 [some (.ref 72), some (.int x1)] [] h = some ((some (.int 0)), h) := by
      refine (r_iloadn f200_0 rfl).trans ?_
      refine (r_iconst (v := 0) f200_1 rfl).trans ?_
      refine (r_aloadn f200_2 rfl).trans ?_
      refine (r_get (v := .int 0) f200_3 g72 rfl).trans ?_
      refine (r_iconst (v := 1) f200_6 rfl).trans ?_
      refine (r_isub (v := (-1)) f200_7 (by decide)).trans ?_
      have hc3 : arun X (n + 8) (d + 1) zM196 0 [some (.int x1), some (.int 0), some (.int (-1))] [] h = some ((some (.int 0)), h) := by
        refine (r_iloadn f196_0 rfl).trans ?_
        refine (r_iloadn f196_1 rfl).trans ?_
        refine (r_icmp_lt_f f196_2 ec0).trans ?_
        refine (r_iloadn f196_5 rfl).trans ?_
        refine (r_iloadn f196_6 rfl).trans ?_
        refine (r_icmp_gt_t f196_7 ec1).trans ?_
        refine (r_iconst (v := 0) f196_14 rfl).trans ?_
        exact r_zreturn f196_15 rfl (by decide)
      refine (r_stat (as := [.int x1, .int 0, .int (-1)]) (v := (some (.int 0))) (h1 := h) f200_8 rfl zg196 rfl rfl rfl rfl rfl rfl hc3).trans ?_
      exact r_zreturn f200_11 rfl (by decide)
    refine (r_virt (as := [.int x1]) (v := (some (.int 0))) (h1 := h) f202_2 g72 zg200 rfl rfl rfl rfl rfl rfl hc2).trans ?_
    refine (r_if_eq_t f202_5 (by decide)).trans ?_
    refine (r_iconst (v := 0) f202_25 rfl).trans ?_
    exact r_zreturn f202_26 rfl (by decide)
  refine (r_virt (as := [.int x1]) (v := (some (.int 0))) (h1 := h) f242_2 g72 zg202 rfl rfl rfl rfl rfl rfl hc1).trans ?_
  refine (r_if_eq_t f242_5 (by decide)).trans ?_
  refine (r_iconst (v := (-1)) f242_41 rfl).trans ?_
  exact r_ireturn f242_42 rfl
set_option maxHeartbeats 40000000 in
theorem qc17_0 {X : aX} {n d : Nat} {h : aH} {x1 : Int32} {x2 : Int32} {x3 : Int32} {x4 : Int32}  (g0 : h.1[0]? = some (.inr (11, zF0))) (g1 : h.1[1]? = some (.inr (6, zF1))) (ec0 : x1 < 0) : arun X (n + 19) (d + 4) zM161 0 [some (.ref 0), some (.int x1), some (.int x2), some (.int x3), some (.int x4)] [] h = some (some (.int (-1)), h) := by
  refine (r_aloadn f161_0 rfl).trans ?_
  refine (r_get (v := .ref 1) f161_1 g0 rfl).trans ?_
  refine (r_iloadn f161_4 rfl).trans ?_
  have hc1 : arun X (n + 15) (d + 3) zM75 0 [some (.ref 1), some (.int x1)] [] h = some ((some (.int 0)), h) := by
    refine (r_aloadn f75_0 rfl).trans ?_
    refine (r_iloadn f75_1 rfl).trans ?_
    have hc2 : arun X (n + 12) (d + 2) zM74 0 [some (.ref 1), some (.int x1)] [] h = some ((some (.int 0)), h) := by
      refine (r_iloadn f74_0 rfl).trans ?_
      refine (r_iconst (v := 0) f74_1 rfl).trans ?_
      refine (r_aloadn f74_2 rfl).trans ?_
      refine (r_get (v := .int 0) f74_3 g1 rfl).trans ?_
      refine (r_iconst (v := 1) f74_6 rfl).trans ?_
      refine (r_isub (v := (-1)) f74_7 (by decide)).trans ?_
      have hc3 : arun X (n + 5) (d + 1) zM137 0 [some (.int x1), some (.int 0), some (.int (-1))] [] h = some ((some (.int 0)), h) := by
        refine (r_iloadn f137_0 rfl).trans ?_
        refine (r_iloadn f137_1 rfl).trans ?_
        refine (r_icmp_gt_t f137_2 ec0).trans ?_
        refine (r_iconst (v := 0) f137_14 rfl).trans ?_
        exact r_zreturn f137_15 rfl (by decide)
      refine (r_stat (as := [.int x1, .int 0, .int (-1)]) (v := (some (.int 0))) (h1 := h) f74_8 rfl zg137 rfl rfl rfl rfl rfl rfl hc3).trans ?_
      exact r_zreturn f74_11 rfl (by decide)
    refine (r_virt (as := [.int x1]) (v := (some (.int 0))) (h1 := h) f75_2 g1 zg74 rfl rfl rfl rfl rfl rfl hc2).trans ?_
    refine (r_if_eq_t f75_5 (by decide)).trans ?_
    refine (r_iconst (v := 0) f75_24 rfl).trans ?_
    exact r_zreturn f75_25 rfl (by decide)
  refine (r_virt (as := [.int x1]) (v := (some (.int 0))) (h1 := h) f161_5 g1 zg75 rfl rfl rfl rfl rfl rfl hc1).trans ?_
  refine (r_if_eq_t f161_8 (by decide)).trans ?_
  refine (r_iconst (v := (-1)) f161_41 rfl).trans ?_
  exact r_ireturn f161_42 rfl
set_option maxHeartbeats 40000000 in
theorem qm17_0_0 {X : aX} {n d : Nat} {h : aH} {x1 : Int32} {x2 : Int32} {x3 : Int32} {x4 : Int32}  (g72 : h.1[72]? = some (.inr (12, zF72))) (ec0 : x1 < 0) : arun X (n + 18) (d + 4) zM243 0 [some (.ref 72), some (.int x1), some (.int x2), some (.int x3), some (.int x4)] [] h = some (some (.int (-1)), h) := by
  refine (r_aloadn f243_0 rfl).trans ?_
  refine (r_iloadn f243_1 rfl).trans ?_
  have hc1 : arun X (n + 15) (d + 3) zM202 0 [some (.ref 72), some (.int x1)] [] h = some ((some (.int 0)), h) := by
    refine (r_aloadn f202_0 rfl).trans ?_
    refine (r_iloadn f202_1 rfl).trans ?_
    have hc2 : arun X (n + 12) (d + 2) zM200 0 [some (.ref 72), some (.int x1)] [] h = some ((some (.int 0)), h) := by
      refine (r_iloadn f200_0 rfl).trans ?_
      refine (r_iconst (v := 0) f200_1 rfl).trans ?_
      refine (r_aloadn f200_2 rfl).trans ?_
      refine (r_get (v := .int 0) f200_3 g72 rfl).trans ?_
      refine (r_iconst (v := 1) f200_6 rfl).trans ?_
      refine (r_isub (v := (-1)) f200_7 (by decide)).trans ?_
      have hc3 : arun X (n + 5) (d + 1) zM196 0 [some (.int x1), some (.int 0), some (.int (-1))] [] h = some ((some (.int 0)), h) := by
        refine (r_iloadn f196_0 rfl).trans ?_
        refine (r_iloadn f196_1 rfl).trans ?_
        refine (r_icmp_lt_t f196_2 ec0).trans ?_
        refine (r_iconst (v := 0) f196_14 rfl).trans ?_
        exact r_zreturn f196_15 rfl (by decide)
      refine (r_stat (as := [.int x1, .int 0, .int (-1)]) (v := (some (.int 0))) (h1 := h) f200_8 rfl zg196 rfl rfl rfl rfl rfl rfl hc3).trans ?_
      exact r_zreturn f200_11 rfl (by decide)
    refine (r_virt (as := [.int x1]) (v := (some (.int 0))) (h1 := h) f202_2 g72 zg200 rfl rfl rfl rfl rfl rfl hc2).trans ?_
    refine (r_if_eq_t f202_5 (by decide)).trans ?_
    refine (r_iconst (v := 0) f202_25 rfl).trans ?_
    exact r_zreturn f202_26 rfl (by decide)
  refine (r_virt (as := [.int x1]) (v := (some (.int 0))) (h1 := h) f243_2 g72 zg202 rfl rfl rfl rfl rfl rfl hc1).trans ?_
  refine (r_if_eq_t f243_5 (by decide)).trans ?_
  refine (r_iconst (v := (-1)) f243_35 rfl).trans ?_
  exact r_ireturn f243_36 rfl
set_option maxHeartbeats 40000000 in
theorem qc17_1 {X : aX} {n d : Nat} {h : aH} {x1 : Int32} {x2 : Int32} {x3 : Int32} {x4 : Int32}  (g0 : h.1[0]? = some (.inr (11, zF0))) (g1 : h.1[1]? = some (.inr (6, zF1))) (ec0 : ¬ x1 < 0) (ec1 : (-1) < x1) : arun X (n + 22) (d + 4) zM161 0 [some (.ref 0), some (.int x1), some (.int x2), some (.int x3), some (.int x4)] [] h = some (some (.int (-1)), h) := by
  refine (r_aloadn f161_0 rfl).trans ?_
  refine (r_get (v := .ref 1) f161_1 g0 rfl).trans ?_
  refine (r_iloadn f161_4 rfl).trans ?_
  have hc1 : arun X (n + 18) (d + 3) zM75 0 [some (.ref 1), some (.int x1)] [] h = some ((some (.int 0)), h) := by
    refine (r_aloadn f75_0 rfl).trans ?_
    refine (r_iloadn f75_1 rfl).trans ?_
    have hc2 : arun X (n + 15) (d + 2) zM74 0 [some (.ref 1), some (.int x1)] [] h = some ((some (.int 0)), h) := by
      refine (r_iloadn f74_0 rfl).trans ?_
      refine (r_iconst (v := 0) f74_1 rfl).trans ?_
      refine (r_aloadn f74_2 rfl).trans ?_
      refine (r_get (v := .int 0) f74_3 g1 rfl).trans ?_
      refine (r_iconst (v := 1) f74_6 rfl).trans ?_
      refine (r_isub (v := (-1)) f74_7 (by decide)).trans ?_
      have hc3 : arun X (n + 8) (d + 1) zM137 0 [some (.int x1), some (.int 0), some (.int (-1))] [] h = some ((some (.int 0)), h) := by
        refine (r_iloadn f137_0 rfl).trans ?_
        refine (r_iloadn f137_1 rfl).trans ?_
        refine (r_icmp_gt_f f137_2 ec0).trans ?_
        refine (r_iloadn f137_5 rfl).trans ?_
        refine (r_iloadn f137_6 rfl).trans ?_
        refine (r_icmp_gt_t f137_7 ec1).trans ?_
        refine (r_iconst (v := 0) f137_14 rfl).trans ?_
        exact r_zreturn f137_15 rfl (by decide)
      refine (r_stat (as := [.int x1, .int 0, .int (-1)]) (v := (some (.int 0))) (h1 := h) f74_8 rfl zg137 rfl rfl rfl rfl rfl rfl hc3).trans ?_
      exact r_zreturn f74_11 rfl (by decide)
    refine (r_virt (as := [.int x1]) (v := (some (.int 0))) (h1 := h) f75_2 g1 zg74 rfl rfl rfl rfl rfl rfl hc2).trans ?_
    refine (r_if_eq_t f75_5 (by decide)).trans ?_
    refine (r_iconst (v := 0) f75_24 rfl).trans ?_
    exact r_zreturn f75_25 rfl (by decide)
  refine (r_virt (as := [.int x1]) (v := (some (.int 0))) (h1 := h) f161_5 g1 zg75 rfl rfl rfl rfl rfl rfl hc1).trans ?_
  refine (r_if_eq_t f161_8 (by decide)).trans ?_
  refine (r_iconst (v := (-1)) f161_41 rfl).trans ?_
  exact r_ireturn f161_42 rfl
set_option maxHeartbeats 40000000 in
theorem qm17_1_0 {X : aX} {n d : Nat} {h : aH} {x1 : Int32} {x2 : Int32} {x3 : Int32} {x4 : Int32}  (g72 : h.1[72]? = some (.inr (12, zF72))) (ec0 : ¬ x1 < 0) (ec1 : (-1) < x1) : arun X (n + 21) (d + 4) zM243 0 [some (.ref 72), some (.int x1), some (.int x2), some (.int x3), some (.int x4)] [] h = some (some (.int (-1)), h) := by
  refine (r_aloadn f243_0 rfl).trans ?_
  refine (r_iloadn f243_1 rfl).trans ?_
  have hc1 : arun X (n + 18) (d + 3) zM202 0 [some (.ref 72), some (.int x1)] [] h = some ((some (.int 0)), h) := by
    refine (r_aloadn f202_0 rfl).trans ?_
    refine (r_iloadn f202_1 rfl).trans ?_
    have hc2 : arun X (n + 15) (d + 2) zM200 0 [some (.ref 72), some (.int x1)] [] h = some ((some (.int 0)), h) := by
      refine (r_iloadn f200_0 rfl).trans ?_
      refine (r_iconst (v := 0) f200_1 rfl).trans ?_
      refine (r_aloadn f200_2 rfl).trans ?_
      refine (r_get (v := .int 0) f200_3 g72 rfl).trans ?_
      refine (r_iconst (v := 1) f200_6 rfl).trans ?_
      refine (r_isub (v := (-1)) f200_7 (by decide)).trans ?_
      have hc3 : arun X (n + 8) (d + 1) zM196 0 [some (.int x1), some (.int 0), some (.int (-1))] [] h = some ((some (.int 0)), h) := by
        refine (r_iloadn f196_0 rfl).trans ?_
        refine (r_iloadn f196_1 rfl).trans ?_
        refine (r_icmp_lt_f f196_2 ec0).trans ?_
        refine (r_iloadn f196_5 rfl).trans ?_
        refine (r_iloadn f196_6 rfl).trans ?_
        refine (r_icmp_gt_t f196_7 ec1).trans ?_
        refine (r_iconst (v := 0) f196_14 rfl).trans ?_
        exact r_zreturn f196_15 rfl (by decide)
      refine (r_stat (as := [.int x1, .int 0, .int (-1)]) (v := (some (.int 0))) (h1 := h) f200_8 rfl zg196 rfl rfl rfl rfl rfl rfl hc3).trans ?_
      exact r_zreturn f200_11 rfl (by decide)
    refine (r_virt (as := [.int x1]) (v := (some (.int 0))) (h1 := h) f202_2 g72 zg200 rfl rfl rfl rfl rfl rfl hc2).trans ?_
    refine (r_if_eq_t f202_5 (by decide)).trans ?_
    refine (r_iconst (v := 0) f202_25 rfl).trans ?_
    exact r_zreturn f202_26 rfl (by decide)
  refine (r_virt (as := [.int x1]) (v := (some (.int 0))) (h1 := h) f243_2 g72 zg202 rfl rfl rfl rfl rfl rfl hc1).trans ?_
  refine (r_if_eq_t f243_5 (by decide)).trans ?_
  refine (r_iconst (v := (-1)) f243_35 rfl).trans ?_
  exact r_ireturn f243_36 rfl
set_option maxHeartbeats 40000000 in
theorem qc18_0 {X : aX} {n d : Nat} {h : aH} {x1 : Int32} {x2 : Int32}  (g0 : h.1[0]? = some (.inr (11, zF0))) (g1 : h.1[1]? = some (.inr (6, zF1))) (ec0 : x1 < 0) : arun X (n + 19) (d + 4) zM162 0 [some (.ref 0), some (.int x1), some (.int x2)] [] h = some (some (.int (-1)), h) := by
  refine (r_aloadn f162_0 rfl).trans ?_
  refine (r_get (v := .ref 1) f162_1 g0 rfl).trans ?_
  refine (r_iloadn f162_4 rfl).trans ?_
  have hc1 : arun X (n + 15) (d + 3) zM75 0 [some (.ref 1), some (.int x1)] [] h = some ((some (.int 0)), h) := by
    refine (r_aloadn f75_0 rfl).trans ?_
    refine (r_iloadn f75_1 rfl).trans ?_
    have hc2 : arun X (n + 12) (d + 2) zM74 0 [some (.ref 1), some (.int x1)] [] h = some ((some (.int 0)), h) := by
      refine (r_iloadn f74_0 rfl).trans ?_
      refine (r_iconst (v := 0) f74_1 rfl).trans ?_
      refine (r_aloadn f74_2 rfl).trans ?_
      refine (r_get (v := .int 0) f74_3 g1 rfl).trans ?_
      refine (r_iconst (v := 1) f74_6 rfl).trans ?_
      refine (r_isub (v := (-1)) f74_7 (by decide)).trans ?_
      have hc3 : arun X (n + 5) (d + 1) zM137 0 [some (.int x1), some (.int 0), some (.int (-1))] [] h = some ((some (.int 0)), h) := by
        refine (r_iloadn f137_0 rfl).trans ?_
        refine (r_iloadn f137_1 rfl).trans ?_
        refine (r_icmp_gt_t f137_2 ec0).trans ?_
        refine (r_iconst (v := 0) f137_14 rfl).trans ?_
        exact r_zreturn f137_15 rfl (by decide)
      refine (r_stat (as := [.int x1, .int 0, .int (-1)]) (v := (some (.int 0))) (h1 := h) f74_8 rfl zg137 rfl rfl rfl rfl rfl rfl hc3).trans ?_
      exact r_zreturn f74_11 rfl (by decide)
    refine (r_virt (as := [.int x1]) (v := (some (.int 0))) (h1 := h) f75_2 g1 zg74 rfl rfl rfl rfl rfl rfl hc2).trans ?_
    refine (r_if_eq_t f75_5 (by decide)).trans ?_
    refine (r_iconst (v := 0) f75_24 rfl).trans ?_
    exact r_zreturn f75_25 rfl (by decide)
  refine (r_virt (as := [.int x1]) (v := (some (.int 0))) (h1 := h) f162_5 g1 zg75 rfl rfl rfl rfl rfl rfl hc1).trans ?_
  refine (r_if_eq_t f162_8 (by decide)).trans ?_
  refine (r_iconst (v := (-1)) f162_18 rfl).trans ?_
  exact r_ireturn f162_19 rfl
set_option maxHeartbeats 40000000 in
theorem qm18_0_0 {X : aX} {n d : Nat} {h : aH} {x1 : Int32} {x2 : Int32}  (g72 : h.1[72]? = some (.inr (12, zF72))) (ec0 : x1 < 0) : arun X (n + 18) (d + 4) zM244 0 [some (.ref 72), some (.int x1), some (.int x2)] [] h = some (some (.int (-1)), h) := by
  refine (r_aloadn f244_0 rfl).trans ?_
  refine (r_iloadn f244_1 rfl).trans ?_
  have hc1 : arun X (n + 15) (d + 3) zM202 0 [some (.ref 72), some (.int x1)] [] h = some ((some (.int 0)), h) := by
    refine (r_aloadn f202_0 rfl).trans ?_
    refine (r_iloadn f202_1 rfl).trans ?_
    have hc2 : arun X (n + 12) (d + 2) zM200 0 [some (.ref 72), some (.int x1)] [] h = some ((some (.int 0)), h) := by
      refine (r_iloadn f200_0 rfl).trans ?_
      refine (r_iconst (v := 0) f200_1 rfl).trans ?_
      refine (r_aloadn f200_2 rfl).trans ?_
      refine (r_get (v := .int 0) f200_3 g72 rfl).trans ?_
      refine (r_iconst (v := 1) f200_6 rfl).trans ?_
      refine (r_isub (v := (-1)) f200_7 (by decide)).trans ?_
      have hc3 : arun X (n + 5) (d + 1) zM196 0 [some (.int x1), some (.int 0), some (.int (-1))] [] h = some ((some (.int 0)), h) := by
        refine (r_iloadn f196_0 rfl).trans ?_
        refine (r_iloadn f196_1 rfl).trans ?_
        refine (r_icmp_lt_t f196_2 ec0).trans ?_
        refine (r_iconst (v := 0) f196_14 rfl).trans ?_
        exact r_zreturn f196_15 rfl (by decide)
      refine (r_stat (as := [.int x1, .int 0, .int (-1)]) (v := (some (.int 0))) (h1 := h) f200_8 rfl zg196 rfl rfl rfl rfl rfl rfl hc3).trans ?_
      exact r_zreturn f200_11 rfl (by decide)
    refine (r_virt (as := [.int x1]) (v := (some (.int 0))) (h1 := h) f202_2 g72 zg200 rfl rfl rfl rfl rfl rfl hc2).trans ?_
    refine (r_if_eq_t f202_5 (by decide)).trans ?_
    refine (r_iconst (v := 0) f202_25 rfl).trans ?_
    exact r_zreturn f202_26 rfl (by decide)
  refine (r_virt (as := [.int x1]) (v := (some (.int 0))) (h1 := h) f244_2 g72 zg202 rfl rfl rfl rfl rfl rfl hc1).trans ?_
  refine (r_if_eq_t f244_5 (by decide)).trans ?_
  refine (r_iconst (v := (-1)) f244_15 rfl).trans ?_
  exact r_ireturn f244_16 rfl
set_option maxHeartbeats 40000000 in
theorem qc18_1 {X : aX} {n d : Nat} {h : aH} {x1 : Int32} {x2 : Int32}  (g0 : h.1[0]? = some (.inr (11, zF0))) (g1 : h.1[1]? = some (.inr (6, zF1))) (ec0 : ¬ x1 < 0) (ec1 : (-1) < x1) : arun X (n + 22) (d + 4) zM162 0 [some (.ref 0), some (.int x1), some (.int x2)] [] h = some (some (.int (-1)), h) := by
  refine (r_aloadn f162_0 rfl).trans ?_
  refine (r_get (v := .ref 1) f162_1 g0 rfl).trans ?_
  refine (r_iloadn f162_4 rfl).trans ?_
  have hc1 : arun X (n + 18) (d + 3) zM75 0 [some (.ref 1), some (.int x1)] [] h = some ((some (.int 0)), h) := by
    refine (r_aloadn f75_0 rfl).trans ?_
    refine (r_iloadn f75_1 rfl).trans ?_
    have hc2 : arun X (n + 15) (d + 2) zM74 0 [some (.ref 1), some (.int x1)] [] h = some ((some (.int 0)), h) := by
      refine (r_iloadn f74_0 rfl).trans ?_
      refine (r_iconst (v := 0) f74_1 rfl).trans ?_
      refine (r_aloadn f74_2 rfl).trans ?_
      refine (r_get (v := .int 0) f74_3 g1 rfl).trans ?_
      refine (r_iconst (v := 1) f74_6 rfl).trans ?_
      refine (r_isub (v := (-1)) f74_7 (by decide)).trans ?_
      have hc3 : arun X (n + 8) (d + 1) zM137 0 [some (.int x1), some (.int 0), some (.int (-1))] [] h = some ((some (.int 0)), h) := by
        refine (r_iloadn f137_0 rfl).trans ?_
        refine (r_iloadn f137_1 rfl).trans ?_
        refine (r_icmp_gt_f f137_2 ec0).trans ?_
        refine (r_iloadn f137_5 rfl).trans ?_
        refine (r_iloadn f137_6 rfl).trans ?_
        refine (r_icmp_gt_t f137_7 ec1).trans ?_
        refine (r_iconst (v := 0) f137_14 rfl).trans ?_
        exact r_zreturn f137_15 rfl (by decide)
      refine (r_stat (as := [.int x1, .int 0, .int (-1)]) (v := (some (.int 0))) (h1 := h) f74_8 rfl zg137 rfl rfl rfl rfl rfl rfl hc3).trans ?_
      exact r_zreturn f74_11 rfl (by decide)
    refine (r_virt (as := [.int x1]) (v := (some (.int 0))) (h1 := h) f75_2 g1 zg74 rfl rfl rfl rfl rfl rfl hc2).trans ?_
    refine (r_if_eq_t f75_5 (by decide)).trans ?_
    refine (r_iconst (v := 0) f75_24 rfl).trans ?_
    exact r_zreturn f75_25 rfl (by decide)
  refine (r_virt (as := [.int x1]) (v := (some (.int 0))) (h1 := h) f162_5 g1 zg75 rfl rfl rfl rfl rfl rfl hc1).trans ?_
  refine (r_if_eq_t f162_8 (by decide)).trans ?_
  refine (r_iconst (v := (-1)) f162_18 rfl).trans ?_
  exact r_ireturn f162_19 rfl
set_option maxHeartbeats 40000000 in
theorem qm18_1_0 {X : aX} {n d : Nat} {h : aH} {x1 : Int32} {x2 : Int32}  (g72 : h.1[72]? = some (.inr (12, zF72))) (ec0 : ¬ x1 < 0) (ec1 : (-1) < x1) : arun X (n + 21) (d + 4) zM244 0 [some (.ref 72), some (.int x1), some (.int x2)] [] h = some (some (.int (-1)), h) := by
  refine (r_aloadn f244_0 rfl).trans ?_
  refine (r_iloadn f244_1 rfl).trans ?_
  have hc1 : arun X (n + 18) (d + 3) zM202 0 [some (.ref 72), some (.int x1)] [] h = some ((some (.int 0)), h) := by
    refine (r_aloadn f202_0 rfl).trans ?_
    refine (r_iloadn f202_1 rfl).trans ?_
    have hc2 : arun X (n + 15) (d + 2) zM200 0 [some (.ref 72), some (.int x1)] [] h = some ((some (.int 0)), h) := by
      refine (r_iloadn f200_0 rfl).trans ?_
      refine (r_iconst (v := 0) f200_1 rfl).trans ?_
      refine (r_aloadn f200_2 rfl).trans ?_
      refine (r_get (v := .int 0) f200_3 g72 rfl).trans ?_
      refine (r_iconst (v := 1) f200_6 rfl).trans ?_
      refine (r_isub (v := (-1)) f200_7 (by decide)).trans ?_
      have hc3 : arun X (n + 8) (d + 1) zM196 0 [some (.int x1), some (.int 0), some (.int (-1))] [] h = some ((some (.int 0)), h) := by
        refine (r_iloadn f196_0 rfl).trans ?_
        refine (r_iloadn f196_1 rfl).trans ?_
        refine (r_icmp_lt_f f196_2 ec0).trans ?_
        refine (r_iloadn f196_5 rfl).trans ?_
        refine (r_iloadn f196_6 rfl).trans ?_
        refine (r_icmp_gt_t f196_7 ec1).trans ?_
        refine (r_iconst (v := 0) f196_14 rfl).trans ?_
        exact r_zreturn f196_15 rfl (by decide)
      refine (r_stat (as := [.int x1, .int 0, .int (-1)]) (v := (some (.int 0))) (h1 := h) f200_8 rfl zg196 rfl rfl rfl rfl rfl rfl hc3).trans ?_
      exact r_zreturn f200_11 rfl (by decide)
    refine (r_virt (as := [.int x1]) (v := (some (.int 0))) (h1 := h) f202_2 g72 zg200 rfl rfl rfl rfl rfl rfl hc2).trans ?_
    refine (r_if_eq_t f202_5 (by decide)).trans ?_
    refine (r_iconst (v := 0) f202_25 rfl).trans ?_
    exact r_zreturn f202_26 rfl (by decide)
  refine (r_virt (as := [.int x1]) (v := (some (.int 0))) (h1 := h) f244_2 g72 zg202 rfl rfl rfl rfl rfl rfl hc1).trans ?_
  refine (r_if_eq_t f244_5 (by decide)).trans ?_
  refine (r_iconst (v := (-1)) f244_15 rfl).trans ?_
  exact r_ireturn f244_16 rfl
set_option maxHeartbeats 40000000 in
theorem qc19_0 {X : aX} {n d : Nat} {h : aH} {x1 : Int32} {x2 : Int32} {x3 : Int32}  (ec0 : x1 < 0) : arun X (n + 11) (d + 3) zM163 0 [some (.ref 0), some (.int x1), some (.int x2), some (.int x3)] [] h = some (some (.int (-1)), h) := by
  refine (r_iloadn f163_0 rfl).trans ?_
  have hc1 : arun X (n + 9) (d + 2) zM141 0 [some (.int x1)] [] h = some ((some (.int 0)), h) := by
    refine (r_iloadn f141_0 rfl).trans ?_
    refine (r_iconst (v := 0) f141_1 rfl).trans ?_
    refine (r_bipush (v := 7) f141_2 rfl).trans ?_
    have hc2 : arun X (n + 5) (d + 1) zM137 0 [some (.int x1), some (.int 0), some (.int 7)] [] h = some ((some (.int 0)), h) := by
      refine (r_iloadn f137_0 rfl).trans ?_
      refine (r_iloadn f137_1 rfl).trans ?_
      refine (r_icmp_gt_t f137_2 ec0).trans ?_
      refine (r_iconst (v := 0) f137_14 rfl).trans ?_
      exact r_zreturn f137_15 rfl (by decide)
    refine (r_stat (as := [.int x1, .int 0, .int 7]) (v := (some (.int 0))) (h1 := h) f141_4 rfl zg137 rfl rfl rfl rfl rfl rfl hc2).trans ?_
    exact r_zreturn f141_7 rfl (by decide)
  refine (r_stat (as := [.int x1]) (v := (some (.int 0))) (h1 := h) f163_1 rfl zg141 rfl rfl rfl rfl rfl rfl hc1).trans ?_
  refine (r_if_eq_t f163_4 (by decide)).trans ?_
  refine (r_iconst (v := (-1)) f163_26 rfl).trans ?_
  exact r_ireturn f163_27 rfl
set_option maxHeartbeats 40000000 in
theorem qm19_0_0 {X : aX} {n d : Nat} {h : aH} {x1 : Int32} {x2 : Int32} {x3 : Int32}  (ec0 : x1 < 0) : arun X (n + 9) (d + 2) zM245 0 [some (.ref 72), some (.int x1), some (.int x2), some (.int x3), none] [] h = some (some (.int (-1)), h) := by
  refine (r_iloadn f245_0 rfl).trans ?_
  refine (r_iconst (v := 0) f245_1 rfl).trans ?_
  refine (r_bipush (v := 7) f245_2 rfl).trans ?_
  have hc1 : arun X (n + 5) (d + 1) zM196 0 [some (.int x1), some (.int 0), some (.int 7)] [] h = some ((some (.int 0)), h) := by
    refine (r_iloadn f196_0 rfl).trans ?_
    refine (r_iloadn f196_1 rfl).trans ?_
    refine (r_icmp_lt_t f196_2 ec0).trans ?_
    refine (r_iconst (v := 0) f196_14 rfl).trans ?_
    exact r_zreturn f196_15 rfl (by decide)
  refine (r_stat (as := [.int x1, .int 0, .int 7]) (v := (some (.int 0))) (h1 := h) f245_4 rfl zg196 rfl rfl rfl rfl rfl rfl hc1).trans ?_
  refine (r_if_eq_t f245_7 (by decide)).trans ?_
  refine (r_iconst (v := (-1)) f245_29 rfl).trans ?_
  exact r_ireturn f245_30 rfl
set_option maxHeartbeats 40000000 in
theorem qc19_1 {X : aX} {n d : Nat} {h : aH} {x1 : Int32} {x2 : Int32} {x3 : Int32}  (ec0 : ¬ x1 < 0) (ec1 : 7 < x1) : arun X (n + 14) (d + 3) zM163 0 [some (.ref 0), some (.int x1), some (.int x2), some (.int x3)] [] h = some (some (.int (-1)), h) := by
  refine (r_iloadn f163_0 rfl).trans ?_
  have hc1 : arun X (n + 12) (d + 2) zM141 0 [some (.int x1)] [] h = some ((some (.int 0)), h) := by
    refine (r_iloadn f141_0 rfl).trans ?_
    refine (r_iconst (v := 0) f141_1 rfl).trans ?_
    refine (r_bipush (v := 7) f141_2 rfl).trans ?_
    have hc2 : arun X (n + 8) (d + 1) zM137 0 [some (.int x1), some (.int 0), some (.int 7)] [] h = some ((some (.int 0)), h) := by
      refine (r_iloadn f137_0 rfl).trans ?_
      refine (r_iloadn f137_1 rfl).trans ?_
      refine (r_icmp_gt_f f137_2 ec0).trans ?_
      refine (r_iloadn f137_5 rfl).trans ?_
      refine (r_iloadn f137_6 rfl).trans ?_
      refine (r_icmp_gt_t f137_7 ec1).trans ?_
      refine (r_iconst (v := 0) f137_14 rfl).trans ?_
      exact r_zreturn f137_15 rfl (by decide)
    refine (r_stat (as := [.int x1, .int 0, .int 7]) (v := (some (.int 0))) (h1 := h) f141_4 rfl zg137 rfl rfl rfl rfl rfl rfl hc2).trans ?_
    exact r_zreturn f141_7 rfl (by decide)
  refine (r_stat (as := [.int x1]) (v := (some (.int 0))) (h1 := h) f163_1 rfl zg141 rfl rfl rfl rfl rfl rfl hc1).trans ?_
  refine (r_if_eq_t f163_4 (by decide)).trans ?_
  refine (r_iconst (v := (-1)) f163_26 rfl).trans ?_
  exact r_ireturn f163_27 rfl

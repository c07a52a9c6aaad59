-- ===== paths on a fresh object (by program) =====
set_option maxHeartbeats 40000000 in
theorem qc0_0 {X : aX} {n d : Nat} {h : aH} {x1 : Int32}  (ec0 : x1 < 1) : arun X (n + 9) (d + 2) zM144 0 [some (.ref 0), some (.int x1)] [] h = some (some (.int (-1)), h) := by
  refine (r_iloadn f144_0 rfl).trans ?_
  refine (r_iconst (v := 1) f144_1 rfl).trans ?_
  refine (r_sipush (v := 365) f144_2 rfl).trans ?_
  have hc1 : arun X (n + 5) (d + 1) zM137 0 [some (.int x1), some (.int 1), some (.int 365)] [] h = some ((some (.int 0)), h) := by
    refine (r_iloadn f137_0 rfl).trans ?_
    refine (r_iloadn f137_1 rfl).trans ?_
    refine (r_icmp_gt_t f137_2 ec0).trans ?_
    refine (r_iconst (v := 0) f137_14 rfl).trans ?_
    exact r_zreturn f137_15 rfl (by decide)
  refine (r_stat (as := [.int x1, .int 1, .int 365]) (v := (some (.int 0))) (h1 := h) f144_5 rfl zg137 rfl rfl rfl rfl rfl rfl hc1).trans ?_
  refine (r_if_eq_t f144_8 (by decide)).trans ?_
  refine (r_iconst (v := (-1)) f144_26 rfl).trans ?_
  exact r_ireturn f144_27 rfl
set_option maxHeartbeats 40000000 in
theorem qm0_0_0 {X : aX} {n d : Nat} {h : aH} {x1 : Int32}  (ec0 : x1 < 1) : arun X (n + 9) (d + 2) zM199 0 [some (.ref 72), some (.int x1)] [] h = some (some (.int (-1)), h) := by
  refine (r_iloadn f199_0 rfl).trans ?_
  refine (r_iconst (v := 1) f199_1 rfl).trans ?_
  refine (r_sipush (v := 365) f199_2 rfl).trans ?_
  have hc1 : arun X (n + 5) (d + 1) zM196 0 [some (.int x1), some (.int 1), some (.int 365)] [] h = some ((some (.int 0)), h) := by
    refine (r_iloadn f196_0 rfl).trans ?_
    refine (r_iloadn f196_1 rfl).trans ?_
    refine (r_icmp_lt_t f196_2 ec0).trans ?_
    refine (r_iconst (v := 0) f196_14 rfl).trans ?_
    exact r_zreturn f196_15 rfl (by decide)
  refine (r_stat (as := [.int x1, .int 1, .int 365]) (v := (some (.int 0))) (h1 := h) f199_5 rfl zg196 rfl rfl rfl rfl rfl rfl hc1).trans ?_
  refine (r_if_eq_t f199_8 (by decide)).trans ?_
  refine (r_iconst (v := (-1)) f199_23 rfl).trans ?_
  exact r_ireturn f199_24 rfl
set_option maxHeartbeats 40000000 in
theorem qc0_1 {X : aX} {n d : Nat} {h : aH} {x1 : Int32}  (ec0 : ¬ x1 < 1) (ec1 : 365 < x1) : arun X (n + 12) (d + 2) zM144 0 [some (.ref 0), some (.int x1)] [] h = some (some (.int (-1)), h) := by
  refine (r_iloadn f144_0 rfl).trans ?_
  refine (r_iconst (v := 1) f144_1 rfl).trans ?_
  refine (r_sipush (v := 365) f144_2 rfl).trans ?_
  have hc1 : arun X (n + 8) (d + 1) zM137 0 [some (.int x1), some (.int 1), some (.int 365)] [] h = some ((some (.int 0)), h) := by
    refine (r_iloadn f137_0 rfl).trans ?_
    refine (r_iloadn f137_1 rfl).trans ?_
    refine (r_icmp_gt_f f137_2 ec0).trans ?_
    refine (r_iloadn f137_5 rfl).trans ?_
    refine (r_iloadn f137_6 rfl).trans ?_
    refine (r_icmp_gt_t f137_7 ec1).trans ?_
    refine (r_iconst (v := 0) f137_14 rfl).trans ?_
    exact r_zreturn f137_15 rfl (by decide)
  refine (r_stat (as := [.int x1, .int 1, .int 365]) (v := (some (.int 0))) (h1 := h) f144_5 rfl zg137 rfl rfl rfl rfl rfl rfl hc1).trans ?_
  refine (r_if_eq_t f144_8 (by decide)).trans ?_
  refine (r_iconst (v := (-1)) f144_26 rfl).trans ?_
  exact r_ireturn f144_27 rfl
set_option maxHeartbeats 40000000 in
theorem qm0_1_0 {X : aX} {n d : Nat} {h : aH} {x1 : Int32}  (ec0 : ¬ x1 < 1) (ec1 : 365 < x1) : arun X (n + 12) (d + 2) zM199 0 [some (.ref 72), some (.int x1)] [] h = some (some (.int (-1)), h) := by
  refine (r_iloadn f199_0 rfl).trans ?_
  refine (r_iconst (v := 1) f199_1 rfl).trans ?_
  refine (r_sipush (v := 365) f199_2 rfl).trans ?_
  have hc1 : arun X (n + 8) (d + 1) zM196 0 [some (.int x1), some (.int 1), some (.int 365)] [] h = some ((some (.int 0)), h) := by
    refine (r_iloadn f196_0 rfl).trans ?_
    refine (r_iloadn f196_1 rfl).trans ?_
    refine (r_icmp_lt_f f196_2 ec0).trans ?_
    refine (r_iloadn f196_5 rfl).trans ?_
    refine (r_iloadn f196_6 rfl).trans ?_
    refine (r_icmp_gt_t f196_7 ec1).trans ?_
    refine (r_iconst (v := 0) f196_14 rfl).trans ?_
    exact r_zreturn f196_15 rfl (by decide)
  refine (r_stat (as := [.int x1, .int 1, .int 365]) (v := (some (.int 0))) (h1 := h) f199_5 rfl zg196 rfl rfl rfl rfl rfl rfl hc1).trans ?_
  refine (r_if_eq_t f199_8 (by decide)).trans ?_
  refine (r_iconst (v := (-1)) f199_23 rfl).trans ?_
  exact r_ireturn f199_24 rfl
set_option maxHeartbeats 40000000 in
theorem qc0_2 {X : aX} {n d : Nat} {h : aH} {x1 : Int32}  (g0 : h.1[0]? = some (.inr (11, zF0))) (g1 : h.1[1]? = some (.inr (6, zF1))) (ec0 : ¬ x1 < 1) (ec1 : ¬ 365 < x1) (ec2 : (0 + x1) ≤ 3649) : arun X (n + 23) (d + 2) zM144 0 [some (.ref 0), some (.int x1)] [] h = some (some (.int (0 + x1)), ((h.1.set 1 (.inr (6, [.int (0 + x1), .int 0, .int 0, .int 0, .int 0, .int 0, .int 0, .ref 2, .ref 3, .ref 4, .ref 5, .ref 6, .ref 7, .ref 8, .ref 9, .ref 10, .ref 11, .ref 12]))), h.2)) := by
  refine (r_iloadn f144_0 rfl).trans ?_
  refine (r_iconst (v := 1) f144_1 rfl).trans ?_
  refine (r_sipush (v := 365) f144_2 rfl).trans ?_
  have hc1 : arun X (n + 19) (d + 1) zM137 0 [some (.int x1), some (.int 1), some (.int 365)] [] h = some ((some (.int 1)), h) := by
    refine (r_iloadn f137_0 rfl).trans ?_
    refine (r_iloadn f137_1 rfl).trans ?_
    refine (r_icmp_gt_f f137_2 ec0).trans ?_
    refine (r_iloadn f137_5 rfl).trans ?_
    refine (r_iloadn f137_6 rfl).trans ?_
    refine (r_icmp_gt_f f137_7 ec1).trans ?_
    refine (r_iconst (v := 1) f137_10 rfl).trans ?_
    refine (r_goto f137_11).trans ?_
    exact r_zreturn f137_15 rfl (by decide)
  refine (r_stat (as := [.int x1, .int 1, .int 365]) (v := (some (.int 1))) (h1 := h) f144_5 rfl zg137 rfl rfl rfl rfl rfl rfl hc1).trans ?_
  refine (r_if_eq_f f144_8 (by decide)).trans ?_
  refine (r_aloadn f144_11 rfl).trans ?_
  refine (r_get (v := .ref 1) f144_12 g0 rfl).trans ?_
  refine (r_get (v := .int 0) f144_15 g1 rfl).trans ?_
  refine (r_iloadn f144_18 rfl).trans ?_
  refine (r_iadd (v := (0 + x1)) f144_19 rfl).trans ?_
  refine (r_sipush (v := 3649) f144_20 rfl).trans ?_
  refine (r_icmp_le_t f144_23 ec2).trans ?_
  refine (r_aloadn f144_28 rfl).trans ?_
  refine (r_get (v := .ref 1) f144_29 g0 rfl).trans ?_
  refine (r_dup f144_32 rfl).trans ?_
  refine (r_get (v := .int 0) f144_33 g1 rfl).trans ?_
  refine (r_iloadn f144_36 rfl).trans ?_
  refine (r_iadd (v := (0 + x1)) f144_37 rfl).trans ?_
  refine (r_put (h' := ((h.1.set 1 (.inr (6, [.int (0 + x1), .int 0, .int 0, .int 0, .int 0, .int 0, .int 0, .ref 2, .ref 3, .ref 4, .ref 5, .ref 6, .ref 7, .ref 8, .ref 9, .ref 10, .ref 11, .ref 12]))), h.2)) f144_38 g1 rfl rfl).trans ?_
  refine (r_aloadn f144_41 rfl).trans ?_
  refine (r_get (v := .ref 1) f144_42 (gs_ne g0 (by decide)) rfl).trans ?_
  refine (r_get (v := .int (0 + x1)) f144_45 (gs_eq g1) rfl).trans ?_
  exact r_ireturn f144_48 rfl
set_option maxHeartbeats 40000000 in
theorem qm0_2_0 {X : aX} {n d : Nat} {h : aH} {x1 : Int32}  (g72 : h.1[72]? = some (.inr (12, zF72))) (ec0 : ¬ x1 < 1) (ec1 : ¬ 365 < x1) (ec2 : (0 + x1) ≤ 3649) : arun X (n + 20) (d + 2) zM199 0 [some (.ref 72), some (.int x1)] [] h = some (some (.int (0 + x1)), ((h.1.set 72 (.inr (12, (zF72.set 1 (.int (0 + x1)))))), h.2)) := by
  refine (r_iloadn f199_0 rfl).trans ?_
  refine (r_iconst (v := 1) f199_1 rfl).trans ?_
  refine (r_sipush (v := 365) f199_2 rfl).trans ?_
  have hc1 : arun X (n + 16) (d + 1) zM196 0 [some (.int x1), some (.int 1), some (.int 365)] [] h = some ((some (.int 1)), h) := by
    refine (r_iloadn f196_0 rfl).trans ?_
    refine (r_iloadn f196_1 rfl).trans ?_
    refine (r_icmp_lt_f f196_2 ec0).trans ?_
    refine (r_iloadn f196_5 rfl).trans ?_
    refine (r_iloadn f196_6 rfl).trans ?_
    refine (r_icmp_gt_f f196_7 ec1).trans ?_
    refine (r_iconst (v := 1) f196_10 rfl).trans ?_
    refine (r_goto f196_11).trans ?_
    exact r_zreturn f196_15 rfl (by decide)
  refine (r_stat (as := [.int x1, .int 1, .int 365]) (v := (some (.int 1))) (h1 := h) f199_5 rfl zg196 rfl rfl rfl rfl rfl rfl hc1).trans ?_
  refine (r_if_eq_f f199_8 (by decide)).trans ?_
  refine (r_aloadn f199_11 rfl).trans ?_
  refine (r_get (v := .int 0) f199_12 g72 rfl).trans ?_
  refine (r_iloadn f199_15 rfl).trans ?_
  refine (r_iadd (v := (0 + x1)) f199_16 rfl).trans ?_
  refine (r_sipush (v := 3649) f199_17 rfl).trans ?_
  refine (r_icmp_le_t f199_20 ec2).trans ?_
  refine (r_aloadn f199_25 rfl).trans ?_
  refine (r_dup f199_26 rfl).trans ?_
  refine (r_get (v := .int 0) f199_27 g72 rfl).trans ?_
  refine (r_iloadn f199_30 rfl).trans ?_
  refine (r_iadd (v := (0 + x1)) f199_31 rfl).trans ?_
  refine (r_put (h' := ((h.1.set 72 (.inr (12, (zF72.set 1 (.int (0 + x1)))))), h.2)) f199_32 g72 rfl rfl).trans ?_
  refine (r_aloadn f199_35 rfl).trans ?_
  refine (r_get (v := .int (0 + x1)) f199_36 (gs_eq g72) rfl).trans ?_
  exact r_ireturn f199_39 rfl
set_option maxHeartbeats 40000000 in
theorem qc0_3 {X : aX} {n d : Nat} {h : aH} {x1 : Int32}  (g0 : h.1[0]? = some (.inr (11, zF0))) (g1 : h.1[1]? = some (.inr (6, zF1))) (ec0 : ¬ x1 < 1) (ec1 : ¬ 365 < x1) (ec2 : ¬ (0 + x1) ≤ 3649) : arun X (n + 14) (d + 2) zM144 0 [some (.ref 0), some (.int x1)] [] h = some (some (.int (-1)), h) := by
  refine (r_iloadn f144_0 rfl).trans ?_
  refine (r_iconst (v := 1) f144_1 rfl).trans ?_
  refine (r_sipush (v := 365) f144_2 rfl).trans ?_
  have hc1 : arun X (n + 10) (d + 1) zM137 0 [some (.int x1), some (.int 1), some (.int 365)] [] h = some ((some (.int 1)), h) := by
    refine (r_iloadn f137_0 rfl).trans ?_
    refine (r_iloadn f137_1 rfl).trans ?_
    refine (r_icmp_gt_f f137_2 ec0).trans ?_
    refine (r_iloadn f137_5 rfl).trans ?_
    refine (r_iloadn f137_6 rfl).trans ?_
    refine (r_icmp_gt_f f137_7 ec1).trans ?_
    refine (r_iconst (v := 1) f137_10 rfl).trans ?_
    refine (r_goto f137_11).trans ?_
    exact r_zreturn f137_15 rfl (by decide)
  refine (r_stat (as := [.int x1, .int 1, .int 365]) (v := (some (.int 1))) (h1 := h) f144_5 rfl zg137 rfl rfl rfl rfl rfl rfl hc1).trans ?_
  refine (r_if_eq_f f144_8 (by decide)).trans ?_
  refine (r_aloadn f144_11 rfl).trans ?_
  refine (r_get (v := .ref 1) f144_12 g0 rfl).trans ?_
  refine (r_get (v := .int 0) f144_15 g1 rfl).trans ?_
  refine (r_iloadn f144_18 rfl).trans ?_
  refine (r_iadd (v := (0 + x1)) f144_19 rfl).trans ?_
  refine (r_sipush (v := 3649) f144_20 rfl).trans ?_
  refine (r_icmp_le_f f144_23 ec2).trans ?_
  refine (r_iconst (v := (-1)) f144_26 rfl).trans ?_
  exact r_ireturn f144_27 rfl
set_option maxHeartbeats 40000000 in
theorem qm0_3_0 {X : aX} {n d : Nat} {h : aH} {x1 : Int32}  (g72 : h.1[72]? = some (.inr (12, zF72))) (ec0 : ¬ x1 < 1) (ec1 : ¬ 365 < x1) (ec2 : ¬ (0 + x1) ≤ 3649) : arun X (n + 13) (d + 2) zM199 0 [some (.ref 72), some (.int x1)] [] h = some (some (.int (-1)), h) := by
  refine (r_iloadn f199_0 rfl).trans ?_
  refine (r_iconst (v := 1) f199_1 rfl).trans ?_
  refine (r_sipush (v := 365) f199_2 rfl).trans ?_
  have hc1 : arun X (n + 9) (d + 1) zM196 0 [some (.int x1), some (.int 1), some (.int 365)] [] h = some ((some (.int 1)), h) := by
    refine (r_iloadn f196_0 rfl).trans ?_
    refine (r_iloadn f196_1 rfl).trans ?_
    refine (r_icmp_lt_f f196_2 ec0).trans ?_
    refine (r_iloadn f196_5 rfl).trans ?_
    refine (r_iloadn f196_6 rfl).trans ?_
    refine (r_icmp_gt_f f196_7 ec1).trans ?_
    refine (r_iconst (v := 1) f196_10 rfl).trans ?_
    refine (r_goto f196_11).trans ?_
    exact r_zreturn f196_15 rfl (by decide)
  refine (r_stat (as := [.int x1, .int 1, .int 365]) (v := (some (.int 1))) (h1 := h) f199_5 rfl zg196 rfl rfl rfl rfl rfl rfl hc1).trans ?_
  refine (r_if_eq_f f199_8 (by decide)).trans ?_
  refine (r_aloadn f199_11 rfl).trans ?_
  refine (r_get (v := .int 0) f199_12 g72 rfl).trans ?_
  refine (r_iloadn f199_15 rfl).trans ?_
  refine (r_iadd (v := (0 + x1)) f199_16 rfl).trans ?_
  refine (r_sipush (v := 3649) f199_17 rfl).trans ?_
  refine (r_icmp_le_f f199_20 ec2).trans ?_
  refine (r_iconst (v := (-1)) f199_23 rfl).trans ?_
  exact r_ireturn f199_24 rfl
set_option maxHeartbeats 40000000 in
theorem qc1_0 {X : aX} {n d : Nat} {h : aH}  (g0 : h.1[0]? = some (.inr (11, zF0))) (g1 : h.1[1]? = some (.inr (6, zF1))) (g2 : h.1[2]? = some (.inl (0, 150, .inl (fun _ => 0)))) (g3 : h.1[3]? = some (.inl (0, 150, .inl (fun _ => 0)))) (g4 : h.1[4]? = some (.inl (0, 150, .inl (fun _ => 0)))) (g5 : h.1[5]? = some (.inl (0, 150, .inl (fun _ => 0)))) (g7 : h.1[7]? = some (.inl (0, 150, .inl (fun _ => 0)))) : arun X (n + 70) (d + 4) zM145 0 [some (.ref 0)] [] h = some (some (.int 0), (((((((h.1.set 2 (.inl (0, 150, .inl (upd (fun _ => 0) (Int32.toNatClampNeg 0) 0)))).set 3 (.inl (0, 150, .inl (upd (fun _ => 0) (Int32.toNatClampNeg 0) 0)))).set 7 (.inl (0, 150, .inl (upd (fun _ => 0) (Int32.toNatClampNeg 0) (-1))))).set 4 (.inl (0, 150, .inl (upd (fun _ => 0) (Int32.toNatClampNeg 0) 0)))).set 5 (.inl (0, 150, .inl (upd (fun _ => 0) (Int32.toNatClampNeg 0) (-1))))).set 1 (.inr (6, [.int 0, .int 1, .int 0, .int 0, .int 0, .int 0, .int 0, .ref 2, .ref 3, .ref 4, .ref 5, .ref 6, .ref 7, .ref 8, .ref 9, .ref 10, .ref 11, .ref 12]))), h.2)) := by
  refine (r_aloadn f145_0 rfl).trans ?_
  refine (r_get (v := .ref 1) f145_1 g0 rfl).trans ?_
  have hc1 : arun X (n + 67) (d + 3) zM73 0 [some (.ref 1)] [] h = some ((some (.int 0)), h) := by
    refine (r_aloadn f73_0 rfl).trans ?_
    refine (r_get (v := .int 0) f73_1 g1 rfl).trans ?_
    refine (r_sipush (v := 150) f73_4 rfl).trans ?_
    refine (r_icmp_lt_t f73_7 (by decide)).trans ?_
    refine (r_iconst (v := 0) f73_14 rfl).trans ?_
    exact r_zreturn f73_15 rfl (by decide)
  refine (r_virt (as := []) (v := (some (.int 0))) (h1 := h) f145_4 g1 zg73 rfl rfl rfl rfl rfl rfl hc1).trans ?_
  refine (r_if_eq_t f145_7 (by decide)).trans ?_
  refine (r_aloadn f145_15 rfl).trans ?_
  refine (r_get (v := .ref 1) f145_16 g0 rfl).trans ?_
  refine (r_iconst (v := 0) f145_19 rfl).trans ?_
  refine (r_iconst (v := 0) f145_20 rfl).trans ?_
  refine (r_iconst (v := (-1)) f145_21 rfl).trans ?_
  have hc2 : arun X (n + 60) (d + 3) zM79 0 [some (.ref 1), some (.int 0), some (.int 0), some (.int (-1)), none] [] h = some ((some (.int 0)), (((((((h.1.set 2 (.inl (0, 150, .inl (upd (fun _ => 0) (Int32.toNatClampNeg 0) 0)))).set 3 (.inl (0, 150, .inl (upd (fun _ => 0) (Int32.toNatClampNeg 0) 0)))).set 7 (.inl (0, 150, .inl (upd (fun _ => 0) (Int32.toNatClampNeg 0) (-1))))).set 4 (.inl (0, 150, .inl (upd (fun _ => 0) (Int32.toNatClampNeg 0) 0)))).set 5 (.inl (0, 150, .inl (upd (fun _ => 0) (Int32.toNatClampNeg 0) (-1))))).set 1 (.inr (6, [.int 0, .int 1, .int 0, .int 0, .int 0, .int 0, .int 0, .ref 2, .ref 3, .ref 4, .ref 5, .ref 6, .ref 7, .ref 8, .ref 9, .ref 10, .ref 11, .ref 12]))), h.2)) := by
    refine (r_aloadn f79_0 rfl).trans ?_
    refine (r_get (v := .int 0) f79_1 g1 rfl).trans ?_
    refine (r_istore (L' := [some (.ref 1), some (.int 0), some (.int 0), some (.int (-1)), some (.int 0)]) f79_4 rfl rfl).trans ?_
    refine (r_aloadn f79_6 rfl).trans ?_
    have hc3 : arun X (n + 55) (d + 2) zM73 0 [some (.ref 1)] [] h = some ((some (.int 0)), h) := by
      refine (r_aloadn f73_0 rfl).trans ?_
      refine (r_get (v := .int 0) f73_1 g1 rfl).trans ?_
      refine (r_sipush (v := 150) f73_4 rfl).trans ?_
      refine (r_icmp_lt_t f73_7 (by decide)).trans ?_
      refine (r_iconst (v := 0) f73_14 rfl).trans ?_
      exact r_zreturn f73_15 rfl (by decide)
    refine (r_virt (as := []) (v := (some (.int 0))) (h1 := h) f79_7 g1 zg73 rfl rfl rfl rfl rfl rfl hc3).trans ?_
    refine (r_if_eq_t f79_10 (by decide)).trans ?_
    refine (r_aloadn f79_16 rfl).trans ?_
    refine (r_get (v := .ref 2) f79_17 g1 rfl).trans ?_
    refine (r_iload f79_20 rfl).trans ?_
    refine (r_iloadn f79_22 rfl).trans ?_
    refine (r_iast (h' := ((h.1.set 2 (.inl (0, 150, .inl (upd (fun _ => 0) (Int32.toNatClampNeg 0) 0)))), h.2)) f79_23 g2 (by decide) rfl).trans ?_
    refine (r_aloadn f79_24 rfl).trans ?_
    refine (r_get (v := .ref 3) f79_25 (gs_ne g1 (by decide)) rfl).trans ?_
    refine (r_iload f79_28 rfl).trans ?_
    refine (r_iloadn f79_30 rfl).trans ?_
    refine (r_iast (h' := (((h.1.set 2 (.inl (0, 150, .inl (upd (fun _ => 0) (Int32.toNatClampNeg 0) 0)))).set 3 (.inl (0, 150, .inl (upd (fun _ => 0) (Int32.toNatClampNeg 0) 0)))), h.2)) f79_31 (gs_ne g3 (by decide)) (by decide) rfl).trans ?_
    refine (r_aloadn f79_32 rfl).trans ?_
    refine (r_get (v := .ref 7) f79_33 (gs_ne (gs_ne g1 (by decide)) (by decide)) rfl).trans ?_
    refine (r_iload f79_36 rfl).trans ?_
    refine (r_iloadn f79_38 rfl).trans ?_
    refine (r_iast (h' := ((((h.1.set 2 (.inl (0, 150, .inl (upd (fun _ => 0) (Int32.toNatClampNeg 0) 0)))).set 3 (.inl (0, 150, .inl (upd (fun _ => 0) (Int32.toNatClampNeg 0) 0)))).set 7 (.inl (0, 150, .inl (upd (fun _ => 0) (Int32.toNatClampNeg 0) (-1))))), h.2)) f79_39 (gs_ne (gs_ne g7 (by decide)) (by decide)) (by decide) rfl).trans ?_
    refine (r_aloadn f79_40 rfl).trans ?_
    refine (r_get (v := .ref 4) f79_41 (gs_ne (gs_ne (gs_ne g1 (by decide)) (by decide)) (by decide)) rfl).trans ?_
    refine (r_iload f79_44 rfl).trans ?_
    refine (r_aloadn f79_46 rfl).trans ?_
    refine (r_get (v := .int 0) f79_47 (gs_ne (gs_ne (gs_ne g1 (by decide)) (by decide)) (by decide)) rfl).trans ?_
    refine (r_iast (h' := (((((h.1.set 2 (.inl (0, 150, .inl (upd (fun _ => 0) (Int32.toNatClampNeg 0) 0)))).set 3 (.inl (0, 150, .inl (upd (fun _ => 0) (Int32.toNatClampNeg 0) 0)))).set 7 (.inl (0, 150, .inl (upd (fun _ => 0) (Int32.toNatClampNeg 0) (-1))))).set 4 (.inl (0, 150, .inl (upd (fun _ => 0) (Int32.toNatClampNeg 0) 0)))), h.2)) f79_50 (gs_ne (gs_ne (gs_ne g4 (by decide)) (by decide)) (by decide)) (by decide) rfl).trans ?_
    refine (r_aloadn f79_51 rfl).trans ?_
    refine (r_get (v := .ref 5) f79_52 (gs_ne (gs_ne (gs_ne (gs_ne g1 (by decide)) (by decide)) (by decide)) (by decide)) rfl).trans ?_
    refine (r_iload f79_55 rfl).trans ?_
    refine (r_iconst (v := (-1)) f79_57 rfl).trans ?_
    refine (r_iast (h' := ((((((h.1.set 2 (.inl (0, 150, .inl (upd (fun _ => 0) (Int32.toNatClampNeg 0) 0)))).set 3 (.inl (0, 150, .inl (upd (fun _ => 0) (Int32.toNatClampNeg 0) 0)))).set 7 (.inl (0, 150, .inl (upd (fun _ => 0) (Int32.toNatClampNeg 0) (-1))))).set 4 (.inl (0, 150, .inl (upd (fun _ => 0) (Int32.toNatClampNeg 0) 0)))).set 5 (.inl (0, 150, .inl (upd (fun _ => 0) (Int32.toNatClampNeg 0) (-1))))), h.2)) f79_58 (gs_ne (gs_ne (gs_ne (gs_ne g5 (by decide)) (by decide)) (by decide)) (by decide)) (by decide) rfl).trans ?_
    refine (r_aloadn f79_59 rfl).trans ?_
    refine (r_dup f79_60 rfl).trans ?_
    refine (r_get (v := .int 0) f79_61 (gs_ne (gs_ne (gs_ne (gs_ne (gs_ne g1 (by decide)) (by decide)) (by decide)) (by decide)) (by decide)) rfl).trans ?_
    refine (r_iloadn f79_64 rfl).trans ?_
    have hc4 : arun X (n + 23) (d + 2) zM71 0 [some (.int 0)] [] ((((((h.1.set 2 (.inl (0, 150, .inl (upd (fun _ => 0) (Int32.toNatClampNeg 0) 0)))).set 3 (.inl (0, 150, .inl (upd (fun _ => 0) (Int32.toNatClampNeg 0) 0)))).set 7 (.inl (0, 150, .inl (upd (fun _ => 0) (Int32.toNatClampNeg 0) (-1))))).set 4 (.inl (0, 150, .inl (upd (fun _ => 0) (Int32.toNatClampNeg 0) 0)))).set 5 (.inl (0, 150, .inl (upd (fun _ => 0) (Int32.toNatClampNeg 0) (-1))))), h.2) = some ((some (.int 0)), ((((((h.1.set 2 (.inl (0, 150, .inl (upd (fun _ => 0) (Int32.toNatClampNeg 0) 0)))).set 3 (.inl (0, 150, .inl (upd (fun _ => 0) (Int32.toNatClampNeg 0) 0)))).set 7 (.inl (0, 150, .inl (upd (fun _ => 0) (Int32.toNatClampNeg 0) (-1))))).set 4 (.inl (0, 150, .inl (upd (fun _ => 0) (Int32.toNatClampNeg 0) 0)))).set 5 (.inl (0, 150, .inl (upd (fun _ => 0) (Int32.toNatClampNeg 0) (-1))))), h.2)) := by
      refine (r_iloadn f71_0 rfl).trans ?_
      refine (r_iconst (v := 1) f71_1 rfl).trans ?_
      refine (r_iconst (v := 3) f71_2 rfl).trans ?_
      have hc5 : arun X (n + 19) (d + 1) zM137 0 [some (.int 0), some (.int 1), some (.int 3)] [] ((((((h.1.set 2 (.inl (0, 150, .inl (upd (fun _ => 0) (Int32.toNatClampNeg 0) 0)))).set 3 (.inl (0, 150, .inl (upd (fun _ => 0) (Int32.toNatClampNeg 0) 0)))).set 7 (.inl (0, 150, .inl (upd (fun _ => 0) (Int32.toNatClampNeg 0) (-1))))).set 4 (.inl (0, 150, .inl (upd (fun _ => 0) (Int32.toNatClampNeg 0) 0)))).set 5 (.inl (0, 150, .inl (upd (fun _ => 0) (Int32.toNatClampNeg 0) (-1))))), h.2) = some ((some (.int 0)), ((((((h.1.set 2 (.inl (0, 150, .inl (upd (fun _ => 0) (Int32.toNatClampNeg 0) 0)))).set 3 (.inl (0, 150, .inl (upd (fun _ => 0) (Int32.toNatClampNeg 0) 0)))).set 7 (.inl (0, 150, .inl (upd (fun _ => 0) (Int32.toNatClampNeg 0) (-1))))).set 4 (.inl (0, 150, .inl (upd (fun _ => 0) (Int32.toNatClampNeg 0) 0)))).set 5 (.inl (0, 150, .inl (upd (fun _ => 0) (Int32.toNatClampNeg 0) (-1))))), h.2)) := by
        refine (r_iloadn f137_0 rfl).trans ?_
        refine (r_iloadn f137_1 rfl).trans ?_
        refine (r_icmp_gt_t f137_2 (by decide)).trans ?_
        refine (r_iconst (v := 0) f137_14 rfl).trans ?_
        exact r_zreturn f137_15 rfl (by decide)
      refine (r_stat (as := [.int 0, .int 1, .int 3]) (v := (some (.int 0))) (h1 := ((((((h.1.set 2 (.inl (0, 150, .inl (upd (fun _ => 0) (Int32.toNatClampNeg 0) 0)))).set 3 (.inl (0, 150, .inl (upd (fun _ => 0) (Int32.toNatClampNeg 0) 0)))).set 7 (.inl (0, 150, .inl (upd (fun _ => 0) (Int32.toNatClampNeg 0) (-1))))).set 4 (.inl (0, 150, .inl (upd (fun _ => 0) (Int32.toNatClampNeg 0) 0)))).set 5 (.inl (0, 150, .inl (upd (fun _ => 0) (Int32.toNatClampNeg 0) (-1))))), h.2)) f71_3 rfl zg137 rfl rfl rfl rfl rfl rfl hc5).trans ?_
      refine (r_if_ne_f f71_6 (by decide)).trans ?_
      refine (r_iloadn f71_9 rfl).trans ?_
      refine (r_bipush (v := 7) f71_10 rfl).trans ?_
      refine (r_icmp_ne_t f71_12 (by decide)).trans ?_
      refine (r_iconst (v := 0) f71_19 rfl).trans ?_
      exact r_zreturn f71_20 rfl (by decide)
    refine (r_stat (as := [.int 0]) (v := (some (.int 0))) (h1 := ((((((h.1.set 2 (.inl (0, 150, .inl (upd (fun _ => 0) (Int32.toNatClampNeg 0) 0)))).set 3 (.inl (0, 150, .inl (upd (fun _ => 0) (Int32.toNatClampNeg 0) 0)))).set 7 (.inl (0, 150, .inl (upd (fun _ => 0) (Int32.toNatClampNeg 0) (-1))))).set 4 (.inl (0, 150, .inl (upd (fun _ => 0) (Int32.toNatClampNeg 0) 0)))).set 5 (.inl (0, 150, .inl (upd (fun _ => 0) (Int32.toNatClampNeg 0) (-1))))), h.2)) f79_65 rfl zg71 rfl rfl rfl rfl rfl rfl hc4).trans ?_
    refine (r_if_eq_t f79_68 (by decide)).trans ?_
    refine (r_iconst (v := 0) f79_75 rfl).trans ?_
    refine (r_iadd (v := 0) f79_76 (by decide)).trans ?_
    refine (r_put (h' := (((((((h.1.set 2 (.inl (0, 150, .inl (upd (fun _ => 0) (Int32.toNatClampNeg 0) 0)))).set 3 (.inl (0, 150, .inl (upd (fun _ => 0) (Int32.toNatClampNeg 0) 0)))).set 7 (.inl (0, 150, .inl (upd (fun _ => 0) (Int32.toNatClampNeg 0) (-1))))).set 4 (.inl (0, 150, .inl (upd (fun _ => 0) (Int32.toNatClampNeg 0) 0)))).set 5 (.inl (0, 150, .inl (upd (fun _ => 0) (Int32.toNatClampNeg 0) (-1))))).set 1 (.inr (6, [.int 0, .int 0, .int 0, .int 0, .int 0, .int 0, .int 0, .ref 2, .ref 3, .ref 4, .ref 5, .ref 6, .ref 7, .ref 8, .ref 9, .ref 10, .ref 11, .ref 12]))), h.2)) f79_77 (gs_ne (gs_ne (gs_ne (gs_ne (gs_ne g1 (by decide)) (by decide)) (by decide)) (by decide)) (by decide)) rfl rfl).trans ?_
    refine (r_aloadn f79_80 rfl).trans ?_
    refine (r_dup f79_81 rfl).trans ?_
    refine (r_get (v := .int 0) f79_82 (gs_eq (gs_ne (gs_ne (gs_ne (gs_ne (gs_ne g1 (by decide)) (by decide)) (by decide)) (by decide)) (by decide))) rfl).trans ?_
    refine (r_iloadn f79_85 rfl).trans ?_
    refine (r_iconst (v := 4) f79_86 rfl).trans ?_
    refine (r_iconst (v := 5) f79_87 rfl).trans ?_
    have hc6 : arun X (n + 12) (d + 2) zM137 0 [some (.int 0), some (.int 4), some (.int 5)] [] (((((((h.1.set 2 (.inl (0, 150, .inl (upd (fun _ => 0) (Int32.toNatClampNeg 0) 0)))).set 3 (.inl (0, 150, .inl (upd (fun _ => 0) (Int32.toNatClampNeg 0) 0)))).set 7 (.inl (0, 150, .inl (upd (fun _ => 0) (Int32.toNatClampNeg 0) (-1))))).set 4 (.inl (0, 150, .inl (upd (fun _ => 0) (Int32.toNatClampNeg 0) 0)))).set 5 (.inl (0, 150, .inl (upd (fun _ => 0) (Int32.toNatClampNeg 0) (-1))))).set 1 (.inr (6, [.int 0, .int 0, .int 0, .int 0, .int 0, .int 0, .int 0, .ref 2, .ref 3, .ref 4, .ref 5, .ref 6, .ref 7, .ref 8, .ref 9, .ref 10, .ref 11, .ref 12]))), h.2) = some ((some (.int 0)), (((((((h.1.set 2 (.inl (0, 150, .inl (upd (fun _ => 0) (Int32.toNatClampNeg 0) 0)))).set 3 (.inl (0, 150, .inl (upd (fun _ => 0) (Int32.toNatClampNeg 0) 0)))).set 7 (.inl (0, 150, .inl (upd (fun _ => 0) (Int32.toNatClampNeg 0) (-1))))).set 4 (.inl (0, 150, .inl (upd (fun _ => 0) (Int32.toNatClampNeg 0) 0)))).set 5 (.inl (0, 150, .inl (upd (fun _ => 0) (Int32.toNatClampNeg 0) (-1))))).set 1 (.inr (6, [.int 0, .int 0, .int 0, .int 0, .int 0, .int 0, .int 0, .ref 2, .ref 3, .ref 4, .ref 5, .ref 6, .ref 7, .ref 8, .ref 9, .ref 10, .ref 11, .ref 12]))), h.2)) := by
      refine (r_iloadn f137_0 rfl).trans ?_
      refine (r_iloadn f137_1 rfl).trans ?_
      refine (r_icmp_gt_t f137_2 (by decide)).trans ?_
      refine (r_iconst (v := 0) f137_14 rfl).trans ?_
      exact r_zreturn f137_15 rfl (by decide)
    refine (r_stat (as := [.int 0, .int 4, .int 5]) (v := (some (.int 0))) (h1 := (((((((h.1.set 2 (.inl (0, 150, .inl (upd (fun _ => 0) (Int32.toNatClampNeg 0) 0)))).set 3 (.inl (0, 150, .inl (upd (fun _ => 0) (Int32.toNatClampNeg 0) 0)))).set 7 (.inl (0, 150, .inl (upd (fun _ => 0) (Int32.toNatClampNeg 0) (-1))))).set 4 (.inl (0, 150, .inl (upd (fun _ => 0) (Int32.toNatClampNeg 0) 0)))).set 5 (.inl (0, 150, .inl (upd (fun _ => 0) (Int32.toNatClampNeg 0) (-1))))).set 1 (.inr (6, [.int 0, .int 0, .int 0, .int 0, .int 0, .int 0, .int 0, .ref 2, .ref 3, .ref 4, .ref 5, .ref 6, .ref 7, .ref 8, .ref 9, .ref 10, .ref 11, .ref 12]))), h.2)) f79_88 rfl zg137 rfl rfl rfl rfl rfl rfl hc6).trans ?_
    refine (r_if_eq_t f79_91 (by decide)).trans ?_
    refine (r_iconst (v := 0) f79_98 rfl).trans ?_
    refine (r_iadd (v := 0) f79_99 (by decide)).trans ?_
    refine (r_put (h' := (((((((h.1.set 2 (.inl (0, 150, .inl (upd (fun _ => 0) (Int32.toNatClampNeg 0) 0)))).set 3 (.inl (0, 150, .inl (upd (fun _ => 0) (Int32.toNatClampNeg 0) 0)))).set 7 (.inl (0, 150, .inl (upd (fun _ => 0) (Int32.toNatClampNeg 0) (-1))))).set 4 (.inl (0, 150, .inl (upd (fun _ => 0) (Int32.toNatClampNeg 0) 0)))).set 5 (.inl (0, 150, .inl (upd (fun _ => 0) (Int32.toNatClampNeg 0) (-1))))).set 1 (.inr (6, [.int 0, .int 0, .int 0, .int 0, .int 0, .int 0, .int 0, .ref 2, .ref 3, .ref 4, .ref 5, .ref 6, .ref 7, .ref 8, .ref 9, .ref 10, .ref 11, .ref 12]))), h.2)) f79_100 (gs_eq (gs_ne (gs_ne (gs_ne (gs_ne (gs_ne g1 (by decide)) (by decide)) (by decide)) (by decide)) (by decide))) rfl hss).trans ?_
    refine (r_aloadn f79_103 rfl).trans ?_
    refine (r_dup f79_104 rfl).trans ?_
    refine (r_get (v := .int 0) f79_105 (gs_eq (gs_ne (gs_ne (gs_ne (gs_ne (gs_ne g1 (by decide)) (by decide)) (by decide)) (by decide)) (by decide))) rfl).trans ?_
    refine (r_iconst (v := 1) f79_108 rfl).trans ?_
    refine (r_iadd (v := 1) f79_109 (by decide)).trans ?_
    refine (r_put (h' := (((((((h.1.set 2 (.inl (0, 150, .inl (upd (fun _ => 0) (Int32.toNatClampNeg 0) 0)))).set 3 (.inl (0, 150, .inl (upd (fun _ => 0) (Int32.toNatClampNeg 0) 0)))).set 7 (.inl (0, 150, .inl (upd (fun _ => 0) (Int32.toNatClampNeg 0) (-1))))).set 4 (.inl (0, 150, .inl (upd (fun _ => 0) (Int32.toNatClampNeg 0) 0)))).set 5 (.inl (0, 150, .inl (upd (fun _ => 0) (Int32.toNatClampNeg 0) (-1))))).set 1 (.inr (6, [.int 0, .int 1, .int 0, .int 0, .int 0, .int 0, .int 0, .ref 2, .ref 3, .ref 4, .ref 5, .ref 6, .ref 7, .ref 8, .ref 9, .ref 10, .ref 11, .ref 12]))), h.2)) f79_110 (gs_eq (gs_ne (gs_ne (gs_ne (gs_ne (gs_ne g1 (by decide)) (by decide)) (by decide)) (by decide)) (by decide))) rfl hss).trans ?_
    refine (r_iload f79_113 rfl).trans ?_
    exact r_ireturn f79_115 rfl
  refine (r_virt (as := [.int 0, .int 0, .int (-1)]) (v := (some (.int 0))) (h1 := (((((((h.1.set 2 (.inl (0, 150, .inl (upd (fun _ => 0) (Int32.toNatClampNeg 0) 0)))).set 3 (.inl (0, 150, .inl (upd (fun _ => 0) (Int32.toNatClampNeg 0) 0)))).set 7 (.inl (0, 150, .inl (upd (fun _ => 0) (Int32.toNatClampNeg 0) (-1))))).set 4 (.inl (0, 150, .inl (upd (fun _ => 0) (Int32.toNatClampNeg 0) 0)))).set 5 (.inl (0, 150, .inl (upd (fun _ => 0) (Int32.toNatClampNeg 0) (-1))))).set 1 (.inr (6, [.int 0, .int 1, .int 0, .int 0, .int 0, .int 0, .int 0, .ref 2, .ref 3, .ref 4, .ref 5, .ref 6, .ref 7, .ref 8, .ref 9, .ref 10, .ref 11, .ref 12]))), h.2)) f145_22 g1 zg79 rfl rfl rfl rfl rfl rfl hc2).trans ?_
  exact r_ireturn f145_25 rfl
set_option maxHeartbeats 40000000 in
theorem qm1_0_0 {X : aX} {n d : Nat} {h : aH}  (g72 : h.1[72]? = some (.inr (12, zF72))) (g73 : h.1[73]? = some (.inl (0, 150, .inl (fun _ => 0)))) (g75 : h.1[75]? = some (.inl (0, 150, .inl (fun _ => 0)))) (g76 : h.1[76]? = some (.inl (0, 150, .inl (fun _ => 0)))) (g77 : h.1[77]? = some (.inl (0, 150, .inl (fun _ => 0)))) : arun X (n + 43) (d + 2) zM205 0 [some (.ref 72)] [] h = some (some (.int 0), ((((((h.1.set 73 (.inl (0, 150, .inl (upd (fun _ => 0) (Int32.toNatClampNeg 0) 0)))).set 75 (.inl (0, 150, .inl (upd (fun _ => 0) (Int32.toNatClampNeg 0) (-1))))).set 76 (.inl (0, 150, .inl (upd (fun _ => 0) (Int32.toNatClampNeg 0) 0)))).set 77 (.inl (0, 150, .inl (upd (fun _ => 0) (Int32.toNatClampNeg 0) (-1))))).set 72 (.inr (12, (zF72.set 2 (.int 1))))), h.2)) := by
  refine (r_aloadn f205_0 rfl).trans ?_
  refine (r_get (v := .int 0) f205_1 g72 rfl).trans ?_
  refine (r_sipush (v := 150) f205_4 rfl).trans ?_
  refine (r_icmp_ne_t f205_7 (by decide)).trans ?_
  refine (r_aloadn f205_15 rfl).trans ?_
  refine (r_iconst (v := 0) f205_16 rfl).trans ?_
  have hc1 : arun X (n + 36) (d + 1) zM204 0 [some (.ref 72), some (.int 0)] [] h = some ((some (.int 0)), ((((((h.1.set 73 (.inl (0, 150, .inl (upd (fun _ => 0) (Int32.toNatClampNeg 0) 0)))).set 75 (.inl (0, 150, .inl (upd (fun _ => 0) (Int32.toNatClampNeg 0) (-1))))).set 76 (.inl (0, 150, .inl (upd (fun _ => 0) (Int32.toNatClampNeg 0) 0)))).set 77 (.inl (0, 150, .inl (upd (fun _ => 0) (Int32.toNatClampNeg 0) (-1))))).set 72 (.inr (12, (zF72.set 2 (.int 1))))), h.2)) := by
    refine (r_aloadn f204_0 rfl).trans ?_
    refine (r_get (v := .ref 73) f204_1 g72 rfl).trans ?_
    refine (r_aloadn f204_4 rfl).trans ?_
    refine (r_get (v := .int 0) f204_5 g72 rfl).trans ?_
    refine (r_iloadn f204_8 rfl).trans ?_
    refine (r_iast (h' := ((h.1.set 73 (.inl (0, 150, .inl (upd (fun _ => 0) (Int32.toNatClampNeg 0) 0)))), h.2)) f204_9 g73 (by decide) rfl).trans ?_
    refine (r_aloadn f204_10 rfl).trans ?_
    refine (r_get (v := .ref 75) f204_11 (gs_ne g72 (by decide)) rfl).trans ?_
    refine (r_aloadn f204_14 rfl).trans ?_
    refine (r_get (v := .int 0) f204_15 (gs_ne g72 (by decide)) rfl).trans ?_
    refine (r_iconst (v := (-1)) f204_18 rfl).trans ?_
    refine (r_iast (h' := (((h.1.set 73 (.inl (0, 150, .inl (upd (fun _ => 0) (Int32.toNatClampNeg 0) 0)))).set 75 (.inl (0, 150, .inl (upd (fun _ => 0) (Int32.toNatClampNeg 0) (-1))))), h.2)) f204_19 (gs_ne g75 (by decide)) (by decide) rfl).trans ?_
    refine (r_aloadn f204_20 rfl).trans ?_
    refine (r_get (v := .ref 76) f204_21 (gs_ne (gs_ne g72 (by decide)) (by decide)) rfl).trans ?_
    refine (r_aloadn f204_24 rfl).trans ?_
    refine (r_get (v := .int 0) f204_25 (gs_ne (gs_ne g72 (by decide)) (by decide)) rfl).trans ?_
    refine (r_aloadn f204_28 rfl).trans ?_
    refine (r_get (v := .int 0) f204_29 (gs_ne (gs_ne g72 (by decide)) (by decide)) rfl).trans ?_
    refine (r_iast (h' := ((((h.1.set 73 (.inl (0, 150, .inl (upd (fun _ => 0) (Int32.toNatClampNeg 0) 0)))).set 75 (.inl (0, 150, .inl (upd (fun _ => 0) (Int32.toNatClampNeg 0) (-1))))).set 76 (.inl (0, 150, .inl (upd (fun _ => 0) (Int32.toNatClampNeg 0) 0)))), h.2)) f204_32 (gs_ne (gs_ne g76 (by decide)) (by decide)) (by decide) rfl).trans ?_
    refine (r_aloadn f204_33 rfl).trans ?_
    refine (r_get (v := .ref 77) f204_34 (gs_ne (gs_ne (gs_ne g72 (by decide)) (by decide)) (by decide)) rfl).trans ?_
    refine (r_aloadn f204_37 rfl).trans ?_
    refine (r_get (v := .int 0) f204_38 (gs_ne (gs_ne (gs_ne g72 (by decide)) (by decide)) (by decide)) rfl).trans ?_
    refine (r_iconst (v := (-1)) f204_41 rfl).trans ?_
    refine (r_iast (h' := (((((h.1.set 73 (.inl (0, 150, .inl (upd (fun _ => 0) (Int32.toNatClampNeg 0) 0)))).set 75 (.inl (0, 150, .inl (upd (fun _ => 0) (Int32.toNatClampNeg 0) (-1))))).set 76 (.inl (0, 150, .inl (upd (fun _ => 0) (Int32.toNatClampNeg 0) 0)))).set 77 (.inl (0, 150, .inl (upd (fun _ => 0) (Int32.toNatClampNeg 0) (-1))))), h.2)) f204_42 (gs_ne (gs_ne (gs_ne g77 (by decide)) (by decide)) (by decide)) (by decide) rfl).trans ?_
    refine (r_aloadn f204_43 rfl).trans ?_
    refine (r_dup f204_44 rfl).trans ?_
    refine (r_get (v := .int 0) f204_45 (gs_ne (gs_ne (gs_ne (gs_ne g72 (by decide)) (by decide)) (by decide)) (by decide)) rfl).trans ?_
    refine (r_iconst (v := 1) f204_48 rfl).trans ?_
    refine (r_iadd (v := 1) f204_49 (by decide)).trans ?_
    refine (r_put (h' := ((((((h.1.set 73 (.inl (0, 150, .inl (upd (fun _ => 0) (Int32.toNatClampNeg 0) 0)))).set 75 (.inl (0, 150, .inl (upd (fun _ => 0) (Int32.toNatClampNeg 0) (-1))))).set 76 (.inl (0, 150, .inl (upd (fun _ => 0) (Int32.toNatClampNeg 0) 0)))).set 77 (.inl (0, 150, .inl (upd (fun _ => 0) (Int32.toNatClampNeg 0) (-1))))).set 72 (.inr (12, (zF72.set 2 (.int 1))))), h.2)) f204_50 (gs_ne (gs_ne (gs_ne (gs_ne g72 (by decide)) (by decide)) (by decide)) (by decide)) rfl rfl).trans ?_
    refine (r_aloadn f204_53 rfl).trans ?_
    refine (r_get (v := .int 1) f204_54 (gs_eq (gs_ne (gs_ne (gs_ne (gs_ne g72 (by decide)) (by decide)) (by decide)) (by decide))) rfl).trans ?_
    refine (r_iconst (v := 1) f204_57 rfl).trans ?_
    refine (r_isub (v := 0) f204_58 (by decide)).trans ?_
    exact r_ireturn f204_59 rfl
  refine (r_virt (as := [.int 0]) (v := (some (.int 0))) (h1 := ((((((h.1.set 73 (.inl (0, 150, .inl (upd (fun _ => 0) (Int32.toNatClampNeg 0) 0)))).set 75 (.inl (0, 150, .inl (upd (fun _ => 0) (Int32.toNatClampNeg 0) (-1))))).set 76 (.inl (0, 150, .inl (upd (fun _ => 0) (Int32.toNatClampNeg 0) 0)))).set 77 (.inl (0, 150, .inl (upd (fun _ => 0) (Int32.toNatClampNeg 0) (-1))))).set 72 (.inr (12, (zF72.set 2 (.int 1))))), h.2)) f205_17 g72 zg204 rfl rfl rfl rfl rfl rfl hc1).trans ?_
  exact r_ireturn f205_20 rfl
set_option maxHeartbeats 40000000 in
theorem qc2_0 {X : aX} {n d : Nat} {h : aH} {x1 : Int32} {x2 : Int32}  (ec0 : x1 < 1) (ec1 : ¬ x1 = 7) : arun X (n + 12) (d + 3) zM146 0 [some (.ref 0), some (.int x1), some (.int x2)] [] h = some (some (.int (-1)), h) := by
  refine (r_iloadn f146_0 rfl).trans ?_
  have hc1 : arun X (n + 10) (d + 2) zM71 0 [some (.int x1)] [] h = some ((some (.int 0)), h) := by
    refine (r_iloadn f71_0 rfl).trans ?_
    refine (r_iconst (v := 1) f71_1 rfl).trans ?_
    refine (r_iconst (v := 3) f71_2 rfl).trans ?_
    have hc2 : arun X (n + 6) (d + 1) zM137 0 [some (.int x1), some (.int 1), some (.int 3)] [] h = some ((some (.int 0)), h) := by
      refine (r_iloadn f137_0 rfl).trans ?_
      refine (r_iloadn f137_1 rfl).trans ?_
      refine (r_icmp_gt_t f137_2 ec0).trans ?_
      refine (r_iconst (v := 0) f137_14 rfl).trans ?_
      exact r_zreturn f137_15 rfl (by decide)
    refine (r_stat (as := [.int x1, .int 1, .int 3]) (v := (some (.int 0))) (h1 := h) f71_3 rfl zg137 rfl rfl rfl rfl rfl rfl hc2).trans ?_
    refine (r_if_ne_f f71_6 (by decide)).trans ?_
    refine (r_iloadn f71_9 rfl).trans ?_
    refine (r_bipush (v := 7) f71_10 rfl).trans ?_
    refine (r_icmp_ne_t f71_12 ec1).trans ?_
    refine (r_iconst (v := 0) f71_19 rfl).trans ?_
    exact r_zreturn f71_20 rfl (by decide)
  refine (r_stat (as := [.int x1]) (v := (some (.int 0))) (h1 := h) f146_1 rfl zg71 rfl rfl rfl rfl rfl rfl hc1).trans ?_
  refine (r_if_eq_t f146_4 (by decide)).trans ?_
  refine (r_iconst (v := (-1)) f146_14 rfl).trans ?_
  exact r_ireturn f146_15 rfl
set_option maxHeartbeats 40000000 in
theorem qm2_0_0 {X : aX} {n d : Nat} {h : aH} {x1 : Int32} {x2 : Int32}  (ec1 : ¬ x1 = 7) (em0 : ¬ x1 = 1) (em1 : ¬ x1 = 2) (em2 : ¬ x1 = 3) : arun X (n + 22) (d + 2) zM207 0 [some (.ref 72), some (.int x1), some (.int x2), none] [] h = some (some (.int (-1)), h) := by
  refine (r_iloadn f207_0 rfl).trans ?_
  refine (r_iconst (v := 1) f207_1 rfl).trans ?_
  have hc1 : arun X (n + 19) (d + 1) zM201 0 [some (.int x1), some (.int 1)] [] h = some ((some (.int 0)), h) := by
    refine (r_iloadn f201_0 rfl).trans ?_
    refine (r_if_eq_f f201_1 (by decide)).trans ?_
    refine (r_iloadn f201_4 rfl).trans ?_
    refine (r_iloadn f201_5 rfl).trans ?_
    refine (r_icmp_ne_t f201_6 em0).trans ?_
    refine (r_iloadn f201_11 rfl).trans ?_
    refine (r_iconst (v := 1) f201_12 rfl).trans ?_
    refine (r_icmp_ne_f f201_13 (by decide)).trans ?_
    refine (r_iloadn f201_16 rfl).trans ?_
    refine (r_iconst (v := 2) f201_17 rfl).trans ?_
    refine (r_icmp_eq_f f201_18 em1).trans ?_
    refine (r_iloadn f201_21 rfl).trans ?_
    refine (r_iconst (v := 3) f201_22 rfl).trans ?_
    refine (r_icmp_eq_f f201_23 em2).trans ?_
    refine (r_iloadn f201_26 rfl).trans ?_
    refine (r_bipush (v := 7) f201_27 rfl).trans ?_
    refine (r_icmp_ne_t f201_29 ec1).trans ?_
    refine (r_iconst (v := 0) f201_36 rfl).trans ?_
    exact r_zreturn f201_37 rfl (by decide)
  refine (r_stat (as := [.int x1, .int 1]) (v := (some (.int 0))) (h1 := h) f207_2 rfl zg201 rfl rfl rfl rfl rfl rfl hc1).trans ?_
  refine (r_if_eq_t f207_5 (by decide)).trans ?_
  refine (r_iconst (v := (-1)) f207_25 rfl).trans ?_
  exact r_ireturn f207_26 rfl
set_option maxHeartbeats 40000000 in
theorem qc2_1 {X : aX} {n d : Nat} {h : aH} {x1 : Int32} {x2 : Int32}  (ec0 : ¬ x1 < 1) (ec1 : 3 < x1) (ec2 : ¬ x1 = 7) : arun X (n + 14) (d + 3) zM146 0 [some (.ref 0), some (.int x1), some (.int x2)] [] h = some (some (.int (-1)), h) := by
  refine (r_iloadn f146_0 rfl).trans ?_
  have hc1 : arun X (n + 12) (d + 2) zM71 0 [some (.int x1)] [] h = some ((some (.int 0)), h) := by
    refine (r_iloadn f71_0 rfl).trans ?_
    refine (r_iconst (v := 1) f71_1 rfl).trans ?_
    refine (r_iconst (v := 3) f71_2 rfl).trans ?_
    have hc2 : arun X (n + 8) (d + 1) zM137 0 [some (.int x1), some (.int 1), some (.int 3)] [] h = some ((some (.int 0)), h) := by
      refine (r_iloadn f137_0 rfl).trans ?_
      refine (r_iloadn f137_1 rfl).trans ?_
      refine (r_icmp_gt_f f137_2 ec0).trans ?_
      refine (r_iloadn f137_5 rfl).trans ?_
      refine (r_iloadn f137_6 rfl).trans ?_
      refine (r_icmp_gt_t f137_7 ec1).trans ?_
      refine (r_iconst (v := 0) f137_14 rfl).trans ?_
      exact r_zreturn f137_15 rfl (by decide)
    refine (r_stat (as := [.int x1, .int 1, .int 3]) (v := (some (.int 0))) (h1 := h) f71_3 rfl zg137 rfl rfl rfl rfl rfl rfl hc2).trans ?_
    refine (r_if_ne_f f71_6 (by decide)).trans ?_
    refine (r_iloadn f71_9 rfl).trans ?_
    refine (r_bipush (v := 7) f71_10 rfl).trans ?_
    refine (r_icmp_ne_t f71_12 ec2).trans ?_
    refine (r_iconst (v := 0) f71_19 rfl).trans ?_
    exact r_zreturn f71_20 rfl (by decide)
  refine (r_stat (as := [.int x1]) (v := (some (.int 0))) (h1 := h) f146_1 rfl zg71 rfl rfl rfl rfl rfl rfl hc1).trans ?_
  refine (r_if_eq_t f146_4 (by decide)).trans ?_
  refine (r_iconst (v := (-1)) f146_14 rfl).trans ?_
  exact r_ireturn f146_15 rfl
set_option maxHeartbeats 40000000 in
theorem qm2_1_0 {X : aX} {n d : Nat} {h : aH} {x1 : Int32} {x2 : Int32}  (ec2 : ¬ x1 = 7) (em0 : ¬ x1 = 1) (em1 : ¬ x1 = 2) (em2 : ¬ x1 = 3) : arun X (n + 22) (d + 2) zM207 0 [some (.ref 72), some (.int x1), some (.int x2), none] [] h = some (some (.int (-1)), h) := by
  refine (r_iloadn f207_0 rfl).trans ?_
  refine (r_iconst (v := 1) f207_1 rfl).trans ?_
  have hc1 : arun X (n + 19) (d + 1) zM201 0 [some (.int x1), some (.int 1)] [] h = some ((some (.int 0)), h) := by
    refine (r_iloadn f201_0 rfl).trans ?_
    refine (r_if_eq_f f201_1 (by decide)).trans ?_
    refine (r_iloadn f201_4 rfl).trans ?_
    refine (r_iloadn f201_5 rfl).trans ?_
    refine (r_icmp_ne_t f201_6 em0).trans ?_
    refine (r_iloadn f201_11 rfl).trans ?_
    refine (r_iconst (v := 1) f201_12 rfl).trans ?_
    refine (r_icmp_ne_f f201_13 (by decide)).trans ?_
    refine (r_iloadn f201_16 rfl).trans ?_
    refine (r_iconst (v := 2) f201_17 rfl).trans ?_
    refine (r_icmp_eq_f f201_18 em1).trans ?_
    refine (r_iloadn f201_21 rfl).trans ?_
    refine (r_iconst (v := 3) f201_22 rfl).trans ?_
    refine (r_icmp_eq_f f201_23 em2).trans ?_
    refine (r_iloadn f201_26 rfl).trans ?_
    refine (r_bipush (v := 7) f201_27 rfl).trans ?_
    refine (r_icmp_ne_t f201_29 ec2).trans ?_
    refine (r_iconst (v := 0) f201_36 rfl).trans ?_
    exact r_zreturn f201_37 rfl (by decide)
  refine (r_stat (as := [.int x1, .int 1]) (v := (some (.int 0))) (h1 := h) f207_2 rfl zg201 rfl rfl rfl rfl rfl rfl hc1).trans ?_
  refine (r_if_eq_t f207_5 (by decide)).trans ?_
  refine (r_iconst (v := (-1)) f207_25 rfl).trans ?_
  exact r_ireturn f207_26 rfl
set_option maxHeartbeats 40000000 in
theorem qc2_2 {X : aX} {n d : Nat} {h : aH} {x1 : Int32} {x2 : Int32}  (ec0 : ¬ x1 < 1) (ec1 : 3 < x1) (ec2 : x1 = 7) (ec3 : x2 < 0) : arun X (n + 14) (d + 3) zM146 0 [some (.ref 0), some (.int x1), some (.int x2)] [] h = some (some (.int (-1)), h) := by
  refine (r_iloadn f146_0 rfl).trans ?_
  have hc1 : arun X (n + 12) (d + 2) zM71 0 [some (.int x1)] [] h = some ((some (.int 1)), h) := by
    refine (r_iloadn f71_0 rfl).trans ?_
    refine (r_iconst (v := 1) f71_1 rfl).trans ?_
    refine (r_iconst (v := 3) f71_2 rfl).trans ?_
    have hc2 : arun X (n + 8) (d + 1) zM137 0 [some (.int x1), some (.int 1), some (.int 3)] [] h = some ((some (.int 0)), h) := by
      refine (r_iloadn f137_0 rfl).trans ?_
      refine (r_iloadn f137_1 rfl).trans ?_
      refine (r_icmp_gt_f f137_2 ec0).trans ?_
      refine (r_iloadn f137_5 rfl).trans ?_
      refine (r_iloadn f137_6 rfl).trans ?_
      refine (r_icmp_gt_t f137_7 ec1).trans ?_
      refine (r_iconst (v := 0) f137_14 rfl).trans ?_
      exact r_zreturn f137_15 rfl (by decide)
    refine (r_stat (as := [.int x1, .int 1, .int 3]) (v := (some (.int 0))) (h1 := h) f71_3 rfl zg137 rfl rfl rfl rfl rfl rfl hc2).trans ?_
    refine (r_if_ne_f f71_6 (by decide)).trans ?_
    refine (r_iloadn f71_9 rfl).trans ?_
    refine (r_bipush (v := 7) f71_10 rfl).trans ?_
    refine (r_icmp_ne_f f71_12 ec2).trans ?_
    refine (r_iconst (v := 1) f71_15 rfl).trans ?_
    refine (r_goto f71_16).trans ?_
    exact r_zreturn f71_20 rfl (by decide)
  refine (r_stat (as := [.int x1]) (v := (some (.int 1))) (h1 := h) f146_1 rfl zg71 rfl rfl rfl rfl rfl rfl hc1).trans ?_
  refine (r_if_eq_f f146_4 (by decide)).trans ?_
  refine (r_iloadn f146_7 rfl).trans ?_
  have hc3 : arun X (n + 9) (d + 2) zM140 0 [some (.int x2)] [] h = some ((some (.int 0)), h) := by
    refine (r_iloadn f140_0 rfl).trans ?_
    refine (r_iconst (v := 0) f140_1 rfl).trans ?_
    refine (r_iconst (v := 3) f140_2 rfl).trans ?_
    have hc4 : arun X (n + 5) (d + 1) zM137 0 [some (.int x2), some (.int 0), some (.int 3)] [] h = some ((some (.int 0)), h) := by
      refine (r_iloadn f137_0 rfl).trans ?_
      refine (r_iloadn f137_1 rfl).trans ?_
      refine (r_icmp_gt_t f137_2 ec3).trans ?_
      refine (r_iconst (v := 0) f137_14 rfl).trans ?_
      exact r_zreturn f137_15 rfl (by decide)
    refine (r_stat (as := [.int x2, .int 0, .int 3]) (v := (some (.int 0))) (h1 := h) f140_3 rfl zg137 rfl rfl rfl rfl rfl rfl hc4).trans ?_
    exact r_zreturn f140_6 rfl (by decide)
  refine (r_stat (as := [.int x2]) (v := (some (.int 0))) (h1 := h) f146_8 rfl zg140 rfl rfl rfl rfl rfl rfl hc3).trans ?_
  refine (r_if_ne_f f146_11 (by decide)).trans ?_
  refine (r_iconst (v := (-1)) f146_14 rfl).trans ?_
  exact r_ireturn f146_15 rfl
set_option maxHeartbeats 40000000 in
theorem qm2_2_0 {X : aX} {n d : Nat} {h : aH} {x1 : Int32} {x2 : Int32}  (ec2 : x1 = 7) (ec3 : x2 < 0) (em0 : ¬ x1 = 1) (em1 : ¬ x1 = 2) (em2 : ¬ x1 = 3) (em3 : ¬ x1 < 0) (em4 : ¬ 7 < x1) : arun X (n + 23) (d + 3) zM207 0 [some (.ref 72), some (.int x1), some (.int x2), none] [] h = some (some (.int (-1)), h) := by
  refine (r_iloadn f207_0 rfl).trans ?_
  refine (r_iconst (v := 1) f207_1 rfl).trans ?_
  have hc1 : arun X (n + 20) (d + 2) zM201 0 [some (.int x1), some (.int 1)] [] h = some ((some (.int 1)), h) := by
    refine (r_iloadn f201_0 rfl).trans ?_
    refine (r_if_eq_f f201_1 (by decide)).trans ?_
    refine (r_iloadn f201_4 rfl).trans ?_
    refine (r_iloadn f201_5 rfl).trans ?_
    refine (r_icmp_ne_t f201_6 em0).trans ?_
    refine (r_iloadn f201_11 rfl).trans ?_
    refine (r_iconst (v := 1) f201_12 rfl).trans ?_
    refine (r_icmp_ne_f f201_13 (by decide)).trans ?_
    refine (r_iloadn f201_16 rfl).trans ?_
    refine (r_iconst (v := 2) f201_17 rfl).trans ?_
    refine (r_icmp_eq_f f201_18 em1).trans ?_
    refine (r_iloadn f201_21 rfl).trans ?_
    refine (r_iconst (v := 3) f201_22 rfl).trans ?_
    refine (r_icmp_eq_f f201_23 em2).trans ?_
    refine (r_iloadn f201_26 rfl).trans ?_
    refine (r_bipush (v := 7) f201_27 rfl).trans ?_
    refine (r_icmp_ne_f f201_29 ec2).trans ?_
    refine (r_iconst (v := 1) f201_32 rfl).trans ?_
    refine (r_goto f201_33).trans ?_
    exact r_zreturn f201_37 rfl (by decide)
  refine (r_stat (as := [.int x1, .int 1]) (v := (some (.int 1))) (h1 := h) f207_2 rfl zg201 rfl rfl rfl rfl rfl rfl hc1).trans ?_
  refine (r_if_eq_f f207_5 (by decide)).trans ?_
  refine (r_iloadn f207_8 rfl).trans ?_
  refine (r_iconst (v := 0) f207_9 rfl).trans ?_
  refine (r_bipush (v := 7) f207_10 rfl).trans ?_
  have hc2 : arun X (n + 15) (d + 2) zM196 0 [some (.int x1), some (.int 0), some (.int 7)] [] h = some ((some (.int 1)), h) := by
    refine (r_iloadn f196_0 rfl).trans ?_
    refine (r_iloadn f196_1 rfl).trans ?_
    refine (r_icmp_lt_f f196_2 em3).trans ?_
    refine (r_iloadn f196_5 rfl).trans ?_
    refine (r_iloadn f196_6 rfl).trans ?_
    refine (r_icmp_gt_f f196_7 em4).trans ?_
    refine (r_iconst (v := 1) f196_10 rfl).trans ?_
    refine (r_goto f196_11).trans ?_
    exact r_zreturn f196_15 rfl (by decide)
  refine (r_stat (as := [.int x1, .int 0, .int 7]) (v := (some (.int 1))) (h1 := h) f207_12 rfl zg196 rfl rfl rfl rfl rfl rfl hc2).trans ?_
  refine (r_if_eq_f f207_15 (by decide)).trans ?_
  refine (r_iloadn f207_18 rfl).trans ?_
  have hc3 : arun X (n + 12) (d + 2) zM206 0 [some (.int x2)] [] h = some ((some (.int 0)), h) := by
    refine (r_iloadn f206_0 rfl).trans ?_
    refine (r_iconst (v := 0) f206_1 rfl).trans ?_
    refine (r_iconst (v := 3) f206_2 rfl).trans ?_
    have hc4 : arun X (n + 8) (d + 1) zM196 0 [some (.int x2), some (.int 0), some (.int 3)] [] h = some ((some (.int 0)), h) := by
      refine (r_iloadn f196_0 rfl).trans ?_
      refine (r_iloadn f196_1 rfl).trans ?_
      refine (r_icmp_lt_t f196_2 ec3).trans ?_
      refine (r_iconst (v := 0) f196_14 rfl).trans ?_
      exact r_zreturn f196_15 rfl (by decide)
    refine (r_stat (as := [.int x2, .int 0, .int 3]) (v := (some (.int 0))) (h1 := h) f206_3 rfl zg196 rfl rfl rfl rfl rfl rfl hc4).trans ?_
    exact r_zreturn f206_6 rfl (by decide)
  refine (r_stat (as := [.int x2]) (v := (some (.int 0))) (h1 := h) f207_19 rfl zg206 rfl rfl rfl rfl rfl rfl hc3).trans ?_
  refine (r_if_ne_f f207_22 (by decide)).trans ?_
  refine (r_iconst (v := (-1)) f207_25 rfl).trans ?_
  exact r_ireturn f207_26 rfl
set_option maxHeartbeats 40000000 in
theorem qc2_3 {X : aX} {n d : Nat} {h : aH} {x1 : Int32} {x2 : Int32}  (ec0 : ¬ x1 < 1) (ec1 : 3 < x1) (ec2 : x1 = 7) (ec3 : ¬ x2 < 0) (ec4 : 3 < x2) : arun X (n + 17) (d + 3) zM146 0 [some (.ref 0), some (.int x1), some (.int x2)] [] h = some (some (.int (-1)), h) := by
  refine (r_iloadn f146_0 rfl).trans ?_
  have hc1 : arun X (n + 15) (d + 2) zM71 0 [some (.int x1)] [] h = some ((some (.int 1)), h) := by
    refine (r_iloadn f71_0 rfl).trans ?_
    refine (r_iconst (v := 1) f71_1 rfl).trans ?_
    refine (r_iconst (v := 3) f71_2 rfl).trans ?_
    have hc2 : arun X (n + 11) (d + 1) zM137 0 [some (.int x1), some (.int 1), some (.int 3)] [] h = some ((some (.int 0)), h) := by
      refine (r_iloadn f137_0 rfl).trans ?_
      refine (r_iloadn f137_1 rfl).trans ?_
      refine (r_icmp_gt_f f137_2 ec0).trans ?_
      refine (r_iloadn f137_5 rfl).trans ?_
      refine (r_iloadn f137_6 rfl).trans ?_
      refine (r_icmp_gt_t f137_7 ec1).trans ?_
      refine (r_iconst (v := 0) f137_14 rfl).trans ?_
      exact r_zreturn f137_15 rfl (by decide)
    refine (r_stat (as := [.int x1, .int 1, .int 3]) (v := (some (.int 0))) (h1 := h) f71_3 rfl zg137 rfl rfl rfl rfl rfl rfl hc2).trans ?_
    refine (r_if_ne_f f71_6 (by decide)).trans ?_
    refine (r_iloadn f71_9 rfl).trans ?_
    refine (r_bipush (v := 7) f71_10 rfl).trans ?_
    refine (r_icmp_ne_f f71_12 ec2).trans ?_
    refine (r_iconst (v := 1) f71_15 rfl).trans ?_
    refine (r_goto f71_16).trans ?_
    exact r_zreturn f71_20 rfl (by decide)
  refine (r_stat (as := [.int x1]) (v := (some (.int 1))) (h1 := h) f146_1 rfl zg71 rfl rfl rfl rfl rfl rfl hc1).trans ?_
  refine (r_if_eq_f f146_4 (by decide)).trans ?_
  refine (r_iloadn f146_7 rfl).trans ?_
  have hc3 : arun X (n + 12) (d + 2) zM140 0 [some (.int x2)] [] h = some ((some (.int 0)), h) := by
    refine (r_iloadn f140_0 rfl).trans ?_
    refine (r_iconst (v := 0) f140_1 rfl).trans ?_
    refine (r_iconst (v := 3) f140_2 rfl).trans ?_
    have hc4 : arun X (n + 8) (d + 1) zM137 0 [some (.int x2), some (.int 0), some (.int 3)] [] h = some ((some (.int 0)), h) := by
      refine (r_iloadn f137_0 rfl).trans ?_
      refine (r_iloadn f137_1 rfl).trans ?_
      refine (r_icmp_gt_f f137_2 ec3).trans ?_
      refine (r_iloadn f137_5 rfl).trans ?_
      refine (r_iloadn f137_6 rfl).trans ?_
      refine (r_icmp_gt_t f137_7 ec4).trans ?_
      refine (r_iconst (v := 0) f137_14 rfl).trans ?_
      exact r_zreturn f137_15 rfl (by decide)
    refine (r_stat (as := [.int x2, .int 0, .int 3]) (v := (some (.int 0))) (h1 := h) f140_3 rfl zg137 rfl rfl rfl rfl rfl rfl hc4).trans ?_
    exact r_zreturn f140_6 rfl (by decide)
  refine (r_stat (as := [.int x2]) (v := (some (.int 0))) (h1 := h) f146_8 rfl zg140 rfl rfl rfl rfl rfl rfl hc3).trans ?_
  refine (r_if_ne_f f146_11 (by decide)).trans ?_
  refine (r_iconst (v := (-1)) f146_14 rfl).trans ?_
  exact r_ireturn f146_15 rfl
set_option maxHeartbeats 40000000 in
theorem qm2_3_0 {X : aX} {n d : Nat} {h : aH} {x1 : Int32} {x2 : Int32}  (ec2 : x1 = 7) (ec3 : ¬ x2 < 0) (ec4 : 3 < x2) (em0 : ¬ x1 = 1) (em1 : ¬ x1 = 2) (em2 : ¬ x1 = 3) (em3 : ¬ x1 < 0) (em4 : ¬ 7 < x1) : arun X (n + 23) (d + 3) zM207 0 [some (.ref 72), some (.int x1), some (.int x2), none] [] h = some (some (.int (-1)), h) := by
  refine (r_iloadn f207_0 rfl).trans ?_
  refine (r_iconst (v := 1) f207_1 rfl).trans ?_
  have hc1 : arun X (n + 20) (d + 2) zM201 0 [some (.int x1), some (.int 1)] [] h = some ((some (.int 1)), h) := by
    refine (r_iloadn f201_0 rfl).trans ?_
    refine (r_if_eq_f f201_1 (by decide)).trans ?_
    refine (r_iloadn f201_4 rfl).trans ?_
    refine (r_iloadn f201_5 rfl).trans ?_
    refine (r_icmp_ne_t f201_6 em0).trans ?_
    refine (r_iloadn f201_11 rfl).trans ?_
    refine (r_iconst (v := 1) f201_12 rfl).trans ?_
    refine (r_icmp_ne_f f201_13 (by decide)).trans ?_
    refine (r_iloadn f201_16 rfl).trans ?_
    refine (r_iconst (v := 2) f201_17 rfl).trans ?_
    refine (r_icmp_eq_f f201_18 em1).trans ?_
    refine (r_iloadn f201_21 rfl).trans ?_
    refine (r_iconst (v := 3) f201_22 rfl).trans ?_
    refine (r_icmp_eq_f f201_23 em2).trans ?_
    refine (r_iloadn f201_26 rfl).trans ?_
    refine (r_bipush (v := 7) f201_27 rfl).trans ?_
    refine (r_icmp_ne_f f201_29 ec2).trans ?_
    refine (r_iconst (v := 1) f201_32 rfl).trans ?_
    refine (r_goto f201_33).trans ?_
    exact r_zreturn f201_37 rfl (by decide)
  refine (r_stat (as := [.int x1, .int 1]) (v := (some (.int 1))) (h1 := h) f207_2 rfl zg201 rfl rfl rfl rfl rfl rfl hc1).trans ?_
  refine (r_if_eq_f f207_5 (by decide)).trans ?_
  refine (r_iloadn f207_8 rfl).trans ?_
  refine (r_iconst (v := 0) f207_9 rfl).trans ?_
  refine (r_bipush (v := 7) f207_10 rfl).trans ?_
  have hc2 : arun X (n + 15) (d + 2) zM196 0 [some (.int x1), some (.int 0), some (.int 7)] [] h = some ((some (.int 1)), h) := by
    refine (r_iloadn f196_0 rfl).trans ?_
    refine (r_iloadn f196_1 rfl).trans ?_
    refine (r_icmp_lt_f f196_2 em3).trans ?_
    refine (r_iloadn f196_5 rfl).trans ?_
    refine (r_iloadn f196_6 rfl).trans ?_
    refine (r_icmp_gt_f f196_7 em4).trans ?_
    refine (r_iconst (v := 1) f196_10 rfl).trans ?_
    refine (r_goto f196_11).trans ?_
    exact r_zreturn f196_15 rfl (by decide)
  refine (r_stat (as := [.int x1, .int 0, .int 7]) (v := (some (.int 1))) (h1 := h) f207_12 rfl zg196 rfl rfl rfl rfl rfl rfl hc2).trans ?_
  refine (r_if_eq_f f207_15 (by decide)).trans ?_
  refine (r_iloadn f207_18 rfl).trans ?_
  have hc3 : arun X (n + 12) (d + 2) zM206 0 [some (.int x2)] [] h = some ((some (.int 0)), h) := by
    refine (r_iloadn f206_0 rfl).trans ?_
    refine (r_iconst (v := 0) f206_1 rfl).trans ?_
    refine (r_iconst (v := 3) f206_2 rfl).trans ?_
    have hc4 : arun X (n + 8) (d + 1) zM196 0 [some (.int x2), some (.int 0), some (.int 3)] [] h = some ((some (.int 0)), h) := by
      refine (r_iloadn f196_0 rfl).trans ?_
      refine (r_iloadn f196_1 rfl).trans ?_
      refine (r_icmp_lt_f f196_2 ec3).trans ?_
      refine (r_iloadn f196_5 rfl).trans ?_
      refine (r_iloadn f196_6 rfl).trans ?_
      refine (r_icmp_gt_t f196_7 ec4).trans ?_
      refine (r_iconst (v := 0) f196_14 rfl).trans ?_
      exact r_zreturn f196_15 rfl (by decide)
    refine (r_stat (as := [.int x2, .int 0, .int 3]) (v := (some (.int 0))) (h1 := h) f206_3 rfl zg196 rfl rfl rfl rfl rfl rfl hc4).trans ?_
    exact r_zreturn f206_6 rfl (by decide)
  refine (r_stat (as := [.int x2]) (v := (some (.int 0))) (h1 := h) f207_19 rfl zg206 rfl rfl rfl rfl rfl rfl hc3).trans ?_
  refine (r_if_ne_f f207_22 (by decide)).trans ?_
  refine (r_iconst (v := (-1)) f207_25 rfl).trans ?_
  exact r_ireturn f207_26 rfl
set_option maxHeartbeats 40000000 in
theorem qc2_4 {X : aX} {n d : Nat} {h : aH} {x1 : Int32} {x2 : Int32}  (g0 : h.1[0]? = some (.inr (11, zF0))) (g1 : h.1[1]? = some (.inr (6, zF1))) (g2 : h.1[2]? = some (.inl (0, 150, .inl (fun _ => 0)))) (g3 : h.1[3]? = some (.inl (0, 150, .inl (fun _ => 0)))) (g4 : h.1[4]? = some (.inl (0, 150, .inl (fun _ => 0)))) (g5 : h.1[5]? = some (.inl (0, 150, .inl (fun _ => 0)))) (g7 : h.1[7]? = some (.inl (0, 150, .inl (fun _ => 0)))) (ec0 : ¬ x1 < 1) (ec1 : 3 < x1) (ec2 : x1 = 7) (ec3 : ¬ x2 < 0) (ec4 : ¬ 3 < x2) (ec5 : ¬ x1 < 4) (ec6 : 5 < x1) : arun X (n + 77) (d + 4) zM146 0 [some (.ref 0), some (.int x1), some (.int x2)] [] h = some (some (.int 0), (((((((h.1.set 2 (.inl (0, 150, .inl (upd (fun _ => 0) (Int32.toNatClampNeg 0) x1)))).set 3 (.inl (0, 150, .inl (upd (fun _ => 0) (Int32.toNatClampNeg 0) x2)))).set 7 (.inl (0, 150, .inl (upd (fun _ => 0) (Int32.toNatClampNeg 0) (-1))))).set 4 (.inl (0, 150, .inl (upd (fun _ => 0) (Int32.toNatClampNeg 0) 0)))).set 5 (.inl (0, 150, .inl (upd (fun _ => 0) (Int32.toNatClampNeg 0) (-1))))).set 1 (.inr (6, [.int 0, .int 1, .int 1, .int 0, .int 0, .int 0, .int 0, .ref 2, .ref 3, .ref 4, .ref 5, .ref 6, .ref 7, .ref 8, .ref 9, .ref 10, .ref 11, .ref 12]))), h.2)) := by
  refine (r_iloadn f146_0 rfl).trans ?_
  have hc1 : arun X (n + 75) (d + 3) zM71 0 [some (.int x1)] [] h = some ((some (.int 1)), h) := by
    refine (r_iloadn f71_0 rfl).trans ?_
    refine (r_iconst (v := 1) f71_1 rfl).trans ?_
    refine (r_iconst (v := 3) f71_2 rfl).trans ?_
    have hc2 : arun X (n + 71) (d + 2) zM137 0 [some (.int x1), some (.int 1), some (.int 3)] [] h = some ((some (.int 0)), h) := by
      refine (r_iloadn f137_0 rfl).trans ?_
      refine (r_iloadn f137_1 rfl).trans ?_
      refine (r_icmp_gt_f f137_2 ec0).trans ?_
      refine (r_iloadn f137_5 rfl).trans ?_
      refine (r_iloadn f137_6 rfl).trans ?_
      refine (r_icmp_gt_t f137_7 ec1).trans ?_
      refine (r_iconst (v := 0) f137_14 rfl).trans ?_
      exact r_zreturn f137_15 rfl (by decide)
    refine (r_stat (as := [.int x1, .int 1, .int 3]) (v := (some (.int 0))) (h1 := h) f71_3 rfl zg137 rfl rfl rfl rfl rfl rfl hc2).trans ?_
    refine (r_if_ne_f f71_6 (by decide)).trans ?_
    refine (r_iloadn f71_9 rfl).trans ?_
    refine (r_bipush (v := 7) f71_10 rfl).trans ?_
    refine (r_icmp_ne_f f71_12 ec2).trans ?_
    refine (r_iconst (v := 1) f71_15 rfl).trans ?_
    refine (r_goto f71_16).trans ?_
    exact r_zreturn f71_20 rfl (by decide)
  refine (r_stat (as := [.int x1]) (v := (some (.int 1))) (h1 := h) f146_1 rfl zg71 rfl rfl rfl rfl rfl rfl hc1).trans ?_
  refine (r_if_eq_f f146_4 (by decide)).trans ?_
  refine (r_iloadn f146_7 rfl).trans ?_
  have hc3 : arun X (n + 72) (d + 3) zM140 0 [some (.int x2)] [] h = some ((some (.int 1)), h) := by
    refine (r_iloadn f140_0 rfl).trans ?_
    refine (r_iconst (v := 0) f140_1 rfl).trans ?_
    refine (r_iconst (v := 3) f140_2 rfl).trans ?_
    have hc4 : arun X (n + 68) (d + 2) zM137 0 [some (.int x2), some (.int 0), some (.int 3)] [] h = some ((some (.int 1)), h) := by
      refine (r_iloadn f137_0 rfl).trans ?_
      refine (r_iloadn f137_1 rfl).trans ?_
      refine (r_icmp_gt_f f137_2 ec3).trans ?_
      refine (r_iloadn f137_5 rfl).trans ?_
      refine (r_iloadn f137_6 rfl).trans ?_
      refine (r_icmp_gt_f f137_7 ec4).trans ?_
      refine (r_iconst (v := 1) f137_10 rfl).trans ?_
      refine (r_goto f137_11).trans ?_
      exact r_zreturn f137_15 rfl (by decide)
    refine (r_stat (as := [.int x2, .int 0, .int 3]) (v := (some (.int 1))) (h1 := h) f140_3 rfl zg137 rfl rfl rfl rfl rfl rfl hc4).trans ?_
    exact r_zreturn f140_6 rfl (by decide)
  refine (r_stat (as := [.int x2]) (v := (some (.int 1))) (h1 := h) f146_8 rfl zg140 rfl rfl rfl rfl rfl rfl hc3).trans ?_
  refine (r_if_ne_t f146_11 (by decide)).trans ?_
  refine (r_aloadn f146_16 rfl).trans ?_
  refine (r_get (v := .ref 1) f146_17 g0 rfl).trans ?_
  have hc5 : arun X (n + 68) (d + 3) zM73 0 [some (.ref 1)] [] h = some ((some (.int 0)), h) := by
    refine (r_aloadn f73_0 rfl).trans ?_
    refine (r_get (v := .int 0) f73_1 g1 rfl).trans ?_
    refine (r_sipush (v := 150) f73_4 rfl).trans ?_
    refine (r_icmp_lt_t f73_7 (by decide)).trans ?_
    refine (r_iconst (v := 0) f73_14 rfl).trans ?_
    exact r_zreturn f73_15 rfl (by decide)
  refine (r_virt (as := []) (v := (some (.int 0))) (h1 := h) f146_20 g1 zg73 rfl rfl rfl rfl rfl rfl hc5).trans ?_
  refine (r_if_eq_t f146_23 (by decide)).trans ?_
  refine (r_aloadn f146_31 rfl).trans ?_
  refine (r_get (v := .ref 1) f146_32 g0 rfl).trans ?_
  refine (r_iloadn f146_35 rfl).trans ?_
  refine (r_iloadn f146_36 rfl).trans ?_
  refine (r_iconst (v := (-1)) f146_37 rfl).trans ?_
  have hc6 : arun X (n + 61) (d + 3) zM79 0 [some (.ref 1), some (.int x1), some (.int x2), some (.int (-1)), none] [] h = some ((some (.int 0)), (((((((h.1.set 2 (.inl (0, 150, .inl (upd (fun _ => 0) (Int32.toNatClampNeg 0) x1)))).set 3 (.inl (0, 150, .inl (upd (fun _ => 0) (Int32.toNatClampNeg 0) x2)))).set 7 (.inl (0, 150, .inl (upd (fun _ => 0) (Int32.toNatClampNeg 0) (-1))))).set 4 (.inl (0, 150, .inl (upd (fun _ => 0) (Int32.toNatClampNeg 0) 0)))).set 5 (.inl (0, 150, .inl (upd (fun _ => 0) (Int32.toNatClampNeg 0) (-1))))).set 1 (.inr (6, [.int 0, .int 1, .int 1, .int 0, .int 0, .int 0, .int 0, .ref 2, .ref 3, .ref 4, .ref 5, .ref 6, .ref 7, .ref 8, .ref 9, .ref 10, .ref 11, .ref 12]))), h.2)) := by
    refine (r_aloadn f79_0 rfl).trans ?_
    refine (r_get (v := .int 0) f79_1 g1 rfl).trans ?_
    refine (r_istore (L' := [some (.ref 1), some (.int x1), some (.int x2), some (.int (-1)), some (.int 0)]) f79_4 rfl rfl).trans ?_
    refine (r_aloadn f79_6 rfl).trans ?_
    have hc7 : arun X (n + 56) (d + 2) zM73 0 [some (.ref 1)] [] h = some ((some (.int 0)), h) := by
      refine (r_aloadn f73_0 rfl).trans ?_
      refine (r_get (v := .int 0) f73_1 g1 rfl).trans ?_
      refine (r_sipush (v := 150) f73_4 rfl).trans ?_
      refine (r_icmp_lt_t f73_7 (by decide)).trans ?_
      refine (r_iconst (v := 0) f73_14 rfl).trans ?_
      exact r_zreturn f73_15 rfl (by decide)
    refine (r_virt (as := []) (v := (some (.int 0))) (h1 := h) f79_7 g1 zg73 rfl rfl rfl rfl rfl rfl hc7).trans ?_
    refine (r_if_eq_t f79_10 (by decide)).trans ?_
    refine (r_aloadn f79_16 rfl).trans ?_
    refine (r_get (v := .ref 2) f79_17 g1 rfl).trans ?_
    refine (r_iload f79_20 rfl).trans ?_
    refine (r_iloadn f79_22 rfl).trans ?_
    refine (r_iast (h' := ((h.1.set 2 (.inl (0, 150, .inl (upd (fun _ => 0) (Int32.toNatClampNeg 0) x1)))), h.2)) f79_23 g2 (by decide) rfl).trans ?_
    refine (r_aloadn f79_24 rfl).trans ?_
    refine (r_get (v := .ref 3) f79_25 (gs_ne g1 (by decide)) rfl).trans ?_
    refine (r_iload f79_28 rfl).trans ?_
    refine (r_iloadn f79_30 rfl).trans ?_
    refine (r_iast (h' := (((h.1.set 2 (.inl (0, 150, .inl (upd (fun _ => 0) (Int32.toNatClampNeg 0) x1)))).set 3 (.inl (0, 150, .inl (upd (fun _ => 0) (Int32.toNatClampNeg 0) x2)))), h.2)) f79_31 (gs_ne g3 (by decide)) (by decide) rfl).trans ?_
    refine (r_aloadn f79_32 rfl).trans ?_
    refine (r_get (v := .ref 7) f79_33 (gs_ne (gs_ne g1 (by decide)) (by decide)) rfl).trans ?_
    refine (r_iload f79_36 rfl).trans ?_
    refine (r_iloadn f79_38 rfl).trans ?_
    refine (r_iast (h' := ((((h.1.set 2 (.inl (0, 150, .inl (upd (fun _ => 0) (Int32.toNatClampNeg 0) x1)))).set 3 (.inl (0, 150, .inl (upd (fun _ => 0) (Int32.toNatClampNeg 0) x2)))).set 7 (.inl (0, 150, .inl (upd (fun _ => 0) (Int32.toNatClampNeg 0) (-1))))), h.2)) f79_39 (gs_ne (gs_ne g7 (by decide)) (by decide)) (by decide) rfl).trans ?_
    refine (r_aloadn f79_40 rfl).trans ?_
    refine (r_get (v := .ref 4) f79_41 (gs_ne (gs_ne (gs_ne g1 (by decide)) (by decide)) (by decide)) rfl).trans ?_
    refine (r_iload f79_44 rfl).trans ?_
    refine (r_aloadn f79_46 rfl).trans ?_
    refine (r_get (v := .int 0) f79_47 (gs_ne (gs_ne (gs_ne g1 (by decide)) (by decide)) (by decide)) rfl).trans ?_
    refine (r_iast (h' := (((((h.1.set 2 (.inl (0, 150, .inl (upd (fun _ => 0) (Int32.toNatClampNeg 0) x1)))).set 3 (.inl (0, 150, .inl (upd (fun _ => 0) (Int32.toNatClampNeg 0) x2)))).set 7 (.inl (0, 150, .inl (upd (fun _ => 0) (Int32.toNatClampNeg 0) (-1))))).set 4 (.inl (0, 150, .inl (upd (fun _ => 0) (Int32.toNatClampNeg 0) 0)))), h.2)) f79_50 (gs_ne (gs_ne (gs_ne g4 (by decide)) (by decide)) (by decide)) (by decide) rfl).trans ?_
    refine (r_aloadn f79_51 rfl).trans ?_
    refine (r_get (v := .ref 5) f79_52 (gs_ne (gs_ne (gs_ne (gs_ne g1 (by decide)) (by decide)) (by decide)) (by decide)) rfl).trans ?_
    refine (r_iload f79_55 rfl).trans ?_
    refine (r_iconst (v := (-1)) f79_57 rfl).trans ?_
    refine (r_iast (h' := ((((((h.1.set 2 (.inl (0, 150, .inl (upd (fun _ => 0) (Int32.toNatClampNeg 0) x1)))).set 3 (.inl (0, 150, .inl (upd (fun _ => 0) (Int32.toNatClampNeg 0) x2)))).set 7 (.inl (0, 150, .inl (upd (fun _ => 0) (Int32.toNatClampNeg 0) (-1))))).set 4 (.inl (0, 150, .inl (upd (fun _ => 0) (Int32.toNatClampNeg 0) 0)))).set 5 (.inl (0, 150, .inl (upd (fun _ => 0) (Int32.toNatClampNeg 0) (-1))))), h.2)) f79_58 (gs_ne (gs_ne (gs_ne (gs_ne g5 (by decide)) (by decide)) (by decide)) (by decide)) (by decide) rfl).trans ?_
    refine (r_aloadn f79_59 rfl).trans ?_
    refine (r_dup f79_60 rfl).trans ?_
    refine (r_get (v := .int 0) f79_61 (gs_ne (gs_ne (gs_ne (gs_ne (gs_ne g1 (by decide)) (by decide)) (by decide)) (by decide)) (by decide)) rfl).trans ?_
    refine (r_iloadn f79_64 rfl).trans ?_
    have hc8 : arun X (n + 24) (d + 2) zM71 0 [some (.int x1)] [] ((((((h.1.set 2 (.inl (0, 150, .inl (upd (fun _ => 0) (Int32.toNatClampNeg 0) x1)))).set 3 (.inl (0, 150, .inl (upd (fun _ => 0) (Int32.toNatClampNeg 0) x2)))).set 7 (.inl (0, 150, .inl (upd (fun _ => 0) (Int32.toNatClampNeg 0) (-1))))).set 4 (.inl (0, 150, .inl (upd (fun _ => 0) (Int32.toNatClampNeg 0) 0)))).set 5 (.inl (0, 150, .inl (upd (fun _ => 0) (Int32.toNatClampNeg 0) (-1))))), h.2) = some ((some (.int 1)), ((((((h.1.set 2 (.inl (0, 150, .inl (upd (fun _ => 0) (Int32.toNatClampNeg 0) x1)))).set 3 (.inl (0, 150, .inl (upd (fun _ => 0) (Int32.toNatClampNeg 0) x2)))).set 7 (.inl (0, 150, .inl (upd (fun _ => 0) (Int32.toNatClampNeg 0) (-1))))).set 4 (.inl (0, 150, .inl (upd (fun _ => 0) (Int32.toNatClampNeg 0) 0)))).set 5 (.inl (0, 150, .inl (upd (fun _ => 0) (Int32.toNatClampNeg 0) (-1))))), h.2)) := by
      refine (r_iloadn f71_0 rfl).trans ?_
      refine (r_iconst (v := 1) f71_1 rfl).trans ?_
      refine (r_iconst (v := 3) f71_2 rfl).trans ?_
      have hc9 : arun X (n + 20) (d + 1) zM137 0 [some (.int x1), some (.int 1), some (.int 3)] [] ((((((h.1.set 2 (.inl (0, 150, .inl (upd (fun _ => 0) (Int32.toNatClampNeg 0) x1)))).set 3 (.inl (0, 150, .inl (upd (fun _ => 0) (Int32.toNatClampNeg 0) x2)))).set 7 (.inl (0, 150, .inl (upd (fun _ => 0) (Int32.toNatClampNeg 0) (-1))))).set 4 (.inl (0, 150, .inl (upd (fun _ => 0) (Int32.toNatClampNeg 0) 0)))).set 5 (.inl (0, 150, .inl (upd (fun _ => 0) (Int32.toNatClampNeg 0) (-1))))), h.2) = some ((some (.int 0)), ((((((h.1.set 2 (.inl (0, 150, .inl (upd (fun _ => 0) (Int32.toNatClampNeg 0) x1)))).set 3 (.inl (0, 150, .inl (upd (fun _ => 0) (Int32.toNatClampNeg 0) x2)))).set 7 (.inl (0, 150, .inl (upd (fun _ => 0) (Int32.toNatClampNeg 0) (-1))))).set 4 (.inl (0, 150, .inl (upd (fun _ => 0) (Int32.toNatClampNeg 0) 0)))).set 5 (.inl (0, 150, .inl (upd (fun _ => 0) (Int32.toNatClampNeg 0) (-1))))), h.2)) := by
        refine (r_iloadn f137_0 rfl).trans ?_
        refine (r_iloadn f137_1 rfl).trans ?_
        refine (r_icmp_gt_f f137_2 ec0).trans ?_
        refine (r_iloadn f137_5 rfl).trans ?_
        refine (r_iloadn f137_6 rfl).trans ?_
        refine (r_icmp_gt_t f137_7 ec1).trans ?_
        refine (r_iconst (v := 0) f137_14 rfl).trans ?_
        exact r_zreturn f137_15 rfl (by decide)
      refine (r_stat (as := [.int x1, .int 1, .int 3]) (v := (some (.int 0))) (h1 := ((((((h.1.set 2 (.inl (0, 150, .inl (upd (fun _ => 0) (Int32.toNatClampNeg 0) x1)))).set 3 (.inl (0, 150, .inl (upd (fun _ => 0) (Int32.toNatClampNeg 0) x2)))).set 7 (.inl (0, 150, .inl (upd (fun _ => 0) (Int32.toNatClampNeg 0) (-1))))).set 4 (.inl (0, 150, .inl (upd (fun _ => 0) (Int32.toNatClampNeg 0) 0)))).set 5 (.inl (0, 150, .inl (upd (fun _ => 0) (Int32.toNatClampNeg 0) (-1))))), h.2)) f71_3 rfl zg137 rfl rfl rfl rfl rfl rfl hc9).trans ?_
      refine (r_if_ne_f f71_6 (by decide)).trans ?_
      refine (r_iloadn f71_9 rfl).trans ?_
      refine (r_bipush (v := 7) f71_10 rfl).trans ?_
      refine (r_icmp_ne_f f71_12 ec2).trans ?_
      refine (r_iconst (v := 1) f71_15 rfl).trans ?_
      refine (r_goto f71_16).trans ?_
      exact r_zreturn f71_20 rfl (by decide)
    refine (r_stat (as := [.int x1]) (v := (some (.int 1))) (h1 := ((((((h.1.set 2 (.inl (0, 150, .inl (upd (fun _ => 0) (Int32.toNatClampNeg 0) x1)))).set 3 (.inl (0, 150, .inl (upd (fun _ => 0) (Int32.toNatClampNeg 0) x2)))).set 7 (.inl (0, 150, .inl (upd (fun _ => 0) (Int32.toNatClampNeg 0) (-1))))).set 4 (.inl (0, 150, .inl (upd (fun _ => 0) (Int32.toNatClampNeg 0) 0)))).set 5 (.inl (0, 150, .inl (upd (fun _ => 0) (Int32.toNatClampNeg 0) (-1))))), h.2)) f79_65 rfl zg71 rfl rfl rfl rfl rfl rfl hc8).trans ?_
    refine (r_if_eq_f f79_68 (by decide)).trans ?_
    refine (r_iconst (v := 1) f79_71 rfl).trans ?_
    refine (r_goto f79_72).trans ?_
    refine (r_iadd (v := 1) f79_76 (by decide)).trans ?_
    refine (r_put (h' := (((((((h.1.set 2 (.inl (0, 150, .inl (upd (fun _ => 0) (Int32.toNatClampNeg 0) x1)))).set 3 (.inl (0, 150, .inl (upd (fun _ => 0) (Int32.toNatClampNeg 0) x2)))).set 7 (.inl (0, 150, .inl (upd (fun _ => 0) (Int32.toNatClampNeg 0) (-1))))).set 4 (.inl (0, 150, .inl (upd (fun _ => 0) (Int32.toNatClampNeg 0) 0)))).set 5 (.inl (0, 150, .inl (upd (fun _ => 0) (Int32.toNatClampNeg 0) (-1))))).set 1 (.inr (6, [.int 0, .int 0, .int 1, .int 0, .int 0, .int 0, .int 0, .ref 2, .ref 3, .ref 4, .ref 5, .ref 6, .ref 7, .ref 8, .ref 9, .ref 10, .ref 11, .ref 12]))), h.2)) f79_77 (gs_ne (gs_ne (gs_ne (gs_ne (gs_ne g1 (by decide)) (by decide)) (by decide)) (by decide)) (by decide)) rfl rfl).trans ?_
    refine (r_aloadn f79_80 rfl).trans ?_
    refine (r_dup f79_81 rfl).trans ?_
    refine (r_get (v := .int 0) f79_82 (gs_eq (gs_ne (gs_ne (gs_ne (gs_ne (gs_ne g1 (by decide)) (by decide)) (by decide)) (by decide)) (by decide))) rfl).trans ?_
    refine (r_iloadn f79_85 rfl).trans ?_
    refine (r_iconst (v := 4) f79_86 rfl).trans ?_
    refine (r_iconst (v := 5) f79_87 rfl).trans ?_
    have hc10 : arun X (n + 12) (d + 2) zM137 0 [some (.int x1), some (.int 4), some (.int 5)] [] (((((((h.1.set 2 (.inl (0, 150, .inl (upd (fun _ => 0) (Int32.toNatClampNeg 0) x1)))).set 3 (.inl (0, 150, .inl (upd (fun _ => 0) (Int32.toNatClampNeg 0) x2)))).set 7 (.inl (0, 150, .inl (upd (fun _ => 0) (Int32.toNatClampNeg 0) (-1))))).set 4 (.inl (0, 150, .inl (upd (fun _ => 0) (Int32.toNatClampNeg 0) 0)))).set 5 (.inl (0, 150, .inl (upd (fun _ => 0) (Int32.toNatClampNeg 0) (-1))))).set 1 (.inr (6, [.int 0, .int 0, .int 1, .int 0, .int 0, .int 0, .int 0, .ref 2, .ref 3, .ref 4, .ref 5, .ref 6, .ref 7, .ref 8, .ref 9, .ref 10, .ref 11, .ref 12]))), h.2) = some ((some (.int 0)), (((((((h.1.set 2 (.inl (0, 150, .inl (upd (fun _ => 0) (Int32.toNatClampNeg 0) x1)))).set 3 (.inl (0, 150, .inl (upd (fun _ => 0) (Int32.toNatClampNeg 0) x2)))).set 7 (.inl (0, 150, .inl (upd (fun _ => 0) (Int32.toNatClampNeg 0) (-1))))).set 4 (.inl (0, 150, .inl (upd (fun _ => 0) (Int32.toNatClampNeg 0) 0)))).set 5 (.inl (0, 150, .inl (upd (fun _ => 0) (Int32.toNatClampNeg 0) (-1))))).set 1 (.inr (6, [.int 0, .int 0, .int 1, .int 0, .int 0, .int 0, .int 0, .ref 2, .ref 3, .ref 4, .ref 5, .ref 6, .ref 7, .ref 8, .ref 9, .ref 10, .ref 11, .ref 12]))), h.2)) := by
      refine (r_iloadn f137_0 rfl).trans ?_
      refine (r_iloadn f137_1 rfl).trans ?_
      refine (r_icmp_gt_f f137_2 ec5).trans ?_
      refine (r_iloadn f137_5 rfl).trans ?_
      refine (r_iloadn f137_6 rfl).trans ?_
      refine (r_icmp_gt_t f137_7 ec6).trans ?_
      refine (r_iconst (v := 0) f137_14 rfl).trans ?_
      exact r_zreturn f137_15 rfl (by decide)
    refine (r_stat (as := [.int x1, .int 4, .int 5]) (v := (some (.int 0))) (h1 := (((((((h.1.set 2 (.inl (0, 150, .inl (upd (fun _ => 0) (Int32.toNatClampNeg 0) x1)))).set 3 (.inl (0, 150, .inl (upd (fun _ => 0) (Int32.toNatClampNeg 0) x2)))).set 7 (.inl (0, 150, .inl (upd (fun _ => 0) (Int32.toNatClampNeg 0) (-1))))).set 4 (.inl (0, 150, .inl (upd (fun _ => 0) (Int32.toNatClampNeg 0) 0)))).set 5 (.inl (0, 150, .inl (upd (fun _ => 0) (Int32.toNatClampNeg 0) (-1))))).set 1 (.inr (6, [.int 0, .int 0, .int 1, .int 0, .int 0, .int 0, .int 0, .ref 2, .ref 3, .ref 4, .ref 5, .ref 6, .ref 7, .ref 8, .ref 9, .ref 10, .ref 11, .ref 12]))), h.2)) f79_88 rfl zg137 rfl rfl rfl rfl rfl rfl hc10).trans ?_
    refine (r_if_eq_t f79_91 (by decide)).trans ?_
    refine (r_iconst (v := 0) f79_98 rfl).trans ?_
    refine (r_iadd (v := 0) f79_99 (by decide)).trans ?_
    refine (r_put (h' := (((((((h.1.set 2 (.inl (0, 150, .inl (upd (fun _ => 0) (Int32.toNatClampNeg 0) x1)))).set 3 (.inl (0, 150, .inl (upd (fun _ => 0) (Int32.toNatClampNeg 0) x2)))).set 7 (.inl (0, 150, .inl (upd (fun _ => 0) (Int32.toNatClampNeg 0) (-1))))).set 4 (.inl (0, 150, .inl (upd (fun _ => 0) (Int32.toNatClampNeg 0) 0)))).set 5 (.inl (0, 150, .inl (upd (fun _ => 0) (Int32.toNatClampNeg 0) (-1))))).set 1 (.inr (6, [.int 0, .int 0, .int 1, .int 0, .int 0, .int 0, .int 0, .ref 2, .ref 3, .ref 4, .ref 5, .ref 6, .ref 7, .ref 8, .ref 9, .ref 10, .ref 11, .ref 12]))), h.2)) f79_100 (gs_eq (gs_ne (gs_ne (gs_ne (gs_ne (gs_ne g1 (by decide)) (by decide)) (by decide)) (by decide)) (by decide))) rfl hss).trans ?_
    refine (r_aloadn f79_103 rfl).trans ?_
    refine (r_dup f79_104 rfl).trans ?_
    refine (r_get (v := .int 0) f79_105 (gs_eq (gs_ne (gs_ne (gs_ne (gs_ne (gs_ne g1 (by decide)) (by decide)) (by decide)) (by decide)) (by decide))) rfl).trans ?_
    refine (r_iconst (v := 1) f79_108 rfl).trans ?_
    refine (r_iadd (v := 1) f79_109 (by decide)).trans ?_
    refine (r_put (h' := (((((((h.1.set 2 (.inl (0, 150, .inl (upd (fun _ => 0) (Int32.toNatClampNeg 0) x1)))).set 3 (.inl (0, 150, .inl (upd (fun _ => 0) (Int32.toNatClampNeg 0) x2)))).set 7 (.inl (0, 150, .inl (upd (fun _ => 0) (Int32.toNatClampNeg 0) (-1))))).set 4 (.inl (0, 150, .inl (upd (fun _ => 0) (Int32.toNatClampNeg 0) 0)))).set 5 (.inl (0, 150, .inl (upd (fun _ => 0) (Int32.toNatClampNeg 0) (-1))))).set 1 (.inr (6, [.int 0, .int 1, .int 1, .int 0, .int 0, .int 0, .int 0, .ref 2, .ref 3, .ref 4, .ref 5, .ref 6, .ref 7, .ref 8, .ref 9, .ref 10, .ref 11, .ref 12]))), h.2)) f79_110 (gs_eq (gs_ne (gs_ne (gs_ne (gs_ne (gs_ne g1 (by decide)) (by decide)) (by decide)) (by decide)) (by decide))) rfl hss).trans ?_
    refine (r_iload f79_113 rfl).trans ?_
    exact r_ireturn f79_115 rfl
  refine (r_virt (as := [.int x1, .int x2, .int (-1)]) (v := (some (.int 0))) (h1 := (((((((h.1.set 2 (.inl (0, 150, .inl (upd (fun _ => 0) (Int32.toNatClampNeg 0) x1)))).set 3 (.inl (0, 150, .inl (upd (fun _ => 0) (Int32.toNatClampNeg 0) x2)))).set 7 (.inl (0, 150, .inl (upd (fun _ => 0) (Int32.toNatClampNeg 0) (-1))))).set 4 (.inl (0, 150, .inl (upd (fun _ => 0) (Int32.toNatClampNeg 0) 0)))).set 5 (.inl (0, 150, .inl (upd (fun _ => 0) (Int32.toNatClampNeg 0) (-1))))).set 1 (.inr (6, [.int 0, .int 1, .int 1, .int 0, .int 0, .int 0, .int 0, .ref 2, .ref 3, .ref 4, .ref 5, .ref 6, .ref 7, .ref 8, .ref 9, .ref 10, .ref 11, .ref 12]))), h.2)) f146_38 g1 zg79 rfl rfl rfl rfl rfl rfl hc6).trans ?_
  exact r_ireturn f146_41 rfl
set_option maxHeartbeats 40000000 in
theorem qm2_4_0 {X : aX} {n d : Nat} {h : aH} {x1 : Int32} {x2 : Int32}  (g72 : h.1[72]? = some (.inr (12, zF72))) (g73 : h.1[73]? = some (.inl (0, 150, .inl (fun _ => 0)))) (g74 : h.1[74]? = some (.inl (0, 150, .inl (fun _ => 0)))) (g75 : h.1[75]? = some (.inl (0, 150, .inl (fun _ => 0)))) (g76 : h.1[76]? = some (.inl (0, 150, .inl (fun _ => 0)))) (g77 : h.1[77]? = some (.inl (0, 150, .inl (fun _ => 0)))) (ec2 : x1 = 7) (ec3 : ¬ x2 < 0) (ec4 : ¬ 3 < x2) (em0 : ¬ x1 = 1) (em1 : ¬ x1 = 2) (em2 : ¬ x1 = 3) (em3 : ¬ x1 < 0) (em4 : ¬ 7 < x1) : arun X (n + 55) (d + 3) zM207 0 [some (.ref 72), some (.int x1), some (.int x2), none] [] h = some (some (.int 0), (((((((h.1.set 73 (.inl (0, 150, .inl (upd (fun _ => 0) (Int32.toNatClampNeg 0) x1)))).set 75 (.inl (0, 150, .inl (upd (fun _ => 0) (Int32.toNatClampNeg 0) (-1))))).set 76 (.inl (0, 150, .inl (upd (fun _ => 0) (Int32.toNatClampNeg 0) 0)))).set 77 (.inl (0, 150, .inl (upd (fun _ => 0) (Int32.toNatClampNeg 0) (-1))))).set 72 (.inr (12, (zF72.set 2 (.int 1))))).set 74 (.inl (0, 150, .inl (upd (fun _ => 0) (Int32.toNatClampNeg 0) x2)))), h.2)) := by
  refine (r_iloadn f207_0 rfl).trans ?_
  refine (r_iconst (v := 1) f207_1 rfl).trans ?_
  have hc1 : arun X (n + 52) (d + 2) zM201 0 [some (.int x1), some (.int 1)] [] h = some ((some (.int 1)), h) := by
    refine (r_iloadn f201_0 rfl).trans ?_
    refine (r_if_eq_f f201_1 (by decide)).trans ?_
    refine (r_iloadn f201_4 rfl).trans ?_
    refine (r_iloadn f201_5 rfl).trans ?_
    refine (r_icmp_ne_t f201_6 em0).trans ?_
    refine (r_iloadn f201_11 rfl).trans ?_
    refine (r_iconst (v := 1) f201_12 rfl).trans ?_
    refine (r_icmp_ne_f f201_13 (by decide)).trans ?_
    refine (r_iloadn f201_16 rfl).trans ?_
    refine (r_iconst (v := 2) f201_17 rfl).trans ?_
    refine (r_icmp_eq_f f201_18 em1).trans ?_
    refine (r_iloadn f201_21 rfl).trans ?_
    refine (r_iconst (v := 3) f201_22 rfl).trans ?_
    refine (r_icmp_eq_f f201_23 em2).trans ?_
    refine (r_iloadn f201_26 rfl).trans ?_
    refine (r_bipush (v := 7) f201_27 rfl).trans ?_
    refine (r_icmp_ne_f f201_29 ec2).trans ?_
    refine (r_iconst (v := 1) f201_32 rfl).trans ?_
    refine (r_goto f201_33).trans ?_
    exact r_zreturn f201_37 rfl (by decide)
  refine (r_stat (as := [.int x1, .int 1]) (v := (some (.int 1))) (h1 := h) f207_2 rfl zg201 rfl rfl rfl rfl rfl rfl hc1).trans ?_
  refine (r_if_eq_f f207_5 (by decide)).trans ?_
  refine (r_iloadn f207_8 rfl).trans ?_
  refine (r_iconst (v := 0) f207_9 rfl).trans ?_
  refine (r_bipush (v := 7) f207_10 rfl).trans ?_
  have hc2 : arun X (n + 47) (d + 2) zM196 0 [some (.int x1), some (.int 0), some (.int 7)] [] h = some ((some (.int 1)), h) := by
    refine (r_iloadn f196_0 rfl).trans ?_
    refine (r_iloadn f196_1 rfl).trans ?_
    refine (r_icmp_lt_f f196_2 em3).trans ?_
    refine (r_iloadn f196_5 rfl).trans ?_
    refine (r_iloadn f196_6 rfl).trans ?_
    refine (r_icmp_gt_f f196_7 em4).trans ?_
    refine (r_iconst (v := 1) f196_10 rfl).trans ?_
    refine (r_goto f196_11).trans ?_
    exact r_zreturn f196_15 rfl (by decide)
  refine (r_stat (as := [.int x1, .int 0, .int 7]) (v := (some (.int 1))) (h1 := h) f207_12 rfl zg196 rfl rfl rfl rfl rfl rfl hc2).trans ?_
  refine (r_if_eq_f f207_15 (by decide)).trans ?_
  refine (r_iloadn f207_18 rfl).trans ?_
  have hc3 : arun X (n + 44) (d + 2) zM206 0 [some (.int x2)] [] h = some ((some (.int 1)), h) := by
    refine (r_iloadn f206_0 rfl).trans ?_
    refine (r_iconst (v := 0) f206_1 rfl).trans ?_
    refine (r_iconst (v := 3) f206_2 rfl).trans ?_
    have hc4 : arun X (n + 40) (d + 1) zM196 0 [some (.int x2), some (.int 0), some (.int 3)] [] h = some ((some (.int 1)), h) := by
      refine (r_iloadn f196_0 rfl).trans ?_
      refine (r_iloadn f196_1 rfl).trans ?_
      refine (r_icmp_lt_f f196_2 ec3).trans ?_
      refine (r_iloadn f196_5 rfl).trans ?_
      refine (r_iloadn f196_6 rfl).trans ?_
      refine (r_icmp_gt_f f196_7 ec4).trans ?_
      refine (r_iconst (v := 1) f196_10 rfl).trans ?_
      refine (r_goto f196_11).trans ?_
      exact r_zreturn f196_15 rfl (by decide)
    refine (r_stat (as := [.int x2, .int 0, .int 3]) (v := (some (.int 1))) (h1 := h) f206_3 rfl zg196 rfl rfl rfl rfl rfl rfl hc4).trans ?_
    exact r_zreturn f206_6 rfl (by decide)
  refine (r_stat (as := [.int x2]) (v := (some (.int 1))) (h1 := h) f207_19 rfl zg206 rfl rfl rfl rfl rfl rfl hc3).trans ?_
  refine (r_if_ne_t f207_22 (by decide)).trans ?_
  refine (r_aloadn f207_27 rfl).trans ?_
  refine (r_get (v := .int 0) f207_28 g72 rfl).trans ?_
  refine (r_sipush (v := 150) f207_31 rfl).trans ?_
  refine (r_icmp_ne_t f207_34 (by decide)).trans ?_
  refine (r_aloadn f207_40 rfl).trans ?_
  refine (r_iloadn f207_41 rfl).trans ?_
  have hc5 : arun X (n + 36) (d + 2) zM204 0 [some (.ref 72), some (.int x1)] [] h = some ((some (.int 0)), ((((((h.1.set 73 (.inl (0, 150, .inl (upd (fun _ => 0) (Int32.toNatClampNeg 0) x1)))).set 75 (.inl (0, 150, .inl (upd (fun _ => 0) (Int32.toNatClampNeg 0) (-1))))).set 76 (.inl (0, 150, .inl (upd (fun _ => 0) (Int32.toNatClampNeg 0) 0)))).set 77 (.inl (0, 150, .inl (upd (fun _ => 0) (Int32.toNatClampNeg 0) (-1))))).set 72 (.inr (12, (zF72.set 2 (.int 1))))), h.2)) := by
    refine (r_aloadn f204_0 rfl).trans ?_
    refine (r_get (v := .ref 73) f204_1 g72 rfl).trans ?_
    refine (r_aloadn f204_4 rfl).trans ?_
    refine (r_get (v := .int 0) f204_5 g72 rfl).trans ?_
    refine (r_iloadn f204_8 rfl).trans ?_
    refine (r_iast (h' := ((h.1.set 73 (.inl (0, 150, .inl (upd (fun _ => 0) (Int32.toNatClampNeg 0) x1)))), h.2)) f204_9 g73 (by decide) rfl).trans ?_
    refine (r_aloadn f204_10 rfl).trans ?_
    refine (r_get (v := .ref 75) f204_11 (gs_ne g72 (by decide)) rfl).trans ?_
    refine (r_aloadn f204_14 rfl).trans ?_
    refine (r_get (v := .int 0) f204_15 (gs_ne g72 (by decide)) rfl).trans ?_
    refine (r_iconst (v := (-1)) f204_18 rfl).trans ?_
    refine (r_iast (h' := (((h.1.set 73 (.inl (0, 150, .inl (upd (fun _ => 0) (Int32.toNatClampNeg 0) x1)))).set 75 (.inl (0, 150, .inl (upd (fun _ => 0) (Int32.toNatClampNeg 0) (-1))))), h.2)) f204_19 (gs_ne g75 (by decide)) (by decide) rfl).trans ?_
    refine (r_aloadn f204_20 rfl).trans ?_
    refine (r_get (v := .ref 76) f204_21 (gs_ne (gs_ne g72 (by decide)) (by decide)) rfl).trans ?_
    refine (r_aloadn f204_24 rfl).trans ?_
    refine (r_get (v := .int 0) f204_25 (gs_ne (gs_ne g72 (by decide)) (by decide)) rfl).trans ?_
    refine (r_aloadn f204_28 rfl).trans ?_
    refine (r_get (v := .int 0) f204_29 (gs_ne (gs_ne g72 (by decide)) (by decide)) rfl).trans ?_
    refine (r_iast (h' := ((((h.1.set 73 (.inl (0, 150, .inl (upd (fun _ => 0) (Int32.toNatClampNeg 0) x1)))).set 75 (.inl (0, 150, .inl (upd (fun _ => 0) (Int32.toNatClampNeg 0) (-1))))).set 76 (.inl (0, 150, .inl (upd (fun _ => 0) (Int32.toNatClampNeg 0) 0)))), h.2)) f204_32 (gs_ne (gs_ne g76 (by decide)) (by decide)) (by decide) rfl).trans ?_
    refine (r_aloadn f204_33 rfl).trans ?_
    refine (r_get (v := .ref 77) f204_34 (gs_ne (gs_ne (gs_ne g72 (by decide)) (by decide)) (by decide)) rfl).trans ?_
    refine (r_aloadn f204_37 rfl).trans ?_
    refine (r_get (v := .int 0) f204_38 (gs_ne (gs_ne (gs_ne g72 (by decide)) (by decide)) (by decide)) rfl).trans ?_
    refine (r_iconst (v := (-1)) f204_41 rfl).trans ?_
    refine (r_iast (h' := (((((h.1.set 73 (.inl (0, 150, .inl (upd (fun _ => 0) (Int32.toNatClampNeg 0) x1)))).set 75 (.inl (0, 150, .inl (upd (fun _ => 0) (Int32.toNatClampNeg 0) (-1))))).set 76 (.inl (0, 150, .inl (upd (fun _ => 0) (Int32.toNatClampNeg 0) 0)))).set 77 (.inl (0, 150, .inl (upd (fun _ => 0) (Int32.toNatClampNeg 0) (-1))))), h.2)) f204_42 (gs_ne (gs_ne (gs_ne g77 (by decide)) (by decide)) (by decide)) (by decide) rfl).trans ?_
    refine (r_aloadn f204_43 rfl).trans ?_
    refine (r_dup f204_44 rfl).trans ?_
    refine (r_get (v := .int 0) f204_45 (gs_ne (gs_ne (gs_ne (gs_ne g72 (by decide)) (by decide)) (by decide)) (by decide)) rfl).trans ?_
    refine (r_iconst (v := 1) f204_48 rfl).trans ?_
    refine (r_iadd (v := 1) f204_49 (by decide)).trans ?_
    refine (r_put (h' := ((((((h.1.set 73 (.inl (0, 150, .inl (upd (fun _ => 0) (Int32.toNatClampNeg 0) x1)))).set 75 (.inl (0, 150, .inl (upd (fun _ => 0) (Int32.toNatClampNeg 0) (-1))))).set 76 (.inl (0, 150, .inl (upd (fun _ => 0) (Int32.toNatClampNeg 0) 0)))).set 77 (.inl (0, 150, .inl (upd (fun _ => 0) (Int32.toNatClampNeg 0) (-1))))).set 72 (.inr (12, (zF72.set 2 (.int 1))))), h.2)) f204_50 (gs_ne (gs_ne (gs_ne (gs_ne g72 (by decide)) (by decide)) (by decide)) (by decide)) rfl rfl).trans ?_
    refine (r_aloadn f204_53 rfl).trans ?_
    refine (r_get (v := .int 1) f204_54 (gs_eq (gs_ne (gs_ne (gs_ne (gs_ne g72 (by decide)) (by decide)) (by decide)) (by decide))) rfl).trans ?_
    refine (r_iconst (v := 1) f204_57 rfl).trans ?_
    refine (r_isub (v := 0) f204_58 (by decide)).trans ?_
    exact r_ireturn f204_59 rfl
  refine (r_virt (as := [.int x1]) (v := (some (.int 0))) (h1 := ((((((h.1.set 73 (.inl (0, 150, .inl (upd (fun _ => 0) (Int32.toNatClampNeg 0) x1)))).set 75 (.inl (0, 150, .inl (upd (fun _ => 0) (Int32.toNatClampNeg 0) (-1))))).set 76 (.inl (0, 150, .inl (upd (fun _ => 0) (Int32.toNatClampNeg 0) 0)))).set 77 (.inl (0, 150, .inl (upd (fun _ => 0) (Int32.toNatClampNeg 0) (-1))))).set 72 (.inr (12, (zF72.set 2 (.int 1))))), h.2)) f207_42 g72 zg204 rfl rfl rfl rfl rfl rfl hc5).trans ?_
  refine (r_istoren (L' := [some (.ref 72), some (.int x1), some (.int x2), some (.int 0)]) f207_45 rfl rfl).trans ?_
  refine (r_aloadn f207_46 rfl).trans ?_
  refine (r_get (v := .ref 74) f207_47 (gs_eq (gs_ne (gs_ne (gs_ne (gs_ne g72 (by decide)) (by decide)) (by decide)) (by decide))) rfl).trans ?_
  refine (r_iloadn f207_50 rfl).trans ?_
  refine (r_iloadn f207_51 rfl).trans ?_
  refine (r_iast (h' := (((((((h.1.set 73 (.inl (0, 150, .inl (upd (fun _ => 0) (Int32.toNatClampNeg 0) x1)))).set 75 (.inl (0, 150, .inl (upd (fun _ => 0) (Int32.toNatClampNeg 0) (-1))))).set 76 (.inl (0, 150, .inl (upd (fun _ => 0) (Int32.toNatClampNeg 0) 0)))).set 77 (.inl (0, 150, .inl (upd (fun _ => 0) (Int32.toNatClampNeg 0) (-1))))).set 72 (.inr (12, (zF72.set 2 (.int 1))))).set 74 (.inl (0, 150, .inl (upd (fun _ => 0) (Int32.toNatClampNeg 0) x2)))), h.2)) f207_52 (gs_ne (gs_ne (gs_ne (gs_ne (gs_ne g74 (by decide)) (by decide)) (by decide)) (by decide)) (by decide)) (by decide) rfl).trans ?_
  refine (r_iloadn f207_53 rfl).trans ?_
  exact r_ireturn f207_54 rfl
set_option maxHeartbeats 40000000 in
theorem qc2_5 {X : aX} {n d : Nat} {h : aH} {x1 : Int32} {x2 : Int32}  (ec0 : ¬ x1 < 1) (ec1 : ¬ 3 < x1) (ec2 : x2 < 0) : arun X (n + 15) (d + 3) zM146 0 [some (.ref 0), some (.int x1), some (.int x2)] [] h = some (some (.int (-1)), h) := by
  refine (r_iloadn f146_0 rfl).trans ?_
  have hc1 : arun X (n + 13) (d + 2) zM71 0 [some (.int x1)] [] h = some ((some (.int 1)), h) := by
    refine (r_iloadn f71_0 rfl).trans ?_
    refine (r_iconst (v := 1) f71_1 rfl).trans ?_
    refine (r_iconst (v := 3) f71_2 rfl).trans ?_
    have hc2 : arun X (n + 9) (d + 1) zM137 0 [some (.int x1), some (.int 1), some (.int 3)] [] h = some ((some (.int 1)), h) := by
      refine (r_iloadn f137_0 rfl).trans ?_
      refine (r_iloadn f137_1 rfl).trans ?_
      refine (r_icmp_gt_f f137_2 ec0).trans ?_
      refine (r_iloadn f137_5 rfl).trans ?_
      refine (r_iloadn f137_6 rfl).trans ?_
      refine (r_icmp_gt_f f137_7 ec1).trans ?_
      refine (r_iconst (v := 1) f137_10 rfl).trans ?_
      refine (r_goto f137_11).trans ?_
      exact r_zreturn f137_15 rfl (by decide)
    refine (r_stat (as := [.int x1, .int 1, .int 3]) (v := (some (.int 1))) (h1 := h) f71_3 rfl zg137 rfl rfl rfl rfl rfl rfl hc2).trans ?_
    refine (r_if_ne_t f71_6 (by decide)).trans ?_
    refine (r_iconst (v := 1) f71_15 rfl).trans ?_
    refine (r_goto f71_16).trans ?_
    exact r_zreturn f71_20 rfl (by decide)
  refine (r_stat (as := [.int x1]) (v := (some (.int 1))) (h1 := h) f146_1 rfl zg71 rfl rfl rfl rfl rfl rfl hc1).trans ?_
  refine (r_if_eq_f f146_4 (by decide)).trans ?_
  refine (r_iloadn f146_7 rfl).trans ?_
  have hc3 : arun X (n + 10) (d + 2) zM140 0 [some (.int x2)] [] h = some ((some (.int 0)), h) := by
    refine (r_iloadn f140_0 rfl).trans ?_
    refine (r_iconst (v := 0) f140_1 rfl).trans ?_
    refine (r_iconst (v := 3) f140_2 rfl).trans ?_
    have hc4 : arun X (n + 6) (d + 1) zM137 0 [some (.int x2), some (.int 0), some (.int 3)] [] h = some ((some (.int 0)), h) := by
      refine (r_iloadn f137_0 rfl).trans ?_
      refine (r_iloadn f137_1 rfl).trans ?_
      refine (r_icmp_gt_t f137_2 ec2).trans ?_
      refine (r_iconst (v := 0) f137_14 rfl).trans ?_
      exact r_zreturn f137_15 rfl (by decide)
    refine (r_stat (as := [.int x2, .int 0, .int 3]) (v := (some (.int 0))) (h1 := h) f140_3 rfl zg137 rfl rfl rfl rfl rfl rfl hc4).trans ?_
    exact r_zreturn f140_6 rfl (by decide)
  refine (r_stat (as := [.int x2]) (v := (some (.int 0))) (h1 := h) f146_8 rfl zg140 rfl rfl rfl rfl rfl rfl hc3).trans ?_
  refine (r_if_ne_f f146_11 (by decide)).trans ?_
  refine (r_iconst (v := (-1)) f146_14 rfl).trans ?_
  exact r_ireturn f146_15 rfl
set_option maxHeartbeats 40000000 in
theorem qm2_5_0 {X : aX} {n d : Nat} {h : aH} {x1 : Int32} {x2 : Int32}  (ec2 : x2 < 0) (em0 : ¬ x1 = 1) (em1 : x1 = 2) (em2 : ¬ x1 < 0) (em3 : ¬ 7 < x1) : arun X (n + 20) (d + 3) zM207 0 [some (.ref 72), some (.int x1), some (.int x2), none] [] h = some (some (.int (-1)), h) := by
  refine (r_iloadn f207_0 rfl).trans ?_
  refine (r_iconst (v := 1) f207_1 rfl).trans ?_
  have hc1 : arun X (n + 17) (d + 2) zM201 0 [some (.int x1), some (.int 1)] [] h = some ((some (.int 1)), h) := by
    refine (r_iloadn f201_0 rfl).trans ?_
    refine (r_if_eq_f f201_1 (by decide)).trans ?_
    refine (r_iloadn f201_4 rfl).trans ?_
    refine (r_iloadn f201_5 rfl).trans ?_
    refine (r_icmp_ne_t f201_6 em0).trans ?_
    refine (r_iloadn f201_11 rfl).trans ?_
    refine (r_iconst (v := 1) f201_12 rfl).trans ?_
    refine (r_icmp_ne_f f201_13 (by decide)).trans ?_
    refine (r_iloadn f201_16 rfl).trans ?_
    refine (r_iconst (v := 2) f201_17 rfl).trans ?_
    refine (r_icmp_eq_t f201_18 em1).trans ?_
    refine (r_iconst (v := 1) f201_32 rfl).trans ?_
    refine (r_goto f201_33).trans ?_
    exact r_zreturn f201_37 rfl (by decide)
  refine (r_stat (as := [.int x1, .int 1]) (v := (some (.int 1))) (h1 := h) f207_2 rfl zg201 rfl rfl rfl rfl rfl rfl hc1).trans ?_
  refine (r_if_eq_f f207_5 (by decide)).trans ?_
  refine (r_iloadn f207_8 rfl).trans ?_
  refine (r_iconst (v := 0) f207_9 rfl).trans ?_
  refine (r_bipush (v := 7) f207_10 rfl).trans ?_
  have hc2 : arun X (n + 12) (d + 2) zM196 0 [some (.int x1), some (.int 0), some (.int 7)] [] h = some ((some (.int 1)), h) := by
    refine (r_iloadn f196_0 rfl).trans ?_
    refine (r_iloadn f196_1 rfl).trans ?_
    refine (r_icmp_lt_f f196_2 em2).trans ?_
    refine (r_iloadn f196_5 rfl).trans ?_
    refine (r_iloadn f196_6 rfl).trans ?_
    refine (r_icmp_gt_f f196_7 em3).trans ?_
    refine (r_iconst (v := 1) f196_10 rfl).trans ?_
    refine (r_goto f196_11).trans ?_
    exact r_zreturn f196_15 rfl (by decide)
  refine (r_stat (as := [.int x1, .int 0, .int 7]) (v := (some (.int 1))) (h1 := h) f207_12 rfl zg196 rfl rfl rfl rfl rfl rfl hc2).trans ?_
  refine (r_if_eq_f f207_15 (by decide)).trans ?_
  refine (r_iloadn f207_18 rfl).trans ?_
  have hc3 : arun X (n + 9) (d + 2) zM206 0 [some (.int x2)] [] h = some ((some (.int 0)), h) := by
    refine (r_iloadn f206_0 rfl).trans ?_
    refine (r_iconst (v := 0) f206_1 rfl).trans ?_
    refine (r_iconst (v := 3) f206_2 rfl).trans ?_
    have hc4 : arun X (n + 5) (d + 1) zM196 0 [some (.int x2), some (.int 0), some (.int 3)] [] h = some ((some (.int 0)), h) := by
      refine (r_iloadn f196_0 rfl).trans ?_
      refine (r_iloadn f196_1 rfl).trans ?_
      refine (r_icmp_lt_t f196_2 ec2).trans ?_
      refine (r_iconst (v := 0) f196_14 rfl).trans ?_
      exact r_zreturn f196_15 rfl (by decide)
    refine (r_stat (as := [.int x2, .int 0, .int 3]) (v := (some (.int 0))) (h1 := h) f206_3 rfl zg196 rfl rfl rfl rfl rfl rfl hc4).trans ?_
    exact r_zreturn f206_6 rfl (by decide)
  refine (r_stat (as := [.int x2]) (v := (some (.int 0))) (h1 := h) f207_19 rfl zg206 rfl rfl rfl rfl rfl rfl hc3).trans ?_
  refine (r_if_ne_f f207_22 (by decide)).trans ?_
  refine (r_iconst (v := (-1)) f207_25 rfl).trans ?_
  exact r_ireturn f207_26 rfl
set_option maxHeartbeats 40000000 in
theorem qm2_5_1 {X : aX} {n d : Nat} {h : aH} {x1 : Int32} {x2 : Int32}  (ec2 : x2 < 0) (em0 : ¬ x1 = 1) (em1 : ¬ x1 = 2) (em2 : x1 = 3) (em3 : ¬ x1 < 0) (em4 : ¬ 7 < x1) : arun X (n + 20) (d + 3) zM207 0 [some (.ref 72), some (.int x1), some (.int x2), none] [] h = some (some (.int (-1)), h) := by
  refine (r_iloadn f207_0 rfl).trans ?_
  refine (r_iconst (v := 1) f207_1 rfl).trans ?_
  have hc1 : arun X (n + 17) (d + 2) zM201 0 [some (.int x1), some (.int 1)] [] h = some ((some (.int 1)), h) := by
    refine (r_iloadn f201_0 rfl).trans ?_
    refine (r_if_eq_f f201_1 (by decide)).trans ?_
    refine (r_iloadn f201_4 rfl).trans ?_
    refine (r_iloadn f201_5 rfl).trans ?_
    refine (r_icmp_ne_t f201_6 em0).trans ?_
    refine (r_iloadn f201_11 rfl).trans ?_
    refine (r_iconst (v := 1) f201_12 rfl).trans ?_
    refine (r_icmp_ne_f f201_13 (by decide)).trans ?_
    refine (r_iloadn f201_16 rfl).trans ?_
    refine (r_iconst (v := 2) f201_17 rfl).trans ?_
    refine (r_icmp_eq_f f201_18 em1).trans ?_
    refine (r_iloadn f201_21 rfl).trans ?_
    refine (r_iconst (v := 3) f201_22 rfl).trans ?_
    refine (r_icmp_eq_t f201_23 em2).trans ?_
    refine (r_iconst (v := 1) f201_32 rfl).trans ?_
    refine (r_goto f201_33).trans ?_
    exact r_zreturn f201_37 rfl (by decide)
  refine (r_stat (as := [.int x1, .int 1]) (v := (some (.int 1))) (h1 := h) f207_2 rfl zg201 rfl rfl rfl rfl rfl rfl hc1).trans ?_
  refine (r_if_eq_f f207_5 (by decide)).trans ?_
  refine (r_iloadn f207_8 rfl).trans ?_
  refine (r_iconst (v := 0) f207_9 rfl).trans ?_
  refine (r_bipush (v := 7) f207_10 rfl).trans ?_
  have hc2 : arun X (n + 12) (d + 2) zM196 0 [some (.int x1), some (.int 0), some (.int 7)] [] h = some ((some (.int 1)), h) := by
    refine (r_iloadn f196_0 rfl).trans ?_
    refine (r_iloadn f196_1 rfl).trans ?_
    refine (r_icmp_lt_f f196_2 em3).trans ?_
    refine (r_iloadn f196_5 rfl).trans ?_
    refine (r_iloadn f196_6 rfl).trans ?_
    refine (r_icmp_gt_f f196_7 em4).trans ?_
    refine (r_iconst (v := 1) f196_10 rfl).trans ?_
    refine (r_goto f196_11).trans ?_
    exact r_zreturn f196_15 rfl (by decide)
  refine (r_stat (as := [.int x1, .int 0, .int 7]) (v := (some (.int 1))) (h1 := h) f207_12 rfl zg196 rfl rfl rfl rfl rfl rfl hc2).trans ?_
  refine (r_if_eq_f f207_15 (by decide)).trans ?_
  refine (r_iloadn f207_18 rfl).trans ?_
  have hc3 : arun X (n + 9) (d + 2) zM206 0 [some (.int x2)] [] h = some ((some (.int 0)), h) := by
    refine (r_iloadn f206_0 rfl).trans ?_
    refine (r_iconst (v := 0) f206_1 rfl).trans ?_
    refine (r_iconst (v := 3) f206_2 rfl).trans ?_
    have hc4 : arun X (n + 5) (d + 1) zM196 0 [some (.int x2), some (.int 0), some (.int 3)] [] h = some ((some (.int 0)), h) := by
      refine (r_iloadn f196_0 rfl).trans ?_
      refine (r_iloadn f196_1 rfl).trans ?_
      refine (r_icmp_lt_t f196_2 ec2).trans ?_
      refine (r_iconst (v := 0) f196_14 rfl).trans ?_
      exact r_zreturn f196_15 rfl (by decide)
    refine (r_stat (as := [.int x2, .int 0, .int 3]) (v := (some (.int 0))) (h1 := h) f206_3 rfl zg196 rfl rfl rfl rfl rfl rfl hc4).trans ?_
    exact r_zreturn f206_6 rfl (by decide)
  refine (r_stat (as := [.int x2]) (v := (some (.int 0))) (h1 := h) f207_19 rfl zg206 rfl rfl rfl rfl rfl rfl hc3).trans ?_
  refine (r_if_ne_f f207_22 (by decide)).trans ?_
  refine (r_iconst (v := (-1)) f207_25 rfl).trans ?_
  exact r_ireturn f207_26 rfl
set_option maxHeartbeats 40000000 in
theorem qm2_5_2 {X : aX} {n d : Nat} {h : aH} {x1 : Int32} {x2 : Int32}  (ec2 : x2 < 0) (em0 : x1 = 1) (em1 : ¬ x1 < 0) (em2 : ¬ 7 < x1) : arun X (n + 20) (d + 3) zM207 0 [some (.ref 72), some (.int x1), some (.int x2), none] [] h = some (some (.int (-1)), h) := by
  refine (r_iloadn f207_0 rfl).trans ?_
  refine (r_iconst (v := 1) f207_1 rfl).trans ?_
  have hc1 : arun X (n + 17) (d + 2) zM201 0 [some (.int x1), some (.int 1)] [] h = some ((some (.int 1)), h) := by
    refine (r_iloadn f201_0 rfl).trans ?_
    refine (r_if_eq_f f201_1 (by decide)).trans ?_
    refine (r_iloadn f201_4 rfl).trans ?_
    refine (r_iloadn f201_5 rfl).trans ?_
    refine (r_icmp_ne_f f201_6 em0).trans ?_
    refine (r_iconst (v := 1) f201_9 rfl).trans ?_
    exact r_zreturn f201_10 rfl (by decide)
  refine (r_stat (as := [.int x1, .int 1]) (v := (some (.int 1))) (h1 := h) f207_2 rfl zg201 rfl rfl rfl rfl rfl rfl hc1).trans ?_
  refine (r_if_eq_f f207_5 (by decide)).trans ?_
  refine (r_iloadn f207_8 rfl).trans ?_
  refine (r_iconst (v := 0) f207_9 rfl).trans ?_
  refine (r_bipush (v := 7) f207_10 rfl).trans ?_
  have hc2 : arun X (n + 12) (d + 2) zM196 0 [some (.int x1), some (.int 0), some (.int 7)] [] h = some ((some (.int 1)), h) := by
    refine (r_iloadn f196_0 rfl).trans ?_
    refine (r_iloadn f196_1 rfl).trans ?_
    refine (r_icmp_lt_f f196_2 em1).trans ?_
    refine (r_iloadn f196_5 rfl).trans ?_
    refine (r_iloadn f196_6 rfl).trans ?_
    refine (r_icmp_gt_f f196_7 em2).trans ?_
    refine (r_iconst (v := 1) f196_10 rfl).trans ?_
    refine (r_goto f196_11).trans ?_
    exact r_zreturn f196_15 rfl (by decide)
  refine (r_stat (as := [.int x1, .int 0, .int 7]) (v := (some (.int 1))) (h1 := h) f207_12 rfl zg196 rfl rfl rfl rfl rfl rfl hc2).trans ?_
  refine (r_if_eq_f f207_15 (by decide)).trans ?_
  refine (r_iloadn f207_18 rfl).trans ?_
  have hc3 : arun X (n + 9) (d + 2) zM206 0 [some (.int x2)] [] h = some ((some (.int 0)), h) := by
    refine (r_iloadn f206_0 rfl).trans ?_
    refine (r_iconst (v := 0) f206_1 rfl).trans ?_
    refine (r_iconst (v := 3) f206_2 rfl).trans ?_
    have hc4 : arun X (n + 5) (d + 1) zM196 0 [some (.int x2), some (.int 0), some (.int 3)] [] h = some ((some (.int 0)), h) := by
      refine (r_iloadn f196_0 rfl).trans ?_
      refine (r_iloadn f196_1 rfl).trans ?_
      refine (r_icmp_lt_t f196_2 ec2).trans ?_
      refine (r_iconst (v := 0) f196_14 rfl).trans ?_
      exact r_zreturn f196_15 rfl (by decide)
    refine (r_stat (as := [.int x2, .int 0, .int 3]) (v := (some (.int 0))) (h1 := h) f206_3 rfl zg196 rfl rfl rfl rfl rfl rfl hc4).trans ?_
    exact r_zreturn f206_6 rfl (by decide)
  refine (r_stat (as := [.int x2]) (v := (some (.int 0))) (h1 := h) f207_19 rfl zg206 rfl rfl rfl rfl rfl rfl hc3).trans ?_
  refine (r_if_ne_f f207_22 (by decide)).trans ?_
  refine (r_iconst (v := (-1)) f207_25 rfl).trans ?_
  exact r_ireturn f207_26 rfl
set_option maxHeartbeats 40000000 in
theorem qc2_6 {X : aX} {n d : Nat} {h : aH} {x1 : Int32} {x2 : Int32}  (ec0 : ¬ x1 < 1) (ec1 : ¬ 3 < x1) (ec2 : ¬ x2 < 0) (ec3 : 3 < x2) : arun X (n + 17) (d + 3) zM146 0 [some (.ref 0), some (.int x1), some (.int x2)] [] h = some (some (.int (-1)), h) := by
  refine (r_iloadn f146_0 rfl).trans ?_
  have hc1 : arun X (n + 15) (d + 2) zM71 0 [some (.int x1)] [] h = some ((some (.int 1)), h) := by
    refine (r_iloadn f71_0 rfl).trans ?_
    refine (r_iconst (v := 1) f71_1 rfl).trans ?_
    refine (r_iconst (v := 3) f71_2 rfl).trans ?_
    have hc2 : arun X (n + 11) (d + 1) zM137 0 [some (.int x1), some (.int 1), some (.int 3)] [] h = some ((some (.int 1)), h) := by
      refine (r_iloadn f137_0 rfl).trans ?_
      refine (r_iloadn f137_1 rfl).trans ?_
      refine (r_icmp_gt_f f137_2 ec0).trans ?_
      refine (r_iloadn f137_5 rfl).trans ?_
      refine (r_iloadn f137_6 rfl).trans ?_
      refine (r_icmp_gt_f f137_7 ec1).trans ?_
      refine (r_iconst (v := 1) f137_10 rfl).trans ?_
      refine (r_goto f137_11).trans ?_
      exact r_zreturn f137_15 rfl (by decide)
    refine (r_stat (as := [.int x1, .int 1, .int 3]) (v := (some (.int 1))) (h1 := h) f71_3 rfl zg137 rfl rfl rfl rfl rfl rfl hc2).trans ?_
    refine (r_if_ne_t f71_6 (by decide)).trans ?_
    refine (r_iconst (v := 1) f71_15 rfl).trans ?_
    refine (r_goto f71_16).trans ?_
    exact r_zreturn f71_20 rfl (by decide)
  refine (r_stat (as := [.int x1]) (v := (some (.int 1))) (h1 := h) f146_1 rfl zg71 rfl rfl rfl rfl rfl rfl hc1).trans ?_
  refine (r_if_eq_f f146_4 (by decide)).trans ?_
  refine (r_iloadn f146_7 rfl).trans ?_
  have hc3 : arun X (n + 12) (d + 2) zM140 0 [some (.int x2)] [] h = some ((some (.int 0)), h) := by
    refine (r_iloadn f140_0 rfl).trans ?_
    refine (r_iconst (v := 0) f140_1 rfl).trans ?_
    refine (r_iconst (v := 3) f140_2 rfl).trans ?_
    have hc4 : arun X (n + 8) (d + 1) zM137 0 [some (.int x2), some (.int 0), some (.int 3)] [] h = some ((some (.int 0)), h) := by
      refine (r_iloadn f137_0 rfl).trans ?_
      refine (r_iloadn f137_1 rfl).trans ?_
      refine (r_icmp_gt_f f137_2 ec2).trans ?_
      refine (r_iloadn f137_5 rfl).trans ?_
      refine (r_iloadn f137_6 rfl).trans ?_
      refine (r_icmp_gt_t f137_7 ec3).trans ?_
      refine (r_iconst (v := 0) f137_14 rfl).trans ?_
      exact r_zreturn f137_15 rfl (by decide)
    refine (r_stat (as := [.int x2, .int 0, .int 3]) (v := (some (.int 0))) (h1 := h) f140_3 rfl zg137 rfl rfl rfl rfl rfl rfl hc4).trans ?_
    exact r_zreturn f140_6 rfl (by decide)
  refine (r_stat (as := [.int x2]) (v := (some (.int 0))) (h1 := h) f146_8 rfl zg140 rfl rfl rfl rfl rfl rfl hc3).trans ?_
  refine (r_if_ne_f f146_11 (by decide)).trans ?_
  refine (r_iconst (v := (-1)) f146_14 rfl).trans ?_
  exact r_ireturn f146_15 rfl
set_option maxHeartbeats 40000000 in
theorem qm2_6_0 {X : aX} {n d : Nat} {h : aH} {x1 : Int32} {x2 : Int32}  (ec2 : ¬ x2 < 0) (ec3 : 3 < x2) (em0 : ¬ x1 = 1) (em1 : x1 = 2) (em2 : ¬ x1 < 0) (em3 : ¬ 7 < x1) : arun X (n + 23) (d + 3) zM207 0 [some (.ref 72), some (.int x1), some (.int x2), none] [] h = some (some (.int (-1)), h) := by
  refine (r_iloadn f207_0 rfl).trans ?_
  refine (r_iconst (v := 1) f207_1 rfl).trans ?_
  have hc1 : arun X (n + 20) (d + 2) zM201 0 [some (.int x1), some (.int 1)] [] h = some ((some (.int 1)), h) := by
    refine (r_iloadn f201_0 rfl).trans ?_
    refine (r_if_eq_f f201_1 (by decide)).trans ?_
    refine (r_iloadn f201_4 rfl).trans ?_
    refine (r_iloadn f201_5 rfl).trans ?_
    refine (r_icmp_ne_t f201_6 em0).trans ?_
    refine (r_iloadn f201_11 rfl).trans ?_
    refine (r_iconst (v := 1) f201_12 rfl).trans ?_
    refine (r_icmp_ne_f f201_13 (by decide)).trans ?_
    refine (r_iloadn f201_16 rfl).trans ?_
    refine (r_iconst (v := 2) f201_17 rfl).trans ?_
    refine (r_icmp_eq_t f201_18 em1).trans ?_
    refine (r_iconst (v := 1) f201_32 rfl).trans ?_
    refine (r_goto f201_33).trans ?_
    exact r_zreturn f201_37 rfl (by decide)
  refine (r_stat (as := [.int x1, .int 1]) (v := (some (.int 1))) (h1 := h) f207_2 rfl zg201 rfl rfl rfl rfl rfl rfl hc1).trans ?_
  refine (r_if_eq_f f207_5 (by decide)).trans ?_
  refine (r_iloadn f207_8 rfl).trans ?_
  refine (r_iconst (v := 0) f207_9 rfl).trans ?_
  refine (r_bipush (v := 7) f207_10 rfl).trans ?_
  have hc2 : arun X (n + 15) (d + 2) zM196 0 [some (.int x1), some (.int 0), some (.int 7)] [] h = some ((some (.int 1)), h) := by
    refine (r_iloadn f196_0 rfl).trans ?_
    refine (r_iloadn f196_1 rfl).trans ?_
    refine (r_icmp_lt_f f196_2 em2).trans ?_
    refine (r_iloadn f196_5 rfl).trans ?_
    refine (r_iloadn f196_6 rfl).trans ?_
    refine (r_icmp_gt_f f196_7 em3).trans ?_
    refine (r_iconst (v := 1) f196_10 rfl).trans ?_
    refine (r_goto f196_11).trans ?_
    exact r_zreturn f196_15 rfl (by decide)
  refine (r_stat (as := [.int x1, .int 0, .int 7]) (v := (some (.int 1))) (h1 := h) f207_12 rfl zg196 rfl rfl rfl rfl rfl rfl hc2).trans ?_
  refine (r_if_eq_f f207_15 (by decide)).trans ?_
  refine (r_iloadn f207_18 rfl).trans ?_
  have hc3 : arun X (n + 12) (d + 2) zM206 0 [some (.int x2)] [] h = some ((some (.int 0)), h) := by
    refine (r_iloadn f206_0 rfl).trans ?_
    refine (r_iconst (v := 0) f206_1 rfl).trans ?_
    refine (r_iconst (v := 3) f206_2 rfl).trans ?_
    have hc4 : arun X (n + 8) (d + 1) zM196 0 [some (.int x2), some (.int 0), some (.int 3)] [] h = some ((some (.int 0)), h) := by
      refine (r_iloadn f196_0 rfl).trans ?_
      refine (r_iloadn f196_1 rfl).trans ?_
      refine (r_icmp_lt_f f196_2 ec2).trans ?_
      refine (r_iloadn f196_5 rfl).trans ?_
      refine (r_iloadn f196_6 rfl).trans ?_
      refine (r_icmp_gt_t f196_7 ec3).trans ?_
      refine (r_iconst (v := 0) f196_14 rfl).trans ?_
      exact r_zreturn f196_15 rfl (by decide)
    refine (r_stat (as := [.int x2, .int 0, .int 3]) (v := (some (.int 0))) (h1 := h) f206_3 rfl zg196 rfl rfl rfl rfl rfl rfl hc4).trans ?_
    exact r_zreturn f206_6 rfl (by decide)
  refine (r_stat (as := [.int x2]) (v := (some (.int 0))) (h1 := h) f207_19 rfl zg206 rfl rfl rfl rfl rfl rfl hc3).trans ?_
  refine (r_if_ne_f f207_22 (by decide)).trans ?_
  refine (r_iconst (v := (-1)) f207_25 rfl).trans ?_
  exact r_ireturn f207_26 rfl
set_option maxHeartbeats 40000000 in
theorem qm2_6_1 {X : aX} {n d : Nat} {h : aH} {x1 : Int32} {x2 : Int32}  (ec2 : ¬ x2 < 0) (ec3 : 3 < x2) (em0 : ¬ x1 = 1) (em1 : ¬ x1 = 2) (em2 : x1 = 3) (em3 : ¬ x1 < 0) (em4 : ¬ 7 < x1) : arun X (n + 23) (d + 3) zM207 0 [some (.ref 72), some (.int x1), some (.int x2), none] [] h = some (some (.int (-1)), h) := by
  refine (r_iloadn f207_0 rfl).trans ?_
  refine (r_iconst (v := 1) f207_1 rfl).trans ?_
  have hc1 : arun X (n + 20) (d + 2) zM201 0 [some (.int x1), some (.int 1)] [] h = some ((some (.int 1)), h) := by
    refine (r_iloadn f201_0 rfl).trans ?_
    refine (r_if_eq_f f201_1 (by decide)).trans ?_
    refine (r_iloadn f201_4 rfl).trans ?_
    refine (r_iloadn f201_5 rfl).trans ?_
    refine (r_icmp_ne_t f201_6 em0).trans ?_
    refine (r_iloadn f201_11 rfl).trans ?_
    refine (r_iconst (v := 1) f201_12 rfl).trans ?_
    refine (r_icmp_ne_f f201_13 (by decide)).trans ?_
    refine (r_iloadn f201_16 rfl).trans ?_
    refine (r_iconst (v := 2) f201_17 rfl).trans ?_
    refine (r_icmp_eq_f f201_18 em1).trans ?_
    refine (r_iloadn f201_21 rfl).trans ?_
    refine (r_iconst (v := 3) f201_22 rfl).trans ?_
    refine (r_icmp_eq_t f201_23 em2).trans ?_
    refine (r_iconst (v := 1) f201_32 rfl).trans ?_
    refine (r_goto f201_33).trans ?_
    exact r_zreturn f201_37 rfl (by decide)
  refine (r_stat (as := [.int x1, .int 1]) (v := (some (.int 1))) (h1 := h) f207_2 rfl zg201 rfl rfl rfl rfl rfl rfl hc1).trans ?_
  refine (r_if_eq_f f207_5 (by decide)).trans ?_
  refine (r_iloadn f207_8 rfl).trans ?_
  refine (r_iconst (v := 0) f207_9 rfl).trans ?_
  refine (r_bipush (v := 7) f207_10 rfl).trans ?_
  have hc2 : arun X (n + 15) (d + 2) zM196 0 [some (.int x1), some (.int 0), some (.int 7)] [] h = some ((some (.int 1)), h) := by
    refine (r_iloadn f196_0 rfl).trans ?_
    refine (r_iloadn f196_1 rfl).trans ?_
    refine (r_icmp_lt_f f196_2 em3).trans ?_
    refine (r_iloadn f196_5 rfl).trans ?_
    refine (r_iloadn f196_6 rfl).trans ?_
    refine (r_icmp_gt_f f196_7 em4).trans ?_
    refine (r_iconst (v := 1) f196_10 rfl).trans ?_
    refine (r_goto f196_11).trans ?_
    exact r_zreturn f196_15 rfl (by decide)
  refine (r_stat (as := [.int x1, .int 0, .int 7]) (v := (some (.int 1))) (h1 := h) f207_12 rfl zg196 rfl rfl rfl rfl rfl rfl hc2).trans ?_
  refine (r_if_eq_f f207_15 (by decide)).trans ?_
  refine (r_iloadn f207_18 rfl).trans ?_
  have hc3 : arun X (n + 12) (d + 2) zM206 0 [some (.int x2)] [] h = some ((some (.int 0)), h) := by
    refine (r_iloadn f206_0 rfl).trans ?_
    refine (r_iconst (v := 0) f206_1 rfl).trans ?_
    refine (r_iconst (v := 3) f206_2 rfl).trans ?_
    have hc4 : arun X (n + 8) (d + 1) zM196 0 [some (.int x2), some (.int 0), some (.int 3)] [] h = some ((some (.int 0)), h) := by
      refine (r_iloadn f196_0 rfl).trans ?_
      refine (r_iloadn f196_1 rfl).trans ?_
      refine (r_icmp_lt_f f196_2 ec2).trans ?_
      refine (r_iloadn f196_5 rfl).trans ?_
      refine (r_iloadn f196_6 rfl).trans ?_
      refine (r_icmp_gt_t f196_7 ec3).trans ?_
      refine (r_iconst (v := 0) f196_14 rfl).trans ?_
      exact r_zreturn f196_15 rfl (by decide)
    refine (r_stat (as := [.int x2, .int 0, .int 3]) (v := (some (.int 0))) (h1 := h) f206_3 rfl zg196 rfl rfl rfl rfl rfl rfl hc4).trans ?_
    exact r_zreturn f206_6 rfl (by decide)
  refine (r_stat (as := [.int x2]) (v := (some (.int 0))) (h1 := h) f207_19 rfl zg206 rfl rfl rfl rfl rfl rfl hc3).trans ?_
  refine (r_if_ne_f f207_22 (by decide)).trans ?_
  refine (r_iconst (v := (-1)) f207_25 rfl).trans ?_
  exact r_ireturn f207_26 rfl
set_option maxHeartbeats 40000000 in
theorem qm2_6_2 {X : aX} {n d : Nat} {h : aH} {x1 : Int32} {x2 : Int32}  (ec2 : ¬ x2 < 0) (ec3 : 3 < x2) (em0 : x1 = 1) (em1 : ¬ x1 < 0) (em2 : ¬ 7 < x1) : arun X (n + 23) (d + 3) zM207 0 [some (.ref 72), some (.int x1), some (.int x2), none] [] h = some (some (.int (-1)), h) := by
  refine (r_iloadn f207_0 rfl).trans ?_
  refine (r_iconst (v := 1) f207_1 rfl).trans ?_
  have hc1 : arun X (n + 20) (d + 2) zM201 0 [some (.int x1), some (.int 1)] [] h = some ((some (.int 1)), h) := by
    refine (r_iloadn f201_0 rfl).trans ?_
    refine (r_if_eq_f f201_1 (by decide)).trans ?_
    refine (r_iloadn f201_4 rfl).trans ?_
    refine (r_iloadn f201_5 rfl).trans ?_
    refine (r_icmp_ne_f f201_6 em0).trans ?_
    refine (r_iconst (v := 1) f201_9 rfl).trans ?_
    exact r_zreturn f201_10 rfl (by decide)
  refine (r_stat (as := [.int x1, .int 1]) (v := (some (.int 1))) (h1 := h) f207_2 rfl zg201 rfl rfl rfl rfl rfl rfl hc1).trans ?_
  refine (r_if_eq_f f207_5 (by decide)).trans ?_
  refine (r_iloadn f207_8 rfl).trans ?_
  refine (r_iconst (v := 0) f207_9 rfl).trans ?_
  refine (r_bipush (v := 7) f207_10 rfl).trans ?_
  have hc2 : arun X (n + 15) (d + 2) zM196 0 [some (.int x1), some (.int 0), some (.int 7)] [] h = some ((some (.int 1)), h) := by
    refine (r_iloadn f196_0 rfl).trans ?_
    refine (r_iloadn f196_1 rfl).trans ?_
    refine (r_icmp_lt_f f196_2 em1).trans ?_
    refine (r_iloadn f196_5 rfl).trans ?_
    refine (r_iloadn f196_6 rfl).trans ?_
    refine (r_icmp_gt_f f196_7 em2).trans ?_
    refine (r_iconst (v := 1) f196_10 rfl).trans ?_
    refine (r_goto f196_11).trans ?_
    exact r_zreturn f196_15 rfl (by decide)
  refine (r_stat (as := [.int x1, .int 0, .int 7]) (v := (some (.int 1))) (h1 := h) f207_12 rfl zg196 rfl rfl rfl rfl rfl rfl hc2).trans ?_
  refine (r_if_eq_f f207_15 (by decide)).trans ?_
  refine (r_iloadn f207_18 rfl).trans ?_
  have hc3 : arun X (n + 12) (d + 2) zM206 0 [some (.int x2)] [] h = some ((some (.int 0)), h) := by
    refine (r_iloadn f206_0 rfl).trans ?_
    refine (r_iconst (v := 0) f206_1 rfl).trans ?_
    refine (r_iconst (v := 3) f206_2 rfl).trans ?_
    have hc4 : arun X (n + 8) (d + 1) zM196 0 [some (.int x2), some (.int 0), some (.int 3)] [] h = some ((some (.int 0)), h) := by
      refine (r_iloadn f196_0 rfl).trans ?_
      refine (r_iloadn f196_1 rfl).trans ?_
      refine (r_icmp_lt_f f196_2 ec2).trans ?_
      refine (r_iloadn f196_5 rfl).trans ?_
      refine (r_iloadn f196_6 rfl).trans ?_
      refine (r_icmp_gt_t f196_7 ec3).trans ?_
      refine (r_iconst (v := 0) f196_14 rfl).trans ?_
      exact r_zreturn f196_15 rfl (by decide)
    refine (r_stat (as := [.int x2, .int 0, .int 3]) (v := (some (.int 0))) (h1 := h) f206_3 rfl zg196 rfl rfl rfl rfl rfl rfl hc4).trans ?_
    exact r_zreturn f206_6 rfl (by decide)
  refine (r_stat (as := [.int x2]) (v := (some (.int 0))) (h1 := h) f207_19 rfl zg206 rfl rfl rfl rfl rfl rfl hc3).trans ?_
  refine (r_if_ne_f f207_22 (by decide)).trans ?_
  refine (r_iconst (v := (-1)) f207_25 rfl).trans ?_
  exact r_ireturn f207_26 rfl
set_option maxHeartbeats 40000000 in
theorem qc2_7 {X : aX} {n d : Nat} {h : aH} {x1 : Int32} {x2 : Int32}  (g0 : h.1[0]? = some (.inr (11, zF0))) (g1 : h.1[1]? = some (.inr (6, zF1))) (g2 : h.1[2]? = some (.inl (0, 150, .inl (fun _ => 0)))) (g3 : h.1[3]? = some (.inl (0, 150, .inl (fun _ => 0)))) (g4 : h.1[4]? = some (.inl (0, 150, .inl (fun _ => 0)))) (g5 : h.1[5]? = some (.inl (0, 150, .inl (fun _ => 0)))) (g7 : h.1[7]? = some (.inl (0, 150, .inl (fun _ => 0)))) (ec0 : ¬ x1 < 1) (ec1 : ¬ 3 < x1) (ec2 : ¬ x2 < 0) (ec3 : ¬ 3 < x2) (ec4 : x1 < 4) : arun X (n + 77) (d + 4) zM146 0 [some (.ref 0), some (.int x1), some (.int x2)] [] h = some (some (.int 0), (((((((h.1.set 2 (.inl (0, 150, .inl (upd (fun _ => 0) (Int32.toNatClampNeg 0) x1)))).set 3 (.inl (0, 150, .inl (upd (fun _ => 0) (Int32.toNatClampNeg 0) x2)))).set 7 (.inl (0, 150, .inl (upd (fun _ => 0) (Int32.toNatClampNeg 0) (-1))))).set 4 (.inl (0, 150, .inl (upd (fun _ => 0) (Int32.toNatClampNeg 0) 0)))).set 5 (.inl (0, 150, .inl (upd (fun _ => 0) (Int32.toNatClampNeg 0) (-1))))).set 1 (.inr (6, [.int 0, .int 1, .int 1, .int 0, .int 0, .int 0, .int 0, .ref 2, .ref 3, .ref 4, .ref 5, .ref 6, .ref 7, .ref 8, .ref 9, .ref 10, .ref 11, .ref 12]))), h.2)) := by
  refine (r_iloadn f146_0 rfl).trans ?_
  have hc1 : arun X (n + 75) (d + 3) zM71 0 [some (.int x1)] [] h = some ((some (.int 1)), h) := by
    refine (r_iloadn f71_0 rfl).trans ?_
    refine (r_iconst (v := 1) f71_1 rfl).trans ?_
    refine (r_iconst (v := 3) f71_2 rfl).trans ?_
    have hc2 : arun X (n + 71) (d + 2) zM137 0 [some (.int x1), some (.int 1), some (.int 3)] [] h = some ((some (.int 1)), h) := by
      refine (r_iloadn f137_0 rfl).trans ?_
      refine (r_iloadn f137_1 rfl).trans ?_
      refine (r_icmp_gt_f f137_2 ec0).trans ?_
      refine (r_iloadn f137_5 rfl).trans ?_
      refine (r_iloadn f137_6 rfl).trans ?_
      refine (r_icmp_gt_f f137_7 ec1).trans ?_
      refine (r_iconst (v := 1) f137_10 rfl).trans ?_
      refine (r_goto f137_11).trans ?_
      exact r_zreturn f137_15 rfl (by decide)
    refine (r_stat (as := [.int x1, .int 1, .int 3]) (v := (some (.int 1))) (h1 := h) f71_3 rfl zg137 rfl rfl rfl rfl rfl rfl hc2).trans ?_
    refine (r_if_ne_t f71_6 (by decide)).trans ?_
    refine (r_iconst (v := 1) f71_15 rfl).trans ?_
    refine (r_goto f71_16).trans ?_
    exact r_zreturn f71_20 rfl (by decide)
  refine (r_stat (as := [.int x1]) (v := (some (.int 1))) (h1 := h) f146_1 rfl zg71 rfl rfl rfl rfl rfl rfl hc1).trans ?_
  refine (r_if_eq_f f146_4 (by decide)).trans ?_
  refine (r_iloadn f146_7 rfl).trans ?_
  have hc3 : arun X (n + 72) (d + 3) zM140 0 [some (.int x2)] [] h = some ((some (.int 1)), h) := by
    refine (r_iloadn f140_0 rfl).trans ?_
    refine (r_iconst (v := 0) f140_1 rfl).trans ?_
    refine (r_iconst (v := 3) f140_2 rfl).trans ?_
    have hc4 : arun X (n + 68) (d + 2) zM137 0 [some (.int x2), some (.int 0), some (.int 3)] [] h = some ((some (.int 1)), h) := by
      refine (r_iloadn f137_0 rfl).trans ?_
      refine (r_iloadn f137_1 rfl).trans ?_
      refine (r_icmp_gt_f f137_2 ec2).trans ?_
      refine (r_iloadn f137_5 rfl).trans ?_
      refine (r_iloadn f137_6 rfl).trans ?_
      refine (r_icmp_gt_f f137_7 ec3).trans ?_
      refine (r_iconst (v := 1) f137_10 rfl).trans ?_
      refine (r_goto f137_11).trans ?_
      exact r_zreturn f137_15 rfl (by decide)
    refine (r_stat (as := [.int x2, .int 0, .int 3]) (v := (some (.int 1))) (h1 := h) f140_3 rfl zg137 rfl rfl rfl rfl rfl rfl hc4).trans ?_
    exact r_zreturn f140_6 rfl (by decide)
  refine (r_stat (as := [.int x2]) (v := (some (.int 1))) (h1 := h) f146_8 rfl zg140 rfl rfl rfl rfl rfl rfl hc3).trans ?_
  refine (r_if_ne_t f146_11 (by decide)).trans ?_
  refine (r_aloadn f146_16 rfl).trans ?_
  refine (r_get (v := .ref 1) f146_17 g0 rfl).trans ?_
  have hc5 : arun X (n + 68) (d + 3) zM73 0 [some (.ref 1)] [] h = some ((some (.int 0)), h) := by
    refine (r_aloadn f73_0 rfl).trans ?_
    refine (r_get (v := .int 0) f73_1 g1 rfl).trans ?_
    refine (r_sipush (v := 150) f73_4 rfl).trans ?_
    refine (r_icmp_lt_t f73_7 (by decide)).trans ?_
    refine (r_iconst (v := 0) f73_14 rfl).trans ?_
    exact r_zreturn f73_15 rfl (by decide)
  refine (r_virt (as := []) (v := (some (.int 0))) (h1 := h) f146_20 g1 zg73 rfl rfl rfl rfl rfl rfl hc5).trans ?_
  refine (r_if_eq_t f146_23 (by decide)).trans ?_
  refine (r_aloadn f146_31 rfl).trans ?_
  refine (r_get (v := .ref 1) f146_32 g0 rfl).trans ?_
  refine (r_iloadn f146_35 rfl).trans ?_
  refine (r_iloadn f146_36 rfl).trans ?_
  refine (r_iconst (v := (-1)) f146_37 rfl).trans ?_
  have hc6 : arun X (n + 61) (d + 3) zM79 0 [some (.ref 1), some (.int x1), some (.int x2), some (.int (-1)), none] [] h = some ((some (.int 0)), (((((((h.1.set 2 (.inl (0, 150, .inl (upd (fun _ => 0) (Int32.toNatClampNeg 0) x1)))).set 3 (.inl (0, 150, .inl (upd (fun _ => 0) (Int32.toNatClampNeg 0) x2)))).set 7 (.inl (0, 150, .inl (upd (fun _ => 0) (Int32.toNatClampNeg 0) (-1))))).set 4 (.inl (0, 150, .inl (upd (fun _ => 0) (Int32.toNatClampNeg 0) 0)))).set 5 (.inl (0, 150, .inl (upd (fun _ => 0) (Int32.toNatClampNeg 0) (-1))))).set 1 (.inr (6, [.int 0, .int 1, .int 1, .int 0, .int 0, .int 0, .int 0, .ref 2, .ref 3, .ref 4, .ref 5, .ref 6, .ref 7, .ref 8, .ref 9, .ref 10, .ref 11, .ref 12]))), h.2)) := by
    refine (r_aloadn f79_0 rfl).trans ?_
    refine (r_get (v := .int 0) f79_1 g1 rfl).trans ?_
    refine (r_istore (L' := [some (.ref 1), some (.int x1), some (.int x2), some (.int (-1)), some (.int 0)]) f79_4 rfl rfl).trans ?_
    refine (r_aloadn f79_6 rfl).trans ?_
    have hc7 : arun X (n + 56) (d + 2) zM73 0 [some (.ref 1)] [] h = some ((some (.int 0)), h) := by
      refine (r_aloadn f73_0 rfl).trans ?_
      refine (r_get (v := .int 0) f73_1 g1 rfl).trans ?_
      refine (r_sipush (v := 150) f73_4 rfl).trans ?_
      refine (r_icmp_lt_t f73_7 (by decide)).trans ?_
      refine (r_iconst (v := 0) f73_14 rfl).trans ?_
      exact r_zreturn f73_15 rfl (by decide)
    refine (r_virt (as := []) (v := (some (.int 0))) (h1 := h) f79_7 g1 zg73 rfl rfl rfl rfl rfl rfl hc7).trans ?_
    refine (r_if_eq_t f79_10 (by decide)).trans ?_
    refine (r_aloadn f79_16 rfl).trans ?_
    refine (r_get (v := .ref 2) f79_17 g1 rfl).trans ?_
    refine (r_iload f79_20 rfl).trans ?_
    refine (r_iloadn f79_22 rfl).trans ?_
    refine (r_iast (h' := ((h.1.set 2 (.inl (0, 150, .inl (upd (fun _ => 0) (Int32.toNatClampNeg 0) x1)))), h.2)) f79_23 g2 (by decide) rfl).trans ?_
    refine (r_aloadn f79_24 rfl).trans ?_
    refine (r_get (v := .ref 3) f79_25 (gs_ne g1 (by decide)) rfl).trans ?_
    refine (r_iload f79_28 rfl).trans ?_
    refine (r_iloadn f79_30 rfl).trans ?_
    refine (r_iast (h' := (((h.1.set 2 (.inl (0, 150, .inl (upd (fun _ => 0) (Int32.toNatClampNeg 0) x1)))).set 3 (.inl (0, 150, .inl (upd (fun _ => 0) (Int32.toNatClampNeg 0) x2)))), h.2)) f79_31 (gs_ne g3 (by decide)) (by decide) rfl).trans ?_
    refine (r_aloadn f79_32 rfl).trans ?_
    refine (r_get (v := .ref 7) f79_33 (gs_ne (gs_ne g1 (by decide)) (by decide)) rfl).trans ?_
    refine (r_iload f79_36 rfl).trans ?_
    refine (r_iloadn f79_38 rfl).trans ?_
    refine (r_iast (h' := ((((h.1.set 2 (.inl (0, 150, .inl (upd (fun _ => 0) (Int32.toNatClampNeg 0) x1)))).set 3 (.inl (0, 150, .inl (upd (fun _ => 0) (Int32.toNatClampNeg 0) x2)))).set 7 (.inl (0, 150, .inl (upd (fun _ => 0) (Int32.toNatClampNeg 0) (-1))))), h.2)) f79_39 (gs_ne (gs_ne g7 (by decide)) (by decide)) (by decide) rfl).trans ?_
    refine (r_aloadn f79_40 rfl).trans ?_
    refine (r_get (v := .ref 4) f79_41 (gs_ne (gs_ne (gs_ne g1 (by decide)) (by decide)) (by decide)) rfl).trans ?_
    refine (r_iload f79_44 rfl).trans ?_
    refine (r_aloadn f79_46 rfl).trans ?_
    refine (r_get (v := .int 0) f79_47 (gs_ne (gs_ne (gs_ne g1 (by decide)) (by decide)) (by decide)) rfl).trans ?_
    refine (r_iast (h' := (((((h.1.set 2 (.inl (0, 150, .inl (upd (fun _ => 0) (Int32.toNatClampNeg 0) x1)))).set 3 (.inl (0, 150, .inl (upd (fun _ => 0) (Int32.toNatClampNeg 0) x2)))).set 7 (.inl (0, 150, .inl (upd (fun _ => 0) (Int32.toNatClampNeg 0) (-1))))).set 4 (.inl (0, 150, .inl (upd (fun _ => 0) (Int32.toNatClampNeg 0) 0)))), h.2)) f79_50 (gs_ne (gs_ne (gs_ne g4 (by decide)) (by decide)) (by decide)) (by decide) rfl).trans ?_
    refine (r_aloadn f79_51 rfl).trans ?_
    refine (r_get (v := .ref 5) f79_52 (gs_ne (gs_ne (gs_ne (gs_ne g1 (by decide)) (by decide)) (by decide)) (by decide)) rfl).trans ?_
    refine (r_iload f79_55 rfl).trans ?_
    refine (r_iconst (v := (-1)) f79_57 rfl).trans ?_
    refine (r_iast (h' := ((((((h.1.set 2 (.inl (0, 150, .inl (upd (fun _ => 0) (Int32.toNatClampNeg 0) x1)))).set 3 (.inl (0, 150, .inl (upd (fun _ => 0) (Int32.toNatClampNeg 0) x2)))).set 7 (.inl (0, 150, .inl (upd (fun _ => 0) (Int32.toNatClampNeg 0) (-1))))).set 4 (.inl (0, 150, .inl (upd (fun _ => 0) (Int32.toNatClampNeg 0) 0)))).set 5 (.inl (0, 150, .inl (upd (fun _ => 0) (Int32.toNatClampNeg 0) (-1))))), h.2)) f79_58 (gs_ne (gs_ne (gs_ne (gs_ne g5 (by decide)) (by decide)) (by decide)) (by decide)) (by decide) rfl).trans ?_
    refine (r_aloadn f79_59 rfl).trans ?_
    refine (r_dup f79_60 rfl).trans ?_
    refine (r_get (v := .int 0) f79_61 (gs_ne (gs_ne (gs_ne (gs_ne (gs_ne g1 (by decide)) (by decide)) (by decide)) (by decide)) (by decide)) rfl).trans ?_
    refine (r_iloadn f79_64 rfl).trans ?_
    have hc8 : arun X (n + 24) (d + 2) zM71 0 [some (.int x1)] [] ((((((h.1.set 2 (.inl (0, 150, .inl (upd (fun _ => 0) (Int32.toNatClampNeg 0) x1)))).set 3 (.inl (0, 150, .inl (upd (fun _ => 0) (Int32.toNatClampNeg 0) x2)))).set 7 (.inl (0, 150, .inl (upd (fun _ => 0) (Int32.toNatClampNeg 0) (-1))))).set 4 (.inl (0, 150, .inl (upd (fun _ => 0) (Int32.toNatClampNeg 0) 0)))).set 5 (.inl (0, 150, .inl (upd (fun _ => 0) (Int32.toNatClampNeg 0) (-1))))), h.2) = some ((some (.int 1)), ((((((h.1.set 2 (.inl (0, 150, .inl (upd (fun _ => 0) (Int32.toNatClampNeg 0) x1)))).set 3 (.inl (0, 150, .inl (upd (fun _ => 0) (Int32.toNatClampNeg 0) x2)))).set 7 (.inl (0, 150, .inl (upd (fun _ => 0) (Int32.toNatClampNeg 0) (-1))))).set 4 (.inl (0, 150, .inl (upd (fun _ => 0) (Int32.toNatClampNeg 0) 0)))).set 5 (.inl (0, 150, .inl (upd (fun _ => 0) (Int32.toNatClampNeg 0) (-1))))), h.2)) := by
      refine (r_iloadn f71_0 rfl).trans ?_
      refine (r_iconst (v := 1) f71_1 rfl).trans ?_
      refine (r_iconst (v := 3) f71_2 rfl).trans ?_
      have hc9 : arun X (n + 20) (d + 1) zM137 0 [some (.int x1), some (.int 1), some (.int 3)] [] ((((((h.1.set 2 (.inl (0, 150, .inl (upd (fun _ => 0) (Int32.toNatClampNeg 0) x1)))).set 3 (.inl (0, 150, .inl (upd (fun _ => 0) (Int32.toNatClampNeg 0) x2)))).set 7 (.inl (0, 150, .inl (upd (fun _ => 0) (Int32.toNatClampNeg 0) (-1))))).set 4 (.inl (0, 150, .inl (upd (fun _ => 0) (Int32.toNatClampNeg 0) 0)))).set 5 (.inl (0, 150, .inl (upd (fun _ => 0) (Int32.toNatClampNeg 0) (-1))))), h.2) = some ((some (.int 1)), ((((((h.1.set 2 (.inl (0, 150, .inl (upd (fun _ => 0) (Int32.toNatClampNeg 0) x1)))).set 3 (.inl (0, 150, .inl (upd (fun _ => 0) (Int32.toNatClampNeg 0) x2)))).set 7 (.inl (0, 150, .inl (upd (fun _ => 0) (Int32.toNatClampNeg 0) (-1))))).set 4 (.inl (0, 150, .inl (upd (fun _ => 0) (Int32.toNatClampNeg 0) 0)))).set 5 (.inl (0, 150, .inl (upd (fun _ => 0) (Int32.toNatClampNeg 0) (-1))))), h.2)) := by
        refine (r_iloadn f137_0 rfl).trans ?_
        refine (r_iloadn f137_1 rfl).trans ?_
        refine (r_icmp_gt_f f137_2 ec0).trans ?_
        refine (r_iloadn f137_5 rfl).trans ?_
        refine (r_iloadn f137_6 rfl).trans ?_
        refine (r_icmp_gt_f f137_7 ec1).trans ?_
        refine (r_iconst (v := 1) f137_10 rfl).trans ?_
        refine (r_goto f137_11).trans ?_
        exact r_zreturn f137_15 rfl (by decide)
      refine (r_stat (as := [.int x1, .int 1, .int 3]) (v := (some (.int 1))) (h1 := ((((((h.1.set 2 (.inl (0, 150, .inl (upd (fun _ => 0) (Int32.toNatClampNeg 0) x1)))).set 3 (.inl (0, 150, .inl (upd (fun _ => 0) (Int32.toNatClampNeg 0) x2)))).set 7 (.inl (0, 150, .inl (upd (fun _ => 0) (Int32.toNatClampNeg 0) (-1))))).set 4 (.inl (0, 150, .inl (upd (fun _ => 0) (Int32.toNatClampNeg 0) 0)))).set 5 (.inl (0, 150, .inl (upd (fun _ => 0) (Int32.toNatClampNeg 0) (-1))))), h.2)) f71_3 rfl zg137 rfl rfl rfl rfl rfl rfl hc9).trans ?_
      refine (r_if_ne_t f71_6 (by decide)).trans ?_
      refine (r_iconst (v := 1) f71_15 rfl).trans ?_
      refine (r_goto f71_16).trans ?_
      exact r_zreturn f71_20 rfl (by decide)
    refine (r_stat (as := [.int x1]) (v := (some (.int 1))) (h1 := ((((((h.1.set 2 (.inl (0, 150, .inl (upd (fun _ => 0) (Int32.toNatClampNeg 0) x1)))).set 3 (.inl (0, 150, .inl (upd (fun _ => 0) (Int32.toNatClampNeg 0) x2)))).set 7 (.inl (0, 150, .inl (upd (fun _ => 0) (Int32.toNatClampNeg 0) (-1))))).set 4 (.inl (0, 150, .inl (upd (fun _ => 0) (Int32.toNatClampNeg 0) 0)))).set 5 (.inl (0, 150, .inl (upd (fun _ => 0) (Int32.toNatClampNeg 0) (-1))))), h.2)) f79_65 rfl zg71 rfl rfl rfl rfl rfl rfl hc8).trans ?_
    refine (r_if_eq_f f79_68 (by decide)).trans ?_
    refine (r_iconst (v := 1) f79_71 rfl).trans ?_
    refine (r_goto f79_72).trans ?_
    refine (r_iadd (v := 1) f79_76 (by decide)).trans ?_
    refine (r_put (h' := (((((((h.1.set 2 (.inl (0, 150, .inl (upd (fun _ => 0) (Int32.toNatClampNeg 0) x1)))).set 3 (.inl (0, 150, .inl (upd (fun _ => 0) (Int32.toNatClampNeg 0) x2)))).set 7 (.inl (0, 150, .inl (upd (fun _ => 0) (Int32.toNatClampNeg 0) (-1))))).set 4 (.inl (0, 150, .inl (upd (fun _ => 0) (Int32.toNatClampNeg 0) 0)))).set 5 (.inl (0, 150, .inl (upd (fun _ => 0) (Int32.toNatClampNeg 0) (-1))))).set 1 (.inr (6, [.int 0, .int 0, .int 1, .int 0, .int 0, .int 0, .int 0, .ref 2, .ref 3, .ref 4, .ref 5, .ref 6, .ref 7, .ref 8, .ref 9, .ref 10, .ref 11, .ref 12]))), h.2)) f79_77 (gs_ne (gs_ne (gs_ne (gs_ne (gs_ne g1 (by decide)) (by decide)) (by decide)) (by decide)) (by decide)) rfl rfl).trans ?_
    refine (r_aloadn f79_80 rfl).trans ?_
    refine (r_dup f79_81 rfl).trans ?_
    refine (r_get (v := .int 0) f79_82 (gs_eq (gs_ne (gs_ne (gs_ne (gs_ne (gs_ne g1 (by decide)) (by decide)) (by decide)) (by decide)) (by decide))) rfl).trans ?_
    refine (r_iloadn f79_85 rfl).trans ?_
    refine (r_iconst (v := 4) f79_86 rfl).trans ?_
    refine (r_iconst (v := 5) f79_87 rfl).trans ?_
    have hc10 : arun X (n + 12) (d + 2) zM137 0 [some (.int x1), some (.int 4), some (.int 5)] [] (((((((h.1.set 2 (.inl (0, 150, .inl (upd (fun _ => 0) (Int32.toNatClampNeg 0) x1)))).set 3 (.inl (0, 150, .inl (upd (fun _ => 0) (Int32.toNatClampNeg 0) x2)))).set 7 (.inl (0, 150, .inl (upd (fun _ => 0) (Int32.toNatClampNeg 0) (-1))))).set 4 (.inl (0, 150, .inl (upd (fun _ => 0) (Int32.toNatClampNeg 0) 0)))).set 5 (.inl (0, 150, .inl (upd (fun _ => 0) (Int32.toNatClampNeg 0) (-1))))).set 1 (.inr (6, [.int 0, .int 0, .int 1, .int 0, .int 0, .int 0, .int 0, .ref 2, .ref 3, .ref 4, .ref 5, .ref 6, .ref 7, .ref 8, .ref 9, .ref 10, .ref 11, .ref 12]))), h.2) = some ((some (.int 0)), (((((((h.1.set 2 (.inl (0, 150, .inl (upd (fun _ => 0) (Int32.toNatClampNeg 0) x1)))).set 3 (.inl (0, 150, .inl (upd (fun _ => 0) (Int32.toNatClampNeg 0) x2)))).set 7 (.inl (0, 150, .inl (upd (fun _ => 0) (Int32.toNatClampNeg 0) (-1))))).set 4 (.inl (0, 150, .inl (upd (fun _ => 0) (Int32.toNatClampNeg 0) 0)))).set 5 (.inl (0, 150, .inl (upd (fun _ => 0) (Int32.toNatClampNeg 0) (-1))))).set 1 (.inr (6, [.int 0, .int 0, .int 1, .int 0, .int 0, .int 0, .int 0, .ref 2, .ref 3, .ref 4, .ref 5, .ref 6, .ref 7, .ref 8, .ref 9, .ref 10, .ref 11, .ref 12]))), h.2)) := by
      refine (r_iloadn f137_0 rfl).trans ?_
      refine (r_iloadn f137_1 rfl).trans ?_
      refine (r_icmp_gt_t f137_2 ec4).trans ?_
      refine (r_iconst (v := 0) f137_14 rfl).trans ?_
      exact r_zreturn f137_15 rfl (by decide)
    refine (r_stat (as := [.int x1, .int 4, .int 5]) (v := (some (.int 0))) (h1 := (((((((h.1.set 2 (.inl (0, 150, .inl (upd (fun _ => 0) (Int32.toNatClampNeg 0) x1)))).set 3 (.inl (0, 150, .inl (upd (fun _ => 0) (Int32.toNatClampNeg 0) x2)))).set 7 (.inl (0, 150, .inl (upd (fun _ => 0) (Int32.toNatClampNeg 0) (-1))))).set 4 (.inl (0, 150, .inl (upd (fun _ => 0) (Int32.toNatClampNeg 0) 0)))).set 5 (.inl (0, 150, .inl (upd (fun _ => 0) (Int32.toNatClampNeg 0) (-1))))).set 1 (.inr (6, [.int 0, .int 0, .int 1, .int 0, .int 0, .int 0, .int 0, .ref 2, .ref 3, .ref 4, .ref 5, .ref 6, .ref 7, .ref 8, .ref 9, .ref 10, .ref 11, .ref 12]))), h.2)) f79_88 rfl zg137 rfl rfl rfl rfl rfl rfl hc10).trans ?_
    refine (r_if_eq_t f79_91 (by decide)).trans ?_
    refine (r_iconst (v := 0) f79_98 rfl).trans ?_
    refine (r_iadd (v := 0) f79_99 (by decide)).trans ?_
    refine (r_put (h' := (((((((h.1.set 2 (.inl (0, 150, .inl (upd (fun _ => 0) (Int32.toNatClampNeg 0) x1)))).set 3 (.inl (0, 150, .inl (upd (fun _ => 0) (Int32.toNatClampNeg 0) x2)))).set 7 (.inl (0, 150, .inl (upd (fun _ => 0) (Int32.toNatClampNeg 0) (-1))))).set 4 (.inl (0, 150, .inl (upd (fun _ => 0) (Int32.toNatClampNeg 0) 0)))).set 5 (.inl (0, 150, .inl (upd (fun _ => 0) (Int32.toNatClampNeg 0) (-1))))).set 1 (.inr (6, [.int 0, .int 0, .int 1, .int 0, .int 0, .int 0, .int 0, .ref 2, .ref 3, .ref 4, .ref 5, .ref 6, .ref 7, .ref 8, .ref 9, .ref 10, .ref 11, .ref 12]))), h.2)) f79_100 (gs_eq (gs_ne (gs_ne (gs_ne (gs_ne (gs_ne g1 (by decide)) (by decide)) (by decide)) (by decide)) (by decide))) rfl hss).trans ?_
    refine (r_aloadn f79_103 rfl).trans ?_
    refine (r_dup f79_104 rfl).trans ?_
    refine (r_get (v := .int 0) f79_105 (gs_eq (gs_ne (gs_ne (gs_ne (gs_ne (gs_ne g1 (by decide)) (by decide)) (by decide)) (by decide)) (by decide))) rfl).trans ?_
    refine (r_iconst (v := 1) f79_108 rfl).trans ?_
    refine (r_iadd (v := 1) f79_109 (by decide)).trans ?_
    refine (r_put (h' := (((((((h.1.set 2 (.inl (0, 150, .inl (upd (fun _ => 0) (Int32.toNatClampNeg 0) x1)))).set 3 (.inl (0, 150, .inl (upd (fun _ => 0) (Int32.toNatClampNeg 0) x2)))).set 7 (.inl (0, 150, .inl (upd (fun _ => 0) (Int32.toNatClampNeg 0) (-1))))).set 4 (.inl (0, 150, .inl (upd (fun _ => 0) (Int32.toNatClampNeg 0) 0)))).set 5 (.inl (0, 150, .inl (upd (fun _ => 0) (Int32.toNatClampNeg 0) (-1))))).set 1 (.inr (6, [.int 0, .int 1, .int 1, .int 0, .int 0, .int 0, .int 0, .ref 2, .ref 3, .ref 4, .ref 5, .ref 6, .ref 7, .ref 8, .ref 9, .ref 10, .ref 11, .ref 12]))), h.2)) f79_110 (gs_eq (gs_ne (gs_ne (gs_ne (gs_ne (gs_ne g1 (by decide)) (by decide)) (by decide)) (by decide)) (by decide))) rfl hss).trans ?_
    refine (r_iload f79_113 rfl).trans ?_
    exact r_ireturn f79_115 rfl
  refine (r_virt (as := [.int x1, .int x2, .int (-1)]) (v := (some (.int 0))) (h1 := (((((((h.1.set 2 (.inl (0, 150, .inl (upd (fun _ => 0) (Int32.toNatClampNeg 0) x1)))).set 3 (.inl (0, 150, .inl (upd (fun _ => 0) (Int32.toNatClampNeg 0) x2)))).set 7 (.inl (0, 150, .inl (upd (fun _ => 0) (Int32.toNatClampNeg 0) (-1))))).set 4 (.inl (0, 150, .inl (upd (fun _ => 0) (Int32.toNatClampNeg 0) 0)))).set 5 (.inl (0, 150, .inl (upd (fun _ => 0) (Int32.toNatClampNeg 0) (-1))))).set 1 (.inr (6, [.int 0, .int 1, .int 1, .int 0, .int 0, .int 0, .int 0, .ref 2, .ref 3, .ref 4, .ref 5, .ref 6, .ref 7, .ref 8, .ref 9, .ref 10, .ref 11, .ref 12]))), h.2)) f146_38 g1 zg79 rfl rfl rfl rfl rfl rfl hc6).trans ?_
  exact r_ireturn f146_41 rfl
set_option maxHeartbeats 40000000 in
theorem qm2_7_0 {X : aX} {n d : Nat} {h : aH} {x1 : Int32} {x2 : Int32}  (g72 : h.1[72]? = some (.inr (12, zF72))) (g73 : h.1[73]? = some (.inl (0, 150, .inl (fun _ => 0)))) (g74 : h.1[74]? = some (.inl (0, 150, .inl (fun _ => 0)))) (g75 : h.1[75]? = some (.inl (0, 150, .inl (fun _ => 0)))) (g76 : h.1[76]? = some (.inl (0, 150, .inl (fun _ => 0)))) (g77 : h.1[77]? = some (.inl (0, 150, .inl (fun _ => 0)))) (ec2 : ¬ x2 < 0) (ec3 : ¬ 3 < x2) (em0 : ¬ x1 = 1) (em1 : x1 = 2) (em2 : ¬ x1 < 0) (em3 : ¬ 7 < x1) : arun X (n + 55) (d + 3) zM207 0 [some (.ref 72), some (.int x1), some (.int x2), none] [] h = some (some (.int 0), (((((((h.1.set 73 (.inl (0, 150, .inl (upd (fun _ => 0) (Int32.toNatClampNeg 0) x1)))).set 75 (.inl (0, 150, .inl (upd (fun _ => 0) (Int32.toNatClampNeg 0) (-1))))).set 76 (.inl (0, 150, .inl (upd (fun _ => 0) (Int32.toNatClampNeg 0) 0)))).set 77 (.inl (0, 150, .inl (upd (fun _ => 0) (Int32.toNatClampNeg 0) (-1))))).set 72 (.inr (12, (zF72.set 2 (.int 1))))).set 74 (.inl (0, 150, .inl (upd (fun _ => 0) (Int32.toNatClampNeg 0) x2)))), h.2)) := by
  refine (r_iloadn f207_0 rfl).trans ?_
  refine (r_iconst (v := 1) f207_1 rfl).trans ?_
  have hc1 : arun X (n + 52) (d + 2) zM201 0 [some (.int x1), some (.int 1)] [] h = some ((some (.int 1)), h) := by
    refine (r_iloadn f201_0 rfl).trans ?_
    refine (r_if_eq_f f201_1 (by decide)).trans ?_
    refine (r_iloadn f201_4 rfl).trans ?_
    refine (r_iloadn f201_5 rfl).trans ?_
    refine (r_icmp_ne_t f201_6 em0).trans ?_
    refine (r_iloadn f201_11 rfl).trans ?_
    refine (r_iconst (v := 1) f201_12 rfl).trans ?_
    refine (r_icmp_ne_f f201_13 (by decide)).trans ?_
    refine (r_iloadn f201_16 rfl).trans ?_
    refine (r_iconst (v := 2) f201_17 rfl).trans ?_
    refine (r_icmp_eq_t f201_18 em1).trans ?_
    refine (r_iconst (v := 1) f201_32 rfl).trans ?_
    refine (r_goto f201_33).trans ?_
    exact r_zreturn f201_37 rfl (by decide)
  refine (r_stat (as := [.int x1, .int 1]) (v := (some (.int 1))) (h1 := h) f207_2 rfl zg201 rfl rfl rfl rfl rfl rfl hc1).trans ?_
  refine (r_if_eq_f f207_5 (by decide)).trans ?_
  refine (r_iloadn f207_8 rfl).trans ?_
  refine (r_iconst (v := 0) f207_9 rfl).trans ?_
  refine (r_bipush (v := 7) f207_10 rfl).trans ?_
  have hc2 : arun X (n + 47) (d + 2) zM196 0 [some (.int x1), some (.int 0), some (.int 7)] [] h = some ((some (.int 1)), h) := by
    refine (r_iloadn f196_0 rfl).trans ?_
    refine (r_iloadn f196_1 rfl).trans ?_
    refine (r_icmp_lt_f f196_2 em2).trans ?_
    refine (r_iloadn f196_5 rfl).trans ?_
    refine (r_iloadn f196_6 rfl).trans ?_
    refine (r_icmp_gt_f f196_7 em3).trans ?_
    refine (r_iconst (v := 1) f196_10 rfl).trans ?_
    refine (r_goto f196_11).trans ?_
    exact r_zreturn f196_15 rfl (by decide)
  refine (r_stat (as := [.int x1, .int 0, .int 7]) (v := (some (.int 1))) (h1 := h) f207_12 rfl zg196 rfl rfl rfl rfl rfl rfl hc2).trans ?_
  refine (r_if_eq_f f207_15 (by decide)).trans ?_
  refine (r_iloadn f207_18 rfl).trans ?_
  have hc3 : arun X (n + 44) (d + 2) zM206 0 [some (.int x2)] [] h = some ((some (.int 1)), h) := by
    refine (r_iloadn f206_0 rfl).trans ?_
    refine (r_iconst (v := 0) f206_1 rfl).trans ?_
    refine (r_iconst (v := 3) f206_2 rfl).trans ?_
    have hc4 : arun X (n + 40) (d + 1) zM196 0 [some (.int x2), some (.int 0), some (.int 3)] [] h = some ((some (.int 1)), h) := by
      refine (r_iloadn f196_0 rfl).trans ?_
      refine (r_iloadn f196_1 rfl).trans ?_
      refine (r_icmp_lt_f f196_2 ec2).trans ?_
      refine (r_iloadn f196_5 rfl).trans ?_
      refine (r_iloadn f196_6 rfl).trans ?_
      refine (r_icmp_gt_f f196_7 ec3).trans ?_
      refine (r_iconst (v := 1) f196_10 rfl).trans ?_
      refine (r_goto f196_11).trans ?_
      exact r_zreturn f196_15 rfl (by decide)
    refine (r_stat (as := [.int x2, .int 0, .int 3]) (v := (some (.int 1))) (h1 := h) f206_3 rfl zg196 rfl rfl rfl rfl rfl rfl hc4).trans ?_
    exact r_zreturn f206_6 rfl (by decide)
  refine (r_stat (as := [.int x2]) (v := (some (.int 1))) (h1 := h) f207_19 rfl zg206 rfl rfl rfl rfl rfl rfl hc3).trans ?_
  refine (r_if_ne_t f207_22 (by decide)).trans ?_
  refine (r_aloadn f207_27 rfl).trans ?_
  refine (r_get (v := .int 0) f207_28 g72 rfl).trans ?_
  refine (r_sipush (v := 150) f207_31 rfl).trans ?_
  refine (r_icmp_ne_t f207_34 (by decide)).trans ?_
  refine (r_aloadn f207_40 rfl).trans ?_
  refine (r_iloadn f207_41 rfl).trans ?_
  have hc5 : arun X (n + 36) (d + 2) zM204 0 [some (.ref 72), some (.int x1)] [] h = some ((some (.int 0)), ((((((h.1.set 73 (.inl (0, 150, .inl (upd (fun _ => 0) (Int32.toNatClampNeg 0) x1)))).set 75 (.inl (0, 150, .inl (upd (fun _ => 0) (Int32.toNatClampNeg 0) (-1))))).set 76 (.inl (0, 150, .inl (upd (fun _ => 0) (Int32.toNatClampNeg 0) 0)))).set 77 (.inl (0, 150, .inl (upd (fun _ => 0) (Int32.toNatClampNeg 0) (-1))))).set 72 (.inr (12, (zF72.set 2 (.int 1))))), h.2)) := by
    refine (r_aloadn f204_0 rfl).trans ?_
    refine (r_get (v := .ref 73) f204_1 g72 rfl).trans ?_
    refine (r_aloadn f204_4 rfl).trans ?_
    refine (r_get (v := .int 0) f204_5 g72 rfl).trans ?_
    refine (r_iloadn f204_8 rfl).trans ?_
    refine (r_iast (h' := ((h.1.set 73 (.inl (0, 150, .inl (upd (fun _ => 0) (Int32.toNatClampNeg 0) x1)))), h.2)) f204_9 g73 (by decide) rfl).trans ?_
    refine (r_aloadn f204_10 rfl).trans ?_
    refine (r_get (v := .ref 75) f204_11 (gs_ne g72 (by decide)) rfl).trans ?_
    refine (r_aloadn f204_14 rfl).trans ?_
    refine (r_get (v := .int 0) f204_15 (gs_ne g72 (by decide)) rfl).trans ?_
    refine (r_iconst (v := (-1)) f204_18 rfl).trans ?_
    refine (r_iast (h' := (((h.1.set 73 (.inl (0, 150, .inl (upd (fun _ => 0) (Int32.toNatClampNeg 0) x1)))).set 75 (.inl (0, 150, .inl (upd (fun _ => 0) (Int32.toNatClampNeg 0) (-1))))), h.2)) f204_19 (gs_ne g75 (by decide)) (by decide) rfl).trans ?_
    refine (r_aloadn f204_20 rfl).trans ?_
    refine (r_get (v := .ref 76) f204_21 (gs_ne (gs_ne g72 (by decide)) (by decide)) rfl).trans ?_
    refine (r_aloadn f204_24 rfl).trans ?_
    refine (r_get (v := .int 0) f204_25 (gs_ne (gs_ne g72 (by decide)) (by decide)) rfl).trans ?_
    refine (r_aloadn f204_28 rfl).trans ?_
    refine (r_get (v := .int 0) f204_29 (gs_ne (gs_ne g72 (by decide)) (by decide)) rfl).trans ?_
    refine (r_iast (h' := ((((h.1.set 73 (.inl (0, 150, .inl (upd (fun _ => 0) (Int32.toNatClampNeg 0) x1)))).set 75 (.inl (0, 150, .inl (upd (fun _ => 0) (Int32.toNatClampNeg 0) (-1))))).set 76 (.inl (0, 150, .inl (upd (fun _ => 0) (Int32.toNatClampNeg 0) 0)))), h.2)) f204_32 (gs_ne (gs_ne g76 (by decide)) (by decide)) (by decide) rfl).trans ?_
    refine (r_aloadn f204_33 rfl).trans ?_
    refine (r_get (v := .ref 77) f204_34 (gs_ne (gs_ne (gs_ne g72 (by decide)) (by decide)) (by decide)) rfl).trans ?_
    refine (r_aloadn f204_37 rfl).trans ?_
    refine (r_get (v := .int 0) f204_38 (gs_ne (gs_ne (gs_ne g72 (by decide)) (by decide)) (by decide)) rfl).trans ?_
    refine (r_iconst (v := (-1)) f204_41 rfl).trans ?_
    refine (r_iast (h' := (((((h.1.set 73 (.inl (0, 150, .inl (upd (fun _ => 0) (Int32.toNatClampNeg 0) x1)))).set 75 (.inl (0, 150, .inl (upd (fun _ => 0) (Int32.toNatClampNeg 0) (-1))))).set 76 (.inl (0, 150, .inl (upd (fun _ => 0) (Int32.toNatClampNeg 0) 0)))).set 77 (.inl (0, 150, .inl (upd (fun _ => 0) (Int32.toNatClampNeg 0) (-1))))), h.2)) f204_42 (gs_ne (gs_ne (gs_ne g77 (by decide)) (by decide)) (by decide)) (by decide) rfl).trans ?_
    refine (r_aloadn f204_43 rfl).trans ?_
    refine (r_dup f204_44 rfl).trans ?_
    refine (r_get (v := .int 0) f204_45 (gs_ne (gs_ne (gs_ne (gs_ne g72 (by decide)) (by decide)) (by decide)) (by decide)) rfl).trans ?_
    refine (r_iconst (v := 1) f204_48 rfl).trans ?_
    refine (r_iadd (v := 1) f204_49 (by decide)).trans ?_
    refine (r_put (h' := ((((((h.1.set 73 (.inl (0, 150, .inl (upd (fun _ => 0) (Int32.toNatClampNeg 0) x1)))).set 75 (.inl (0, 150, .inl (upd (fun _ => 0) (Int32.toNatClampNeg 0) (-1))))).set 76 (.inl (0, 150, .inl (upd (fun _ => 0) (Int32.toNatClampNeg 0) 0)))).set 77 (.inl (0, 150, .inl (upd (fun _ => 0) (Int32.toNatClampNeg 0) (-1))))).set 72 (.inr (12, (zF72.set 2 (.int 1))))), h.2)) f204_50 (gs_ne (gs_ne (gs_ne (gs_ne g72 (by decide)) (by decide)) (by decide)) (by decide)) rfl rfl).trans ?_
    refine (r_aloadn f204_53 rfl).trans ?_
    refine (r_get (v := .int 1) f204_54 (gs_eq (gs_ne (gs_ne (gs_ne (gs_ne g72 (by decide)) (by decide)) (by decide)) (by decide))) rfl).trans ?_
    refine (r_iconst (v := 1) f204_57 rfl).trans ?_
    refine (r_isub (v := 0) f204_58 (by decide)).trans ?_
    exact r_ireturn f204_59 rfl
  refine (r_virt (as := [.int x1]) (v := (some (.int 0))) (h1 := ((((((h.1.set 73 (.inl (0, 150, .inl (upd (fun _ => 0) (Int32.toNatClampNeg 0) x1)))).set 75 (.inl (0, 150, .inl (upd (fun _ => 0) (Int32.toNatClampNeg 0) (-1))))).set 76 (.inl (0, 150, .inl (upd (fun _ => 0) (Int32.toNatClampNeg 0) 0)))).set 77 (.inl (0, 150, .inl (upd (fun _ => 0) (Int32.toNatClampNeg 0) (-1))))).set 72 (.inr (12, (zF72.set 2 (.int 1))))), h.2)) f207_42 g72 zg204 rfl rfl rfl rfl rfl rfl hc5).trans ?_
  refine (r_istoren (L' := [some (.ref 72), some (.int x1), some (.int x2), some (.int 0)]) f207_45 rfl rfl).trans ?_
  refine (r_aloadn f207_46 rfl).trans ?_
  refine (r_get (v := .ref 74) f207_47 (gs_eq (gs_ne (gs_ne (gs_ne (gs_ne g72 (by decide)) (by decide)) (by decide)) (by decide))) rfl).trans ?_
  refine (r_iloadn f207_50 rfl).trans ?_
  refine (r_iloadn f207_51 rfl).trans ?_
  refine (r_iast (h' := (((((((h.1.set 73 (.inl (0, 150, .inl (upd (fun _ => 0) (Int32.toNatClampNeg 0) x1)))).set 75 (.inl (0, 150, .inl (upd (fun _ => 0) (Int32.toNatClampNeg 0) (-1))))).set 76 (.inl (0, 150, .inl (upd (fun _ => 0) (Int32.toNatClampNeg 0) 0)))).set 77 (.inl (0, 150, .inl (upd (fun _ => 0) (Int32.toNatClampNeg 0) (-1))))).set 72 (.inr (12, (zF72.set 2 (.int 1))))).set 74 (.inl (0, 150, .inl (upd (fun _ => 0) (Int32.toNatClampNeg 0) x2)))), h.2)) f207_52 (gs_ne (gs_ne (gs_ne (gs_ne (gs_ne g74 (by decide)) (by decide)) (by decide)) (by decide)) (by decide)) (by decide) rfl).trans ?_
  refine (r_iloadn f207_53 rfl).trans ?_
  exact r_ireturn f207_54 rfl
set_option maxHeartbeats 40000000 in
theorem qm2_7_1 {X : aX} {n d : Nat} {h : aH} {x1 : Int32} {x2 : Int32}  (g72 : h.1[72]? = some (.inr (12, zF72))) (g73 : h.1[73]? = some (.inl (0, 150, .inl (fun _ => 0)))) (g74 : h.1[74]? = some (.inl (0, 150, .inl (fun _ => 0)))) (g75 : h.1[75]? = some (.inl (0, 150, .inl (fun _ => 0)))) (g76 : h.1[76]? = some (.inl (0, 150, .inl (fun _ => 0)))) (g77 : h.1[77]? = some (.inl (0, 150, .inl (fun _ => 0)))) (ec2 : ¬ x2 < 0) (ec3 : ¬ 3 < x2) (em0 : ¬ x1 = 1) (em1 : ¬ x1 = 2) (em2 : x1 = 3) (em3 : ¬ x1 < 0) (em4 : ¬ 7 < x1) : arun X (n + 55) (d + 3) zM207 0 [some (.ref 72), some (.int x1), some (.int x2), none] [] h = some (some (.int 0), (((((((h.1.set 73 (.inl (0, 150, .inl (upd (fun _ => 0) (Int32.toNatClampNeg 0) x1)))).set 75 (.inl (0, 150, .inl (upd (fun _ => 0) (Int32.toNatClampNeg 0) (-1))))).set 76 (.inl (0, 150, .inl (upd (fun _ => 0) (Int32.toNatClampNeg 0) 0)))).set 77 (.inl (0, 150, .inl (upd (fun _ => 0) (Int32.toNatClampNeg 0) (-1))))).set 72 (.inr (12, (zF72.set 2 (.int 1))))).set 74 (.inl (0, 150, .inl (upd (fun _ => 0) (Int32.toNatClampNeg 0) x2)))), h.2)) := by
  refine (r_iloadn f207_0 rfl).trans ?_
  refine (r_iconst (v := 1) f207_1 rfl).trans ?_
  have hc1 : arun X (n + 52) (d + 2) zM201 0 [some (.int x1), some (.int 1)] [] h = some ((some (.int 1)), h) := by
    refine (r_iloadn f201_0 rfl).trans ?_
    refine (r_if_eq_f f201_1 (by decide)).trans ?_
    refine (r_iloadn f201_4 rfl).trans ?_
    refine (r_iloadn f201_5 rfl).trans ?_
    refine (r_icmp_ne_t f201_6 em0).trans ?_
    refine (r_iloadn f201_11 rfl).trans ?_
    refine (r_iconst (v := 1) f201_12 rfl).trans ?_
    refine (r_icmp_ne_f f201_13 (by decide)).trans ?_
    refine (r_iloadn f201_16 rfl).trans ?_
    refine (r_iconst (v := 2) f201_17 rfl).trans ?_
    refine (r_icmp_eq_f f201_18 em1).trans ?_
    refine (r_iloadn f201_21 rfl).trans ?_
    refine (r_iconst (v := 3) f201_22 rfl).trans ?_
    refine (r_icmp_eq_t f201_23 em2).trans ?_
    refine (r_iconst (v := 1) f201_32 rfl).trans ?_
    refine (r_goto f201_33).trans ?_
    exact r_zreturn f201_37 rfl (by decide)
  refine (r_stat (as := [.int x1, .int 1]) (v := (some (.int 1))) (h1 := h) f207_2 rfl zg201 rfl rfl rfl rfl rfl rfl hc1).trans ?_
  refine (r_if_eq_f f207_5 (by decide)).trans ?_
  refine (r_iloadn f207_8 rfl).trans ?_
  refine (r_iconst (v := 0) f207_9 rfl).trans ?_
  refine (r_bipush (v := 7) f207_10 rfl).trans ?_
  have hc2 : arun X (n + 47) (d + 2) zM196 0 [some (.int x1), some (.int 0), some (.int 7)] [] h = some ((some (.int 1)), h) := by
    refine (r_iloadn f196_0 rfl).trans ?_
    refine (r_iloadn f196_1 rfl).trans ?_
    refine (r_icmp_lt_f f196_2 em3).trans ?_
    refine (r_iloadn f196_5 rfl).trans ?_
    refine (r_iloadn f196_6 rfl).trans ?_
    refine (r_icmp_gt_f f196_7 em4).trans ?_
    refine (r_iconst (v := 1) f196_10 rfl).trans ?_
    refine (r_goto f196_11).trans ?_
    exact r_zreturn f196_15 rfl (by decide)
  refine (r_stat (as := [.int x1, .int 0, .int 7]) (v := (some (.int 1))) (h1 := h) f207_12 rfl zg196 rfl rfl rfl rfl rfl rfl hc2).trans ?_
  refine (r_if_eq_f f207_15 (by decide)).trans ?_
  refine (r_iloadn f207_18 rfl).trans ?_
  have hc3 : arun X (n + 44) (d + 2) zM206 0 [some (.int x2)] [] h = some ((some (.int 1)), h) := by
    refine (r_iloadn f206_0 rfl).trans ?_
    refine (r_iconst (v := 0) f206_1 rfl).trans ?_
    refine (r_iconst (v := 3) f206_2 rfl).trans ?_
    have hc4 : arun X (n + 40) (d + 1) zM196 0 [some (.int x2), some (.int 0), some (.int 3)] [] h = some ((some (.int 1)), h) := by
      refine (r_iloadn f196_0 rfl).trans ?_
      refine (r_iloadn f196_1 rfl).trans ?_
      refine (r_icmp_lt_f f196_2 ec2).trans ?_
      refine (r_iloadn f196_5 rfl).trans ?_
      refine (r_iloadn f196_6 rfl).trans ?_
      refine (r_icmp_gt_f f196_7 ec3).trans ?_
      refine (r_iconst (v := 1) f196_10 rfl).trans ?_
      refine (r_goto f196_11).trans ?_
      exact r_zreturn f196_15 rfl (by decide)
    refine (r_stat (as := [.int x2, .int 0, .int 3]) (v := (some (.int 1))) (h1 := h) f206_3 rfl zg196 rfl rfl rfl rfl rfl rfl hc4).trans ?_
    exact r_zreturn f206_6 rfl (by decide)
  refine (r_stat (as := [.int x2]) (v := (some (.int 1))) (h1 := h) f207_19 rfl zg206 rfl rfl rfl rfl rfl rfl hc3).trans ?_
  refine (r_if_ne_t f207_22 (by decide)).trans ?_
  refine (r_aloadn f207_27 rfl).trans ?_
  refine (r_get (v := .int 0) f207_28 g72 rfl).trans ?_
  refine (r_sipush (v := 150) f207_31 rfl).trans ?_
  refine (r_icmp_ne_t f207_34 (by decide)).trans ?_
  refine (r_aloadn f207_40 rfl).trans ?_
  refine (r_iloadn f207_41 rfl).trans ?_
  have hc5 : arun X (n + 36) (d + 2) zM204 0 [some (.ref 72), some (.int x1)] [] h = some ((some (.int 0)), ((((((h.1.set 73 (.inl (0, 150, .inl (upd (fun _ => 0) (Int32.toNatClampNeg 0) x1)))).set 75 (.inl (0, 150, .inl (upd (fun _ => 0) (Int32.toNatClampNeg 0) (-1))))).set 76 (.inl (0, 150, .inl (upd (fun _ => 0) (Int32.toNatClampNeg 0) 0)))).set 77 (.inl (0, 150, .inl (upd (fun _ => 0) (Int32.toNatClampNeg 0) (-1))))).set 72 (.inr (12, (zF72.set 2 (.int 1))))), h.2)) := by
    refine (r_aloadn f204_0 rfl).trans ?_
    refine (r_get (v := .ref 73) f204_1 g72 rfl).trans ?_
    refine (r_aloadn f204_4 rfl).trans ?_
    refine (r_get (v := .int 0) f204_5 g72 rfl).trans ?_
    refine (r_iloadn f204_8 rfl).trans ?_
    refine (r_iast (h' := ((h.1.set 73 (.inl (0, 150, .inl (upd (fun _ => 0) (Int32.toNatClampNeg 0) x1)))), h.2)) f204_9 g73 (by decide) rfl).trans ?_
    refine (r_aloadn f204_10 rfl).trans ?_
    refine (r_get (v := .ref 75) f204_11 (gs_ne g72 (by decide)) rfl).trans ?_
    refine (r_aloadn f204_14 rfl).trans ?_
    refine (r_get (v := .int 0) f204_15 (gs_ne g72 (by decide)) rfl).trans ?_
    refine (r_iconst (v := (-1)) f204_18 rfl).trans ?_
    refine (r_iast (h' := (((h.1.set 73 (.inl (0, 150, .inl (upd (fun _ => 0) (Int32.toNatClampNeg 0) x1)))).set 75 (.inl (0, 150, .inl (upd (fun _ => 0) (Int32.toNatClampNeg 0) (-1))))), h.2)) f204_19 (gs_ne g75 (by decide)) (by decide) rfl).trans ?_
    refine (r_aloadn f204_20 rfl).trans ?_
    refine (r_get (v := .ref 76) f204_21 (gs_ne (gs_ne g72 (by decide)) (by decide)) rfl).trans ?_
    refine (r_aloadn f204_24 rfl).trans ?_
    refine (r_get (v := .int 0) f204_25 (gs_ne (gs_ne g72 (by decide)) (by decide)) rfl).trans ?_
    refine (r_aloadn f204_28 rfl).trans ?_
    refine (r_get (v := .int 0) f204_29 (gs_ne (gs_ne g72 (by decide)) (by decide)) rfl).trans ?_
    refine (r_iast (h' := ((((h.1.set 73 (.inl (0, 150, .inl (upd (fun _ => 0) (Int32.toNatClampNeg 0) x1)))).set 75 (.inl (0, 150, .inl (upd (fun _ => 0) (Int32.toNatClampNeg 0) (-1))))).set 76 (.inl (0, 150, .inl (upd (fun _ => 0) (Int32.toNatClampNeg 0) 0)))), h.2)) f204_32 (gs_ne (gs_ne g76 (by decide)) (by decide)) (by decide) rfl).trans ?_
    refine (r_aloadn f204_33 rfl).trans ?_
    refine (r_get (v := .ref 77) f204_34 (gs_ne (gs_ne (gs_ne g72 (by decide)) (by decide)) (by decide)) rfl).trans ?_
    refine (r_aloadn f204_37 rfl).trans ?_
    refine (r_get (v := .int 0) f204_38 (gs_ne (gs_ne (gs_ne g72 (by decide)) (by decide)) (by decide)) rfl).trans ?_
    refine (r_iconst (v := (-1)) f204_41 rfl).trans ?_
    refine (r_iast (h' := (((((h.1.set 73 (.inl (0, 150, .inl (upd (fun _ => 0) (Int32.toNatClampNeg 0) x1)))).set 75 (.inl (0, 150, .inl (upd (fun _ => 0) (Int32.toNatClampNeg 0) (-1))))).set 76 (.inl (0, 150, .inl (upd (fun _ => 0) (Int32.toNatClampNeg 0) 0)))).set 77 (.inl (0, 150, .inl (upd (fun _ => 0) (Int32.toNatClampNeg 0) (-1))))), h.2)) f204_42 (gs_ne (gs_ne (gs_ne g77 (by decide)) (by decide)) (by decide)) (by decide) rfl).trans ?_
    refine (r_aloadn f204_43 rfl).trans ?_
    refine (r_dup f204_44 rfl).trans ?_
    refine (r_get (v := .int 0) f204_45 (gs_ne (gs_ne (gs_ne (gs_ne g72 (by decide)) (by decide)) (by decide)) (by decide)) rfl).trans ?_
    refine (r_iconst (v := 1) f204_48 rfl).trans ?_
    refine (r_iadd (v := 1) f204_49 (by decide)).trans ?_
    refine (r_put (h' := ((((((h.1.set 73 (.inl (0, 150, .inl (upd (fun _ => 0) (Int32.toNatClampNeg 0) x1)))).set 75 (.inl (0, 150, .inl (upd (fun _ => 0) (Int32.toNatClampNeg 0) (-1))))).set 76 (.inl (0, 150, .inl (upd (fun _ => 0) (Int32.toNatClampNeg 0) 0)))).set 77 (.inl (0, 150, .inl (upd (fun _ => 0) (Int32.toNatClampNeg 0) (-1))))).set 72 (.inr (12, (zF72.set 2 (.int 1))))), h.2)) f204_50 (gs_ne (gs_ne (gs_ne (gs_ne g72 (by decide)) (by decide)) (by decide)) (by decide)) rfl rfl).trans ?_
    refine (r_aloadn f204_53 rfl).trans ?_
    refine (r_get (v := .int 1) f204_54 (gs_eq (gs_ne (gs_ne (gs_ne (gs_ne g72 (by decide)) (by decide)) (by decide)) (by decide))) rfl).trans ?_
    refine (r_iconst (v := 1) f204_57 rfl).trans ?_
    refine (r_isub (v := 0) f204_58 (by decide)).trans ?_
    exact r_ireturn f204_59 rfl
  refine (r_virt (as := [.int x1]) (v := (some (.int 0))) (h1 := ((((((h.1.set 73 (.inl (0, 150, .inl (upd (fun _ => 0) (Int32.toNatClampNeg 0) x1)))).set 75 (.inl (0, 150, .inl (upd (fun _ => 0) (Int32.toNatClampNeg 0) (-1))))).set 76 (.inl (0, 150, .inl (upd (fun _ => 0) (Int32.toNatClampNeg 0) 0)))).set 77 (.inl (0, 150, .inl (upd (fun _ => 0) (Int32.toNatClampNeg 0) (-1))))).set 72 (.inr (12, (zF72.set 2 (.int 1))))), h.2)) f207_42 g72 zg204 rfl rfl rfl rfl rfl rfl hc5).trans ?_
  refine (r_istoren (L' := [some (.ref 72), some (.int x1), some (.int x2), some (.int 0)]) f207_45 rfl rfl).trans ?_
  refine (r_aloadn f207_46 rfl).trans ?_
  refine (r_get (v := .ref 74) f207_47 (gs_eq (gs_ne (gs_ne (gs_ne (gs_ne g72 (by decide)) (by decide)) (by decide)) (by decide))) rfl).trans ?_
  refine (r_iloadn f207_50 rfl).trans ?_
  refine (r_iloadn f207_51 rfl).trans ?_
  refine (r_iast (h' := (((((((h.1.set 73 (.inl (0, 150, .inl (upd (fun _ => 0) (Int32.toNatClampNeg 0) x1)))).set 75 (.inl (0, 150, .inl (upd (fun _ => 0) (Int32.toNatClampNeg 0) (-1))))).set 76 (.inl (0, 150, .inl (upd (fun _ => 0) (Int32.toNatClampNeg 0) 0)))).set 77 (.inl (0, 150, .inl (upd (fun _ => 0) (Int32.toNatClampNeg 0) (-1))))).set 72 (.inr (12, (zF72.set 2 (.int 1))))).set 74 (.inl (0, 150, .inl (upd (fun _ => 0) (Int32.toNatClampNeg 0) x2)))), h.2)) f207_52 (gs_ne (gs_ne (gs_ne (gs_ne (gs_ne g74 (by decide)) (by decide)) (by decide)) (by decide)) (by decide)) (by decide) rfl).trans ?_
  refine (r_iloadn f207_53 rfl).trans ?_
  exact r_ireturn f207_54 rfl
set_option maxHeartbeats 40000000 in
theorem qm2_7_2 {X : aX} {n d : Nat} {h : aH} {x1 : Int32} {x2 : Int32}  (g72 : h.1[72]? = some (.inr (12, zF72))) (g73 : h.1[73]? = some (.inl (0, 150, .inl (fun _ => 0)))) (g74 : h.1[74]? = some (.inl (0, 150, .inl (fun _ => 0)))) (g75 : h.1[75]? = some (.inl (0, 150, .inl (fun _ => 0)))) (g76 : h.1[76]? = some (.inl (0, 150, .inl (fun _ => 0)))) (g77 : h.1[77]? = some (.inl (0, 150, .inl (fun _ => 0)))) (ec2 : ¬ x2 < 0) (ec3 : ¬ 3 < x2) (em0 : x1 = 1) (em1 : ¬ x1 < 0) (em2 : ¬ 7 < x1) : arun X (n + 55) (d + 3) zM207 0 [some (.ref 72), some (.int x1), some (.int x2), none] [] h = some (some (.int 0), (((((((h.1.set 73 (.inl (0, 150, .inl (upd (fun _ => 0) (Int32.toNatClampNeg 0) x1)))).set 75 (.inl (0, 150, .inl (upd (fun _ => 0) (Int32.toNatClampNeg 0) (-1))))).set 76 (.inl (0, 150, .inl (upd (fun _ => 0) (Int32.toNatClampNeg 0) 0)))).set 77 (.inl (0, 150, .inl (upd (fun _ => 0) (Int32.toNatClampNeg 0) (-1))))).set 72 (.inr (12, (zF72.set 2 (.int 1))))).set 74 (.inl (0, 150, .inl (upd (fun _ => 0) (Int32.toNatClampNeg 0) x2)))), h.2)) := by
  refine (r_iloadn f207_0 rfl).trans ?_
  refine (r_iconst (v := 1) f207_1 rfl).trans ?_
  have hc1 : arun X (n + 52) (d + 2) zM201 0 [some (.int x1), some (.int 1)] [] h = some ((some (.int 1)), h) := by
    refine (r_iloadn f201_0 rfl).trans ?_
    refine (r_if_eq_f f201_1 (by decide)).trans ?_
    refine (r_iloadn f201_4 rfl).trans ?_
    refine (r_iloadn f201_5 rfl).trans ?_
    refine (r_icmp_ne_f f201_6 em0).trans ?_
    refine (r_iconst (v := 1) f201_9 rfl).trans ?_
    exact r_zreturn f201_10 rfl (by decide)
  refine (r_stat (as := [.int x1, .int 1]) (v := (some (.int 1))) (h1 := h) f207_2 rfl zg201 rfl rfl rfl rfl rfl rfl hc1).trans ?_
  refine (r_if_eq_f f207_5 (by decide)).trans ?_
  refine (r_iloadn f207_8 rfl).trans ?_
  refine (r_iconst (v := 0) f207_9 rfl).trans ?_
  refine (r_bipush (v := 7) f207_10 rfl).trans ?_
  have hc2 : arun X (n + 47) (d + 2) zM196 0 [some (.int x1), some (.int 0), some (.int 7)] [] h = some ((some (.int 1)), h) := by
    refine (r_iloadn f196_0 rfl).trans ?_
    refine (r_iloadn f196_1 rfl).trans ?_
    refine (r_icmp_lt_f f196_2 em1).trans ?_
    refine (r_iloadn f196_5 rfl).trans ?_
    refine (r_iloadn f196_6 rfl).trans ?_
    refine (r_icmp_gt_f f196_7 em2).trans ?_
    refine (r_iconst (v := 1) f196_10 rfl).trans ?_
    refine (r_goto f196_11).trans ?_
    exact r_zreturn f196_15 rfl (by decide)
  refine (r_stat (as := [.int x1, .int 0, .int 7]) (v := (some (.int 1))) (h1 := h) f207_12 rfl zg196 rfl rfl rfl rfl rfl rfl hc2).trans ?_
  refine (r_if_eq_f f207_15 (by decide)).trans ?_
  refine (r_iloadn f207_18 rfl).trans ?_
  have hc3 : arun X (n + 44) (d + 2) zM206 0 [some (.int x2)] [] h = some ((some (.int 1)), h) := by
    refine (r_iloadn f206_0 rfl).trans ?_
    refine (r_iconst (v := 0) f206_1 rfl).trans ?_
    refine (r_iconst (v := 3) f206_2 rfl).trans ?_
    have hc4 : arun X (n + 40) (d + 1) zM196 0 [some (.int x2), some (.int 0), some (.int 3)] [] h = some ((some (.int 1)), h) := by
      refine (r_iloadn f196_0 rfl).trans ?_
      refine (r_iloadn f196_1 rfl).trans ?_
      refine (r_icmp_lt_f f196_2 ec2).trans ?_
      refine (r_iloadn f196_5 rfl).trans ?_
      refine (r_iloadn f196_6 rfl).trans ?_
      refine (r_icmp_gt_f f196_7 ec3).trans ?_
      refine (r_iconst (v := 1) f196_10 rfl).trans ?_
      refine (r_goto f196_11).trans ?_
      exact r_zreturn f196_15 rfl (by decide)
    refine (r_stat (as := [.int x2, .int 0, .int 3]) (v := (some (.int 1))) (h1 := h) f206_3 rfl zg196 rfl rfl rfl rfl rfl rfl hc4).trans ?_
    exact r_zreturn f206_6 rfl (by decide)
  refine (r_stat (as := [.int x2]) (v := (some (.int 1))) (h1 := h) f207_19 rfl zg206 rfl rfl rfl rfl rfl rfl hc3).trans ?_
  refine (r_if_ne_t f207_22 (by decide)).trans ?_
  refine (r_aloadn f207_27 rfl).trans ?_
  refine (r_get (v := .int 0) f207_28 g72 rfl).trans ?_
  refine (r_sipush (v := 150) f207_31 rfl).trans ?_
  refine (r_icmp_ne_t f207_34 (by decide)).trans ?_
  refine (r_aloadn f207_40 rfl).trans ?_
  refine (r_iloadn f207_41 rfl).trans ?_
  have hc5 : arun X (n + 36) (d + 2) zM204 0 [some (.ref 72), some (.int x1)] [] h = some ((some (.int 0)), ((((((h.1.set 73 (.inl (0, 150, .inl (upd (fun _ => 0) (Int32.toNatClampNeg 0) x1)))).set 75 (.inl (0, 150, .inl (upd (fun _ => 0) (Int32.toNatClampNeg 0) (-1))))).set 76 (.inl (0, 150, .inl (upd (fun _ => 0) (Int32.toNatClampNeg 0) 0)))).set 77 (.inl (0, 150, .inl (upd (fun _ => 0) (Int32.toNatClampNeg 0) (-1))))).set 72 (.inr (12, (zF72.set 2 (.int 1))))), h.2)) := by
    refine (r_aloadn f204_0 rfl).trans ?_
    refine (r_get (v := .ref 73) f204_1 g72 rfl).trans ?_
    refine (r_aloadn f204_4 rfl).trans ?_
    refine (r_get (v := .int 0) f204_5 g72 rfl).trans ?_
    refine (r_iloadn f204_8 rfl).trans ?_
    refine (r_iast (h' := ((h.1.set 73 (.inl (0, 150, .inl (upd (fun _ => 0) (Int32.toNatClampNeg 0) x1)))), h.2)) f204_9 g73 (by decide) rfl).trans ?_
    refine (r_aloadn f204_10 rfl).trans ?_
    refine (r_get (v := .ref 75) f204_11 (gs_ne g72 (by decide)) rfl).trans ?_
    refine (r_aloadn f204_14 rfl).trans ?_
    refine (r_get (v := .int 0) f204_15 (gs_ne g72 (by decide)) rfl).trans ?_
    refine (r_iconst (v := (-1)) f204_18 rfl).trans ?_
    refine (r_iast (h' := (((h.1.set 73 (.inl (0, 150, .inl (upd (fun _ => 0) (Int32.toNatClampNeg 0) x1)))).set 75 (.inl (0, 150, .inl (upd (fun _ => 0) (Int32.toNatClampNeg 0) (-1))))), h.2)) f204_19 (gs_ne g75 (by decide)) (by decide) rfl).trans ?_
    refine (r_aloadn f204_20 rfl).trans ?_
    refine (r_get (v := .ref 76) f204_21 (gs_ne (gs_ne g72 (by decide)) (by decide)) rfl).trans ?_
    refine (r_aloadn f204_24 rfl).trans ?_
    refine (r_get (v := .int 0) f204_25 (gs_ne (gs_ne g72 (by decide)) (by decide)) rfl).trans ?_
    refine (r_aloadn f204_28 rfl).trans ?_
    refine (r_get (v := .int 0) f204_29 (gs_ne (gs_ne g72 (by decide)) (by decide)) rfl).trans ?_
    refine (r_iast (h' := ((((h.1.set 73 (.inl (0, 150, .inl (upd (fun _ => 0) (Int32.toNatClampNeg 0) x1)))).set 75 (.inl (0, 150, .inl (upd (fun _ => 0) (Int32.toNatClampNeg 0) (-1))))).set 76 (.inl (0, 150, .inl (upd (fun _ => 0) (Int32.toNatClampNeg 0) 0)))), h.2)) f204_32 (gs_ne (gs_ne g76 (by decide)) (by decide)) (by decide) rfl).trans ?_
    refine (r_aloadn f204_33 rfl).trans ?_
    refine (r_get (v := .ref 77) f204_34 (gs_ne (gs_ne (gs_ne g72 (by decide)) (by decide)) (by decide)) rfl).trans ?_
    refine (r_aloadn f204_37 rfl).trans ?_
    refine (r_get (v := .int 0) f204_38 (gs_ne (gs_ne (gs_ne g72 (by decide)) (by decide)) (by decide)) rfl).trans ?_
    refine (r_iconst (v := (-1)) f204_41 rfl).trans ?_
    refine (r_iast (h' := (((((h.1.set 73 (.inl (0, 150, .inl (upd (fun _ => 0) (Int32.toNatClampNeg 0) x1)))).set 75 (.inl (0, 150, .inl (upd (fun _ => 0) (Int32.toNatClampNeg 0) (-1))))).set 76 (.inl (0, 150, .inl (upd (fun _ => 0) (Int32.toNatClampNeg 0) 0)))).set 77 (.inl (0, 150, .inl (upd (fun _ => 0) (Int32.toNatClampNeg 0) (-1))))), h.2)) f204_42 (gs_ne (gs_ne (gs_ne g77 (by decide)) (by decide)) (by decide)) (by decide) rfl).trans ?_
    refine (r_aloadn f204_43 rfl).trans ?_
    refine (r_dup f204_44 rfl).trans ?_
    refine (r_get (v := .int 0) f204_45 (gs_ne (gs_ne (gs_ne (gs_ne g72 (by decide)) (by decide)) (by decide)) (by decide)) rfl).trans ?_
    refine (r_iconst (v := 1) f204_48 rfl).trans ?_
    refine (r_iadd (v := 1) f204_49 (by decide)).trans ?_
    refine (r_put (h' := ((((((h.1.set 73 (.inl (0, 150, .inl (upd (fun _ => 0) (Int32.toNatClampNeg 0) x1)))).set 75 (.inl (0, 150, .inl (upd (fun _ => 0) (Int32.toNatClampNeg 0) (-1))))).set 76 (.inl (0, 150, .inl (upd (fun _ => 0) (Int32.toNatClampNeg 0) 0)))).set 77 (.inl (0, 150, .inl (upd (fun _ => 0) (Int32.toNatClampNeg 0) (-1))))).set 72 (.inr (12, (zF72.set 2 (.int 1))))), h.2)) f204_50 (gs_ne (gs_ne (gs_ne (gs_ne g72 (by decide)) (by decide)) (by decide)) (by decide)) rfl rfl).trans ?_
    refine (r_aloadn f204_53 rfl).trans ?_
    refine (r_get (v := .int 1) f204_54 (gs_eq (gs_ne (gs_ne (gs_ne (gs_ne g72 (by decide)) (by decide)) (by decide)) (by decide))) rfl).trans ?_
    refine (r_iconst (v := 1) f204_57 rfl).trans ?_
    refine (r_isub (v := 0) f204_58 (by decide)).trans ?_
    exact r_ireturn f204_59 rfl
  refine (r_virt (as := [.int x1]) (v := (some (.int 0))) (h1 := ((((((h.1.set 73 (.inl (0, 150, .inl (upd (fun _ => 0) (Int32.toNatClampNeg 0) x1)))).set 75 (.inl (0, 150, .inl (upd (fun _ => 0) (Int32.toNatClampNeg 0) (-1))))).set 76 (.inl (0, 150, .inl (upd (fun _ => 0) (Int32.toNatClampNeg 0) 0)))).set 77 (.inl (0, 150, .inl (upd (fun _ => 0) (Int32.toNatClampNeg 0) (-1))))).set 72 (.inr (12, (zF72.set 2 (.int 1))))), h.2)) f207_42 g72 zg204 rfl rfl rfl rfl rfl rfl hc5).trans ?_
  refine (r_istoren (L' := [some (.ref 72), some (.int x1), some (.int x2), some (.int 0)]) f207_45 rfl rfl).trans ?_
  refine (r_aloadn f207_46 rfl).trans ?_
  refine (r_get (v := .ref 74) f207_47 (gs_eq (gs_ne (gs_ne (gs_ne (gs_ne g72 (by decide)) (by decide)) (by decide)) (by decide))) rfl).trans ?_
  refine (r_iloadn f207_50 rfl).trans ?_
  refine (r_iloadn f207_51 rfl).trans ?_
  refine (r_iast (h' := (((((((h.1.set 73 (.inl (0, 150, .inl (upd (fun _ => 0) (Int32.toNatClampNeg 0) x1)))).set 75 (.inl (0, 150, .inl (upd (fun _ => 0) (Int32.toNatClampNeg 0) (-1))))).set 76 (.inl (0, 150, .inl (upd (fun _ => 0) (Int32.toNatClampNeg 0) 0)))).set 77 (.inl (0, 150, .inl (upd (fun _ => 0) (Int32.toNatClampNeg 0) (-1))))).set 72 (.inr (12, (zF72.set 2 (.int 1))))).set 74 (.inl (0, 150, .inl (upd (fun _ => 0) (Int32.toNatClampNeg 0) x2)))), h.2)) f207_52 (gs_ne (gs_ne (gs_ne (gs_ne (gs_ne g74 (by decide)) (by decide)) (by decide)) (by decide)) (by decide)) (by decide) rfl).trans ?_
  refine (r_iloadn f207_53 rfl).trans ?_
  exact r_ireturn f207_54 rfl
set_option maxHeartbeats 40000000 in
theorem qc3_0 {X : aX} {n d : Nat} {h : aH} {x1 : Int32} {x2 : Int32}  (ec0 : x1 < 0) : arun X (n + 9) (d + 2) zM147 0 [some (.ref 0), some (.int x1), some (.int x2)] [] h = some (some (.int (-1)), h) := by
  refine (r_iloadn f147_0 rfl).trans ?_
  refine (r_iconst (v := 0) f147_1 rfl).trans ?_
  refine (r_bipush (v := 24) f147_2 rfl).trans ?_
  have hc1 : arun X (n + 5) (d + 1) zM137 0 [some (.int x1), some (.int 0), some (.int 24)] [] h = some ((some (.int 0)), h) := by
    refine (r_iloadn f137_0 rfl).trans ?_
    refine (r_iloadn f137_1 rfl).trans ?_
    refine (r_icmp_gt_t f137_2 ec0).trans ?_
    refine (r_iconst (v := 0) f137_14 rfl).trans ?_
    exact r_zreturn f137_15 rfl (by decide)
  refine (r_stat (as := [.int x1, .int 0, .int 24]) (v := (some (.int 0))) (h1 := h) f147_4 rfl zg137 rfl rfl rfl rfl rfl rfl hc1).trans ?_
  refine (r_if_eq_t f147_7 (by decide)).trans ?_
  refine (r_iconst (v := (-1)) f147_20 rfl).trans ?_
  exact r_ireturn f147_21 rfl
set_option maxHeartbeats 40000000 in
theorem qm3_0_0 {X : aX} {n d : Nat} {h : aH} {x1 : Int32} {x2 : Int32}  (ec0 : x1 < 0) : arun X (n + 9) (d + 2) zM209 0 [some (.ref 72), some (.int x1), some (.int x2)] [] h = some (some (.int (-1)), h) := by
  refine (r_iloadn f209_0 rfl).trans ?_
  refine (r_iconst (v := 0) f209_1 rfl).trans ?_
  refine (r_bipush (v := 24) f209_2 rfl).trans ?_
  have hc1 : arun X (n + 5) (d + 1) zM196 0 [some (.int x1), some (.int 0), some (.int 24)] [] h = some ((some (.int 0)), h) := by
    refine (r_iloadn f196_0 rfl).trans ?_
    refine (r_iloadn f196_1 rfl).trans ?_
    refine (r_icmp_lt_t f196_2 ec0).trans ?_
    refine (r_iconst (v := 0) f196_14 rfl).trans ?_
    exact r_zreturn f196_15 rfl (by decide)
  refine (r_stat (as := [.int x1, .int 0, .int 24]) (v := (some (.int 0))) (h1 := h) f209_4 rfl zg196 rfl rfl rfl rfl rfl rfl hc1).trans ?_
  refine (r_if_eq_t f209_7 (by decide)).trans ?_
  refine (r_iconst (v := (-1)) f209_20 rfl).trans ?_
  exact r_ireturn f209_21 rfl
set_option maxHeartbeats 40000000 in
theorem qc3_1 {X : aX} {n d : Nat} {h : aH} {x1 : Int32} {x2 : Int32}  (ec0 : ¬ x1 < 0) (ec1 : 24 < x1) : arun X (n + 12) (d + 2) zM147 0 [some (.ref 0), some (.int x1), some (.int x2)] [] h = some (some (.int (-1)), h) := by
  refine (r_iloadn f147_0 rfl).trans ?_
  refine (r_iconst (v := 0) f147_1 rfl).trans ?_
  refine (r_bipush (v := 24) f147_2 rfl).trans ?_
  have hc1 : arun X (n + 8) (d + 1) zM137 0 [some (.int x1), some (.int 0), some (.int 24)] [] h = some ((some (.int 0)), h) := by
    refine (r_iloadn f137_0 rfl).trans ?_
    refine (r_iloadn f137_1 rfl).trans ?_
    refine (r_icmp_gt_f f137_2 ec0).trans ?_
    refine (r_iloadn f137_5 rfl).trans ?_
    refine (r_iloadn f137_6 rfl).trans ?_
    refine (r_icmp_gt_t f137_7 ec1).trans ?_
    refine (r_iconst (v := 0) f137_14 rfl).trans ?_
    exact r_zreturn f137_15 rfl (by decide)
  refine (r_stat (as := [.int x1, .int 0, .int 24]) (v := (some (.int 0))) (h1 := h) f147_4 rfl zg137 rfl rfl rfl rfl rfl rfl hc1).trans ?_
  refine (r_if_eq_t f147_7 (by decide)).trans ?_
  refine (r_iconst (v := (-1)) f147_20 rfl).trans ?_
  exact r_ireturn f147_21 rfl
set_option maxHeartbeats 40000000 in
theorem qm3_1_0 {X : aX} {n d : Nat} {h : aH} {x1 : Int32} {x2 : Int32}  (ec0 : ¬ x1 < 0) (ec1 : 24 < x1) : arun X (n + 12) (d + 2) zM209 0 [some (.ref 72), some (.int x1), some (.int x2)] [] h = some (some (.int (-1)), h) := by
  refine (r_iloadn f209_0 rfl).trans ?_
  refine (r_iconst (v := 0) f209_1 rfl).trans ?_
  refine (r_bipush (v := 24) f209_2 rfl).trans ?_
  have hc1 : arun X (n + 8) (d + 1) zM196 0 [some (.int x1), some (.int 0), some (.int 24)] [] h = some ((some (.int 0)), h) := by
    refine (r_iloadn f196_0 rfl).trans ?_
    refine (r_iloadn f196_1 rfl).trans ?_
    refine (r_icmp_lt_f f196_2 ec0).trans ?_
    refine (r_iloadn f196_5 rfl).trans ?_
    refine (r_iloadn f196_6 rfl).trans ?_
    refine (r_icmp_gt_t f196_7 ec1).trans ?_
    refine (r_iconst (v := 0) f196_14 rfl).trans ?_
    exact r_zreturn f196_15 rfl (by decide)
  refine (r_stat (as := [.int x1, .int 0, .int 24]) (v := (some (.int 0))) (h1 := h) f209_4 rfl zg196 rfl rfl rfl rfl rfl rfl hc1).trans ?_
  refine (r_if_eq_t f209_7 (by decide)).trans ?_
  refine (r_iconst (v := (-1)) f209_20 rfl).trans ?_
  exact r_ireturn f209_21 rfl
set_option maxHeartbeats 40000000 in
theorem qc3_2 {X : aX} {n d : Nat} {h : aH} {x1 : Int32} {x2 : Int32}  (ec0 : ¬ x1 < 0) (ec1 : ¬ 24 < x1) (ec2 : x2 < 0) : arun X (n + 14) (d + 2) zM147 0 [some (.ref 0), some (.int x1), some (.int x2)] [] h = some (some (.int (-1)), h) := by
  refine (r_iloadn f147_0 rfl).trans ?_
  refine (r_iconst (v := 0) f147_1 rfl).trans ?_
  refine (r_bipush (v := 24) f147_2 rfl).trans ?_
  have hc1 : arun X (n + 10) (d + 1) zM137 0 [some (.int x1), some (.int 0), some (.int 24)] [] h = some ((some (.int 1)), h) := by
    refine (r_iloadn f137_0 rfl).trans ?_
    refine (r_iloadn f137_1 rfl).trans ?_
    refine (r_icmp_gt_f f137_2 ec0).trans ?_
    refine (r_iloadn f137_5 rfl).trans ?_
    refine (r_iloadn f137_6 rfl).trans ?_
    refine (r_icmp_gt_f f137_7 ec1).trans ?_
    refine (r_iconst (v := 1) f137_10 rfl).trans ?_
    refine (r_goto f137_11).trans ?_
    exact r_zreturn f137_15 rfl (by decide)
  refine (r_stat (as := [.int x1, .int 0, .int 24]) (v := (some (.int 1))) (h1 := h) f147_4 rfl zg137 rfl rfl rfl rfl rfl rfl hc1).trans ?_
  refine (r_if_eq_f f147_7 (by decide)).trans ?_
  refine (r_iloadn f147_10 rfl).trans ?_
  refine (r_iconst (v := 0) f147_11 rfl).trans ?_
  refine (r_bipush (v := 24) f147_12 rfl).trans ?_
  have hc2 : arun X (n + 5) (d + 1) zM137 0 [some (.int x2), some (.int 0), some (.int 24)] [] h = some ((some (.int 0)), h) := by
    refine (r_iloadn f137_0 rfl).trans ?_
    refine (r_iloadn f137_1 rfl).trans ?_
    refine (r_icmp_gt_t f137_2 ec2).trans ?_
    refine (r_iconst (v := 0) f137_14 rfl).trans ?_
    exact r_zreturn f137_15 rfl (by decide)
  refine (r_stat (as := [.int x2, .int 0, .int 24]) (v := (some (.int 0))) (h1 := h) f147_14 rfl zg137 rfl rfl rfl rfl rfl rfl hc2).trans ?_
  refine (r_if_ne_f f147_17 (by decide)).trans ?_
  refine (r_iconst (v := (-1)) f147_20 rfl).trans ?_
  exact r_ireturn f147_21 rfl
set_option maxHeartbeats 40000000 in
theorem qm3_2_0 {X : aX} {n d : Nat} {h : aH} {x1 : Int32} {x2 : Int32}  (ec0 : ¬ x1 < 0) (ec1 : ¬ 24 < x1) (ec2 : x2 < 0) : arun X (n + 14) (d + 2) zM209 0 [some (.ref 72), some (.int x1), some (.int x2)] [] h = some (some (.int (-1)), h) := by
  refine (r_iloadn f209_0 rfl).trans ?_
  refine (r_iconst (v := 0) f209_1 rfl).trans ?_
  refine (r_bipush (v := 24) f209_2 rfl).trans ?_
  have hc1 : arun X (n + 10) (d + 1) zM196 0 [some (.int x1), some (.int 0), some (.int 24)] [] h = some ((some (.int 1)), h) := by
    refine (r_iloadn f196_0 rfl).trans ?_
    refine (r_iloadn f196_1 rfl).trans ?_
    refine (r_icmp_lt_f f196_2 ec0).trans ?_
    refine (r_iloadn f196_5 rfl).trans ?_
    refine (r_iloadn f196_6 rfl).trans ?_
    refine (r_icmp_gt_f f196_7 ec1).trans ?_
    refine (r_iconst (v := 1) f196_10 rfl).trans ?_
    refine (r_goto f196_11).trans ?_
    exact r_zreturn f196_15 rfl (by decide)
  refine (r_stat (as := [.int x1, .int 0, .int 24]) (v := (some (.int 1))) (h1 := h) f209_4 rfl zg196 rfl rfl rfl rfl rfl rfl hc1).trans ?_
  refine (r_if_eq_f f209_7 (by decide)).trans ?_
  refine (r_iloadn f209_10 rfl).trans ?_
  refine (r_iconst (v := 0) f209_11 rfl).trans ?_
  refine (r_bipush (v := 24) f209_12 rfl).trans ?_
  have hc2 : arun X (n + 5) (d + 1) zM196 0 [some (.int x2), some (.int 0), some (.int 24)] [] h = some ((some (.int 0)), h) := by
    refine (r_iloadn f196_0 rfl).trans ?_
    refine (r_iloadn f196_1 rfl).trans ?_
    refine (r_icmp_lt_t f196_2 ec2).trans ?_
    refine (r_iconst (v := 0) f196_14 rfl).trans ?_
    exact r_zreturn f196_15 rfl (by decide)
  refine (r_stat (as := [.int x2, .int 0, .int 24]) (v := (some (.int 0))) (h1 := h) f209_14 rfl zg196 rfl rfl rfl rfl rfl rfl hc2).trans ?_
  refine (r_if_ne_f f209_17 (by decide)).trans ?_
  refine (r_iconst (v := (-1)) f209_20 rfl).trans ?_
  exact r_ireturn f209_21 rfl
set_option maxHeartbeats 40000000 in
theorem qc3_3 {X : aX} {n d : Nat} {h : aH} {x1 : Int32} {x2 : Int32}  (ec0 : ¬ x1 < 0) (ec1 : ¬ 24 < x1) (ec2 : ¬ x2 < 0) (ec3 : 24 < x2) : arun X (n + 17) (d + 2) zM147 0 [some (.ref 0), some (.int x1), some (.int x2)] [] h = some (some (.int (-1)), h) := by
  refine (r_iloadn f147_0 rfl).trans ?_
  refine (r_iconst (v := 0) f147_1 rfl).trans ?_
  refine (r_bipush (v := 24) f147_2 rfl).trans ?_
  have hc1 : arun X (n + 13) (d + 1) zM137 0 [some (.int x1), some (.int 0), some (.int 24)] [] h = some ((some (.int 1)), h) := by
    refine (r_iloadn f137_0 rfl).trans ?_
    refine (r_iloadn f137_1 rfl).trans ?_
    refine (r_icmp_gt_f f137_2 ec0).trans ?_
    refine (r_iloadn f137_5 rfl).trans ?_
    refine (r_iloadn f137_6 rfl).trans ?_
    refine (r_icmp_gt_f f137_7 ec1).trans ?_
    refine (r_iconst (v := 1) f137_10 rfl).trans ?_
    refine (r_goto f137_11).trans ?_
    exact r_zreturn f137_15 rfl (by decide)
  refine (r_stat (as := [.int x1, .int 0, .int 24]) (v := (some (.int 1))) (h1 := h) f147_4 rfl zg137 rfl rfl rfl rfl rfl rfl hc1).trans ?_
  refine (r_if_eq_f f147_7 (by decide)).trans ?_
  refine (r_iloadn f147_10 rfl).trans ?_
  refine (r_iconst (v := 0) f147_11 rfl).trans ?_
  refine (r_bipush (v := 24) f147_12 rfl).trans ?_
  have hc2 : arun X (n + 8) (d + 1) zM137 0 [some (.int x2), some (.int 0), some (.int 24)] [] h = some ((some (.int 0)), h) := by
    refine (r_iloadn f137_0 rfl).trans ?_
    refine (r_iloadn f137_1 rfl).trans ?_
    refine (r_icmp_gt_f f137_2 ec2).trans ?_
    refine (r_iloadn f137_5 rfl).trans ?_
    refine (r_iloadn f137_6 rfl).trans ?_
    refine (r_icmp_gt_t f137_7 ec3).trans ?_
    refine (r_iconst (v := 0) f137_14 rfl).trans ?_
    exact r_zreturn f137_15 rfl (by decide)
  refine (r_stat (as := [.int x2, .int 0, .int 24]) (v := (some (.int 0))) (h1 := h) f147_14 rfl zg137 rfl rfl rfl rfl rfl rfl hc2).trans ?_
  refine (r_if_ne_f f147_17 (by decide)).trans ?_
  refine (r_iconst (v := (-1)) f147_20 rfl).trans ?_
  exact r_ireturn f147_21 rfl
set_option maxHeartbeats 40000000 in
theorem qm3_3_0 {X : aX} {n d : Nat} {h : aH} {x1 : Int32} {x2 : Int32}  (ec0 : ¬ x1 < 0) (ec1 : ¬ 24 < x1) (ec2 : ¬ x2 < 0) (ec3 : 24 < x2) : arun X (n + 17) (d + 2) zM209 0 [some (.ref 72), some (.int x1), some (.int x2)] [] h = some (some (.int (-1)), h) := by
  refine (r_iloadn f209_0 rfl).trans ?_
  refine (r_iconst (v := 0) f209_1 rfl).trans ?_
  refine (r_bipush (v := 24) f209_2 rfl).trans ?_
  have hc1 : arun X (n + 13) (d + 1) zM196 0 [some (.int x1), some (.int 0), some (.int 24)] [] h = some ((some (.int 1)), h) := by
    refine (r_iloadn f196_0 rfl).trans ?_
    refine (r_iloadn f196_1 rfl).trans ?_
    refine (r_icmp_lt_f f196_2 ec0).trans ?_
    refine (r_iloadn f196_5 rfl).trans ?_
    refine (r_iloadn f196_6 rfl).trans ?_
    refine (r_icmp_gt_f f196_7 ec1).trans ?_
    refine (r_iconst (v := 1) f196_10 rfl).trans ?_
    refine (r_goto f196_11).trans ?_
    exact r_zreturn f196_15 rfl (by decide)
  refine (r_stat (as := [.int x1, .int 0, .int 24]) (v := (some (.int 1))) (h1 := h) f209_4 rfl zg196 rfl rfl rfl rfl rfl rfl hc1).trans ?_
  refine (r_if_eq_f f209_7 (by decide)).trans ?_
  refine (r_iloadn f209_10 rfl).trans ?_
  refine (r_iconst (v := 0) f209_11 rfl).trans ?_
  refine (r_bipush (v := 24) f209_12 rfl).trans ?_
  have hc2 : arun X (n + 8) (d + 1) zM196 0 [some (.int x2), some (.int 0), some (.int 24)] [] h = some ((some (.int 0)), h) := by
    refine (r_iloadn f196_0 rfl).trans ?_
    refine (r_iloadn f196_1 rfl).trans ?_
    refine (r_icmp_lt_f f196_2 ec2).trans ?_
    refine (r_iloadn f196_5 rfl).trans ?_
    refine (r_iloadn f196_6 rfl).trans ?_
    refine (r_icmp_gt_t f196_7 ec3).trans ?_
    refine (r_iconst (v := 0) f196_14 rfl).trans ?_
    exact r_zreturn f196_15 rfl (by decide)
  refine (r_stat (as := [.int x2, .int 0, .int 24]) (v := (some (.int 0))) (h1 := h) f209_14 rfl zg196 rfl rfl rfl rfl rfl rfl hc2).trans ?_
  refine (r_if_ne_f f209_17 (by decide)).trans ?_
  refine (r_iconst (v := (-1)) f209_20 rfl).trans ?_
  exact r_ireturn f209_21 rfl
set_option maxHeartbeats 40000000 in
theorem qc3_4 {X : aX} {n d : Nat} {h : aH} {x1 : Int32} {x2 : Int32}  (g0 : h.1[0]? = some (.inr (11, zF0))) (g13 : h.1[13]? = some (.inr (7, zF13))) (g14 : h.1[14]? = some (.inl (0, 12, .inl (fun _ => 0)))) (g15 : h.1[15]? = some (.inl (0, 12, .inl (fun _ => 0)))) (ec0 : ¬ x1 < 0) (ec1 : ¬ 24 < x1) (ec2 : ¬ x2 < 0) (ec3 : ¬ 24 < x2) : arun X (n + 45) (d + 2) zM147 0 [some (.ref 0), some (.int x1), some (.int x2)] [] h = some (some (.int 1), ((((h.1.set 14 (.inl (0, 12, .inl (upd (fun _ => 0) (Int32.toNatClampNeg 0) x1)))).set 15 (.inl (0, 12, .inl (upd (fun _ => 0) (Int32.toNatClampNeg 0) x2)))).set 13 (.inr (7, [.ref 14, .ref 15, .int 1]))), h.2)) := by
  refine (r_iloadn f147_0 rfl).trans ?_
  refine (r_iconst (v := 0) f147_1 rfl).trans ?_
  refine (r_bipush (v := 24) f147_2 rfl).trans ?_
  have hc1 : arun X (n + 41) (d + 1) zM137 0 [some (.int x1), some (.int 0), some (.int 24)] [] h = some ((some (.int 1)), h) := by
    refine (r_iloadn f137_0 rfl).trans ?_
    refine (r_iloadn f137_1 rfl).trans ?_
    refine (r_icmp_gt_f f137_2 ec0).trans ?_
    refine (r_iloadn f137_5 rfl).trans ?_
    refine (r_iloadn f137_6 rfl).trans ?_
    refine (r_icmp_gt_f f137_7 ec1).trans ?_
    refine (r_iconst (v := 1) f137_10 rfl).trans ?_
    refine (r_goto f137_11).trans ?_
    exact r_zreturn f137_15 rfl (by decide)
  refine (r_stat (as := [.int x1, .int 0, .int 24]) (v := (some (.int 1))) (h1 := h) f147_4 rfl zg137 rfl rfl rfl rfl rfl rfl hc1).trans ?_
  refine (r_if_eq_f f147_7 (by decide)).trans ?_
  refine (r_iloadn f147_10 rfl).trans ?_
  refine (r_iconst (v := 0) f147_11 rfl).trans ?_
  refine (r_bipush (v := 24) f147_12 rfl).trans ?_
  have hc2 : arun X (n + 36) (d + 1) zM137 0 [some (.int x2), some (.int 0), some (.int 24)] [] h = some ((some (.int 1)), h) := by
    refine (r_iloadn f137_0 rfl).trans ?_
    refine (r_iloadn f137_1 rfl).trans ?_
    refine (r_icmp_gt_f f137_2 ec2).trans ?_
    refine (r_iloadn f137_5 rfl).trans ?_
    refine (r_iloadn f137_6 rfl).trans ?_
    refine (r_icmp_gt_f f137_7 ec3).trans ?_
    refine (r_iconst (v := 1) f137_10 rfl).trans ?_
    refine (r_goto f137_11).trans ?_
    exact r_zreturn f137_15 rfl (by decide)
  refine (r_stat (as := [.int x2, .int 0, .int 24]) (v := (some (.int 1))) (h1 := h) f147_14 rfl zg137 rfl rfl rfl rfl rfl rfl hc2).trans ?_
  refine (r_if_ne_t f147_17 (by decide)).trans ?_
  refine (r_aloadn f147_22 rfl).trans ?_
  refine (r_get (v := .ref 13) f147_23 g0 rfl).trans ?_
  refine (r_get (v := .int 0) f147_26 g13 rfl).trans ?_
  refine (r_bipush (v := 12) f147_29 rfl).trans ?_
  refine (r_icmp_lt_t f147_31 (by decide)).trans ?_
  refine (r_aloadn f147_39 rfl).trans ?_
  refine (r_get (v := .ref 13) f147_40 g0 rfl).trans ?_
  refine (r_iloadn f147_43 rfl).trans ?_
  refine (r_iloadn f147_44 rfl).trans ?_
  have hc3 : arun X (n + 25) (d + 1) zM88 0 [some (.ref 13), some (.int x1), some (.int x2)] [] h = some ((some (.int 1)), ((((h.1.set 14 (.inl (0, 12, .inl (upd (fun _ => 0) (Int32.toNatClampNeg 0) x1)))).set 15 (.inl (0, 12, .inl (upd (fun _ => 0) (Int32.toNatClampNeg 0) x2)))).set 13 (.inr (7, [.ref 14, .ref 15, .int 1]))), h.2)) := by
    refine (r_aloadn f88_0 rfl).trans ?_
    refine (r_get (v := .int 0) f88_1 g13 rfl).trans ?_
    refine (r_bipush (v := 12) f88_4 rfl).trans ?_
    refine (r_icmp_ge_f f88_6 (by decide)).trans ?_
    refine (r_aloadn f88_9 rfl).trans ?_
    refine (r_get (v := .ref 14) f88_10 g13 rfl).trans ?_
    refine (r_aloadn f88_13 rfl).trans ?_
    refine (r_get (v := .int 0) f88_14 g13 rfl).trans ?_
    refine (r_iloadn f88_17 rfl).trans ?_
    refine (r_iast (h' := ((h.1.set 14 (.inl (0, 12, .inl (upd (fun _ => 0) (Int32.toNatClampNeg 0) x1)))), h.2)) f88_18 g14 (by decide) rfl).trans ?_
    refine (r_aloadn f88_19 rfl).trans ?_
    refine (r_get (v := .ref 15) f88_20 (gs_ne g13 (by decide)) rfl).trans ?_
    refine (r_aloadn f88_23 rfl).trans ?_
    refine (r_get (v := .int 0) f88_24 (gs_ne g13 (by decide)) rfl).trans ?_
    refine (r_iloadn f88_27 rfl).trans ?_
    refine (r_iast (h' := (((h.1.set 14 (.inl (0, 12, .inl (upd (fun _ => 0) (Int32.toNatClampNeg 0) x1)))).set 15 (.inl (0, 12, .inl (upd (fun _ => 0) (Int32.toNatClampNeg 0) x2)))), h.2)) f88_28 (gs_ne g15 (by decide)) (by decide) rfl).trans ?_
    refine (r_aloadn f88_29 rfl).trans ?_
    refine (r_dup f88_30 rfl).trans ?_
    refine (r_get (v := .int 0) f88_31 (gs_ne (gs_ne g13 (by decide)) (by decide)) rfl).trans ?_
    refine (r_iconst (v := 1) f88_34 rfl).trans ?_
    refine (r_iadd (v := 1) f88_35 (by decide)).trans ?_
    refine (r_put (h' := ((((h.1.set 14 (.inl (0, 12, .inl (upd (fun _ => 0) (Int32.toNatClampNeg 0) x1)))).set 15 (.inl (0, 12, .inl (upd (fun _ => 0) (Int32.toNatClampNeg 0) x2)))).set 13 (.inr (7, [.ref 14, .ref 15, .int 1]))), h.2)) f88_36 (gs_ne (gs_ne g13 (by decide)) (by decide)) rfl rfl).trans ?_
    refine (r_aloadn f88_39 rfl).trans ?_
    refine (r_get (v := .int 1) f88_40 (gs_eq (gs_ne (gs_ne g13 (by decide)) (by decide))) rfl).trans ?_
    exact r_ireturn f88_43 rfl
  refine (r_virt (as := [.int x1, .int x2]) (v := (some (.int 1))) (h1 := ((((h.1.set 14 (.inl (0, 12, .inl (upd (fun _ => 0) (Int32.toNatClampNeg 0) x1)))).set 15 (.inl (0, 12, .inl (upd (fun _ => 0) (Int32.toNatClampNeg 0) x2)))).set 13 (.inr (7, [.ref 14, .ref 15, .int 1]))), h.2)) f147_45 g13 zg88 rfl rfl rfl rfl rfl rfl hc3).trans ?_
  exact r_ireturn f147_48 rfl
set_option maxHeartbeats 40000000 in
theorem qm3_4_0 {X : aX} {n d : Nat} {h : aH} {x1 : Int32} {x2 : Int32}  (g72 : h.1[72]? = some (.inr (12, zF72))) (g81 : h.1[81]? = some (.inl (0, 12, .inl (fun _ => 0)))) (g82 : h.1[82]? = some (.inl (0, 12, .inl (fun _ => 0)))) (ec0 : ¬ x1 < 0) (ec1 : ¬ 24 < x1) (ec2 : ¬ x2 < 0) (ec3 : ¬ 24 < x2) : arun X (n + 35) (d + 2) zM209 0 [some (.ref 72), some (.int x1), some (.int x2)] [] h = some (some (.int 1), ((((h.1.set 81 (.inl (0, 12, .inl (upd (fun _ => 0) (Int32.toNatClampNeg 0) x1)))).set 82 (.inl (0, 12, .inl (upd (fun _ => 0) (Int32.toNatClampNeg 0) x2)))).set 72 (.inr (12, (zF72.set 11 (.int 1))))), h.2)) := by
  refine (r_iloadn f209_0 rfl).trans ?_
  refine (r_iconst (v := 0) f209_1 rfl).trans ?_
  refine (r_bipush (v := 24) f209_2 rfl).trans ?_
  have hc1 : arun X (n + 31) (d + 1) zM196 0 [some (.int x1), some (.int 0), some (.int 24)] [] h = some ((some (.int 1)), h) := by
    refine (r_iloadn f196_0 rfl).trans ?_
    refine (r_iloadn f196_1 rfl).trans ?_
    refine (r_icmp_lt_f f196_2 ec0).trans ?_
    refine (r_iloadn f196_5 rfl).trans ?_
    refine (r_iloadn f196_6 rfl).trans ?_
    refine (r_icmp_gt_f f196_7 ec1).trans ?_
    refine (r_iconst (v := 1) f196_10 rfl).trans ?_
    refine (r_goto f196_11).trans ?_
    exact r_zreturn f196_15 rfl (by decide)
  refine (r_stat (as := [.int x1, .int 0, .int 24]) (v := (some (.int 1))) (h1 := h) f209_4 rfl zg196 rfl rfl rfl rfl rfl rfl hc1).trans ?_
  refine (r_if_eq_f f209_7 (by decide)).trans ?_
  refine (r_iloadn f209_10 rfl).trans ?_
  refine (r_iconst (v := 0) f209_11 rfl).trans ?_
  refine (r_bipush (v := 24) f209_12 rfl).trans ?_
  have hc2 : arun X (n + 26) (d + 1) zM196 0 [some (.int x2), some (.int 0), some (.int 24)] [] h = some ((some (.int 1)), h) := by
    refine (r_iloadn f196_0 rfl).trans ?_
    refine (r_iloadn f196_1 rfl).trans ?_
    refine (r_icmp_lt_f f196_2 ec2).trans ?_
    refine (r_iloadn f196_5 rfl).trans ?_
    refine (r_iloadn f196_6 rfl).trans ?_
    refine (r_icmp_gt_f f196_7 ec3).trans ?_
    refine (r_iconst (v := 1) f196_10 rfl).trans ?_
    refine (r_goto f196_11).trans ?_
    exact r_zreturn f196_15 rfl (by decide)
  refine (r_stat (as := [.int x2, .int 0, .int 24]) (v := (some (.int 1))) (h1 := h) f209_14 rfl zg196 rfl rfl rfl rfl rfl rfl hc2).trans ?_
  refine (r_if_ne_t f209_17 (by decide)).trans ?_
  refine (r_aloadn f209_22 rfl).trans ?_
  refine (r_get (v := .int 0) f209_23 g72 rfl).trans ?_
  refine (r_bipush (v := 12) f209_26 rfl).trans ?_
  refine (r_icmp_ne_t f209_28 (by decide)).trans ?_
  refine (r_aloadn f209_34 rfl).trans ?_
  refine (r_get (v := .ref 81) f209_35 g72 rfl).trans ?_
  refine (r_aloadn f209_38 rfl).trans ?_
  refine (r_get (v := .int 0) f209_39 g72 rfl).trans ?_
  refine (r_iloadn f209_42 rfl).trans ?_
  refine (r_iast (h' := ((h.1.set 81 (.inl (0, 12, .inl (upd (fun _ => 0) (Int32.toNatClampNeg 0) x1)))), h.2)) f209_43 g81 (by decide) rfl).trans ?_
  refine (r_aloadn f209_44 rfl).trans ?_
  refine (r_get (v := .ref 82) f209_45 (gs_ne g72 (by decide)) rfl).trans ?_
  refine (r_aloadn f209_48 rfl).trans ?_
  refine (r_get (v := .int 0) f209_49 (gs_ne g72 (by decide)) rfl).trans ?_
  refine (r_iloadn f209_52 rfl).trans ?_
  refine (r_iast (h' := (((h.1.set 81 (.inl (0, 12, .inl (upd (fun _ => 0) (Int32.toNatClampNeg 0) x1)))).set 82 (.inl (0, 12, .inl (upd (fun _ => 0) (Int32.toNatClampNeg 0) x2)))), h.2)) f209_53 (gs_ne g82 (by decide)) (by decide) rfl).trans ?_
  refine (r_aloadn f209_54 rfl).trans ?_
  refine (r_dup f209_55 rfl).trans ?_
  refine (r_get (v := .int 0) f209_56 (gs_ne (gs_ne g72 (by decide)) (by decide)) rfl).trans ?_
  refine (r_iconst (v := 1) f209_59 rfl).trans ?_
  refine (r_iadd (v := 1) f209_60 (by decide)).trans ?_
  refine (r_put (h' := ((((h.1.set 81 (.inl (0, 12, .inl (upd (fun _ => 0) (Int32.toNatClampNeg 0) x1)))).set 82 (.inl (0, 12, .inl (upd (fun _ => 0) (Int32.toNatClampNeg 0) x2)))).set 72 (.inr (12, (zF72.set 11 (.int 1))))), h.2)) f209_61 (gs_ne (gs_ne g72 (by decide)) (by decide)) rfl rfl).trans ?_
  refine (r_aloadn f209_64 rfl).trans ?_
  refine (r_get (v := .int 1) f209_65 (gs_eq (gs_ne (gs_ne g72 (by decide)) (by decide))) rfl).trans ?_
  exact r_ireturn f209_68 rfl
set_option maxHeartbeats 40000000 in
theorem qc4_0 {X : aX} {n d : Nat} {h : aH}  (g0 : h.1[0]? = some (.inr (11, zF0))) (g13 : h.1[13]? = some (.inr (7, zF13))) : arun X (n + 10) (d + 1) zM148 0 [some (.ref 0), none] [] h = some (some (.int 0), ((h.1.set 13 (.inr (7, [.ref 14, .ref 15, .int 0]))), h.2)) := by
  refine (r_aloadn f148_0 rfl).trans ?_
  refine (r_get (v := .ref 13) f148_1 g0 rfl).trans ?_
  refine (r_get (v := .int 0) f148_4 g13 rfl).trans ?_
  refine (r_istoren (L' := [some (.ref 0), some (.int 0)]) f148_7 rfl rfl).trans ?_
  refine (r_aloadn f148_8 rfl).trans ?_
  refine (r_get (v := .ref 13) f148_9 g0 rfl).trans ?_
  refine (r_iconst (v := 0) f148_12 rfl).trans ?_
  refine (r_put (h' := ((h.1.set 13 (.inr (7, [.ref 14, .ref 15, .int 0]))), h.2)) f148_13 g13 rfl rfl).trans ?_
  refine (r_iloadn f148_16 rfl).trans ?_
  exact r_ireturn f148_17 rfl
set_option maxHeartbeats 40000000 in
theorem qm4_0_0 {X : aX} {n d : Nat} {h : aH}  (g72 : h.1[72]? = some (.inr (12, zF72))) : arun X (n + 8) (d + 1) zM210 0 [some (.ref 72), none] [] h = some (some (.int 0), ((h.1.set 72 (.inr (12, (zF72.set 11 (.int 0))))), h.2)) := by
  refine (r_aloadn f210_0 rfl).trans ?_
  refine (r_get (v := .int 0) f210_1 g72 rfl).trans ?_
  refine (r_istoren (L' := [some (.ref 72), some (.int 0)]) f210_4 rfl rfl).trans ?_
  refine (r_aloadn f210_5 rfl).trans ?_
  refine (r_iconst (v := 0) f210_6 rfl).trans ?_
  refine (r_put (h' := ((h.1.set 72 (.inr (12, (zF72.set 11 (.int 0))))), h.2)) f210_7 g72 rfl rfl).trans ?_
  refine (r_iloadn f210_10 rfl).trans ?_
  exact r_ireturn f210_11 rfl
set_option maxHeartbeats 40000000 in
theorem qc5_0 {X : aX} {n d : Nat} {h : aH}  (g0 : h.1[0]? = some (.inr (11, zF0))) (g13 : h.1[13]? = some (.inr (7, zF13))) : arun X (n + 9) (d + 2) zM149 0 [some (.ref 0)] [] h = some (some (.int (-2)), h) := by
  refine (r_aloadn f149_0 rfl).trans ?_
  refine (r_get (v := .ref 13) f149_1 g0 rfl).trans ?_
  have hc1 : arun X (n + 6) (d + 1) zM89 0 [some (.ref 13), none, none] [] h = some ((some (.int 0)), h) := by
    refine (r_aloadn f89_0 rfl).trans ?_
    refine (r_get (v := .int 0) f89_1 g13 rfl).trans ?_
    refine (r_iconst (v := 4) f89_4 rfl).trans ?_
    refine (r_icmp_lt_t f89_5 (by decide)).trans ?_
    refine (r_iconst (v := 0) f89_17 rfl).trans ?_
    exact r_zreturn f89_18 rfl (by decide)
  refine (r_virt (as := []) (v := (some (.int 0))) (h1 := h) f149_4 g13 zg89 rfl rfl rfl rfl rfl rfl hc1).trans ?_
  refine (r_if_eq_t f149_7 (by decide)).trans ?_
  refine (r_bipush (v := (-2)) f149_20 rfl).trans ?_
  exact r_ireturn f149_22 rfl
set_option maxHeartbeats 40000000 in
theorem qm5_0_0 {X : aX} {n d : Nat} {h : aH}  (g72 : h.1[72]? = some (.inr (12, zF72))) : arun X (n + 8) (d + 2) zM220 0 [some (.ref 72)] [] h = some (some (.int (-2)), h) := by
  refine (r_aloadn f220_0 rfl).trans ?_
  have hc1 : arun X (n + 6) (d + 1) zM218 0 [some (.ref 72), none, none, none] [] h = some ((some (.int 0)), h) := by
    refine (r_aloadn f218_0 rfl).trans ?_
    refine (r_get (v := .int 0) f218_1 g72 rfl).trans ?_
    refine (r_iconst (v := 4) f218_4 rfl).trans ?_
    refine (r_icmp_lt_t f218_5 (by decide)).trans ?_
    refine (r_iconst (v := 0) f218_18 rfl).trans ?_
    exact r_zreturn f218_19 rfl (by decide)
  refine (r_virt (as := []) (v := (some (.int 0))) (h1 := h) f220_1 g72 zg218 rfl rfl rfl rfl rfl rfl hc1).trans ?_
  refine (r_if_eq_t f220_4 (by decide)).trans ?_
  refine (r_bipush (v := (-2)) f220_14 rfl).trans ?_
  exact r_ireturn f220_16 rfl
set_option maxHeartbeats 40000000 in
theorem qc6_0 {X : aX} {n d : Nat} {h : aH} {x1 : Int32} {x2 : Int32}  (g0 : h.1[0]? = some (.inr (11, zF0))) (g1 : h.1[1]? = some (.inr (6, zF1))) (ec0 : x1 < 0) : arun X (n + 19) (d + 4) zM150 0 [some (.ref 0), some (.int x1), some (.int x2), none] [] h = some (some (.int (-1)), h) := by
  refine (r_aloadn f150_0 rfl).trans ?_
  refine (r_get (v := .ref 1) f150_1 g0 rfl).trans ?_
  refine (r_iloadn f150_4 rfl).trans ?_
  have hc1 : arun X (n + 15) (d + 3) zM75 0 [some (.ref 1), some (.int x1)] [] h = some ((some (.int 0)), h) := by
    refine (r_aloadn f75_0 rfl).trans ?_
    refine (r_iloadn f75_1 rfl).trans ?_
    have hc2 : arun X (n + 12) (d + 2) zM74 0 [some (.ref 1), some (.int x1)] [] h = some ((some (.int 0)), h) := by
      refine (r_iloadn f74_0 rfl).trans ?_
      refine (r_iconst (v := 0) f74_1 rfl).trans ?_
      refine (r_aloadn f74_2 rfl).trans ?_
      refine (r_get (v := .int 0) f74_3 g1 rfl).trans ?_
      refine (r_iconst (v := 1) f74_6 rfl).trans ?_
      refine (r_isub (v := (-1)) f74_7 (by decide)).trans ?_
      have hc3 : arun X (n + 5) (d + 1) zM137 0 [some (.int x1), some (.int 0), some (.int (-1))] [] h = some ((some (.int 0)), h) := by
        refine (r_iloadn f137_0 rfl).trans ?_
        refine (r_iloadn f137_1 rfl).trans ?_
        refine (r_icmp_gt_t f137_2 ec0).trans ?_
        refine (r_iconst (v := 0) f137_14 rfl).trans ?_
        exact r_zreturn f137_15 rfl (by decide)
      refine (r_stat (as := [.int x1, .int 0, .int (-1)]) (v := (some (.int 0))) (h1 := h) f74_8 rfl zg137 rfl rfl rfl rfl rfl rfl hc3).trans ?_
      exact r_zreturn f74_11 rfl (by decide)
    refine (r_virt (as := [.int x1]) (v := (some (.int 0))) (h1 := h) f75_2 g1 zg74 rfl rfl rfl rfl rfl rfl hc2).trans ?_
    refine (r_if_eq_t f75_5 (by decide)).trans ?_
    refine (r_iconst (v := 0) f75_24 rfl).trans ?_
    exact r_zreturn f75_25 rfl (by decide)
  refine (r_virt (as := [.int x1]) (v := (some (.int 0))) (h1 := h) f150_5 g1 zg75 rfl rfl rfl rfl rfl rfl hc1).trans ?_
  refine (r_if_eq_t f150_8 (by decide)).trans ?_
  refine (r_iconst (v := (-1)) f150_20 rfl).trans ?_
  exact r_ireturn f150_21 rfl
set_option maxHeartbeats 40000000 in
theorem qm6_0_0 {X : aX} {n d : Nat} {h : aH} {x1 : Int32} {x2 : Int32}  (g72 : h.1[72]? = some (.inr (12, zF72))) (ec0 : x1 < 0) : arun X (n + 18) (d + 4) zM222 0 [some (.ref 72), some (.int x1), some (.int x2), none, none, none, none] [] h = some (some (.int (-1)), h) := by
  refine (r_aloadn f222_0 rfl).trans ?_
  refine (r_iloadn f222_1 rfl).trans ?_
  have hc1 : arun X (n + 15) (d + 3) zM202 0 [some (.ref 72), some (.int x1)] [] h = some ((some (.int 0)), h) := by
    refine (r_aloadn f202_0 rfl).trans ?_
    refine (r_iloadn f202_1 rfl).trans ?_
    have hc2 : arun X (n + 12) (d + 2) zM200 0 [some (.ref 72), some (.int x1)] [] h = some ((some (.int 0)), h) := by
      refine (r_iloadn f200_0 rfl).trans ?_
      refine (r_iconst (v := 0) f200_1 rfl).trans ?_
      refine (r_aloadn f200_2 rfl).trans ?_
      refine (r_get (v := .int 0) f200_3 g72 rfl).trans ?_
      refine (r_iconst (v := 1) f200_6 rfl).trans ?_
      refine (r_isub (v := (-1)) f200_7 (by decide)).trans ?_
      have hc3 : arun X (n + 5) (d + 1) zM196 0 [some (.int x1), some (.int 0), some (.int (-1))] [] h = some ((some (.int 0)), h) := by
        refine (r_iloadn f196_0 rfl).trans ?_
        refine (r_iloadn f196_1 rfl).trans ?_
        refine (r_icmp_lt_t f196_2 ec0).trans ?_
        refine (r_iconst (v := 0) f196_14 rfl).trans ?_
        exact r_zreturn f196_15 rfl (by decide)
      refine (r_stat (as := [.int x1, .int 0, .int (-1)]) (v := (some (.int 0))) (h1 := h) f200_8 rfl zg196 rfl rfl rfl rfl rfl rfl hc3).trans ?_
      exact r_zreturn f200_11 rfl (by decide)
    refine (r_virt (as := [.int x1]) (v := (some (.int 0))) (h1 := h) f202_2 g72 zg200 rfl rfl rfl rfl rfl rfl hc2).trans ?_
    refine (r_if_eq_t f202_5 (by decide)).trans ?_
    refine (r_iconst (v := 0) f202_25 rfl).trans ?_
    exact r_zreturn f202_26 rfl (by decide)
  refine (r_virt (as := [.int x1]) (v := (some (.int 0))) (h1 := h) f222_2 g72 zg202 rfl rfl rfl rfl rfl rfl hc1).trans ?_
  refine (r_if_eq_t f222_5 (by decide)).trans ?_
  refine (r_iconst (v := (-1)) f222_17 rfl).trans ?_
  exact r_ireturn f222_18 rfl
set_option maxHeartbeats 40000000 in
theorem qc6_1 {X : aX} {n d : Nat} {h : aH} {x1 : Int32} {x2 : Int32}  (g0 : h.1[0]? = some (.inr (11, zF0))) (g1 : h.1[1]? = some (.inr (6, zF1))) (ec0 : ¬ x1 < 0) (ec1 : (-1) < x1) : arun X (n + 22) (d + 4) zM150 0 [some (.ref 0), some (.int x1), some (.int x2), none] [] h = some (some (.int (-1)), h) := by
  refine (r_aloadn f150_0 rfl).trans ?_
  refine (r_get (v := .ref 1) f150_1 g0 rfl).trans ?_
  refine (r_iloadn f150_4 rfl).trans ?_
  have hc1 : arun X (n + 18) (d + 3) zM75 0 [some (.ref 1), some (.int x1)] [] h = some ((some (.int 0)), h) := by
    refine (r_aloadn f75_0 rfl).trans ?_
    refine (r_iloadn f75_1 rfl).trans ?_
    have hc2 : arun X (n + 15) (d + 2) zM74 0 [some (.ref 1), some (.int x1)] [] h = some ((some (.int 0)), h) := by
      refine (r_iloadn f74_0 rfl).trans ?_
      refine (r_iconst (v := 0) f74_1 rfl).trans ?_
      refine (r_aloadn f74_2 rfl).trans ?_
      refine (r_get (v := .int 0) f74_3 g1 rfl).trans ?_
      refine (r_iconst (v := 1) f74_6 rfl).trans ?_
      refine (r_isub (v := (-1)) f74_7 (by decide)).trans ?_
      have hc3 : arun X (n + 8) (d + 1) zM137 0 [some (.int x1), some (.int 0), some (.int (-1))] [] h = some ((some (.int 0)), h) := by
        refine (r_iloadn f137_0 rfl).trans ?_
        refine (r_iloadn f137_1 rfl).trans ?_
        refine (r_icmp_gt_f f137_2 ec0).trans ?_
        refine (r_iloadn f137_5 rfl).trans ?_
        refine (r_iloadn f137_6 rfl).trans ?_
        refine (r_icmp_gt_t f137_7 ec1).trans ?_
        refine (r_iconst (v := 0) f137_14 rfl).trans ?_
        exact r_zreturn f137_15 rfl (by decide)
      refine (r_stat (as := [.int x1, .int 0, .int (-1)]) (v := (some (.int 0))) (h1 := h) f74_8 rfl zg137 rfl rfl rfl rfl rfl rfl hc3).trans ?_
      exact r_zreturn f74_11 rfl (by decide)
    refine (r_virt (as := [.int x1]) (v := (some (.int 0))) (h1 := h) f75_2 g1 zg74 rfl rfl rfl rfl rfl rfl hc2).trans ?_
    refine (r_if_eq_t f75_5 (by decide)).trans ?_
    refine (r_iconst (v := 0) f75_24 rfl).trans ?_
    exact r_zreturn f75_25 rfl (by decide)
  refine (r_virt (as := [.int x1]) (v := (some (.int 0))) (h1 := h) f150_5 g1 zg75 rfl rfl rfl rfl rfl rfl hc1).trans ?_
  refine (r_if_eq_t f150_8 (by decide)).trans ?_
  refine (r_iconst (v := (-1)) f150_20 rfl).trans ?_
  exact r_ireturn f150_21 rfl
set_option maxHeartbeats 40000000 in
theorem qm6_1_0 {X : aX} {n d : Nat} {h : aH} {x1 : Int32} {x2 : Int32}  (g72 : h.1[72]? = some (.inr (12, zF72))) (ec0 : ¬ x1 < 0) (ec1 : (-1) < x1) : arun X (n + 21) (d + 4) zM222 0 [some (.ref 72), some (.int x1), some (.int x2), none, none, none, none] [] h = some (some (.int (-1)), h) := by
  refine (r_aloadn f222_0 rfl).trans ?_
  refine (r_iloadn f222_1 rfl).trans ?_
  have hc1 : arun X (n + 18) (d + 3) zM202 0 [some (.ref 72), some (.int x1)] [] h = some ((some (.int 0)), h) := by
    refine (r_aloadn f202_0 rfl).trans ?_
    refine (r_iloadn f202_1 rfl).trans ?_
    have hc2 : arun X (n + 15) (d + 2) zM200 0 [some (.ref 72), some (.int x1)] [] h = some ((some (.int 0)), h) := by
      refine (r_iloadn f200_0 rfl).trans ?_
      refine (r_iconst (v := 0) f200_1 rfl).trans ?_
      refine (r_aloadn f200_2 rfl).trans ?_
      refine (r_get (v := .int 0) f200_3 g72 rfl).trans ?_
      refine (r_iconst (v := 1) f200_6 rfl).trans ?_
      refine (r_isub (v := (-1)) f200_7 (by decide)).trans ?_
      have hc3 : arun X (n + 8) (d + 1) zM196 0 [some (.int x1), some (.int 0), some (.int (-1))] [] h = some ((some (.int 0)), h) := by
        refine (r_iloadn f196_0 rfl).trans ?_
        refine (r_iloadn f196_1 rfl).trans ?_
        refine (r_icmp_lt_f f196_2 ec0).trans ?_
        refine (r_iloadn f196_5 rfl).trans ?_
        refine (r_iloadn f196_6 rfl).trans ?_
        refine (r_icmp_gt_t f196_7 ec1).trans ?_
        refine (r_iconst (v := 0) f196_14 rfl).trans ?_
        exact r_zreturn f196_15 rfl (by decide)
      refine (r_stat (as := [.int x1, .int 0, .int (-1)]) (v := (some (.int 0))) (h1 := h) f200_8 rfl zg196 rfl rfl rfl rfl rfl rfl hc3).trans ?_
      exact r_zreturn f200_11 rfl (by decide)
    refine (r_virt (as := [.int x1]) (v := (some (.int 0))) (h1 := h) f202_2 g72 zg200 rfl rfl rfl rfl rfl rfl hc2).trans ?_
    refine (r_if_eq_t f202_5 (by decide)).trans ?_
    refine (r_iconst (v := 0) f202_25 rfl).trans ?_
    exact r_zreturn f202_26 rfl (by decide)
  refine (r_virt (as := [.int x1]) (v := (some (.int 0))) (h1 := h) f222_2 g72 zg202 rfl rfl rfl rfl rfl rfl hc1).trans ?_
  refine (r_if_eq_t f222_5 (by decide)).trans ?_
  refine (r_iconst (v := (-1)) f222_17 rfl).trans ?_
  exact r_ireturn f222_18 rfl
set_option maxHeartbeats 40000000 in
theorem qc7_0 {X : aX} {n d : Nat} {h : aH} {x1 : Int32}  (ec0 : x1 < 1) : arun X (n + 9) (d + 2) zM151 0 [some (.ref 0), some (.int x1)] [] h = some (some (.int (-1)), h) := by
  refine (r_iloadn f151_0 rfl).trans ?_
  refine (r_iconst (v := 1) f151_1 rfl).trans ?_
  refine (r_sipush (v := 999) f151_2 rfl).trans ?_
  have hc1 : arun X (n + 5) (d + 1) zM137 0 [some (.int x1), some (.int 1), some (.int 999)] [] h = some ((some (.int 0)), h) := by
    refine (r_iloadn f137_0 rfl).trans ?_
    refine (r_iloadn f137_1 rfl).trans ?_
    refine (r_icmp_gt_t f137_2 ec0).trans ?_
    refine (r_iconst (v := 0) f137_14 rfl).trans ?_
    exact r_zreturn f137_15 rfl (by decide)
  refine (r_stat (as := [.int x1, .int 1, .int 999]) (v := (some (.int 0))) (h1 := h) f151_5 rfl zg137 rfl rfl rfl rfl rfl rfl hc1).trans ?_
  refine (r_if_ne_f f151_8 (by decide)).trans ?_
  refine (r_iconst (v := (-1)) f151_11 rfl).trans ?_
  exact r_ireturn f151_12 rfl
set_option maxHeartbeats 40000000 in
theorem qm7_0_0 {X : aX} {n d : Nat} {h : aH} {x1 : Int32}  (ec0 : x1 < 1) : arun X (n + 9) (d + 2) zM208 0 [some (.ref 72), some (.int x1), none] [] h = some (some (.int (-1)), h) := by
  refine (r_iloadn f208_0 rfl).trans ?_
  refine (r_iconst (v := 1) f208_1 rfl).trans ?_
  refine (r_sipush (v := 999) f208_2 rfl).trans ?_
  have hc1 : arun X (n + 5) (d + 1) zM196 0 [some (.int x1), some (.int 1), some (.int 999)] [] h = some ((some (.int 0)), h) := by
    refine (r_iloadn f196_0 rfl).trans ?_
    refine (r_iloadn f196_1 rfl).trans ?_
    refine (r_icmp_lt_t f196_2 ec0).trans ?_
    refine (r_iconst (v := 0) f196_14 rfl).trans ?_
    exact r_zreturn f196_15 rfl (by decide)
  refine (r_stat (as := [.int x1, .int 1, .int 999]) (v := (some (.int 0))) (h1 := h) f208_5 rfl zg196 rfl rfl rfl rfl rfl rfl hc1).trans ?_
  refine (r_if_ne_f f208_8 (by decide)).trans ?_
  refine (r_iconst (v := (-1)) f208_11 rfl).trans ?_
  exact r_ireturn f208_12 rfl
set_option maxHeartbeats 40000000 in
theorem qc7_1 {X : aX} {n d : Nat} {h : aH} {x1 : Int32}  (ec0 : ¬ x1 < 1) (ec1 : 999 < x1) : arun X (n + 12) (d + 2) zM151 0 [some (.ref 0), some (.int x1)] [] h = some (some (.int (-1)), h) := by
  refine (r_iloadn f151_0 rfl).trans ?_
  refine (r_iconst (v := 1) f151_1 rfl).trans ?_
  refine (r_sipush (v := 999) f151_2 rfl).trans ?_
  have hc1 : arun X (n + 8) (d + 1) zM137 0 [some (.int x1), some (.int 1), some (.int 999)] [] h = some ((some (.int 0)), h) := by
    refine (r_iloadn f137_0 rfl).trans ?_
    refine (r_iloadn f137_1 rfl).trans ?_
    refine (r_icmp_gt_f f137_2 ec0).trans ?_
    refine (r_iloadn f137_5 rfl).trans ?_
    refine (r_iloadn f137_6 rfl).trans ?_
    refine (r_icmp_gt_t f137_7 ec1).trans ?_
    refine (r_iconst (v := 0) f137_14 rfl).trans ?_
    exact r_zreturn f137_15 rfl (by decide)
  refine (r_stat (as := [.int x1, .int 1, .int 999]) (v := (some (.int 0))) (h1 := h) f151_5 rfl zg137 rfl rfl rfl rfl rfl rfl hc1).trans ?_
  refine (r_if_ne_f f151_8 (by decide)).trans ?_
  refine (r_iconst (v := (-1)) f151_11 rfl).trans ?_
  exact r_ireturn f151_12 rfl
set_option maxHeartbeats 40000000 in
theorem qm7_1_0 {X : aX} {n d : Nat} {h : aH} {x1 : Int32}  (ec0 : ¬ x1 < 1) (ec1 : 999 < x1) : arun X (n + 12) (d + 2) zM208 0 [some (.ref 72), some (.int x1), none] [] h = some (some (.int (-1)), h) := by
  refine (r_iloadn f208_0 rfl).trans ?_
  refine (r_iconst (v := 1) f208_1 rfl).trans ?_
  refine (r_sipush (v := 999) f208_2 rfl).trans ?_
  have hc1 : arun X (n + 8) (d + 1) zM196 0 [some (.int x1), some (.int 1), some (.int 999)] [] h = some ((some (.int 0)), h) := by
    refine (r_iloadn f196_0 rfl).trans ?_
    refine (r_iloadn f196_1 rfl).trans ?_
    refine (r_icmp_lt_f f196_2 ec0).trans ?_
    refine (r_iloadn f196_5 rfl).trans ?_
    refine (r_iloadn f196_6 rfl).trans ?_
    refine (r_icmp_gt_t f196_7 ec1).trans ?_
    refine (r_iconst (v := 0) f196_14 rfl).trans ?_
    exact r_zreturn f196_15 rfl (by decide)
  refine (r_stat (as := [.int x1, .int 1, .int 999]) (v := (some (.int 0))) (h1 := h) f208_5 rfl zg196 rfl rfl rfl rfl rfl rfl hc1).trans ?_
  refine (r_if_ne_f f208_8 (by decide)).trans ?_
  refine (r_iconst (v := (-1)) f208_11 rfl).trans ?_
  exact r_ireturn f208_12 rfl
set_option maxHeartbeats 40000000 in
theorem qc7_2 {X : aX} {n d : Nat} {h : aH} {x1 : Int32}  (g0 : h.1[0]? = some (.inr (11, zF0))) (g1 : h.1[1]? = some (.inr (6, zF1))) (g2 : h.1[2]? = some (.inl (0, 150, .inl (fun _ => 0)))) (g3 : h.1[3]? = some (.inl (0, 150, .inl (fun _ => 0)))) (g4 : h.1[4]? = some (.inl (0, 150, .inl (fun _ => 0)))) (g5 : h.1[5]? = some (.inl (0, 150, .inl (fun _ => 0)))) (g6 : h.1[6]? = some (.inl (0, 150, .inl (fun _ => 0)))) (g7 : h.1[7]? = some (.inl (0, 150, .inl (fun _ => 0)))) (ec0 : ¬ x1 < 1) (ec1 : ¬ 999 < x1) : arun X (n + 78) (d + 5) zM151 0 [some (.ref 0), some (.int x1)] [] h = some (some (.int 0), (((((((((h.1.set 2 (.inl (0, 150, .inl (upd (fun _ => 0) (Int32.toNatClampNeg 0) 6)))).set 3 (.inl (0, 150, .inl (upd (fun _ => 0) (Int32.toNatClampNeg 0) x1)))).set 7 (.inl (0, 150, .inl (upd (fun _ => 0) (Int32.toNatClampNeg 0) (-1))))).set 4 (.inl (0, 150, .inl (upd (fun _ => 0) (Int32.toNatClampNeg 0) 0)))).set 5 (.inl (0, 150, .inl (upd (fun _ => 0) (Int32.toNatClampNeg 0) (-1))))).set 1 (.inr (6, [.int 0, .int 1, .int 0, .int 0, .int 0, .int 0, .int 0, .ref 2, .ref 3, .ref 4, .ref 5, .ref 6, .ref 7, .ref 8, .ref 9, .ref 10, .ref 11, .ref 12]))).set 6 (.inl (0, 150, .inl (upd (fun _ => 0) (Int32.toNatClampNeg 0) 0)))).set 1 (.inr (6, [.int 0, .int 1, .int 0, .int 0, .int 1, .int 0, .int 0, .ref 2, .ref 3, .ref 4, .ref 5, .ref 6, .ref 7, .ref 8, .ref 9, .ref 10, .ref 11, .ref 12]))), h.2)) := by
  refine (r_iloadn f151_0 rfl).trans ?_
  refine (r_iconst (v := 1) f151_1 rfl).trans ?_
  refine (r_sipush (v := 999) f151_2 rfl).trans ?_
  have hc1 : arun X (n + 74) (d + 4) zM137 0 [some (.int x1), some (.int 1), some (.int 999)] [] h = some ((some (.int 1)), h) := by
    refine (r_iloadn f137_0 rfl).trans ?_
    refine (r_iloadn f137_1 rfl).trans ?_
    refine (r_icmp_gt_f f137_2 ec0).trans ?_
    refine (r_iloadn f137_5 rfl).trans ?_
    refine (r_iloadn f137_6 rfl).trans ?_
    refine (r_icmp_gt_f f137_7 ec1).trans ?_
    refine (r_iconst (v := 1) f137_10 rfl).trans ?_
    refine (r_goto f137_11).trans ?_
    exact r_zreturn f137_15 rfl (by decide)
  refine (r_stat (as := [.int x1, .int 1, .int 999]) (v := (some (.int 1))) (h1 := h) f151_5 rfl zg137 rfl rfl rfl rfl rfl rfl hc1).trans ?_
  refine (r_if_ne_t f151_8 (by decide)).trans ?_
  refine (r_aloadn f151_13 rfl).trans ?_
  refine (r_get (v := .ref 1) f151_14 g0 rfl).trans ?_
  have hc2 : arun X (n + 70) (d + 4) zM73 0 [some (.ref 1)] [] h = some ((some (.int 0)), h) := by
    refine (r_aloadn f73_0 rfl).trans ?_
    refine (r_get (v := .int 0) f73_1 g1 rfl).trans ?_
    refine (r_sipush (v := 150) f73_4 rfl).trans ?_
    refine (r_icmp_lt_t f73_7 (by decide)).trans ?_
    refine (r_iconst (v := 0) f73_14 rfl).trans ?_
    exact r_zreturn f73_15 rfl (by decide)
  refine (r_virt (as := []) (v := (some (.int 0))) (h1 := h) f151_17 g1 zg73 rfl rfl rfl rfl rfl rfl hc2).trans ?_
  refine (r_if_eq_t f151_20 (by decide)).trans ?_
  refine (r_aloadn f151_28 rfl).trans ?_
  refine (r_get (v := .ref 1) f151_29 g0 rfl).trans ?_
  refine (r_iloadn f151_32 rfl).trans ?_
  have hc3 : arun X (n + 65) (d + 4) zM80 0 [some (.ref 1), some (.int x1), none, none] [] h = some ((some (.int 0)), (((((((((h.1.set 2 (.inl (0, 150, .inl (upd (fun _ => 0) (Int32.toNatClampNeg 0) 6)))).set 3 (.inl (0, 150, .inl (upd (fun _ => 0) (Int32.toNatClampNeg 0) x1)))).set 7 (.inl (0, 150, .inl (upd (fun _ => 0) (Int32.toNatClampNeg 0) (-1))))).set 4 (.inl (0, 150, .inl (upd (fun _ => 0) (Int32.toNatClampNeg 0) 0)))).set 5 (.inl (0, 150, .inl (upd (fun _ => 0) (Int32.toNatClampNeg 0) (-1))))).set 1 (.inr (6, [.int 0, .int 1, .int 0, .int 0, .int 0, .int 0, .int 0, .ref 2, .ref 3, .ref 4, .ref 5, .ref 6, .ref 7, .ref 8, .ref 9, .ref 10, .ref 11, .ref 12]))).set 6 (.inl (0, 150, .inl (upd (fun _ => 0) (Int32.toNatClampNeg 0) 0)))).set 1 (.inr (6, [.int 0, .int 1, .int 0, .int 0, .int 1, .int 0, .int 0, .ref 2, .ref 3, .ref 4, .ref 5, .ref 6, .ref 7, .ref 8, .ref 9, .ref 10, .ref 11, .ref 12]))), h.2)) := by
    refine (r_aloadn f80_0 rfl).trans ?_
    refine (r_bipush (v := 6) f80_1 rfl).trans ?_
    refine (r_iloadn f80_3 rfl).trans ?_
    refine (r_iconst (v := (-1)) f80_4 rfl).trans ?_
    have hc4 : arun X (n + 60) (d + 3) zM79 0 [some (.ref 1), some (.int 6), some (.int x1), some (.int (-1)), none] [] h = some ((some (.int 0)), (((((((h.1.set 2 (.inl (0, 150, .inl (upd (fun _ => 0) (Int32.toNatClampNeg 0) 6)))).set 3 (.inl (0, 150, .inl (upd (fun _ => 0) (Int32.toNatClampNeg 0) x1)))).set 7 (.inl (0, 150, .inl (upd (fun _ => 0) (Int32.toNatClampNeg 0) (-1))))).set 4 (.inl (0, 150, .inl (upd (fun _ => 0) (Int32.toNatClampNeg 0) 0)))).set 5 (.inl (0, 150, .inl (upd (fun _ => 0) (Int32.toNatClampNeg 0) (-1))))).set 1 (.inr (6, [.int 0, .int 1, .int 0, .int 0, .int 0, .int 0, .int 0, .ref 2, .ref 3, .ref 4, .ref 5, .ref 6, .ref 7, .ref 8, .ref 9, .ref 10, .ref 11, .ref 12]))), h.2)) := by
      refine (r_aloadn f79_0 rfl).trans ?_
      refine (r_get (v := .int 0) f79_1 g1 rfl).trans ?_
      refine (r_istore (L' := [some (.ref 1), some (.int 6), some (.int x1), some (.int (-1)), some (.int 0)]) f79_4 rfl rfl).trans ?_
      refine (r_aloadn f79_6 rfl).trans ?_
      have hc5 : arun X (n + 55) (d + 2) zM73 0 [some (.ref 1)] [] h = some ((some (.int 0)), h) := by
        refine (r_aloadn f73_0 rfl).trans ?_
        refine (r_get (v := .int 0) f73_1 g1 rfl).trans ?_
        refine (r_sipush (v := 150) f73_4 rfl).trans ?_
        refine (r_icmp_lt_t f73_7 (by decide)).trans ?_
        refine (r_iconst (v := 0) f73_14 rfl).trans ?_
        exact r_zreturn f73_15 rfl (by decide)
      refine (r_virt (as := []) (v := (some (.int 0))) (h1 := h) f79_7 g1 zg73 rfl rfl rfl rfl rfl rfl hc5).trans ?_
      refine (r_if_eq_t f79_10 (by decide)).trans ?_
      refine (r_aloadn f79_16 rfl).trans ?_
      refine (r_get (v := .ref 2) f79_17 g1 rfl).trans ?_
      refine (r_iload f79_20 rfl).trans ?_
      refine (r_iloadn f79_22 rfl).trans ?_
      refine (r_iast (h' := ((h.1.set 2 (.inl (0, 150, .inl (upd (fun _ => 0) (Int32.toNatClampNeg 0) 6)))), h.2)) f79_23 g2 (by decide) rfl).trans ?_
      refine (r_aloadn f79_24 rfl).trans ?_
      refine (r_get (v := .ref 3) f79_25 (gs_ne g1 (by decide)) rfl).trans ?_
      refine (r_iload f79_28 rfl).trans ?_
      refine (r_iloadn f79_30 rfl).trans ?_
      refine (r_iast (h' := (((h.1.set 2 (.inl (0, 150, .inl (upd (fun _ => 0) (Int32.toNatClampNeg 0) 6)))).set 3 (.inl (0, 150, .inl (upd (fun _ => 0) (Int32.toNatClampNeg 0) x1)))), h.2)) f79_31 (gs_ne g3 (by decide)) (by decide) rfl).trans ?_
      refine (r_aloadn f79_32 rfl).trans ?_
      refine (r_get (v := .ref 7) f79_33 (gs_ne (gs_ne g1 (by decide)) (by decide)) rfl).trans ?_
      refine (r_iload f79_36 rfl).trans ?_
      refine (r_iloadn f79_38 rfl).trans ?_
      refine (r_iast (h' := ((((h.1.set 2 (.inl (0, 150, .inl (upd (fun _ => 0) (Int32.toNatClampNeg 0) 6)))).set 3 (.inl (0, 150, .inl (upd (fun _ => 0) (Int32.toNatClampNeg 0) x1)))).set 7 (.inl (0, 150, .inl (upd (fun _ => 0) (Int32.toNatClampNeg 0) (-1))))), h.2)) f79_39 (gs_ne (gs_ne g7 (by decide)) (by decide)) (by decide) rfl).trans ?_
      refine (r_aloadn f79_40 rfl).trans ?_
      refine (r_get (v := .ref 4) f79_41 (gs_ne (gs_ne (gs_ne g1 (by decide)) (by decide)) (by decide)) rfl).trans ?_
      refine (r_iload f79_44 rfl).trans ?_
      refine (r_aloadn f79_46 rfl).trans ?_
      refine (r_get (v := .int 0) f79_47 (gs_ne (gs_ne (gs_ne g1 (by decide)) (by decide)) (by decide)) rfl).trans ?_
      refine (r_iast (h' := (((((h.1.set 2 (.inl (0, 150, .inl (upd (fun _ => 0) (Int32.toNatClampNeg 0) 6)))).set 3 (.inl (0, 150, .inl (upd (fun _ => 0) (Int32.toNatClampNeg 0) x1)))).set 7 (.inl (0, 150, .inl (upd (fun _ => 0) (Int32.toNatClampNeg 0) (-1))))).set 4 (.inl (0, 150, .inl (upd (fun _ => 0) (Int32.toNatClampNeg 0) 0)))), h.2)) f79_50 (gs_ne (gs_ne (gs_ne g4 (by decide)) (by decide)) (by decide)) (by decide) rfl).trans ?_
      refine (r_aloadn f79_51 rfl).trans ?_
      refine (r_get (v := .ref 5) f79_52 (gs_ne (gs_ne (gs_ne (gs_ne g1 (by decide)) (by decide)) (by decide)) (by decide)) rfl).trans ?_
      refine (r_iload f79_55 rfl).trans ?_
      refine (r_iconst (v := (-1)) f79_57 rfl).trans ?_
      refine (r_iast (h' := ((((((h.1.set 2 (.inl (0, 150, .inl (upd (fun _ => 0) (Int32.toNatClampNeg 0) 6)))).set 3 (.inl (0, 150, .inl (upd (fun _ => 0) (Int32.toNatClampNeg 0) x1)))).set 7 (.inl (0, 150, .inl (upd (fun _ => 0) (Int32.toNatClampNeg 0) (-1))))).set 4 (.inl (0, 150, .inl (upd (fun _ => 0) (Int32.toNatClampNeg 0) 0)))).set 5 (.inl (0, 150, .inl (upd (fun _ => 0) (Int32.toNatClampNeg 0) (-1))))), h.2)) f79_58 (gs_ne (gs_ne (gs_ne (gs_ne g5 (by decide)) (by decide)) (by decide)) (by decide)) (by decide) rfl).trans ?_
      refine (r_aloadn f79_59 rfl).trans ?_
      refine (r_dup f79_60 rfl).trans ?_
      refine (r_get (v := .int 0) f79_61 (gs_ne (gs_ne (gs_ne (gs_ne (gs_ne g1 (by decide)) (by decide)) (by decide)) (by decide)) (by decide)) rfl).trans ?_
      refine (r_iloadn f79_64 rfl).trans ?_
      have hc6 : arun X (n + 23) (d + 2) zM71 0 [some (.int 6)] [] ((((((h.1.set 2 (.inl (0, 150, .inl (upd (fun _ => 0) (Int32.toNatClampNeg 0) 6)))).set 3 (.inl (0, 150, .inl (upd (fun _ => 0) (Int32.toNatClampNeg 0) x1)))).set 7 (.inl (0, 150, .inl (upd (fun _ => 0) (Int32.toNatClampNeg 0) (-1))))).set 4 (.inl (0, 150, .inl (upd (fun _ => 0) (Int32.toNatClampNeg 0) 0)))).set 5 (.inl (0, 150, .inl (upd (fun _ => 0) (Int32.toNatClampNeg 0) (-1))))), h.2) = some ((some (.int 0)), ((((((h.1.set 2 (.inl (0, 150, .inl (upd (fun _ => 0) (Int32.toNatClampNeg 0) 6)))).set 3 (.inl (0, 150, .inl (upd (fun _ => 0) (Int32.toNatClampNeg 0) x1)))).set 7 (.inl (0, 150, .inl (upd (fun _ => 0) (Int32.toNatClampNeg 0) (-1))))).set 4 (.inl (0, 150, .inl (upd (fun _ => 0) (Int32.toNatClampNeg 0) 0)))).set 5 (.inl (0, 150, .inl (upd (fun _ => 0) (Int32.toNatClampNeg 0) (-1))))), h.2)) := by
        refine (r_iloadn f71_0 rfl).trans ?_
        refine (r_iconst (v := 1) f71_1 rfl).trans ?_
        refine (r_iconst (v := 3) f71_2 rfl).trans ?_
        have hc7 : arun X (n + 19) (d + 1) zM137 0 [some (.int 6), some (.int 1), some (.int 3)] [] ((((((h.1.set 2 (.inl (0, 150, .inl (upd (fun _ => 0) (Int32.toNatClampNeg 0) 6)))).set 3 (.inl (0, 150, .inl (upd (fun _ => 0) (Int32.toNatClampNeg 0) x1)))).set 7 (.inl (0, 150, .inl (upd (fun _ => 0) (Int32.toNatClampNeg 0) (-1))))).set 4 (.inl (0, 150, .inl (upd (fun _ => 0) (Int32.toNatClampNeg 0) 0)))).set 5 (.inl (0, 150, .inl (upd (fun _ => 0) (Int32.toNatClampNeg 0) (-1))))), h.2) = some ((some (.int 0)), ((((((h.1.set 2 (.inl (0, 150, .inl (upd (fun _ => 0) (Int32.toNatClampNeg 0) 6)))).set 3 (.inl (0, 150, .inl (upd (fun _ => 0) (Int32.toNatClampNeg 0) x1)))).set 7 (.inl (0, 150, .inl (upd (fun _ => 0) (Int32.toNatClampNeg 0) (-1))))).set 4 (.inl (0, 150, .inl (upd (fun _ => 0) (Int32.toNatClampNeg 0) 0)))).set 5 (.inl (0, 150, .inl (upd (fun _ => 0) (Int32.toNatClampNeg 0) (-1))))), h.2)) := by
          refine (r_iloadn f137_0 rfl).trans ?_
          refine (r_iloadn f137_1 rfl).trans ?_
          refine (r_icmp_gt_f f137_2 (by decide)).trans ?_
          refine (r_iloadn f137_5 rfl).trans ?_
          refine (r_iloadn f137_6 rfl).trans ?_
          refine (r_icmp_gt_t f137_7 (by decide)).trans ?_
          refine (r_iconst (v := 0) f137_14 rfl).trans ?_
          exact r_zreturn f137_15 rfl (by decide)
        refine (r_stat (as := [.int 6, .int 1, .int 3]) (v := (some (.int 0))) (h1 := ((((((h.1.set 2 (.inl (0, 150, .inl (upd (fun _ => 0) (Int32.toNatClampNeg 0) 6)))).set 3 (.inl (0, 150, .inl (upd (fun _ => 0) (Int32.toNatClampNeg 0) x1)))).set 7 (.inl (0, 150, .inl (upd (fun _ => 0) (Int32.toNatClampNeg 0) (-1))))).set 4 (.inl (0, 150, .inl (upd (fun _ => 0) (Int32.toNatClampNeg 0) 0)))).set 5 (.inl (0, 150, .inl (upd (fun _ => 0) (Int32.toNatClampNeg 0) (-1))))), h.2)) f71_3 rfl zg137 rfl rfl rfl rfl rfl rfl hc7).trans ?_
        refine (r_if_ne_f f71_6 (by decide)).trans ?_
        refine (r_iloadn f71_9 rfl).trans ?_
        refine (r_bipush (v := 7) f71_10 rfl).trans ?_
        refine (r_icmp_ne_t f71_12 (by decide)).trans ?_
        refine (r_iconst (v := 0) f71_19 rfl).trans ?_
        exact r_zreturn f71_20 rfl (by decide)
      refine (r_stat (as := [.int 6]) (v := (some (.int 0))) (h1 := ((((((h.1.set 2 (.inl (0, 150, .inl (upd (fun _ => 0) (Int32.toNatClampNeg 0) 6)))).set 3 (.inl (0, 150, .inl (upd (fun _ => 0) (Int32.toNatClampNeg 0) x1)))).set 7 (.inl (0, 150, .inl (upd (fun _ => 0) (Int32.toNatClampNeg 0) (-1))))).set 4 (.inl (0, 150, .inl (upd (fun _ => 0) (Int32.toNatClampNeg 0) 0)))).set 5 (.inl (0, 150, .inl (upd (fun _ => 0) (Int32.toNatClampNeg 0) (-1))))), h.2)) f79_65 rfl zg71 rfl rfl rfl rfl rfl rfl hc6).trans ?_
      refine (r_if_eq_t f79_68 (by decide)).trans ?_
      refine (r_iconst (v := 0) f79_75 rfl).trans ?_
      refine (r_iadd (v := 0) f79_76 (by decide)).trans ?_
      refine (r_put (h' := (((((((h.1.set 2 (.inl (0, 150, .inl (upd (fun _ => 0) (Int32.toNatClampNeg 0) 6)))).set 3 (.inl (0, 150, .inl (upd (fun _ => 0) (Int32.toNatClampNeg 0) x1)))).set 7 (.inl (0, 150, .inl (upd (fun _ => 0) (Int32.toNatClampNeg 0) (-1))))).set 4 (.inl (0, 150, .inl (upd (fun _ => 0) (Int32.toNatClampNeg 0) 0)))).set 5 (.inl (0, 150, .inl (upd (fun _ => 0) (Int32.toNatClampNeg 0) (-1))))).set 1 (.inr (6, [.int 0, .int 0, .int 0, .int 0, .int 0, .int 0, .int 0, .ref 2, .ref 3, .ref 4, .ref 5, .ref 6, .ref 7, .ref 8, .ref 9, .ref 10, .ref 11, .ref 12]))), h.2)) f79_77 (gs_ne (gs_ne (gs_ne (gs_ne (gs_ne g1 (by decide)) (by decide)) (by decide)) (by decide)) (by decide)) rfl rfl).trans ?_
      refine (r_aloadn f79_80 rfl).trans ?_
      refine (r_dup f79_81 rfl).trans ?_
      refine (r_get (v := .int 0) f79_82 (gs_eq (gs_ne (gs_ne (gs_ne (gs_ne (gs_ne g1 (by decide)) (by decide)) (by decide)) (by decide)) (by decide))) rfl).trans ?_
      refine (r_iloadn f79_85 rfl).trans ?_
      refine (r_iconst (v := 4) f79_86 rfl).trans ?_
      refine (r_iconst (v := 5) f79_87 rfl).trans ?_
      have hc8 : arun X (n + 12) (d + 2) zM137 0 [some (.int 6), some (.int 4), some (.int 5)] [] (((((((h.1.set 2 (.inl (0, 150, .inl (upd (fun _ => 0) (Int32.toNatClampNeg 0) 6)))).set 3 (.inl (0, 150, .inl (upd (fun _ => 0) (Int32.toNatClampNeg 0) x1)))).set 7 (.inl (0, 150, .inl (upd (fun _ => 0) (Int32.toNatClampNeg 0) (-1))))).set 4 (.inl (0, 150, .inl (upd (fun _ => 0) (Int32.toNatClampNeg 0) 0)))).set 5 (.inl (0, 150, .inl (upd (fun _ => 0) (Int32.toNatClampNeg 0) (-1))))).set 1 (.inr (6, [.int 0, .int 0, .int 0, .int 0, .int 0, .int 0, .int 0, .ref 2, .ref 3, .ref 4, .ref 5, .ref 6, .ref 7, .ref 8, .ref 9, .ref 10, .ref 11, .ref 12]))), h.2) = some ((some (.int 0)), (((((((h.1.set 2 (.inl (0, 150, .inl (upd (fun _ => 0) (Int32.toNatClampNeg 0) 6)))).set 3 (.inl (0, 150, .inl (upd (fun _ => 0) (Int32.toNatClampNeg 0) x1)))).set 7 (.inl (0, 150, .inl (upd (fun _ => 0) (Int32.toNatClampNeg 0) (-1))))).set 4 (.inl (0, 150, .inl (upd (fun _ => 0) (Int32.toNatClampNeg 0) 0)))).set 5 (.inl (0, 150, .inl (upd (fun _ => 0) (Int32.toNatClampNeg 0) (-1))))).set 1 (.inr (6, [.int 0, .int 0, .int 0, .int 0, .int 0, .int 0, .int 0, .ref 2, .ref 3, .ref 4, .ref 5, .ref 6, .ref 7, .ref 8, .ref 9, .ref 10, .ref 11, .ref 12]))), h.2)) := by
        refine (r_iloadn f137_0 rfl).trans ?_
        refine (r_iloadn f137_1 rfl).trans ?_
        refine (r_icmp_gt_f f137_2 (by decide)).trans ?_
        refine (r_iloadn f137_5 rfl).trans ?_
        refine (r_iloadn f137_6 rfl).trans ?_
        refine (r_icmp_gt_t f137_7 (by decide)).trans ?_
        refine (r_iconst (v := 0) f137_14 rfl).trans ?_
        exact r_zreturn f137_15 rfl (by decide)
      refine (r_stat (as := [.int 6, .int 4, .int 5]) (v := (some (.int 0))) (h1 := (((((((h.1.set 2 (.inl (0, 150, .inl (upd (fun _ => 0) (Int32.toNatClampNeg 0) 6)))).set 3 (.inl (0, 150, .inl (upd (fun _ => 0) (Int32.toNatClampNeg 0) x1)))).set 7 (.inl (0, 150, .inl (upd (fun _ => 0) (Int32.toNatClampNeg 0) (-1))))).set 4 (.inl (0, 150, .inl (upd (fun _ => 0) (Int32.toNatClampNeg 0) 0)))).set 5 (.inl (0, 150, .inl (upd (fun _ => 0) (Int32.toNatClampNeg 0) (-1))))).set 1 (.inr (6, [.int 0, .int 0, .int 0, .int 0, .int 0, .int 0, .int 0, .ref 2, .ref 3, .ref 4, .ref 5, .ref 6, .ref 7, .ref 8, .ref 9, .ref 10, .ref 11, .ref 12]))), h.2)) f79_88 rfl zg137 rfl rfl rfl rfl rfl rfl hc8).trans ?_
      refine (r_if_eq_t f79_91 (by decide)).trans ?_
      refine (r_iconst (v := 0) f79_98 rfl).trans ?_
      refine (r_iadd (v := 0) f79_99 (by decide)).trans ?_
      refine (r_put (h' := (((((((h.1.set 2 (.inl (0, 150, .inl (upd (fun _ => 0) (Int32.toNatClampNeg 0) 6)))).set 3 (.inl (0, 150, .inl (upd (fun _ => 0) (Int32.toNatClampNeg 0) x1)))).set 7 (.inl (0, 150, .inl (upd (fun _ => 0) (Int32.toNatClampNeg 0) (-1))))).set 4 (.inl (0, 150, .inl (upd (fun _ => 0) (Int32.toNatClampNeg 0) 0)))).set 5 (.inl (0, 150, .inl (upd (fun _ => 0) (Int32.toNatClampNeg 0) (-1))))).set 1 (.inr (6, [.int 0, .int 0, .int 0, .int 0, .int 0, .int 0, .int 0, .ref 2, .ref 3, .ref 4, .ref 5, .ref 6, .ref 7, .ref 8, .ref 9, .ref 10, .ref 11, .ref 12]))), h.2)) f79_100 (gs_eq (gs_ne (gs_ne (gs_ne (gs_ne (gs_ne g1 (by decide)) (by decide)) (by decide)) (by decide)) (by decide))) rfl hss).trans ?_
      refine (r_aloadn f79_103 rfl).trans ?_
      refine (r_dup f79_104 rfl).trans ?_
      refine (r_get (v := .int 0) f79_105 (gs_eq (gs_ne (gs_ne (gs_ne (gs_ne (gs_ne g1 (by decide)) (by decide)) (by decide)) (by decide)) (by decide))) rfl).trans ?_
      refine (r_iconst (v := 1) f79_108 rfl).trans ?_
      refine (r_iadd (v := 1) f79_109 (by decide)).trans ?_
      refine (r_put (h' := (((((((h.1.set 2 (.inl (0, 150, .inl (upd (fun _ => 0) (Int32.toNatClampNeg 0) 6)))).set 3 (.inl (0, 150, .inl (upd (fun _ => 0) (Int32.toNatClampNeg 0) x1)))).set 7 (.inl (0, 150, .inl (upd (fun _ => 0) (Int32.toNatClampNeg 0) (-1))))).set 4 (.inl (0, 150, .inl (upd (fun _ => 0) (Int32.toNatClampNeg 0) 0)))).set 5 (.inl (0, 150, .inl (upd (fun _ => 0) (Int32.toNatClampNeg 0) (-1))))).set 1 (.inr (6, [.int 0, .int 1, .int 0, .int 0, .int 0, .int 0, .int 0, .ref 2, .ref 3, .ref 4, .ref 5, .ref 6, .ref 7, .ref 8, .ref 9, .ref 10, .ref 11, .ref 12]))), h.2)) f79_110 (gs_eq (gs_ne (gs_ne (gs_ne (gs_ne (gs_ne g1 (by decide)) (by decide)) (by decide)) (by decide)) (by decide))) rfl hss).trans ?_
      refine (r_iload f79_113 rfl).trans ?_
      exact r_ireturn f79_115 rfl
    refine (r_virt (as := [.int 6, .int x1, .int (-1)]) (v := (some (.int 0))) (h1 := (((((((h.1.set 2 (.inl (0, 150, .inl (upd (fun _ => 0) (Int32.toNatClampNeg 0) 6)))).set 3 (.inl (0, 150, .inl (upd (fun _ => 0) (Int32.toNatClampNeg 0) x1)))).set 7 (.inl (0, 150, .inl (upd (fun _ => 0) (Int32.toNatClampNeg 0) (-1))))).set 4 (.inl (0, 150, .inl (upd (fun _ => 0) (Int32.toNatClampNeg 0) 0)))).set 5 (.inl (0, 150, .inl (upd (fun _ => 0) (Int32.toNatClampNeg 0) (-1))))).set 1 (.inr (6, [.int 0, .int 1, .int 0, .int 0, .int 0, .int 0, .int 0, .ref 2, .ref 3, .ref 4, .ref 5, .ref 6, .ref 7, .ref 8, .ref 9, .ref 10, .ref 11, .ref 12]))), h.2)) f80_5 g1 zg79 rfl rfl rfl rfl rfl rfl hc4).trans ?_
    refine (r_istoren (L' := [some (.ref 1), some (.int x1), some (.int 0), none]) f80_8 rfl rfl).trans ?_
    refine (r_iloadn f80_9 rfl).trans ?_
    refine (r_if_ge_t f80_10 (by decide)).trans ?_
    refine (r_aloadn f80_15 rfl).trans ?_
    refine (r_get (v := .int 0) f80_16 (gs_eq (gs_ne (gs_ne (gs_ne (gs_ne (gs_ne g1 (by decide)) (by decide)) (by decide)) (by decide)) (by decide))) rfl).trans ?_
    refine (r_istoren (L' := [some (.ref 1), some (.int x1), some (.int 0), some (.int 0)]) f80_19 rfl rfl).trans ?_
    refine (r_iloadn f80_20 rfl).trans ?_
    refine (r_if_le_t f80_21 (by decide)).trans ?_
    refine (r_aloadn f80_61 rfl).trans ?_
    refine (r_get (v := .ref 6) f80_62 (gs_eq (gs_ne (gs_ne (gs_ne (gs_ne (gs_ne g1 (by decide)) (by decide)) (by decide)) (by decide)) (by decide))) rfl).trans ?_
    refine (r_iloadn f80_65 rfl).trans ?_
    refine (r_iloadn f80_66 rfl).trans ?_
    refine (r_iast (h' := ((((((((h.1.set 2 (.inl (0, 150, .inl (upd (fun _ => 0) (Int32.toNatClampNeg 0) 6)))).set 3 (.inl (0, 150, .inl (upd (fun _ => 0) (Int32.toNatClampNeg 0) x1)))).set 7 (.inl (0, 150, .inl (upd (fun _ => 0) (Int32.toNatClampNeg 0) (-1))))).set 4 (.inl (0, 150, .inl (upd (fun _ => 0) (Int32.toNatClampNeg 0) 0)))).set 5 (.inl (0, 150, .inl (upd (fun _ => 0) (Int32.toNatClampNeg 0) (-1))))).set 1 (.inr (6, [.int 0, .int 1, .int 0, .int 0, .int 0, .int 0, .int 0, .ref 2, .ref 3, .ref 4, .ref 5, .ref 6, .ref 7, .ref 8, .ref 9, .ref 10, .ref 11, .ref 12]))).set 6 (.inl (0, 150, .inl (upd (fun _ => 0) (Int32.toNatClampNeg 0) 0)))), h.2)) f80_67 (gs_ne (gs_ne (gs_ne (gs_ne (gs_ne (gs_ne g6 (by decide)) (by decide)) (by decide)) (by decide)) (by decide)) (by decide)) (by decide) rfl).trans ?_
    refine (r_aloadn f80_68 rfl).trans ?_
    refine (r_dup f80_69 rfl).trans ?_
    refine (r_get (v := .int 0) f80_70 (gs_ne (gs_eq (gs_ne (gs_ne (gs_ne (gs_ne (gs_ne g1 (by decide)) (by decide)) (by decide)) (by decide)) (by decide))) (by decide)) rfl).trans ?_
    refine (r_iconst (v := 1) f80_73 rfl).trans ?_
    refine (r_iadd (v := 1) f80_74 (by decide)).trans ?_
    refine (r_put (h' := (((((((((h.1.set 2 (.inl (0, 150, .inl (upd (fun _ => 0) (Int32.toNatClampNeg 0) 6)))).set 3 (.inl (0, 150, .inl (upd (fun _ => 0) (Int32.toNatClampNeg 0) x1)))).set 7 (.inl (0, 150, .inl (upd (fun _ => 0) (Int32.toNatClampNeg 0) (-1))))).set 4 (.inl (0, 150, .inl (upd (fun _ => 0) (Int32.toNatClampNeg 0) 0)))).set 5 (.inl (0, 150, .inl (upd (fun _ => 0) (Int32.toNatClampNeg 0) (-1))))).set 1 (.inr (6, [.int 0, .int 1, .int 0, .int 0, .int 0, .int 0, .int 0, .ref 2, .ref 3, .ref 4, .ref 5, .ref 6, .ref 7, .ref 8, .ref 9, .ref 10, .ref 11, .ref 12]))).set 6 (.inl (0, 150, .inl (upd (fun _ => 0) (Int32.toNatClampNeg 0) 0)))).set 1 (.inr (6, [.int 0, .int 1, .int 0, .int 0, .int 1, .int 0, .int 0, .ref 2, .ref 3, .ref 4, .ref 5, .ref 6, .ref 7, .ref 8, .ref 9, .ref 10, .ref 11, .ref 12]))), h.2)) f80_75 (gs_ne (gs_eq (gs_ne (gs_ne (gs_ne (gs_ne (gs_ne g1 (by decide)) (by decide)) (by decide)) (by decide)) (by decide))) (by decide)) rfl rfl).trans ?_
    refine (r_iloadn f80_78 rfl).trans ?_
    exact r_ireturn f80_79 rfl
  refine (r_virt (as := [.int x1]) (v := (some (.int 0))) (h1 := (((((((((h.1.set 2 (.inl (0, 150, .inl (upd (fun _ => 0) (Int32.toNatClampNeg 0) 6)))).set 3 (.inl (0, 150, .inl (upd (fun _ => 0) (Int32.toNatClampNeg 0) x1)))).set 7 (.inl (0, 150, .inl (upd (fun _ => 0) (Int32.toNatClampNeg 0) (-1))))).set 4 (.inl (0, 150, .inl (upd (fun _ => 0) (Int32.toNatClampNeg 0) 0)))).set 5 (.inl (0, 150, .inl (upd (fun _ => 0) (Int32.toNatClampNeg 0) (-1))))).set 1 (.inr (6, [.int 0, .int 1, .int 0, .int 0, .int 0, .int 0, .int 0, .ref 2, .ref 3, .ref 4, .ref 5, .ref 6, .ref 7, .ref 8, .ref 9, .ref 10, .ref 11, .ref 12]))).set 6 (.inl (0, 150, .inl (upd (fun _ => 0) (Int32.toNatClampNeg 0) 0)))).set 1 (.inr (6, [.int 0, .int 1, .int 0, .int 0, .int 1, .int 0, .int 0, .ref 2, .ref 3, .ref 4, .ref 5, .ref 6, .ref 7, .ref 8, .ref 9, .ref 10, .ref 11, .ref 12]))), h.2)) f151_33 g1 zg80 rfl rfl rfl rfl rfl rfl hc3).trans ?_
  exact r_ireturn f151_36 rfl
set_option maxHeartbeats 40000000 in
theorem qm7_2_0 {X : aX} {n d : Nat} {h : aH} {x1 : Int32}  (g72 : h.1[72]? = some (.inr (12, zF72))) (g73 : h.1[73]? = some (.inl (0, 150, .inl (fun _ => 0)))) (g75 : h.1[75]? = some (.inl (0, 150, .inl (fun _ => 0)))) (g76 : h.1[76]? = some (.inl (0, 150, .inl (fun _ => 0)))) (g77 : h.1[77]? = some (.inl (0, 150, .inl (fun _ => 0)))) (g79 : h.1[79]? = some (.inl (0, 150, .inl (fun _ => 0)))) (ec0 : ¬ x1 < 1) (ec1 : ¬ 999 < x1) : arun X (n + 48) (d + 2) zM208 0 [some (.ref 72), some (.int x1), none] [] h = some (some (.int 0), (((((((h.1.set 73 (.inl (0, 150, .inl (upd (fun _ => 0) (Int32.toNatClampNeg 0) 6)))).set 75 (.inl (0, 150, .inl (upd (fun _ => 0) (Int32.toNatClampNeg 0) (-1))))).set 76 (.inl (0, 150, .inl (upd (fun _ => 0) (Int32.toNatClampNeg 0) 0)))).set 77 (.inl (0, 150, .inl (upd (fun _ => 0) (Int32.toNatClampNeg 0) (-1))))).set 72 (.inr (12, (zF72.set 2 (.int 1))))).set 79 (.inl (0, 150, .inl (upd (fun _ => 0) (Int32.toNatClampNeg 0) x1)))), h.2)) := by
  refine (r_iloadn f208_0 rfl).trans ?_
  refine (r_iconst (v := 1) f208_1 rfl).trans ?_
  refine (r_sipush (v := 999) f208_2 rfl).trans ?_
  have hc1 : arun X (n + 44) (d + 1) zM196 0 [some (.int x1), some (.int 1), some (.int 999)] [] h = some ((some (.int 1)), h) := by
    refine (r_iloadn f196_0 rfl).trans ?_
    refine (r_iloadn f196_1 rfl).trans ?_
    refine (r_icmp_lt_f f196_2 ec0).trans ?_
    refine (r_iloadn f196_5 rfl).trans ?_
    refine (r_iloadn f196_6 rfl).trans ?_
    refine (r_icmp_gt_f f196_7 ec1).trans ?_
    refine (r_iconst (v := 1) f196_10 rfl).trans ?_
    refine (r_goto f196_11).trans ?_
    exact r_zreturn f196_15 rfl (by decide)
  refine (r_stat (as := [.int x1, .int 1, .int 999]) (v := (some (.int 1))) (h1 := h) f208_5 rfl zg196 rfl rfl rfl rfl rfl rfl hc1).trans ?_
  refine (r_if_ne_t f208_8 (by decide)).trans ?_
  refine (r_aloadn f208_13 rfl).trans ?_
  refine (r_get (v := .int 0) f208_14 g72 rfl).trans ?_
  refine (r_sipush (v := 150) f208_17 rfl).trans ?_
  refine (r_icmp_ne_t f208_20 (by decide)).trans ?_
  refine (r_aloadn f208_26 rfl).trans ?_
  refine (r_bipush (v := 6) f208_27 rfl).trans ?_
  have hc2 : arun X (n + 36) (d + 1) zM204 0 [some (.ref 72), some (.int 6)] [] h = some ((some (.int 0)), ((((((h.1.set 73 (.inl (0, 150, .inl (upd (fun _ => 0) (Int32.toNatClampNeg 0) 6)))).set 75 (.inl (0, 150, .inl (upd (fun _ => 0) (Int32.toNatClampNeg 0) (-1))))).set 76 (.inl (0, 150, .inl (upd (fun _ => 0) (Int32.toNatClampNeg 0) 0)))).set 77 (.inl (0, 150, .inl (upd (fun _ => 0) (Int32.toNatClampNeg 0) (-1))))).set 72 (.inr (12, (zF72.set 2 (.int 1))))), h.2)) := by
    refine (r_aloadn f204_0 rfl).trans ?_
    refine (r_get (v := .ref 73) f204_1 g72 rfl).trans ?_
    refine (r_aloadn f204_4 rfl).trans ?_
    refine (r_get (v := .int 0) f204_5 g72 rfl).trans ?_
    refine (r_iloadn f204_8 rfl).trans ?_
    refine (r_iast (h' := ((h.1.set 73 (.inl (0, 150, .inl (upd (fun _ => 0) (Int32.toNatClampNeg 0) 6)))), h.2)) f204_9 g73 (by decide) rfl).trans ?_
    refine (r_aloadn f204_10 rfl).trans ?_
    refine (r_get (v := .ref 75) f204_11 (gs_ne g72 (by decide)) rfl).trans ?_
    refine (r_aloadn f204_14 rfl).trans ?_
    refine (r_get (v := .int 0) f204_15 (gs_ne g72 (by decide)) rfl).trans ?_
    refine (r_iconst (v := (-1)) f204_18 rfl).trans ?_
    refine (r_iast (h' := (((h.1.set 73 (.inl (0, 150, .inl (upd (fun _ => 0) (Int32.toNatClampNeg 0) 6)))).set 75 (.inl (0, 150, .inl (upd (fun _ => 0) (Int32.toNatClampNeg 0) (-1))))), h.2)) f204_19 (gs_ne g75 (by decide)) (by decide) rfl).trans ?_
    refine (r_aloadn f204_20 rfl).trans ?_
    refine (r_get (v := .ref 76) f204_21 (gs_ne (gs_ne g72 (by decide)) (by decide)) rfl).trans ?_
    refine (r_aloadn f204_24 rfl).trans ?_
    refine (r_get (v := .int 0) f204_25 (gs_ne (gs_ne g72 (by decide)) (by decide)) rfl).trans ?_
    refine (r_aloadn f204_28 rfl).trans ?_
    refine (r_get (v := .int 0) f204_29 (gs_ne (gs_ne g72 (by decide)) (by decide)) rfl).trans ?_
    refine (r_iast (h' := ((((h.1.set 73 (.inl (0, 150, .inl (upd (fun _ => 0) (Int32.toNatClampNeg 0) 6)))).set 75 (.inl (0, 150, .inl (upd (fun _ => 0) (Int32.toNatClampNeg 0) (-1))))).set 76 (.inl (0, 150, .inl (upd (fun _ => 0) (Int32.toNatClampNeg 0) 0)))), h.2)) f204_32 (gs_ne (gs_ne g76 (by decide)) (by decide)) (by decide) rfl).trans ?_
    refine (r_aloadn f204_33 rfl).trans ?_
    refine (r_get (v := .ref 77) f204_34 (gs_ne (gs_ne (gs_ne g72 (by decide)) (by decide)) (by decide)) rfl).trans ?_
    refine (r_aloadn f204_37 rfl).trans ?_
    refine (r_get (v := .int 0) f204_38 (gs_ne (gs_ne (gs_ne g72 (by decide)) (by decide)) (by decide)) rfl).trans ?_
    refine (r_iconst (v := (-1)) f204_41 rfl).trans ?_
    refine (r_iast (h' := (((((h.1.set 73 (.inl (0, 150, .inl (upd (fun _ => 0) (Int32.toNatClampNeg 0) 6)))).set 75 (.inl (0, 150, .inl (upd (fun _ => 0) (Int32.toNatClampNeg 0) (-1))))).set 76 (.inl (0, 150, .inl (upd (fun _ => 0) (Int32.toNatClampNeg 0) 0)))).set 77 (.inl (0, 150, .inl (upd (fun _ => 0) (Int32.toNatClampNeg 0) (-1))))), h.2)) f204_42 (gs_ne (gs_ne (gs_ne g77 (by decide)) (by decide)) (by decide)) (by decide) rfl).trans ?_
    refine (r_aloadn f204_43 rfl).trans ?_
    refine (r_dup f204_44 rfl).trans ?_
    refine (r_get (v := .int 0) f204_45 (gs_ne (gs_ne (gs_ne (gs_ne g72 (by decide)) (by decide)) (by decide)) (by decide)) rfl).trans ?_
    refine (r_iconst (v := 1) f204_48 rfl).trans ?_
    refine (r_iadd (v := 1) f204_49 (by decide)).trans ?_
    refine (r_put (h' := ((((((h.1.set 73 (.inl (0, 150, .inl (upd (fun _ => 0) (Int32.toNatClampNeg 0) 6)))).set 75 (.inl (0, 150, .inl (upd (fun _ => 0) (Int32.toNatClampNeg 0) (-1))))).set 76 (.inl (0, 150, .inl (upd (fun _ => 0) (Int32.toNatClampNeg 0) 0)))).set 77 (.inl (0, 150, .inl (upd (fun _ => 0) (Int32.toNatClampNeg 0) (-1))))).set 72 (.inr (12, (zF72.set 2 (.int 1))))), h.2)) f204_50 (gs_ne (gs_ne (gs_ne (gs_ne g72 (by decide)) (by decide)) (by decide)) (by decide)) rfl rfl).trans ?_
    refine (r_aloadn f204_53 rfl).trans ?_
    refine (r_get (v := .int 1) f204_54 (gs_eq (gs_ne (gs_ne (gs_ne (gs_ne g72 (by decide)) (by decide)) (by decide)) (by decide))) rfl).trans ?_
    refine (r_iconst (v := 1) f204_57 rfl).trans ?_
    refine (r_isub (v := 0) f204_58 (by decide)).trans ?_
    exact r_ireturn f204_59 rfl
  refine (r_virt (as := [.int 6]) (v := (some (.int 0))) (h1 := ((((((h.1.set 73 (.inl (0, 150, .inl (upd (fun _ => 0) (Int32.toNatClampNeg 0) 6)))).set 75 (.inl (0, 150, .inl (upd (fun _ => 0) (Int32.toNatClampNeg 0) (-1))))).set 76 (.inl (0, 150, .inl (upd (fun _ => 0) (Int32.toNatClampNeg 0) 0)))).set 77 (.inl (0, 150, .inl (upd (fun _ => 0) (Int32.toNatClampNeg 0) (-1))))).set 72 (.inr (12, (zF72.set 2 (.int 1))))), h.2)) f208_29 g72 zg204 rfl rfl rfl rfl rfl rfl hc2).trans ?_
  refine (r_istoren (L' := [some (.ref 72), some (.int x1), some (.int 0)]) f208_32 rfl rfl).trans ?_
  refine (r_aloadn f208_33 rfl).trans ?_
  refine (r_get (v := .ref 79) f208_34 (gs_eq (gs_ne (gs_ne (gs_ne (gs_ne g72 (by decide)) (by decide)) (by decide)) (by decide))) rfl).trans ?_
  refine (r_iloadn f208_37 rfl).trans ?_
  refine (r_iloadn f208_38 rfl).trans ?_
  refine (r_iast (h' := (((((((h.1.set 73 (.inl (0, 150, .inl (upd (fun _ => 0) (Int32.toNatClampNeg 0) 6)))).set 75 (.inl (0, 150, .inl (upd (fun _ => 0) (Int32.toNatClampNeg 0) (-1))))).set 76 (.inl (0, 150, .inl (upd (fun _ => 0) (Int32.toNatClampNeg 0) 0)))).set 77 (.inl (0, 150, .inl (upd (fun _ => 0) (Int32.toNatClampNeg 0) (-1))))).set 72 (.inr (12, (zF72.set 2 (.int 1))))).set 79 (.inl (0, 150, .inl (upd (fun _ => 0) (Int32.toNatClampNeg 0) x1)))), h.2)) f208_39 (gs_ne (gs_ne (gs_ne (gs_ne (gs_ne g79 (by decide)) (by decide)) (by decide)) (by decide)) (by decide)) (by decide) rfl).trans ?_
  refine (r_iloadn f208_40 rfl).trans ?_
  exact r_ireturn f208_41 rfl
set_option maxHeartbeats 40000000 in
theorem qc8_0 {X : aX} {n d : Nat} {h : aH} {x1 : Int32} {x2 : Int32}  (g0 : h.1[0]? = some (.inr (11, zF0))) (g1 : h.1[1]? = some (.inr (6, zF1))) (ec0 : x1 < 0) : arun X (n + 16) (d + 3) zM152 0 [some (.ref 0), some (.int x1), some (.int x2), none, none] [] h = some (some (.int (-2000000000)), h) := by
  refine (r_aloadn f152_0 rfl).trans ?_
  refine (r_get (v := .ref 1) f152_1 g0 rfl).trans ?_
  refine (r_iloadn f152_4 rfl).trans ?_
  have hc1 : arun X (n + 12) (d + 2) zM74 0 [some (.ref 1), some (.int x1)] [] h = some ((some (.int 0)), h) := by
    refine (r_iloadn f74_0 rfl).trans ?_
    refine (r_iconst (v := 0) f74_1 rfl).trans ?_
    refine (r_aloadn f74_2 rfl).trans ?_
    refine (r_get (v := .int 0) f74_3 g1 rfl).trans ?_
    refine (r_iconst (v := 1) f74_6 rfl).trans ?_
    refine (r_isub (v := (-1)) f74_7 (by decide)).trans ?_
    have hc2 : arun X (n + 5) (d + 1) zM137 0 [some (.int x1), some (.int 0), some (.int (-1))] [] h = some ((some (.int 0)), h) := by
      refine (r_iloadn f137_0 rfl).trans ?_
      refine (r_iloadn f137_1 rfl).trans ?_
      refine (r_icmp_gt_t f137_2 ec0).trans ?_
      refine (r_iconst (v := 0) f137_14 rfl).trans ?_
      exact r_zreturn f137_15 rfl (by decide)
    refine (r_stat (as := [.int x1, .int 0, .int (-1)]) (v := (some (.int 0))) (h1 := h) f74_8 rfl zg137 rfl rfl rfl rfl rfl rfl hc2).trans ?_
    exact r_zreturn f74_11 rfl (by decide)
  refine (r_virt (as := [.int x1]) (v := (some (.int 0))) (h1 := h) f152_5 g1 zg74 rfl rfl rfl rfl rfl rfl hc1).trans ?_
  refine (r_if_ne_f f152_8 (by decide)).trans ?_
  refine (r_ldc (v := (-2000000000)) f152_11 (by decide)).trans ?_
  exact r_ireturn f152_13 rfl
set_option maxHeartbeats 40000000 in
theorem qm8_0_0 {X : aX} {n d : Nat} {h : aH} {x1 : Int32} {x2 : Int32}  (g72 : h.1[72]? = some (.inr (12, zF72))) (ec0 : x1 < 0) : arun X (n + 15) (d + 3) zM228 0 [some (.ref 72), some (.int x1), some (.int x2)] [] h = some (some (.int (-2000000000)), h) := by
  refine (r_aloadn f228_0 rfl).trans ?_
  refine (r_iloadn f228_1 rfl).trans ?_
  have hc1 : arun X (n + 12) (d + 2) zM200 0 [some (.ref 72), some (.int x1)] [] h = some ((some (.int 0)), h) := by
    refine (r_iloadn f200_0 rfl).trans ?_
    refine (r_iconst (v := 0) f200_1 rfl).trans ?_
    refine (r_aloadn f200_2 rfl).trans ?_
    refine (r_get (v := .int 0) f200_3 g72 rfl).trans ?_
    refine (r_iconst (v := 1) f200_6 rfl).trans ?_
    refine (r_isub (v := (-1)) f200_7 (by decide)).trans ?_
    have hc2 : arun X (n + 5) (d + 1) zM196 0 [some (.int x1), some (.int 0), some (.int (-1))] [] h = some ((some (.int 0)), h) := by
      refine (r_iloadn f196_0 rfl).trans ?_
      refine (r_iloadn f196_1 rfl).trans ?_
      refine (r_icmp_lt_t f196_2 ec0).trans ?_
      refine (r_iconst (v := 0) f196_14 rfl).trans ?_
      exact r_zreturn f196_15 rfl (by decide)
    refine (r_stat (as := [.int x1, .int 0, .int (-1)]) (v := (some (.int 0))) (h1 := h) f200_8 rfl zg196 rfl rfl rfl rfl rfl rfl hc2).trans ?_
    exact r_zreturn f200_11 rfl (by decide)
  refine (r_virt (as := [.int x1]) (v := (some (.int 0))) (h1 := h) f228_2 g72 zg200 rfl rfl rfl rfl rfl rfl hc1).trans ?_
  refine (r_if_ne_f f228_5 (by decide)).trans ?_
  refine (r_ldcw (v := (-2000000000)) f228_8 (by decide)).trans ?_
  exact r_ireturn f228_11 rfl
set_option maxHeartbeats 40000000 in
theorem qc8_1 {X : aX} {n d : Nat} {h : aH} {x1 : Int32} {x2 : Int32}  (g0 : h.1[0]? = some (.inr (11, zF0))) (g1 : h.1[1]? = some (.inr (6, zF1))) (ec0 : ¬ x1 < 0) (ec1 : (-1) < x1) : arun X (n + 19) (d + 3) zM152 0 [some (.ref 0), some (.int x1), some (.int x2), none, none] [] h = some (some (.int (-2000000000)), h) := by
  refine (r_aloadn f152_0 rfl).trans ?_
  refine (r_get (v := .ref 1) f152_1 g0 rfl).trans ?_
  refine (r_iloadn f152_4 rfl).trans ?_
  have hc1 : arun X (n + 15) (d + 2) zM74 0 [some (.ref 1), some (.int x1)] [] h = some ((some (.int 0)), h) := by
    refine (r_iloadn f74_0 rfl).trans ?_
    refine (r_iconst (v := 0) f74_1 rfl).trans ?_
    refine (r_aloadn f74_2 rfl).trans ?_
    refine (r_get (v := .int 0) f74_3 g1 rfl).trans ?_
    refine (r_iconst (v := 1) f74_6 rfl).trans ?_
    refine (r_isub (v := (-1)) f74_7 (by decide)).trans ?_
    have hc2 : arun X (n + 8) (d + 1) zM137 0 [some (.int x1), some (.int 0), some (.int (-1))] [] h = some ((some (.int 0)), h) := by
      refine (r_iloadn f137_0 rfl).trans ?_
      refine (r_iloadn f137_1 rfl).trans ?_
      refine (r_icmp_gt_f f137_2 ec0).trans ?_
      refine (r_iloadn f137_5 rfl).trans ?_
      refine (r_iloadn f137_6 rfl).trans ?_
      refine (r_icmp_gt_t f137_7 ec1).trans ?_
      refine (r_iconst (v := 0) f137_14 rfl).trans ?_
      exact r_zreturn f137_15 rfl (by decide)
    refine (r_stat (as := [.int x1, .int 0, .int (-1)]) (v := (some (.int 0))) (h1 := h) f74_8 rfl zg137 rfl rfl rfl rfl rfl rfl hc2).trans ?_
    exact r_zreturn f74_11 rfl (by decide)
  refine (r_virt (as := [.int x1]) (v := (some (.int 0))) (h1 := h) f152_5 g1 zg74 rfl rfl rfl rfl rfl rfl hc1).trans ?_
  refine (r_if_ne_f f152_8 (by decide)).trans ?_
  refine (r_ldc (v := (-2000000000)) f152_11 (by decide)).trans ?_
  exact r_ireturn f152_13 rfl
set_option maxHeartbeats 40000000 in
theorem qm8_1_0 {X : aX} {n d : Nat} {h : aH} {x1 : Int32} {x2 : Int32}  (g72 : h.1[72]? = some (.inr (12, zF72))) (ec0 : ¬ x1 < 0) (ec1 : (-1) < x1) : arun X (n + 18) (d + 3) zM228 0 [some (.ref 72), some (.int x1), some (.int x2)] [] h = some (some (.int (-2000000000)), h) := by
  refine (r_aloadn f228_0 rfl).trans ?_
  refine (r_iloadn f228_1 rfl).trans ?_
  have hc1 : arun X (n + 15) (d + 2) zM200 0 [some (.ref 72), some (.int x1)] [] h = some ((some (.int 0)), h) := by
    refine (r_iloadn f200_0 rfl).trans ?_
    refine (r_iconst (v := 0) f200_1 rfl).trans ?_
    refine (r_aloadn f200_2 rfl).trans ?_
    refine (r_get (v := .int 0) f200_3 g72 rfl).trans ?_
    refine (r_iconst (v := 1) f200_6 rfl).trans ?_
    refine (r_isub (v := (-1)) f200_7 (by decide)).trans ?_
    have hc2 : arun X (n + 8) (d + 1) zM196 0 [some (.int x1), some (.int 0), some (.int (-1))] [] h = some ((some (.int 0)), h) := by
      refine (r_iloadn f196_0 rfl).trans ?_
      refine (r_iloadn f196_1 rfl).trans ?_
      refine (r_icmp_lt_f f196_2 ec0).trans ?_
      refine (r_iloadn f196_5 rfl).trans ?_
      refine (r_iloadn f196_6 rfl).trans ?_
      refine (r_icmp_gt_t f196_7 ec1).trans ?_
      refine (r_iconst (v := 0) f196_14 rfl).trans ?_
      exact r_zreturn f196_15 rfl (by decide)
    refine (r_stat (as := [.int x1, .int 0, .int (-1)]) (v := (some (.int 0))) (h1 := h) f200_8 rfl zg196 rfl rfl rfl rfl rfl rfl hc2).trans ?_
    exact r_zreturn f200_11 rfl (by decide)
  refine (r_virt (as := [.int x1]) (v := (some (.int 0))) (h1 := h) f228_2 g72 zg200 rfl rfl rfl rfl rfl rfl hc1).trans ?_
  refine (r_if_ne_f f228_5 (by decide)).trans ?_
  refine (r_ldcw (v := (-2000000000)) f228_8 (by decide)).trans ?_
  exact r_ireturn f228_11 rfl
set_option maxHeartbeats 40000000 in
theorem qc9_0 {X : aX} {n d : Nat} {h : aH} {x1 : Int32} {x2 : Int32} {x3 : Int32}  (g0 : h.1[0]? = some (.inr (11, zF0))) (g1 : h.1[1]? = some (.inr (6, zF1))) (ec0 : x1 < 0) : arun X (n + 19) (d + 4) zM153 0 [some (.ref 0), some (.int x1), some (.int x2), some (.int x3)] [] h = some (some (.int (-1)), h) := by
  refine (r_aloadn f153_0 rfl).trans ?_
  refine (r_get (v := .ref 1) f153_1 g0 rfl).trans ?_
  refine (r_iloadn f153_4 rfl).trans ?_
  have hc1 : arun X (n + 15) (d + 3) zM77 0 [some (.ref 1), some (.int x1)] [] h = some ((some (.int 0)), h) := by
    refine (r_aloadn f77_0 rfl).trans ?_
    refine (r_iloadn f77_1 rfl).trans ?_
    have hc2 : arun X (n + 12) (d + 2) zM74 0 [some (.ref 1), some (.int x1)] [] h = some ((some (.int 0)), h) := by
      refine (r_iloadn f74_0 rfl).trans ?_
      refine (r_iconst (v := 0) f74_1 rfl).trans ?_
      refine (r_aloadn f74_2 rfl).trans ?_
      refine (r_get (v := .int 0) f74_3 g1 rfl).trans ?_
      refine (r_iconst (v := 1) f74_6 rfl).trans ?_
      refine (r_isub (v := (-1)) f74_7 (by decide)).trans ?_
      have hc3 : arun X (n + 5) (d + 1) zM137 0 [some (.int x1), some (.int 0), some (.int (-1))] [] h = some ((some (.int 0)), h) := by
        refine (r_iloadn f137_0 rfl).trans ?_
        refine (r_iloadn f137_1 rfl).trans ?_
        refine (r_icmp_gt_t f137_2 ec0).trans ?_
        refine (r_iconst (v := 0) f137_14 rfl).trans ?_
        exact r_zreturn f137_15 rfl (by decide)
      refine (r_stat (as := [.int x1, .int 0, .int (-1)]) (v := (some (.int 0))) (h1 := h) f74_8 rfl zg137 rfl rfl rfl rfl rfl rfl hc3).trans ?_
      exact r_zreturn f74_11 rfl (by decide)
    refine (r_virt (as := [.int x1]) (v := (some (.int 0))) (h1 := h) f77_2 g1 zg74 rfl rfl rfl rfl rfl rfl hc2).trans ?_
    refine (r_if_eq_t f77_5 (by decide)).trans ?_
    refine (r_iconst (v := 0) f77_26 rfl).trans ?_
    exact r_zreturn f77_27 rfl (by decide)
  refine (r_virt (as := [.int x1]) (v := (some (.int 0))) (h1 := h) f153_5 g1 zg77 rfl rfl rfl rfl rfl rfl hc1).trans ?_
  refine (r_if_eq_t f153_8 (by decide)).trans ?_
  refine (r_iconst (v := (-1)) f153_31 rfl).trans ?_
  exact r_ireturn f153_32 rfl
set_option maxHeartbeats 40000000 in
theorem qm9_0_0 {X : aX} {n d : Nat} {h : aH} {x1 : Int32} {x2 : Int32} {x3 : Int32}  (g72 : h.1[72]? = some (.inr (12, zF72))) (ec0 : x1 < 0) : arun X (n + 18) (d + 4) zM223 0 [some (.ref 72), some (.int x1), some (.int x2), some (.int x3)] [] h = some (some (.int (-1)), h) := by
  refine (r_aloadn f223_0 rfl).trans ?_
  refine (r_iloadn f223_1 rfl).trans ?_
  have hc1 : arun X (n + 15) (d + 3) zM203 0 [some (.ref 72), some (.int x1)] [] h = some ((some (.int 0)), h) := by
    refine (r_aloadn f203_0 rfl).trans ?_
    refine (r_iloadn f203_1 rfl).trans ?_
    have hc2 : arun X (n + 12) (d + 2) zM200 0 [some (.ref 72), some (.int x1)] [] h = some ((some (.int 0)), h) := by
      refine (r_iloadn f200_0 rfl).trans ?_
      refine (r_iconst (v := 0) f200_1 rfl).trans ?_
      refine (r_aloadn f200_2 rfl).trans ?_
      refine (r_get (v := .int 0) f200_3 g72 rfl).trans ?_
      refine (r_iconst (v := 1) f200_6 rfl).trans ?_
      refine (r_isub (v := (-1)) f200_7 (by decide)).trans ?_
      have hc3 : arun X (n + 5) (d + 1) zM196 0 [some (.int x1), some (.int 0), some (.int (-1))] [] h = some ((some (.int 0)), h) := by
        refine (r_iloadn f196_0 rfl).trans ?_
        refine (r_iloadn f196_1 rfl).trans ?_
        refine (r_icmp_lt_t f196_2 ec0).trans ?_
        refine (r_iconst (v := 0) f196_14 rfl).trans ?_
        exact r_zreturn f196_15 rfl (by decide)
      refine (r_stat (as := [.int x1, .int 0, .int (-1)]) (v := (some (.int 0))) (h1 := h) f200_8 rfl zg196 rfl rfl rfl rfl rfl rfl hc3).trans ?_
      exact r_zreturn f200_11 rfl (by decide)
    refine (r_virt (as := [.int x1]) (v := (some (.int 0))) (h1 := h) f203_2 g72 zg200 rfl rfl rfl rfl rfl rfl hc2).trans ?_
    refine (r_if_eq_t f203_5 (by decide)).trans ?_
    refine (r_iconst (v := 0) f203_25 rfl).trans ?_
    exact r_zreturn f203_26 rfl (by decide)
  refine (r_virt (as := [.int x1]) (v := (some (.int 0))) (h1 := h) f223_2 g72 zg203 rfl rfl rfl rfl rfl rfl hc1).trans ?_
  refine (r_if_eq_t f223_5 (by decide)).trans ?_
  refine (r_iconst (v := (-1)) f223_28 rfl).trans ?_
  refine (r_goto f223_29).trans ?_
  exact r_ireturn f223_47 rfl
set_option maxHeartbeats 40000000 in
theorem qc9_1 {X : aX} {n d : Nat} {h : aH} {x1 : Int32} {x2 : Int32} {x3 : Int32}  (g0 : h.1[0]? = some (.inr (11, zF0))) (g1 : h.1[1]? = some (.inr (6, zF1))) (ec0 : ¬ x1 < 0) (ec1 : (-1) < x1) : arun X (n + 22) (d + 4) zM153 0 [some (.ref 0), some (.int x1), some (.int x2), some (.int x3)] [] h = some (some (.int (-1)), h) := by
  refine (r_aloadn f153_0 rfl).trans ?_
  refine (r_get (v := .ref 1) f153_1 g0 rfl).trans ?_
  refine (r_iloadn f153_4 rfl).trans ?_
  have hc1 : arun X (n + 18) (d + 3) zM77 0 [some (.ref 1), some (.int x1)] [] h = some ((some (.int 0)), h) := by
    refine (r_aloadn f77_0 rfl).trans ?_
    refine (r_iloadn f77_1 rfl).trans ?_
    have hc2 : arun X (n + 15) (d + 2) zM74 0 [some (.ref 1), some (.int x1)] [] h = some ((some (.int 0)), h) := by
      refine (r_iloadn f74_0 rfl).trans ?_
      refine (r_iconst (v := 0) f74_1 rfl).trans ?_
      refine (r_aloadn f74_2 rfl).trans ?_
      refine (r_get (v := .int 0) f74_3 g1 rfl).trans ?_
      refine (r_iconst (v := 1) f74_6 rfl).trans ?_
      refine (r_isub (v := (-1)) f74_7 (by decide)).trans ?_
      have hc3 : arun X (n + 8) (d + 1) zM137 0 [some (.int x1), some (.int 0), some (.int (-1))] [] h = some ((some (.int 0)), h) := by
        refine (r_iloadn f137_0 rfl).trans ?_
        refine (r_iloadn f137_1 rfl).trans ?_
        refine (r_icmp_gt_f f137_2 ec0).trans ?_
        refine (r_iloadn f137_5 rfl).trans ?_
        refine (r_iloadn f137_6 rfl).trans ?_
        refine (r_icmp_gt_t f137_7 ec1).trans ?_
        refine (r_iconst (v := 0) f137_14 rfl).trans ?_
        exact r_zreturn f137_15 rfl (by decide)
      refine (r_stat (as := [.int x1, .int 0, .int (-1)]) (v := (some (.int 0))) (h1 := h) f74_8 rfl zg137 rfl rfl rfl rfl rfl rfl hc3).trans ?_
      exact r_zreturn f74_11 rfl (by decide)
    refine (r_virt (as := [.int x1]) (v := (some (.int 0))) (h1 := h) f77_2 g1 zg74 rfl rfl rfl rfl rfl rfl hc2).trans ?_
    refine (r_if_eq_t f77_5 (by decide)).trans ?_
    refine (r_iconst (v := 0) f77_26 rfl).trans ?_
    exact r_zreturn f77_27 rfl (by decide)
  refine (r_virt (as := [.int x1]) (v := (some (.int 0))) (h1 := h) f153_5 g1 zg77 rfl rfl rfl rfl rfl rfl hc1).trans ?_
  refine (r_if_eq_t f153_8 (by decide)).trans ?_
  refine (r_iconst (v := (-1)) f153_31 rfl).trans ?_
  exact r_ireturn f153_32 rfl
set_option maxHeartbeats 40000000 in
theorem qm9_1_0 {X : aX} {n d : Nat} {h : aH} {x1 : Int32} {x2 : Int32} {x3 : Int32}  (g72 : h.1[72]? = some (.inr (12, zF72))) (ec0 : ¬ x1 < 0) (ec1 : (-1) < x1) : arun X (n + 21) (d + 4) zM223 0 [some (.ref 72), some (.int x1), some (.int x2), some (.int x3)] [] h = some (some (.int (-1)), h) := by
  refine (r_aloadn f223_0 rfl).trans ?_
  refine (r_iloadn f223_1 rfl).trans ?_
  have hc1 : arun X (n + 18) (d + 3) zM203 0 [some (.ref 72), some (.int x1)] [] h = some ((some (.int 0)), h) := by
    refine (r_aloadn f203_0 rfl).trans ?_
    refine (r_iloadn f203_1 rfl).trans ?_
    have hc2 : arun X (n + 15) (d + 2) zM200 0 [some (.ref 72), some (.int x1)] [] h = some ((some (.int 0)), h) := by
      refine (r_iloadn f200_0 rfl).trans ?_
      refine (r_iconst (v := 0) f200_1 rfl).trans ?_
      refine (r_aloadn f200_2 rfl).trans ?_
      refine (r_get (v := .int 0) f200_3 g72 rfl).trans ?_
      refine (r_iconst (v := 1) f200_6 rfl).trans ?_
      refine (r_isub (v := (-1)) f200_7 (by decide)).trans ?_
      have hc3 : arun X (n + 8) (d + 1) zM196 0 [some (.int x1), some (.int 0), some (.int (-1))] [] h = some ((some (.int 0)), h) := by
        refine (r_iloadn f196_0 rfl).trans ?_
        refine (r_iloadn f196_1 rfl).trans ?_
        refine (r_icmp_lt_f f196_2 ec0).trans ?_
        refine (r_iloadn f196_5 rfl).trans ?_
        refine (r_iloadn f196_6 rfl).trans ?_
        refine (r_icmp_gt_t f196_7 ec1).trans ?_
        refine (r_iconst (v := 0) f196_14 rfl).trans ?_
        exact r_zreturn f196_15 rfl (by decide)
      refine (r_stat (as := [.int x1, .int 0, .int (-1)]) (v := (some (.int 0))) (h1 := h) f200_8 rfl zg196 rfl rfl rfl rfl rfl rfl hc3).trans ?_
      exact r_zreturn f200_11 rfl (by decide)
    refine (r_virt (as := [.int x1]) (v := (some (.int 0))) (h1 := h) f203_2 g72 zg200 rfl rfl rfl rfl rfl rfl hc2).trans ?_
    refine (r_if_eq_t f203_5 (by decide)).trans ?_
    refine (r_iconst (v := 0) f203_25 rfl).trans ?_
    exact r_zreturn f203_26 rfl (by decide)
  refine (r_virt (as := [.int x1]) (v := (some (.int 0))) (h1 := h) f223_2 g72 zg203 rfl rfl rfl rfl rfl rfl hc1).trans ?_
  refine (r_if_eq_t f223_5 (by decide)).trans ?_
  refine (r_iconst (v := (-1)) f223_28 rfl).trans ?_
  refine (r_goto f223_29).trans ?_
  exact r_ireturn f223_47 rfl
set_option maxHeartbeats 40000000 in
theorem qc10_0 {X : aX} {n d : Nat} {h : aH} {x1 : Int32}  (g0 : h.1[0]? = some (.inr (11, zF0))) (g1 : h.1[1]? = some (.inr (6, zF1))) (ec0 : x1 < 0) : arun X (n + 19) (d + 4) zM154 0 [some (.ref 0), some (.int x1)] [] h = some (some (.int (-1)), h) := by
  refine (r_aloadn f154_0 rfl).trans ?_
  refine (r_get (v := .ref 1) f154_1 g0 rfl).trans ?_
  refine (r_iloadn f154_4 rfl).trans ?_
  have hc1 : arun X (n + 15) (d + 3) zM77 0 [some (.ref 1), some (.int x1)] [] h = some ((some (.int 0)), h) := by
    refine (r_aloadn f77_0 rfl).trans ?_
    refine (r_iloadn f77_1 rfl).trans ?_
    have hc2 : arun X (n + 12) (d + 2) zM74 0 [some (.ref 1), some (.int x1)] [] h = some ((some (.int 0)), h) := by
      refine (r_iloadn f74_0 rfl).trans ?_
      refine (r_iconst (v := 0) f74_1 rfl).trans ?_
      refine (r_aloadn f74_2 rfl).trans ?_
      refine (r_get (v := .int 0) f74_3 g1 rfl).trans ?_
      refine (r_iconst (v := 1) f74_6 rfl).trans ?_
      refine (r_isub (v := (-1)) f74_7 (by decide)).trans ?_
      have hc3 : arun X (n + 5) (d + 1) zM137 0 [some (.int x1), some (.int 0), some (.int (-1))] [] h = some ((some (.int 0)), h) := by
        refine (r_iloadn f137_0 rfl).trans ?_
        refine (r_iloadn f137_1 rfl).trans ?_
        refine (r_icmp_gt_t f137_2 ec0).trans ?_
        refine (r_iconst (v := 0) f137_14 rfl).trans ?_
        exact r_zreturn f137_15 rfl (by decide)
      refine (r_stat (as := [.int x1, .int 0, .int (-1)]) (v := (some (.int 0))) (h1 := h) f74_8 rfl zg137 rfl rfl rfl rfl rfl rfl hc3).trans ?_
      exact r_zreturn f74_11 rfl (by decide)
    refine (r_virt (as := [.int x1]) (v := (some (.int 0))) (h1 := h) f77_2 g1 zg74 rfl rfl rfl rfl rfl rfl hc2).trans ?_
    refine (r_if_eq_t f77_5 (by decide)).trans ?_
    refine (r_iconst (v := 0) f77_26 rfl).trans ?_
    exact r_zreturn f77_27 rfl (by decide)
  refine (r_virt (as := [.int x1]) (v := (some (.int 0))) (h1 := h) f154_5 g1 zg77 rfl rfl rfl rfl rfl rfl hc1).trans ?_
  refine (r_if_ne_f f154_8 (by decide)).trans ?_
  refine (r_iconst (v := (-1)) f154_11 rfl).trans ?_
  exact r_ireturn f154_12 rfl
set_option maxHeartbeats 40000000 in
theorem qm10_0_0 {X : aX} {n d : Nat} {h : aH} {x1 : Int32}  (g72 : h.1[72]? = some (.inr (12, zF72))) (ec0 : x1 < 0) : arun X (n + 18) (d + 4) zM224 0 [some (.ref 72), some (.int x1)] [] h = some (some (.int (-1)), h) := by
  refine (r_aloadn f224_0 rfl).trans ?_
  refine (r_iloadn f224_1 rfl).trans ?_
  have hc1 : arun X (n + 15) (d + 3) zM203 0 [some (.ref 72), some (.int x1)] [] h = some ((some (.int 0)), h) := by
    refine (r_aloadn f203_0 rfl).trans ?_
    refine (r_iloadn f203_1 rfl).trans ?_
    have hc2 : arun X (n + 12) (d + 2) zM200 0 [some (.ref 72), some (.int x1)] [] h = some ((some (.int 0)), h) := by
      refine (r_iloadn f200_0 rfl).trans ?_
      refine (r_iconst (v := 0) f200_1 rfl).trans ?_
      refine (r_aloadn f200_2 rfl).trans ?_
      refine (r_get (v := .int 0) f200_3 g72 rfl).trans ?_
      refine (r_iconst (v := 1) f200_6 rfl).trans ?_
      refine (r_isub (v := (-1)) f200_7 (by decide)).trans ?_
      have hc3 : arun X (n + 5) (d + 1) zM196 0 [some (.int x1), some (.int 0), some (.int (-1))] [] h = some ((some (.int 0)), h) := by
        refine (r_iloadn f196_0 rfl).trans ?_
        refine (r_iloadn f196_1 rfl).trans ?_
        refine (r_icmp_lt_t f196_2 ec0).trans ?_
        refine (r_iconst (v := 0) f196_14 rfl).trans ?_
        exact r_zreturn f196_15 rfl (by decide)
      refine (r_stat (as := [.int x1, .int 0, .int (-1)]) (v := (some (.int 0))) (h1 := h) f200_8 rfl zg196 rfl rfl rfl rfl rfl rfl hc3).trans ?_
      exact r_zreturn f200_11 rfl (by decide)
    refine (r_virt (as := [.int x1]) (v := (some (.int 0))) (h1 := h) f203_2 g72 zg200 rfl rfl rfl rfl rfl rfl hc2).trans ?_
    refine (r_if_eq_t f203_5 (by decide)).trans ?_
    refine (r_iconst (v := 0) f203_25 rfl).trans ?_
    exact r_zreturn f203_26 rfl (by decide)
  refine (r_virt (as := [.int x1]) (v := (some (.int 0))) (h1 := h) f224_2 g72 zg203 rfl rfl rfl rfl rfl rfl hc1).trans ?_
  refine (r_if_ne_f f224_5 (by decide)).trans ?_
  refine (r_iconst (v := (-1)) f224_8 rfl).trans ?_
  exact r_ireturn f224_9 rfl
set_option maxHeartbeats 40000000 in
theorem qc10_1 {X : aX} {n d : Nat} {h : aH} {x1 : Int32}  (g0 : h.1[0]? = some (.inr (11, zF0))) (g1 : h.1[1]? = some (.inr (6, zF1))) (ec0 : ¬ x1 < 0) (ec1 : (-1) < x1) : arun X (n + 22) (d + 4) zM154 0 [some (.ref 0), some (.int x1)] [] h = some (some (.int (-1)), h) := by
  refine (r_aloadn f154_0 rfl).trans ?_
  refine (r_get (v := .ref 1) f154_1 g0 rfl).trans ?_
  refine (r_iloadn f154_4 rfl).trans ?_
  have hc1 : arun X (n + 18) (d + 3) zM77 0 [some (.ref 1), some (.int x1)] [] h = some ((some (.int 0)), h) := by
    refine (r_aloadn f77_0 rfl).trans ?_
    refine (r_iloadn f77_1 rfl).trans ?_
    have hc2 : arun X (n + 15) (d + 2) zM74 0 [some (.ref 1), some (.int x1)] [] h = some ((some (.int 0)), h) := by
      refine (r_iloadn f74_0 rfl).trans ?_
      refine (r_iconst (v := 0) f74_1 rfl).trans ?_
      refine (r_aloadn f74_2 rfl).trans ?_
      refine (r_get (v := .int 0) f74_3 g1 rfl).trans ?_
      refine (r_iconst (v := 1) f74_6 rfl).trans ?_
      refine (r_isub (v := (-1)) f74_7 (by decide)).trans ?_
      have hc3 : arun X (n + 8) (d + 1) zM137 0 [some (.int x1), some (.int 0), some (.int (-1))] [] h = some ((some (.int 0)), h) := by
        refine (r_iloadn f137_0 rfl).trans ?_
        refine (r_iloadn f137_1 rfl).trans ?_
        refine (r_icmp_gt_f f137_2 ec0).trans ?_
        refine (r_iloadn f137_5 rfl).trans ?_
        refine (r_iloadn f137_6 rfl).trans ?_
        refine (r_icmp_gt_t f137_7 ec1).trans ?_
        refine (r_iconst (v := 0) f137_14 rfl).trans ?_
        exact r_zreturn f137_15 rfl (by decide)
      refine (r_stat (as := [.int x1, .int 0, .int (-1)]) (v := (some (.int 0))) (h1 := h) f74_8 rfl zg137 rfl rfl rfl rfl rfl rfl hc3).trans ?_
      exact r_zreturn f74_11 rfl (by decide)
    refine (r_virt (as := [.int x1]) (v := (some (.int 0))) (h1 := h) f77_2 g1 zg74 rfl rfl rfl rfl rfl rfl hc2).trans ?_
    refine (r_if_eq_t f77_5 (by decide)).trans ?_
    refine (r_iconst (v := 0) f77_26 rfl).trans ?_
    exact r_zreturn f77_27 rfl (by decide)
  refine (r_virt (as := [.int x1]) (v := (some (.int 0))) (h1 := h) f154_5 g1 zg77 rfl rfl rfl rfl rfl rfl hc1).trans ?_
  refine (r_if_ne_f f154_8 (by decide)).trans ?_
  refine (r_iconst (v := (-1)) f154_11 rfl).trans ?_
  exact r_ireturn f154_12 rfl
set_option maxHeartbeats 40000000 in
theorem qm10_1_0 {X : aX} {n d : Nat} {h : aH} {x1 : Int32}  (g72 : h.1[72]? = some (.inr (12, zF72))) (ec0 : ¬ x1 < 0) (ec1 : (-1) < x1) : arun X (n + 21) (d + 4) zM224 0 [some (.ref 72), some (.int x1)] [] h = some (some (.int (-1)), h) := by
  refine (r_aloadn f224_0 rfl).trans ?_
  refine (r_iloadn f224_1 rfl).trans ?_
  have hc1 : arun X (n + 18) (d + 3) zM203 0 [some (.ref 72), some (.int x1)] [] h = some ((some (.int 0)), h) := by
    refine (r_aloadn f203_0 rfl).trans ?_
    refine (r_iloadn f203_1 rfl).trans ?_
    have hc2 : arun X (n + 15) (d + 2) zM200 0 [some (.ref 72), some (.int x1)] [] h = some ((some (.int 0)), h) := by
      refine (r_iloadn f200_0 rfl).trans ?_
      refine (r_iconst (v := 0) f200_1 rfl).trans ?_
      refine (r_aloadn f200_2 rfl).trans ?_
      refine (r_get (v := .int 0) f200_3 g72 rfl).trans ?_
      refine (r_iconst (v := 1) f200_6 rfl).trans ?_
      refine (r_isub (v := (-1)) f200_7 (by decide)).trans ?_
      have hc3 : arun X (n + 8) (d + 1) zM196 0 [some (.int x1), some (.int 0), some (.int (-1))] [] h = some ((some (.int 0)), h) := by
        refine (r_iloadn f196_0 rfl).trans ?_
        refine (r_iloadn f196_1 rfl).trans ?_
        refine (r_icmp_lt_f f196_2 ec0).trans ?_
        refine (r_iloadn f196_5 rfl).trans ?_
        refine (r_iloadn f196_6 rfl).trans ?_
        refine (r_icmp_gt_t f196_7 ec1).trans ?_
        refine (r_iconst (v := 0) f196_14 rfl).trans ?_
        exact r_zreturn f196_15 rfl (by decide)
      refine (r_stat (as := [.int x1, .int 0, .int (-1)]) (v := (some (.int 0))) (h1 := h) f200_8 rfl zg196 rfl rfl rfl rfl rfl rfl hc3).trans ?_
      exact r_zreturn f200_11 rfl (by decide)
    refine (r_virt (as := [.int x1]) (v := (some (.int 0))) (h1 := h) f203_2 g72 zg200 rfl rfl rfl rfl rfl rfl hc2).trans ?_
    refine (r_if_eq_t f203_5 (by decide)).trans ?_
    refine (r_iconst (v := 0) f203_25 rfl).trans ?_
    exact r_zreturn f203_26 rfl (by decide)
  refine (r_virt (as := [.int x1]) (v := (some (.int 0))) (h1 := h) f224_2 g72 zg203 rfl rfl rfl rfl rfl rfl hc1).trans ?_
  refine (r_if_ne_f f224_5 (by decide)).trans ?_
  refine (r_iconst (v := (-1)) f224_8 rfl).trans ?_
  exact r_ireturn f224_9 rfl
set_option maxHeartbeats 40000000 in
theorem qc11_0 {X : aX} {n d : Nat} {h : aH} {x1 : Int32} {x2 : Int32} {x3 : Int32}  (g0 : h.1[0]? = some (.inr (11, zF0))) (g1 : h.1[1]? = some (.inr (6, zF1))) (ec0 : x1 < 0) : arun X (n + 19) (d + 4) zM155 0 [some (.ref 0), some (.int x1), some (.int x2), some (.int x3)] [] h = some (some (.int (-1)), h) := by
  refine (r_aloadn f155_0 rfl).trans ?_
  refine (r_get (v := .ref 1) f155_1 g0 rfl).trans ?_
  refine (r_iloadn f155_4 rfl).trans ?_
  have hc1 : arun X (n + 15) (d + 3) zM78 0 [some (.ref 1), some (.int x1)] [] h = some ((some (.int 0)), h) := by
    refine (r_aloadn f78_0 rfl).trans ?_
    refine (r_iloadn f78_1 rfl).trans ?_
    have hc2 : arun X (n + 12) (d + 2) zM74 0 [some (.ref 1), some (.int x1)] [] h = some ((some (.int 0)), h) := by
      refine (r_iloadn f74_0 rfl).trans ?_
      refine (r_iconst (v := 0) f74_1 rfl).trans ?_
      refine (r_aloadn f74_2 rfl).trans ?_
      refine (r_get (v := .int 0) f74_3 g1 rfl).trans ?_
      refine (r_iconst (v := 1) f74_6 rfl).trans ?_
      refine (r_isub (v := (-1)) f74_7 (by decide)).trans ?_
      have hc3 : arun X (n + 5) (d + 1) zM137 0 [some (.int x1), some (.int 0), some (.int (-1))] [] h = some ((some (.int 0)), h) := by
        refine (r_iloadn f137_0 rfl).trans ?_
        refine (r_iloadn f137_1 rfl).trans ?_
        refine (r_icmp_gt_t f137_2 ec0).trans ?_
        refine (r_iconst (v := 0) f137_14 rfl).trans ?_
        exact r_zreturn f137_15 rfl (by decide)
      refine (r_stat (as := [.int x1, .int 0, .int (-1)]) (v := (some (.int 0))) (h1 := h) f74_8 rfl zg137 rfl rfl rfl rfl rfl rfl hc3).trans ?_
      exact r_zreturn f74_11 rfl (by decide)
    refine (r_virt (as := [.int x1]) (v := (some (.int 0))) (h1 := h) f78_2 g1 zg74 rfl rfl rfl rfl rfl rfl hc2).trans ?_
    refine (r_if_eq_t f78_5 (by decide)).trans ?_
    refine (r_iconst (v := 0) f78_27 rfl).trans ?_
    exact r_zreturn f78_28 rfl (by decide)
  refine (r_virt (as := [.int x1]) (v := (some (.int 0))) (h1 := h) f155_5 g1 zg78 rfl rfl rfl rfl rfl rfl hc1).trans ?_
  refine (r_if_eq_t f155_8 (by decide)).trans ?_
  refine (r_iconst (v := (-1)) f155_29 rfl).trans ?_
  exact r_ireturn f155_30 rfl
set_option maxHeartbeats 40000000 in
theorem qm11_0_0 {X : aX} {n d : Nat} {h : aH} {x1 : Int32} {x2 : Int32} {x3 : Int32}  (g72 : h.1[72]? = some (.inr (12, zF72))) (ec0 : x1 < 0) : arun X (n + 15) (d + 3) zM225 0 [some (.ref 72), some (.int x1), some (.int x2), some (.int x3)] [] h = some (some (.int (-1)), h) := by
  refine (r_aloadn f225_0 rfl).trans ?_
  refine (r_iloadn f225_1 rfl).trans ?_
  have hc1 : arun X (n + 12) (d + 2) zM200 0 [some (.ref 72), some (.int x1)] [] h = some ((some (.int 0)), h) := by
    refine (r_iloadn f200_0 rfl).trans ?_
    refine (r_iconst (v := 0) f200_1 rfl).trans ?_
    refine (r_aloadn f200_2 rfl).trans ?_
    refine (r_get (v := .int 0) f200_3 g72 rfl).trans ?_
    refine (r_iconst (v := 1) f200_6 rfl).trans ?_
    refine (r_isub (v := (-1)) f200_7 (by decide)).trans ?_
    have hc2 : arun X (n + 5) (d + 1) zM196 0 [some (.int x1), some (.int 0), some (.int (-1))] [] h = some ((some (.int 0)), h) := by
      refine (r_iloadn f196_0 rfl).trans ?_
      refine (r_iloadn f196_1 rfl).trans ?_
      refine (r_icmp_lt_t f196_2 ec0).trans ?_
      refine (r_iconst (v := 0) f196_14 rfl).trans ?_
      exact r_zreturn f196_15 rfl (by decide)
    refine (r_stat (as := [.int x1, .int 0, .int (-1)]) (v := (some (.int 0))) (h1 := h) f200_8 rfl zg196 rfl rfl rfl rfl rfl rfl hc2).trans ?_
    exact r_zreturn f200_11 rfl (by decide)
  refine (r_virt (as := [.int x1]) (v := (some (.int 0))) (h1 := h) f225_2 g72 zg200 rfl rfl rfl rfl rfl rfl hc1).trans ?_
  refine (r_if_eq_t f225_5 (by decide)).trans ?_
  refine (r_iconst (v := (-1)) f225_42 rfl).trans ?_
  exact r_ireturn f225_43 rfl
set_option maxHeartbeats 40000000 in
theorem qc11_1 {X : aX} {n d : Nat} {h : aH} {x1 : Int32} {x2 : Int32} {x3 : Int32}  (g0 : h.1[0]? = some (.inr (11, zF0))) (g1 : h.1[1]? = some (.inr (6, zF1))) (ec0 : ¬ x1 < 0) (ec1 : (-1) < x1) : arun X (n + 22) (d + 4) zM155 0 [some (.ref 0), some (.int x1), some (.int x2), some (.int x3)] [] h = some (some (.int (-1)), h) := by
  refine (r_aloadn f155_0 rfl).trans ?_
  refine (r_get (v := .ref 1) f155_1 g0 rfl).trans ?_
  refine (r_iloadn f155_4 rfl).trans ?_
  have hc1 : arun X (n + 18) (d + 3) zM78 0 [some (.ref 1), some (.int x1)] [] h = some ((some (.int 0)), h) := by
    refine (r_aloadn f78_0 rfl).trans ?_
    refine (r_iloadn f78_1 rfl).trans ?_
    have hc2 : arun X (n + 15) (d + 2) zM74 0 [some (.ref 1), some (.int x1)] [] h = some ((some (.int 0)), h) := by
      refine (r_iloadn f74_0 rfl).trans ?_
      refine (r_iconst (v := 0) f74_1 rfl).trans ?_
      refine (r_aloadn f74_2 rfl).trans ?_
      refine (r_get (v := .int 0) f74_3 g1 rfl).trans ?_
      refine (r_iconst (v := 1) f74_6 rfl).trans ?_
      refine (r_isub (v := (-1)) f74_7 (by decide)).trans ?_
      have hc3 : arun X (n + 8) (d + 1) zM137 0 [some (.int x1), some (.int 0), some (.int (-1))] [] h = some ((some (.int 0)), h) := by
        refine (r_iloadn f137_0 rfl).trans ?_
        refine (r_iloadn f137_1 rfl).trans ?_
        refine (r_icmp_gt_f f137_2 ec0).trans ?_
        refine (r_iloadn f137_5 rfl).trans ?_
        refine (r_iloadn f137_6 rfl).trans ?_
        refine (r_icmp_gt_t f137_7 ec1).trans ?_
        refine (r_iconst (v := 0) f137_14 rfl).trans ?_
        exact r_zreturn f137_15 rfl (by decide)
      refine (r_stat (as := [.int x1, .int 0, .int (-1)]) (v := (some (.int 0))) (h1 := h) f74_8 rfl zg137 rfl rfl rfl rfl rfl rfl hc3).trans ?_
      exact r_zreturn f74_11 rfl (by decide)
    refine (r_virt (as := [.int x1]) (v := (some (.int 0))) (h1 := h) f78_2 g1 zg74 rfl rfl rfl rfl rfl rfl hc2).trans ?_
    refine (r_if_eq_t f78_5 (by decide)).trans ?_
    refine (r_iconst (v := 0) f78_27 rfl).trans ?_
    exact r_zreturn f78_28 rfl (by decide)
  refine (r_virt (as := [.int x1]) (v := (some (.int 0))) (h1 := h) f155_5 g1 zg78 rfl rfl rfl rfl rfl rfl hc1).trans ?_
  refine (r_if_eq_t f155_8 (by decide)).trans ?_
  refine (r_iconst (v := (-1)) f155_29 rfl).trans ?_
  exact r_ireturn f155_30 rfl
set_option maxHeartbeats 40000000 in
theorem qm11_1_0 {X : aX} {n d : Nat} {h : aH} {x1 : Int32} {x2 : Int32} {x3 : Int32}  (g72 : h.1[72]? = some (.inr (12, zF72))) (ec0 : ¬ x1 < 0) (ec1 : (-1) < x1) : arun X (n + 18) (d + 3) zM225 0 [some (.ref 72), some (.int x1), some (.int x2), some (.int x3)] [] h = some (some (.int (-1)), h) := by
  refine (r_aloadn f225_0 rfl).trans ?_
  refine (r_iloadn f225_1 rfl).trans ?_
  have hc1 : arun X (n + 15) (d + 2) zM200 0 [some (.ref 72), some (.int x1)] [] h = some ((some (.int 0)), h) := by
    refine (r_iloadn f200_0 rfl).trans ?_
    refine (r_iconst (v := 0) f200_1 rfl).trans ?_
    refine (r_aloadn f200_2 rfl).trans ?_
    refine (r_get (v := .int 0) f200_3 g72 rfl).trans ?_
    refine (r_iconst (v := 1) f200_6 rfl).trans ?_
    refine (r_isub (v := (-1)) f200_7 (by decide)).trans ?_
    have hc2 : arun X (n + 8) (d + 1) zM196 0 [some (.int x1), some (.int 0), some (.int (-1))] [] h = some ((some (.int 0)), h) := by
      refine (r_iloadn f196_0 rfl).trans ?_
      refine (r_iloadn f196_1 rfl).trans ?_
      refine (r_icmp_lt_f f196_2 ec0).trans ?_
      refine (r_iloadn f196_5 rfl).trans ?_
      refine (r_iloadn f196_6 rfl).trans ?_
      refine (r_icmp_gt_t f196_7 ec1).trans ?_
      refine (r_iconst (v := 0) f196_14 rfl).trans ?_
      exact r_zreturn f196_15 rfl (by decide)
    refine (r_stat (as := [.int x1, .int 0, .int (-1)]) (v := (some (.int 0))) (h1 := h) f200_8 rfl zg196 rfl rfl rfl rfl rfl rfl hc2).trans ?_
    exact r_zreturn f200_11 rfl (by decide)
  refine (r_virt (as := [.int x1]) (v := (some (.int 0))) (h1 := h) f225_2 g72 zg200 rfl rfl rfl rfl rfl rfl hc1).trans ?_
  refine (r_if_eq_t f225_5 (by decide)).trans ?_
  refine (r_iconst (v := (-1)) f225_42 rfl).trans ?_
  exact r_ireturn f225_43 rfl
set_option maxHeartbeats 40000000 in
theorem qc12_0 {X : aX} {n d : Nat} {h : aH} {x1 : Int32} {x2 : Int32} {x3 : Int32}  (g0 : h.1[0]? = some (.inr (11, zF0))) (g1 : h.1[1]? = some (.inr (6, zF1))) (ec0 : x1 < 0) : arun X (n + 19) (d + 4) zM156 0 [some (.ref 0), some (.int x1), some (.int x2), some (.int x3), none] [] h = some (some (.int (-1)), h) := by
  refine (r_aloadn f156_0 rfl).trans ?_
  refine (r_get (v := .ref 1) f156_1 g0 rfl).trans ?_
  refine (r_iloadn f156_4 rfl).trans ?_
  have hc1 : arun X (n + 15) (d + 3) zM78 0 [some (.ref 1), some (.int x1)] [] h = some ((some (.int 0)), h) := by
    refine (r_aloadn f78_0 rfl).trans ?_
    refine (r_iloadn f78_1 rfl).trans ?_
    have hc2 : arun X (n + 12) (d + 2) zM74 0 [some (.ref 1), some (.int x1)] [] h = some ((some (.int 0)), h) := by
      refine (r_iloadn f74_0 rfl).trans ?_
      refine (r_iconst (v := 0) f74_1 rfl).trans ?_
      refine (r_aloadn f74_2 rfl).trans ?_
      refine (r_get (v := .int 0) f74_3 g1 rfl).trans ?_
      refine (r_iconst (v := 1) f74_6 rfl).trans ?_
      refine (r_isub (v := (-1)) f74_7 (by decide)).trans ?_
      have hc3 : arun X (n + 5) (d + 1) zM137 0 [some (.int x1), some (.int 0), some (.int (-1))] [] h = some ((some (.int 0)), h) := by
        refine (r_iloadn f137_0 rfl).trans ?_
        refine (r_iloadn f137_1 rfl).trans ?_
        refine (r_icmp_gt_t f137_2 ec0).trans ?_
        refine (r_iconst (v := 0) f137_14 rfl).trans ?_
        exact r_zreturn f137_15 rfl (by decide)
      refine (r_stat (as := [.int x1, .int 0, .int (-1)]) (v := (some (.int 0))) (h1 := h) f74_8 rfl zg137 rfl rfl rfl rfl rfl rfl hc3).trans ?_
      exact r_zreturn f74_11 rfl (by decide)
    refine (r_virt (as := [.int x1]) (v := (some (.int 0))) (h1 := h) f78_2 g1 zg74 rfl rfl rfl rfl rfl rfl hc2).trans ?_
    refine (r_if_eq_t f78_5 (by decide)).trans ?_
    refine (r_iconst (v := 0) f78_27 rfl).trans ?_
    exact r_zreturn f78_28 rfl (by decide)
  refine (r_virt (as := [.int x1]) (v := (some (.int 0))) (h1 := h) f156_5 g1 zg78 rfl rfl rfl rfl rfl rfl hc1).trans ?_
  refine (r_if_eq_t f156_8 (by decide)).trans ?_
  refine (r_iconst (v := (-1)) f156_25 rfl).trans ?_
  exact r_ireturn f156_26 rfl
set_option maxHeartbeats 40000000 in
theorem qm12_0_0 {X : aX} {n d : Nat} {h : aH} {x1 : Int32} {x2 : Int32} {x3 : Int32}  (g72 : h.1[72]? = some (.inr (12, zF72))) (ec0 : x1 < 0) : arun X (n + 15) (d + 3) zM227 0 [some (.ref 72), some (.int x1), some (.int x2), some (.int x3), none] [] h = some (some (.int (-1)), h) := by
  refine (r_aloadn f227_0 rfl).trans ?_
  refine (r_iloadn f227_1 rfl).trans ?_
  have hc1 : arun X (n + 12) (d + 2) zM200 0 [some (.ref 72), some (.int x1)] [] h = some ((some (.int 0)), h) := by
    refine (r_iloadn f200_0 rfl).trans ?_
    refine (r_iconst (v := 0) f200_1 rfl).trans ?_
    refine (r_aloadn f200_2 rfl).trans ?_
    refine (r_get (v := .int 0) f200_3 g72 rfl).trans ?_
    refine (r_iconst (v := 1) f200_6 rfl).trans ?_
    refine (r_isub (v := (-1)) f200_7 (by decide)).trans ?_
    have hc2 : arun X (n + 5) (d + 1) zM196 0 [some (.int x1), some (.int 0), some (.int (-1))] [] h = some ((some (.int 0)), h) := by
      refine (r_iloadn f196_0 rfl).trans ?_
      refine (r_iloadn f196_1 rfl).trans ?_
      refine (r_icmp_lt_t f196_2 ec0).trans ?_
      refine (r_iconst (v := 0) f196_14 rfl).trans ?_
      exact r_zreturn f196_15 rfl (by decide)
    refine (r_stat (as := [.int x1, .int 0, .int (-1)]) (v := (some (.int 0))) (h1 := h) f200_8 rfl zg196 rfl rfl rfl rfl rfl rfl hc2).trans ?_
    exact r_zreturn f200_11 rfl (by decide)
  refine (r_virt (as := [.int x1]) (v := (some (.int 0))) (h1 := h) f227_2 g72 zg200 rfl rfl rfl rfl rfl rfl hc1).trans ?_
  refine (r_if_eq_t f227_5 (by decide)).trans ?_
  refine (r_iconst (v := (-1)) f227_41 rfl).trans ?_
  exact r_ireturn f227_42 rfl
set_option maxHeartbeats 40000000 in
theorem qc12_1 {X : aX} {n d : Nat} {h : aH} {x1 : Int32} {x2 : Int32} {x3 : Int32}  (g0 : h.1[0]? = some (.inr (11, zF0))) (g1 : h.1[1]? = some (.inr (6, zF1))) (ec0 : ¬ x1 < 0) (ec1 : (-1) < x1) : arun X (n + 22) (d + 4) zM156 0 [some (.ref 0), some (.int x1), some (.int x2), some (.int x3), none] [] h = some (some (.int (-1)), h) := by
  refine (r_aloadn f156_0 rfl).trans ?_
  refine (r_get (v := .ref 1) f156_1 g0 rfl).trans ?_
  refine (r_iloadn f156_4 rfl).trans ?_
  have hc1 : arun X (n + 18) (d + 3) zM78 0 [some (.ref 1), some (.int x1)] [] h = some ((some (.int 0)), h) := by
    refine (r_aloadn f78_0 rfl).trans ?_
    refine (r_iloadn f78_1 rfl).trans ?_
    have hc2 : arun X (n + 15) (d + 2) zM74 0 [some (.ref 1), some (.int x1)] [] h = some ((some (.int 0)), h) := by
      refine (r_iloadn f74_0 rfl).trans ?_
      refine (r_iconst (v := 0) f74_1 rfl).trans ?_
      refine (r_aloadn f74_2 rfl).trans ?_
      refine (r_get (v := .int 0) f74_3 g1 rfl).trans ?_
      refine (r_iconst (v := 1) f74_6 rfl).trans ?_
      refine (r_isub (v := (-1)) f74_7 (by decide)).trans ?_
      have hc3 : arun X (n + 8) (d + 1) zM137 0 [some (.int x1), some (.int 0), some (.int (-1))] [] h = some ((some (.int 0)), h) := by
        refine (r_iloadn f137_0 rfl).trans ?_
        refine (r_iloadn f137_1 rfl).trans ?_
        refine (r_icmp_gt_f f137_2 ec0).trans ?_
        refine (r_iloadn f137_5 rfl).trans ?_
        refine (r_iloadn f137_6 rfl).trans ?_
        refine (r_icmp_gt_t f137_7 ec1).trans ?_
        refine (r_iconst (v := 0) f137_14 rfl).trans ?_
        exact r_zreturn f137_15 rfl (by decide)
      refine (r_stat (as := [.int x1, .int 0, .int (-1)]) (v := (some (.int 0))) (h1 := h) f74_8 rfl zg137 rfl rfl rfl rfl rfl rfl hc3).trans ?_
      exact r_zreturn f74_11 rfl (by decide)
    refine (r_virt (as := [.int x1]) (v := (some (.int 0))) (h1 := h) f78_2 g1 zg74 rfl rfl rfl rfl rfl rfl hc2).trans ?_
    refine (r_if_eq_t f78_5 (by decide)).trans ?_
    refine (r_iconst (v := 0) f78_27 rfl).trans ?_
    exact r_zreturn f78_28 rfl (by decide)
  refine (r_virt (as := [.int x1]) (v := (some (.int 0))) (h1 := h) f156_5 g1 zg78 rfl rfl rfl rfl rfl rfl hc1).trans ?_
  refine (r_if_eq_t f156_8 (by decide)).trans ?_
  refine (r_iconst (v := (-1)) f156_25 rfl).trans ?_
  exact r_ireturn f156_26 rfl
set_option maxHeartbeats 40000000 in
theorem qm12_1_0 {X : aX} {n d : Nat} {h : aH} {x1 : Int32} {x2 : Int32} {x3 : Int32}  (g72 : h.1[72]? = some (.inr (12, zF72))) (ec0 : ¬ x1 < 0) (ec1 : (-1) < x1) : arun X (n + 18) (d + 3) zM227 0 [some (.ref 72), some (.int x1), some (.int x2), some (.int x3), none] [] h = some (some (.int (-1)), h) := by
  refine (r_aloadn f227_0 rfl).trans ?_
  refine (r_iloadn f227_1 rfl).trans ?_
  have hc1 : arun X (n + 15) (d + 2) zM200 0 [some (.ref 72), some (.int x1)] [] h = some ((some (.int 0)), h) := by
    refine (r_iloadn f200_0 rfl).trans ?_
    refine (r_iconst (v := 0) f200_1 rfl).trans ?_
    refine (r_aloadn f200_2 rfl).trans ?_
    refine (r_get (v := .int 0) f200_3 g72 rfl).trans ?_
    refine (r_iconst (v := 1) f200_6 rfl).trans ?_
    refine (r_isub (v := (-1)) f200_7 (by decide)).trans ?_
    have hc2 : arun X (n + 8) (d + 1) zM196 0 [some (.int x1), some (.int 0), some (.int (-1))] [] h = some ((some (.int 0)), h) := by
      refine (r_iloadn f196_0 rfl).trans ?_
      refine (r_iloadn f196_1 rfl).trans ?_
      refine (r_icmp_lt_f f196_2 ec0).trans ?_
      refine (r_iloadn f196_5 rfl).trans ?_
      refine (r_iloadn f196_6 rfl).trans ?_
      refine (r_icmp_gt_t f196_7 ec1).trans ?_
      refine (r_iconst (v := 0) f196_14 rfl).trans ?_
      exact r_zreturn f196_15 rfl (by decide)
    refine (r_stat (as := [.int x1, .int 0, .int (-1)]) (v := (some (.int 0))) (h1 := h) f200_8 rfl zg196 rfl rfl rfl rfl rfl rfl hc2).trans ?_
    exact r_zreturn f200_11 rfl (by decide)
  refine (r_virt (as := [.int x1]) (v := (some (.int 0))) (h1 := h) f227_2 g72 zg200 rfl rfl rfl rfl rfl rfl hc1).trans ?_
  refine (r_if_eq_t f227_5 (by decide)).trans ?_
  refine (r_iconst (v := (-1)) f227_41 rfl).trans ?_
  exact r_ireturn f227_42 rfl
set_option maxHeartbeats 40000000 in
theorem qc13_0 {X : aX} {n d : Nat} {h : aH} {x1 : Int32} {x2 : Int32} {x3 : Int32}  (g0 : h.1[0]? = some (.inr (11, zF0))) (g1 : h.1[1]? = some (.inr (6, zF1))) (ec0 : x1 < 0) : arun X (n + 19) (d + 4) zM157 0 [some (.ref 0), some (.int x1), some (.int x2), some (.int x3)] [] h = some (some (.int (-1)), h) := by
  refine (r_aloadn f157_0 rfl).trans ?_
  refine (r_get (v := .ref 1) f157_1 g0 rfl).trans ?_
  refine (r_iloadn f157_4 rfl).trans ?_
  have hc1 : arun X (n + 15) (d + 3) zM75 0 [some (.ref 1), some (.int x1)] [] h = some ((some (.int 0)), h) := by
    refine (r_aloadn f75_0 rfl).trans ?_
    refine (r_iloadn f75_1 rfl).trans ?_
    have hc2 : arun X (n + 12) (d + 2) zM74 0 [some (.ref 1), some (.int x1)] [] h = some ((some (.int 0)), h) := by
      refine (r_iloadn f74_0 rfl).trans ?_
      refine (r_iconst (v := 0) f74_1 rfl).trans ?_
      refine (r_aloadn f74_2 rfl).trans ?_
      refine (r_get (v := .int 0) f74_3 g1 rfl).trans ?_
      refine (r_iconst (v := 1) f74_6 rfl).trans ?_
      refine (r_isub (v := (-1)) f74_7 (by decide)).trans ?_
      have hc3 : arun X (n + 5) (d + 1) zM137 0 [some (.int x1), some (.int 0), some (.int (-1))] [] h = some ((some (.int 0)), h) := by
        refine (r_iloadn f137_0 rfl).trans ?_
        refine (r_iloadn f137_1 rfl).trans ?_
        refine (r_icmp_gt_t f137_2 ec0).trans ?_
        refine (r_iconst (v := 0) f137_14 rfl).trans ?_
        exact r_zreturn f137_15 rfl (by decide)
      refine (r_stat (as := [.int x1, .int 0, .int (-1)]) (v := (some (.int 0))) (h1 := h) f74_8 rfl zg137 rfl rfl rfl rfl rfl rfl hc3).trans ?_
      exact r_zreturn f74_11 rfl (by decide)
    refine (r_virt (as := [.int x1]) (v := (some (.int 0))) (h1 := h) f75_2 g1 zg74 rfl rfl rfl rfl rfl rfl hc2).trans ?_
    refine (r_if_eq_t f75_5 (by decide)).trans ?_
    refine (r_iconst (v := 0) f75_24 rfl).trans ?_
    exact r_zreturn f75_25 rfl (by decide)
  refine (r_virt (as := [.int x1]) (v := (some (.int 0))) (h1 := h) f157_5 g1 zg75 rfl rfl rfl rfl rfl rfl hc1).trans ?_
  refine (r_if_eq_t f157_8 (by decide)).trans ?_
  refine (r_iconst (v := (-1)) f157_29 rfl).trans ?_
  exact r_ireturn f157_30 rfl
set_option maxHeartbeats 40000000 in
theorem qm13_0_0 {X : aX} {n d : Nat} {h : aH} {x1 : Int32} {x2 : Int32} {x3 : Int32}  (g72 : h.1[72]? = some (.inr (12, zF72))) (ec0 : x1 < 0) : arun X (n + 18) (d + 4) zM230 0 [some (.ref 72), some (.int x1), some (.int x2), some (.int x3)] [] h = some (some (.int (-1)), h) := by
  refine (r_aloadn f230_0 rfl).trans ?_
  refine (r_iloadn f230_1 rfl).trans ?_
  have hc1 : arun X (n + 15) (d + 3) zM202 0 [some (.ref 72), some (.int x1)] [] h = some ((some (.int 0)), h) := by
    refine (r_aloadn f202_0 rfl).trans ?_
    refine (r_iloadn f202_1 rfl).trans ?_
    have hc2 : arun X (n + 12) (d + 2) zM200 0 [some (.ref 72), some (.int x1)] [] h = some ((some (.int 0)), h) := by
      refine (r_iloadn f200_0 rfl).trans ?_
      refine (r_iconst (v := 0) f200_1 rfl).trans ?_
      refine (r_aloadn f200_2 rfl).trans ?_
      refine (r_get (v := .int 0) f200_3 g72 rfl).trans ?_
      refine (r_iconst (v := 1) f200_6 rfl).trans ?_
      refine (r_isub (v := (-1)) f200_7 (by decide)).trans ?_
      have hc3 : arun X (n + 5) (d + 1) zM196 0 [some (.int x1), some (.int 0), some (.int (-1))] [] h = some ((some (.int 0)), h) := by
        refine (r_iloadn f196_0 rfl).trans ?_
        refine (r_iloadn f196_1 rfl).trans ?_
        refine (r_icmp_lt_t f196_2 ec0).trans ?_
        refine (r_iconst (v := 0) f196_14 rfl).trans ?_
        exact r_zreturn f196_15 rfl (by decide)
      refine (r_stat (as := [.int x1, .int 0, .int (-1)]) (v := (some (.int 0))) (h1 := h) f200_8 rfl zg196 rfl rfl rfl rfl rfl rfl hc3).trans ?_
      exact r_zreturn f200_11 rfl (by decide)
    refine (r_virt (as := [.int x1]) (v := (some (.int 0))) (h1 := h) f202_2 g72 zg200 rfl rfl rfl rfl rfl rfl hc2).trans ?_
    refine (r_if_eq_t f202_5 (by decide)).trans ?_
    refine (r_iconst (v := 0) f202_25 rfl).trans ?_
    exact r_zreturn f202_26 rfl (by decide)
  refine (r_virt (as := [.int x1]) (v := (some (.int 0))) (h1 := h) f230_2 g72 zg202 rfl rfl rfl rfl rfl rfl hc1).trans ?_
  refine (r_if_eq_t f230_5 (by decide)).trans ?_
  refine (r_iconst (v := (-1)) f230_40 rfl).trans ?_
  exact r_ireturn f230_41 rfl
set_option maxHeartbeats 40000000 in
theorem qc13_1 {X : aX} {n d : Nat} {h : aH} {x1 : Int32} {x2 : Int32} {x3 : Int32}  (g0 : h.1[0]? = some (.inr (11, zF0))) (g1 : h.1[1]? = some (.inr (6, zF1))) (ec0 : ¬ x1 < 0) (ec1 : (-1) < x1) : arun X (n + 22) (d + 4) zM157 0 [some (.ref 0), some (.int x1), some (.int x2), some (.int x3)] [] h = some (some (.int (-1)), h) := by
  refine (r_aloadn f157_0 rfl).trans ?_
  refine (r_get (v := .ref 1) f157_1 g0 rfl).trans ?_
  refine (r_iloadn f157_4 rfl).trans ?_
  have hc1 : arun X (n + 18) (d + 3) zM75 0 [some (.ref 1), some (.int x1)] [] h = some ((some (.int 0)), h) := by
    refine (r_aloadn f75_0 rfl).trans ?_
    refine (r_iloadn f75_1 rfl).trans ?_
    have hc2 : arun X (n + 15) (d + 2) zM74 0 [some (.ref 1), some (.int x1)] [] h = some ((some (.int 0)), h) := by
      refine (r_iloadn f74_0 rfl).trans ?_
      refine (r_iconst (v := 0) f74_1 rfl).trans ?_
      refine (r_aloadn f74_2 rfl).trans ?_
      refine (r_get (v := .int 0) f74_3 g1 rfl).trans ?_
      refine (r_iconst (v := 1) f74_6 rfl).trans ?_
      refine (r_isub (v := (-1)) f74_7 (by decide)).trans ?_
      have hc3 : arun X (n + 8) (d + 1) zM137 0 [some (.int x1), some (.int 0), some (.int (-1))] [] h = some ((some (.int 0)), h) := by
        refine (r_iloadn f137_0 rfl).trans ?_
        refine (r_iloadn f137_1 rfl).trans ?_
        refine (r_icmp_gt_f f137_2 ec0).trans ?_
        refine (r_iloadn f137_5 rfl).trans ?_
        refine (r_iloadn f137_6 rfl).trans ?_
        refine (r_icmp_gt_t f137_7 ec1).trans ?_
        refine (r_iconst (v := 0) f137_14 rfl).trans ?_
        exact r_zreturn f137_15 rfl (by decide)
      refine (r_stat (as := [.int x1, .int 0, .int (-1)]) (v := (some (.int 0))) (h1 := h) f74_8 rfl zg137 rfl rfl rfl rfl rfl rfl hc3).trans ?_
      exact r_zreturn f74_11 rfl (by decide)
    refine (r_virt (as := [.int x1]) (v := (some (.int 0))) (h1 := h) f75_2 g1 zg74 rfl rfl rfl rfl rfl rfl hc2).trans ?_
    refine (r_if_eq_t f75_5 (by decide)).trans ?_
    refine (r_iconst (v := 0) f75_24 rfl).trans ?_
    exact r_zreturn f75_25 rfl (by decide)
  refine (r_virt (as := [.int x1]) (v := (some (.int 0))) (h1 := h) f157_5 g1 zg75 rfl rfl rfl rfl rfl rfl hc1).trans ?_
  refine (r_if_eq_t f157_8 (by decide)).trans ?_
  refine (r_iconst (v := (-1)) f157_29 rfl).trans ?_
  exact r_ireturn f157_30 rfl
set_option maxHeartbeats 40000000 in
theorem qm13_1_0 {X : aX} {n d : Nat} {h : aH} {x1 : Int32} {x2 : Int32} {x3 : Int32}  (g72 : h.1[72]? = some (.inr (12, zF72))) (ec0 : ¬ x1 < 0) (ec1 : (-1) < x1) : arun X (n + 21) (d + 4) zM230 0 [some (.ref 72), some (.int x1), some (.int x2), some (.int x3)] [] h = some (some (.int (-1)), h) := by
  refine (r_aloadn f230_0 rfl).trans ?_
  refine (r_iloadn f230_1 rfl).trans ?_
  have hc1 : arun X (n + 18) (d + 3) zM202 0 [some (.ref 72), some (.int x1)] [] h = some ((some (.int 0)), h) := by
    refine (r_aloadn f202_0 rfl).trans ?_
    refine (r_iloadn f202_1 rfl).trans ?_
    have hc2 : arun X (n + 15) (d + 2) zM200 0 [some (.ref 72), some (.int x1)] [] h = some ((some (.int 0)), h) := by
      refine (r_iloadn f200_0 rfl).trans ?_
      refine (r_iconst (v := 0) f200_1 rfl).trans ?_
      refine (r_aloadn f200_2 rfl).trans ?_
      refine (r_get (v := .int 0) f200_3 g72 rfl).trans ?_
      refine (r_iconst (v := 1) f200_6 rfl).trans ?_
      refine (r_isub (v := (-1)) f200_7 (by decide)).trans ?_
      have hc3 : arun X (n + 8) (d + 1) zM196 0 [some (.int x1), some (.int 0), some (.int (-1))] [] h = some ((some (.int 0)), h) := by
        refine (r_iloadn f196_0 rfl).trans ?_
        refine (r_iloadn f196_1 rfl).trans ?_
        refine (r_icmp_lt_f f196_2 ec0).trans ?_
        refine (r_iloadn f196_5 rfl).trans ?_
        refine (r_iloadn f196_6 rfl).trans ?_
        refine (r_icmp_gt_t f196_7 ec1).trans ?_
        refine (r_iconst (v := 0) f196_14 rfl).trans ?_
        exact r_zreturn f196_15 rfl (by decide)
      refine (r_stat (as := [.int x1, .int 0, .int (-1)]) (v := (some (.int 0))) (h1 := h) f200_8 rfl zg196 rfl rfl rfl rfl rfl rfl hc3).trans ?_
      exact r_zreturn f200_11 rfl (by decide)
    refine (r_virt (as := [.int x1]) (v := (some (.int 0))) (h1 := h) f202_2 g72 zg200 rfl rfl rfl rfl rfl rfl hc2).trans ?_
    refine (r_if_eq_t f202_5 (by decide)).trans ?_
    refine (r_iconst (v := 0) f202_25 rfl).trans ?_
    exact r_zreturn f202_26 rfl (by decide)
  refine (r_virt (as := [.int x1]) (v := (some (.int 0))) (h1 := h) f230_2 g72 zg202 rfl rfl rfl rfl rfl rfl hc1).trans ?_
  refine (r_if_eq_t f230_5 (by decide)).trans ?_
  refine (r_iconst (v := (-1)) f230_40 rfl).trans ?_
  exact r_ireturn f230_41 rfl

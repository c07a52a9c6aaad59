-- ===== paths on a fresh object (by program) =====
set_option maxHeartbeats 40000000 in
theorem qm41_1_0 {X : aX} {n d : Nat} {h : aH} {x1 : Int32} {x2 : Int32} {x3 : Int32} {x4 : Int32}  (g72 : h.1[72]? = some (.inr (12, zF72))) (ec0 : ¬ x1 < 0) (ec1 : (-1) < x1) : arun X (n + 15) (d + 2) zM304 0 [some (.ref 72), some (.int x1), some (.int x2), some (.int x3), some (.int x4), none, none, none, none] [] h = some (some (.int (-1)), h) := by
  refine (r_iloadn f304_0 rfl).trans ?_
  refine (r_iconst (v := 0) f304_1 rfl).trans ?_
  refine (r_aloadn f304_2 rfl).trans ?_
  refine (r_get (v := .int 0) f304_3 g72 rfl).trans ?_
  refine (r_iconst (v := 1) f304_6 rfl).trans ?_
  refine (r_isub (v := (-1)) f304_7 (by decide)).trans ?_
  have hc1 : arun X (n + 8) (d + 1) zM196 0 [some (.int x1), some (.int 0), some (.int (-1))] [] h = some ((some (.int 0)), h) := by
    refine (r_iloadn f196_0 rfl).trans ?_
    refine (r_iloadn f196_1 rfl).trans ?_
    refine (r_icmp_lt_f f196_2 ec0).trans ?_
    refine (r_iloadn f196_5 rfl).trans ?_
    refine (r_iloadn f196_6 rfl).trans ?_
    refine (r_icmp_gt_t f196_7 ec1).trans ?_
    refine (r_iconst (v := 0) f196_14 rfl).trans ?_
    exact r_zreturn f196_15 rfl (by decide)
  refine (r_stat (as := [.int x1, .int 0, .int (-1)]) (v := (some (.int 0))) (h1 := h) f304_8 rfl zg196 rfl rfl rfl rfl rfl rfl hc1).trans ?_
  refine (r_if_eq_t f304_11 (by decide)).trans ?_
  refine (r_iconst (v := (-1)) f304_50 rfl).trans ?_
  exact r_ireturn f304_51 rfl
set_option maxHeartbeats 40000000 in
theorem qc42_0 {X : aX} {n d : Nat} {h : aH} {x1 : Int32} {x2 : Int32} {x3 : Int32}  (g0 : h.1[0]? = some (.inr (11, zF0))) (g1 : h.1[1]? = some (.inr (6, zF1))) (g66 : h.1[66]? = some (.inr (1, zF66))) (ec0 : x1 < 0) : arun X (n + 16) (d + 3) zM186 0 [some (.ref 0), some (.int x1), some (.int x2), some (.int x3)] [] h = some (some (.int 0), ((h.1.set 66 (.inr (1, [.ref 67, .int 0, .int 0, .int 0, .int 0]))), h.2)) := by
  refine (r_aloadn f186_0 rfl).trans ?_
  refine (r_get (v := .ref 1) f186_1 g0 rfl).trans ?_
  refine (r_iloadn f186_4 rfl).trans ?_
  have hc1 : arun X (n + 12) (d + 2) zM74 0 [some (.ref 1), some (.int x1)] [] h = some ((some (.int 0)), h) := by
    refine (r_iloadn f74_0 rfl).trans ?_
    refine (r_iconst (v := 0) f74_1 rfl).trans ?_
    refine (r_aloadn f74_2 rfl).trans ?_
    refine (r_get (v := .int 0) f74_3 g1 rfl).trans ?_
    refine (r_iconst (v := 1) f74_6 rfl).trans ?_
    refine (r_isub (v := (-1)) f74_7 (by decide)).trans ?_
    have hc2 : arun X (n + 5) (d + 1) zM137 0 [some (.int x1), some (.int 0), some (.int (-1))] [] h = some ((some (.int 0)), h) := by
      refine (r_iloadn f137_0 rfl).trans ?_
      refine (r_iloadn f137_1 rfl).trans ?_
      refine (r_icmp_gt_t f137_2 ec0).trans ?_
      refine (r_iconst (v := 0) f137_14 rfl).trans ?_
      exact r_zreturn f137_15 rfl (by decide)
    refine (r_stat (as := [.int x1, .int 0, .int (-1)]) (v := (some (.int 0))) (h1 := h) f74_8 rfl zg137 rfl rfl rfl rfl rfl rfl hc2).trans ?_
    exact r_zreturn f74_11 rfl (by decide)
  refine (r_virt (as := [.int x1]) (v := (some (.int 0))) (h1 := h) f186_5 g1 zg74 rfl rfl rfl rfl rfl rfl hc1).trans ?_
  refine (r_if_eq_t f186_8 (by decide)).trans ?_
  refine (r_aloadn f186_20 rfl).trans ?_
  refine (r_get (v := .ref 66) f186_21 g0 rfl).trans ?_
  refine (r_iconst (v := 0) f186_24 rfl).trans ?_
  refine (r_put (h' := ((h.1.set 66 (.inr (1, [.ref 67, .int 0, .int 0, .int 0, .int 0]))), h.2)) f186_25 g66 rfl rfl).trans ?_
  refine (r_iconst (v := 0) f186_28 rfl).trans ?_
  exact r_ireturn f186_29 rfl
set_option maxHeartbeats 40000000 in
theorem qm42_0_0 {X : aX} {n d : Nat} {h : aH} {x1 : Int32} {x2 : Int32} {x3 : Int32}  (g72 : h.1[72]? = some (.inr (12, zF72))) (ec0 : x1 < 0) : arun X (n + 18) (d + 3) zM316 0 [some (.ref 72), some (.int x1), some (.int x2), some (.int x3)] [] h = some (some (.int 0), ((h.1.set 72 (.inr (12, (zF72.set 95 (.int 0))))), h.2)) := by
  refine (r_aloadn f316_0 rfl).trans ?_
  refine (r_iconst (v := 0) f316_1 rfl).trans ?_
  refine (r_put (h' := ((h.1.set 72 (.inr (12, (zF72.set 95 (.int 0))))), h.2)) f316_2 g72 rfl rfl).trans ?_
  refine (r_aloadn f316_5 rfl).trans ?_
  refine (r_iloadn f316_6 rfl).trans ?_
  have hc1 : arun X (n + 12) (d + 2) zM200 0 [some (.ref 72), some (.int x1)] [] ((h.1.set 72 (.inr (12, (zF72.set 95 (.int 0))))), h.2) = some ((some (.int 0)), ((h.1.set 72 (.inr (12, (zF72.set 95 (.int 0))))), h.2)) := by
    refine (r_iloadn f200_0 rfl).trans ?_
    refine (r_iconst (v := 0) f200_1 rfl).trans ?_
    refine (r_aloadn f200_2 rfl).trans ?_
    refine (r_get (v := .int 0) f200_3 (gs_eq g72) rfl).trans ?_
    refine (r_iconst (v := 1) f200_6 rfl).trans ?_
    refine (r_isub (v := (-1)) f200_7 (by decide)).trans ?_
    have hc2 : arun X (n + 5) (d + 1) zM196 0 [some (.int x1), some (.int 0), some (.int (-1))] [] ((h.1.set 72 (.inr (12, (zF72.set 95 (.int 0))))), h.2) = some ((some (.int 0)), ((h.1.set 72 (.inr (12, (zF72.set 95 (.int 0))))), h.2)) := by
      refine (r_iloadn f196_0 rfl).trans ?_
      refine (r_iloadn f196_1 rfl).trans ?_
      refine (r_icmp_lt_t f196_2 ec0).trans ?_
      refine (r_iconst (v := 0) f196_14 rfl).trans ?_
      exact r_zreturn f196_15 rfl (by decide)
    refine (r_stat (as := [.int x1, .int 0, .int (-1)]) (v := (some (.int 0))) (h1 := ((h.1.set 72 (.inr (12, (zF72.set 95 (.int 0))))), h.2)) f200_8 rfl zg196 rfl rfl rfl rfl rfl rfl hc2).trans ?_
    exact r_zreturn f200_11 rfl (by decide)
  refine (r_virt (as := [.int x1]) (v := (some (.int 0))) (h1 := ((h.1.set 72 (.inr (12, (zF72.set 95 (.int 0))))), h.2)) f316_7 (gs_eq g72) zg200 rfl rfl rfl rfl rfl rfl hc1).trans ?_
  refine (r_if_eq_t f316_10 (by decide)).trans ?_
  refine (r_iconst (v := 0) f316_22 rfl).trans ?_
  exact r_ireturn f316_23 rfl
set_option maxHeartbeats 40000000 in
theorem qc42_1 {X : aX} {n d : Nat} {h : aH} {x1 : Int32} {x2 : Int32} {x3 : Int32}  (g0 : h.1[0]? = some (.inr (11, zF0))) (g1 : h.1[1]? = some (.inr (6, zF1))) (g66 : h.1[66]? = some (.inr (1, zF66))) (ec0 : ¬ x1 < 0) (ec1 : (-1) < x1) : arun X (n + 19) (d + 3) zM186 0 [some (.ref 0), some (.int x1), some (.int x2), some (.int x3)] [] h = some (some (.int 0), ((h.1.set 66 (.inr (1, [.ref 67, .int 0, .int 0, .int 0, .int 0]))), h.2)) := by
  refine (r_aloadn f186_0 rfl).trans ?_
  refine (r_get (v := .ref 1) f186_1 g0 rfl).trans ?_
  refine (r_iloadn f186_4 rfl).trans ?_
  have hc1 : arun X (n + 15) (d + 2) zM74 0 [some (.ref 1), some (.int x1)] [] h = some ((some (.int 0)), h) := by
    refine (r_iloadn f74_0 rfl).trans ?_
    refine (r_iconst (v := 0) f74_1 rfl).trans ?_
    refine (r_aloadn f74_2 rfl).trans ?_
    refine (r_get (v := .int 0) f74_3 g1 rfl).trans ?_
    refine (r_iconst (v := 1) f74_6 rfl).trans ?_
    refine (r_isub (v := (-1)) f74_7 (by decide)).trans ?_
    have hc2 : arun X (n + 8) (d + 1) zM137 0 [some (.int x1), some (.int 0), some (.int (-1))] [] h = some ((some (.int 0)), h) := by
      refine (r_iloadn f137_0 rfl).trans ?_
      refine (r_iloadn f137_1 rfl).trans ?_
      refine (r_icmp_gt_f f137_2 ec0).trans ?_
      refine (r_iloadn f137_5 rfl).trans ?_
      refine (r_iloadn f137_6 rfl).trans ?_
      refine (r_icmp_gt_t f137_7 ec1).trans ?_
      refine (r_iconst (v := 0) f137_14 rfl).trans ?_
      exact r_zreturn f137_15 rfl (by decide)
    refine (r_stat (as := [.int x1, .int 0, .int (-1)]) (v := (some (.int 0))) (h1 := h) f74_8 rfl zg137 rfl rfl rfl rfl rfl rfl hc2).trans ?_
    exact r_zreturn f74_11 rfl (by decide)
  refine (r_virt (as := [.int x1]) (v := (some (.int 0))) (h1 := h) f186_5 g1 zg74 rfl rfl rfl rfl rfl rfl hc1).trans ?_
  refine (r_if_eq_t f186_8 (by decide)).trans ?_
  refine (r_aloadn f186_20 rfl).trans ?_
  refine (r_get (v := .ref 66) f186_21 g0 rfl).trans ?_
  refine (r_iconst (v := 0) f186_24 rfl).trans ?_
  refine (r_put (h' := ((h.1.set 66 (.inr (1, [.ref 67, .int 0, .int 0, .int 0, .int 0]))), h.2)) f186_25 g66 rfl rfl).trans ?_
  refine (r_iconst (v := 0) f186_28 rfl).trans ?_
  exact r_ireturn f186_29 rfl
set_option maxHeartbeats 40000000 in
theorem qm42_1_0 {X : aX} {n d : Nat} {h : aH} {x1 : Int32} {x2 : Int32} {x3 : Int32}  (g72 : h.1[72]? = some (.inr (12, zF72))) (ec0 : ¬ x1 < 0) (ec1 : (-1) < x1) : arun X (n + 21) (d + 3) zM316 0 [some (.ref 72), some (.int x1), some (.int x2), some (.int x3)] [] h = some (some (.int 0), ((h.1.set 72 (.inr (12, (zF72.set 95 (.int 0))))), h.2)) := by
  refine (r_aloadn f316_0 rfl).trans ?_
  refine (r_iconst (v := 0) f316_1 rfl).trans ?_
  refine (r_put (h' := ((h.1.set 72 (.inr (12, (zF72.set 95 (.int 0))))), h.2)) f316_2 g72 rfl rfl).trans ?_
  refine (r_aloadn f316_5 rfl).trans ?_
  refine (r_iloadn f316_6 rfl).trans ?_
  have hc1 : arun X (n + 15) (d + 2) zM200 0 [some (.ref 72), some (.int x1)] [] ((h.1.set 72 (.inr (12, (zF72.set 95 (.int 0))))), h.2) = some ((some (.int 0)), ((h.1.set 72 (.inr (12, (zF72.set 95 (.int 0))))), h.2)) := by
    refine (r_iloadn f200_0 rfl).trans ?_
    refine (r_iconst (v := 0) f200_1 rfl).trans ?_
    refine (r_aloadn f200_2 rfl).trans ?_
    refine (r_get (v := .int 0) f200_3 (gs_eq g72) rfl).trans ?_
    refine (r_iconst (v := 1) f200_6 rfl).trans ?_
    refine (r_isub (v := (-1)) f200_7 (by decide)).trans ?_
    have hc2 : arun X (n + 8) (d + 1) zM196 0 [some (.int x1), some (.int 0), some (.int (-1))] [] ((h.1.set 72 (.inr (12, (zF72.set 95 (.int 0))))), h.2) = some ((some (.int 0)), ((h.1.set 72 (.inr (12, (zF72.set 95 (.int 0))))), h.2)) := by
      refine (r_iloadn f196_0 rfl).trans ?_
      refine (r_iloadn f196_1 rfl).trans ?_
      refine (r_icmp_lt_f f196_2 ec0).trans ?_
      refine (r_iloadn f196_5 rfl).trans ?_
      refine (r_iloadn f196_6 rfl).trans ?_
      refine (r_icmp_gt_t f196_7 ec1).trans ?_
      refine (r_iconst (v := 0) f196_14 rfl).trans ?_
      exact r_zreturn f196_15 rfl (by decide)
    refine (r_stat (as := [.int x1, .int 0, .int (-1)]) (v := (some (.int 0))) (h1 := ((h.1.set 72 (.inr (12, (zF72.set 95 (.int 0))))), h.2)) f200_8 rfl zg196 rfl rfl rfl rfl rfl rfl hc2).trans ?_
    exact r_zreturn f200_11 rfl (by decide)
  refine (r_virt (as := [.int x1]) (v := (some (.int 0))) (h1 := ((h.1.set 72 (.inr (12, (zF72.set 95 (.int 0))))), h.2)) f316_7 (gs_eq g72) zg200 rfl rfl rfl rfl rfl rfl hc1).trans ?_
  refine (r_if_eq_t f316_10 (by decide)).trans ?_
  refine (r_iconst (v := 0) f316_22 rfl).trans ?_
  exact r_ireturn f316_23 rfl
set_option maxHeartbeats 40000000 in
theorem qc43_0 {X : aX} {n d : Nat} {h : aH} {x1 : Int32}  (g0 : h.1[0]? = some (.inr (11, zF0))) (g66 : h.1[66]? = some (.inr (1, zF66))) (ec0 : x1 < 0) : arun X (n + 15) (d + 2) zM187 0 [some (.ref 0), some (.int x1)] [] h = some (some (.int (-1)), h) := by
  refine (r_iloadn f187_0 rfl).trans ?_
  refine (r_iconst (v := 0) f187_1 rfl).trans ?_
  refine (r_aloadn f187_2 rfl).trans ?_
  refine (r_get (v := .ref 66) f187_3 g0 rfl).trans ?_
  refine (r_get (v := .int 0) f187_6 g66 rfl).trans ?_
  refine (r_bipush (v := 24) f187_9 rfl).trans ?_
  refine (r_m1011 (v := 0) f187_11 rfl rfl (by decide)).trans ?_
  refine (r_iconst (v := 1) f187_14 rfl).trans ?_
  refine (r_isub (v := (-1)) f187_15 (by decide)).trans ?_
  have hc1 : arun X (n + 5) (d + 1) zM137 0 [some (.int x1), some (.int 0), some (.int (-1))] [] h = some ((some (.int 0)), h) := by
    refine (r_iloadn f137_0 rfl).trans ?_
    refine (r_iloadn f137_1 rfl).trans ?_
    refine (r_icmp_gt_t f137_2 ec0).trans ?_
    refine (r_iconst (v := 0) f137_14 rfl).trans ?_
    exact r_zreturn f137_15 rfl (by decide)
  refine (r_stat (as := [.int x1, .int 0, .int (-1)]) (v := (some (.int 0))) (h1 := h) f187_16 rfl zg137 rfl rfl rfl rfl rfl rfl hc1).trans ?_
  refine (r_if_eq_t f187_19 (by decide)).trans ?_
  refine (r_iconst (v := (-1)) f187_34 rfl).trans ?_
  exact r_ireturn f187_35 rfl
set_option maxHeartbeats 40000000 in
theorem qm43_0_0 {X : aX} {n d : Nat} {h : aH} {x1 : Int32}  (ec0 : x1 < 0) : arun X (n + 4) (d + 1) zM317 0 [some (.ref 72), some (.int x1)] [] h = some (some (.int (-1)), h) := by
  refine (r_iloadn f317_0 rfl).trans ?_
  refine (r_if_lt_t f317_1 ec0).trans ?_
  refine (r_iconst (v := (-1)) f317_27 rfl).trans ?_
  exact r_ireturn f317_28 rfl
set_option maxHeartbeats 40000000 in
theorem qc43_1 {X : aX} {n d : Nat} {h : aH} {x1 : Int32}  (g0 : h.1[0]? = some (.inr (11, zF0))) (g66 : h.1[66]? = some (.inr (1, zF66))) (ec0 : ¬ x1 < 0) (ec1 : (-1) < x1) : arun X (n + 18) (d + 2) zM187 0 [some (.ref 0), some (.int x1)] [] h = some (some (.int (-1)), h) := by
  refine (r_iloadn f187_0 rfl).trans ?_
  refine (r_iconst (v := 0) f187_1 rfl).trans ?_
  refine (r_aloadn f187_2 rfl).trans ?_
  refine (r_get (v := .ref 66) f187_3 g0 rfl).trans ?_
  refine (r_get (v := .int 0) f187_6 g66 rfl).trans ?_
  refine (r_bipush (v := 24) f187_9 rfl).trans ?_
  refine (r_m1011 (v := 0) f187_11 rfl rfl (by decide)).trans ?_
  refine (r_iconst (v := 1) f187_14 rfl).trans ?_
  refine (r_isub (v := (-1)) f187_15 (by decide)).trans ?_
  have hc1 : arun X (n + 8) (d + 1) zM137 0 [some (.int x1), some (.int 0), some (.int (-1))] [] h = some ((some (.int 0)), h) := by
    refine (r_iloadn f137_0 rfl).trans ?_
    refine (r_iloadn f137_1 rfl).trans ?_
    refine (r_icmp_gt_f f137_2 ec0).trans ?_
    refine (r_iloadn f137_5 rfl).trans ?_
    refine (r_iloadn f137_6 rfl).trans ?_
    refine (r_icmp_gt_t f137_7 ec1).trans ?_
    refine (r_iconst (v := 0) f137_14 rfl).trans ?_
    exact r_zreturn f137_15 rfl (by decide)
  refine (r_stat (as := [.int x1, .int 0, .int (-1)]) (v := (some (.int 0))) (h1 := h) f187_16 rfl zg137 rfl rfl rfl rfl rfl rfl hc1).trans ?_
  refine (r_if_eq_t f187_19 (by decide)).trans ?_
  refine (r_iconst (v := (-1)) f187_34 rfl).trans ?_
  exact r_ireturn f187_35 rfl
set_option maxHeartbeats 40000000 in
theorem qm43_1_0 {X : aX} {n d : Nat} {h : aH} {x1 : Int32}  (g72 : h.1[72]? = some (.inr (12, zF72))) (ec0 : ¬ x1 < 0) : arun X (n + 8) (d + 1) zM317 0 [some (.ref 72), some (.int x1)] [] h = some (some (.int (-1)), h) := by
  refine (r_iloadn f317_0 rfl).trans ?_
  refine (r_if_lt_f f317_1 ec0).trans ?_
  refine (r_iloadn f317_4 rfl).trans ?_
  refine (r_aloadn f317_5 rfl).trans ?_
  refine (r_get (v := .int 0) f317_6 g72 rfl).trans ?_
  refine (r_icmp_ge_t f317_9 (Int32.not_lt.mp ec0)).trans ?_
  refine (r_iconst (v := (-1)) f317_27 rfl).trans ?_
  exact r_ireturn f317_28 rfl
set_option maxHeartbeats 40000000 in
theorem qc44_0 {X : aX} {n d : Nat} {h : aH} {x1 : Int32} {x2 : Int32}  (ec0 : x1 < 0) : arun X (n + 11) (d + 3) zM188 0 [some (.ref 0), some (.int x1), some (.int x2)] [] h = some (some (.int (-1)), h) := by
  refine (r_iloadn f188_0 rfl).trans ?_
  have hc1 : arun X (n + 9) (d + 2) zM142 0 [some (.int x1)] [] h = some ((some (.int 0)), h) := by
    refine (r_iloadn f142_0 rfl).trans ?_
    refine (r_iconst (v := 0) f142_1 rfl).trans ?_
    refine (r_iconst (v := 5) f142_2 rfl).trans ?_
    have hc2 : arun X (n + 5) (d + 1) zM137 0 [some (.int x1), some (.int 0), some (.int 5)] [] h = some ((some (.int 0)), h) := by
      refine (r_iloadn f137_0 rfl).trans ?_
      refine (r_iloadn f137_1 rfl).trans ?_
      refine (r_icmp_gt_t f137_2 ec0).trans ?_
      refine (r_iconst (v := 0) f137_14 rfl).trans ?_
      exact r_zreturn f137_15 rfl (by decide)
    refine (r_stat (as := [.int x1, .int 0, .int 5]) (v := (some (.int 0))) (h1 := h) f142_3 rfl zg137 rfl rfl rfl rfl rfl rfl hc2).trans ?_
    exact r_zreturn f142_6 rfl (by decide)
  refine (r_stat (as := [.int x1]) (v := (some (.int 0))) (h1 := h) f188_1 rfl zg142 rfl rfl rfl rfl rfl rfl hc1).trans ?_
  refine (r_if_eq_t f188_4 (by decide)).trans ?_
  refine (r_iconst (v := (-1)) f188_23 rfl).trans ?_
  exact r_ireturn f188_24 rfl
set_option maxHeartbeats 40000000 in
theorem qm44_0_0 {X : aX} {n d : Nat} {h : aH} {x1 : Int32} {x2 : Int32}  (ec0 : x1 < 0) : arun X (n + 11) (d + 3) zM319 0 [some (.ref 72), some (.int x1), some (.int x2)] [] h = some (some (.int (-1)), h) := by
  refine (r_iloadn f319_0 rfl).trans ?_
  have hc1 : arun X (n + 9) (d + 2) zM318 0 [some (.int x1)] [] h = some ((some (.int 0)), h) := by
    refine (r_iloadn f318_0 rfl).trans ?_
    refine (r_iconst (v := 0) f318_1 rfl).trans ?_
    refine (r_iconst (v := 5) f318_2 rfl).trans ?_
    have hc2 : arun X (n + 5) (d + 1) zM196 0 [some (.int x1), some (.int 0), some (.int 5)] [] h = some ((some (.int 0)), h) := by
      refine (r_iloadn f196_0 rfl).trans ?_
      refine (r_iloadn f196_1 rfl).trans ?_
      refine (r_icmp_lt_t f196_2 ec0).trans ?_
      refine (r_iconst (v := 0) f196_14 rfl).trans ?_
      exact r_zreturn f196_15 rfl (by decide)
    refine (r_stat (as := [.int x1, .int 0, .int 5]) (v := (some (.int 0))) (h1 := h) f318_3 rfl zg196 rfl rfl rfl rfl rfl rfl hc2).trans ?_
    exact r_zreturn f318_6 rfl (by decide)
  refine (r_stat (as := [.int x1]) (v := (some (.int 0))) (h1 := h) f319_1 rfl zg318 rfl rfl rfl rfl rfl rfl hc1).trans ?_
  refine (r_if_eq_t f319_4 (by decide)).trans ?_
  refine (r_iconst (v := (-1)) f319_20 rfl).trans ?_
  exact r_ireturn f319_21 rfl
set_option maxHeartbeats 40000000 in
theorem qc44_1 {X : aX} {n d : Nat} {h : aH} {x1 : Int32} {x2 : Int32}  (ec0 : ¬ x1 < 0) (ec1 : 5 < x1) : arun X (n + 14) (d + 3) zM188 0 [some (.ref 0), some (.int x1), some (.int x2)] [] h = some (some (.int (-1)), h) := by
  refine (r_iloadn f188_0 rfl).trans ?_
  have hc1 : arun X (n + 12) (d + 2) zM142 0 [some (.int x1)] [] h = some ((some (.int 0)), h) := by
    refine (r_iloadn f142_0 rfl).trans ?_
    refine (r_iconst (v := 0) f142_1 rfl).trans ?_
    refine (r_iconst (v := 5) f142_2 rfl).trans ?_
    have hc2 : arun X (n + 8) (d + 1) zM137 0 [some (.int x1), some (.int 0), some (.int 5)] [] h = some ((some (.int 0)), h) := by
      refine (r_iloadn f137_0 rfl).trans ?_
      refine (r_iloadn f137_1 rfl).trans ?_
      refine (r_icmp_gt_f f137_2 ec0).trans ?_
      refine (r_iloadn f137_5 rfl).trans ?_
      refine (r_iloadn f137_6 rfl).trans ?_
      refine (r_icmp_gt_t f137_7 ec1).trans ?_
      refine (r_iconst (v := 0) f137_14 rfl).trans ?_
      exact r_zreturn f137_15 rfl (by decide)
    refine (r_stat (as := [.int x1, .int 0, .int 5]) (v := (some (.int 0))) (h1 := h) f142_3 rfl zg137 rfl rfl rfl rfl rfl rfl hc2).trans ?_
    exact r_zreturn f142_6 rfl (by decide)
  refine (r_stat (as := [.int x1]) (v := (some (.int 0))) (h1 := h) f188_1 rfl zg142 rfl rfl rfl rfl rfl rfl hc1).trans ?_
  refine (r_if_eq_t f188_4 (by decide)).trans ?_
  refine (r_iconst (v := (-1)) f188_23 rfl).trans ?_
  exact r_ireturn f188_24 rfl
set_option maxHeartbeats 40000000 in
theorem qm44_1_0 {X : aX} {n d : Nat} {h : aH} {x1 : Int32} {x2 : Int32}  (ec0 : ¬ x1 < 0) (ec1 : 5 < x1) : arun X (n + 14) (d + 3) zM319 0 [some (.ref 72), some (.int x1), some (.int x2)] [] h = some (some (.int (-1)), h) := by
  refine (r_iloadn f319_0 rfl).trans ?_
  have hc1 : arun X (n + 12) (d + 2) zM318 0 [some (.int x1)] [] h = some ((some (.int 0)), h) := by
    refine (r_iloadn f318_0 rfl).trans ?_
    refine (r_iconst (v := 0) f318_1 rfl).trans ?_
    refine (r_iconst (v := 5) f318_2 rfl).trans ?_
    have hc2 : arun X (n + 8) (d + 1) zM196 0 [some (.int x1), some (.int 0), some (.int 5)] [] h = some ((some (.int 0)), h) := by
      refine (r_iloadn f196_0 rfl).trans ?_
      refine (r_iloadn f196_1 rfl).trans ?_
      refine (r_icmp_lt_f f196_2 ec0).trans ?_
      refine (r_iloadn f196_5 rfl).trans ?_
      refine (r_iloadn f196_6 rfl).trans ?_
      refine (r_icmp_gt_t f196_7 ec1).trans ?_
      refine (r_iconst (v := 0) f196_14 rfl).trans ?_
      exact r_zreturn f196_15 rfl (by decide)
    refine (r_stat (as := [.int x1, .int 0, .int 5]) (v := (some (.int 0))) (h1 := h) f318_3 rfl zg196 rfl rfl rfl rfl rfl rfl hc2).trans ?_
    exact r_zreturn f318_6 rfl (by decide)
  refine (r_stat (as := [.int x1]) (v := (some (.int 0))) (h1 := h) f319_1 rfl zg318 rfl rfl rfl rfl rfl rfl hc1).trans ?_
  refine (r_if_eq_t f319_4 (by decide)).trans ?_
  refine (r_iconst (v := (-1)) f319_20 rfl).trans ?_
  exact r_ireturn f319_21 rfl
set_option maxHeartbeats 40000000 in
theorem qc44_2 {X : aX} {n d : Nat} {h : aH} {x1 : Int32} {x2 : Int32}  (g0 : h.1[0]? = some (.inr (11, zF0))) (g68 : h.1[68]? = some (.inr (9, zF68))) (g69 : h.1[69]? = some (.inl (0, 6, .inl (fun _ => (-1))))) (g70 : h.1[70]? = some (.inl (0, 6, .inl (fun _ => 0)))) (ec0 : ¬ x1 < 0) (ec1 : ¬ 5 < x1) (ec2 : x2 = (-1)) (jc0 : ¬ (x1 < 0 ∨ 6 ≤ Int32.toNatClampNeg x1)) : arun X (n + 25) (d + 3) zM188 0 [some (.ref 0), some (.int x1), some (.int x2)] [] h = some (some (.int 1), (((h.1.set 69 (.inl (0, 6, .inl (upd (fun _ => (-1)) (Int32.toNatClampNeg x1) (-1))))).set 70 (.inl (0, 6, .inl (upd (fun _ => 0) (Int32.toNatClampNeg x1) 0)))), h.2)) := by
  refine (r_iloadn f188_0 rfl).trans ?_
  have hc1 : arun X (n + 23) (d + 2) zM142 0 [some (.int x1)] [] h = some ((some (.int 1)), h) := by
    refine (r_iloadn f142_0 rfl).trans ?_
    refine (r_iconst (v := 0) f142_1 rfl).trans ?_
    refine (r_iconst (v := 5) f142_2 rfl).trans ?_
    have hc2 : arun X (n + 19) (d + 1) zM137 0 [some (.int x1), some (.int 0), some (.int 5)] [] h = some ((some (.int 1)), h) := by
      refine (r_iloadn f137_0 rfl).trans ?_
      refine (r_iloadn f137_1 rfl).trans ?_
      refine (r_icmp_gt_f f137_2 ec0).trans ?_
      refine (r_iloadn f137_5 rfl).trans ?_
      refine (r_iloadn f137_6 rfl).trans ?_
      refine (r_icmp_gt_f f137_7 ec1).trans ?_
      refine (r_iconst (v := 1) f137_10 rfl).trans ?_
      refine (r_goto f137_11).trans ?_
      exact r_zreturn f137_15 rfl (by decide)
    refine (r_stat (as := [.int x1, .int 0, .int 5]) (v := (some (.int 1))) (h1 := h) f142_3 rfl zg137 rfl rfl rfl rfl rfl rfl hc2).trans ?_
    exact r_zreturn f142_6 rfl (by decide)
  refine (r_stat (as := [.int x1]) (v := (some (.int 1))) (h1 := h) f188_1 rfl zg142 rfl rfl rfl rfl rfl rfl hc1).trans ?_
  refine (r_if_eq_f f188_4 (by decide)).trans ?_
  refine (r_iloadn f188_7 rfl).trans ?_
  refine (r_iconst (v := (-1)) f188_8 rfl).trans ?_
  refine (r_icmp_eq_t f188_9 ec2).trans ?_
  refine (r_iloadn f188_25 rfl).trans ?_
  refine (r_iconst (v := (-1)) f188_26 rfl).trans ?_
  refine (r_icmp_ne_f f188_27 ec2).trans ?_
  refine (r_aloadn f188_30 rfl).trans ?_
  refine (r_get (v := .ref 68) f188_31 g0 rfl).trans ?_
  refine (r_iloadn f188_34 rfl).trans ?_
  have hc3 : arun X (n + 12) (d + 2) zM107 0 [some (.ref 68), some (.int x1)] [] h = some ((some (.int 1)), (((h.1.set 69 (.inl (0, 6, .inl (upd (fun _ => (-1)) (Int32.toNatClampNeg x1) (-1))))).set 70 (.inl (0, 6, .inl (upd (fun _ => 0) (Int32.toNatClampNeg x1) 0)))), h.2)) := by
    refine (r_aloadn f107_0 rfl).trans ?_
    refine (r_get (v := .ref 69) f107_1 g68 rfl).trans ?_
    refine (r_iloadn f107_4 rfl).trans ?_
    refine (r_iconst (v := (-1)) f107_5 rfl).trans ?_
    refine (r_iast (h' := ((h.1.set 69 (.inl (0, 6, .inl (upd (fun _ => (-1)) (Int32.toNatClampNeg x1) (-1))))), h.2)) f107_6 g69 jc0 rfl).trans ?_
    refine (r_aloadn f107_7 rfl).trans ?_
    refine (r_get (v := .ref 70) f107_8 (gs_ne g68 (by decide)) rfl).trans ?_
    refine (r_iloadn f107_11 rfl).trans ?_
    refine (r_iconst (v := 0) f107_12 rfl).trans ?_
    refine (r_iast (h' := (((h.1.set 69 (.inl (0, 6, .inl (upd (fun _ => (-1)) (Int32.toNatClampNeg x1) (-1))))).set 70 (.inl (0, 6, .inl (upd (fun _ => 0) (Int32.toNatClampNeg x1) 0)))), h.2)) f107_13 (gs_ne g70 (by decide)) jc0 rfl).trans ?_
    refine (r_iconst (v := 1) f107_14 rfl).trans ?_
    exact r_ireturn f107_15 rfl
  refine (r_virt (as := [.int x1]) (v := (some (.int 1))) (h1 := (((h.1.set 69 (.inl (0, 6, .inl (upd (fun _ => (-1)) (Int32.toNatClampNeg x1) (-1))))).set 70 (.inl (0, 6, .inl (upd (fun _ => 0) (Int32.toNatClampNeg x1) 0)))), h.2)) f188_35 g68 zg107 rfl rfl rfl rfl rfl rfl hc3).trans ?_
  refine (r_goto f188_38).trans ?_
  exact r_ireturn f188_50 rfl
set_option maxHeartbeats 40000000 in
theorem qm44_2_0 {X : aX} {n d : Nat} {h : aH} {x1 : Int32} {x2 : Int32}  (g72 : h.1[72]? = some (.inr (12, zF72))) (g142 : h.1[142]? = some (.inl (0, 6, .inl (fun _ => (-1))))) (ec0 : ¬ x1 < 0) (ec1 : ¬ 5 < x1) (ec2 : x2 = (-1)) (jm0 : ¬ (x1 < 0 ∨ 6 ≤ Int32.toNatClampNeg x1)) : arun X (n + 15) (d + 3) zM319 0 [some (.ref 72), some (.int x1), some (.int x2)] [] h = some (some (.int 1), ((h.1.set 142 (.inl (0, 6, .inl (upd (fun _ => (-1)) (Int32.toNatClampNeg x1) x2)))), h.2)) := by
  refine (r_iloadn f319_0 rfl).trans ?_
  have hc1 : arun X (n + 13) (d + 2) zM318 0 [some (.int x1)] [] h = some ((some (.int 1)), h) := by
    refine (r_iloadn f318_0 rfl).trans ?_
    refine (r_iconst (v := 0) f318_1 rfl).trans ?_
    refine (r_iconst (v := 5) f318_2 rfl).trans ?_
    have hc2 : arun X (n + 9) (d + 1) zM196 0 [some (.int x1), some (.int 0), some (.int 5)] [] h = some ((some (.int 1)), h) := by
      refine (r_iloadn f196_0 rfl).trans ?_
      refine (r_iloadn f196_1 rfl).trans ?_
      refine (r_icmp_lt_f f196_2 ec0).trans ?_
      refine (r_iloadn f196_5 rfl).trans ?_
      refine (r_iloadn f196_6 rfl).trans ?_
      refine (r_icmp_gt_f f196_7 ec1).trans ?_
      refine (r_iconst (v := 1) f196_10 rfl).trans ?_
      refine (r_goto f196_11).trans ?_
      exact r_zreturn f196_15 rfl (by decide)
    refine (r_stat (as := [.int x1, .int 0, .int 5]) (v := (some (.int 1))) (h1 := h) f318_3 rfl zg196 rfl rfl rfl rfl rfl rfl hc2).trans ?_
    exact r_zreturn f318_6 rfl (by decide)
  refine (r_stat (as := [.int x1]) (v := (some (.int 1))) (h1 := h) f319_1 rfl zg318 rfl rfl rfl rfl rfl rfl hc1).trans ?_
  refine (r_if_eq_f f319_4 (by decide)).trans ?_
  refine (r_iloadn f319_7 rfl).trans ?_
  refine (r_iconst (v := (-1)) f319_8 rfl).trans ?_
  refine (r_icmp_eq_t f319_9 ec2).trans ?_
  refine (r_aloadn f319_22 rfl).trans ?_
  refine (r_get (v := .ref 142) f319_23 g72 rfl).trans ?_
  refine (r_iloadn f319_26 rfl).trans ?_
  refine (r_iloadn f319_27 rfl).trans ?_
  refine (r_iast (h' := ((h.1.set 142 (.inl (0, 6, .inl (upd (fun _ => (-1)) (Int32.toNatClampNeg x1) x2)))), h.2)) f319_28 g142 jm0 rfl).trans ?_
  refine (r_iconst (v := 1) f319_29 rfl).trans ?_
  exact r_ireturn f319_30 rfl
set_option maxHeartbeats 40000000 in
theorem qc44_3 {X : aX} {n d : Nat} {h : aH} {x1 : Int32} {x2 : Int32}  (g0 : h.1[0]? = some (.inr (11, zF0))) (g1 : h.1[1]? = some (.inr (6, zF1))) (ec0 : ¬ x1 < 0) (ec1 : ¬ 5 < x1) (ec2 : ¬ x2 = (-1)) (ec3 : x2 < 0) : arun X (n + 22) (d + 3) zM188 0 [some (.ref 0), some (.int x1), some (.int x2)] [] h = some (some (.int (-1)), h) := by
  refine (r_iloadn f188_0 rfl).trans ?_
  have hc1 : arun X (n + 20) (d + 2) zM142 0 [some (.int x1)] [] h = some ((some (.int 1)), h) := by
    refine (r_iloadn f142_0 rfl).trans ?_
    refine (r_iconst (v := 0) f142_1 rfl).trans ?_
    refine (r_iconst (v := 5) f142_2 rfl).trans ?_
    have hc2 : arun X (n + 16) (d + 1) zM137 0 [some (.int x1), some (.int 0), some (.int 5)] [] h = some ((some (.int 1)), h) := by
      refine (r_iloadn f137_0 rfl).trans ?_
      refine (r_iloadn f137_1 rfl).trans ?_
      refine (r_icmp_gt_f f137_2 ec0).trans ?_
      refine (r_iloadn f137_5 rfl).trans ?_
      refine (r_iloadn f137_6 rfl).trans ?_
      refine (r_icmp_gt_f f137_7 ec1).trans ?_
      refine (r_iconst (v := 1) f137_10 rfl).trans ?_
      refine (r_goto f137_11).trans ?_
      exact r_zreturn f137_15 rfl (by decide)
    refine (r_stat (as := [.int x1, .int 0, .int 5]) (v := (some (.int 1))) (h1 := h) f142_3 rfl zg137 rfl rfl rfl rfl rfl rfl hc2).trans ?_
    exact r_zreturn f142_6 rfl (by decide)
  refine (r_stat (as := [.int x1]) (v := (some (.int 1))) (h1 := h) f188_1 rfl zg142 rfl rfl rfl rfl rfl rfl hc1).trans ?_
  refine (r_if_eq_f f188_4 (by decide)).trans ?_
  refine (r_iloadn f188_7 rfl).trans ?_
  refine (r_iconst (v := (-1)) f188_8 rfl).trans ?_
  refine (r_icmp_eq_f f188_9 ec2).trans ?_
  refine (r_aloadn f188_12 rfl).trans ?_
  refine (r_get (v := .ref 1) f188_13 g0 rfl).trans ?_
  refine (r_iloadn f188_16 rfl).trans ?_
  have hc3 : arun X (n + 12) (d + 2) zM74 0 [some (.ref 1), some (.int x2)] [] h = some ((some (.int 0)), h) := by
    refine (r_iloadn f74_0 rfl).trans ?_
    refine (r_iconst (v := 0) f74_1 rfl).trans ?_
    refine (r_aloadn f74_2 rfl).trans ?_
    refine (r_get (v := .int 0) f74_3 g1 rfl).trans ?_
    refine (r_iconst (v := 1) f74_6 rfl).trans ?_
    refine (r_isub (v := (-1)) f74_7 (by decide)).trans ?_
    have hc4 : arun X (n + 5) (d + 1) zM137 0 [some (.int x2), some (.int 0), some (.int (-1))] [] h = some ((some (.int 0)), h) := by
      refine (r_iloadn f137_0 rfl).trans ?_
      refine (r_iloadn f137_1 rfl).trans ?_
      refine (r_icmp_gt_t f137_2 ec3).trans ?_
      refine (r_iconst (v := 0) f137_14 rfl).trans ?_
      exact r_zreturn f137_15 rfl (by decide)
    refine (r_stat (as := [.int x2, .int 0, .int (-1)]) (v := (some (.int 0))) (h1 := h) f74_8 rfl zg137 rfl rfl rfl rfl rfl rfl hc4).trans ?_
    exact r_zreturn f74_11 rfl (by decide)
  refine (r_virt (as := [.int x2]) (v := (some (.int 0))) (h1 := h) f188_17 g1 zg74 rfl rfl rfl rfl rfl rfl hc3).trans ?_
  refine (r_if_ne_f f188_20 (by decide)).trans ?_
  refine (r_iconst (v := (-1)) f188_23 rfl).trans ?_
  exact r_ireturn f188_24 rfl
set_option maxHeartbeats 40000000 in
theorem qm44_3_0 {X : aX} {n d : Nat} {h : aH} {x1 : Int32} {x2 : Int32}  (g72 : h.1[72]? = some (.inr (12, zF72))) (ec0 : ¬ x1 < 0) (ec1 : ¬ 5 < x1) (ec2 : ¬ x2 = (-1)) (ec3 : x2 < 0) : arun X (n + 21) (d + 3) zM319 0 [some (.ref 72), some (.int x1), some (.int x2)] [] h = some (some (.int (-1)), h) := by
  refine (r_iloadn f319_0 rfl).trans ?_
  have hc1 : arun X (n + 19) (d + 2) zM318 0 [some (.int x1)] [] h = some ((some (.int 1)), h) := by
    refine (r_iloadn f318_0 rfl).trans ?_
    refine (r_iconst (v := 0) f318_1 rfl).trans ?_
    refine (r_iconst (v := 5) f318_2 rfl).trans ?_
    have hc2 : arun X (n + 15) (d + 1) zM196 0 [some (.int x1), some (.int 0), some (.int 5)] [] h = some ((some (.int 1)), h) := by
      refine (r_iloadn f196_0 rfl).trans ?_
      refine (r_iloadn f196_1 rfl).trans ?_
      refine (r_icmp_lt_f f196_2 ec0).trans ?_
      refine (r_iloadn f196_5 rfl).trans ?_
      refine (r_iloadn f196_6 rfl).trans ?_
      refine (r_icmp_gt_f f196_7 ec1).trans ?_
      refine (r_iconst (v := 1) f196_10 rfl).trans ?_
      refine (r_goto f196_11).trans ?_
      exact r_zreturn f196_15 rfl (by decide)
    refine (r_stat (as := [.int x1, .int 0, .int 5]) (v := (some (.int 1))) (h1 := h) f318_3 rfl zg196 rfl rfl rfl rfl rfl rfl hc2).trans ?_
    exact r_zreturn f318_6 rfl (by decide)
  refine (r_stat (as := [.int x1]) (v := (some (.int 1))) (h1 := h) f319_1 rfl zg318 rfl rfl rfl rfl rfl rfl hc1).trans ?_
  refine (r_if_eq_f f319_4 (by decide)).trans ?_
  refine (r_iloadn f319_7 rfl).trans ?_
  refine (r_iconst (v := (-1)) f319_8 rfl).trans ?_
  refine (r_icmp_eq_f f319_9 ec2).trans ?_
  refine (r_aloadn f319_12 rfl).trans ?_
  refine (r_iloadn f319_13 rfl).trans ?_
  have hc3 : arun X (n + 12) (d + 2) zM200 0 [some (.ref 72), some (.int x2)] [] h = some ((some (.int 0)), h) := by
    refine (r_iloadn f200_0 rfl).trans ?_
    refine (r_iconst (v := 0) f200_1 rfl).trans ?_
    refine (r_aloadn f200_2 rfl).trans ?_
    refine (r_get (v := .int 0) f200_3 g72 rfl).trans ?_
    refine (r_iconst (v := 1) f200_6 rfl).trans ?_
    refine (r_isub (v := (-1)) f200_7 (by decide)).trans ?_
    have hc4 : arun X (n + 5) (d + 1) zM196 0 [some (.int x2), some (.int 0), some (.int (-1))] [] h = some ((some (.int 0)), h) := by
      refine (r_iloadn f196_0 rfl).trans ?_
      refine (r_iloadn f196_1 rfl).trans ?_
      refine (r_icmp_lt_t f196_2 ec3).trans ?_
      refine (r_iconst (v := 0) f196_14 rfl).trans ?_
      exact r_zreturn f196_15 rfl (by decide)
    refine (r_stat (as := [.int x2, .int 0, .int (-1)]) (v := (some (.int 0))) (h1 := h) f200_8 rfl zg196 rfl rfl rfl rfl rfl rfl hc4).trans ?_
    exact r_zreturn f200_11 rfl (by decide)
  refine (r_virt (as := [.int x2]) (v := (some (.int 0))) (h1 := h) f319_14 g72 zg200 rfl rfl rfl rfl rfl rfl hc3).trans ?_
  refine (r_if_ne_f f319_17 (by decide)).trans ?_
  refine (r_iconst (v := (-1)) f319_20 rfl).trans ?_
  exact r_ireturn f319_21 rfl
set_option maxHeartbeats 40000000 in
theorem qc44_4 {X : aX} {n d : Nat} {h : aH} {x1 : Int32} {x2 : Int32}  (g0 : h.1[0]? = some (.inr (11, zF0))) (g1 : h.1[1]? = some (.inr (6, zF1))) (ec0 : ¬ x1 < 0) (ec1 : ¬ 5 < x1) (ec2 : ¬ x2 = (-1)) (ec3 : ¬ x2 < 0) (ec4 : (-1) < x2) : arun X (n + 25) (d + 3) zM188 0 [some (.ref 0), some (.int x1), some (.int x2)] [] h = some (some (.int (-1)), h) := by
  refine (r_iloadn f188_0 rfl).trans ?_
  have hc1 : arun X (n + 23) (d + 2) zM142 0 [some (.int x1)] [] h = some ((some (.int 1)), h) := by
    refine (r_iloadn f142_0 rfl).trans ?_
    refine (r_iconst (v := 0) f142_1 rfl).trans ?_
    refine (r_iconst (v := 5) f142_2 rfl).trans ?_
    have hc2 : arun X (n + 19) (d + 1) zM137 0 [some (.int x1), some (.int 0), some (.int 5)] [] h = some ((some (.int 1)), h) := by
      refine (r_iloadn f137_0 rfl).trans ?_
      refine (r_iloadn f137_1 rfl).trans ?_
      refine (r_icmp_gt_f f137_2 ec0).trans ?_
      refine (r_iloadn f137_5 rfl).trans ?_
      refine (r_iloadn f137_6 rfl).trans ?_
      refine (r_icmp_gt_f f137_7 ec1).trans ?_
      refine (r_iconst (v := 1) f137_10 rfl).trans ?_
      refine (r_goto f137_11).trans ?_
      exact r_zreturn f137_15 rfl (by decide)
    refine (r_stat (as := [.int x1, .int 0, .int 5]) (v := (some (.int 1))) (h1 := h) f142_3 rfl zg137 rfl rfl rfl rfl rfl rfl hc2).trans ?_
    exact r_zreturn f142_6 rfl (by decide)
  refine (r_stat (as := [.int x1]) (v := (some (.int 1))) (h1 := h) f188_1 rfl zg142 rfl rfl rfl rfl rfl rfl hc1).trans ?_
  refine (r_if_eq_f f188_4 (by decide)).trans ?_
  refine (r_iloadn f188_7 rfl).trans ?_
  refine (r_iconst (v := (-1)) f188_8 rfl).trans ?_
  refine (r_icmp_eq_f f188_9 ec2).trans ?_
  refine (r_aloadn f188_12 rfl).trans ?_
  refine (r_get (v := .ref 1) f188_13 g0 rfl).trans ?_
  refine (r_iloadn f188_16 rfl).trans ?_
  have hc3 : arun X (n + 15) (d + 2) zM74 0 [some (.ref 1), some (.int x2)] [] h = some ((some (.int 0)), h) := by
    refine (r_iloadn f74_0 rfl).trans ?_
    refine (r_iconst (v := 0) f74_1 rfl).trans ?_
    refine (r_aloadn f74_2 rfl).trans ?_
    refine (r_get (v := .int 0) f74_3 g1 rfl).trans ?_
    refine (r_iconst (v := 1) f74_6 rfl).trans ?_
    refine (r_isub (v := (-1)) f74_7 (by decide)).trans ?_
    have hc4 : arun X (n + 8) (d + 1) zM137 0 [some (.int x2), some (.int 0), some (.int (-1))] [] h = some ((some (.int 0)), h) := by
      refine (r_iloadn f137_0 rfl).trans ?_
      refine (r_iloadn f137_1 rfl).trans ?_
      refine (r_icmp_gt_f f137_2 ec3).trans ?_
      refine (r_iloadn f137_5 rfl).trans ?_
      refine (r_iloadn f137_6 rfl).trans ?_
      refine (r_icmp_gt_t f137_7 ec4).trans ?_
      refine (r_iconst (v := 0) f137_14 rfl).trans ?_
      exact r_zreturn f137_15 rfl (by decide)
    refine (r_stat (as := [.int x2, .int 0, .int (-1)]) (v := (some (.int 0))) (h1 := h) f74_8 rfl zg137 rfl rfl rfl rfl rfl rfl hc4).trans ?_
    exact r_zreturn f74_11 rfl (by decide)
  refine (r_virt (as := [.int x2]) (v := (some (.int 0))) (h1 := h) f188_17 g1 zg74 rfl rfl rfl rfl rfl rfl hc3).trans ?_
  refine (r_if_ne_f f188_20 (by decide)).trans ?_
  refine (r_iconst (v := (-1)) f188_23 rfl).trans ?_
  exact r_ireturn f188_24 rfl
set_option maxHeartbeats 40000000 in
theorem qm44_4_0 {X : aX} {n d : Nat} {h : aH} {x1 : Int32} {x2 : Int32}  (g72 : h.1[72]? = some (.inr (12, zF72))) (ec0 : ¬ x1 < 0) (ec1 : ¬ 5 < x1) (ec2 : ¬ x2 = (-1)) (ec3 : ¬ x2 < 0) (ec4 : (-1) < x2) : arun X (n + 24) (d + 3) zM319 0 [some (.ref 72), some (.int x1), some (.int x2)] [] h = some (some (.int (-1)), h) := by
  refine (r_iloadn f319_0 rfl).trans ?_
  have hc1 : arun X (n + 22) (d + 2) zM318 0 [some (.int x1)] [] h = some ((some (.int 1)), h) := by
    refine (r_iloadn f318_0 rfl).trans ?_
    refine (r_iconst (v := 0) f318_1 rfl).trans ?_
    refine (r_iconst (v := 5) f318_2 rfl).trans ?_
    have hc2 : arun X (n + 18) (d + 1) zM196 0 [some (.int x1), some (.int 0), some (.int 5)] [] h = some ((some (.int 1)), h) := by
      refine (r_iloadn f196_0 rfl).trans ?_
      refine (r_iloadn f196_1 rfl).trans ?_
      refine (r_icmp_lt_f f196_2 ec0).trans ?_
      refine (r_iloadn f196_5 rfl).trans ?_
      refine (r_iloadn f196_6 rfl).trans ?_
      refine (r_icmp_gt_f f196_7 ec1).trans ?_
      refine (r_iconst (v := 1) f196_10 rfl).trans ?_
      refine (r_goto f196_11).trans ?_
      exact r_zreturn f196_15 rfl (by decide)
    refine (r_stat (as := [.int x1, .int 0, .int 5]) (v := (some (.int 1))) (h1 := h) f318_3 rfl zg196 rfl rfl rfl rfl rfl rfl hc2).trans ?_
    exact r_zreturn f318_6 rfl (by decide)
  refine (r_stat (as := [.int x1]) (v := (some (.int 1))) (h1 := h) f319_1 rfl zg318 rfl rfl rfl rfl rfl rfl hc1).trans ?_
  refine (r_if_eq_f f319_4 (by decide)).trans ?_
  refine (r_iloadn f319_7 rfl).trans ?_
  refine (r_iconst (v := (-1)) f319_8 rfl).trans ?_
  refine (r_icmp_eq_f f319_9 ec2).trans ?_
  refine (r_aloadn f319_12 rfl).trans ?_
  refine (r_iloadn f319_13 rfl).trans ?_
  have hc3 : arun X (n + 15) (d + 2) zM200 0 [some (.ref 72), some (.int x2)] [] h = some ((some (.int 0)), h) := by
    refine (r_iloadn f200_0 rfl).trans ?_
    refine (r_iconst (v := 0) f200_1 rfl).trans ?_
    refine (r_aloadn f200_2 rfl).trans ?_
    refine (r_get (v := .int 0) f200_3 g72 rfl).trans ?_
    refine (r_iconst (v := 1) f200_6 rfl).trans ?_
    refine (r_isub (v := (-1)) f200_7 (by decide)).trans ?_
    have hc4 : arun X (n + 8) (d + 1) zM196 0 [some (.int x2), some (.int 0), some (.int (-1))] [] h = some ((some (.int 0)), h) := by
      refine (r_iloadn f196_0 rfl).trans ?_
      refine (r_iloadn f196_1 rfl).trans ?_
      refine (r_icmp_lt_f f196_2 ec3).trans ?_
      refine (r_iloadn f196_5 rfl).trans ?_
      refine (r_iloadn f196_6 rfl).trans ?_
      refine (r_icmp_gt_t f196_7 ec4).trans ?_
      refine (r_iconst (v := 0) f196_14 rfl).trans ?_
      exact r_zreturn f196_15 rfl (by decide)
    refine (r_stat (as := [.int x2, .int 0, .int (-1)]) (v := (some (.int 0))) (h1 := h) f200_8 rfl zg196 rfl rfl rfl rfl rfl rfl hc4).trans ?_
    exact r_zreturn f200_11 rfl (by decide)
  refine (r_virt (as := [.int x2]) (v := (some (.int 0))) (h1 := h) f319_14 g72 zg200 rfl rfl rfl rfl rfl rfl hc3).trans ?_
  refine (r_if_ne_f f319_17 (by decide)).trans ?_
  refine (r_iconst (v := (-1)) f319_20 rfl).trans ?_
  exact r_ireturn f319_21 rfl
set_option maxHeartbeats 40000000 in
theorem qc46_0 {X : aX} {n d : Nat} {h : aH} {x1 : Int32} {x2 : Int32} {x3 : Int64}  (ec0 : x1 < 0) : arun X (n + 11) (d + 3) zM190 0 [some (.ref 0), some (.int x1), some (.int x2), some (.long x3), none] [] h = some (some (.int (-1)), h) := by
  refine (r_iloadn f190_0 rfl).trans ?_
  have hc1 : arun X (n + 9) (d + 2) zM142 0 [some (.int x1)] [] h = some ((some (.int 0)), h) := by
    refine (r_iloadn f142_0 rfl).trans ?_
    refine (r_iconst (v := 0) f142_1 rfl).trans ?_
    refine (r_iconst (v := 5) f142_2 rfl).trans ?_
    have hc2 : arun X (n + 5) (d + 1) zM137 0 [some (.int x1), some (.int 0), some (.int 5)] [] h = some ((some (.int 0)), h) := by
      refine (r_iloadn f137_0 rfl).trans ?_
      refine (r_iloadn f137_1 rfl).trans ?_
      refine (r_icmp_gt_t f137_2 ec0).trans ?_
      refine (r_iconst (v := 0) f137_14 rfl).trans ?_
      exact r_zreturn f137_15 rfl (by decide)
    refine (r_stat (as := [.int x1, .int 0, .int 5]) (v := (some (.int 0))) (h1 := h) f142_3 rfl zg137 rfl rfl rfl rfl rfl rfl hc2).trans ?_
    exact r_zreturn f142_6 rfl (by decide)
  refine (r_stat (as := [.int x1]) (v := (some (.int 0))) (h1 := h) f190_1 rfl zg142 rfl rfl rfl rfl rfl rfl hc1).trans ?_
  refine (r_if_eq_t f190_4 (by decide)).trans ?_
  refine (r_iconst (v := (-1)) f190_20 rfl).trans ?_
  exact r_ireturn f190_21 rfl
set_option maxHeartbeats 40000000 in
theorem qm46_0_0 {X : aX} {n d : Nat} {h : aH} {x1 : Int32} {x2 : Int32} {x3 : Int64}  (g72 : h.1[72]? = some (.inr (12, zF72))) (ec0 : x1 < 0) : arun X (n + 15) (d + 4) zM322 0 [some (.ref 72), some (.int x1), some (.int x2), some (.long x3), none, none, none] [] h = some (some (.int (-1)), h) := by
  refine (r_aloadn f322_0 rfl).trans ?_
  refine (r_iloadn f322_1 rfl).trans ?_
  refine (r_iloadn f322_2 rfl).trans ?_
  have hc1 : arun X (n + 11) (d + 3) zM321 0 [some (.ref 72), some (.int x1), some (.int x2)] [] h = some ((some (.int (-1))), h) := by
    refine (r_iloadn f321_0 rfl).trans ?_
    have hc2 : arun X (n + 9) (d + 2) zM318 0 [some (.int x1)] [] h = some ((some (.int 0)), h) := by
      refine (r_iloadn f318_0 rfl).trans ?_
      refine (r_iconst (v := 0) f318_1 rfl).trans ?_
      refine (r_iconst (v := 5) f318_2 rfl).trans ?_
      have hc3 : arun X (n + 5) (d + 1) zM196 0 [some (.int x1), some (.int 0), some (.int 5)] [] h = some ((some (.int 0)), h) := by
        refine (r_iloadn f196_0 rfl).trans ?_
        refine (r_iloadn f196_1 rfl).trans ?_
        refine (r_icmp_lt_t f196_2 ec0).trans ?_
        refine (r_iconst (v := 0) f196_14 rfl).trans ?_
        exact r_zreturn f196_15 rfl (by decide)
      refine (r_stat (as := [.int x1, .int 0, .int 5]) (v := (some (.int 0))) (h1 := h) f318_3 rfl zg196 rfl rfl rfl rfl rfl rfl hc3).trans ?_
      exact r_zreturn f318_6 rfl (by decide)
    refine (r_stat (as := [.int x1]) (v := (some (.int 0))) (h1 := h) f321_1 rfl zg318 rfl rfl rfl rfl rfl rfl hc2).trans ?_
    refine (r_if_ne_f f321_4 (by decide)).trans ?_
    refine (r_iconst (v := (-1)) f321_7 rfl).trans ?_
    exact r_ireturn f321_8 rfl
  refine (r_virt (as := [.int x1, .int x2]) (v := (some (.int (-1)))) (h1 := h) f322_3 g72 zg321 rfl rfl rfl rfl rfl rfl hc1).trans ?_
  refine (r_istore (L' := [some (.ref 72), some (.int x1), some (.int x2), some (.long x3), none, some (.int (-1)), none]) f322_6 rfl rfl).trans ?_
  refine (r_iload f322_8 rfl).trans ?_
  refine (r_if_ge_f f322_10 (by decide)).trans ?_
  refine (r_iload f322_13 rfl).trans ?_
  exact r_ireturn f322_15 rfl
set_option maxHeartbeats 40000000 in
theorem qc46_1 {X : aX} {n d : Nat} {h : aH} {x1 : Int32} {x2 : Int32} {x3 : Int64}  (ec0 : ¬ x1 < 0) (ec1 : 5 < x1) : arun X (n + 14) (d + 3) zM190 0 [some (.ref 0), some (.int x1), some (.int x2), some (.long x3), none] [] h = some (some (.int (-1)), h) := by
  refine (r_iloadn f190_0 rfl).trans ?_
  have hc1 : arun X (n + 12) (d + 2) zM142 0 [some (.int x1)] [] h = some ((some (.int 0)), h) := by
    refine (r_iloadn f142_0 rfl).trans ?_
    refine (r_iconst (v := 0) f142_1 rfl).trans ?_
    refine (r_iconst (v := 5) f142_2 rfl).trans ?_
    have hc2 : arun X (n + 8) (d + 1) zM137 0 [some (.int x1), some (.int 0), some (.int 5)] [] h = some ((some (.int 0)), h) := by
      refine (r_iloadn f137_0 rfl).trans ?_
      refine (r_iloadn f137_1 rfl).trans ?_
      refine (r_icmp_gt_f f137_2 ec0).trans ?_
      refine (r_iloadn f137_5 rfl).trans ?_
      refine (r_iloadn f137_6 rfl).trans ?_
      refine (r_icmp_gt_t f137_7 ec1).trans ?_
      refine (r_iconst (v := 0) f137_14 rfl).trans ?_
      exact r_zreturn f137_15 rfl (by decide)
    refine (r_stat (as := [.int x1, .int 0, .int 5]) (v := (some (.int 0))) (h1 := h) f142_3 rfl zg137 rfl rfl rfl rfl rfl rfl hc2).trans ?_
    exact r_zreturn f142_6 rfl (by decide)
  refine (r_stat (as := [.int x1]) (v := (some (.int 0))) (h1 := h) f190_1 rfl zg142 rfl rfl rfl rfl rfl rfl hc1).trans ?_
  refine (r_if_eq_t f190_4 (by decide)).trans ?_
  refine (r_iconst (v := (-1)) f190_20 rfl).trans ?_
  exact r_ireturn f190_21 rfl
set_option maxHeartbeats 40000000 in
theorem qm46_1_0 {X : aX} {n d : Nat} {h : aH} {x1 : Int32} {x2 : Int32} {x3 : Int64}  (g72 : h.1[72]? = some (.inr (12, zF72))) (ec0 : ¬ x1 < 0) (ec1 : 5 < x1) : arun X (n + 18) (d + 4) zM322 0 [some (.ref 72), some (.int x1), some (.int x2), some (.long x3), none, none, none] [] h = some (some (.int (-1)), h) := by
  refine (r_aloadn f322_0 rfl).trans ?_
  refine (r_iloadn f322_1 rfl).trans ?_
  refine (r_iloadn f322_2 rfl).trans ?_
  have hc1 : arun X (n + 14) (d + 3) zM321 0 [some (.ref 72), some (.int x1), some (.int x2)] [] h = some ((some (.int (-1))), h) := by
    refine (r_iloadn f321_0 rfl).trans ?_
    have hc2 : arun X (n + 12) (d + 2) zM318 0 [some (.int x1)] [] h = some ((some (.int 0)), h) := by
      refine (r_iloadn f318_0 rfl).trans ?_
      refine (r_iconst (v := 0) f318_1 rfl).trans ?_
      refine (r_iconst (v := 5) f318_2 rfl).trans ?_
      have hc3 : arun X (n + 8) (d + 1) zM196 0 [some (.int x1), some (.int 0), some (.int 5)] [] h = some ((some (.int 0)), h) := by
        refine (r_iloadn f196_0 rfl).trans ?_
        refine (r_iloadn f196_1 rfl).trans ?_
        refine (r_icmp_lt_f f196_2 ec0).trans ?_
        refine (r_iloadn f196_5 rfl).trans ?_
        refine (r_iloadn f196_6 rfl).trans ?_
        refine (r_icmp_gt_t f196_7 ec1).trans ?_
        refine (r_iconst (v := 0) f196_14 rfl).trans ?_
        exact r_zreturn f196_15 rfl (by decide)
      refine (r_stat (as := [.int x1, .int 0, .int 5]) (v := (some (.int 0))) (h1 := h) f318_3 rfl zg196 rfl rfl rfl rfl rfl rfl hc3).trans ?_
      exact r_zreturn f318_6 rfl (by decide)
    refine (r_stat (as := [.int x1]) (v := (some (.int 0))) (h1 := h) f321_1 rfl zg318 rfl rfl rfl rfl rfl rfl hc2).trans ?_
    refine (r_if_ne_f f321_4 (by decide)).trans ?_
    refine (r_iconst (v := (-1)) f321_7 rfl).trans ?_
    exact r_ireturn f321_8 rfl
  refine (r_virt (as := [.int x1, .int x2]) (v := (some (.int (-1)))) (h1 := h) f322_3 g72 zg321 rfl rfl rfl rfl rfl rfl hc1).trans ?_
  refine (r_istore (L' := [some (.ref 72), some (.int x1), some (.int x2), some (.long x3), none, some (.int (-1)), none]) f322_6 rfl rfl).trans ?_
  refine (r_iload f322_8 rfl).trans ?_
  refine (r_if_ge_f f322_10 (by decide)).trans ?_
  refine (r_iload f322_13 rfl).trans ?_
  exact r_ireturn f322_15 rfl
set_option maxHeartbeats 40000000 in
theorem qc46_2 {X : aX} {n d : Nat} {h : aH} {x1 : Int32} {x2 : Int32} {x3 : Int64}  (g0 : h.1[0]? = some (.inr (11, zF0))) (g68 : h.1[68]? = some (.inr (9, zF68))) (g69 : h.1[69]? = some (.inl (0, 6, .inl (fun _ => (-1))))) (ec0 : ¬ x1 < 0) (ec1 : ¬ 5 < x1) (jc0 : ¬ (x1 < 0 ∨ 6 ≤ Int32.toNatClampNeg x1)) : arun X (n + 20) (d + 3) zM190 0 [some (.ref 0), some (.int x1), some (.int x2), some (.long x3), none] [] h = some (some (.int (-11)), h) := by
  refine (r_iloadn f190_0 rfl).trans ?_
  have hc1 : arun X (n + 18) (d + 2) zM142 0 [some (.int x1)] [] h = some ((some (.int 1)), h) := by
    refine (r_iloadn f142_0 rfl).trans ?_
    refine (r_iconst (v := 0) f142_1 rfl).trans ?_
    refine (r_iconst (v := 5) f142_2 rfl).trans ?_
    have hc2 : arun X (n + 14) (d + 1) zM137 0 [some (.int x1), some (.int 0), some (.int 5)] [] h = some ((some (.int 1)), h) := by
      refine (r_iloadn f137_0 rfl).trans ?_
      refine (r_iloadn f137_1 rfl).trans ?_
      refine (r_icmp_gt_f f137_2 ec0).trans ?_
      refine (r_iloadn f137_5 rfl).trans ?_
      refine (r_iloadn f137_6 rfl).trans ?_
      refine (r_icmp_gt_f f137_7 ec1).trans ?_
      refine (r_iconst (v := 1) f137_10 rfl).trans ?_
      refine (r_goto f137_11).trans ?_
      exact r_zreturn f137_15 rfl (by decide)
    refine (r_stat (as := [.int x1, .int 0, .int 5]) (v := (some (.int 1))) (h1 := h) f142_3 rfl zg137 rfl rfl rfl rfl rfl rfl hc2).trans ?_
    exact r_zreturn f142_6 rfl (by decide)
  refine (r_stat (as := [.int x1]) (v := (some (.int 1))) (h1 := h) f190_1 rfl zg142 rfl rfl rfl rfl rfl rfl hc1).trans ?_
  refine (r_if_eq_f f190_4 (by decide)).trans ?_
  refine (r_aloadn f190_7 rfl).trans ?_
  refine (r_get (v := .ref 68) f190_8 g0 rfl).trans ?_
  refine (r_iloadn f190_11 rfl).trans ?_
  refine (r_iloadn f190_12 rfl).trans ?_
  refine (r_lloadn f190_13 rfl).trans ?_
  have hc3 : arun X (n + 11) (d + 2) zM112 0 [some (.ref 68), some (.int x1), some (.int x2), some (.long x3), none, none] [] h = some ((some (.int (-11))), h) := by
    refine (r_aloadn f112_0 rfl).trans ?_
    refine (r_iloadn f112_1 rfl).trans ?_
    have hc4 : arun X (n + 8) (d + 1) zM110 0 [some (.ref 68), some (.int x1)] [] h = some ((some (.int (-11))), h) := by
      refine (r_aloadn f110_0 rfl).trans ?_
      refine (r_get (v := .ref 69) f110_1 g68 rfl).trans ?_
      refine (r_iloadn f110_4 rfl).trans ?_
      refine (r_iald (v := (-1)) f110_5 g69 jc0 rfl).trans ?_
      refine (r_iconst (v := (-1)) f110_6 rfl).trans ?_
      refine (r_icmp_ne_f f110_7 (by decide)).trans ?_
      refine (r_bipush (v := (-11)) f110_10 rfl).trans ?_
      exact r_ireturn f110_12 rfl
    refine (r_virt (as := [.int x1]) (v := (some (.int (-11)))) (h1 := h) f112_2 g68 zg110 rfl rfl rfl rfl rfl rfl hc4).trans ?_
    refine (r_istore (L' := [some (.ref 68), some (.int x1), some (.int x2), some (.long x3), none, some (.int (-11))]) f112_5 rfl rfl).trans ?_
    refine (r_iload f112_7 rfl).trans ?_
    refine (r_iconst (v := 1) f112_9 rfl).trans ?_
    refine (r_icmp_eq_f f112_10 (by decide)).trans ?_
    refine (r_iload f112_13 rfl).trans ?_
    exact r_ireturn f112_15 rfl
  refine (r_virt (as := [.int x1, .int x2, .long x3]) (v := (some (.int (-11)))) (h1 := h) f190_14 g68 zg112 rfl rfl rfl rfl rfl rfl hc3).trans ?_
  refine (r_goto f190_17).trans ?_
  exact r_ireturn f190_21 rfl
set_option maxHeartbeats 40000000 in
theorem qm46_2_0 {X : aX} {n d : Nat} {h : aH} {x1 : Int32} {x2 : Int32} {x3 : Int64}  (g72 : h.1[72]? = some (.inr (12, zF72))) (g142 : h.1[142]? = some (.inl (0, 6, .inl (fun _ => (-1))))) (ec0 : ¬ x1 < 0) (ec1 : ¬ 5 < x1) (jm0 : ¬ (x1 < 0 ∨ 6 ≤ Int32.toNatClampNeg x1)) : arun X (n + 19) (d + 4) zM322 0 [some (.ref 72), some (.int x1), some (.int x2), some (.long x3), none, none, none] [] h = some (some (.int (-11)), h) := by
  refine (r_aloadn f322_0 rfl).trans ?_
  refine (r_iloadn f322_1 rfl).trans ?_
  refine (r_iloadn f322_2 rfl).trans ?_
  have hc1 : arun X (n + 15) (d + 3) zM321 0 [some (.ref 72), some (.int x1), some (.int x2)] [] h = some ((some (.int (-11))), h) := by
    refine (r_iloadn f321_0 rfl).trans ?_
    have hc2 : arun X (n + 13) (d + 2) zM318 0 [some (.int x1)] [] h = some ((some (.int 1)), h) := by
      refine (r_iloadn f318_0 rfl).trans ?_
      refine (r_iconst (v := 0) f318_1 rfl).trans ?_
      refine (r_iconst (v := 5) f318_2 rfl).trans ?_
      have hc3 : arun X (n + 9) (d + 1) zM196 0 [some (.int x1), some (.int 0), some (.int 5)] [] h = some ((some (.int 1)), h) := by
        refine (r_iloadn f196_0 rfl).trans ?_
        refine (r_iloadn f196_1 rfl).trans ?_
        refine (r_icmp_lt_f f196_2 ec0).trans ?_
        refine (r_iloadn f196_5 rfl).trans ?_
        refine (r_iloadn f196_6 rfl).trans ?_
        refine (r_icmp_gt_f f196_7 ec1).trans ?_
        refine (r_iconst (v := 1) f196_10 rfl).trans ?_
        refine (r_goto f196_11).trans ?_
        exact r_zreturn f196_15 rfl (by decide)
      refine (r_stat (as := [.int x1, .int 0, .int 5]) (v := (some (.int 1))) (h1 := h) f318_3 rfl zg196 rfl rfl rfl rfl rfl rfl hc3).trans ?_
      exact r_zreturn f318_6 rfl (by decide)
    refine (r_stat (as := [.int x1]) (v := (some (.int 1))) (h1 := h) f321_1 rfl zg318 rfl rfl rfl rfl rfl rfl hc2).trans ?_
    refine (r_if_ne_t f321_4 (by decide)).trans ?_
    refine (r_aloadn f321_9 rfl).trans ?_
    refine (r_get (v := .ref 142) f321_10 g72 rfl).trans ?_
    refine (r_iloadn f321_13 rfl).trans ?_
    refine (r_iald (v := (-1)) f321_14 g142 jm0 rfl).trans ?_
    refine (r_iconst (v := (-1)) f321_15 rfl).trans ?_
    refine (r_icmp_ne_f f321_16 (by decide)).trans ?_
    refine (r_bipush (v := (-11)) f321_19 rfl).trans ?_
    exact r_ireturn f321_21 rfl
  refine (r_virt (as := [.int x1, .int x2]) (v := (some (.int (-11)))) (h1 := h) f322_3 g72 zg321 rfl rfl rfl rfl rfl rfl hc1).trans ?_
  refine (r_istore (L' := [some (.ref 72), some (.int x1), some (.int x2), some (.long x3), none, some (.int (-11)), none]) f322_6 rfl rfl).trans ?_
  refine (r_iload f322_8 rfl).trans ?_
  refine (r_if_ge_f f322_10 (by decide)).trans ?_
  refine (r_iload f322_13 rfl).trans ?_
  exact r_ireturn f322_15 rfl
set_option maxHeartbeats 40000000 in
theorem qc47_0 {X : aX} {n d : Nat} {h : aH} {x1 : Int32} {x2 : Int32}  (ec0 : x1 < 0) : arun X (n + 11) (d + 3) zM191 0 [some (.ref 0), some (.int x1), some (.int x2)] [] h = some (some (.long (-9223372036854775808)), h) := by
  refine (r_iloadn f191_0 rfl).trans ?_
  have hc1 : arun X (n + 9) (d + 2) zM142 0 [some (.int x1)] [] h = some ((some (.int 0)), h) := by
    refine (r_iloadn f142_0 rfl).trans ?_
    refine (r_iconst (v := 0) f142_1 rfl).trans ?_
    refine (r_iconst (v := 5) f142_2 rfl).trans ?_
    have hc2 : arun X (n + 5) (d + 1) zM137 0 [some (.int x1), some (.int 0), some (.int 5)] [] h = some ((some (.int 0)), h) := by
      refine (r_iloadn f137_0 rfl).trans ?_
      refine (r_iloadn f137_1 rfl).trans ?_
      refine (r_icmp_gt_t f137_2 ec0).trans ?_
      refine (r_iconst (v := 0) f137_14 rfl).trans ?_
      exact r_zreturn f137_15 rfl (by decide)
    refine (r_stat (as := [.int x1, .int 0, .int 5]) (v := (some (.int 0))) (h1 := h) f142_3 rfl zg137 rfl rfl rfl rfl rfl rfl hc2).trans ?_
    exact r_zreturn f142_6 rfl (by decide)
  refine (r_stat (as := [.int x1]) (v := (some (.int 0))) (h1 := h) f191_1 rfl zg142 rfl rfl rfl rfl rfl rfl hc1).trans ?_
  refine (r_if_eq_t f191_4 (by decide)).trans ?_
  refine (r_ldc2 (v := (-9223372036854775808)) f191_19 (by decide)).trans ?_
  exact r_lreturn f191_22 rfl
set_option maxHeartbeats 40000000 in
theorem qm47_0_0 {X : aX} {n d : Nat} {h : aH} {x1 : Int32} {x2 : Int32}  (g72 : h.1[72]? = some (.inr (12, zF72))) (ec0 : x1 < 0) : arun X (n + 15) (d + 4) zM323 0 [some (.ref 72), some (.int x1), some (.int x2)] [] h = some (some (.long (-9223372036854775808)), h) := by
  refine (r_aloadn f323_0 rfl).trans ?_
  refine (r_iloadn f323_1 rfl).trans ?_
  refine (r_iloadn f323_2 rfl).trans ?_
  have hc1 : arun X (n + 11) (d + 3) zM321 0 [some (.ref 72), some (.int x1), some (.int x2)] [] h = some ((some (.int (-1))), h) := by
    refine (r_iloadn f321_0 rfl).trans ?_
    have hc2 : arun X (n + 9) (d + 2) zM318 0 [some (.int x1)] [] h = some ((some (.int 0)), h) := by
      refine (r_iloadn f318_0 rfl).trans ?_
      refine (r_iconst (v := 0) f318_1 rfl).trans ?_
      refine (r_iconst (v := 5) f318_2 rfl).trans ?_
      have hc3 : arun X (n + 5) (d + 1) zM196 0 [some (.int x1), some (.int 0), some (.int 5)] [] h = some ((some (.int 0)), h) := by
        refine (r_iloadn f196_0 rfl).trans ?_
        refine (r_iloadn f196_1 rfl).trans ?_
        refine (r_icmp_lt_t f196_2 ec0).trans ?_
        refine (r_iconst (v := 0) f196_14 rfl).trans ?_
        exact r_zreturn f196_15 rfl (by decide)
      refine (r_stat (as := [.int x1, .int 0, .int 5]) (v := (some (.int 0))) (h1 := h) f318_3 rfl zg196 rfl rfl rfl rfl rfl rfl hc3).trans ?_
      exact r_zreturn f318_6 rfl (by decide)
    refine (r_stat (as := [.int x1]) (v := (some (.int 0))) (h1 := h) f321_1 rfl zg318 rfl rfl rfl rfl rfl rfl hc2).trans ?_
    refine (r_if_ne_f f321_4 (by decide)).trans ?_
    refine (r_iconst (v := (-1)) f321_7 rfl).trans ?_
    exact r_ireturn f321_8 rfl
  refine (r_virt (as := [.int x1, .int x2]) (v := (some (.int (-1)))) (h1 := h) f323_3 g72 zg321 rfl rfl rfl rfl rfl rfl hc1).trans ?_
  refine (r_if_ge_f f323_6 (by decide)).trans ?_
  refine (r_ldc2 (v := (-9223372036854775808)) f323_9 (by decide)).trans ?_
  refine (r_goto f323_12).trans ?_
  exact r_lreturn f323_26 rfl
set_option maxHeartbeats 40000000 in
theorem qc47_1 {X : aX} {n d : Nat} {h : aH} {x1 : Int32} {x2 : Int32}  (ec0 : ¬ x1 < 0) (ec1 : 5 < x1) : arun X (n + 14) (d + 3) zM191 0 [some (.ref 0), some (.int x1), some (.int x2)] [] h = some (some (.long (-9223372036854775808)), h) := by
  refine (r_iloadn f191_0 rfl).trans ?_
  have hc1 : arun X (n + 12) (d + 2) zM142 0 [some (.int x1)] [] h = some ((some (.int 0)), h) := by
    refine (r_iloadn f142_0 rfl).trans ?_
    refine (r_iconst (v := 0) f142_1 rfl).trans ?_
    refine (r_iconst (v := 5) f142_2 rfl).trans ?_
    have hc2 : arun X (n + 8) (d + 1) zM137 0 [some (.int x1), some (.int 0), some (.int 5)] [] h = some ((some (.int 0)), h) := by
      refine (r_iloadn f137_0 rfl).trans ?_
      refine (r_iloadn f137_1 rfl).trans ?_
      refine (r_icmp_gt_f f137_2 ec0).trans ?_
      refine (r_iloadn f137_5 rfl).trans ?_
      refine (r_iloadn f137_6 rfl).trans ?_
      refine (r_icmp_gt_t f137_7 ec1).trans ?_
      refine (r_iconst (v := 0) f137_14 rfl).trans ?_
      exact r_zreturn f137_15 rfl (by decide)
    refine (r_stat (as := [.int x1, .int 0, .int 5]) (v := (some (.int 0))) (h1 := h) f142_3 rfl zg137 rfl rfl rfl rfl rfl rfl hc2).trans ?_
    exact r_zreturn f142_6 rfl (by decide)
  refine (r_stat (as := [.int x1]) (v := (some (.int 0))) (h1 := h) f191_1 rfl zg142 rfl rfl rfl rfl rfl rfl hc1).trans ?_
  refine (r_if_eq_t f191_4 (by decide)).trans ?_
  refine (r_ldc2 (v := (-9223372036854775808)) f191_19 (by decide)).trans ?_
  exact r_lreturn f191_22 rfl
set_option maxHeartbeats 40000000 in
theorem qm47_1_0 {X : aX} {n d : Nat} {h : aH} {x1 : Int32} {x2 : Int32}  (g72 : h.1[72]? = some (.inr (12, zF72))) (ec0 : ¬ x1 < 0) (ec1 : 5 < x1) : arun X (n + 18) (d + 4) zM323 0 [some (.ref 72), some (.int x1), some (.int x2)] [] h = some (some (.long (-9223372036854775808)), h) := by
  refine (r_aloadn f323_0 rfl).trans ?_
  refine (r_iloadn f323_1 rfl).trans ?_
  refine (r_iloadn f323_2 rfl).trans ?_
  have hc1 : arun X (n + 14) (d + 3) zM321 0 [some (.ref 72), some (.int x1), some (.int x2)] [] h = some ((some (.int (-1))), h) := by
    refine (r_iloadn f321_0 rfl).trans ?_
    have hc2 : arun X (n + 12) (d + 2) zM318 0 [some (.int x1)] [] h = some ((some (.int 0)), h) := by
      refine (r_iloadn f318_0 rfl).trans ?_
      refine (r_iconst (v := 0) f318_1 rfl).trans ?_
      refine (r_iconst (v := 5) f318_2 rfl).trans ?_
      have hc3 : arun X (n + 8) (d + 1) zM196 0 [some (.int x1), some (.int 0), some (.int 5)] [] h = some ((some (.int 0)), h) := by
        refine (r_iloadn f196_0 rfl).trans ?_
        refine (r_iloadn f196_1 rfl).trans ?_
        refine (r_icmp_lt_f f196_2 ec0).trans ?_
        refine (r_iloadn f196_5 rfl).trans ?_
        refine (r_iloadn f196_6 rfl).trans ?_
        refine (r_icmp_gt_t f196_7 ec1).trans ?_
        refine (r_iconst (v := 0) f196_14 rfl).trans ?_
        exact r_zreturn f196_15 rfl (by decide)
      refine (r_stat (as := [.int x1, .int 0, .int 5]) (v := (some (.int 0))) (h1 := h) f318_3 rfl zg196 rfl rfl rfl rfl rfl rfl hc3).trans ?_
      exact r_zreturn f318_6 rfl (by decide)
    refine (r_stat (as := [.int x1]) (v := (some (.int 0))) (h1 := h) f321_1 rfl zg318 rfl rfl rfl rfl rfl rfl hc2).trans ?_
    refine (r_if_ne_f f321_4 (by decide)).trans ?_
    refine (r_iconst (v := (-1)) f321_7 rfl).trans ?_
    exact r_ireturn f321_8 rfl
  refine (r_virt (as := [.int x1, .int x2]) (v := (some (.int (-1)))) (h1 := h) f323_3 g72 zg321 rfl rfl rfl rfl rfl rfl hc1).trans ?_
  refine (r_if_ge_f f323_6 (by decide)).trans ?_
  refine (r_ldc2 (v := (-9223372036854775808)) f323_9 (by decide)).trans ?_
  refine (r_goto f323_12).trans ?_
  exact r_lreturn f323_26 rfl
set_option maxHeartbeats 40000000 in
theorem qc47_2 {X : aX} {n d : Nat} {h : aH} {x1 : Int32} {x2 : Int32}  (g0 : h.1[0]? = some (.inr (11, zF0))) (g68 : h.1[68]? = some (.inr (9, zF68))) (g69 : h.1[69]? = some (.inl (0, 6, .inl (fun _ => (-1))))) (ec0 : ¬ x1 < 0) (ec1 : ¬ 5 < x1) (jc0 : ¬ (x1 < 0 ∨ 6 ≤ Int32.toNatClampNeg x1)) : arun X (n + 24) (d + 4) zM191 0 [some (.ref 0), some (.int x1), some (.int x2)] [] h = some (some (.long (-9223372036854775808)), h) := by
  refine (r_iloadn f191_0 rfl).trans ?_
  have hc1 : arun X (n + 22) (d + 3) zM142 0 [some (.int x1)] [] h = some ((some (.int 1)), h) := by
    refine (r_iloadn f142_0 rfl).trans ?_
    refine (r_iconst (v := 0) f142_1 rfl).trans ?_
    refine (r_iconst (v := 5) f142_2 rfl).trans ?_
    have hc2 : arun X (n + 18) (d + 2) zM137 0 [some (.int x1), some (.int 0), some (.int 5)] [] h = some ((some (.int 1)), h) := by
      refine (r_iloadn f137_0 rfl).trans ?_
      refine (r_iloadn f137_1 rfl).trans ?_
      refine (r_icmp_gt_f f137_2 ec0).trans ?_
      refine (r_iloadn f137_5 rfl).trans ?_
      refine (r_iloadn f137_6 rfl).trans ?_
      refine (r_icmp_gt_f f137_7 ec1).trans ?_
      refine (r_iconst (v := 1) f137_10 rfl).trans ?_
      refine (r_goto f137_11).trans ?_
      exact r_zreturn f137_15 rfl (by decide)
    refine (r_stat (as := [.int x1, .int 0, .int 5]) (v := (some (.int 1))) (h1 := h) f142_3 rfl zg137 rfl rfl rfl rfl rfl rfl hc2).trans ?_
    exact r_zreturn f142_6 rfl (by decide)
  refine (r_stat (as := [.int x1]) (v := (some (.int 1))) (h1 := h) f191_1 rfl zg142 rfl rfl rfl rfl rfl rfl hc1).trans ?_
  refine (r_if_eq_f f191_4 (by decide)).trans ?_
  refine (r_aloadn f191_7 rfl).trans ?_
  refine (r_get (v := .ref 68) f191_8 g0 rfl).trans ?_
  refine (r_iloadn f191_11 rfl).trans ?_
  refine (r_iloadn f191_12 rfl).trans ?_
  have hc3 : arun X (n + 16) (d + 3) zM114 0 [some (.ref 68), some (.int x1), some (.int x2)] [] h = some ((some (.long (-9223372036854775808))), h) := by
    refine (r_aloadn f114_0 rfl).trans ?_
    refine (r_iloadn f114_1 rfl).trans ?_
    refine (r_iloadn f114_2 rfl).trans ?_
    refine (r_i2l (v := (x2).toInt64) f114_3 rfl).trans ?_
    have hc4 : arun X (n + 11) (d + 2) zM111 0 [some (.ref 68), some (.int x1), some (.long (x2).toInt64), none] [] h = some ((some (.int 0)), h) := by
      refine (r_aloadn f111_0 rfl).trans ?_
      refine (r_iloadn f111_1 rfl).trans ?_
      have hc5 : arun X (n + 8) (d + 1) zM110 0 [some (.ref 68), some (.int x1)] [] h = some ((some (.int (-11))), h) := by
        refine (r_aloadn f110_0 rfl).trans ?_
        refine (r_get (v := .ref 69) f110_1 g68 rfl).trans ?_
        refine (r_iloadn f110_4 rfl).trans ?_
        refine (r_iald (v := (-1)) f110_5 g69 jc0 rfl).trans ?_
        refine (r_iconst (v := (-1)) f110_6 rfl).trans ?_
        refine (r_icmp_ne_f f110_7 (by decide)).trans ?_
        refine (r_bipush (v := (-11)) f110_10 rfl).trans ?_
        exact r_ireturn f110_12 rfl
      refine (r_virt (as := [.int x1]) (v := (some (.int (-11)))) (h1 := h) f111_2 g68 zg110 rfl rfl rfl rfl rfl rfl hc5).trans ?_
      refine (r_iconst (v := 1) f111_5 rfl).trans ?_
      refine (r_icmp_ne_t f111_6 (by decide)).trans ?_
      refine (r_iconst (v := 0) f111_31 rfl).trans ?_
      exact r_zreturn f111_32 rfl (by decide)
    refine (r_virt (as := [.int x1, .long (x2).toInt64]) (v := (some (.int 0))) (h1 := h) f114_4 g68 zg111 rfl rfl rfl rfl rfl rfl hc4).trans ?_
    refine (r_if_eq_t f114_7 (by decide)).trans ?_
    refine (r_ldc2 (v := (-9223372036854775808)) f114_24 (by decide)).trans ?_
    exact r_lreturn f114_27 rfl
  refine (r_virt (as := [.int x1, .int x2]) (v := (some (.long (-9223372036854775808)))) (h1 := h) f191_13 g68 zg114 rfl rfl rfl rfl rfl rfl hc3).trans ?_
  refine (r_goto f191_16).trans ?_
  exact r_lreturn f191_22 rfl
set_option maxHeartbeats 40000000 in
theorem qm47_2_0 {X : aX} {n d : Nat} {h : aH} {x1 : Int32} {x2 : Int32}  (g72 : h.1[72]? = some (.inr (12, zF72))) (g142 : h.1[142]? = some (.inl (0, 6, .inl (fun _ => (-1))))) (ec0 : ¬ x1 < 0) (ec1 : ¬ 5 < x1) (jm0 : ¬ (x1 < 0 ∨ 6 ≤ Int32.toNatClampNeg x1)) : arun X (n + 19) (d + 4) zM323 0 [some (.ref 72), some (.int x1), some (.int x2)] [] h = some (some (.long (-9223372036854775808)), h) := by
  refine (r_aloadn f323_0 rfl).trans ?_
  refine (r_iloadn f323_1 rfl).trans ?_
  refine (r_iloadn f323_2 rfl).trans ?_
  have hc1 : arun X (n + 15) (d + 3) zM321 0 [some (.ref 72), some (.int x1), some (.int x2)] [] h = some ((some (.int (-11))), h) := by
    refine (r_iloadn f321_0 rfl).trans ?_
    have hc2 : arun X (n + 13) (d + 2) zM318 0 [some (.int x1)] [] h = some ((some (.int 1)), h) := by
      refine (r_iloadn f318_0 rfl).trans ?_
      refine (r_iconst (v := 0) f318_1 rfl).trans ?_
      refine (r_iconst (v := 5) f318_2 rfl).trans ?_
      have hc3 : arun X (n + 9) (d + 1) zM196 0 [some (.int x1), some (.int 0), some (.int 5)] [] h = some ((some (.int 1)), h) := by
        refine (r_iloadn f196_0 rfl).trans ?_
        refine (r_iloadn f196_1 rfl).trans ?_
        refine (r_icmp_lt_f f196_2 ec0).trans ?_
        refine (r_iloadn f196_5 rfl).trans ?_
        refine (r_iloadn f196_6 rfl).trans ?_
        refine (r_icmp_gt_f f196_7 ec1).trans ?_
        refine (r_iconst (v := 1) f196_10 rfl).trans ?_
        refine (r_goto f196_11).trans ?_
        exact r_zreturn f196_15 rfl (by decide)
      refine (r_stat (as := [.int x1, .int 0, .int 5]) (v := (some (.int 1))) (h1 := h) f318_3 rfl zg196 rfl rfl rfl rfl rfl rfl hc3).trans ?_
      exact r_zreturn f318_6 rfl (by decide)
    refine (r_stat (as := [.int x1]) (v := (some (.int 1))) (h1 := h) f321_1 rfl zg318 rfl rfl rfl rfl rfl rfl hc2).trans ?_
    refine (r_if_ne_t f321_4 (by decide)).trans ?_
    refine (r_aloadn f321_9 rfl).trans ?_
    refine (r_get (v := .ref 142) f321_10 g72 rfl).trans ?_
    refine (r_iloadn f321_13 rfl).trans ?_
    refine (r_iald (v := (-1)) f321_14 g142 jm0 rfl).trans ?_
    refine (r_iconst (v := (-1)) f321_15 rfl).trans ?_
    refine (r_icmp_ne_f f321_16 (by decide)).trans ?_
    refine (r_bipush (v := (-11)) f321_19 rfl).trans ?_
    exact r_ireturn f321_21 rfl
  refine (r_virt (as := [.int x1, .int x2]) (v := (some (.int (-11)))) (h1 := h) f323_3 g72 zg321 rfl rfl rfl rfl rfl rfl hc1).trans ?_
  refine (r_if_ge_f f323_6 (by decide)).trans ?_
  refine (r_ldc2 (v := (-9223372036854775808)) f323_9 (by decide)).trans ?_
  refine (r_goto f323_12).trans ?_
  exact r_lreturn f323_26 rfl
set_option maxHeartbeats 40000000 in
theorem qc48_0 {X : aX} {n d : Nat} {h : aH} {x1 : Int32} {x2 : Int32} {x3 : Int32} {x4 : Int32} {x5 : Int32}  (ec0 : x1 < 0) : arun X (n + 11) (d + 3) zM192 0 [some (.ref 0), some (.int x1), some (.int x2), some (.int x3), some (.int x4), some (.int x5)] [] h = some (some (.int (-1)), h) := by
  refine (r_iloadn f192_0 rfl).trans ?_
  have hc1 : arun X (n + 9) (d + 2) zM142 0 [some (.int x1)] [] h = some ((some (.int 0)), h) := by
    refine (r_iloadn f142_0 rfl).trans ?_
    refine (r_iconst (v := 0) f142_1 rfl).trans ?_
    refine (r_iconst (v := 5) f142_2 rfl).trans ?_
    have hc2 : arun X (n + 5) (d + 1) zM137 0 [some (.int x1), some (.int 0), some (.int 5)] [] h = some ((some (.int 0)), h) := by
      refine (r_iloadn f137_0 rfl).trans ?_
      refine (r_iloadn f137_1 rfl).trans ?_
      refine (r_icmp_gt_t f137_2 ec0).trans ?_
      refine (r_iconst (v := 0) f137_14 rfl).trans ?_
      exact r_zreturn f137_15 rfl (by decide)
    refine (r_stat (as := [.int x1, .int 0, .int 5]) (v := (some (.int 0))) (h1 := h) f142_3 rfl zg137 rfl rfl rfl rfl rfl rfl hc2).trans ?_
    exact r_zreturn f142_6 rfl (by decide)
  refine (r_stat (as := [.int x1]) (v := (some (.int 0))) (h1 := h) f192_1 rfl zg142 rfl rfl rfl rfl rfl rfl hc1).trans ?_
  refine (r_if_eq_t f192_4 (by decide)).trans ?_
  refine (r_iconst (v := (-1)) f192_31 rfl).trans ?_
  exact r_ireturn f192_32 rfl
set_option maxHeartbeats 40000000 in
theorem qm48_0_0 {X : aX} {n d : Nat} {h : aH} {x1 : Int32} {x2 : Int32} {x3 : Int32} {x4 : Int32} {x5 : Int32}  (ec0 : x1 < 0) : arun X (n + 11) (d + 3) zM324 0 [some (.ref 72), some (.int x1), some (.int x2), some (.int x3), some (.int x4), some (.int x5), none] [] h = some (some (.int (-1)), h) := by
  refine (r_iloadn f324_0 rfl).trans ?_
  have hc1 : arun X (n + 9) (d + 2) zM318 0 [some (.int x1)] [] h = some ((some (.int 0)), h) := by
    refine (r_iloadn f318_0 rfl).trans ?_
    refine (r_iconst (v := 0) f318_1 rfl).trans ?_
    refine (r_iconst (v := 5) f318_2 rfl).trans ?_
    have hc2 : arun X (n + 5) (d + 1) zM196 0 [some (.int x1), some (.int 0), some (.int 5)] [] h = some ((some (.int 0)), h) := by
      refine (r_iloadn f196_0 rfl).trans ?_
      refine (r_iloadn f196_1 rfl).trans ?_
      refine (r_icmp_lt_t f196_2 ec0).trans ?_
      refine (r_iconst (v := 0) f196_14 rfl).trans ?_
      exact r_zreturn f196_15 rfl (by decide)
    refine (r_stat (as := [.int x1, .int 0, .int 5]) (v := (some (.int 0))) (h1 := h) f318_3 rfl zg196 rfl rfl rfl rfl rfl rfl hc2).trans ?_
    exact r_zreturn f318_6 rfl (by decide)
  refine (r_stat (as := [.int x1]) (v := (some (.int 0))) (h1 := h) f324_1 rfl zg318 rfl rfl rfl rfl rfl rfl hc1).trans ?_
  refine (r_if_eq_t f324_4 (by decide)).trans ?_
  refine (r_iconst (v := (-1)) f324_14 rfl).trans ?_
  exact r_ireturn f324_15 rfl
set_option maxHeartbeats 40000000 in
theorem qc48_1 {X : aX} {n d : Nat} {h : aH} {x1 : Int32} {x2 : Int32} {x3 : Int32} {x4 : Int32} {x5 : Int32}  (ec0 : ¬ x1 < 0) (ec1 : 5 < x1) : arun X (n + 14) (d + 3) zM192 0 [some (.ref 0), some (.int x1), some (.int x2), some (.int x3), some (.int x4), some (.int x5)] [] h = some (some (.int (-1)), h) := by
  refine (r_iloadn f192_0 rfl).trans ?_
  have hc1 : arun X (n + 12) (d + 2) zM142 0 [some (.int x1)] [] h = some ((some (.int 0)), h) := by
    refine (r_iloadn f142_0 rfl).trans ?_
    refine (r_iconst (v := 0) f142_1 rfl).trans ?_
    refine (r_iconst (v := 5) f142_2 rfl).trans ?_
    have hc2 : arun X (n + 8) (d + 1) zM137 0 [some (.int x1), some (.int 0), some (.int 5)] [] h = some ((some (.int 0)), h) := by
      refine (r_iloadn f137_0 rfl).trans ?_
      refine (r_iloadn f137_1 rfl).trans ?_
      refine (r_icmp_gt_f f137_2 ec0).trans ?_
      refine (r_iloadn f137_5 rfl).trans ?_
      refine (r_iloadn f137_6 rfl).trans ?_
      refine (r_icmp_gt_t f137_7 ec1).trans ?_
      refine (r_iconst (v := 0) f137_14 rfl).trans ?_
      exact r_zreturn f137_15 rfl (by decide)
    refine (r_stat (as := [.int x1, .int 0, .int 5]) (v := (some (.int 0))) (h1 := h) f142_3 rfl zg137 rfl rfl rfl rfl rfl rfl hc2).trans ?_
    exact r_zreturn f142_6 rfl (by decide)
  refine (r_stat (as := [.int x1]) (v := (some (.int 0))) (h1 := h) f192_1 rfl zg142 rfl rfl rfl rfl rfl rfl hc1).trans ?_
  refine (r_if_eq_t f192_4 (by decide)).trans ?_
  refine (r_iconst (v := (-1)) f192_31 rfl).trans ?_
  exact r_ireturn f192_32 rfl
set_option maxHeartbeats 40000000 in
theorem qm48_1_0 {X : aX} {n d : Nat} {h : aH} {x1 : Int32} {x2 : Int32} {x3 : Int32} {x4 : Int32} {x5 : Int32}  (ec0 : ¬ x1 < 0) (ec1 : 5 < x1) : arun X (n + 14) (d + 3) zM324 0 [some (.ref 72), some (.int x1), some (.int x2), some (.int x3), some (.int x4), some (.int x5), none] [] h = some (some (.int (-1)), h) := by
  refine (r_iloadn f324_0 rfl).trans ?_
  have hc1 : arun X (n + 12) (d + 2) zM318 0 [some (.int x1)] [] h = some ((some (.int 0)), h) := by
    refine (r_iloadn f318_0 rfl).trans ?_
    refine (r_iconst (v := 0) f318_1 rfl).trans ?_
    refine (r_iconst (v := 5) f318_2 rfl).trans ?_
    have hc2 : arun X (n + 8) (d + 1) zM196 0 [some (.int x1), some (.int 0), some (.int 5)] [] h = some ((some (.int 0)), h) := by
      refine (r_iloadn f196_0 rfl).trans ?_
      refine (r_iloadn f196_1 rfl).trans ?_
      refine (r_icmp_lt_f f196_2 ec0).trans ?_
      refine (r_iloadn f196_5 rfl).trans ?_
      refine (r_iloadn f196_6 rfl).trans ?_
      refine (r_icmp_gt_t f196_7 ec1).trans ?_
      refine (r_iconst (v := 0) f196_14 rfl).trans ?_
      exact r_zreturn f196_15 rfl (by decide)
    refine (r_stat (as := [.int x1, .int 0, .int 5]) (v := (some (.int 0))) (h1 := h) f318_3 rfl zg196 rfl rfl rfl rfl rfl rfl hc2).trans ?_
    exact r_zreturn f318_6 rfl (by decide)
  refine (r_stat (as := [.int x1]) (v := (some (.int 0))) (h1 := h) f324_1 rfl zg318 rfl rfl rfl rfl rfl rfl hc1).trans ?_
  refine (r_if_eq_t f324_4 (by decide)).trans ?_
  refine (r_iconst (v := (-1)) f324_14 rfl).trans ?_
  exact r_ireturn f324_15 rfl
set_option maxHeartbeats 40000000 in
theorem qc48_2 {X : aX} {n d : Nat} {h : aH} {x1 : Int32} {x2 : Int32} {x3 : Int32} {x4 : Int32} {x5 : Int32}  (ec0 : ¬ x1 < 0) (ec1 : ¬ 5 < x1) (ec2 : x3 < 0) : arun X (n + 15) (d + 3) zM192 0 [some (.ref 0), some (.int x1), some (.int x2), some (.int x3), some (.int x4), some (.int x5)] [] h = some (some (.int (-1)), h) := by
  refine (r_iloadn f192_0 rfl).trans ?_
  have hc1 : arun X (n + 13) (d + 2) zM142 0 [some (.int x1)] [] h = some ((some (.int 1)), h) := by
    refine (r_iloadn f142_0 rfl).trans ?_
    refine (r_iconst (v := 0) f142_1 rfl).trans ?_
    refine (r_iconst (v := 5) f142_2 rfl).trans ?_
    have hc2 : arun X (n + 9) (d + 1) zM137 0 [some (.int x1), some (.int 0), some (.int 5)] [] h = some ((some (.int 1)), h) := by
      refine (r_iloadn f137_0 rfl).trans ?_
      refine (r_iloadn f137_1 rfl).trans ?_
      refine (r_icmp_gt_f f137_2 ec0).trans ?_
      refine (r_iloadn f137_5 rfl).trans ?_
      refine (r_iloadn f137_6 rfl).trans ?_
      refine (r_icmp_gt_f f137_7 ec1).trans ?_
      refine (r_iconst (v := 1) f137_10 rfl).trans ?_
      refine (r_goto f137_11).trans ?_
      exact r_zreturn f137_15 rfl (by decide)
    refine (r_stat (as := [.int x1, .int 0, .int 5]) (v := (some (.int 1))) (h1 := h) f142_3 rfl zg137 rfl rfl rfl rfl rfl rfl hc2).trans ?_
    exact r_zreturn f142_6 rfl (by decide)
  refine (r_stat (as := [.int x1]) (v := (some (.int 1))) (h1 := h) f192_1 rfl zg142 rfl rfl rfl rfl rfl rfl hc1).trans ?_
  refine (r_if_eq_f f192_4 (by decide)).trans ?_
  refine (r_iloadn f192_7 rfl).trans ?_
  have hc3 : arun X (n + 10) (d + 2) zM142 0 [some (.int x3)] [] h = some ((some (.int 0)), h) := by
    refine (r_iloadn f142_0 rfl).trans ?_
    refine (r_iconst (v := 0) f142_1 rfl).trans ?_
    refine (r_iconst (v := 5) f142_2 rfl).trans ?_
    have hc4 : arun X (n + 6) (d + 1) zM137 0 [some (.int x3), some (.int 0), some (.int 5)] [] h = some ((some (.int 0)), h) := by
      refine (r_iloadn f137_0 rfl).trans ?_
      refine (r_iloadn f137_1 rfl).trans ?_
      refine (r_icmp_gt_t f137_2 ec2).trans ?_
      refine (r_iconst (v := 0) f137_14 rfl).trans ?_
      exact r_zreturn f137_15 rfl (by decide)
    refine (r_stat (as := [.int x3, .int 0, .int 5]) (v := (some (.int 0))) (h1 := h) f142_3 rfl zg137 rfl rfl rfl rfl rfl rfl hc4).trans ?_
    exact r_zreturn f142_6 rfl (by decide)
  refine (r_stat (as := [.int x3]) (v := (some (.int 0))) (h1 := h) f192_8 rfl zg142 rfl rfl rfl rfl rfl rfl hc3).trans ?_
  refine (r_if_eq_t f192_11 (by decide)).trans ?_
  refine (r_iconst (v := (-1)) f192_31 rfl).trans ?_
  exact r_ireturn f192_32 rfl
set_option maxHeartbeats 40000000 in
theorem qm48_2_0 {X : aX} {n d : Nat} {h : aH} {x1 : Int32} {x2 : Int32} {x3 : Int32} {x4 : Int32} {x5 : Int32}  (ec0 : ¬ x1 < 0) (ec1 : ¬ 5 < x1) (ec2 : x3 < 0) : arun X (n + 15) (d + 3) zM324 0 [some (.ref 72), some (.int x1), some (.int x2), some (.int x3), some (.int x4), some (.int x5), none] [] h = some (some (.int (-1)), h) := by
  refine (r_iloadn f324_0 rfl).trans ?_
  have hc1 : arun X (n + 13) (d + 2) zM318 0 [some (.int x1)] [] h = some ((some (.int 1)), h) := by
    refine (r_iloadn f318_0 rfl).trans ?_
    refine (r_iconst (v := 0) f318_1 rfl).trans ?_
    refine (r_iconst (v := 5) f318_2 rfl).trans ?_
    have hc2 : arun X (n + 9) (d + 1) zM196 0 [some (.int x1), some (.int 0), some (.int 5)] [] h = some ((some (.int 1)), h) := by
      refine (r_iloadn f196_0 rfl).trans ?_
      refine (r_iloadn f196_1 rfl).trans ?_
      refine (r_icmp_lt_f f196_2 ec0).trans ?_
      refine (r_iloadn f196_5 rfl).trans ?_
      refine (r_iloadn f196_6 rfl).trans ?_
      refine (r_icmp_gt_f f196_7 ec1).trans ?_
      refine (r_iconst (v := 1) f196_10 rfl).trans ?_
      refine (r_goto f196_11).trans ?_
      exact r_zreturn f196_15 rfl (by decide)
    refine (r_stat (as := [.int x1, .int 0, .int 5]) (v := (some (.int 1))) (h1 := h) f318_3 rfl zg196 rfl rfl rfl rfl rfl rfl hc2).trans ?_
    exact r_zreturn f318_6 rfl (by decide)
  refine (r_stat (as := [.int x1]) (v := (some (.int 1))) (h1 := h) f324_1 rfl zg318 rfl rfl rfl rfl rfl rfl hc1).trans ?_
  refine (r_if_eq_f f324_4 (by decide)).trans ?_
  refine (r_iloadn f324_7 rfl).trans ?_
  have hc3 : arun X (n + 10) (d + 2) zM318 0 [some (.int x3)] [] h = some ((some (.int 0)), h) := by
    refine (r_iloadn f318_0 rfl).trans ?_
    refine (r_iconst (v := 0) f318_1 rfl).trans ?_
    refine (r_iconst (v := 5) f318_2 rfl).trans ?_
    have hc4 : arun X (n + 6) (d + 1) zM196 0 [some (.int x3), some (.int 0), some (.int 5)] [] h = some ((some (.int 0)), h) := by
      refine (r_iloadn f196_0 rfl).trans ?_
      refine (r_iloadn f196_1 rfl).trans ?_
      refine (r_icmp_lt_t f196_2 ec2).trans ?_
      refine (r_iconst (v := 0) f196_14 rfl).trans ?_
      exact r_zreturn f196_15 rfl (by decide)
    refine (r_stat (as := [.int x3, .int 0, .int 5]) (v := (some (.int 0))) (h1 := h) f318_3 rfl zg196 rfl rfl rfl rfl rfl rfl hc4).trans ?_
    exact r_zreturn f318_6 rfl (by decide)
  refine (r_stat (as := [.int x3]) (v := (some (.int 0))) (h1 := h) f324_8 rfl zg318 rfl rfl rfl rfl rfl rfl hc3).trans ?_
  refine (r_if_ne_f f324_11 (by decide)).trans ?_
  refine (r_iconst (v := (-1)) f324_14 rfl).trans ?_
  exact r_ireturn f324_15 rfl
set_option maxHeartbeats 40000000 in
theorem qc48_3 {X : aX} {n d : Nat} {h : aH} {x1 : Int32} {x2 : Int32} {x3 : Int32} {x4 : Int32} {x5 : Int32}  (ec0 : ¬ x1 < 0) (ec1 : ¬ 5 < x1) (ec2 : ¬ x3 < 0) (ec3 : 5 < x3) : arun X (n + 17) (d + 3) zM192 0 [some (.ref 0), some (.int x1), some (.int x2), some (.int x3), some (.int x4), some (.int x5)] [] h = some (some (.int (-1)), h) := by
  refine (r_iloadn f192_0 rfl).trans ?_
  have hc1 : arun X (n + 15) (d + 2) zM142 0 [some (.int x1)] [] h = some ((some (.int 1)), h) := by
    refine (r_iloadn f142_0 rfl).trans ?_
    refine (r_iconst (v := 0) f142_1 rfl).trans ?_
    refine (r_iconst (v := 5) f142_2 rfl).trans ?_
    have hc2 : arun X (n + 11) (d + 1) zM137 0 [some (.int x1), some (.int 0), some (.int 5)] [] h = some ((some (.int 1)), h) := by
      refine (r_iloadn f137_0 rfl).trans ?_
      refine (r_iloadn f137_1 rfl).trans ?_
      refine (r_icmp_gt_f f137_2 ec0).trans ?_
      refine (r_iloadn f137_5 rfl).trans ?_
      refine (r_iloadn f137_6 rfl).trans ?_
      refine (r_icmp_gt_f f137_7 ec1).trans ?_
      refine (r_iconst (v := 1) f137_10 rfl).trans ?_
      refine (r_goto f137_11).trans ?_
      exact r_zreturn f137_15 rfl (by decide)
    refine (r_stat (as := [.int x1, .int 0, .int 5]) (v := (some (.int 1))) (h1 := h) f142_3 rfl zg137 rfl rfl rfl rfl rfl rfl hc2).trans ?_
    exact r_zreturn f142_6 rfl (by decide)
  refine (r_stat (as := [.int x1]) (v := (some (.int 1))) (h1 := h) f192_1 rfl zg142 rfl rfl rfl rfl rfl rfl hc1).trans ?_
  refine (r_if_eq_f f192_4 (by decide)).trans ?_
  refine (r_iloadn f192_7 rfl).trans ?_
  have hc3 : arun X (n + 12) (d + 2) zM142 0 [some (.int x3)] [] h = some ((some (.int 0)), h) := by
    refine (r_iloadn f142_0 rfl).trans ?_
    refine (r_iconst (v := 0) f142_1 rfl).trans ?_
    refine (r_iconst (v := 5) f142_2 rfl).trans ?_
    have hc4 : arun X (n + 8) (d + 1) zM137 0 [some (.int x3), some (.int 0), some (.int 5)] [] h = some ((some (.int 0)), h) := by
      refine (r_iloadn f137_0 rfl).trans ?_
      refine (r_iloadn f137_1 rfl).trans ?_
      refine (r_icmp_gt_f f137_2 ec2).trans ?_
      refine (r_iloadn f137_5 rfl).trans ?_
      refine (r_iloadn f137_6 rfl).trans ?_
      refine (r_icmp_gt_t f137_7 ec3).trans ?_
      refine (r_iconst (v := 0) f137_14 rfl).trans ?_
      exact r_zreturn f137_15 rfl (by decide)
    refine (r_stat (as := [.int x3, .int 0, .int 5]) (v := (some (.int 0))) (h1 := h) f142_3 rfl zg137 rfl rfl rfl rfl rfl rfl hc4).trans ?_
    exact r_zreturn f142_6 rfl (by decide)
  refine (r_stat (as := [.int x3]) (v := (some (.int 0))) (h1 := h) f192_8 rfl zg142 rfl rfl rfl rfl rfl rfl hc3).trans ?_
  refine (r_if_eq_t f192_11 (by decide)).trans ?_
  refine (r_iconst (v := (-1)) f192_31 rfl).trans ?_
  exact r_ireturn f192_32 rfl
set_option maxHeartbeats 40000000 in
theorem qm48_3_0 {X : aX} {n d : Nat} {h : aH} {x1 : Int32} {x2 : Int32} {x3 : Int32} {x4 : Int32} {x5 : Int32}  (ec0 : ¬ x1 < 0) (ec1 : ¬ 5 < x1) (ec2 : ¬ x3 < 0) (ec3 : 5 < x3) : arun X (n + 17) (d + 3) zM324 0 [some (.ref 72), some (.int x1), some (.int x2), some (.int x3), some (.int x4), some (.int x5), none] [] h = some (some (.int (-1)), h) := by
  refine (r_iloadn f324_0 rfl).trans ?_
  have hc1 : arun X (n + 15) (d + 2) zM318 0 [some (.int x1)] [] h = some ((some (.int 1)), h) := by
    refine (r_iloadn f318_0 rfl).trans ?_
    refine (r_iconst (v := 0) f318_1 rfl).trans ?_
    refine (r_iconst (v := 5) f318_2 rfl).trans ?_
    have hc2 : arun X (n + 11) (d + 1) zM196 0 [some (.int x1), some (.int 0), some (.int 5)] [] h = some ((some (.int 1)), h) := by
      refine (r_iloadn f196_0 rfl).trans ?_
      refine (r_iloadn f196_1 rfl).trans ?_
      refine (r_icmp_lt_f f196_2 ec0).trans ?_
      refine (r_iloadn f196_5 rfl).trans ?_
      refine (r_iloadn f196_6 rfl).trans ?_
      refine (r_icmp_gt_f f196_7 ec1).trans ?_
      refine (r_iconst (v := 1) f196_10 rfl).trans ?_
      refine (r_goto f196_11).trans ?_
      exact r_zreturn f196_15 rfl (by decide)
    refine (r_stat (as := [.int x1, .int 0, .int 5]) (v := (some (.int 1))) (h1 := h) f318_3 rfl zg196 rfl rfl rfl rfl rfl rfl hc2).trans ?_
    exact r_zreturn f318_6 rfl (by decide)
  refine (r_stat (as := [.int x1]) (v := (some (.int 1))) (h1 := h) f324_1 rfl zg318 rfl rfl rfl rfl rfl rfl hc1).trans ?_
  refine (r_if_eq_f f324_4 (by decide)).trans ?_
  refine (r_iloadn f324_7 rfl).trans ?_
  have hc3 : arun X (n + 12) (d + 2) zM318 0 [some (.int x3)] [] h = some ((some (.int 0)), h) := by
    refine (r_iloadn f318_0 rfl).trans ?_
    refine (r_iconst (v := 0) f318_1 rfl).trans ?_
    refine (r_iconst (v := 5) f318_2 rfl).trans ?_
    have hc4 : arun X (n + 8) (d + 1) zM196 0 [some (.int x3), some (.int 0), some (.int 5)] [] h = some ((some (.int 0)), h) := by
      refine (r_iloadn f196_0 rfl).trans ?_
      refine (r_iloadn f196_1 rfl).trans ?_
      refine (r_icmp_lt_f f196_2 ec2).trans ?_
      refine (r_iloadn f196_5 rfl).trans ?_
      refine (r_iloadn f196_6 rfl).trans ?_
      refine (r_icmp_gt_t f196_7 ec3).trans ?_
      refine (r_iconst (v := 0) f196_14 rfl).trans ?_
      exact r_zreturn f196_15 rfl (by decide)
    refine (r_stat (as := [.int x3, .int 0, .int 5]) (v := (some (.int 0))) (h1 := h) f318_3 rfl zg196 rfl rfl rfl rfl rfl rfl hc4).trans ?_
    exact r_zreturn f318_6 rfl (by decide)
  refine (r_stat (as := [.int x3]) (v := (some (.int 0))) (h1 := h) f324_8 rfl zg318 rfl rfl rfl rfl rfl rfl hc3).trans ?_
  refine (r_if_ne_f f324_11 (by decide)).trans ?_
  refine (r_iconst (v := (-1)) f324_14 rfl).trans ?_
  exact r_ireturn f324_15 rfl
set_option maxHeartbeats 40000000 in
theorem qc48_4 {X : aX} {n d : Nat} {h : aH} {x1 : Int32} {x2 : Int32} {x3 : Int32} {x4 : Int32} {x5 : Int32}  (g0 : h.1[0]? = some (.inr (11, zF0))) (g68 : h.1[68]? = some (.inr (9, zF68))) (g69 : h.1[69]? = some (.inl (0, 6, .inl (fun _ => (-1))))) (ec0 : ¬ x1 < 0) (ec1 : ¬ 5 < x1) (ec2 : ¬ x3 < 0) (ec3 : ¬ 5 < x3) (jc0 : ¬ (x1 < 0 ∨ 6 ≤ Int32.toNatClampNeg x1)) (jc1 : ¬ (x3 < 0 ∨ 6 ≤ Int32.toNatClampNeg x3)) : arun X (n + 29) (d + 3) zM192 0 [some (.ref 0), some (.int x1), some (.int x2), some (.int x3), some (.int x4), some (.int x5)] [] h = some (some (.int (-11)), h) := by
  refine (r_iloadn f192_0 rfl).trans ?_
  have hc1 : arun X (n + 27) (d + 2) zM142 0 [some (.int x1)] [] h = some ((some (.int 1)), h) := by
    refine (r_iloadn f142_0 rfl).trans ?_
    refine (r_iconst (v := 0) f142_1 rfl).trans ?_
    refine (r_iconst (v := 5) f142_2 rfl).trans ?_
    have hc2 : arun X (n + 23) (d + 1) zM137 0 [some (.int x1), some (.int 0), some (.int 5)] [] h = some ((some (.int 1)), h) := by
      refine (r_iloadn f137_0 rfl).trans ?_
      refine (r_iloadn f137_1 rfl).trans ?_
      refine (r_icmp_gt_f f137_2 ec0).trans ?_
      refine (r_iloadn f137_5 rfl).trans ?_
      refine (r_iloadn f137_6 rfl).trans ?_
      refine (r_icmp_gt_f f137_7 ec1).trans ?_
      refine (r_iconst (v := 1) f137_10 rfl).trans ?_
      refine (r_goto f137_11).trans ?_
      exact r_zreturn f137_15 rfl (by decide)
    refine (r_stat (as := [.int x1, .int 0, .int 5]) (v := (some (.int 1))) (h1 := h) f142_3 rfl zg137 rfl rfl rfl rfl rfl rfl hc2).trans ?_
    exact r_zreturn f142_6 rfl (by decide)
  refine (r_stat (as := [.int x1]) (v := (some (.int 1))) (h1 := h) f192_1 rfl zg142 rfl rfl rfl rfl rfl rfl hc1).trans ?_
  refine (r_if_eq_f f192_4 (by decide)).trans ?_
  refine (r_iloadn f192_7 rfl).trans ?_
  have hc3 : arun X (n + 24) (d + 2) zM142 0 [some (.int x3)] [] h = some ((some (.int 1)), h) := by
    refine (r_iloadn f142_0 rfl).trans ?_
    refine (r_iconst (v := 0) f142_1 rfl).trans ?_
    refine (r_iconst (v := 5) f142_2 rfl).trans ?_
    have hc4 : arun X (n + 20) (d + 1) zM137 0 [some (.int x3), some (.int 0), some (.int 5)] [] h = some ((some (.int 1)), h) := by
      refine (r_iloadn f137_0 rfl).trans ?_
      refine (r_iloadn f137_1 rfl).trans ?_
      refine (r_icmp_gt_f f137_2 ec2).trans ?_
      refine (r_iloadn f137_5 rfl).trans ?_
      refine (r_iloadn f137_6 rfl).trans ?_
      refine (r_icmp_gt_f f137_7 ec3).trans ?_
      refine (r_iconst (v := 1) f137_10 rfl).trans ?_
      refine (r_goto f137_11).trans ?_
      exact r_zreturn f137_15 rfl (by decide)
    refine (r_stat (as := [.int x3, .int 0, .int 5]) (v := (some (.int 1))) (h1 := h) f142_3 rfl zg137 rfl rfl rfl rfl rfl rfl hc4).trans ?_
    exact r_zreturn f142_6 rfl (by decide)
  refine (r_stat (as := [.int x3]) (v := (some (.int 1))) (h1 := h) f192_8 rfl zg142 rfl rfl rfl rfl rfl rfl hc3).trans ?_
  refine (r_if_eq_f f192_11 (by decide)).trans ?_
  refine (r_aloadn f192_14 rfl).trans ?_
  refine (r_get (v := .ref 68) f192_15 g0 rfl).trans ?_
  refine (r_iloadn f192_18 rfl).trans ?_
  refine (r_iloadn f192_19 rfl).trans ?_
  refine (r_iloadn f192_20 rfl).trans ?_
  refine (r_iload f192_21 rfl).trans ?_
  refine (r_iload f192_23 rfl).trans ?_
  have hc5 : arun X (n + 15) (d + 2) zM115 0 [some (.ref 68), some (.int x1), some (.int x2), some (.int x3), some (.int x4), some (.int x5), none, none] [] h = some ((some (.int (-11))), h) := by
    refine (r_aloadn f115_0 rfl).trans ?_
    refine (r_iloadn f115_1 rfl).trans ?_
    have hc6 : arun X (n + 12) (d + 1) zM110 0 [some (.ref 68), some (.int x1)] [] h = some ((some (.int (-11))), h) := by
      refine (r_aloadn f110_0 rfl).trans ?_
      refine (r_get (v := .ref 69) f110_1 g68 rfl).trans ?_
      refine (r_iloadn f110_4 rfl).trans ?_
      refine (r_iald (v := (-1)) f110_5 g69 jc0 rfl).trans ?_
      refine (r_iconst (v := (-1)) f110_6 rfl).trans ?_
      refine (r_icmp_ne_f f110_7 (by decide)).trans ?_
      refine (r_bipush (v := (-11)) f110_10 rfl).trans ?_
      exact r_ireturn f110_12 rfl
    refine (r_virt (as := [.int x1]) (v := (some (.int (-11)))) (h1 := h) f115_2 g68 zg110 rfl rfl rfl rfl rfl rfl hc6).trans ?_
    refine (r_istore (L' := [some (.ref 68), some (.int x1), some (.int x2), some (.int x3), some (.int x4), some (.int x5), some (.int (-11)), none]) f115_5 rfl rfl).trans ?_
    refine (r_aloadn f115_7 rfl).trans ?_
    refine (r_iloadn f115_8 rfl).trans ?_
    have hc7 : arun X (n + 8) (d + 1) zM110 0 [some (.ref 68), some (.int x3)] [] h = some ((some (.int (-11))), h) := by
      refine (r_aloadn f110_0 rfl).trans ?_
      refine (r_get (v := .ref 69) f110_1 g68 rfl).trans ?_
      refine (r_iloadn f110_4 rfl).trans ?_
      refine (r_iald (v := (-1)) f110_5 g69 jc1 rfl).trans ?_
      refine (r_iconst (v := (-1)) f110_6 rfl).trans ?_
      refine (r_icmp_ne_f f110_7 (by decide)).trans ?_
      refine (r_bipush (v := (-11)) f110_10 rfl).trans ?_
      exact r_ireturn f110_12 rfl
    refine (r_virt (as := [.int x3]) (v := (some (.int (-11)))) (h1 := h) f115_9 g68 zg110 rfl rfl rfl rfl rfl rfl hc7).trans ?_
    refine (r_istore (L' := [some (.ref 68), some (.int x1), some (.int x2), some (.int x3), some (.int x4), some (.int x5), some (.int (-11)), some (.int (-11))]) f115_12 rfl rfl).trans ?_
    refine (r_iload f115_14 rfl).trans ?_
    refine (r_bipush (v := (-11)) f115_16 rfl).trans ?_
    refine (r_icmp_eq_t f115_18 (by decide)).trans ?_
    refine (r_bipush (v := (-11)) f115_28 rfl).trans ?_
    exact r_ireturn f115_30 rfl
  refine (r_virt (as := [.int x1, .int x2, .int x3, .int x4, .int x5]) (v := (some (.int (-11)))) (h1 := h) f192_25 g68 zg115 rfl rfl rfl rfl rfl rfl hc5).trans ?_
  refine (r_goto f192_28).trans ?_
  exact r_ireturn f192_32 rfl
set_option maxHeartbeats 40000000 in
theorem qm48_4_0 {X : aX} {n d : Nat} {h : aH} {x1 : Int32} {x2 : Int32} {x3 : Int32} {x4 : Int32} {x5 : Int32}  (g72 : h.1[72]? = some (.inr (12, zF72))) (g142 : h.1[142]? = some (.inl (0, 6, .inl (fun _ => (-1))))) (ec0 : ¬ x1 < 0) (ec1 : ¬ 5 < x1) (ec2 : ¬ x3 < 0) (ec3 : ¬ 5 < x3) (jm0 : ¬ (x1 < 0 ∨ 6 ≤ Int32.toNatClampNeg x1)) : arun X (n + 18) (d + 3) zM324 0 [some (.ref 72), some (.int x1), some (.int x2), some (.int x3), some (.int x4), some (.int x5), none] [] h = some (some (.int (-11)), h) := by
  refine (r_iloadn f324_0 rfl).trans ?_
  have hc1 : arun X (n + 16) (d + 2) zM318 0 [some (.int x1)] [] h = some ((some (.int 1)), h) := by
    refine (r_iloadn f318_0 rfl).trans ?_
    refine (r_iconst (v := 0) f318_1 rfl).trans ?_
    refine (r_iconst (v := 5) f318_2 rfl).trans ?_
    have hc2 : arun X (n + 12) (d + 1) zM196 0 [some (.int x1), some (.int 0), some (.int 5)] [] h = some ((some (.int 1)), h) := by
      refine (r_iloadn f196_0 rfl).trans ?_
      refine (r_iloadn f196_1 rfl).trans ?_
      refine (r_icmp_lt_f f196_2 ec0).trans ?_
      refine (r_iloadn f196_5 rfl).trans ?_
      refine (r_iloadn f196_6 rfl).trans ?_
      refine (r_icmp_gt_f f196_7 ec1).trans ?_
      refine (r_iconst (v := 1) f196_10 rfl).trans ?_
      refine (r_goto f196_11).trans ?_
      exact r_zreturn f196_15 rfl (by decide)
    refine (r_stat (as := [.int x1, .int 0, .int 5]) (v := (some (.int 1))) (h1 := h) f318_3 rfl zg196 rfl rfl rfl rfl rfl rfl hc2).trans ?_
    exact r_zreturn f318_6 rfl (by decide)
  refine (r_stat (as := [.int x1]) (v := (some (.int 1))) (h1 := h) f324_1 rfl zg318 rfl rfl rfl rfl rfl rfl hc1).trans ?_
  refine (r_if_eq_f f324_4 (by decide)).trans ?_
  refine (r_iloadn f324_7 rfl).trans ?_
  have hc3 : arun X (n + 13) (d + 2) zM318 0 [some (.int x3)] [] h = some ((some (.int 1)), h) := by
    refine (r_iloadn f318_0 rfl).trans ?_
    refine (r_iconst (v := 0) f318_1 rfl).trans ?_
    refine (r_iconst (v := 5) f318_2 rfl).trans ?_
    have hc4 : arun X (n + 9) (d + 1) zM196 0 [some (.int x3), some (.int 0), some (.int 5)] [] h = some ((some (.int 1)), h) := by
      refine (r_iloadn f196_0 rfl).trans ?_
      refine (r_iloadn f196_1 rfl).trans ?_
      refine (r_icmp_lt_f f196_2 ec2).trans ?_
      refine (r_iloadn f196_5 rfl).trans ?_
      refine (r_iloadn f196_6 rfl).trans ?_
      refine (r_icmp_gt_f f196_7 ec3).trans ?_
      refine (r_iconst (v := 1) f196_10 rfl).trans ?_
      refine (r_goto f196_11).trans ?_
      exact r_zreturn f196_15 rfl (by decide)
    refine (r_stat (as := [.int x3, .int 0, .int 5]) (v := (some (.int 1))) (h1 := h) f318_3 rfl zg196 rfl rfl rfl rfl rfl rfl hc4).trans ?_
    exact r_zreturn f318_6 rfl (by decide)
  refine (r_stat (as := [.int x3]) (v := (some (.int 1))) (h1 := h) f324_8 rfl zg318 rfl rfl rfl rfl rfl rfl hc3).trans ?_
  refine (r_if_ne_t f324_11 (by decide)).trans ?_
  refine (r_aloadn f324_16 rfl).trans ?_
  refine (r_get (v := .ref 142) f324_17 g72 rfl).trans ?_
  refine (r_iloadn f324_20 rfl).trans ?_
  refine (r_iald (v := (-1)) f324_21 g142 jm0 rfl).trans ?_
  refine (r_iconst (v := (-1)) f324_22 rfl).trans ?_
  refine (r_icmp_eq_t f324_23 (by decide)).trans ?_
  refine (r_bipush (v := (-11)) f324_36 rfl).trans ?_
  exact r_ireturn f324_38 rfl
set_option maxHeartbeats 40000000 in
theorem qc49_0 {X : aX} {n d : Nat} {h : aH} {x1 : Int32} {x2 : Int32}  (ec0 : x1 < 0) : arun X (n + 11) (d + 3) zM193 0 [some (.ref 0), some (.int x1), some (.int x2), none, none] [] h = some (some (.int (-1)), h) := by
  refine (r_iloadn f193_0 rfl).trans ?_
  have hc1 : arun X (n + 9) (d + 2) zM142 0 [some (.int x1)] [] h = some ((some (.int 0)), h) := by
    refine (r_iloadn f142_0 rfl).trans ?_
    refine (r_iconst (v := 0) f142_1 rfl).trans ?_
    refine (r_iconst (v := 5) f142_2 rfl).trans ?_
    have hc2 : arun X (n + 5) (d + 1) zM137 0 [some (.int x1), some (.int 0), some (.int 5)] [] h = some ((some (.int 0)), h) := by
      refine (r_iloadn f137_0 rfl).trans ?_
      refine (r_iloadn f137_1 rfl).trans ?_
      refine (r_icmp_gt_t f137_2 ec0).trans ?_
      refine (r_iconst (v := 0) f137_14 rfl).trans ?_
      exact r_zreturn f137_15 rfl (by decide)
    refine (r_stat (as := [.int x1, .int 0, .int 5]) (v := (some (.int 0))) (h1 := h) f142_3 rfl zg137 rfl rfl rfl rfl rfl rfl hc2).trans ?_
    exact r_zreturn f142_6 rfl (by decide)
  refine (r_stat (as := [.int x1]) (v := (some (.int 0))) (h1 := h) f193_1 rfl zg142 rfl rfl rfl rfl rfl rfl hc1).trans ?_
  refine (r_if_eq_t f193_4 (by decide)).trans ?_
  refine (r_iconst (v := (-1)) f193_17 rfl).trans ?_
  exact r_ireturn f193_18 rfl
set_option maxHeartbeats 40000000 in
theorem qm49_0_0 {X : aX} {n d : Nat} {h : aH} {x1 : Int32} {x2 : Int32}  (ec0 : x1 < 0) : arun X (n + 11) (d + 3) zM325 0 [some (.ref 72), some (.int x1), some (.int x2)] [] h = some (some (.int (-1)), h) := by
  refine (r_iloadn f325_0 rfl).trans ?_
  have hc1 : arun X (n + 9) (d + 2) zM318 0 [some (.int x1)] [] h = some ((some (.int 0)), h) := by
    refine (r_iloadn f318_0 rfl).trans ?_
    refine (r_iconst (v := 0) f318_1 rfl).trans ?_
    refine (r_iconst (v := 5) f318_2 rfl).trans ?_
    have hc2 : arun X (n + 5) (d + 1) zM196 0 [some (.int x1), some (.int 0), some (.int 5)] [] h = some ((some (.int 0)), h) := by
      refine (r_iloadn f196_0 rfl).trans ?_
      refine (r_iloadn f196_1 rfl).trans ?_
      refine (r_icmp_lt_t f196_2 ec0).trans ?_
      refine (r_iconst (v := 0) f196_14 rfl).trans ?_
      exact r_zreturn f196_15 rfl (by decide)
    refine (r_stat (as := [.int x1, .int 0, .int 5]) (v := (some (.int 0))) (h1 := h) f318_3 rfl zg196 rfl rfl rfl rfl rfl rfl hc2).trans ?_
    exact r_zreturn f318_6 rfl (by decide)
  refine (r_stat (as := [.int x1]) (v := (some (.int 0))) (h1 := h) f325_1 rfl zg318 rfl rfl rfl rfl rfl rfl hc1).trans ?_
  refine (r_if_eq_t f325_4 (by decide)).trans ?_
  refine (r_iconst (v := (-1)) f325_17 rfl).trans ?_
  exact r_ireturn f325_18 rfl
set_option maxHeartbeats 40000000 in
theorem qc49_1 {X : aX} {n d : Nat} {h : aH} {x1 : Int32} {x2 : Int32}  (ec0 : ¬ x1 < 0) (ec1 : 5 < x1) : arun X (n + 14) (d + 3) zM193 0 [some (.ref 0), some (.int x1), some (.int x2), none, none] [] h = some (some (.int (-1)), h) := by
  refine (r_iloadn f193_0 rfl).trans ?_
  have hc1 : arun X (n + 12) (d + 2) zM142 0 [some (.int x1)] [] h = some ((some (.int 0)), h) := by
    refine (r_iloadn f142_0 rfl).trans ?_
    refine (r_iconst (v := 0) f142_1 rfl).trans ?_
    refine (r_iconst (v := 5) f142_2 rfl).trans ?_
    have hc2 : arun X (n + 8) (d + 1) zM137 0 [some (.int x1), some (.int 0), some (.int 5)] [] h = some ((some (.int 0)), h) := by
      refine (r_iloadn f137_0 rfl).trans ?_
      refine (r_iloadn f137_1 rfl).trans ?_
      refine (r_icmp_gt_f f137_2 ec0).trans ?_
      refine (r_iloadn f137_5 rfl).trans ?_
      refine (r_iloadn f137_6 rfl).trans ?_
      refine (r_icmp_gt_t f137_7 ec1).trans ?_
      refine (r_iconst (v := 0) f137_14 rfl).trans ?_
      exact r_zreturn f137_15 rfl (by decide)
    refine (r_stat (as := [.int x1, .int 0, .int 5]) (v := (some (.int 0))) (h1 := h) f142_3 rfl zg137 rfl rfl rfl rfl rfl rfl hc2).trans ?_
    exact r_zreturn f142_6 rfl (by decide)
  refine (r_stat (as := [.int x1]) (v := (some (.int 0))) (h1 := h) f193_1 rfl zg142 rfl rfl rfl rfl rfl rfl hc1).trans ?_
  refine (r_if_eq_t f193_4 (by decide)).trans ?_
  refine (r_iconst (v := (-1)) f193_17 rfl).trans ?_
  exact r_ireturn f193_18 rfl
set_option maxHeartbeats 40000000 in
theorem qm49_1_0 {X : aX} {n d : Nat} {h : aH} {x1 : Int32} {x2 : Int32}  (ec0 : ¬ x1 < 0) (ec1 : 5 < x1) : arun X (n + 14) (d + 3) zM325 0 [some (.ref 72), some (.int x1), some (.int x2)] [] h = some (some (.int (-1)), h) := by
  refine (r_iloadn f325_0 rfl).trans ?_
  have hc1 : arun X (n + 12) (d + 2) zM318 0 [some (.int x1)] [] h = some ((some (.int 0)), h) := by
    refine (r_iloadn f318_0 rfl).trans ?_
    refine (r_iconst (v := 0) f318_1 rfl).trans ?_
    refine (r_iconst (v := 5) f318_2 rfl).trans ?_
    have hc2 : arun X (n + 8) (d + 1) zM196 0 [some (.int x1), some (.int 0), some (.int 5)] [] h = some ((some (.int 0)), h) := by
      refine (r_iloadn f196_0 rfl).trans ?_
      refine (r_iloadn f196_1 rfl).trans ?_
      refine (r_icmp_lt_f f196_2 ec0).trans ?_
      refine (r_iloadn f196_5 rfl).trans ?_
      refine (r_iloadn f196_6 rfl).trans ?_
      refine (r_icmp_gt_t f196_7 ec1).trans ?_
      refine (r_iconst (v := 0) f196_14 rfl).trans ?_
      exact r_zreturn f196_15 rfl (by decide)
    refine (r_stat (as := [.int x1, .int 0, .int 5]) (v := (some (.int 0))) (h1 := h) f318_3 rfl zg196 rfl rfl rfl rfl rfl rfl hc2).trans ?_
    exact r_zreturn f318_6 rfl (by decide)
  refine (r_stat (as := [.int x1]) (v := (some (.int 0))) (h1 := h) f325_1 rfl zg318 rfl rfl rfl rfl rfl rfl hc1).trans ?_
  refine (r_if_eq_t f325_4 (by decide)).trans ?_
  refine (r_iconst (v := (-1)) f325_17 rfl).trans ?_
  exact r_ireturn f325_18 rfl
set_option maxHeartbeats 40000000 in
theorem qc49_2 {X : aX} {n d : Nat} {h : aH} {x1 : Int32} {x2 : Int32}  (ec0 : ¬ x1 < 0) (ec1 : ¬ 5 < x1) (ec2 : x2 < 0) : arun X (n + 15) (d + 3) zM193 0 [some (.ref 0), some (.int x1), some (.int x2), none, none] [] h = some (some (.int (-1)), h) := by
  refine (r_iloadn f193_0 rfl).trans ?_
  have hc1 : arun X (n + 13) (d + 2) zM142 0 [some (.int x1)] [] h = some ((some (.int 1)), h) := by
    refine (r_iloadn f142_0 rfl).trans ?_
    refine (r_iconst (v := 0) f142_1 rfl).trans ?_
    refine (r_iconst (v := 5) f142_2 rfl).trans ?_
    have hc2 : arun X (n + 9) (d + 1) zM137 0 [some (.int x1), some (.int 0), some (.int 5)] [] h = some ((some (.int 1)), h) := by
      refine (r_iloadn f137_0 rfl).trans ?_
      refine (r_iloadn f137_1 rfl).trans ?_
      refine (r_icmp_gt_f f137_2 ec0).trans ?_
      refine (r_iloadn f137_5 rfl).trans ?_
      refine (r_iloadn f137_6 rfl).trans ?_
      refine (r_icmp_gt_f f137_7 ec1).trans ?_
      refine (r_iconst (v := 1) f137_10 rfl).trans ?_
      refine (r_goto f137_11).trans ?_
      exact r_zreturn f137_15 rfl (by decide)
    refine (r_stat (as := [.int x1, .int 0, .int 5]) (v := (some (.int 1))) (h1 := h) f142_3 rfl zg137 rfl rfl rfl rfl rfl rfl hc2).trans ?_
    exact r_zreturn f142_6 rfl (by decide)
  refine (r_stat (as := [.int x1]) (v := (some (.int 1))) (h1 := h) f193_1 rfl zg142 rfl rfl rfl rfl rfl rfl hc1).trans ?_
  refine (r_if_eq_f f193_4 (by decide)).trans ?_
  refine (r_iloadn f193_7 rfl).trans ?_
  refine (r_iconst (v := 0) f193_8 rfl).trans ?_
  refine (r_bipush (v := 7) f193_9 rfl).trans ?_
  have hc3 : arun X (n + 8) (d + 2) zM137 0 [some (.int x2), some (.int 0), some (.int 7)] [] h = some ((some (.int 0)), h) := by
    refine (r_iloadn f137_0 rfl).trans ?_
    refine (r_iloadn f137_1 rfl).trans ?_
    refine (r_icmp_gt_t f137_2 ec2).trans ?_
    refine (r_iconst (v := 0) f137_14 rfl).trans ?_
    exact r_zreturn f137_15 rfl (by decide)
  refine (r_stat (as := [.int x2, .int 0, .int 7]) (v := (some (.int 0))) (h1 := h) f193_11 rfl zg137 rfl rfl rfl rfl rfl rfl hc3).trans ?_
  refine (r_if_ne_f f193_14 (by decide)).trans ?_
  refine (r_iconst (v := (-1)) f193_17 rfl).trans ?_
  exact r_ireturn f193_18 rfl
set_option maxHeartbeats 40000000 in
theorem qm49_2_0 {X : aX} {n d : Nat} {h : aH} {x1 : Int32} {x2 : Int32}  (ec0 : ¬ x1 < 0) (ec1 : ¬ 5 < x1) (ec2 : x2 < 0) : arun X (n + 15) (d + 3) zM325 0 [some (.ref 72), some (.int x1), some (.int x2)] [] h = some (some (.int (-1)), h) := by
  refine (r_iloadn f325_0 rfl).trans ?_
  have hc1 : arun X (n + 13) (d + 2) zM318 0 [some (.int x1)] [] h = some ((some (.int 1)), h) := by
    refine (r_iloadn f318_0 rfl).trans ?_
    refine (r_iconst (v := 0) f318_1 rfl).trans ?_
    refine (r_iconst (v := 5) f318_2 rfl).trans ?_
    have hc2 : arun X (n + 9) (d + 1) zM196 0 [some (.int x1), some (.int 0), some (.int 5)] [] h = some ((some (.int 1)), h) := by
      refine (r_iloadn f196_0 rfl).trans ?_
      refine (r_iloadn f196_1 rfl).trans ?_
      refine (r_icmp_lt_f f196_2 ec0).trans ?_
      refine (r_iloadn f196_5 rfl).trans ?_
      refine (r_iloadn f196_6 rfl).trans ?_
      refine (r_icmp_gt_f f196_7 ec1).trans ?_
      refine (r_iconst (v := 1) f196_10 rfl).trans ?_
      refine (r_goto f196_11).trans ?_
      exact r_zreturn f196_15 rfl (by decide)
    refine (r_stat (as := [.int x1, .int 0, .int 5]) (v := (some (.int 1))) (h1 := h) f318_3 rfl zg196 rfl rfl rfl rfl rfl rfl hc2).trans ?_
    exact r_zreturn f318_6 rfl (by decide)
  refine (r_stat (as := [.int x1]) (v := (some (.int 1))) (h1 := h) f325_1 rfl zg318 rfl rfl rfl rfl rfl rfl hc1).trans ?_
  refine (r_if_eq_f f325_4 (by decide)).trans ?_
  refine (r_iloadn f325_7 rfl).trans ?_
  refine (r_iconst (v := 0) f325_8 rfl).trans ?_
  refine (r_bipush (v := 7) f325_9 rfl).trans ?_
  have hc3 : arun X (n + 8) (d + 2) zM196 0 [some (.int x2), some (.int 0), some (.int 7)] [] h = some ((some (.int 0)), h) := by
    refine (r_iloadn f196_0 rfl).trans ?_
    refine (r_iloadn f196_1 rfl).trans ?_
    refine (r_icmp_lt_t f196_2 ec2).trans ?_
    refine (r_iconst (v := 0) f196_14 rfl).trans ?_
    exact r_zreturn f196_15 rfl (by decide)
  refine (r_stat (as := [.int x2, .int 0, .int 7]) (v := (some (.int 0))) (h1 := h) f325_11 rfl zg196 rfl rfl rfl rfl rfl rfl hc3).trans ?_
  refine (r_if_ne_f f325_14 (by decide)).trans ?_
  refine (r_iconst (v := (-1)) f325_17 rfl).trans ?_
  exact r_ireturn f325_18 rfl
set_option maxHeartbeats 40000000 in
theorem qc49_3 {X : aX} {n d : Nat} {h : aH} {x1 : Int32} {x2 : Int32}  (ec0 : ¬ x1 < 0) (ec1 : ¬ 5 < x1) (ec2 : ¬ x2 < 0) (ec3 : 7 < x2) : arun X (n + 15) (d + 3) zM193 0 [some (.ref 0), some (.int x1), some (.int x2), none, none] [] h = some (some (.int (-1)), h) := by
  refine (r_iloadn f193_0 rfl).trans ?_
  have hc1 : arun X (n + 13) (d + 2) zM142 0 [some (.int x1)] [] h = some ((some (.int 1)), h) := by
    refine (r_iloadn f142_0 rfl).trans ?_
    refine (r_iconst (v := 0) f142_1 rfl).trans ?_
    refine (r_iconst (v := 5) f142_2 rfl).trans ?_
    have hc2 : arun X (n + 9) (d + 1) zM137 0 [some (.int x1), some (.int 0), some (.int 5)] [] h = some ((some (.int 1)), h) := by
      refine (r_iloadn f137_0 rfl).trans ?_
      refine (r_iloadn f137_1 rfl).trans ?_
      refine (r_icmp_gt_f f137_2 ec0).trans ?_
      refine (r_iloadn f137_5 rfl).trans ?_
      refine (r_iloadn f137_6 rfl).trans ?_
      refine (r_icmp_gt_f f137_7 ec1).trans ?_
      refine (r_iconst (v := 1) f137_10 rfl).trans ?_
      refine (r_goto f137_11).trans ?_
      exact r_zreturn f137_15 rfl (by decide)
    refine (r_stat (as := [.int x1, .int 0, .int 5]) (v := (some (.int 1))) (h1 := h) f142_3 rfl zg137 rfl rfl rfl rfl rfl rfl hc2).trans ?_
    exact r_zreturn f142_6 rfl (by decide)
  refine (r_stat (as := [.int x1]) (v := (some (.int 1))) (h1 := h) f193_1 rfl zg142 rfl rfl rfl rfl rfl rfl hc1).trans ?_
  refine (r_if_eq_f f193_4 (by decide)).trans ?_
  refine (r_iloadn f193_7 rfl).trans ?_
  refine (r_iconst (v := 0) f193_8 rfl).trans ?_
  refine (r_bipush (v := 7) f193_9 rfl).trans ?_
  have hc3 : arun X (n + 8) (d + 2) zM137 0 [some (.int x2), some (.int 0), some (.int 7)] [] h = some ((some (.int 0)), h) := by
    refine (r_iloadn f137_0 rfl).trans ?_
    refine (r_iloadn f137_1 rfl).trans ?_
    refine (r_icmp_gt_f f137_2 ec2).trans ?_
    refine (r_iloadn f137_5 rfl).trans ?_
    refine (r_iloadn f137_6 rfl).trans ?_
    refine (r_icmp_gt_t f137_7 ec3).trans ?_
    refine (r_iconst (v := 0) f137_14 rfl).trans ?_
    exact r_zreturn f137_15 rfl (by decide)
  refine (r_stat (as := [.int x2, .int 0, .int 7]) (v := (some (.int 0))) (h1 := h) f193_11 rfl zg137 rfl rfl rfl rfl rfl rfl hc3).trans ?_
  refine (r_if_ne_f f193_14 (by decide)).trans ?_
  refine (r_iconst (v := (-1)) f193_17 rfl).trans ?_
  exact r_ireturn f193_18 rfl
set_option maxHeartbeats 40000000 in
theorem qm49_3_0 {X : aX} {n d : Nat} {h : aH} {x1 : Int32} {x2 : Int32}  (ec0 : ¬ x1 < 0) (ec1 : ¬ 5 < x1) (ec2 : ¬ x2 < 0) (ec3 : 7 < x2) : arun X (n + 15) (d + 3) zM325 0 [some (.ref 72), some (.int x1), some (.int x2)] [] h = some (some (.int (-1)), h) := by
  refine (r_iloadn f325_0 rfl).trans ?_
  have hc1 : arun X (n + 13) (d + 2) zM318 0 [some (.int x1)] [] h = some ((some (.int 1)), h) := by
    refine (r_iloadn f318_0 rfl).trans ?_
    refine (r_iconst (v := 0) f318_1 rfl).trans ?_
    refine (r_iconst (v := 5) f318_2 rfl).trans ?_
    have hc2 : arun X (n + 9) (d + 1) zM196 0 [some (.int x1), some (.int 0), some (.int 5)] [] h = some ((some (.int 1)), h) := by
      refine (r_iloadn f196_0 rfl).trans ?_
      refine (r_iloadn f196_1 rfl).trans ?_
      refine (r_icmp_lt_f f196_2 ec0).trans ?_
      refine (r_iloadn f196_5 rfl).trans ?_
      refine (r_iloadn f196_6 rfl).trans ?_
      refine (r_icmp_gt_f f196_7 ec1).trans ?_
      refine (r_iconst (v := 1) f196_10 rfl).trans ?_
      refine (r_goto f196_11).trans ?_
      exact r_zreturn f196_15 rfl (by decide)
    refine (r_stat (as := [.int x1, .int 0, .int 5]) (v := (some (.int 1))) (h1 := h) f318_3 rfl zg196 rfl rfl rfl rfl rfl rfl hc2).trans ?_
    exact r_zreturn f318_6 rfl (by decide)
  refine (r_stat (as := [.int x1]) (v := (some (.int 1))) (h1 := h) f325_1 rfl zg318 rfl rfl rfl rfl rfl rfl hc1).trans ?_
  refine (r_if_eq_f f325_4 (by decide)).trans ?_
  refine (r_iloadn f325_7 rfl).trans ?_
  refine (r_iconst (v := 0) f325_8 rfl).trans ?_
  refine (r_bipush (v := 7) f325_9 rfl).trans ?_
  have hc3 : arun X (n + 8) (d + 2) zM196 0 [some (.int x2), some (.int 0), some (.int 7)] [] h = some ((some (.int 0)), h) := by
    refine (r_iloadn f196_0 rfl).trans ?_
    refine (r_iloadn f196_1 rfl).trans ?_
    refine (r_icmp_lt_f f196_2 ec2).trans ?_
    refine (r_iloadn f196_5 rfl).trans ?_
    refine (r_iloadn f196_6 rfl).trans ?_
    refine (r_icmp_gt_t f196_7 ec3).trans ?_
    refine (r_iconst (v := 0) f196_14 rfl).trans ?_
    exact r_zreturn f196_15 rfl (by decide)
  refine (r_stat (as := [.int x2, .int 0, .int 7]) (v := (some (.int 0))) (h1 := h) f325_11 rfl zg196 rfl rfl rfl rfl rfl rfl hc3).trans ?_
  refine (r_if_ne_f f325_14 (by decide)).trans ?_
  refine (r_iconst (v := (-1)) f325_17 rfl).trans ?_
  exact r_ireturn f325_18 rfl
set_option maxHeartbeats 40000000 in
theorem qc49_4 {X : aX} {n d : Nat} {h : aH} {x1 : Int32} {x2 : Int32}  (g0 : h.1[0]? = some (.inr (11, zF0))) (g68 : h.1[68]? = some (.inr (9, zF68))) (g69 : h.1[69]? = some (.inl (0, 6, .inl (fun _ => (-1))))) (ec0 : ¬ x1 < 0) (ec1 : ¬ 5 < x1) (ec2 : ¬ x2 < 0) (ec3 : ¬ 7 < x2) (jc0 : ¬ (x1 < 0 ∨ 6 ≤ Int32.toNatClampNeg x1)) : arun X (n + 19) (d + 3) zM193 0 [some (.ref 0), some (.int x1), some (.int x2), none, none] [] h = some (some (.int (-11)), h) := by
  refine (r_iloadn f193_0 rfl).trans ?_
  have hc1 : arun X (n + 17) (d + 2) zM142 0 [some (.int x1)] [] h = some ((some (.int 1)), h) := by
    refine (r_iloadn f142_0 rfl).trans ?_
    refine (r_iconst (v := 0) f142_1 rfl).trans ?_
    refine (r_iconst (v := 5) f142_2 rfl).trans ?_
    have hc2 : arun X (n + 13) (d + 1) zM137 0 [some (.int x1), some (.int 0), some (.int 5)] [] h = some ((some (.int 1)), h) := by
      refine (r_iloadn f137_0 rfl).trans ?_
      refine (r_iloadn f137_1 rfl).trans ?_
      refine (r_icmp_gt_f f137_2 ec0).trans ?_
      refine (r_iloadn f137_5 rfl).trans ?_
      refine (r_iloadn f137_6 rfl).trans ?_
      refine (r_icmp_gt_f f137_7 ec1).trans ?_
      refine (r_iconst (v := 1) f137_10 rfl).trans ?_
      refine (r_goto f137_11).trans ?_
      exact r_zreturn f137_15 rfl (by decide)
    refine (r_stat (as := [.int x1, .int 0, .int 5]) (v := (some (.int 1))) (h1 := h) f142_3 rfl zg137 rfl rfl rfl rfl rfl rfl hc2).trans ?_
    exact r_zreturn f142_6 rfl (by decide)
  refine (r_stat (as := [.int x1]) (v := (some (.int 1))) (h1 := h) f193_1 rfl zg142 rfl rfl rfl rfl rfl rfl hc1).trans ?_
  refine (r_if_eq_f f193_4 (by decide)).trans ?_
  refine (r_iloadn f193_7 rfl).trans ?_
  refine (r_iconst (v := 0) f193_8 rfl).trans ?_
  refine (r_bipush (v := 7) f193_9 rfl).trans ?_
  have hc3 : arun X (n + 12) (d + 2) zM137 0 [some (.int x2), some (.int 0), some (.int 7)] [] h = some ((some (.int 1)), h) := by
    refine (r_iloadn f137_0 rfl).trans ?_
    refine (r_iloadn f137_1 rfl).trans ?_
    refine (r_icmp_gt_f f137_2 ec2).trans ?_
    refine (r_iloadn f137_5 rfl).trans ?_
    refine (r_iloadn f137_6 rfl).trans ?_
    refine (r_icmp_gt_f f137_7 ec3).trans ?_
    refine (r_iconst (v := 1) f137_10 rfl).trans ?_
    refine (r_goto f137_11).trans ?_
    exact r_zreturn f137_15 rfl (by decide)
  refine (r_stat (as := [.int x2, .int 0, .int 7]) (v := (some (.int 1))) (h1 := h) f193_11 rfl zg137 rfl rfl rfl rfl rfl rfl hc3).trans ?_
  refine (r_if_ne_t f193_14 (by decide)).trans ?_
  refine (r_aloadn f193_19 rfl).trans ?_
  refine (r_get (v := .ref 68) f193_20 g0 rfl).trans ?_
  refine (r_get (v := .ref 69) f193_23 g68 rfl).trans ?_
  refine (r_iloadn f193_26 rfl).trans ?_
  refine (r_iald (v := (-1)) f193_27 g69 jc0 rfl).trans ?_
  refine (r_istoren (L' := [some (.ref 0), some (.int x1), some (.int x2), some (.int (-1)), none]) f193_28 rfl rfl).trans ?_
  refine (r_iloadn f193_29 rfl).trans ?_
  refine (r_iconst (v := (-1)) f193_30 rfl).trans ?_
  refine (r_icmp_ne_f f193_31 (by decide)).trans ?_
  refine (r_bipush (v := (-11)) f193_34 rfl).trans ?_
  exact r_ireturn f193_36 rfl
set_option maxHeartbeats 40000000 in
theorem qm49_4_0 {X : aX} {n d : Nat} {h : aH} {x1 : Int32} {x2 : Int32}  (g72 : h.1[72]? = some (.inr (12, zF72))) (g142 : h.1[142]? = some (.inl (0, 6, .inl (fun _ => (-1))))) (ec0 : ¬ x1 < 0) (ec1 : ¬ 5 < x1) (ec2 : ¬ x2 < 0) (ec3 : ¬ 7 < x2) (jm0 : ¬ (x1 < 0 ∨ 6 ≤ Int32.toNatClampNeg x1)) : arun X (n + 16) (d + 3) zM325 0 [some (.ref 72), some (.int x1), some (.int x2)] [] h = some (some (.int (-11)), h) := by
  refine (r_iloadn f325_0 rfl).trans ?_
  have hc1 : arun X (n + 14) (d + 2) zM318 0 [some (.int x1)] [] h = some ((some (.int 1)), h) := by
    refine (r_iloadn f318_0 rfl).trans ?_
    refine (r_iconst (v := 0) f318_1 rfl).trans ?_
    refine (r_iconst (v := 5) f318_2 rfl).trans ?_
    have hc2 : arun X (n + 10) (d + 1) zM196 0 [some (.int x1), some (.int 0), some (.int 5)] [] h = some ((some (.int 1)), h) := by
      refine (r_iloadn f196_0 rfl).trans ?_
      refine (r_iloadn f196_1 rfl).trans ?_
      refine (r_icmp_lt_f f196_2 ec0).trans ?_
      refine (r_iloadn f196_5 rfl).trans ?_
      refine (r_iloadn f196_6 rfl).trans ?_
      refine (r_icmp_gt_f f196_7 ec1).trans ?_
      refine (r_iconst (v := 1) f196_10 rfl).trans ?_
      refine (r_goto f196_11).trans ?_
      exact r_zreturn f196_15 rfl (by decide)
    refine (r_stat (as := [.int x1, .int 0, .int 5]) (v := (some (.int 1))) (h1 := h) f318_3 rfl zg196 rfl rfl rfl rfl rfl rfl hc2).trans ?_
    exact r_zreturn f318_6 rfl (by decide)
  refine (r_stat (as := [.int x1]) (v := (some (.int 1))) (h1 := h) f325_1 rfl zg318 rfl rfl rfl rfl rfl rfl hc1).trans ?_
  refine (r_if_eq_f f325_4 (by decide)).trans ?_
  refine (r_iloadn f325_7 rfl).trans ?_
  refine (r_iconst (v := 0) f325_8 rfl).trans ?_
  refine (r_bipush (v := 7) f325_9 rfl).trans ?_
  have hc3 : arun X (n + 9) (d + 2) zM196 0 [some (.int x2), some (.int 0), some (.int 7)] [] h = some ((some (.int 1)), h) := by
    refine (r_iloadn f196_0 rfl).trans ?_
    refine (r_iloadn f196_1 rfl).trans ?_
    refine (r_icmp_lt_f f196_2 ec2).trans ?_
    refine (r_iloadn f196_5 rfl).trans ?_
    refine (r_iloadn f196_6 rfl).trans ?_
    refine (r_icmp_gt_f f196_7 ec3).trans ?_
    refine (r_iconst (v := 1) f196_10 rfl).trans ?_
    refine (r_goto f196_11).trans ?_
    exact r_zreturn f196_15 rfl (by decide)
  refine (r_stat (as := [.int x2, .int 0, .int 7]) (v := (some (.int 1))) (h1 := h) f325_11 rfl zg196 rfl rfl rfl rfl rfl rfl hc3).trans ?_
  refine (r_if_ne_t f325_14 (by decide)).trans ?_
  refine (r_aloadn f325_19 rfl).trans ?_
  refine (r_get (v := .ref 142) f325_20 g72 rfl).trans ?_
  refine (r_iloadn f325_23 rfl).trans ?_
  refine (r_iald (v := (-1)) f325_24 g142 jm0 rfl).trans ?_
  refine (r_iconst (v := (-1)) f325_25 rfl).trans ?_
  refine (r_icmp_ne_f f325_26 (by decide)).trans ?_
  refine (r_bipush (v := (-11)) f325_29 rfl).trans ?_
  exact r_ireturn f325_31 rfl
set_option maxHeartbeats 40000000 in
theorem qc50_0 {X : aX} {n d : Nat} {h : aH} {x1 : Int32}  (g0 : h.1[0]? = some (.inr (11, zF0))) (g1 : h.1[1]? = some (.inr (6, zF1))) (ec0 : x1 = 0) : arun X (n + 7) (d + 1) zM194 0 [some (.ref 0), some (.int x1)] [] h = some (some (.int 0), h) := by
  refine (r_iloadn f194_0 rfl).trans ?_
  refine (r_tsw f194_1).trans ?_
  refine (asw_t ec0).trans ?_
  refine (r_aloadn f194_64 rfl).trans ?_
  refine (r_get (v := .ref 1) f194_65 g0 rfl).trans ?_
  refine (r_get (v := .int 0) f194_68 g1 rfl).trans ?_
  exact r_ireturn f194_71 rfl
set_option maxHeartbeats 40000000 in
theorem qm50_0_0 {X : aX} {n d : Nat} {h : aH} {x1 : Int32}  (g72 : h.1[72]? = some (.inr (12, zF72))) (ec0 : x1 = 0) : arun X (n + 6) (d + 1) zM327 0 [some (.ref 72), some (.int x1)] [] h = some (some (.int 0), h) := by
  refine (r_iloadn f327_0 rfl).trans ?_
  refine (r_tsw f327_1).trans ?_
  refine (asw_t ec0).trans ?_
  refine (r_aloadn f327_64 rfl).trans ?_
  refine (r_get (v := .int 0) f327_65 g72 rfl).trans ?_
  exact r_ireturn f327_68 rfl
set_option maxHeartbeats 40000000 in
theorem qc50_1 {X : aX} {n d : Nat} {h : aH} {x1 : Int32}  (g0 : h.1[0]? = some (.inr (11, zF0))) (g1 : h.1[1]? = some (.inr (6, zF1))) (ec0 : ¬ x1 = 0) (ec1 : x1 = 1) : arun X (n + 8) (d + 1) zM194 0 [some (.ref 0), some (.int x1)] [] h = some (some (.int 0), h) := by
  refine (r_iloadn f194_0 rfl).trans ?_
  refine (r_tsw f194_1).trans ?_
  refine (asw_f ec0).trans ?_
  refine (asw_t ec1).trans ?_
  refine (r_aloadn f194_72 rfl).trans ?_
  refine (r_get (v := .ref 1) f194_73 g0 rfl).trans ?_
  refine (r_get (v := .int 0) f194_76 g1 rfl).trans ?_
  exact r_ireturn f194_79 rfl
set_option maxHeartbeats 40000000 in
theorem qm50_1_0 {X : aX} {n d : Nat} {h : aH} {x1 : Int32}  (g72 : h.1[72]? = some (.inr (12, zF72))) (ec0 : ¬ x1 = 0) (ec1 : x1 = 1) : arun X (n + 15) (d + 2) zM327 0 [some (.ref 72), some (.int x1)] [] h = some (some (.int 0), h) := by
  refine (r_iloadn f327_0 rfl).trans ?_
  refine (r_tsw f327_1).trans ?_
  refine (asw_f ec0).trans ?_
  refine (asw_t ec1).trans ?_
  refine (r_aloadn f327_69 rfl).trans ?_
  refine (r_iconst (v := 1) f327_70 rfl).trans ?_
  have hc1 : arun X (n + 10) (d + 1) zM326 0 [some (.ref 72), some (.int 1), none, none] [] h = some ((some (.int 0)), h) := by
    refine (r_iconst (v := 0) f326_0 rfl).trans ?_
    refine (r_istoren (L' := [some (.ref 72), some (.int 1), some (.int 0), none]) f326_1 rfl rfl).trans ?_
    refine (r_iconst (v := 0) f326_2 rfl).trans ?_
    refine (r_istoren (L' := [some (.ref 72), some (.int 1), some (.int 0), some (.int 0)]) f326_3 rfl rfl).trans ?_
    refine (r_iloadn f326_4 rfl).trans ?_
    refine (r_aloadn f326_5 rfl).trans ?_
    refine (r_get (v := .int 0) f326_6 g72 rfl).trans ?_
    refine (r_icmp_ge_t f326_9 (by decide)).trans ?_
    refine (r_iloadn f326_39 rfl).trans ?_
    exact r_ireturn f326_40 rfl
  refine (r_virt (as := [.int 1]) (v := (some (.int 0))) (h1 := h) f327_71 g72 zg326 rfl rfl rfl rfl rfl rfl hc1).trans ?_
  exact r_ireturn f327_74 rfl
set_option maxHeartbeats 40000000 in
theorem qc50_2 {X : aX} {n d : Nat} {h : aH} {x1 : Int32}  (g0 : h.1[0]? = some (.inr (11, zF0))) (g1 : h.1[1]? = some (.inr (6, zF1))) (ec0 : ¬ x1 = 0) (ec1 : ¬ x1 = 1) (ec2 : x1 = 2) : arun X (n + 9) (d + 1) zM194 0 [some (.ref 0), some (.int x1)] [] h = some (some (.int 0), h) := by
  refine (r_iloadn f194_0 rfl).trans ?_
  refine (r_tsw f194_1).trans ?_
  refine (asw_f ec0).trans ?_
  refine (asw_f ec1).trans ?_
  refine (asw_t ec2).trans ?_
  refine (r_aloadn f194_80 rfl).trans ?_
  refine (r_get (v := .ref 1) f194_81 g0 rfl).trans ?_
  refine (r_get (v := .int 0) f194_84 g1 rfl).trans ?_
  exact r_ireturn f194_87 rfl
set_option maxHeartbeats 40000000 in
theorem qm50_2_0 {X : aX} {n d : Nat} {h : aH} {x1 : Int32}  (g72 : h.1[72]? = some (.inr (12, zF72))) (ec0 : ¬ x1 = 0) (ec1 : ¬ x1 = 1) (ec2 : x1 = 2) : arun X (n + 15) (d + 2) zM327 0 [some (.ref 72), some (.int x1)] [] h = some (some (.int 0), h) := by
  refine (r_iloadn f327_0 rfl).trans ?_
  refine (r_tsw f327_1).trans ?_
  refine (asw_f ec0).trans ?_
  refine (asw_f ec1).trans ?_
  refine (asw_t ec2).trans ?_
  refine (r_aloadn f327_75 rfl).trans ?_
  refine (r_iconst (v := 4) f327_76 rfl).trans ?_
  have hc1 : arun X (n + 10) (d + 1) zM326 0 [some (.ref 72), some (.int 4), none, none] [] h = some ((some (.int 0)), h) := by
    refine (r_iconst (v := 0) f326_0 rfl).trans ?_
    refine (r_istoren (L' := [some (.ref 72), some (.int 4), some (.int 0), none]) f326_1 rfl rfl).trans ?_
    refine (r_iconst (v := 0) f326_2 rfl).trans ?_
    refine (r_istoren (L' := [some (.ref 72), some (.int 4), some (.int 0), some (.int 0)]) f326_3 rfl rfl).trans ?_
    refine (r_iloadn f326_4 rfl).trans ?_
    refine (r_aloadn f326_5 rfl).trans ?_
    refine (r_get (v := .int 0) f326_6 g72 rfl).trans ?_
    refine (r_icmp_ge_t f326_9 (by decide)).trans ?_
    refine (r_iloadn f326_39 rfl).trans ?_
    exact r_ireturn f326_40 rfl
  refine (r_virt (as := [.int 4]) (v := (some (.int 0))) (h1 := h) f327_77 g72 zg326 rfl rfl rfl rfl rfl rfl hc1).trans ?_
  exact r_ireturn f327_80 rfl
set_option maxHeartbeats 40000000 in
theorem qc50_3 {X : aX} {n d : Nat} {h : aH} {x1 : Int32}  (g0 : h.1[0]? = some (.inr (11, zF0))) (g1 : h.1[1]? = some (.inr (6, zF1))) (ec0 : ¬ x1 = 0) (ec1 : ¬ x1 = 1) (ec2 : ¬ x1 = 2) (ec3 : x1 = 3) : arun X (n + 10) (d + 1) zM194 0 [some (.ref 0), some (.int x1)] [] h = some (some (.int 0), h) := by
  refine (r_iloadn f194_0 rfl).trans ?_
  refine (r_tsw f194_1).trans ?_
  refine (asw_f ec0).trans ?_
  refine (asw_f ec1).trans ?_
  refine (asw_f ec2).trans ?_
  refine (asw_t ec3).trans ?_
  refine (r_aloadn f194_88 rfl).trans ?_
  refine (r_get (v := .ref 1) f194_89 g0 rfl).trans ?_
  refine (r_get (v := .int 0) f194_92 g1 rfl).trans ?_
  exact r_ireturn f194_95 rfl
set_option maxHeartbeats 40000000 in
theorem qm50_3_0 {X : aX} {n d : Nat} {h : aH} {x1 : Int32}  (g72 : h.1[72]? = some (.inr (12, zF72))) (ec0 : ¬ x1 = 0) (ec1 : ¬ x1 = 1) (ec2 : ¬ x1 = 2) (ec3 : x1 = 3) : arun X (n + 15) (d + 2) zM327 0 [some (.ref 72), some (.int x1)] [] h = some (some (.int 0), h) := by
  refine (r_iloadn f327_0 rfl).trans ?_
  refine (r_tsw f327_1).trans ?_
  refine (asw_f ec0).trans ?_
  refine (asw_f ec1).trans ?_
  refine (asw_f ec2).trans ?_
  refine (asw_t ec3).trans ?_
  refine (r_aloadn f327_81 rfl).trans ?_
  refine (r_bipush (v := 6) f327_82 rfl).trans ?_
  have hc1 : arun X (n + 10) (d + 1) zM326 0 [some (.ref 72), some (.int 6), none, none] [] h = some ((some (.int 0)), h) := by
    refine (r_iconst (v := 0) f326_0 rfl).trans ?_
    refine (r_istoren (L' := [some (.ref 72), some (.int 6), some (.int 0), none]) f326_1 rfl rfl).trans ?_
    refine (r_iconst (v := 0) f326_2 rfl).trans ?_
    refine (r_istoren (L' := [some (.ref 72), some (.int 6), some (.int 0), some (.int 0)]) f326_3 rfl rfl).trans ?_
    refine (r_iloadn f326_4 rfl).trans ?_
    refine (r_aloadn f326_5 rfl).trans ?_
    refine (r_get (v := .int 0) f326_6 g72 rfl).trans ?_
    refine (r_icmp_ge_t f326_9 (by decide)).trans ?_
    refine (r_iloadn f326_39 rfl).trans ?_
    exact r_ireturn f326_40 rfl
  refine (r_virt (as := [.int 6]) (v := (some (.int 0))) (h1 := h) f327_84 g72 zg326 rfl rfl rfl rfl rfl rfl hc1).trans ?_
  exact r_ireturn f327_87 rfl
set_option maxHeartbeats 40000000 in
theorem qc50_4 {X : aX} {n d : Nat} {h : aH} {x1 : Int32}  (g0 : h.1[0]? = some (.inr (11, zF0))) (g16 : h.1[16]? = some (.inr (2, zF16))) (ec0 : ¬ x1 = 0) (ec1 : ¬ x1 = 1) (ec2 : ¬ x1 = 2) (ec3 : ¬ x1 = 3) (ec4 : x1 = 4) : arun X (n + 11) (d + 1) zM194 0 [some (.ref 0), some (.int x1)] [] h = some (some (.int 0), h) := by
  refine (r_iloadn f194_0 rfl).trans ?_
  refine (r_tsw f194_1).trans ?_
  refine (asw_f ec0).trans ?_
  refine (asw_f ec1).trans ?_
  refine (asw_f ec2).trans ?_
  refine (asw_f ec3).trans ?_
  refine (asw_t ec4).trans ?_
  refine (r_aloadn f194_96 rfl).trans ?_
  refine (r_get (v := .ref 16) f194_97 g0 rfl).trans ?_
  refine (r_get (v := .int 0) f194_100 g16 rfl).trans ?_
  exact r_ireturn f194_103 rfl
set_option maxHeartbeats 40000000 in
theorem qm50_4_0 {X : aX} {n d : Nat} {h : aH} {x1 : Int32}  (g72 : h.1[72]? = some (.inr (12, zF72))) (ec0 : ¬ x1 = 0) (ec1 : ¬ x1 = 1) (ec2 : ¬ x1 = 2) (ec3 : ¬ x1 = 3) (ec4 : x1 = 4) : arun X (n + 10) (d + 1) zM327 0 [some (.ref 72), some (.int x1)] [] h = some (some (.int 0), h) := by
  refine (r_iloadn f327_0 rfl).trans ?_
  refine (r_tsw f327_1).trans ?_
  refine (asw_f ec0).trans ?_
  refine (asw_f ec1).trans ?_
  refine (asw_f ec2).trans ?_
  refine (asw_f ec3).trans ?_
  refine (asw_t ec4).trans ?_
  refine (r_aloadn f327_88 rfl).trans ?_
  refine (r_get (v := .int 0) f327_89 g72 rfl).trans ?_
  exact r_ireturn f327_92 rfl
set_option maxHeartbeats 40000000 in
theorem qc50_5 {X : aX} {n d : Nat} {h : aH} {x1 : Int32}  (g0 : h.1[0]? = some (.inr (11, zF0))) (g1 : h.1[1]? = some (.inr (6, zF1))) (ec0 : ¬ x1 = 0) (ec1 : ¬ x1 = 1) (ec2 : ¬ x1 = 2) (ec3 : ¬ x1 = 3) (ec4 : ¬ x1 = 4) (ec5 : x1 = 5) : arun X (n + 12) (d + 1) zM194 0 [some (.ref 0), some (.int x1)] [] h = some (some (.int 0), h) := by
  refine (r_iloadn f194_0 rfl).trans ?_
  refine (r_tsw f194_1).trans ?_
  refine (asw_f ec0).trans ?_
  refine (asw_f ec1).trans ?_
  refine (asw_f ec2).trans ?_
  refine (asw_f ec3).trans ?_
  refine (asw_f ec4).trans ?_
  refine (asw_t ec5).trans ?_
  refine (r_aloadn f194_104 rfl).trans ?_
  refine (r_get (v := .ref 1) f194_105 g0 rfl).trans ?_
  refine (r_get (v := .int 0) f194_108 g1 rfl).trans ?_
  exact r_ireturn f194_111 rfl
set_option maxHeartbeats 40000000 in
theorem qm50_5_0 {X : aX} {n d : Nat} {h : aH} {x1 : Int32}  (g72 : h.1[72]? = some (.inr (12, zF72))) (ec0 : ¬ x1 = 0) (ec1 : ¬ x1 = 1) (ec2 : ¬ x1 = 2) (ec3 : ¬ x1 = 3) (ec4 : ¬ x1 = 4) (ec5 : x1 = 5) : arun X (n + 11) (d + 1) zM327 0 [some (.ref 72), some (.int x1)] [] h = some (some (.int 0), h) := by
  refine (r_iloadn f327_0 rfl).trans ?_
  refine (r_tsw f327_1).trans ?_
  refine (asw_f ec0).trans ?_
  refine (asw_f ec1).trans ?_
  refine (asw_f ec2).trans ?_
  refine (asw_f ec3).trans ?_
  refine (asw_f ec4).trans ?_
  refine (asw_t ec5).trans ?_
  refine (r_aloadn f327_93 rfl).trans ?_
  refine (r_get (v := .int 0) f327_94 g72 rfl).trans ?_
  exact r_ireturn f327_97 rfl
set_option maxHeartbeats 40000000 in
theorem qc50_6 {X : aX} {n d : Nat} {h : aH} {x1 : Int32}  (g0 : h.1[0]? = some (.inr (11, zF0))) (g16 : h.1[16]? = some (.inr (2, zF16))) (ec0 : ¬ x1 = 0) (ec1 : ¬ x1 = 1) (ec2 : ¬ x1 = 2) (ec3 : ¬ x1 = 3) (ec4 : ¬ x1 = 4) (ec5 : ¬ x1 = 5) (ec6 : x1 = 6) : arun X (n + 13) (d + 1) zM194 0 [some (.ref 0), some (.int x1)] [] h = some (some (.int 0), h) := by
  refine (r_iloadn f194_0 rfl).trans ?_
  refine (r_tsw f194_1).trans ?_
  refine (asw_f ec0).trans ?_
  refine (asw_f ec1).trans ?_
  refine (asw_f ec2).trans ?_
  refine (asw_f ec3).trans ?_
  refine (asw_f ec4).trans ?_
  refine (asw_f ec5).trans ?_
  refine (asw_t ec6).trans ?_
  refine (r_aloadn f194_112 rfl).trans ?_
  refine (r_get (v := .ref 16) f194_113 g0 rfl).trans ?_
  refine (r_get (v := .int 0) f194_116 g16 rfl).trans ?_
  exact r_ireturn f194_119 rfl
set_option maxHeartbeats 40000000 in
theorem qm50_6_0 {X : aX} {n d : Nat} {h : aH} {x1 : Int32}  (g72 : h.1[72]? = some (.inr (12, zF72))) (ec0 : ¬ x1 = 0) (ec1 : ¬ x1 = 1) (ec2 : ¬ x1 = 2) (ec3 : ¬ x1 = 3) (ec4 : ¬ x1 = 4) (ec5 : ¬ x1 = 5) (ec6 : x1 = 6) : arun X (n + 12) (d + 1) zM327 0 [some (.ref 72), some (.int x1)] [] h = some (some (.int 0), h) := by
  refine (r_iloadn f327_0 rfl).trans ?_
  refine (r_tsw f327_1).trans ?_
  refine (asw_f ec0).trans ?_
  refine (asw_f ec1).trans ?_
  refine (asw_f ec2).trans ?_
  refine (asw_f ec3).trans ?_
  refine (asw_f ec4).trans ?_
  refine (asw_f ec5).trans ?_
  refine (asw_t ec6).trans ?_
  refine (r_aloadn f327_98 rfl).trans ?_
  refine (r_get (v := .int 0) f327_99 g72 rfl).trans ?_
  exact r_ireturn f327_102 rfl
set_option maxHeartbeats 40000000 in
theorem qc50_7 {X : aX} {n d : Nat} {h : aH} {x1 : Int32}  (g0 : h.1[0]? = some (.inr (11, zF0))) (g1 : h.1[1]? = some (.inr (6, zF1))) (ec0 : ¬ x1 = 0) (ec1 : ¬ x1 = 1) (ec2 : ¬ x1 = 2) (ec3 : ¬ x1 = 3) (ec4 : ¬ x1 = 4) (ec5 : ¬ x1 = 5) (ec6 : ¬ x1 = 6) (ec7 : x1 = 7) : arun X (n + 14) (d + 1) zM194 0 [some (.ref 0), some (.int x1)] [] h = some (some (.int 0), h) := by
  refine (r_iloadn f194_0 rfl).trans ?_
  refine (r_tsw f194_1).trans ?_
  refine (asw_f ec0).trans ?_
  refine (asw_f ec1).trans ?_
  refine (asw_f ec2).trans ?_
  refine (asw_f ec3).trans ?_
  refine (asw_f ec4).trans ?_
  refine (asw_f ec5).trans ?_
  refine (asw_f ec6).trans ?_
  refine (asw_t ec7).trans ?_
  refine (r_aloadn f194_120 rfl).trans ?_
  refine (r_get (v := .ref 1) f194_121 g0 rfl).trans ?_
  refine (r_get (v := .int 0) f194_124 g1 rfl).trans ?_
  exact r_ireturn f194_127 rfl
set_option maxHeartbeats 40000000 in
theorem qm50_7_0 {X : aX} {n d : Nat} {h : aH} {x1 : Int32}  (g72 : h.1[72]? = some (.inr (12, zF72))) (ec0 : ¬ x1 = 0) (ec1 : ¬ x1 = 1) (ec2 : ¬ x1 = 2) (ec3 : ¬ x1 = 3) (ec4 : ¬ x1 = 4) (ec5 : ¬ x1 = 5) (ec6 : ¬ x1 = 6) (ec7 : x1 = 7) : arun X (n + 13) (d + 1) zM327 0 [some (.ref 72), some (.int x1)] [] h = some (some (.int 0), h) := by
  refine (r_iloadn f327_0 rfl).trans ?_
  refine (r_tsw f327_1).trans ?_
  refine (asw_f ec0).trans ?_
  refine (asw_f ec1).trans ?_
  refine (asw_f ec2).trans ?_
  refine (asw_f ec3).trans ?_
  refine (asw_f ec4).trans ?_
  refine (asw_f ec5).trans ?_
  refine (asw_f ec6).trans ?_
  refine (asw_t ec7).trans ?_
  refine (r_aloadn f327_103 rfl).trans ?_
  refine (r_get (v := .int 0) f327_104 g72 rfl).trans ?_
  exact r_ireturn f327_107 rfl
set_option maxHeartbeats 40000000 in
theorem qc50_8 {X : aX} {n d : Nat} {h : aH} {x1 : Int32}  (g0 : h.1[0]? = some (.inr (11, zF0))) (g33 : h.1[33]? = some (.inr (10, zF33))) (ec0 : ¬ x1 = 0) (ec1 : ¬ x1 = 1) (ec2 : ¬ x1 = 2) (ec3 : ¬ x1 = 3) (ec4 : ¬ x1 = 4) (ec5 : ¬ x1 = 5) (ec6 : ¬ x1 = 6) (ec7 : ¬ x1 = 7) (ec8 : x1 = 8) : arun X (n + 15) (d + 1) zM194 0 [some (.ref 0), some (.int x1)] [] h = some (some (.int 0), h) := by
  refine (r_iloadn f194_0 rfl).trans ?_
  refine (r_tsw f194_1).trans ?_
  refine (asw_f ec0).trans ?_
  refine (asw_f ec1).trans ?_
  refine (asw_f ec2).trans ?_
  refine (asw_f ec3).trans ?_
  refine (asw_f ec4).trans ?_
  refine (asw_f ec5).trans ?_
  refine (asw_f ec6).trans ?_
  refine (asw_f ec7).trans ?_
  refine (asw_t ec8).trans ?_
  refine (r_aloadn f194_128 rfl).trans ?_
  refine (r_get (v := .ref 33) f194_129 g0 rfl).trans ?_
  refine (r_get (v := .int 0) f194_132 g33 rfl).trans ?_
  exact r_ireturn f194_135 rfl
set_option maxHeartbeats 40000000 in
theorem qm50_8_0 {X : aX} {n d : Nat} {h : aH} {x1 : Int32}  (g72 : h.1[72]? = some (.inr (12, zF72))) (ec0 : ¬ x1 = 0) (ec1 : ¬ x1 = 1) (ec2 : ¬ x1 = 2) (ec3 : ¬ x1 = 3) (ec4 : ¬ x1 = 4) (ec5 : ¬ x1 = 5) (ec6 : ¬ x1 = 6) (ec7 : ¬ x1 = 7) (ec8 : x1 = 8) : arun X (n + 14) (d + 1) zM327 0 [some (.ref 72), some (.int x1)] [] h = some (some (.int 0), h) := by
  refine (r_iloadn f327_0 rfl).trans ?_
  refine (r_tsw f327_1).trans ?_
  refine (asw_f ec0).trans ?_
  refine (asw_f ec1).trans ?_
  refine (asw_f ec2).trans ?_
  refine (asw_f ec3).trans ?_
  refine (asw_f ec4).trans ?_
  refine (asw_f ec5).trans ?_
  refine (asw_f ec6).trans ?_
  refine (asw_f ec7).trans ?_
  refine (asw_t ec8).trans ?_
  refine (r_aloadn f327_108 rfl).trans ?_
  refine (r_get (v := .int 0) f327_109 g72 rfl).trans ?_
  exact r_ireturn f327_112 rfl
set_option maxHeartbeats 40000000 in
theorem qc50_9 {X : aX} {n d : Nat} {h : aH} {x1 : Int32}  (g0 : h.1[0]? = some (.inr (11, zF0))) (g33 : h.1[33]? = some (.inr (10, zF33))) (ec0 : ¬ x1 = 0) (ec1 : ¬ x1 = 1) (ec2 : ¬ x1 = 2) (ec3 : ¬ x1 = 3) (ec4 : ¬ x1 = 4) (ec5 : ¬ x1 = 5) (ec6 : ¬ x1 = 6) (ec7 : ¬ x1 = 7) (ec8 : ¬ x1 = 8) (ec9 : x1 = 9) : arun X (n + 16) (d + 1) zM194 0 [some (.ref 0), some (.int x1)] [] h = some (some (.int 0), h) := by
  refine (r_iloadn f194_0 rfl).trans ?_
  refine (r_tsw f194_1).trans ?_
  refine (asw_f ec0).trans ?_
  refine (asw_f ec1).trans ?_
  refine (asw_f ec2).trans ?_
  refine (asw_f ec3).trans ?_
  refine (asw_f ec4).trans ?_
  refine (asw_f ec5).trans ?_
  refine (asw_f ec6).trans ?_
  refine (asw_f ec7).trans ?_
  refine (asw_f ec8).trans ?_
  refine (asw_t ec9).trans ?_
  refine (r_aloadn f194_136 rfl).trans ?_
  refine (r_get (v := .ref 33) f194_137 g0 rfl).trans ?_
  refine (r_get (v := .int 0) f194_140 g33 rfl).trans ?_
  exact r_ireturn f194_143 rfl
set_option maxHeartbeats 40000000 in
theorem qm50_9_0 {X : aX} {n d : Nat} {h : aH} {x1 : Int32}  (g72 : h.1[72]? = some (.inr (12, zF72))) (ec0 : ¬ x1 = 0) (ec1 : ¬ x1 = 1) (ec2 : ¬ x1 = 2) (ec3 : ¬ x1 = 3) (ec4 : ¬ x1 = 4) (ec5 : ¬ x1 = 5) (ec6 : ¬ x1 = 6) (ec7 : ¬ x1 = 7) (ec8 : ¬ x1 = 8) (ec9 : x1 = 9) : arun X (n + 15) (d + 1) zM327 0 [some (.ref 72), some (.int x1)] [] h = some (some (.int 0), h) := by
  refine (r_iloadn f327_0 rfl).trans ?_
  refine (r_tsw f327_1).trans ?_
  refine (asw_f ec0).trans ?_
  refine (asw_f ec1).trans ?_
  refine (asw_f ec2).trans ?_
  refine (asw_f ec3).trans ?_
  refine (asw_f ec4).trans ?_
  refine (asw_f ec5).trans ?_
  refine (asw_f ec6).trans ?_
  refine (asw_f ec7).trans ?_
  refine (asw_f ec8).trans ?_
  refine (asw_t ec9).trans ?_
  refine (r_aloadn f327_113 rfl).trans ?_
  refine (r_get (v := .int 0) f327_114 g72 rfl).trans ?_
  exact r_ireturn f327_117 rfl
set_option maxHeartbeats 40000000 in
theorem qc50_10 {X : aX} {n d : Nat} {h : aH} {x1 : Int32}  (g0 : h.1[0]? = some (.inr (11, zF0))) (g13 : h.1[13]? = some (.inr (7, zF13))) (ec0 : ¬ x1 = 0) (ec1 : ¬ x1 = 1) (ec2 : ¬ x1 = 2) (ec3 : ¬ x1 = 3) (ec4 : ¬ x1 = 4) (ec5 : ¬ x1 = 5) (ec6 : ¬ x1 = 6) (ec7 : ¬ x1 = 7) (ec8 : ¬ x1 = 8) (ec9 : ¬ x1 = 9) (ec10 : x1 = 10) : arun X (n + 17) (d + 1) zM194 0 [some (.ref 0), some (.int x1)] [] h = some (some (.int 0), h) := by
  refine (r_iloadn f194_0 rfl).trans ?_
  refine (r_tsw f194_1).trans ?_
  refine (asw_f ec0).trans ?_
  refine (asw_f ec1).trans ?_
  refine (asw_f ec2).trans ?_
  refine (asw_f ec3).trans ?_
  refine (asw_f ec4).trans ?_
  refine (asw_f ec5).trans ?_
  refine (asw_f ec6).trans ?_
  refine (asw_f ec7).trans ?_
  refine (asw_f ec8).trans ?_
  refine (asw_f ec9).trans ?_
  refine (asw_t ec10).trans ?_
  refine (r_aloadn f194_144 rfl).trans ?_
  refine (r_get (v := .ref 13) f194_145 g0 rfl).trans ?_
  refine (r_get (v := .int 0) f194_148 g13 rfl).trans ?_
  exact r_ireturn f194_151 rfl
set_option maxHeartbeats 40000000 in
theorem qm50_10_0 {X : aX} {n d : Nat} {h : aH} {x1 : Int32}  (g72 : h.1[72]? = some (.inr (12, zF72))) (ec0 : ¬ x1 = 0) (ec1 : ¬ x1 = 1) (ec2 : ¬ x1 = 2) (ec3 : ¬ x1 = 3) (ec4 : ¬ x1 = 4) (ec5 : ¬ x1 = 5) (ec6 : ¬ x1 = 6) (ec7 : ¬ x1 = 7) (ec8 : ¬ x1 = 8) (ec9 : ¬ x1 = 9) (ec10 : x1 = 10) : arun X (n + 16) (d + 1) zM327 0 [some (.ref 72), some (.int x1)] [] h = some (some (.int 0), h) := by
  refine (r_iloadn f327_0 rfl).trans ?_
  refine (r_tsw f327_1).trans ?_
  refine (asw_f ec0).trans ?_
  refine (asw_f ec1).trans ?_
  refine (asw_f ec2).trans ?_
  refine (asw_f ec3).trans ?_
  refine (asw_f ec4).trans ?_
  refine (asw_f ec5).trans ?_
  refine (asw_f ec6).trans ?_
  refine (asw_f ec7).trans ?_
  refine (asw_f ec8).trans ?_
  refine (asw_f ec9).trans ?_
  refine (asw_t ec10).trans ?_
  refine (r_aloadn f327_118 rfl).trans ?_
  refine (r_get (v := .int 0) f327_119 g72 rfl).trans ?_
  exact r_ireturn f327_122 rfl
set_option maxHeartbeats 40000000 in
theorem qc50_11 {X : aX} {n d : Nat} {h : aH} {x1 : Int32}  (g0 : h.1[0]? = some (.inr (11, zF0))) (g66 : h.1[66]? = some (.inr (1, zF66))) (ec0 : ¬ x1 = 0) (ec1 : ¬ x1 = 1) (ec2 : ¬ x1 = 2) (ec3 : ¬ x1 = 3) (ec4 : ¬ x1 = 4) (ec5 : ¬ x1 = 5) (ec6 : ¬ x1 = 6) (ec7 : ¬ x1 = 7) (ec8 : ¬ x1 = 8) (ec9 : ¬ x1 = 9) (ec10 : ¬ x1 = 10) (ec11 : x1 = 11) : arun X (n + 18) (d + 1) zM194 0 [some (.ref 0), some (.int x1)] [] h = some (some (.int 0), h) := by
  refine (r_iloadn f194_0 rfl).trans ?_
  refine (r_tsw f194_1).trans ?_
  refine (asw_f ec0).trans ?_
  refine (asw_f ec1).trans ?_
  refine (asw_f ec2).trans ?_
  refine (asw_f ec3).trans ?_
  refine (asw_f ec4).trans ?_
  refine (asw_f ec5).trans ?_
  refine (asw_f ec6).trans ?_
  refine (asw_f ec7).trans ?_
  refine (asw_f ec8).trans ?_
  refine (asw_f ec9).trans ?_
  refine (asw_f ec10).trans ?_
  refine (asw_t ec11).trans ?_
  refine (r_aloadn f194_152 rfl).trans ?_
  refine (r_get (v := .ref 66) f194_153 g0 rfl).trans ?_
  refine (r_get (v := .int 0) f194_156 g66 rfl).trans ?_
  exact r_ireturn f194_159 rfl
set_option maxHeartbeats 40000000 in
theorem qm50_11_0 {X : aX} {n d : Nat} {h : aH} {x1 : Int32}  (g72 : h.1[72]? = some (.inr (12, zF72))) (ec0 : ¬ x1 = 0) (ec1 : ¬ x1 = 1) (ec2 : ¬ x1 = 2) (ec3 : ¬ x1 = 3) (ec4 : ¬ x1 = 4) (ec5 : ¬ x1 = 5) (ec6 : ¬ x1 = 6) (ec7 : ¬ x1 = 7) (ec8 : ¬ x1 = 8) (ec9 : ¬ x1 = 9) (ec10 : ¬ x1 = 10) (ec11 : x1 = 11) : arun X (n + 17) (d + 1) zM327 0 [some (.ref 72), some (.int x1)] [] h = some (some (.int 0), h) := by
  refine (r_iloadn f327_0 rfl).trans ?_
  refine (r_tsw f327_1).trans ?_
  refine (asw_f ec0).trans ?_
  refine (asw_f ec1).trans ?_
  refine (asw_f ec2).trans ?_
  refine (asw_f ec3).trans ?_
  refine (asw_f ec4).trans ?_
  refine (asw_f ec5).trans ?_
  refine (asw_f ec6).trans ?_
  refine (asw_f ec7).trans ?_
  refine (asw_f ec8).trans ?_
  refine (asw_f ec9).trans ?_
  refine (asw_f ec10).trans ?_
  refine (asw_t ec11).trans ?_
  refine (r_aloadn f327_123 rfl).trans ?_
  refine (r_get (v := .int 0) f327_124 g72 rfl).trans ?_
  exact r_ireturn f327_127 rfl
set_option maxHeartbeats 40000000 in
theorem qc50_12 {X : aX} {n d : Nat} {h : aH} {x1 : Int32}  (ec0 : ¬ x1 = 0) (ec1 : ¬ x1 = 1) (ec2 : ¬ x1 = 2) (ec3 : ¬ x1 = 3) (ec4 : ¬ x1 = 4) (ec5 : ¬ x1 = 5) (ec6 : ¬ x1 = 6) (ec7 : ¬ x1 = 7) (ec8 : ¬ x1 = 8) (ec9 : ¬ x1 = 9) (ec10 : ¬ x1 = 10) (ec11 : ¬ x1 = 11) : arun X (n + 17) (d + 1) zM194 0 [some (.ref 0), some (.int x1)] [] h = some (some (.int (-1)), h) := by
  refine (r_iloadn f194_0 rfl).trans ?_
  refine (r_tsw f194_1).trans ?_
  refine (asw_f ec0).trans ?_
  refine (asw_f ec1).trans ?_
  refine (asw_f ec2).trans ?_
  refine (asw_f ec3).trans ?_
  refine (asw_f ec4).trans ?_
  refine (asw_f ec5).trans ?_
  refine (asw_f ec6).trans ?_
  refine (asw_f ec7).trans ?_
  refine (asw_f ec8).trans ?_
  refine (asw_f ec9).trans ?_
  refine (asw_f ec10).trans ?_
  refine (asw_f ec11).trans ?_
  refine (asw_d).trans ?_
  refine (r_iconst (v := (-1)) f194_160 rfl).trans ?_
  exact r_ireturn f194_161 rfl
set_option maxHeartbeats 40000000 in
theorem qm50_12_0 {X : aX} {n d : Nat} {h : aH} {x1 : Int32}  (ec0 : ¬ x1 = 0) (ec1 : ¬ x1 = 1) (ec2 : ¬ x1 = 2) (ec3 : ¬ x1 = 3) (ec4 : ¬ x1 = 4) (ec5 : ¬ x1 = 5) (ec6 : ¬ x1 = 6) (ec7 : ¬ x1 = 7) (ec8 : ¬ x1 = 8) (ec9 : ¬ x1 = 9) (ec10 : ¬ x1 = 10) (ec11 : ¬ x1 = 11) : arun X (n + 17) (d + 1) zM327 0 [some (.ref 72), some (.int x1)] [] h = some (some (.int (-1)), h) := by
  refine (r_iloadn f327_0 rfl).trans ?_
  refine (r_tsw f327_1).trans ?_
  refine (asw_f ec0).trans ?_
  refine (asw_f ec1).trans ?_
  refine (asw_f ec2).trans ?_
  refine (asw_f ec3).trans ?_
  refine (asw_f ec4).trans ?_
  refine (asw_f ec5).trans ?_
  refine (asw_f ec6).trans ?_
  refine (asw_f ec7).trans ?_
  refine (asw_f ec8).trans ?_
  refine (asw_f ec9).trans ?_
  refine (asw_f ec10).trans ?_
  refine (asw_f ec11).trans ?_
  refine (asw_d).trans ?_
  refine (r_iconst (v := (-1)) f327_128 rfl).trans ?_
  exact r_ireturn f327_129 rfl

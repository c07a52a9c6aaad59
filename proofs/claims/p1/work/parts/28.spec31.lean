-- ===== a call with loops (by program) =====
set_option maxHeartbeats 40000000 in
set_option maxRecDepth 20000 in
theorem pc_31 (x1 : Int32) : ∃ (v : Int32) (h1 h2 : aH), (∀ (X : aX) (n d : Nat), arun X (n + 1000000) (d + 20) zM175 0 [some (.ref 0), some (.int x1)] [] zH0 = some (some (.int v), h1)) ∧ (∀ (X : aX) (n d : Nat), arun X (n + 1000000) (d + 20) zM288 0 [some (.ref 72), some (.int x1), none, none, none, none, none, none] [] h1 = some (some (.int v), h2)) ∧ h1.1[72]? = some (.inr (12, zF72)) ∧ h2.1.length ≤ 600000 ∧ h2.2 ≤ 7302250 := by
  by_cases ec0 : x1 < 0
  ·
    refine ⟨(-1), zH0, zH0, fun X n d => ?_, fun X n d => ?_, zh72, ?_, ?_⟩
    ·
      refine (r_iloadn f175_0 rfl).trans ?_
      have hc1 : arun X (n + 999998) (d + 19) zM139 0 [some (.int x1)] [] zH0 = some ((some (.int 0)), zH0) := by
        refine (r_iloadn f139_0 rfl).trans ?_
        refine (r_iconst (v := 0) f139_1 rfl).trans ?_
        refine (r_bipush (v := 9) f139_2 rfl).trans ?_
        have hc2 : arun X (n + 999994) (d + 18) zM137 0 [some (.int x1), some (.int 0), some (.int 9)] [] zH0 = some ((some (.int 0)), zH0) := by
          refine (r_iloadn f137_0 rfl).trans ?_
          refine (r_iloadn f137_1 rfl).trans ?_
          refine (r_icmp_gt_t f137_2 ec0).trans ?_
          refine (r_iconst (v := 0) f137_14 rfl).trans ?_
          exact r_zreturn f137_15 rfl (by decide)
        refine (r_stat (as := [.int x1, .int 0, .int 9]) (v := (some (.int 0))) (h1 := zH0) f139_4 rfl zg137 rfl rfl rfl rfl rfl rfl hc2).trans ?_
        exact r_zreturn f139_7 rfl (by decide)
      refine (r_stat (as := [.int x1]) (v := (some (.int 0))) (h1 := zH0) f175_1 rfl zg139 rfl rfl rfl rfl rfl rfl hc1).trans ?_
      refine (r_if_eq_t f175_4 (by decide)).trans ?_
      refine (r_iconst (v := (-1)) f175_32 rfl).trans ?_
      exact r_ireturn f175_33 rfl
    ·
      refine (r_iloadn f288_0 rfl).trans ?_
      have hc1 : arun X (n + 999998) (d + 19) zM198 0 [some (.int x1)] [] zH0 = some ((some (.int 0)), zH0) := by
        refine (r_iloadn f198_0 rfl).trans ?_
        refine (r_iconst (v := 0) f198_1 rfl).trans ?_
        refine (r_bipush (v := 9) f198_2 rfl).trans ?_
        have hc2 : arun X (n + 999994) (d + 18) zM196 0 [some (.int x1), some (.int 0), some (.int 9)] [] zH0 = some ((some (.int 0)), zH0) := by
          refine (r_iloadn f196_0 rfl).trans ?_
          refine (r_iloadn f196_1 rfl).trans ?_
          refine (r_icmp_lt_t f196_2 ec0).trans ?_
          refine (r_iconst (v := 0) f196_14 rfl).trans ?_
          exact r_zreturn f196_15 rfl (by decide)
        refine (r_stat (as := [.int x1, .int 0, .int 9]) (v := (some (.int 0))) (h1 := zH0) f198_4 rfl zg196 rfl rfl rfl rfl rfl rfl hc2).trans ?_
        exact r_zreturn f198_7 rfl (by decide)
      refine (r_stat (as := [.int x1]) (v := (some (.int 0))) (h1 := zH0) f288_1 rfl zg198 rfl rfl rfl rfl rfl rfl hc1).trans ?_
      refine (r_if_ne_f f288_4 (by decide)).trans ?_
      refine (r_iconst (v := (-1)) f288_7 rfl).trans ?_
      exact r_ireturn f288_8 rfl
    · exact Nat.le_trans (Nat.le_of_eq zH0_len) (by decide)
    · decide
  ·
    by_cases ec1 : 9 < x1
    ·
      refine ⟨(-1), zH0, zH0, fun X n d => ?_, fun X n d => ?_, zh72, ?_, ?_⟩
      ·
        refine (r_iloadn f175_0 rfl).trans ?_
        have hc1 : arun X (n + 999998) (d + 19) zM139 0 [some (.int x1)] [] zH0 = some ((some (.int 0)), zH0) := by
          refine (r_iloadn f139_0 rfl).trans ?_
          refine (r_iconst (v := 0) f139_1 rfl).trans ?_
          refine (r_bipush (v := 9) f139_2 rfl).trans ?_
          have hc2 : arun X (n + 999994) (d + 18) zM137 0 [some (.int x1), some (.int 0), some (.int 9)] [] zH0 = some ((some (.int 0)), zH0) := by
            refine (r_iloadn f137_0 rfl).trans ?_
            refine (r_iloadn f137_1 rfl).trans ?_
            refine (r_icmp_gt_f f137_2 ec0).trans ?_
            refine (r_iloadn f137_5 rfl).trans ?_
            refine (r_iloadn f137_6 rfl).trans ?_
            refine (r_icmp_gt_t f137_7 ec1).trans ?_
            refine (r_iconst (v := 0) f137_14 rfl).trans ?_
            exact r_zreturn f137_15 rfl (by decide)
          refine (r_stat (as := [.int x1, .int 0, .int 9]) (v := (some (.int 0))) (h1 := zH0) f139_4 rfl zg137 rfl rfl rfl rfl rfl rfl hc2).trans ?_
          exact r_zreturn f139_7 rfl (by decide)
        refine (r_stat (as := [.int x1]) (v := (some (.int 0))) (h1 := zH0) f175_1 rfl zg139 rfl rfl rfl rfl rfl rfl hc1).trans ?_
        refine (r_if_eq_t f175_4 (by decide)).trans ?_
        refine (r_iconst (v := (-1)) f175_32 rfl).trans ?_
        exact r_ireturn f175_33 rfl
      ·
        refine (r_iloadn f288_0 rfl).trans ?_
        have hc1 : arun X (n + 999998) (d + 19) zM198 0 [some (.int x1)] [] zH0 = some ((some (.int 0)), zH0) := by
          refine (r_iloadn f198_0 rfl).trans ?_
          refine (r_iconst (v := 0) f198_1 rfl).trans ?_
          refine (r_bipush (v := 9) f198_2 rfl).trans ?_
          have hc2 : arun X (n + 999994) (d + 18) zM196 0 [some (.int x1), some (.int 0), some (.int 9)] [] zH0 = some ((some (.int 0)), zH0) := by
            refine (r_iloadn f196_0 rfl).trans ?_
            refine (r_iloadn f196_1 rfl).trans ?_
            refine (r_icmp_lt_f f196_2 ec0).trans ?_
            refine (r_iloadn f196_5 rfl).trans ?_
            refine (r_iloadn f196_6 rfl).trans ?_
            refine (r_icmp_gt_t f196_7 ec1).trans ?_
            refine (r_iconst (v := 0) f196_14 rfl).trans ?_
            exact r_zreturn f196_15 rfl (by decide)
          refine (r_stat (as := [.int x1, .int 0, .int 9]) (v := (some (.int 0))) (h1 := zH0) f198_4 rfl zg196 rfl rfl rfl rfl rfl rfl hc2).trans ?_
          exact r_zreturn f198_7 rfl (by decide)
        refine (r_stat (as := [.int x1]) (v := (some (.int 0))) (h1 := zH0) f288_1 rfl zg198 rfl rfl rfl rfl rfl rfl hc1).trans ?_
        refine (r_if_ne_f f288_4 (by decide)).trans ?_
        refine (r_iconst (v := (-1)) f288_7 rfl).trans ?_
        exact r_ireturn f288_8 rfl
      · exact Nat.le_trans (Nat.le_of_eq zH0_len) (by decide)
      · decide
    ·
      have jc0 : ¬ (x1 < 0 ∨ 10 ≤ Int32.toNatClampNeg x1) := vp_in_iff.mpr (by
        have l0 : (0 : Int32).toInt = 0 := by decide
        have l1 : (9 : Int32).toInt = 9 := by decide
        simp only [Int32.lt_iff_toInt_lt, Int32.le_iff_toInt_le, ← Int32.toInt_inj] at *
        omega)
      obtain ⟨y169, e_169, l_169, u_169, r_169⟩ := season_fresh (x1 := x1) jc0
      obtain ⟨y170, e_170, l_170, u_170, r_170, q_170⟩ := reckon_fresh (h := ((y169.1.set 48 (.inr (5, [.ref 1, .ref 16, .ref 41, .ref 49, .int 0, .ref 50, .ref 51, .int 0, .ref 52, .int 0, .ref 53, .ref 54, .int 0, .int 0, .int 0, .int 0, .int 0]))), y169.2)) (gs_ne (r_169 72 _ (by decide) (by decide) zh72) (by decide)) (gs_ne (r_169 107 _ (by decide) (by decide) zh107) (by decide)) (gs_ne (r_169 108 _ (by decide) (by decide) zh108) (by decide)) (gs_ne (r_169 109 _ (by decide) (by decide) zh109) (by decide))
      refine ⟨0, ((y169.1.set 48 (.inr (5, [.ref 1, .ref 16, .ref 41, .ref 49, .int 0, .ref 50, .ref 51, .int 0, .ref 52, .int 0, .ref 53, .ref 54, .int 0, .int 0, .int 0, .int 0, .int 0]))), y169.2), ((y170.1.set 72 (.inr (12, ((((zF72.set 38 (.int 0)).set 39 (.int 0)).set 79 (.int 0)).set 81 (.int 0))))), y170.2), fun X n d => ?_, fun X n d => ?_, (gs_ne (r_169 72 _ (by decide) (by decide) zh72) (by decide)), ?_, ?_⟩
      ·
        refine (r_iloadn f175_0 rfl).trans ?_
        have hc1 : arun X (n + 999998) (d + 19) zM139 0 [some (.int x1)] [] zH0 = some ((some (.int 1)), zH0) := by
          refine (r_iloadn f139_0 rfl).trans ?_
          refine (r_iconst (v := 0) f139_1 rfl).trans ?_
          refine (r_bipush (v := 9) f139_2 rfl).trans ?_
          have hc2 : arun X (n + 999994) (d + 18) zM137 0 [some (.int x1), some (.int 0), some (.int 9)] [] zH0 = some ((some (.int 1)), zH0) := by
            refine (r_iloadn f137_0 rfl).trans ?_
            refine (r_iloadn f137_1 rfl).trans ?_
            refine (r_icmp_gt_f f137_2 ec0).trans ?_
            refine (r_iloadn f137_5 rfl).trans ?_
            refine (r_iloadn f137_6 rfl).trans ?_
            refine (r_icmp_gt_f f137_7 ec1).trans ?_
            refine (r_iconst (v := 1) f137_10 rfl).trans ?_
            refine (r_goto f137_11).trans ?_
            exact r_zreturn f137_15 rfl (by decide)
          refine (r_stat (as := [.int x1, .int 0, .int 9]) (v := (some (.int 1))) (h1 := zH0) f139_4 rfl zg137 rfl rfl rfl rfl rfl rfl hc2).trans ?_
          exact r_zreturn f139_7 rfl (by decide)
        refine (r_stat (as := [.int x1]) (v := (some (.int 1))) (h1 := zH0) f175_1 rfl zg139 rfl rfl rfl rfl rfl rfl hc1).trans ?_
        refine (r_if_eq_f f175_4 (by decide)).trans ?_
        refine (r_aloadn f175_7 rfl).trans ?_
        refine (r_get (v := .ref 48) f175_8 zh0 rfl).trans ?_
        refine (r_aloadn f175_11 rfl).trans ?_
        refine (r_get (v := .ref 41) f175_12 zh0 rfl).trans ?_
        refine (r_iloadn f175_15 rfl).trans ?_
        refine (r_aloadn f175_16 rfl).trans ?_
        refine (r_get (v := .ref 1) f175_17 zh0 rfl).trans ?_
        refine (r_get (v := .int 0) f175_20 zh1 rfl).trans ?_
        refine (r_virt (as := [.int x1, .int 0]) (v := (some (.ref 146))) (h1 := y169) f175_23 zh41 zg1 rfl rfl rfl rfl rfl rfl (e_169 X (n + 993988) (d + 9))).trans ?_
        have hc3 : arun X (n + 999987) (d + 19) zM53 0 [some (.ref 48), some (.ref 146), none, none] [] y169 = some ((some (.int 0)), ((y169.1.set 48 (.inr (5, [.ref 1, .ref 16, .ref 41, .ref 49, .int 0, .ref 50, .ref 51, .int 0, .ref 52, .int 0, .ref 53, .ref 54, .int 0, .int 0, .int 0, .int 0, .int 0]))), y169.2)) := by
          refine (r_iconst (v := 0) f53_0 rfl).trans ?_
          refine (r_istoren (L' := [some (.ref 48), some (.ref 146), some (.int 0), none]) f53_1 rfl rfl).trans ?_
          refine (r_iconst (v := 0) f53_2 rfl).trans ?_
          refine (r_istoren (L' := [some (.ref 48), some (.ref 146), some (.int 0), some (.int 0)]) f53_3 rfl rfl).trans ?_
          refine (r_iloadn f53_4 rfl).trans ?_
          refine (r_aloadn f53_5 rfl).trans ?_
          refine (r_get (v := .ref 1) f53_6 (r_169 48 _ (by decide) (by decide) zh48) rfl).trans ?_
          refine (r_get (v := .int 0) f53_9 (r_169 1 _ (by decide) (by decide) zh1) rfl).trans ?_
          refine (r_icmp_ge_t f53_12 (by decide)).trans ?_
          refine (r_iconst (v := 0) f53_74 rfl).trans ?_
          refine (r_istoren (L' := [some (.ref 48), some (.ref 146), some (.int 0), some (.int 0)]) f53_75 rfl rfl).trans ?_
          refine (r_iloadn f53_76 rfl).trans ?_
          refine (r_iloadn f53_77 rfl).trans ?_
          refine (r_icmp_ge_t f53_78 (by decide)).trans ?_
          refine (r_aloadn f53_100 rfl).trans ?_
          refine (r_aloadn f53_101 rfl).trans ?_
          refine (r_iloadn f53_102 rfl).trans ?_
          have hc4 : arun X (n + 999969) (d + 18) zM56 0 [some (.ref 48), some (.int 0), none, none] [] y169 = some ((some (.int 0)), y169) := by
            refine (r_iconst (v := 1) f56_0 rfl).trans ?_
            refine (r_iloadn f56_1 rfl).trans ?_
            refine (r_ishl (v := 1) f56_2 (by decide)).trans ?_
            refine (r_iconst (v := 1) f56_3 rfl).trans ?_
            refine (r_isub (v := 0) f56_4 (by decide)).trans ?_
            refine (r_istoren (L' := [some (.ref 48), some (.int 0), some (.int 0), none]) f56_5 rfl rfl).trans ?_
            refine (r_iconst (v := 0) f56_6 rfl).trans ?_
            refine (r_istoren (L' := [some (.ref 48), some (.int 0), some (.int 0), some (.int 0)]) f56_7 rfl rfl).trans ?_
            refine (r_iloadn f56_8 rfl).trans ?_
            refine (r_iconst (v := 1) f56_9 rfl).trans ?_
            refine (r_iloadn f56_10 rfl).trans ?_
            refine (r_ishl (v := 1) f56_11 (by decide)).trans ?_
            refine (r_icmp_ge_f f56_12 (by decide)).trans ?_
            refine (r_aloadn f56_15 rfl).trans ?_
            refine (r_iloadn f56_16 rfl).trans ?_
            refine (r_iloadn f56_17 rfl).trans ?_
            have hc5 : arun X (n + 999952) (d + 17) zM57 0 [some (.ref 48), some (.int 0), some (.int 0), none] [] y169 = some ((some (.int 1)), y169) := by
              refine (r_iconst (v := 0) f57_0 rfl).trans ?_
              refine (r_istoren (L' := [some (.ref 48), some (.int 0), some (.int 0), some (.int 0)]) f57_1 rfl rfl).trans ?_
              refine (r_iloadn f57_2 rfl).trans ?_
              refine (r_iloadn f57_3 rfl).trans ?_
              refine (r_icmp_ge_t f57_4 (by decide)).trans ?_
              refine (r_iconst (v := 1) f57_36 rfl).trans ?_
              exact r_zreturn f57_37 rfl (by decide)
            refine (r_virt (as := [.int 0, .int 0]) (v := (some (.int 1))) (h1 := y169) f56_18 (r_169 48 _ (by decide) (by decide) zh48) zg57 rfl rfl rfl rfl rfl rfl hc5).trans ?_
            refine (r_if_eq_f f56_21 (by decide)).trans ?_
            refine (r_aloadn f56_24 rfl).trans ?_
            refine (r_iloadn f56_25 rfl).trans ?_
            refine (r_iloadn f56_26 rfl).trans ?_
            refine (r_iloadn f56_27 rfl).trans ?_
            have hc6 : arun X (n + 999946) (d + 17) zM58 0 [some (.ref 48), some (.int 0), some (.int 0), some (.int 0), none, none, none] [] y169 = some ((some (.int 0)), y169) := by
              refine (r_aloadn f58_0 rfl).trans ?_
              refine (r_iloadn f58_1 rfl).trans ?_
              refine (r_iloadn f58_2 rfl).trans ?_
              have hc7 : arun X (n + 999942) (d + 16) zM59 0 [some (.ref 48), some (.int 0), some (.int 0), none, none] [] y169 = some ((some (.int 0)), y169) := by
                refine (r_iconst (v := 0) f59_0 rfl).trans ?_
                refine (r_istoren (L' := [some (.ref 48), some (.int 0), some (.int 0), some (.int 0), none]) f59_1 rfl rfl).trans ?_
                refine (r_iconst (v := 0) f59_2 rfl).trans ?_
                refine (r_istore (L' := [some (.ref 48), some (.int 0), some (.int 0), some (.int 0), some (.int 0)]) f59_3 rfl rfl).trans ?_
                refine (r_iload f59_5 rfl).trans ?_
                refine (r_iloadn f59_7 rfl).trans ?_
                refine (r_icmp_ge_t f59_8 (by decide)).trans ?_
                refine (r_iloadn f59_42 rfl).trans ?_
                exact r_ireturn f59_43 rfl
              refine (r_virt (as := [.int 0, .int 0]) (v := (some (.int 0))) (h1 := y169) f58_3 (r_169 48 _ (by decide) (by decide) zh48) zg59 rfl rfl rfl rfl rfl rfl hc7).trans ?_
              refine (r_istore (L' := [some (.ref 48), some (.int 0), some (.int 0), some (.int 0), some (.int 0), none, none]) f58_6 rfl rfl).trans ?_
              refine (r_aloadn f58_8 rfl).trans ?_
              refine (r_iloadn f58_9 rfl).trans ?_
              refine (r_iloadn f58_10 rfl).trans ?_
              have hc8 : arun X (n + 999937) (d + 16) zM59 0 [some (.ref 48), some (.int 0), some (.int 0), none, none] [] y169 = some ((some (.int 0)), y169) := by
                refine (r_iconst (v := 0) f59_0 rfl).trans ?_
                refine (r_istoren (L' := [some (.ref 48), some (.int 0), some (.int 0), some (.int 0), none]) f59_1 rfl rfl).trans ?_
                refine (r_iconst (v := 0) f59_2 rfl).trans ?_
                refine (r_istore (L' := [some (.ref 48), some (.int 0), some (.int 0), some (.int 0), some (.int 0)]) f59_3 rfl rfl).trans ?_
                refine (r_iload f59_5 rfl).trans ?_
                refine (r_iloadn f59_7 rfl).trans ?_
                refine (r_icmp_ge_t f59_8 (by decide)).trans ?_
                refine (r_iloadn f59_42 rfl).trans ?_
                exact r_ireturn f59_43 rfl
              refine (r_virt (as := [.int 0, .int 0]) (v := (some (.int 0))) (h1 := y169) f58_11 (r_169 48 _ (by decide) (by decide) zh48) zg59 rfl rfl rfl rfl rfl rfl hc8).trans ?_
              refine (r_istore (L' := [some (.ref 48), some (.int 0), some (.int 0), some (.int 0), some (.int 0), some (.int 0), none]) f58_14 rfl rfl).trans ?_
              refine (r_iload f58_16 rfl).trans ?_
              refine (r_iload f58_18 rfl).trans ?_
              refine (r_icmp_eq_t f58_20 (by decide)).trans ?_
              refine (r_iloadn f58_36 rfl).trans ?_
              have hc9 : arun X (n + 999931) (d + 16) zM329 0 [some (.int 0)] [] y169 = some ((some (.int 0)), y169) := by
                refine (r_iloadn f329_0 rfl).trans ?_
                refine (r_iloadn f329_1 rfl).trans ?_
                refine (r_iconst (v := 1) f329_2 rfl).trans ?_
                refine (r_iushr (v := 0) f329_3 (by decide)).trans ?_
                refine (r_ldcw (v := 1431655765) f329_4 (by decide)).trans ?_
                refine (r_iand (v := 0) f329_7 (by decide)).trans ?_
                refine (r_isub (v := 0) f329_8 (by decide)).trans ?_
                refine (r_istoren (L' := [some (.int 0)]) f329_9 rfl rfl).trans ?_
                refine (r_iloadn f329_10 rfl).trans ?_
                refine (r_ldcw (v := 858993459) f329_11 (by decide)).trans ?_
                refine (r_iand (v := 0) f329_14 (by decide)).trans ?_
                refine (r_iloadn f329_15 rfl).trans ?_
                refine (r_iconst (v := 2) f329_16 rfl).trans ?_
                refine (r_iushr (v := 0) f329_17 (by decide)).trans ?_
                refine (r_ldcw (v := 858993459) f329_18 (by decide)).trans ?_
                refine (r_iand (v := 0) f329_21 (by decide)).trans ?_
                refine (r_iadd (v := 0) f329_22 (by decide)).trans ?_
                refine (r_istoren (L' := [some (.int 0)]) f329_23 rfl rfl).trans ?_
                refine (r_iloadn f329_24 rfl).trans ?_
                refine (r_iloadn f329_25 rfl).trans ?_
                refine (r_iconst (v := 4) f329_26 rfl).trans ?_
                refine (r_iushr (v := 0) f329_27 (by decide)).trans ?_
                refine (r_iadd (v := 0) f329_28 (by decide)).trans ?_
                refine (r_ldcw (v := 252645135) f329_29 (by decide)).trans ?_
                refine (r_iand (v := 0) f329_32 (by decide)).trans ?_
                refine (r_istoren (L' := [some (.int 0)]) f329_33 rfl rfl).trans ?_
                refine (r_iloadn f329_34 rfl).trans ?_
                refine (r_iloadn f329_35 rfl).trans ?_
                refine (r_bipush (v := 8) f329_36 rfl).trans ?_
                refine (r_iushr (v := 0) f329_38 (by decide)).trans ?_
                refine (r_iadd (v := 0) f329_39 (by decide)).trans ?_
                refine (r_istoren (L' := [some (.int 0)]) f329_40 rfl rfl).trans ?_
                refine (r_iloadn f329_41 rfl).trans ?_
                refine (r_iloadn f329_42 rfl).trans ?_
                refine (r_bipush (v := 16) f329_43 rfl).trans ?_
                refine (r_iushr (v := 0) f329_45 (by decide)).trans ?_
                refine (r_iadd (v := 0) f329_46 (by decide)).trans ?_
                refine (r_istoren (L' := [some (.int 0)]) f329_47 rfl rfl).trans ?_
                refine (r_iloadn f329_48 rfl).trans ?_
                refine (r_bipush (v := 63) f329_49 rfl).trans ?_
                refine (r_iand (v := 0) f329_51 (by decide)).trans ?_
                exact r_ireturn f329_52 rfl
              refine (r_stat (as := [.int 0]) (v := (some (.int 0))) (h1 := y169) f58_37 rfl zg329 rfl rfl rfl rfl rfl rfl hc9).trans ?_
              refine (r_iloadn f58_40 rfl).trans ?_
              have hc10 : arun X (n + 999929) (d + 16) zM329 0 [some (.int 0)] [] y169 = some ((some (.int 0)), y169) := by
                refine (r_iloadn f329_0 rfl).trans ?_
                refine (r_iloadn f329_1 rfl).trans ?_
                refine (r_iconst (v := 1) f329_2 rfl).trans ?_
                refine (r_iushr (v := 0) f329_3 (by decide)).trans ?_
                refine (r_ldcw (v := 1431655765) f329_4 (by decide)).trans ?_
                refine (r_iand (v := 0) f329_7 (by decide)).trans ?_
                refine (r_isub (v := 0) f329_8 (by decide)).trans ?_
                refine (r_istoren (L' := [some (.int 0)]) f329_9 rfl rfl).trans ?_
                refine (r_iloadn f329_10 rfl).trans ?_
                refine (r_ldcw (v := 858993459) f329_11 (by decide)).trans ?_
                refine (r_iand (v := 0) f329_14 (by decide)).trans ?_
                refine (r_iloadn f329_15 rfl).trans ?_
                refine (r_iconst (v := 2) f329_16 rfl).trans ?_
                refine (r_iushr (v := 0) f329_17 (by decide)).trans ?_
                refine (r_ldcw (v := 858993459) f329_18 (by decide)).trans ?_
                refine (r_iand (v := 0) f329_21 (by decide)).trans ?_
                refine (r_iadd (v := 0) f329_22 (by decide)).trans ?_
                refine (r_istoren (L' := [some (.int 0)]) f329_23 rfl rfl).trans ?_
                refine (r_iloadn f329_24 rfl).trans ?_
                refine (r_iloadn f329_25 rfl).trans ?_
                refine (r_iconst (v := 4) f329_26 rfl).trans ?_
                refine (r_iushr (v := 0) f329_27 (by decide)).trans ?_
                refine (r_iadd (v := 0) f329_28 (by decide)).trans ?_
                refine (r_ldcw (v := 252645135) f329_29 (by decide)).trans ?_
                refine (r_iand (v := 0) f329_32 (by decide)).trans ?_
                refine (r_istoren (L' := [some (.int 0)]) f329_33 rfl rfl).trans ?_
                refine (r_iloadn f329_34 rfl).trans ?_
                refine (r_iloadn f329_35 rfl).trans ?_
                refine (r_bipush (v := 8) f329_36 rfl).trans ?_
                refine (r_iushr (v := 0) f329_38 (by decide)).trans ?_
                refine (r_iadd (v := 0) f329_39 (by decide)).trans ?_
                refine (r_istoren (L' := [some (.int 0)]) f329_40 rfl rfl).trans ?_
                refine (r_iloadn f329_41 rfl).trans ?_
                refine (r_iloadn f329_42 rfl).trans ?_
                refine (r_bipush (v := 16) f329_43 rfl).trans ?_
                refine (r_iushr (v := 0) f329_45 (by decide)).trans ?_
                refine (r_iadd (v := 0) f329_46 (by decide)).trans ?_
                refine (r_istoren (L' := [some (.int 0)]) f329_47 rfl rfl).trans ?_
                refine (r_iloadn f329_48 rfl).trans ?_
                refine (r_bipush (v := 63) f329_49 rfl).trans ?_
                refine (r_iand (v := 0) f329_51 (by decide)).trans ?_
                exact r_ireturn f329_52 rfl
              refine (r_stat (as := [.int 0]) (v := (some (.int 0))) (h1 := y169) f58_41 rfl zg329 rfl rfl rfl rfl rfl rfl hc10).trans ?_
              have hc11 : arun X (n + 999928) (d + 16) zM328 0 [some (.int 0), some (.int 0)] [] y169 = some ((some (.int 0)), y169) := by
                refine (r_iloadn f328_0 rfl).trans ?_
                refine (r_iloadn f328_1 rfl).trans ?_
                refine (r_icmp_ge_t f328_2 (by decide)).trans ?_
                refine (r_iloadn f328_9 rfl).trans ?_
                refine (r_iloadn f328_10 rfl).trans ?_
                refine (r_icmp_ne_f f328_11 (by decide)).trans ?_
                refine (r_iconst (v := 0) f328_14 rfl).trans ?_
                refine (r_goto f328_15).trans ?_
                exact r_ireturn f328_19 rfl
              refine (r_stat (as := [.int 0, .int 0]) (v := (some (.int 0))) (h1 := y169) f58_44 rfl zg328 rfl rfl rfl rfl rfl rfl hc11).trans ?_
              refine (r_istore (L' := [some (.ref 48), some (.int 0), some (.int 0), some (.int 0), some (.int 0), some (.int 0), some (.int 0)]) f58_47 rfl rfl).trans ?_
              refine (r_iload f58_49 rfl).trans ?_
              refine (r_if_eq_t f58_51 (by decide)).trans ?_
              refine (r_iloadn f58_67 rfl).trans ?_
              refine (r_iloadn f58_68 rfl).trans ?_
              refine (r_icmp_ge_t f58_69 (by decide)).trans ?_
              refine (r_iconst (v := 0) f58_76 rfl).trans ?_
              exact r_zreturn f58_77 rfl (by decide)
            refine (r_virt (as := [.int 0, .int 0, .int 0]) (v := (some (.int 0))) (h1 := y169) f56_28 (r_169 48 _ (by decide) (by decide) zh48) zg58 rfl rfl rfl rfl rfl rfl hc6).trans ?_
            refine (r_if_eq_t f56_31 (by decide)).trans ?_
            refine (r_iinc (v := 1) (L' := [some (.ref 48), some (.int 0), some (.int 0), some (.int 1)]) f56_36 rfl rfl rfl).trans ?_
            refine (r_goto f56_39).trans ?_
            refine (r_iloadn f56_8 rfl).trans ?_
            refine (r_iconst (v := 1) f56_9 rfl).trans ?_
            refine (r_iloadn f56_10 rfl).trans ?_
            refine (r_ishl (v := 1) f56_11 (by decide)).trans ?_
            refine (r_icmp_ge_t f56_12 (by decide)).trans ?_
            refine (r_iloadn f56_42 rfl).trans ?_
            exact r_ireturn f56_43 rfl
          refine (r_virt (as := [.int 0]) (v := (some (.int 0))) (h1 := y169) f53_103 (r_169 48 _ (by decide) (by decide) zh48) zg56 rfl rfl rfl rfl rfl rfl hc4).trans ?_
          refine (r_iloadn f53_106 rfl).trans ?_
          have hc12 : arun X (n + 999967) (d + 18) zM60 0 [some (.ref 48), some (.int 0), some (.int 0), none] [] y169 = some ((some (.int 0)), ((y169.1.set 48 (.inr (5, [.ref 1, .ref 16, .ref 41, .ref 49, .int 0, .ref 50, .ref 51, .int 0, .ref 52, .int 0, .ref 53, .ref 54, .int 0, .int 0, .int 0, .int 0, .int 0]))), y169.2)) := by
            refine (r_aloadn f60_0 rfl).trans ?_
            refine (r_iconst (v := 0) f60_1 rfl).trans ?_
            refine (r_put (h' := ((y169.1.set 48 (.inr (5, [.ref 1, .ref 16, .ref 41, .ref 49, .int 0, .ref 50, .ref 51, .int 0, .ref 52, .int 0, .ref 53, .ref 54, .int 0, .int 0, .int 0, .int 0, .int 0]))), y169.2)) f60_2 (r_169 48 _ (by decide) (by decide) zh48) rfl rfl).trans ?_
            refine (r_iconst (v := 0) f60_5 rfl).trans ?_
            refine (r_istoren (L' := [some (.ref 48), some (.int 0), some (.int 0), some (.int 0)]) f60_6 rfl rfl).trans ?_
            refine (r_iloadn f60_7 rfl).trans ?_
            refine (r_iloadn f60_8 rfl).trans ?_
            refine (r_icmp_ge_t f60_9 (by decide)).trans ?_
            refine (r_aloadn f60_52 rfl).trans ?_
            refine (r_iloadn f60_53 rfl).trans ?_
            refine (r_iloadn f60_54 rfl).trans ?_
            have hc13 : arun X (n + 999955) (d + 17) zM59 0 [some (.ref 48), some (.int 0), some (.int 0), none, none] [] ((y169.1.set 48 (.inr (5, [.ref 1, .ref 16, .ref 41, .ref 49, .int 0, .ref 50, .ref 51, .int 0, .ref 52, .int 0, .ref 53, .ref 54, .int 0, .int 0, .int 0, .int 0, .int 0]))), y169.2) = some ((some (.int 0)), ((y169.1.set 48 (.inr (5, [.ref 1, .ref 16, .ref 41, .ref 49, .int 0, .ref 50, .ref 51, .int 0, .ref 52, .int 0, .ref 53, .ref 54, .int 0, .int 0, .int 0, .int 0, .int 0]))), y169.2)) := by
              refine (r_iconst (v := 0) f59_0 rfl).trans ?_
              refine (r_istoren (L' := [some (.ref 48), some (.int 0), some (.int 0), some (.int 0), none]) f59_1 rfl rfl).trans ?_
              refine (r_iconst (v := 0) f59_2 rfl).trans ?_
              refine (r_istore (L' := [some (.ref 48), some (.int 0), some (.int 0), some (.int 0), some (.int 0)]) f59_3 rfl rfl).trans ?_
              refine (r_iload f59_5 rfl).trans ?_
              refine (r_iloadn f59_7 rfl).trans ?_
              refine (r_icmp_ge_t f59_8 (by decide)).trans ?_
              refine (r_iloadn f59_42 rfl).trans ?_
              exact r_ireturn f59_43 rfl
            refine (r_virt (as := [.int 0, .int 0]) (v := (some (.int 0))) (h1 := ((y169.1.set 48 (.inr (5, [.ref 1, .ref 16, .ref 41, .ref 49, .int 0, .ref 50, .ref 51, .int 0, .ref 52, .int 0, .ref 53, .ref 54, .int 0, .int 0, .int 0, .int 0, .int 0]))), y169.2)) f60_55 (gs_eq (r_169 48 _ (by decide) (by decide) zh48)) zg59 rfl rfl rfl rfl rfl rfl hc13).trans ?_
            exact r_ireturn f60_58 rfl
          refine (r_virt (as := [.int 0, .int 0]) (v := (some (.int 0))) (h1 := ((y169.1.set 48 (.inr (5, [.ref 1, .ref 16, .ref 41, .ref 49, .int 0, .ref 50, .ref 51, .int 0, .ref 52, .int 0, .ref 53, .ref 54, .int 0, .int 0, .int 0, .int 0, .int 0]))), y169.2)) f53_107 (r_169 48 _ (by decide) (by decide) zh48) zg60 rfl rfl rfl rfl rfl rfl hc12).trans ?_
          exact r_ireturn f53_110 rfl
        refine (r_virt (as := [.ref 146]) (v := (some (.int 0))) (h1 := ((y169.1.set 48 (.inr (5, [.ref 1, .ref 16, .ref 41, .ref 49, .int 0, .ref 50, .ref 51, .int 0, .ref 52, .int 0, .ref 53, .ref 54, .int 0, .int 0, .int 0, .int 0, .int 0]))), y169.2)) f175_26 (r_169 48 _ (by decide) (by decide) zh48) zg53 rfl rfl rfl rfl rfl rfl hc3).trans ?_
        refine (r_goto f175_29).trans ?_
        exact r_ireturn f175_33 rfl
      ·
        refine (r_iloadn f288_0 rfl).trans ?_
        have hc1 : arun X (n + 999998) (d + 19) zM198 0 [some (.int x1)] [] ((y169.1.set 48 (.inr (5, [.ref 1, .ref 16, .ref 41, .ref 49, .int 0, .ref 50, .ref 51, .int 0, .ref 52, .int 0, .ref 53, .ref 54, .int 0, .int 0, .int 0, .int 0, .int 0]))), y169.2) = some ((some (.int 1)), ((y169.1.set 48 (.inr (5, [.ref 1, .ref 16, .ref 41, .ref 49, .int 0, .ref 50, .ref 51, .int 0, .ref 52, .int 0, .ref 53, .ref 54, .int 0, .int 0, .int 0, .int 0, .int 0]))), y169.2)) := by
          refine (r_iloadn f198_0 rfl).trans ?_
          refine (r_iconst (v := 0) f198_1 rfl).trans ?_
          refine (r_bipush (v := 9) f198_2 rfl).trans ?_
          have hc2 : arun X (n + 999994) (d + 18) zM196 0 [some (.int x1), some (.int 0), some (.int 9)] [] ((y169.1.set 48 (.inr (5, [.ref 1, .ref 16, .ref 41, .ref 49, .int 0, .ref 50, .ref 51, .int 0, .ref 52, .int 0, .ref 53, .ref 54, .int 0, .int 0, .int 0, .int 0, .int 0]))), y169.2) = some ((some (.int 1)), ((y169.1.set 48 (.inr (5, [.ref 1, .ref 16, .ref 41, .ref 49, .int 0, .ref 50, .ref 51, .int 0, .ref 52, .int 0, .ref 53, .ref 54, .int 0, .int 0, .int 0, .int 0, .int 0]))), y169.2)) := by
            refine (r_iloadn f196_0 rfl).trans ?_
            refine (r_iloadn f196_1 rfl).trans ?_
            refine (r_icmp_lt_f f196_2 ec0).trans ?_
            refine (r_iloadn f196_5 rfl).trans ?_
            refine (r_iloadn f196_6 rfl).trans ?_
            refine (r_icmp_gt_f f196_7 ec1).trans ?_
            refine (r_iconst (v := 1) f196_10 rfl).trans ?_
            refine (r_goto f196_11).trans ?_
            exact r_zreturn f196_15 rfl (by decide)
          refine (r_stat (as := [.int x1, .int 0, .int 9]) (v := (some (.int 1))) (h1 := ((y169.1.set 48 (.inr (5, [.ref 1, .ref 16, .ref 41, .ref 49, .int 0, .ref 50, .ref 51, .int 0, .ref 52, .int 0, .ref 53, .ref 54, .int 0, .int 0, .int 0, .int 0, .int 0]))), y169.2)) f198_4 rfl zg196 rfl rfl rfl rfl rfl rfl hc2).trans ?_
          exact r_zreturn f198_7 rfl (by decide)
        refine (r_stat (as := [.int x1]) (v := (some (.int 1))) (h1 := ((y169.1.set 48 (.inr (5, [.ref 1, .ref 16, .ref 41, .ref 49, .int 0, .ref 50, .ref 51, .int 0, .ref 52, .int 0, .ref 53, .ref 54, .int 0, .int 0, .int 0, .int 0, .int 0]))), y169.2)) f288_1 rfl zg198 rfl rfl rfl rfl rfl rfl hc1).trans ?_
        refine (r_if_ne_t f288_4 (by decide)).trans ?_
        refine (r_aloadn f288_9 rfl).trans ?_
        refine (r_aloadn f288_10 rfl).trans ?_
        refine (r_get (v := .int 0) f288_11 (gs_ne (r_169 72 _ (by decide) (by decide) zh72) (by decide)) rfl).trans ?_
        refine (r_virt (as := [.int 0]) (v := none) (h1 := y170) f288_14 (gs_ne (r_169 72 _ (by decide) (by decide) zh72) (by decide)) zg239 rfl rfl rfl rfl rfl rfl (e_170 X (n + 799993) (d + 15))).trans ?_
        refine (r_iconst (v := 0) f288_17 rfl).trans ?_
        refine (r_istoren (L' := [some (.ref 72), some (.int x1), some (.int 0), none, none, none, none, none]) f288_18 rfl rfl).trans ?_
        refine (r_iconst (v := 0) f288_19 rfl).trans ?_
        refine (r_istoren (L' := [some (.ref 72), some (.int x1), some (.int 0), some (.int 0), none, none, none, none]) f288_20 rfl rfl).trans ?_
        refine (r_iloadn f288_21 rfl).trans ?_
        refine (r_aloadn f288_22 rfl).trans ?_
        refine (r_get (v := .int 0) f288_23 q_170 rfl).trans ?_
        refine (r_icmp_ge_t f288_26 (by decide)).trans ?_
        refine (r_iloadn f288_60 rfl).trans ?_
        refine (r_bipush (v := 10) f288_61 rfl).trans ?_
        refine (r_icmp_le_t f288_63 (by decide)).trans ?_
        refine (r_aloadn f288_69 rfl).trans ?_
        refine (r_iconst (v := 0) f288_70 rfl).trans ?_
        refine (r_put (h' := ((y170.1.set 72 (.inr (12, (((zF72.set 38 (.int 0)).set 39 (.int 0)).set 79 (.int 0))))), y170.2)) f288_71 q_170 rfl rfl).trans ?_
        refine (r_iconst (v := 0) f288_74 rfl).trans ?_
        refine (r_istoren (L' := [some (.ref 72), some (.int x1), some (.int 0), some (.int 0), none, none, none, none]) f288_75 rfl rfl).trans ?_
        refine (r_iloadn f288_76 rfl).trans ?_
        refine (r_aloadn f288_77 rfl).trans ?_
        refine (r_get (v := .int 0) f288_78 (gs_eq q_170) rfl).trans ?_
        refine (r_icmp_ge_t f288_81 (by decide)).trans ?_
        refine (r_iconst (v := (-1)) f288_130 rfl).trans ?_
        refine (r_istoren (L' := [some (.ref 72), some (.int x1), some (.int 0), some (.int (-1)), none, none, none, none]) f288_131 rfl rfl).trans ?_
        refine (r_iconst (v := 0) f288_132 rfl).trans ?_
        refine (r_istore (L' := [some (.ref 72), some (.int x1), some (.int 0), some (.int (-1)), some (.int 0), none, none, none]) f288_133 rfl rfl).trans ?_
        refine (r_iconst (v := 0) f288_135 rfl).trans ?_
        refine (r_istore (L' := [some (.ref 72), some (.int x1), some (.int 0), some (.int (-1)), some (.int 0), some (.int 0), none, none]) f288_136 rfl rfl).trans ?_
        refine (r_iload f288_138 rfl).trans ?_
        refine (r_iconst (v := 1) f288_140 rfl).trans ?_
        refine (r_aloadn f288_141 rfl).trans ?_
        refine (r_get (v := .int 0) f288_142 (gs_eq q_170) rfl).trans ?_
        refine (r_ishl (v := 1) f288_145 (by decide)).trans ?_
        refine (r_icmp_ge_f f288_146 (by decide)).trans ?_
        refine (r_iconst (v := 0) f288_149 rfl).trans ?_
        refine (r_istore (L' := [some (.ref 72), some (.int x1), some (.int 0), some (.int (-1)), some (.int 0), some (.int 0), some (.int 0), none]) f288_150 rfl rfl).trans ?_
        refine (r_iconst (v := 0) f288_152 rfl).trans ?_
        refine (r_istore (L' := [some (.ref 72), some (.int x1), some (.int 0), some (.int (-1)), some (.int 0), some (.int 0), some (.int 0), some (.int 0)]) f288_153 rfl rfl).trans ?_
        refine (r_iload f288_155 rfl).trans ?_
        refine (r_aloadn f288_157 rfl).trans ?_
        refine (r_get (v := .int 0) f288_158 (gs_eq q_170) rfl).trans ?_
        refine (r_icmp_ge_t f288_161 (by decide)).trans ?_
        refine (r_iloadn f288_202 rfl).trans ?_
        refine (r_if_lt_t f288_203 (by decide)).trans ?_
        refine (r_aloadn f288_232 rfl).trans ?_
        refine (r_iload f288_233 rfl).trans ?_
        refine (r_iloadn f288_235 rfl).trans ?_
        have hc3 : arun X (n + 999947) (d + 19) zM286 0 [some (.ref 72), some (.int 0), some (.int x1), none, none] [] ((y170.1.set 72 (.inr (12, (((zF72.set 38 (.int 0)).set 39 (.int 0)).set 79 (.int 0))))), y170.2) = some ((some (.int 1)), ((y170.1.set 72 (.inr (12, (((zF72.set 38 (.int 0)).set 39 (.int 0)).set 79 (.int 0))))), y170.2)) := by
          refine (r_iconst (v := 0) f286_0 rfl).trans ?_
          refine (r_istoren (L' := [some (.ref 72), some (.int 0), some (.int x1), some (.int 0), none]) f286_1 rfl rfl).trans ?_
          refine (r_iloadn f286_2 rfl).trans ?_
          refine (r_aloadn f286_3 rfl).trans ?_
          refine (r_get (v := .int 0) f286_4 (gs_eq q_170) rfl).trans ?_
          refine (r_icmp_ge_t f286_7 (by decide)).trans ?_
          refine (r_iconst (v := 1) f286_118 rfl).trans ?_
          exact r_zreturn f286_119 rfl (by decide)
        refine (r_virt (as := [.int 0, .int x1]) (v := (some (.int 1))) (h1 := ((y170.1.set 72 (.inr (12, (((zF72.set 38 (.int 0)).set 39 (.int 0)).set 79 (.int 0))))), y170.2)) f288_236 (gs_eq q_170) zg286 rfl rfl rfl rfl rfl rfl hc3).trans ?_
        refine (r_if_ne_t f288_239 (by decide)).trans ?_
        refine (r_iload f288_245 rfl).trans ?_
        refine (r_istoren (L' := [some (.ref 72), some (.int x1), some (.int 0), some (.int 0), some (.int 0), some (.int 0), some (.int 0), some (.int 0)]) f288_247 rfl rfl).trans ?_
        refine (r_iload f288_248 rfl).trans ?_
        refine (r_istore (L' := [some (.ref 72), some (.int x1), some (.int 0), some (.int 0), some (.int 0), some (.int 0), some (.int 0), some (.int 0)]) f288_250 rfl rfl).trans ?_
        refine (r_iinc (v := 1) (L' := [some (.ref 72), some (.int x1), some (.int 0), some (.int 0), some (.int 0), some (.int 1), some (.int 0), some (.int 0)]) f288_252 rfl rfl rfl).trans ?_
        refine (r_goto f288_255).trans ?_
        refine (r_iload f288_138 rfl).trans ?_
        refine (r_iconst (v := 1) f288_140 rfl).trans ?_
        refine (r_aloadn f288_141 rfl).trans ?_
        refine (r_get (v := .int 0) f288_142 (gs_eq q_170) rfl).trans ?_
        refine (r_ishl (v := 1) f288_145 (by decide)).trans ?_
        refine (r_icmp_ge_t f288_146 (by decide)).trans ?_
        refine (r_aloadn f288_258 rfl).trans ?_
        refine (r_iconst (v := 0) f288_259 rfl).trans ?_
        refine (r_put (h' := ((y170.1.set 72 (.inr (12, ((((zF72.set 38 (.int 0)).set 39 (.int 0)).set 79 (.int 0)).set 81 (.int 0))))), y170.2)) f288_260 (gs_eq q_170) rfl hss).trans ?_
        refine (r_iconst (v := 0) f288_263 rfl).trans ?_
        refine (r_istore (L' := [some (.ref 72), some (.int x1), some (.int 0), some (.int 0), some (.int 0), some (.int 0), some (.int 0), some (.int 0)]) f288_264 rfl rfl).trans ?_
        refine (r_iload f288_266 rfl).trans ?_
        refine (r_aloadn f288_268 rfl).trans ?_
        refine (r_get (v := .int 0) f288_269 (gs_eq q_170) rfl).trans ?_
        refine (r_icmp_ge_t f288_272 (by decide)).trans ?_
        refine (r_iload f288_319 rfl).trans ?_
        exact r_ireturn f288_321 rfl
      · exact Nat.le_trans (Nat.le_of_eq (gs_ls (l_170.trans (gs_ls l_169)))) (by decide)
      · show y170.2 ≤ 7302250
        have hz : zH0.2 ≤ 100000 := by decide
        dsimp only at *
        omega

-- ===== seasons: the model's faults =====
theorem d238_0 {n : Nat} {X : aX} {h : aH} {P : aH → Prop} {x1 x2 : Int32} {a1 a2 : Int} (S : wS h) (z1 : x1.toInt = a1) (z2 : x2.toInt = a2) (H : (∀ (w3 : Int32), w3.toInt = 0 → Pt n X zM238 2 [some (.ref 72), some (.int x1), some (.int x2), some (.int w3), none, none] [] h (qN P))) : Pt (n + 1) X zM238 0 [some (.ref 72), some (.int x1), some (.int x2), none, none, none] [] h (qN P) := by
  refine pt_iconst gx238_0 (fun v1 h1 => ?_)
  refine pt_d (pt_1 (fun n d => r_istoren (L' := [some (.ref 72), some (.int x1), some (.int x2), some (.int v1), none, none]) gx238_1 rfl rfl) ?_)
  exact H v1 h1
theorem d238_2 {n : Nat} {X : aX} {h : aH} {P : aH → Prop} {x1 x2 x3 : Int32} {a1 a2 a3 : Int} (S : wS h) (z1 : x1.toInt = a1) (z2 : x2.toInt = a2) (z3 : x3.toInt = a3) (H : ((576 ≤ a3 → (∀ (w3 : Int32) (u4_ : Option Value), w3.toInt = 0 → Pt n X zM238 24 [some (.ref 72), some (.int x1), some (.int x2), some (.int w3), u4_, none] [] h (qN P))) ∧ (a3 < 576 → (0 ≤ a3 → a3 < 576 → ∀ h_6 : aH, wS h_6 → vw h_6 = up (vw h) 110 a3 (bAnd 0 1) → (∀ (w3 : Int32), w3.toInt = w32 (a3 + 1) → Pt n X zM238 2 [some (.ref 72), some (.int x1), some (.int x2), some (.int w3), none, none] [] h_6 (qN P)))))) : Pt (n + 1) X zM238 2 [some (.ref 72), some (.int x1), some (.int x2), some (.int x3), none, none] [] h (qN P) := by
  refine pt_1 (fun n d => r_iloadn gx238_2 rfl) ?_
  refine pt_d (pt_sipush gx238_3 (fun v1 h1 => ?_))
  refine pt_d (pt_icmp_ge gx238_6 z3 h1 (fun e2 => ?_) (fun e2 => ?_))
  · have H := H.1 e2
    refine pt_d (pt_iconst gx238_22 (fun v3 h3 => ?_))
    refine pt_d (pt_1 (fun n d => r_istoren (L' := [some (.ref 72), some (.int x1), some (.int x2), some (.int v3), none, none]) gx238_23 rfl rfl) ?_)
    exact H v3 _ h3
  · have H := H.2 e2
    refine pt_d (pt_1 (fun n d => r_aloadn gx238_9 rfl) ?_)
    refine pt_d (pt_getR gx238_10 S tr_72_47 ?_)
    refine pt_d (pt_1 (fun n d => r_iloadn gx238_13 rfl) ?_)
    refine pt_d (pt_iconst gx238_14 (fun v5 h5 => ?_))
    refine pt_d (pt_zast (N' := 576) gx238_15 S tl_110 z3 h5 (fun h_6 S6 p6 q6 e6 => ?_))
    have H := H p6 q6
    refine pt_d (pt_iinc (c := 1) gx238_16 rfl z3 (fun v7 h7 => ?_))
    show Pt _ _ _ _ [some (.ref 72), some (.int x1), some (.int x2), some (.int v7), none, none] [] _ _
    refine pt_d (pt_1 (fun n d => r_goto gx238_19) ?_)
    have H := H h_6 S6 (by rw [e6])
    exact H v7 h7
theorem d238_24 {n : Nat} {X : aX} {h : aH} {P : aH → Prop} {x1 x2 x3 : Int32} {a1 a2 a3 : Int} {u4 : Option Value} (S : wS h) (z1 : x1.toInt = a1) (z2 : x2.toInt = a2) (z3 : x3.toInt = a3) (H : ((vw h 72 19 ≤ a3 → (∀ (w3 : Int32) (w4 : Int32) (w5 : Int32), w3.toInt = 0 → w4.toInt = 0 → w5.toInt = 0 → Pt n X zM238 151 [some (.ref 72), some (.int x1), some (.int x2), some (.int w3), some (.int w4), some (.int w5)] [] h (qN P))) ∧ (a3 < vw h 72 19 → (0 ≤ a3 → a3 < 300 → ((vw h 103 a3 = 0 → (∀ (w3 : Int32) (u4_ : Option Value), w3.toInt = w32 (a3 + 1) → Pt n X zM238 24 [some (.ref 72), some (.int x1), some (.int x2), some (.int w3), u4_, none] [] h (qN P))) ∧ (vw h 103 a3 ≠ 0 → ((iDiv ((vw h) 90 a3) 365 ≠ a2 → (∀ (w3 : Int32) (u4_ : Option Value), w3.toInt = w32 (a3 + 1) → Pt n X zM238 24 [some (.ref 72), some (.int x1), some (.int x2), some (.int w3), u4_, none] [] h (qN P))) ∧ (iDiv ((vw h) 90 a3) 365 = a2 → (0 ≤ a1 → a1 < 300 → ((vw h 87 a3 ≠ vw h 87 a1 → (∀ (w3 : Int32) (u4_ : Option Value), w3.toInt = w32 (a3 + 1) → Pt n X zM238 24 [some (.ref 72), some (.int x1), some (.int x2), some (.int w3), u4_, none] [] h (qN P))) ∧ (vw h 87 a3 = vw h 87 a1 → ((vw h 88 a3 < vw h 88 a1 → (∀ (w4 : Int32), w4.toInt = 0 → Pt n X zM238 86 [some (.ref 72), some (.int x1), some (.int x2), some (.int x3), some (.int w4), none] [] h (qN P))) ∧ (vw h 88 a1 ≤ vw h 88 a3 → (∀ (w3 : Int32) (u4_ : Option Value), w3.toInt = w32 (a3 + 1) → Pt n X zM238 24 [some (.ref 72), some (.int x1), some (.int x2), some (.int w3), u4_, none] [] h (qN P))))))))))))))) : Pt (n + 1) X zM238 24 [some (.ref 72), some (.int x1), some (.int x2), some (.int x3), u4, none] [] h (qN P) := by
  refine pt_1 (fun n d => r_iloadn gx238_24 rfl) ?_
  refine pt_d (pt_1 (fun n d => r_aloadn gx238_25 rfl) ?_)
  refine pt_d (pt_getI (B := 19) gx238_26 S (fun v1 h1 => ?_))
  refine pt_d (pt_icmp_ge gx238_29 z3 h1 (fun e2 => ?_) (fun e2 => ?_))
  · have H := H.1 e2
    refine pt_d (pt_iconst gx238_143 (fun v3 h3 => ?_))
    refine pt_d (pt_1 (fun n d => r_istoren (L' := [some (.ref 72), some (.int x1), some (.int x2), some (.int v3), u4, none]) gx238_144 rfl rfl) ?_)
    refine pt_d (pt_iconst gx238_145 (fun v4 h4 => ?_))
    refine pt_d (pt_1 (fun n d => r_istore (L' := [some (.ref 72), some (.int x1), some (.int x2), some (.int v3), some (.int v4), none]) gx238_146 rfl rfl) ?_)
    refine pt_d (pt_iconst gx238_148 (fun v5 h5 => ?_))
    refine pt_d (pt_1 (fun n d => r_istore (L' := [some (.ref 72), some (.int x1), some (.int x2), some (.int v3), some (.int v4), some (.int v5)]) gx238_149 rfl rfl) ?_)
    exact H v3 v4 v5 h3 h4 h5
  · have H := H.2 e2
    refine pt_d (pt_1 (fun n d => r_aloadn gx238_32 rfl) ?_)
    refine pt_d (pt_getR gx238_33 S tr_72_40 ?_)
    refine pt_d (pt_1 (fun n d => r_iloadn gx238_36 rfl) ?_)
    refine pt_d (pt_zald (N' := 300) gx238_37 S tl_103 z3 (fun v7 p7 q7 h7 => ?_))
    have H := H p7 q7
    refine pt_d (pt_if_eq gx238_38 h7 (fun e8 => ?_) (fun e8 => ?_))
    · have H := H.1 e8
      refine pt_d (pt_iinc (c := 1) gx238_137 rfl z3 (fun v9 h9 => ?_))
      show Pt _ _ _ _ [some (.ref 72), some (.int x1), some (.int x2), some (.int v9), u4, none] [] _ _
      refine pt_d (pt_1 (fun n d => r_goto gx238_140) ?_)
      exact H v9 _ h9
    · have H := H.2 e8
      refine pt_d (pt_1 (fun n d => r_aloadn gx238_41 rfl) ?_)
      refine pt_d (pt_1 (fun n d => r_iloadn gx238_42 rfl) ?_)
      refine pt_d (pt_virt (as := [.int x3]) (r := []) gx238_43 rfl (show zmt[229]? = some zM229 from rfl) rfl rfl rfl rfl (c_229 S z3) (kqP (fun v10 h10 => ?_)))
      show Pt _ _ _ 46 _ [.int v10] _ _
      refine pt_d (pt_1 (fun n d => r_iloadn gx238_46 rfl) ?_)
      refine pt_d (pt_icmp_ne gx238_47 h10 z2 (fun e11 => ?_) (fun e11 => ?_))
      · have H := H.1 e11
        refine pt_d (pt_iinc (c := 1) gx238_137 rfl z3 (fun v12 h12 => ?_))
        show Pt _ _ _ _ [some (.ref 72), some (.int x1), some (.int x2), some (.int v12), u4, none] [] _ _
        refine pt_d (pt_1 (fun n d => r_goto gx238_140) ?_)
        exact H v12 _ h12
      · have H := H.2 e11
        refine pt_d (pt_1 (fun n d => r_aloadn gx238_50 rfl) ?_)
        refine pt_d (pt_getR gx238_51 S tr_72_20 ?_)
        refine pt_d (pt_1 (fun n d => r_iloadn gx238_54 rfl) ?_)
        refine pt_d (pt_iald (N' := 300) gx238_55 S tl_87 z3 (fun v14 p14 q14 h14 => ?_))
        refine pt_d (pt_1 (fun n d => r_aloadn gx238_56 rfl) ?_)
        refine pt_d (pt_getR gx238_57 S tr_72_20 ?_)
        refine pt_d (pt_1 (fun n d => r_iloadn gx238_60 rfl) ?_)
        refine pt_d (pt_iald (N' := 300) gx238_61 S tl_87 z1 (fun v16 p16 q16 h16 => ?_))
        have H := H p16 q16
        refine pt_d (pt_icmp_ne gx238_62 h14 h16 (fun e17 => ?_) (fun e17 => ?_))
        · have H := H.1 e17
          refine pt_d (pt_iinc (c := 1) gx238_137 rfl z3 (fun v18 h18 => ?_))
          show Pt _ _ _ _ [some (.ref 72), some (.int x1), some (.int x2), some (.int v18), u4, none] [] _ _
          refine pt_d (pt_1 (fun n d => r_goto gx238_140) ?_)
          exact H v18 _ h18
        · have H := H.2 e17
          refine pt_d (pt_1 (fun n d => r_aloadn gx238_65 rfl) ?_)
          refine pt_d (pt_getR gx238_66 S tr_72_21 ?_)
          refine pt_d (pt_1 (fun n d => r_iloadn gx238_69 rfl) ?_)
          refine pt_d (pt_iald (N' := 300) gx238_70 S tl_88 z3 (fun v20 p20 q20 h20 => ?_))
          refine pt_d (pt_1 (fun n d => r_aloadn gx238_71 rfl) ?_)
          refine pt_d (pt_getR gx238_72 S tr_72_21 ?_)
          refine pt_d (pt_1 (fun n d => r_iloadn gx238_75 rfl) ?_)
          refine pt_d (pt_iald (N' := 300) gx238_76 S tl_88 z1 (fun v22 p22 q22 h22 => ?_))
          refine pt_d (pt_icmp_lt gx238_77 h20 h22 (fun e23 => ?_) (fun e23 => ?_))
          · have H := H.1 e23
            refine pt_d (pt_iconst gx238_83 (fun v24 h24 => ?_))
            refine pt_d (pt_1 (fun n d => r_istore (L' := [some (.ref 72), some (.int x1), some (.int x2), some (.int x3), some (.int v24), none]) gx238_84 rfl rfl) ?_)
            exact H v24 h24
          · have H := H.2 e23
            refine pt_d (pt_1 (fun n d => r_goto gx238_80) ?_)
            refine pt_d (pt_iinc (c := 1) gx238_137 rfl z3 (fun v25 h25 => ?_))
            show Pt _ _ _ _ [some (.ref 72), some (.int x1), some (.int x2), some (.int v25), u4, none] [] _ _
            refine pt_d (pt_1 (fun n d => r_goto gx238_140) ?_)
            exact H v25 _ h25
theorem d238_86 {n : Nat} {X : aX} {h : aH} {P : aH → Prop} {x1 x2 x3 x4 : Int32} {a1 a2 a3 a4 : Int} (S : wS h) (z1 : x1.toInt = a1) (z2 : x2.toInt = a2) (z3 : x3.toInt = a3) (z4 : x4.toInt = a4) (H : ((576 ≤ a4 → (∀ (w3 : Int32) (u4_ : Option Value), w3.toInt = w32 (a3 + 1) → Pt n X zM238 24 [some (.ref 72), some (.int x1), some (.int x2), some (.int w3), u4_, none] [] h (qN P))) ∧ (a4 < 576 → (0 ≤ a4 → a4 < 576 → ((vw h 110 a4 ≠ 0 → ∀ h_9 : aH, wS h_9 → vw h_9 = up (vw h) 110 a4 (bAnd 1 1) → (∀ (w4 : Int32), w4.toInt = w32 (a4 + 1) → Pt n X zM238 86 [some (.ref 72), some (.int x1), some (.int x2), some (.int x3), some (.int w4), none] [] h_9 (qN P))) ∧ (vw h 110 a4 = 0 → (0 ≤ a3 → a3 < 300 → ((¬ (isI (vw h) (vw h 88 a3) a4) → ∀ h_16 : aH, wS h_16 → vw h_16 = up (vw h) 110 a4 (bAnd 0 1) → (∀ (w4 : Int32), w4.toInt = w32 (a4 + 1) → Pt n X zM238 86 [some (.ref 72), some (.int x1), some (.int x2), some (.int x3), some (.int w4), none] [] h_16 (qN P))) ∧ ((isI (vw h) (vw h 88 a3) a4) → ∀ h_19 : aH, wS h_19 → vw h_19 = up (vw h) 110 a4 (bAnd 1 1) → (∀ (w4 : Int32), w4.toInt = w32 (a4 + 1) → Pt n X zM238 86 [some (.ref 72), some (.int x1), some (.int x2), some (.int x3), some (.int w4), none] [] h_19 (qN P))))))))))) : Pt (n + 1) X zM238 86 [some (.ref 72), some (.int x1), some (.int x2), some (.int x3), some (.int x4), none] [] h (qN P) := by
  refine pt_1 (fun n d => r_iload gx238_86 rfl) ?_
  refine pt_d (pt_sipush gx238_88 (fun v1 h1 => ?_))
  refine pt_d (pt_icmp_ge gx238_91 z4 h1 (fun e2 => ?_) (fun e2 => ?_))
  · have H := H.1 e2
    refine pt_d (pt_iinc (c := 1) gx238_137 rfl z3 (fun v3 h3 => ?_))
    show Pt _ _ _ _ [some (.ref 72), some (.int x1), some (.int x2), some (.int v3), some (.int x4), none] [] _ _
    refine pt_d (pt_1 (fun n d => r_goto gx238_140) ?_)
    exact H v3 _ h3
  · have H := H.2 e2
    refine pt_d (pt_1 (fun n d => r_aloadn gx238_94 rfl) ?_)
    refine pt_d (pt_getR gx238_95 S tr_72_47 ?_)
    refine pt_d (pt_1 (fun n d => r_iload gx238_98 rfl) ?_)
    refine pt_d (pt_1 (fun n d => r_aloadn gx238_100 rfl) ?_)
    refine pt_d (pt_getR gx238_101 S tr_72_47 ?_)
    refine pt_d (pt_1 (fun n d => r_iload gx238_104 rfl) ?_)
    refine pt_d (pt_zald (N' := 576) gx238_106 S tl_110 z4 (fun v6 p6 q6 h6 => ?_))
    have H := H p6 q6
    refine pt_d (pt_if_ne gx238_107 h6 (fun e7 => ?_) (fun e7 => ?_))
    · have H := H.1 e7
      refine pt_d (pt_iconst gx238_125 (fun v8 h8 => ?_))
      refine pt_d (pt_1 (fun n d => r_goto gx238_126) ?_)
      refine pt_d (pt_zast (N' := 576) gx238_130 S tl_110 z4 h8 (fun h_9 S9 p9 q9 e9 => ?_))
      refine pt_d (pt_iinc (c := 1) gx238_131 rfl z4 (fun v10 h10 => ?_))
      show Pt _ _ _ _ [some (.ref 72), some (.int x1), some (.int x2), some (.int x3), some (.int v10), none] [] _ _
      refine pt_d (pt_1 (fun n d => r_goto gx238_134) ?_)
      have H := H h_9 S9 (by rw [e9])
      exact H v10 h10
    · have H := H.2 e7
      refine pt_d (pt_1 (fun n d => r_aloadn gx238_110 rfl) ?_)
      refine pt_d (pt_1 (fun n d => r_aloadn gx238_111 rfl) ?_)
      refine pt_d (pt_getR gx238_112 S tr_72_21 ?_)
      refine pt_d (pt_1 (fun n d => r_iloadn gx238_115 rfl) ?_)
      refine pt_d (pt_iald (N' := 300) gx238_116 S tl_88 z3 (fun v12 p12 q12 h12 => ?_))
      have H := H p12 q12
      refine pt_d (pt_1 (fun n d => r_iload gx238_117 rfl) ?_)
      refine pt_d (pt_virt (as := [.int v12, .int x4]) (r := [.int x4, .ref 110]) gx238_119 rfl (show zmt[235]? = some zM235 from rfl) rfl rfl rfl rfl (c_235 S h12 z4) (kqP (fun v13 h13 => ?_)))
      show Pt _ _ _ 122 _ [.int v13, .int x4, .ref 110] _ _
      refine pt_d (pt_ifB_eq gx238_122 h13 (fun e14 => ?_) (fun e14 => ?_))
      · have H := H.1 e14
        refine pt_d (pt_iconst gx238_129 (fun v15 h15 => ?_))
        refine pt_d (pt_zast (N' := 576) gx238_130 S tl_110 z4 h15 (fun h_16 S16 p16 q16 e16 => ?_))
        refine pt_d (pt_iinc (c := 1) gx238_131 rfl z4 (fun v17 h17 => ?_))
        show Pt _ _ _ _ [some (.ref 72), some (.int x1), some (.int x2), some (.int x3), some (.int v17), none] [] _ _
        refine pt_d (pt_1 (fun n d => r_goto gx238_134) ?_)
        have H := H h_16 S16 (by rw [e16])
        exact H v17 h17
      · have H := H.2 e14
        refine pt_d (pt_iconst gx238_125 (fun v18 h18 => ?_))
        refine pt_d (pt_1 (fun n d => r_goto gx238_126) ?_)
        refine pt_d (pt_zast (N' := 576) gx238_130 S tl_110 z4 h18 (fun h_19 S19 p19 q19 e19 => ?_))
        refine pt_d (pt_iinc (c := 1) gx238_131 rfl z4 (fun v20 h20 => ?_))
        show Pt _ _ _ _ [some (.ref 72), some (.int x1), some (.int x2), some (.int x3), some (.int v20), none] [] _ _
        refine pt_d (pt_1 (fun n d => r_goto gx238_134) ?_)
        have H := H h_19 S19 (by rw [e19])
        exact H v20 h20
theorem d238_151 {n : Nat} {X : aX} {h : aH} {P : aH → Prop} {x1 x2 x3 x4 x5 : Int32} {a1 a2 a3 a4 a5 : Int} (S : wS h) (z1 : x1.toInt = a1) (z2 : x2.toInt = a2) (z3 : x3.toInt = a3) (z4 : x4.toInt = a4) (z5 : x5.toInt = a5) (H : ((576 ≤ a5 → (0 ≤ a1 → a1 < 300 → ∀ h_6 : aH, wS h_6 → vw h_6 = up (up (vw h) 104 a1 a3) 106 a1 a4 → P h_6)) ∧ (a5 < 576 → (0 ≤ a1 → a1 < 300 → (((isI (vw h) (vw h 88 a1) a5) → (0 ≤ a5 → a5 < 576 → ((vw h 108 a5 = 0 → ((vw h 108 a5 ≠ 0 → (∀ (w3 : Int32) (w4 : Int32) (w5 : Int32), w3.toInt = w32 (a3 + 0) → w4.toInt = w32 (a4 + 0) → w5.toInt = w32 (a5 + 1) → Pt n X zM238 151 [some (.ref 72), some (.int x1), some (.int x2), some (.int w3), some (.int w4), some (.int w5)] [] h (qN P))) ∧ (vw h 108 a5 = 0 → ((vw h 109 a5 ≠ 0 → (∀ (w3 : Int32) (w4 : Int32) (w5 : Int32), w3.toInt = w32 (a3 + 0) → w4.toInt = w32 (a4 + 0) → w5.toInt = w32 (a5 + 1) → Pt n X zM238 151 [some (.ref 72), some (.int x1), some (.int x2), some (.int w3), some (.int w4), some (.int w5)] [] h (qN P))) ∧ (vw h 109 a5 = 0 → ((vw h 110 a5 = 0 → (∀ (w3 : Int32) (w4 : Int32) (w5 : Int32), w3.toInt = w32 (a3 + 1) → w4.toInt = w32 (a4 + 0) → w5.toInt = w32 (a5 + 1) → Pt n X zM238 151 [some (.ref 72), some (.int x1), some (.int x2), some (.int w3), some (.int w4), some (.int w5)] [] h (qN P))) ∧ (vw h 110 a5 ≠ 0 → (∀ (w3 : Int32) (w4 : Int32) (w5 : Int32), w3.toInt = w32 (a3 + 0) → w4.toInt = w32 (a4 + 0) → w5.toInt = w32 (a5 + 1) → Pt n X zM238 151 [some (.ref 72), some (.int x1), some (.int x2), some (.int w3), some (.int w4), some (.int w5)] [] h (qN P))))))))) ∧ (vw h 108 a5 ≠ 0 → ((vw h 108 a5 ≠ 0 → (∀ (w3 : Int32) (w4 : Int32) (w5 : Int32), w3.toInt = w32 (a3 + 0) → w4.toInt = w32 (a4 + 1) → w5.toInt = w32 (a5 + 1) → Pt n X zM238 151 [some (.ref 72), some (.int x1), some (.int x2), some (.int w3), some (.int w4), some (.int w5)] [] h (qN P))) ∧ (vw h 108 a5 = 0 → ((vw h 109 a5 ≠ 0 → (∀ (w3 : Int32) (w4 : Int32) (w5 : Int32), w3.toInt = w32 (a3 + 0) → w4.toInt = w32 (a4 + 1) → w5.toInt = w32 (a5 + 1) → Pt n X zM238 151 [some (.ref 72), some (.int x1), some (.int x2), some (.int w3), some (.int w4), some (.int w5)] [] h (qN P))) ∧ (vw h 109 a5 = 0 → ((vw h 110 a5 = 0 → (∀ (w3 : Int32) (w4 : Int32) (w5 : Int32), w3.toInt = w32 (a3 + 1) → w4.toInt = w32 (a4 + 1) → w5.toInt = w32 (a5 + 1) → Pt n X zM238 151 [some (.ref 72), some (.int x1), some (.int x2), some (.int w3), some (.int w4), some (.int w5)] [] h (qN P))) ∧ (vw h 110 a5 ≠ 0 → (∀ (w3 : Int32) (w4 : Int32) (w5 : Int32), w3.toInt = w32 (a3 + 0) → w4.toInt = w32 (a4 + 1) → w5.toInt = w32 (a5 + 1) → Pt n X zM238 151 [some (.ref 72), some (.int x1), some (.int x2), some (.int w3), some (.int w4), some (.int w5)] [] h (qN P)))))))))))) ∧ (¬ (isI (vw h) (vw h 88 a1) a5) → (∀ (w5 : Int32), w5.toInt = w32 (a5 + 1) → Pt n X zM238 151 [some (.ref 72), some (.int x1), some (.int x2), some (.int x3), some (.int x4), some (.int w5)] [] h (qN P)))))))) : Pt (n + 1) X zM238 151 [some (.ref 72), some (.int x1), some (.int x2), some (.int x3), some (.int x4), some (.int x5)] [] h (qN P) := by
  refine pt_1 (fun n d => r_iload gx238_151 rfl) ?_
  refine pt_d (pt_sipush gx238_153 (fun v1 h1 => ?_))
  refine pt_d (pt_icmp_ge gx238_156 z5 h1 (fun e2 => ?_) (fun e2 => ?_))
  · have H := H.1 e2
    refine pt_d (pt_1 (fun n d => r_aloadn gx238_241 rfl) ?_)
    refine pt_d (pt_getR gx238_242 S tr_72_41 ?_)
    refine pt_d (pt_1 (fun n d => r_iloadn gx238_245 rfl) ?_)
    refine pt_d (pt_1 (fun n d => r_iloadn gx238_246 rfl) ?_)
    refine pt_d (pt_iast (N' := 300) gx238_247 S tl_104 z1 z3 (fun h_4 S4 p4 q4 e4 => ?_))
    have H := H p4 q4
    refine pt_d (pt_1 (fun n d => r_aloadn gx238_248 rfl) ?_)
    refine pt_d (pt_getR gx238_249 S4 tr_72_43 ?_)
    refine pt_d (pt_1 (fun n d => r_iloadn gx238_252 rfl) ?_)
    refine pt_d (pt_1 (fun n d => r_iload gx238_253 rfl) ?_)
    refine pt_d (pt_iast (N' := 300) gx238_255 S4 tl_106 z1 z4 (fun h_6 S6 p6 q6 e6 => ?_))
    have H := H h_6 S6 (by rw [e6, e4])
    exact pt_d (pt_vret gx238_256 ⟨rfl, H⟩)
  · have H := H.2 e2
    refine pt_d (pt_1 (fun n d => r_aloadn gx238_159 rfl) ?_)
    refine pt_d (pt_1 (fun n d => r_aloadn gx238_160 rfl) ?_)
    refine pt_d (pt_getR gx238_161 S tr_72_21 ?_)
    refine pt_d (pt_1 (fun n d => r_iloadn gx238_164 rfl) ?_)
    refine pt_d (pt_iald (N' := 300) gx238_165 S tl_88 z1 (fun v8 p8 q8 h8 => ?_))
    have H := H p8 q8
    refine pt_d (pt_1 (fun n d => r_iload gx238_166 rfl) ?_)
    refine pt_d (pt_virt (as := [.int v8, .int x5]) (r := []) gx238_168 rfl (show zmt[235]? = some zM235 from rfl) rfl rfl rfl rfl (c_235 S h8 z5) (kqP (fun v9 h9 => ?_)))
    show Pt _ _ _ 171 _ [.int v9] _ _
    refine pt_d (pt_ifB_ne gx238_171 h9 (fun e10 => ?_) (fun e10 => ?_))
    · have H := H.1 e10
      refine pt_d (pt_1 (fun n d => r_iload gx238_177 rfl) ?_)
      refine pt_d (pt_1 (fun n d => r_aloadn gx238_179 rfl) ?_)
      refine pt_d (pt_getR gx238_180 S tr_72_45 ?_)
      refine pt_d (pt_1 (fun n d => r_iload gx238_183 rfl) ?_)
      refine pt_d (pt_zald (N' := 576) gx238_185 S tl_108 z5 (fun v12 p12 q12 h12 => ?_))
      have H := H p12 q12
      refine pt_d (pt_if_eq gx238_186 h12 (fun e13 => ?_) (fun e13 => ?_))
      · have H := H.1 e13
        refine pt_d (pt_iconst gx238_193 (fun v14 h14 => ?_))
        refine pt_d (pt_iadd gx238_194 z4 h14 (fun v15 h15 => ?_))
        refine pt_d (pt_1 (fun n d => r_istore (L' := [some (.ref 72), some (.int x1), some (.int x2), some (.int x3), some (.int v15), some (.int x5)]) gx238_195 rfl rfl) ?_)
        refine pt_d (pt_1 (fun n d => r_iloadn gx238_197 rfl) ?_)
        refine pt_d (pt_1 (fun n d => r_aloadn gx238_198 rfl) ?_)
        refine pt_d (pt_getR gx238_199 S tr_72_45 ?_)
        refine pt_d (pt_1 (fun n d => r_iload gx238_202 rfl) ?_)
        refine pt_d (pt_zald (N' := 576) gx238_204 S tl_108 z5 (fun v17 p17 q17 h17 => ?_))
        refine pt_d (pt_if_ne gx238_205 h17 (fun e18 => ?_) (fun e18 => ?_))
        · have H := H.1 e18
          refine pt_d (pt_iconst gx238_228 (fun v19 h19 => ?_))
          refine pt_d (pt_1 (fun n d => r_goto gx238_229) ?_)
          refine pt_d (pt_iadd gx238_233 z3 h19 (fun v20 h20 => ?_))
          refine pt_d (pt_1 (fun n d => r_istoren (L' := [some (.ref 72), some (.int x1), some (.int x2), some (.int v20), some (.int v15), some (.int x5)]) gx238_234 rfl rfl) ?_)
          refine pt_d (pt_iinc (c := 1) gx238_235 rfl z5 (fun v21 h21 => ?_))
          show Pt _ _ _ _ [some (.ref 72), some (.int x1), some (.int x2), some (.int v20), some (.int v15), some (.int v21)] [] _ _
          refine pt_d (pt_1 (fun n d => r_goto gx238_238) ?_)
          exact H v20 v15 v21 h20 h15 h21
        · have H := H.2 e18
          refine pt_d (pt_1 (fun n d => r_aloadn gx238_208 rfl) ?_)
          refine pt_d (pt_getR gx238_209 S tr_72_46 ?_)
          refine pt_d (pt_1 (fun n d => r_iload gx238_212 rfl) ?_)
          refine pt_d (pt_zald (N' := 576) gx238_214 S tl_109 z5 (fun v23 p23 q23 h23 => ?_))
          refine pt_d (pt_if_ne gx238_215 h23 (fun e24 => ?_) (fun e24 => ?_))
          · have H := H.1 e24
            refine pt_d (pt_iconst gx238_228 (fun v25 h25 => ?_))
            refine pt_d (pt_1 (fun n d => r_goto gx238_229) ?_)
            refine pt_d (pt_iadd gx238_233 z3 h25 (fun v26 h26 => ?_))
            refine pt_d (pt_1 (fun n d => r_istoren (L' := [some (.ref 72), some (.int x1), some (.int x2), some (.int v26), some (.int v15), some (.int x5)]) gx238_234 rfl rfl) ?_)
            refine pt_d (pt_iinc (c := 1) gx238_235 rfl z5 (fun v27 h27 => ?_))
            show Pt _ _ _ _ [some (.ref 72), some (.int x1), some (.int x2), some (.int v26), some (.int v15), some (.int v27)] [] _ _
            refine pt_d (pt_1 (fun n d => r_goto gx238_238) ?_)
            exact H v26 v15 v27 h26 h15 h27
          · have H := H.2 e24
            refine pt_d (pt_1 (fun n d => r_aloadn gx238_218 rfl) ?_)
            refine pt_d (pt_getR gx238_219 S tr_72_47 ?_)
            refine pt_d (pt_1 (fun n d => r_iload gx238_222 rfl) ?_)
            refine pt_d (pt_zald (N' := 576) gx238_224 S tl_110 z5 (fun v29 p29 q29 h29 => ?_))
            refine pt_d (pt_if_eq gx238_225 h29 (fun e30 => ?_) (fun e30 => ?_))
            · have H := H.1 e30
              refine pt_d (pt_iconst gx238_232 (fun v31 h31 => ?_))
              refine pt_d (pt_iadd gx238_233 z3 h31 (fun v32 h32 => ?_))
              refine pt_d (pt_1 (fun n d => r_istoren (L' := [some (.ref 72), some (.int x1), some (.int x2), some (.int v32), some (.int v15), some (.int x5)]) gx238_234 rfl rfl) ?_)
              refine pt_d (pt_iinc (c := 1) gx238_235 rfl z5 (fun v33 h33 => ?_))
              show Pt _ _ _ _ [some (.ref 72), some (.int x1), some (.int x2), some (.int v32), some (.int v15), some (.int v33)] [] _ _
              refine pt_d (pt_1 (fun n d => r_goto gx238_238) ?_)
              exact H v32 v15 v33 h32 h15 h33
            · have H := H.2 e30
              refine pt_d (pt_iconst gx238_228 (fun v34 h34 => ?_))
              refine pt_d (pt_1 (fun n d => r_goto gx238_229) ?_)
              refine pt_d (pt_iadd gx238_233 z3 h34 (fun v35 h35 => ?_))
              refine pt_d (pt_1 (fun n d => r_istoren (L' := [some (.ref 72), some (.int x1), some (.int x2), some (.int v35), some (.int v15), some (.int x5)]) gx238_234 rfl rfl) ?_)
              refine pt_d (pt_iinc (c := 1) gx238_235 rfl z5 (fun v36 h36 => ?_))
              show Pt _ _ _ _ [some (.ref 72), some (.int x1), some (.int x2), some (.int v35), some (.int v15), some (.int v36)] [] _ _
              refine pt_d (pt_1 (fun n d => r_goto gx238_238) ?_)
              exact H v35 v15 v36 h35 h15 h36
      · have H := H.2 e13
        refine pt_d (pt_iconst gx238_189 (fun v37 h37 => ?_))
        refine pt_d (pt_1 (fun n d => r_goto gx238_190) ?_)
        refine pt_d (pt_iadd gx238_194 z4 h37 (fun v38 h38 => ?_))
        refine pt_d (pt_1 (fun n d => r_istore (L' := [some (.ref 72), some (.int x1), some (.int x2), some (.int x3), some (.int v38), some (.int x5)]) gx238_195 rfl rfl) ?_)
        refine pt_d (pt_1 (fun n d => r_iloadn gx238_197 rfl) ?_)
        refine pt_d (pt_1 (fun n d => r_aloadn gx238_198 rfl) ?_)
        refine pt_d (pt_getR gx238_199 S tr_72_45 ?_)
        refine pt_d (pt_1 (fun n d => r_iload gx238_202 rfl) ?_)
        refine pt_d (pt_zald (N' := 576) gx238_204 S tl_108 z5 (fun v40 p40 q40 h40 => ?_))
        refine pt_d (pt_if_ne gx238_205 h40 (fun e41 => ?_) (fun e41 => ?_))
        · have H := H.1 e41
          refine pt_d (pt_iconst gx238_228 (fun v42 h42 => ?_))
          refine pt_d (pt_1 (fun n d => r_goto gx238_229) ?_)
          refine pt_d (pt_iadd gx238_233 z3 h42 (fun v43 h43 => ?_))
          refine pt_d (pt_1 (fun n d => r_istoren (L' := [some (.ref 72), some (.int x1), some (.int x2), some (.int v43), some (.int v38), some (.int x5)]) gx238_234 rfl rfl) ?_)
          refine pt_d (pt_iinc (c := 1) gx238_235 rfl z5 (fun v44 h44 => ?_))
          show Pt _ _ _ _ [some (.ref 72), some (.int x1), some (.int x2), some (.int v43), some (.int v38), some (.int v44)] [] _ _
          refine pt_d (pt_1 (fun n d => r_goto gx238_238) ?_)
          exact H v43 v38 v44 h43 h38 h44
        · have H := H.2 e41
          refine pt_d (pt_1 (fun n d => r_aloadn gx238_208 rfl) ?_)
          refine pt_d (pt_getR gx238_209 S tr_72_46 ?_)
          refine pt_d (pt_1 (fun n d => r_iload gx238_212 rfl) ?_)
          refine pt_d (pt_zald (N' := 576) gx238_214 S tl_109 z5 (fun v46 p46 q46 h46 => ?_))
          refine pt_d (pt_if_ne gx238_215 h46 (fun e47 => ?_) (fun e47 => ?_))
          · have H := H.1 e47
            refine pt_d (pt_iconst gx238_228 (fun v48 h48 => ?_))
            refine pt_d (pt_1 (fun n d => r_goto gx238_229) ?_)
            refine pt_d (pt_iadd gx238_233 z3 h48 (fun v49 h49 => ?_))
            refine pt_d (pt_1 (fun n d => r_istoren (L' := [some (.ref 72), some (.int x1), some (.int x2), some (.int v49), some (.int v38), some (.int x5)]) gx238_234 rfl rfl) ?_)
            refine pt_d (pt_iinc (c := 1) gx238_235 rfl z5 (fun v50 h50 => ?_))
            show Pt _ _ _ _ [some (.ref 72), some (.int x1), some (.int x2), some (.int v49), some (.int v38), some (.int v50)] [] _ _
            refine pt_d (pt_1 (fun n d => r_goto gx238_238) ?_)
            exact H v49 v38 v50 h49 h38 h50
          · have H := H.2 e47
            refine pt_d (pt_1 (fun n d => r_aloadn gx238_218 rfl) ?_)
            refine pt_d (pt_getR gx238_219 S tr_72_47 ?_)
            refine pt_d (pt_1 (fun n d => r_iload gx238_222 rfl) ?_)
            refine pt_d (pt_zald (N' := 576) gx238_224 S tl_110 z5 (fun v52 p52 q52 h52 => ?_))
            refine pt_d (pt_if_eq gx238_225 h52 (fun e53 => ?_) (fun e53 => ?_))
            · have H := H.1 e53
              refine pt_d (pt_iconst gx238_232 (fun v54 h54 => ?_))
              refine pt_d (pt_iadd gx238_233 z3 h54 (fun v55 h55 => ?_))
              refine pt_d (pt_1 (fun n d => r_istoren (L' := [some (.ref 72), some (.int x1), some (.int x2), some (.int v55), some (.int v38), some (.int x5)]) gx238_234 rfl rfl) ?_)
              refine pt_d (pt_iinc (c := 1) gx238_235 rfl z5 (fun v56 h56 => ?_))
              show Pt _ _ _ _ [some (.ref 72), some (.int x1), some (.int x2), some (.int v55), some (.int v38), some (.int v56)] [] _ _
              refine pt_d (pt_1 (fun n d => r_goto gx238_238) ?_)
              exact H v55 v38 v56 h55 h38 h56
            · have H := H.2 e53
              refine pt_d (pt_iconst gx238_228 (fun v57 h57 => ?_))
              refine pt_d (pt_1 (fun n d => r_goto gx238_229) ?_)
              refine pt_d (pt_iadd gx238_233 z3 h57 (fun v58 h58 => ?_))
              refine pt_d (pt_1 (fun n d => r_istoren (L' := [some (.ref 72), some (.int x1), some (.int x2), some (.int v58), some (.int v38), some (.int x5)]) gx238_234 rfl rfl) ?_)
              refine pt_d (pt_iinc (c := 1) gx238_235 rfl z5 (fun v59 h59 => ?_))
              show Pt _ _ _ _ [some (.ref 72), some (.int x1), some (.int x2), some (.int v58), some (.int v38), some (.int v59)] [] _ _
              refine pt_d (pt_1 (fun n d => r_goto gx238_238) ?_)
              exact H v58 v38 v59 h58 h38 h59
    · have H := H.2 e10
      refine pt_d (pt_1 (fun n d => r_goto gx238_174) ?_)
      refine pt_d (pt_iinc (c := 1) gx238_235 rfl z5 (fun v60 h60 => ?_))
      show Pt _ _ _ _ [some (.ref 72), some (.int x1), some (.int x2), some (.int x3), some (.int x4), some (.int v60)] [] _ _
      refine pt_d (pt_1 (fun n d => r_goto gx238_238) ?_)
      exact H v60 h60
def tkM (V : vS) (yr c o : Int) : Prop := LvM V yr o ∧ V 87 o = V 87 c ∧ V 88 o < V 88 c
def agT (V W : vS) : Prop := ∀ (c : Nat) j, c ≠ 110 → W c j = V c j
def tP (V W : vS) (yr c o q : Int) : Prop := (W 110 q = 0 ∨ W 110 q = 1) ∧ (W 110 q ≠ 0 ↔ ∃ o', (0 ≤ o' ∧ o' < o) ∧ tkM V yr c o' ∧ InM V o' q)
theorem tP_skip {V W : vS} {yr c o q : Int} (T : tP V W yr c o q) (h : ¬ (tkM V yr c o ∧ InM V o q)) : tP V W yr c (o + 1) q := by
  refine ⟨T.1, T.2.trans ⟨fun ⟨o', a, b⟩ => ⟨o', ⟨a.1, by omega⟩, b⟩, fun ⟨o', a, b⟩ => ?_⟩⟩
  by_cases z : o' = o
  · rw [z] at b
    exact absurd b h
  · exact ⟨o', ⟨a.1, by omega⟩, b⟩
theorem tP_set {V W' : vS} {yr c o q : Int} (o0 : 0 ≤ o) (h : tkM V yr c o ∧ InM V o q) (e : W' 110 q = 1) : tP V W' yr c (o + 1) q := ⟨Or.inr e, ⟨fun _ => ⟨o, ⟨o0, by omega⟩, h⟩, fun _ => by rw [e]; decide⟩⟩
theorem tP_keep {V W W' : vS} {yr c o q : Int} (T : tP V W yr c o q) (n : W 110 q ≠ 0) (e : W' 110 q = 1) : tP V W' yr c (o + 1) q := by
  refine ⟨Or.inr e, ⟨fun _ => ?_, fun _ => by rw [e]; decide⟩⟩
  obtain ⟨o', a, b⟩ := T.2.mp n
  exact ⟨o', ⟨a.1, by omega⟩, b⟩
theorem tP_c {V W W' : vS} {yr c o q : Int} (T : tP V W yr c o q) (e : W' 110 q = W 110 q) : tP V W' yr c o q := by
  unfold tP
  rw [e]
  exact T
noncomputable def nQ (P : Int → Prop) : Nat → Int
  | 0 => 0
  | q + 1 => nQ P q + (if prB (P (q : Nat)) then 1 else 0)
theorem nQ_t {P : Int → Prop} {q : Nat} (h : P (q : Nat)) : nQ P (q + 1) = nQ P q + 1 := by
  have e : nQ P (q + 1) = nQ P q + (if prB (P (q : Nat)) then 1 else 0) := rfl
  rw [e, if_pos (prB_t.mpr h)]
theorem nQ_f {P : Int → Prop} {q : Nat} (h : ¬ P (q : Nat)) : nQ P (q + 1) = nQ P q + 0 := by
  have e : nQ P (q + 1) = nQ P q + (if prB (P (q : Nat)) then 1 else 0) := rfl
  rw [e, if_neg (fun z => h (prB_t.mp z))]
theorem nQ_b (P : Int → Prop) : ∀ q : Nat, 0 ≤ nQ P q ∧ nQ P q ≤ (q : Int)
  | 0 => ⟨Int.le_refl _, Int.le_refl _⟩
  | q + 1 => by
    have := nQ_b P q
    by_cases z : P (q : Nat)
    · rw [nQ_t z]; omega
    · rw [nQ_f z]; omega
theorem nQ_c {P P' : Int → Prop} : ∀ q : Nat, (∀ j : Int, 0 ≤ j → j < (q : Int) → (P j ↔ P' j)) → nQ P q = nQ P' q
  | 0, _ => rfl
  | q + 1, h => by
    have ih := nQ_c q (fun j a b => h j a (by omega))
    have e := h (q : Nat) (by omega) (by omega)
    by_cases z : P (q : Nat)
    · rw [nQ_t z, nQ_t (e.mp z), ih]
    · rw [nQ_f z, nQ_f (fun w => z (e.mpr w)), ih]
def gdM (V : vS) (yr c q : Int) : Prop := InM V c q ∧ V 108 q = 0 ∧ V 109 q = 0 ∧ ¬ ∃ o, (0 ≤ o ∧ o < V 72 19) ∧ tkM V yr c o ∧ InM V o q
def bdM (V : vS) (c q : Int) : Prop := InM V c q ∧ V 108 q ≠ 0
def R238 (V : vS) (c yr : Int) (V' : vS) : Prop := ∀ (c' : Nat) j, c' ≠ 110 → V' c' j = up (up V 104 c (nQ (gdM V yr c) 576)) 106 c (nQ (bdM V c) 576) c' j
theorem l_238c {X : aX} {V : vS} {yr c : Int} {h : aH} (S : wS h) (hc : 0 ≤ c ∧ c < 300) (A : agT V (vw h)) (T : ∀ q, 0 ≤ q → q < 576 → tP V (vw h) yr c (V 72 19) q) : ∀ (n : Nat) (x1 x2 x3 x4 x5 : Int32) (q : Nat), x1.toInt = c → x2.toInt = yr → x3.toInt = nQ (gdM V yr c) q → x4.toInt = nQ (bdM V c) q → x5.toInt = (q : Int) → q ≤ 576 → Pt n X zM238 151 [some (.ref 72), some (.int x1), some (.int x2), some (.int x3), some (.int x4), some (.int x5)] [] h (qN (fun h' => wS h' ∧ R238 V c yr (vw h'))) := by
  intro n
  induction n with
  | zero => exact fun _ _ _ _ _ _ _ _ _ _ _ _ => pt_z
  | succ n ih =>
    intro x1 x2 x3 x4 x5 q h1 h2 h3 h4 h5 hq
    have b1 := nQ_b (gdM V yr c) q
    have b2 := nQ_b (bdM V c) q
    have e88 : vw h 88 c = V 88 c := A 88 c (by decide)
    have ei : isI (vw h) (vw h 88 c) (q : Int) ↔ InM V c (q : Int) := by
      rw [e88]
      exact isI_c (fun j => A 80 j (by decide)) _ _
    have e8 : vw h 108 (q : Int) = V 108 (q : Int) := A 108 _ (by decide)
    have e9 : vw h 109 (q : Int) = V 109 (q : Int) := A 109 _ (by decide)
    have go : ∀ (w3 w4 w5 : Int32) (d e : Int), q < 576 → w3.toInt = w32 (nQ (gdM V yr c) q + d) → w4.toInt = w32 (nQ (bdM V c) q + e) → w5.toInt = w32 ((q : Int) + 1) → (d = 1 ∧ gdM V yr c (q : Nat) ∨ d = 0 ∧ ¬ gdM V yr c (q : Nat)) → (e = 1 ∧ bdM V c (q : Nat) ∨ e = 0 ∧ ¬ bdM V c (q : Nat)) → Pt n X zM238 151 [some (.ref 72), some (.int x1), some (.int x2), some (.int w3), some (.int w4), some (.int w5)] [] h (qN (fun h' => wS h' ∧ R238 V c yr (vw h'))) := by
      intro w3 w4 w5 d e lt g3 g4 g5 pd pe
      have f3 : w3.toInt = nQ (gdM V yr c) (q + 1) := by
        rw [g3]
        rcases pd with ⟨rfl, z⟩ | ⟨rfl, z⟩
        · rw [nQ_t z, w32_id (by omega) (by omega)]
        · rw [nQ_f z, w32_id (by omega) (by omega)]
      have f4 : w4.toInt = nQ (bdM V c) (q + 1) := by
        rw [g4]
        rcases pe with ⟨rfl, z⟩ | ⟨rfl, z⟩
        · rw [nQ_t z, w32_id (by omega) (by omega)]
        · rw [nQ_f z, w32_id (by omega) (by omega)]
      clear g3 g4
      replace g5 := w_1 g5 (by omega) (by omega)
      exact ih x1 x2 w3 w4 w5 (q + 1) h1 h2 f3 f4 (by omega) (by omega)
    have nb : V 108 (q : Int) = 0 → ¬ bdM V c (q : Nat) := fun z w => w.2 z
    refine d238_151 S h1 h2 h3 h4 h5 ⟨fun e _ _ g S2 eg => ⟨S2, fun c' j n110 => ?_⟩, fun e _ _ => ⟨fun ii _ _ => ⟨fun f8 => ⟨fun w => absurd f8 w, fun _ => ⟨fun f9 w3 w4 w5 g3 g4 g5 => go w3 w4 w5 0 0 (by omega) g3 g4 g5 (Or.inr ⟨rfl, fun z => f9 (e9.trans z.2.2.1)⟩) (Or.inr ⟨rfl, nb (e8.symm.trans f8)⟩), fun f9 => ⟨fun f10 w3 w4 w5 g3 g4 g5 => go w3 w4 w5 1 0 (by omega) g3 g4 g5 (Or.inl ⟨rfl, ei.mp ii, e8.symm.trans f8, e9.symm.trans f9, fun z => (T (q : Int) (by omega) (by omega)).2.mpr z f10⟩) (Or.inr ⟨rfl, nb (e8.symm.trans f8)⟩), fun f10 w3 w4 w5 g3 g4 g5 => go w3 w4 w5 0 0 (by omega) g3 g4 g5 (Or.inr ⟨rfl, fun z => z.2.2.2 ((T (q : Int) (by omega) (by omega)).2.mp f10)⟩) (Or.inr ⟨rfl, nb (e8.symm.trans f8)⟩)⟩⟩⟩, fun f8 => ⟨fun _ w3 w4 w5 g3 g4 g5 => go w3 w4 w5 0 1 (by omega) g3 g4 g5 (Or.inr ⟨rfl, fun z => f8 (e8.trans z.2.1)⟩) (Or.inl ⟨rfl, ei.mp ii, by rw [← e8]; exact f8⟩), fun z => absurd z f8⟩⟩, fun ni w5 g5 => ?_⟩⟩
    · have eq : q = 576 := by omega
      subst eq
      rw [eg]
      unfold up
      rw [A c' j n110]
    · refine go x3 x4 w5 0 0 (by omega) (by rw [h3, w32_id (by omega) (by omega)]; omega) (by rw [h4, w32_id (by omega) (by omega)]; omega) g5 (Or.inr ⟨rfl, fun z => ni (ei.mpr z.1)⟩) (Or.inr ⟨rfl, fun z => ni (ei.mpr z.1)⟩)
theorem l_238 {X : aX} {V : vS} {yr c : Int} (hN : 0 ≤ V 72 19 ∧ V 72 19 ≤ 300) (hc : 0 ≤ c ∧ c < 300) : ∀ n : Nat, (∀ (h : aH) (x1 x2 x3 : Int32) (u4 : Option Value) (o : Int), wS h → x1.toInt = c → x2.toInt = yr → x3.toInt = o → 0 ≤ o → o ≤ V 72 19 → agT V (vw h) → (∀ q, 0 ≤ q → q < 576 → tP V (vw h) yr c o q) → Pt n X zM238 24 [some (.ref 72), some (.int x1), some (.int x2), some (.int x3), u4, none] [] h (qN (fun h' => wS h' ∧ R238 V c yr (vw h')))) ∧
    (∀ (h : aH) (x1 x2 x3 x4 : Int32) (o q : Int), wS h → x1.toInt = c → x2.toInt = yr → x3.toInt = o → x4.toInt = q → 0 ≤ o → o < V 72 19 → tkM V yr c o → 0 ≤ q → q ≤ 576 → agT V (vw h) → (∀ q', 0 ≤ q' → q' < q → tP V (vw h) yr c (o + 1) q') → (∀ q', q ≤ q' → q' < 576 → tP V (vw h) yr c o q') → Pt n X zM238 86 [some (.ref 72), some (.int x1), some (.int x2), some (.int x3), some (.int x4), none] [] h (qN (fun h' => wS h' ∧ R238 V c yr (vw h')))) := by
  intro n
  induction n with
  | zero => exact ⟨fun _ _ _ _ _ _ _ _ _ _ _ _ _ _ => pt_z, fun _ _ _ _ _ _ _ _ _ _ _ _ _ _ _ _ _ _ _ _ => pt_z⟩
  | succ n ih =>
    obtain ⟨ihA, ihB⟩ := ih
    refine ⟨fun h x1 x2 x3 u4 o S h1 h2 h3 o0 oN A T => ?_, fun h x1 x2 x3 x4 o q S h1 h2 h3 h4 o0 oN tk q0 q6 A T1 T2 => ?_⟩
    · have e19 : vw h 72 19 = V 72 19 := A 72 19 (by decide)
      have e103 : vw h 103 o = V 103 o := A 103 o (by decide)
      have e90 : vw h 90 o = V 90 o := A 90 o (by decide)
      have e87 : ∀ j, vw h 87 j = V 87 j := fun j => A 87 j (by decide)
      have e88 : ∀ j, vw h 88 j = V 88 j := fun j => A 88 j (by decide)
      have skip : ∀ (w3 : Int32) (u4 : Option Value), o < V 72 19 → ¬ tkM V yr c o → w3.toInt = w32 (o + 1) → Pt n X zM238 24 [some (.ref 72), some (.int x1), some (.int x2), some (.int w3), u4, none] [] h (qN (fun h' => wS h' ∧ R238 V c yr (vw h'))) := by
        intro w3 u4 lt nl g3
        replace g3 := w_1 g3 (by omega) (by omega)
        exact ihA h x1 x2 w3 u4 (o + 1) S h1 h2 g3 (by omega) (by omega) A (fun q a b => tP_skip (T q a b) (fun z => nl z.1))
      refine d238_24 S h1 h2 h3 ⟨fun e w3 w4 w5 g3 g4 g5 => ?_, fun e _ _ => ⟨fun e2 w3 u4 g3 => skip w3 u4 (by omega) (fun z => z.1.1 (e103.symm.trans e2)) g3, fun e2 => ⟨fun e3 w3 u4 g3 => skip w3 u4 (by omega) (fun z => e3 (by rw [e90]; exact z.1.2)) g3, fun e3 _ _ => ⟨fun e4 w3 u4 g3 => skip w3 u4 (by omega) (fun z => e4 (by rw [e87, e87]; exact z.2.1)) g3, fun e4 => ⟨fun e5 w4 g4 => ?_, fun e5 w3 u4 g3 => skip w3 u4 (by omega) (fun z => by have := z.2.2; rw [e88, e88] at e5; omega) g3⟩⟩⟩⟩⟩
      · have eo : o = V 72 19 := by omega
        rw [eo] at T
        exact l_238c S hc A T n x1 x2 w3 w4 w5 0 h1 h2 g3 g4 g5 (by decide)
      · rw [e87, e87] at e4
        rw [e88, e88] at e5
        exact ihB h x1 x2 x3 w4 o 0 S h1 h2 h3 g4 o0 (by omega) ⟨⟨by rw [← e103]; exact e2, by rw [← e90]; exact e3⟩, e4, e5⟩ (Int.le_refl _) (by decide) A (fun q' a b => by omega) T
    · have e88 : vw h 88 o = V 88 o := A 88 o (by decide)
      have ei : isI (vw h) (vw h 88 o) q ↔ InM V o q := by
        rw [e88]
        exact isI_c (fun j => A 80 j (by decide)) _ _
      have next : ∀ (g : aH) (w4 : Int32) (v : Int), q < 576 → wS g → vw g = up (vw h) 110 q v → tP V (vw g) yr c (o + 1) q → w4.toInt = w32 (q + 1) → Pt n X zM238 86 [some (.ref 72), some (.int x1), some (.int x2), some (.int x3), some (.int w4), none] [] g (qN (fun h' => wS h' ∧ R238 V c yr (vw h'))) := by
        intro g w4 v lt S2 eg f g4
        replace g4 := w_1 g4 (by omega) (by omega)
        refine ihB g x1 x2 x3 w4 o (q + 1) S2 h1 h2 h3 g4 o0 oN tk (by omega) (by omega) (fun c' j n1 => by rw [eg, up_c n1]; exact A c' j n1) (fun q' a b => ?_) (fun q' a b => tP_c (T2 q' (by omega) b) (by rw [eg, up_j (by omega)]))
        by_cases z : q' = q
        · rw [z]; exact f
        · exact tP_c (T1 q' a (by omega)) (by rw [eg, up_j z])
      refine d238_86 S h1 h2 h3 h4 ⟨fun e w3 u4 g3 => ?_, fun e _ _ => ⟨fun e2 g S2 eg w4 g4 => next g w4 _ e S2 eg (tP_keep (T2 q (Int.le_refl _) e) e2 (by rw [eg, up_s, b11])) g4, fun e2 _ _ => ⟨fun e3 g S2 eg w4 g4 => next g w4 _ e S2 eg (tP_skip (tP_c (T2 q (Int.le_refl _) e) (by rw [eg, up_s, b01, e2])) (fun z => e3 (ei.mpr z.2))) g4, fun e3 g S2 eg w4 g4 => next g w4 _ e S2 eg (tP_set o0 ⟨tk, ei.mp e3⟩ (by rw [eg, up_s, b11])) g4⟩⟩⟩
      replace g3 := w_1 g3 (by omega) (by omega)
      exact ihA h x1 x2 w3 u4 (o + 1) S h1 h2 g3 (by omega) (by omega) A (fun q' a b => T1 q' a (by omega))
theorem l_238i {X : aX} {V : vS} {yr c : Int} (hN : 0 ≤ V 72 19 ∧ V 72 19 ≤ 300) (hc : 0 ≤ c ∧ c < 300) : ∀ (n : Nat) (h : aH) (x1 x2 x3 : Int32) (q : Int), wS h → x1.toInt = c → x2.toInt = yr → x3.toInt = q → 0 ≤ q → q ≤ 576 → agT V (vw h) → (∀ q', 0 ≤ q' → q' < q → vw h 110 q' = 0) → Pt n X zM238 2 [some (.ref 72), some (.int x1), some (.int x2), some (.int x3), none, none] [] h (qN (fun h' => wS h' ∧ R238 V c yr (vw h'))) := by
  intro n
  induction n with
  | zero => exact fun _ _ _ _ _ _ _ _ _ _ _ _ _ => pt_z
  | succ n ih =>
    intro h x1 x2 x3 q S h1 h2 h3 q0 q6 A F
    refine d238_2 S h1 h2 h3 ⟨fun e w3 u4 g3 => ?_, fun e _ _ g S2 eg w3 g3 => ?_⟩
    · exact (l_238 hN hc n).1 h x1 x2 w3 u4 0 S h1 h2 g3 (Int.le_refl _) hN.1 A (fun q' a b => ⟨Or.inl (F q' a (by omega)), ⟨fun z => absurd (F q' a (by omega)) z, fun ⟨o', z, _⟩ => by omega⟩⟩)
    · replace g3 := w_1 g3 (by omega) (by omega)
      refine ih g x1 x2 w3 (q + 1) S2 h1 h2 g3 (by omega) (by omega) (fun c' j n1 => by rw [eg, up_c n1]; exact A c' j n1) (fun q' a b => ?_)
      by_cases z : q' = q
      · rw [z, eg, up_s, b01]
      · rw [eg, up_j z]
        exact F q' a (by omega)
theorem c_238 {n : Nat} {X : aX} {h : aH} {x1 x2 : Int32} {a1 a2 : Int} (S : wS h) (z1 : x1.toInt = a1) (z2 : x2.toInt = a2) (hp : (0 ≤ vw h 72 19 ∧ vw h 72 19 ≤ 300) ∧ 0 ≤ a1 ∧ a1 < 300) : Pt n X zM238 0 [some (.ref 72), some (.int x1), some (.int x2), none, none, none] [] h (qN (fun h' => wS h' ∧ R238 (vw h) a1 a2 (vw h'))) :=
  pt_d (d238_0 S z1 z2 (fun w3 g3 => l_238i hp.1 hp.2 n h x1 x2 w3 0 S z1 z2 g3 (Int.le_refl _) (by decide) (fun _ _ _ => rfl) (fun q' a b => by omega)))


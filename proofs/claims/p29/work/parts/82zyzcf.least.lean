-- ===== the least land =====
theorem d288_0 {n : Nat} {X : aX} {h : aH} {P : Int → aH → Prop} {x1 : Int32} {a1 : Int} (S : wS h) (z1 : x1.toInt = a1) (H : (((0 ≤ a1 ∧ a1 ≤ 9) → ((q239 (vw h)) ∧ ∀ (h_4 : aH), (wS h_4 ∧ R239 (vw h) (vw h 72 1) (vw h_4)) → (∀ (w2 : Int32) (w3 : Int32), w2.toInt = 0 → w3.toInt = 0 → Pt n X zM288 21 [some (.ref 72), some (.int x1), some (.int w2), some (.int w3), none, none, none, none] [] h_4 (qI P)))) ∧ (¬ (0 ≤ a1 ∧ a1 ≤ 9) → P (-1) h))) : Pt (n + 1) X zM288 0 [some (.ref 72), some (.int x1), none, none, none, none, none, none] [] h (qI P) := by
  refine pt_1 (fun n d => r_iloadn gx288_0 rfl) ?_
  refine pt_d (pt_stat (as := [.int x1]) (r := []) gx288_1 rfl (show zmt[198]? = some zM198 from rfl) rfl rfl rfl rfl (c_198 S z1) (kqP (fun v1 h1 => ?_)))
  show Pt _ _ _ 4 _ [.int v1] _ _
  refine pt_d (pt_ifB_ne gx288_4 h1 (fun e2 => ?_) (fun e2 => ?_))
  · have H := H.1 e2
    refine pt_d (pt_1 (fun n d => r_aloadn gx288_9 rfl) ?_)
    refine pt_d (pt_1 (fun n d => r_aloadn gx288_10 rfl) ?_)
    refine pt_d (pt_getI (B := 1) gx288_11 S (fun v3 h3 => ?_))
    obtain ⟨pr4, H⟩ := H
    refine pt_d (pt_virt (as := [.int v3]) (r := []) gx288_14 rfl (show zmt[239]? = some zM239 from rfl) rfl rfl rfl rfl (c_239 S h3 pr4) (kqN (fun h_4 P4 => ?_)))
    have S4 := P4.1
    have H := H h_4 P4
    show Pt _ _ _ 17 _ [] _ _
    refine pt_d (pt_iconst gx288_17 (fun v5 h5 => ?_))
    refine pt_d (pt_1 (fun n d => r_istoren (L' := [some (.ref 72), some (.int x1), some (.int v5), none, none, none, none, none]) gx288_18 rfl rfl) ?_)
    refine pt_d (pt_iconst gx288_19 (fun v6 h6 => ?_))
    refine pt_d (pt_1 (fun n d => r_istoren (L' := [some (.ref 72), some (.int x1), some (.int v5), some (.int v6), none, none, none, none]) gx288_20 rfl rfl) ?_)
    exact H v5 v6 h5 h6
  · have H := H.2 e2
    refine pt_d (pt_iconst gx288_7 (fun v7 h7 => ?_))
    exact pt_d (pt_iret gx288_8 ⟨_, rfl, by rw [h7]; exact H⟩)
theorem d288_21 {n : Nat} {X : aX} {h : aH} {P : Int → aH → Prop} {x1 x2 x3 : Int32} {a1 a2 a3 : Int} (S : wS h) (z1 : x1.toInt = a1) (z2 : x2.toInt = a2) (z3 : x3.toInt = a3) (H : ((vw h 72 2 ≤ a3 → ((a2 ≤ 10 → ∀ h_6 : aH, wS h_6 → vw h_6 = up (vw h) 72 79 0 → (∀ (w3 : Int32), w3.toInt = 0 → Pt n X zM288 76 [some (.ref 72), some (.int x1), some (.int x2), some (.int w3), none, none, none, none] [] h_6 (qI P))) ∧ (10 < a2 → P (-4) h))) ∧ (a3 < vw h 72 2 → ((¬ (mField (vw h) a3) → (∀ (w2 : Int32) (w3 : Int32), w2.toInt = w32 (a2 + 0) → w3.toInt = w32 (a3 + 1) → Pt n X zM288 21 [some (.ref 72), some (.int x1), some (.int w2), some (.int w3), none, none, none, none] [] h (qI P))) ∧ ((mField (vw h) a3) → (((0 ≤ vw h 72 19 ∧ vw h 72 19 ≤ 300) ∧ ∀ c, 0 ≤ c → c < 300 → 0 ≤ vw h 88 c ∧ vw h 88 c < 150) ∧ ((¬ (hasT (vw h) a3 a1) → (∀ (w2 : Int32) (w3 : Int32), w2.toInt = w32 (a2 + 0) → w3.toInt = w32 (a3 + 1) → Pt n X zM288 21 [some (.ref 72), some (.int x1), some (.int w2), some (.int w3), none, none, none, none] [] h (qI P))) ∧ ((hasT (vw h) a3 a1) → (∀ (w2 : Int32) (w3 : Int32), w2.toInt = w32 (a2 + 1) → w3.toInt = w32 (a3 + 1) → Pt n X zM288 21 [some (.ref 72), some (.int x1), some (.int w2), some (.int w3), none, none, none, none] [] h (qI P)))))))))) : Pt (n + 1) X zM288 21 [some (.ref 72), some (.int x1), some (.int x2), some (.int x3), none, none, none, none] [] h (qI P) := by
  refine pt_1 (fun n d => r_iloadn gx288_21 rfl) ?_
  refine pt_d (pt_1 (fun n d => r_aloadn gx288_22 rfl) ?_)
  refine pt_d (pt_getI (B := 2) gx288_23 S (fun v1 h1 => ?_))
  refine pt_d (pt_icmp_ge gx288_26 z3 h1 (fun e2 => ?_) (fun e2 => ?_))
  · have H := H.1 e2
    refine pt_d (pt_1 (fun n d => r_iloadn gx288_60 rfl) ?_)
    refine pt_d (pt_bipush gx288_61 (fun v3 h3 => ?_))
    refine pt_d (pt_icmp_le gx288_63 z2 h3 (fun e4 => ?_) (fun e4 => ?_))
    · have H := H.1 e4
      refine pt_d (pt_1 (fun n d => r_aloadn gx288_69 rfl) ?_)
      refine pt_d (pt_iconst gx288_70 (fun v5 h5 => ?_))
      refine pt_d (pt_putI (B := 79) gx288_71 S h5 (fun h_6 S6 e6 => ?_))
      refine pt_d (pt_iconst gx288_74 (fun v7 h7 => ?_))
      refine pt_d (pt_1 (fun n d => r_istoren (L' := [some (.ref 72), some (.int x1), some (.int x2), some (.int v7), none, none, none, none]) gx288_75 rfl rfl) ?_)
      have H := H h_6 S6 (by rw [e6])
      exact H v7 h7
    · have H := H.2 e4
      refine pt_d (pt_bipush gx288_66 (fun v8 h8 => ?_))
      exact pt_d (pt_iret gx288_68 ⟨_, rfl, by rw [h8]; exact H⟩)
  · have H := H.2 e2
    refine pt_d (pt_1 (fun n d => r_iloadn gx288_29 rfl) ?_)
    refine pt_d (pt_1 (fun n d => r_aloadn gx288_30 rfl) ?_)
    refine pt_d (pt_1 (fun n d => r_iloadn gx288_31 rfl) ?_)
    refine pt_d (pt_virt (as := [.int x3]) (r := [.int x2]) gx288_32 rfl (show zmt[203]? = some zM203 from rfl) rfl rfl rfl rfl (c_203 S z3) (kqP (fun v9 h9 => ?_)))
    show Pt _ _ _ 35 _ [.int v9, .int x2] _ _
    refine pt_d (pt_ifB_eq gx288_35 h9 (fun e10 => ?_) (fun e10 => ?_))
    · have H := H.1 e10
      refine pt_d (pt_iconst gx288_51 (fun v11 h11 => ?_))
      refine pt_d (pt_iadd gx288_52 z2 h11 (fun v12 h12 => ?_))
      refine pt_d (pt_1 (fun n d => r_istoren (L' := [some (.ref 72), some (.int x1), some (.int v12), some (.int x3), none, none, none, none]) gx288_53 rfl rfl) ?_)
      refine pt_d (pt_iinc (c := 1) gx288_54 rfl z3 (fun v13 h13 => ?_))
      show Pt _ _ _ _ [some (.ref 72), some (.int x1), some (.int v12), some (.int v13), none, none, none, none] [] _ _
      refine pt_d (pt_1 (fun n d => r_goto gx288_57) ?_)
      exact H v12 v13 h12 h13
    · have H := H.2 e10
      refine pt_d (pt_1 (fun n d => r_aloadn gx288_38 rfl) ?_)
      refine pt_d (pt_1 (fun n d => r_iloadn gx288_39 rfl) ?_)
      refine pt_d (pt_1 (fun n d => r_iloadn gx288_40 rfl) ?_)
      obtain ⟨pr14, H⟩ := H
      refine pt_d (pt_virt (as := [.int x3, .int x1]) (r := [.int x2]) gx288_41 rfl (show zmt[284]? = some zM284 from rfl) rfl rfl rfl rfl (c_284 S z3 z1 pr14) (kqP (fun v14 h14 => ?_)))
      show Pt _ _ _ 44 _ [.int v14, .int x2] _ _
      refine pt_d (pt_ifB_eq gx288_44 h14 (fun e15 => ?_) (fun e15 => ?_))
      · have H := H.1 e15
        refine pt_d (pt_iconst gx288_51 (fun v16 h16 => ?_))
        refine pt_d (pt_iadd gx288_52 z2 h16 (fun v17 h17 => ?_))
        refine pt_d (pt_1 (fun n d => r_istoren (L' := [some (.ref 72), some (.int x1), some (.int v17), some (.int x3), none, none, none, none]) gx288_53 rfl rfl) ?_)
        refine pt_d (pt_iinc (c := 1) gx288_54 rfl z3 (fun v18 h18 => ?_))
        show Pt _ _ _ _ [some (.ref 72), some (.int x1), some (.int v17), some (.int v18), none, none, none, none] [] _ _
        refine pt_d (pt_1 (fun n d => r_goto gx288_57) ?_)
        exact H v17 v18 h17 h18
      · have H := H.2 e15
        refine pt_d (pt_iconst gx288_47 (fun v19 h19 => ?_))
        refine pt_d (pt_1 (fun n d => r_goto gx288_48) ?_)
        refine pt_d (pt_iadd gx288_52 z2 h19 (fun v20 h20 => ?_))
        refine pt_d (pt_1 (fun n d => r_istoren (L' := [some (.ref 72), some (.int x1), some (.int v20), some (.int x3), none, none, none, none]) gx288_53 rfl rfl) ?_)
        refine pt_d (pt_iinc (c := 1) gx288_54 rfl z3 (fun v21 h21 => ?_))
        show Pt _ _ _ _ [some (.ref 72), some (.int x1), some (.int v20), some (.int v21), none, none, none, none] [] _ _
        refine pt_d (pt_1 (fun n d => r_goto gx288_57) ?_)
        exact H v20 v21 h20 h21
theorem d288_76 {n : Nat} {X : aX} {h : aH} {P : Int → aH → Prop} {x1 x2 x3 : Int32} {a1 a2 a3 : Int} (S : wS h) (z1 : x1.toInt = a1) (z2 : x2.toInt = a2) (z3 : x3.toInt = a3) (H : ((vw h 72 2 ≤ a3 → (∀ (w3 : Int32) (w4 : Int32) (w5 : Int32) (u6_ : Option Value) (u7_ : Option Value), w3.toInt = (-1) → w4.toInt = 0 → w5.toInt = 0 → Pt n X zM288 138 [some (.ref 72), some (.int x1), some (.int x2), some (.int w3), some (.int w4), some (.int w5), u6_, u7_] [] h (qI P))) ∧ (a3 < vw h 72 2 → ((¬ (mField (vw h) a3) → (∀ (w3 : Int32), w3.toInt = w32 (a3 + 1) → Pt n X zM288 76 [some (.ref 72), some (.int x1), some (.int x2), some (.int w3), none, none, none, none] [] h (qI P))) ∧ ((mField (vw h) a3) → (((0 ≤ vw h 72 19 ∧ vw h 72 19 ≤ 300) ∧ ∀ c, 0 ≤ c → c < 300 → 0 ≤ vw h 88 c ∧ vw h 88 c < 150) ∧ (((hasT (vw h) a3 a1) → (0 ≤ vw h 72 79 → vw h 72 79 < 10 → ∀ h_17 : aH, wS h_17 → vw h_17 = up (up (vw h) 132 (vw h 72 79) a3) 72 79 (w32 ((vw h 72 79) + 1)) → (∀ (w3 : Int32), w3.toInt = w32 (a3 + 1) → Pt n X zM288 76 [some (.ref 72), some (.int x1), some (.int x2), some (.int w3), none, none, none, none] [] h_17 (qI P)))) ∧ (¬ (hasT (vw h) a3 a1) → (∀ (w3 : Int32), w3.toInt = w32 (a3 + 1) → Pt n X zM288 76 [some (.ref 72), some (.int x1), some (.int x2), some (.int w3), none, none, none, none] [] h (qI P)))))))))) : Pt (n + 1) X zM288 76 [some (.ref 72), some (.int x1), some (.int x2), some (.int x3), none, none, none, none] [] h (qI P) := by
  refine pt_1 (fun n d => r_iloadn gx288_76 rfl) ?_
  refine pt_d (pt_1 (fun n d => r_aloadn gx288_77 rfl) ?_)
  refine pt_d (pt_getI (B := 2) gx288_78 S (fun v1 h1 => ?_))
  refine pt_d (pt_icmp_ge gx288_81 z3 h1 (fun e2 => ?_) (fun e2 => ?_))
  · have H := H.1 e2
    refine pt_d (pt_iconst gx288_130 (fun v3 h3 => ?_))
    refine pt_d (pt_1 (fun n d => r_istoren (L' := [some (.ref 72), some (.int x1), some (.int x2), some (.int v3), none, none, none, none]) gx288_131 rfl rfl) ?_)
    refine pt_d (pt_iconst gx288_132 (fun v4 h4 => ?_))
    refine pt_d (pt_1 (fun n d => r_istore (L' := [some (.ref 72), some (.int x1), some (.int x2), some (.int v3), some (.int v4), none, none, none]) gx288_133 rfl rfl) ?_)
    refine pt_d (pt_iconst gx288_135 (fun v5 h5 => ?_))
    refine pt_d (pt_1 (fun n d => r_istore (L' := [some (.ref 72), some (.int x1), some (.int x2), some (.int v3), some (.int v4), some (.int v5), none, none]) gx288_136 rfl rfl) ?_)
    exact H v3 v4 v5 _ _ h3 h4 h5
  · have H := H.2 e2
    refine pt_d (pt_1 (fun n d => r_aloadn gx288_84 rfl) ?_)
    refine pt_d (pt_1 (fun n d => r_iloadn gx288_85 rfl) ?_)
    refine pt_d (pt_virt (as := [.int x3]) (r := []) gx288_86 rfl (show zmt[203]? = some zM203 from rfl) rfl rfl rfl rfl (c_203 S z3) (kqP (fun v6 h6 => ?_)))
    show Pt _ _ _ 89 _ [.int v6] _ _
    refine pt_d (pt_ifB_eq gx288_89 h6 (fun e7 => ?_) (fun e7 => ?_))
    · have H := H.1 e7
      refine pt_d (pt_iinc (c := 1) gx288_124 rfl z3 (fun v8 h8 => ?_))
      show Pt _ _ _ _ [some (.ref 72), some (.int x1), some (.int x2), some (.int v8), none, none, none, none] [] _ _
      refine pt_d (pt_1 (fun n d => r_goto gx288_127) ?_)
      exact H v8 h8
    · have H := H.2 e7
      refine pt_d (pt_1 (fun n d => r_aloadn gx288_92 rfl) ?_)
      refine pt_d (pt_1 (fun n d => r_iloadn gx288_93 rfl) ?_)
      refine pt_d (pt_1 (fun n d => r_iloadn gx288_94 rfl) ?_)
      obtain ⟨pr9, H⟩ := H
      refine pt_d (pt_virt (as := [.int x3, .int x1]) (r := []) gx288_95 rfl (show zmt[284]? = some zM284 from rfl) rfl rfl rfl rfl (c_284 S z3 z1 pr9) (kqP (fun v9 h9 => ?_)))
      show Pt _ _ _ 98 _ [.int v9] _ _
      refine pt_d (pt_ifB_ne gx288_98 h9 (fun e10 => ?_) (fun e10 => ?_))
      · have H := H.1 e10
        refine pt_d (pt_1 (fun n d => r_aloadn gx288_104 rfl) ?_)
        refine pt_d (pt_getR gx288_105 S tr_72_80 ?_)
        refine pt_d (pt_1 (fun n d => r_aloadn gx288_108 rfl) ?_)
        refine pt_d (pt_getI (B := 79) gx288_109 S (fun v12 h12 => ?_))
        refine pt_d (pt_1 (fun n d => r_iloadn gx288_112 rfl) ?_)
        refine pt_d (pt_iast (N' := 10) gx288_113 S tl_132 h12 z3 (fun h_13 S13 p13 q13 e13 => ?_))
        have H := H p13 q13
        refine pt_d (pt_1 (fun n d => r_aloadn gx288_114 rfl) ?_)
        refine pt_d (pt_1 (fun n d => r_dup gx288_115 rfl) ?_)
        refine pt_d (pt_getI (B := 79) gx288_116 S13 (fun v14 h14 => ?_))
        have h14 : v14.toInt = vw h 72 79 := by rw [h14, e13, up_c (by decide)]
        refine pt_d (pt_iconst gx288_119 (fun v15 h15 => ?_))
        refine pt_d (pt_iadd gx288_120 h14 h15 (fun v16 h16 => ?_))
        refine pt_d (pt_putI (B := 79) gx288_121 S13 h16 (fun h_17 S17 e17 => ?_))
        refine pt_d (pt_iinc (c := 1) gx288_124 rfl z3 (fun v18 h18 => ?_))
        show Pt _ _ _ _ [some (.ref 72), some (.int x1), some (.int x2), some (.int v18), none, none, none, none] [] _ _
        refine pt_d (pt_1 (fun n d => r_goto gx288_127) ?_)
        have H := H h_17 S17 (by rw [e17, e13])
        exact H v18 h18
      · have H := H.2 e10
        refine pt_d (pt_1 (fun n d => r_goto gx288_101) ?_)
        refine pt_d (pt_iinc (c := 1) gx288_124 rfl z3 (fun v19 h19 => ?_))
        show Pt _ _ _ _ [some (.ref 72), some (.int x1), some (.int x2), some (.int v19), none, none, none, none] [] _ _
        refine pt_d (pt_1 (fun n d => r_goto gx288_127) ?_)
        exact H v19 h19
theorem d288_138 {n : Nat} {X : aX} {h : aH} {P : Int → aH → Prop} {x1 x2 x3 x4 x5 : Int32} {a1 a2 a3 a4 a5 : Int} {u6 u7 : Option Value} (S : wS h) (z1 : x1.toInt = a1) (z2 : x2.toInt = a2) (z3 : x3.toInt = a3) (z4 : x4.toInt = a4) (z5 : x5.toInt = a5) (H : ((bShl 1 (vw h 72 79) ≤ a5 → ∀ h_6 : aH, wS h_6 → vw h_6 = up (vw h) 72 81 0 → (∀ (w5 : Int32) (u6_ : Option Value) (u7_ : Option Value), w5.toInt = 0 → Pt n X zM288 266 [some (.ref 72), some (.int x1), some (.int x2), some (.int x3), some (.int x4), some (.int w5), u6_, u7_] [] h_6 (qI P))) ∧ (a5 < bShl 1 (vw h 72 79) → (∀ (w6 : Int32) (w7 : Int32), w6.toInt = 0 → w7.toInt = 0 → Pt n X zM288 155 [some (.ref 72), some (.int x1), some (.int x2), some (.int x3), some (.int x4), some (.int x5), some (.int w6), some (.int w7)] [] h (qI P))))) : Pt (n + 1) X zM288 138 [some (.ref 72), some (.int x1), some (.int x2), some (.int x3), some (.int x4), some (.int x5), u6, u7] [] h (qI P) := by
  refine pt_1 (fun n d => r_iload gx288_138 rfl) ?_
  refine pt_d (pt_iconst gx288_140 (fun v1 h1 => ?_))
  refine pt_d (pt_1 (fun n d => r_aloadn gx288_141 rfl) ?_)
  refine pt_d (pt_getI (B := 79) gx288_142 S (fun v2 h2 => ?_))
  refine pt_d (pt_ishl gx288_145 h1 h2 (fun v3 h3 => ?_))
  refine pt_d (pt_icmp_ge gx288_146 z5 h3 (fun e4 => ?_) (fun e4 => ?_))
  · have H := H.1 e4
    refine pt_d (pt_1 (fun n d => r_aloadn gx288_258 rfl) ?_)
    refine pt_d (pt_iconst gx288_259 (fun v5 h5 => ?_))
    refine pt_d (pt_putI (B := 81) gx288_260 S h5 (fun h_6 S6 e6 => ?_))
    refine pt_d (pt_iconst gx288_263 (fun v7 h7 => ?_))
    refine pt_d (pt_1 (fun n d => r_istore (L' := [some (.ref 72), some (.int x1), some (.int x2), some (.int x3), some (.int x4), some (.int v7), u6, u7]) gx288_264 rfl rfl) ?_)
    have H := H h_6 S6 (by rw [e6])
    exact H v7 _ _ h7
  · have H := H.2 e4
    refine pt_d (pt_iconst gx288_149 (fun v8 h8 => ?_))
    refine pt_d (pt_1 (fun n d => r_istore (L' := [some (.ref 72), some (.int x1), some (.int x2), some (.int x3), some (.int x4), some (.int x5), some (.int v8), u7]) gx288_150 rfl rfl) ?_)
    refine pt_d (pt_iconst gx288_152 (fun v9 h9 => ?_))
    refine pt_d (pt_1 (fun n d => r_istore (L' := [some (.ref 72), some (.int x1), some (.int x2), some (.int x3), some (.int x4), some (.int x5), some (.int v8), some (.int v9)]) gx288_153 rfl rfl) ?_)
    exact H v8 v9 h8 h9
theorem d288_155 {n : Nat} {X : aX} {h : aH} {P : Int → aH → Prop} {x1 x2 x3 x4 x5 x6 x7 : Int32} {a1 a2 a3 a4 a5 a6 a7 : Int} (S : wS h) (z1 : x1.toInt = a1) (z2 : x2.toInt = a2) (z3 : x3.toInt = a3) (z4 : x4.toInt = a4) (z5 : x5.toInt = a5) (z6 : x6.toInt = a6) (z7 : x7.toInt = a7) (H : ((vw h 72 79 ≤ a7 → ((a3 < 0 → ((((0 ≤ vw h 72 19 ∧ vw h 72 19 ≤ 300) ∧ ∀ c, 0 ≤ c → c < 300 → 0 ≤ vw h 88 c ∧ vw h 88 c < 150) ∧ 0 ≤ vw h 72 79 ∧ vw h 72 79 ≤ 10) ∧ (((cur (vw h) a5 a1) → (∀ (w5 : Int32) (u6_ : Option Value) (u7_ : Option Value), w5.toInt = w32 (a5 + 1) → Pt n X zM288 138 [some (.ref 72), some (.int x1), some (.int x2), some (.int x5), some (.int x6), some (.int w5), u6_, u7_] [] h (qI P))) ∧ (¬ (cur (vw h) a5 a1) → (∀ (w5 : Int32) (u6_ : Option Value) (u7_ : Option Value), w5.toInt = w32 (a5 + 1) → Pt n X zM288 138 [some (.ref 72), some (.int x1), some (.int x2), some (.int x3), some (.int x4), some (.int w5), u6_, u7_] [] h (qI P)))))) ∧ (0 ≤ a3 → ((a4 < a6 → (∀ (w5 : Int32) (u6_ : Option Value) (u7_ : Option Value), w5.toInt = w32 (a5 + 1) → Pt n X zM288 138 [some (.ref 72), some (.int x1), some (.int x2), some (.int x3), some (.int x4), some (.int w5), u6_, u7_] [] h (qI P))) ∧ (a6 ≤ a4 → ((a6 ≠ a4 → ((((0 ≤ vw h 72 19 ∧ vw h 72 19 ≤ 300) ∧ ∀ c, 0 ≤ c → c < 300 → 0 ≤ vw h 88 c ∧ vw h 88 c < 150) ∧ 0 ≤ vw h 72 79 ∧ vw h 72 79 ≤ 10) ∧ (((cur (vw h) a5 a1) → (∀ (w5 : Int32) (u6_ : Option Value) (u7_ : Option Value), w5.toInt = w32 (a5 + 1) → Pt n X zM288 138 [some (.ref 72), some (.int x1), some (.int x2), some (.int x5), some (.int x6), some (.int w5), u6_, u7_] [] h (qI P))) ∧ (¬ (cur (vw h) a5 a1) → (∀ (w5 : Int32) (u6_ : Option Value) (u7_ : Option Value), w5.toInt = w32 (a5 + 1) → Pt n X zM288 138 [some (.ref 72), some (.int x1), some (.int x2), some (.int x3), some (.int x4), some (.int w5), u6_, u7_] [] h (qI P)))))) ∧ (a6 = a4 → ((0 ≤ a5 ∧ a5 < 1024) ∧ ((0 ≤ a3 ∧ a3 < 1024) ∧ ((bcn (tb a3) 32 ≤ bcn (tb a5) 32 → (∀ (w5 : Int32) (u6_ : Option Value) (u7_ : Option Value), w5.toInt = w32 (a5 + 1) → Pt n X zM288 138 [some (.ref 72), some (.int x1), some (.int x2), some (.int x3), some (.int x4), some (.int w5), u6_, u7_] [] h (qI P))) ∧ (bcn (tb a5) 32 < bcn (tb a3) 32 → ((((0 ≤ vw h 72 19 ∧ vw h 72 19 ≤ 300) ∧ ∀ c, 0 ≤ c → c < 300 → 0 ≤ vw h 88 c ∧ vw h 88 c < 150) ∧ 0 ≤ vw h 72 79 ∧ vw h 72 79 ≤ 10) ∧ (((cur (vw h) a5 a1) → (∀ (w5 : Int32) (u6_ : Option Value) (u7_ : Option Value), w5.toInt = w32 (a5 + 1) → Pt n X zM288 138 [some (.ref 72), some (.int x1), some (.int x2), some (.int x5), some (.int x6), some (.int w5), u6_, u7_] [] h (qI P))) ∧ (¬ (cur (vw h) a5 a1) → (∀ (w5 : Int32) (u6_ : Option Value) (u7_ : Option Value), w5.toInt = w32 (a5 + 1) → Pt n X zM288 138 [some (.ref 72), some (.int x1), some (.int x2), some (.int x3), some (.int x4), some (.int w5), u6_, u7_] [] h (qI P)))))))))))))))) ∧ (a7 < vw h 72 79 → ((bAnd (bShr a5 a7) 1 ≠ 1 → (∀ (w6 : Int32) (w7 : Int32), w6.toInt = w32 (a6 + 0) → w7.toInt = w32 (a7 + 1) → Pt n X zM288 155 [some (.ref 72), some (.int x1), some (.int x2), some (.int x3), some (.int x4), some (.int x5), some (.int w6), some (.int w7)] [] h (qI P))) ∧ (bAnd (bShr a5 a7) 1 = 1 → (0 ≤ a7 → a7 < 10 → (0 ≤ vw h 132 a7 → vw h 132 a7 < 150 → (∀ (w6 : Int32) (w7 : Int32), w6.toInt = w32 (a6 + (vw h 78 (vw h 132 a7))) → w7.toInt = w32 (a7 + 1) → Pt n X zM288 155 [some (.ref 72), some (.int x1), some (.int x2), some (.int x3), some (.int x4), some (.int x5), some (.int w6), some (.int w7)] [] h (qI P))))))))) : Pt (n + 1) X zM288 155 [some (.ref 72), some (.int x1), some (.int x2), some (.int x3), some (.int x4), some (.int x5), some (.int x6), some (.int x7)] [] h (qI P) := by
  refine pt_1 (fun n d => r_iload gx288_155 rfl) ?_
  refine pt_d (pt_1 (fun n d => r_aloadn gx288_157 rfl) ?_)
  refine pt_d (pt_getI (B := 79) gx288_158 S (fun v1 h1 => ?_))
  refine pt_d (pt_icmp_ge gx288_161 z7 h1 (fun e2 => ?_) (fun e2 => ?_))
  · have H := H.1 e2
    refine pt_d (pt_1 (fun n d => r_iloadn gx288_202 rfl) ?_)
    refine pt_d (pt_if_lt gx288_203 z3 (fun e3 => ?_) (fun e3 => ?_))
    · have H := H.1 e3
      refine pt_d (pt_1 (fun n d => r_aloadn gx288_232 rfl) ?_)
      refine pt_d (pt_1 (fun n d => r_iload gx288_233 rfl) ?_)
      refine pt_d (pt_1 (fun n d => r_iloadn gx288_235 rfl) ?_)
      obtain ⟨pr4, H⟩ := H
      refine pt_d (pt_virt (as := [.int x5, .int x1]) (r := []) gx288_236 rfl (show zmt[286]? = some zM286 from rfl) rfl rfl rfl rfl (c_286 S z5 z1 pr4) (kqP (fun v4 h4 => ?_)))
      show Pt _ _ _ 239 _ [.int v4] _ _
      refine pt_d (pt_ifB_ne gx288_239 h4 (fun e5 => ?_) (fun e5 => ?_))
      · have H := H.1 e5
        refine pt_d (pt_1 (fun n d => r_iload gx288_245 rfl) ?_)
        refine pt_d (pt_1 (fun n d => r_istoren (L' := [some (.ref 72), some (.int x1), some (.int x2), some (.int x5), some (.int x4), some (.int x5), some (.int x6), some (.int x7)]) gx288_247 rfl rfl) ?_)
        refine pt_d (pt_1 (fun n d => r_iload gx288_248 rfl) ?_)
        refine pt_d (pt_1 (fun n d => r_istore (L' := [some (.ref 72), some (.int x1), some (.int x2), some (.int x5), some (.int x6), some (.int x5), some (.int x6), some (.int x7)]) gx288_250 rfl rfl) ?_)
        refine pt_d (pt_iinc (c := 1) gx288_252 rfl z5 (fun v6 h6 => ?_))
        show Pt _ _ _ _ [some (.ref 72), some (.int x1), some (.int x2), some (.int x5), some (.int x6), some (.int v6), some (.int x6), some (.int x7)] [] _ _
        refine pt_d (pt_1 (fun n d => r_goto gx288_255) ?_)
        exact H v6 _ _ h6
      · have H := H.2 e5
        refine pt_d (pt_1 (fun n d => r_goto gx288_242) ?_)
        refine pt_d (pt_iinc (c := 1) gx288_252 rfl z5 (fun v7 h7 => ?_))
        show Pt _ _ _ _ [some (.ref 72), some (.int x1), some (.int x2), some (.int x3), some (.int x4), some (.int v7), some (.int x6), some (.int x7)] [] _ _
        refine pt_d (pt_1 (fun n d => r_goto gx288_255) ?_)
        exact H v7 _ _ h7
    · have H := H.2 e3
      refine pt_d (pt_1 (fun n d => r_iload gx288_206 rfl) ?_)
      refine pt_d (pt_1 (fun n d => r_iload gx288_208 rfl) ?_)
      refine pt_d (pt_icmp_gt gx288_210 z6 z4 (fun e8 => ?_) (fun e8 => ?_))
      · have H := H.1 e8
        refine pt_d (pt_iinc (c := 1) gx288_252 rfl z5 (fun v9 h9 => ?_))
        show Pt _ _ _ _ [some (.ref 72), some (.int x1), some (.int x2), some (.int x3), some (.int x4), some (.int v9), some (.int x6), some (.int x7)] [] _ _
        refine pt_d (pt_1 (fun n d => r_goto gx288_255) ?_)
        exact H v9 _ _ h9
      · have H := H.2 e8
        refine pt_d (pt_1 (fun n d => r_iload gx288_213 rfl) ?_)
        refine pt_d (pt_1 (fun n d => r_iload gx288_215 rfl) ?_)
        refine pt_d (pt_icmp_ne gx288_217 z6 z4 (fun e10 => ?_) (fun e10 => ?_))
        · have H := H.1 e10
          refine pt_d (pt_1 (fun n d => r_aloadn gx288_232 rfl) ?_)
          refine pt_d (pt_1 (fun n d => r_iload gx288_233 rfl) ?_)
          refine pt_d (pt_1 (fun n d => r_iloadn gx288_235 rfl) ?_)
          obtain ⟨pr11, H⟩ := H
          refine pt_d (pt_virt (as := [.int x5, .int x1]) (r := []) gx288_236 rfl (show zmt[286]? = some zM286 from rfl) rfl rfl rfl rfl (c_286 S z5 z1 pr11) (kqP (fun v11 h11 => ?_)))
          show Pt _ _ _ 239 _ [.int v11] _ _
          refine pt_d (pt_ifB_ne gx288_239 h11 (fun e12 => ?_) (fun e12 => ?_))
          · have H := H.1 e12
            refine pt_d (pt_1 (fun n d => r_iload gx288_245 rfl) ?_)
            refine pt_d (pt_1 (fun n d => r_istoren (L' := [some (.ref 72), some (.int x1), some (.int x2), some (.int x5), some (.int x4), some (.int x5), some (.int x6), some (.int x7)]) gx288_247 rfl rfl) ?_)
            refine pt_d (pt_1 (fun n d => r_iload gx288_248 rfl) ?_)
            refine pt_d (pt_1 (fun n d => r_istore (L' := [some (.ref 72), some (.int x1), some (.int x2), some (.int x5), some (.int x6), some (.int x5), some (.int x6), some (.int x7)]) gx288_250 rfl rfl) ?_)
            refine pt_d (pt_iinc (c := 1) gx288_252 rfl z5 (fun v13 h13 => ?_))
            show Pt _ _ _ _ [some (.ref 72), some (.int x1), some (.int x2), some (.int x5), some (.int x6), some (.int v13), some (.int x6), some (.int x7)] [] _ _
            refine pt_d (pt_1 (fun n d => r_goto gx288_255) ?_)
            exact H v13 _ _ h13
          · have H := H.2 e12
            refine pt_d (pt_1 (fun n d => r_goto gx288_242) ?_)
            refine pt_d (pt_iinc (c := 1) gx288_252 rfl z5 (fun v14 h14 => ?_))
            show Pt _ _ _ _ [some (.ref 72), some (.int x1), some (.int x2), some (.int x3), some (.int x4), some (.int v14), some (.int x6), some (.int x7)] [] _ _
            refine pt_d (pt_1 (fun n d => r_goto gx288_255) ?_)
            exact H v14 _ _ h14
        · have H := H.2 e10
          refine pt_d (pt_1 (fun n d => r_iload gx288_220 rfl) ?_)
          obtain ⟨pr15, H⟩ := H
          refine pt_d (pt_stat (as := [.int x5]) (r := []) gx288_222 rfl (show zmt[287]? = some zM287 from rfl) rfl rfl rfl rfl (c_287 S z5 pr15) (kqP (fun v15 h15 => ?_)))
          show Pt _ _ _ 225 _ [.int v15] _ _
          refine pt_d (pt_1 (fun n d => r_iloadn gx288_225 rfl) ?_)
          obtain ⟨pr16, H⟩ := H
          refine pt_d (pt_stat (as := [.int x3]) (r := [.int v15]) gx288_226 rfl (show zmt[287]? = some zM287 from rfl) rfl rfl rfl rfl (c_287 S z3 pr16) (kqP (fun v16 h16 => ?_)))
          show Pt _ _ _ 229 _ [.int v16, .int v15] _ _
          refine pt_d (pt_icmp_ge gx288_229 h15 h16 (fun e17 => ?_) (fun e17 => ?_))
          · have H := H.1 e17
            refine pt_d (pt_iinc (c := 1) gx288_252 rfl z5 (fun v18 h18 => ?_))
            show Pt _ _ _ _ [some (.ref 72), some (.int x1), some (.int x2), some (.int x3), some (.int x4), some (.int v18), some (.int x6), some (.int x7)] [] _ _
            refine pt_d (pt_1 (fun n d => r_goto gx288_255) ?_)
            exact H v18 _ _ h18
          · have H := H.2 e17
            refine pt_d (pt_1 (fun n d => r_aloadn gx288_232 rfl) ?_)
            refine pt_d (pt_1 (fun n d => r_iload gx288_233 rfl) ?_)
            refine pt_d (pt_1 (fun n d => r_iloadn gx288_235 rfl) ?_)
            obtain ⟨pr19, H⟩ := H
            refine pt_d (pt_virt (as := [.int x5, .int x1]) (r := []) gx288_236 rfl (show zmt[286]? = some zM286 from rfl) rfl rfl rfl rfl (c_286 S z5 z1 pr19) (kqP (fun v19 h19 => ?_)))
            show Pt _ _ _ 239 _ [.int v19] _ _
            refine pt_d (pt_ifB_ne gx288_239 h19 (fun e20 => ?_) (fun e20 => ?_))
            · have H := H.1 e20
              refine pt_d (pt_1 (fun n d => r_iload gx288_245 rfl) ?_)
              refine pt_d (pt_1 (fun n d => r_istoren (L' := [some (.ref 72), some (.int x1), some (.int x2), some (.int x5), some (.int x4), some (.int x5), some (.int x6), some (.int x7)]) gx288_247 rfl rfl) ?_)
              refine pt_d (pt_1 (fun n d => r_iload gx288_248 rfl) ?_)
              refine pt_d (pt_1 (fun n d => r_istore (L' := [some (.ref 72), some (.int x1), some (.int x2), some (.int x5), some (.int x6), some (.int x5), some (.int x6), some (.int x7)]) gx288_250 rfl rfl) ?_)
              refine pt_d (pt_iinc (c := 1) gx288_252 rfl z5 (fun v21 h21 => ?_))
              show Pt _ _ _ _ [some (.ref 72), some (.int x1), some (.int x2), some (.int x5), some (.int x6), some (.int v21), some (.int x6), some (.int x7)] [] _ _
              refine pt_d (pt_1 (fun n d => r_goto gx288_255) ?_)
              exact H v21 _ _ h21
            · have H := H.2 e20
              refine pt_d (pt_1 (fun n d => r_goto gx288_242) ?_)
              refine pt_d (pt_iinc (c := 1) gx288_252 rfl z5 (fun v22 h22 => ?_))
              show Pt _ _ _ _ [some (.ref 72), some (.int x1), some (.int x2), some (.int x3), some (.int x4), some (.int v22), some (.int x6), some (.int x7)] [] _ _
              refine pt_d (pt_1 (fun n d => r_goto gx288_255) ?_)
              exact H v22 _ _ h22
  · have H := H.2 e2
    refine pt_d (pt_1 (fun n d => r_iload gx288_164 rfl) ?_)
    refine pt_d (pt_1 (fun n d => r_iload gx288_166 rfl) ?_)
    refine pt_d (pt_1 (fun n d => r_iload gx288_168 rfl) ?_)
    refine pt_d (pt_ishr gx288_170 z5 z7 (fun v23 h23 => ?_))
    refine pt_d (pt_iconst gx288_171 (fun v24 h24 => ?_))
    refine pt_d (pt_iand gx288_172 h23 h24 (fun v25 h25 => ?_))
    refine pt_d (pt_iconst gx288_173 (fun v26 h26 => ?_))
    refine pt_d (pt_icmp_ne gx288_174 h25 h26 (fun e27 => ?_) (fun e27 => ?_))
    · have H := H.1 e27
      refine pt_d (pt_iconst gx288_192 (fun v28 h28 => ?_))
      refine pt_d (pt_iadd gx288_193 z6 h28 (fun v29 h29 => ?_))
      refine pt_d (pt_1 (fun n d => r_istore (L' := [some (.ref 72), some (.int x1), some (.int x2), some (.int x3), some (.int x4), some (.int x5), some (.int v29), some (.int x7)]) gx288_194 rfl rfl) ?_)
      refine pt_d (pt_iinc (c := 1) gx288_196 rfl z7 (fun v30 h30 => ?_))
      show Pt _ _ _ _ [some (.ref 72), some (.int x1), some (.int x2), some (.int x3), some (.int x4), some (.int x5), some (.int v29), some (.int v30)] [] _ _
      refine pt_d (pt_1 (fun n d => r_goto gx288_199) ?_)
      exact H v29 v30 h29 h30
    · have H := H.2 e27
      refine pt_d (pt_1 (fun n d => r_aloadn gx288_177 rfl) ?_)
      refine pt_d (pt_getR gx288_178 S tr_72_8 ?_)
      refine pt_d (pt_1 (fun n d => r_aloadn gx288_181 rfl) ?_)
      refine pt_d (pt_getR gx288_182 S tr_72_80 ?_)
      refine pt_d (pt_1 (fun n d => r_iload gx288_185 rfl) ?_)
      refine pt_d (pt_iald (N' := 10) gx288_187 S tl_132 z7 (fun v33 p33 q33 h33 => ?_))
      have H := H p33 q33
      refine pt_d (pt_iald (N' := 150) gx288_188 S tl_78 h33 (fun v34 p34 q34 h34 => ?_))
      have H := H p34 q34
      refine pt_d (pt_1 (fun n d => r_goto gx288_189) ?_)
      refine pt_d (pt_iadd gx288_193 z6 h34 (fun v35 h35 => ?_))
      refine pt_d (pt_1 (fun n d => r_istore (L' := [some (.ref 72), some (.int x1), some (.int x2), some (.int x3), some (.int x4), some (.int x5), some (.int v35), some (.int x7)]) gx288_194 rfl rfl) ?_)
      refine pt_d (pt_iinc (c := 1) gx288_196 rfl z7 (fun v36 h36 => ?_))
      show Pt _ _ _ _ [some (.ref 72), some (.int x1), some (.int x2), some (.int x3), some (.int x4), some (.int x5), some (.int v35), some (.int v36)] [] _ _
      refine pt_d (pt_1 (fun n d => r_goto gx288_199) ?_)
      exact H v35 v36 h35 h36
theorem d288_266 {n : Nat} {X : aX} {h : aH} {P : Int → aH → Prop} {x1 x2 x3 x4 x5 : Int32} {a1 a2 a3 a4 a5 : Int} {u6 u7 : Option Value} (S : wS h) (z1 : x1.toInt = a1) (z2 : x2.toInt = a2) (z3 : x3.toInt = a3) (z4 : x4.toInt = a4) (z5 : x5.toInt = a5) (H : ((vw h 72 79 ≤ a5 → P a4 h) ∧ (a5 < vw h 72 79 → ((bAnd (bShr a3 a5) 1 ≠ 0 → (0 ≤ a5 → a5 < 10 → (0 ≤ vw h 72 81 → vw h 72 81 < 10 → ∀ h_15 : aH, wS h_15 → vw h_15 = up (up (vw h) 133 (vw h 72 81) (vw h 132 a5)) 72 81 (w32 ((vw h 72 81) + 1)) → (∀ (w5 : Int32) (u6_ : Option Value) (u7_ : Option Value), w5.toInt = w32 (a5 + 1) → Pt n X zM288 266 [some (.ref 72), some (.int x1), some (.int x2), some (.int x3), some (.int x4), some (.int w5), u6_, u7_] [] h_15 (qI P))))) ∧ (bAnd (bShr a3 a5) 1 = 0 → (∀ (w5 : Int32) (u6_ : Option Value) (u7_ : Option Value), w5.toInt = w32 (a5 + 1) → Pt n X zM288 266 [some (.ref 72), some (.int x1), some (.int x2), some (.int x3), some (.int x4), some (.int w5), u6_, u7_] [] h (qI P))))))) : Pt (n + 1) X zM288 266 [some (.ref 72), some (.int x1), some (.int x2), some (.int x3), some (.int x4), some (.int x5), u6, u7] [] h (qI P) := by
  refine pt_1 (fun n d => r_iload gx288_266 rfl) ?_
  refine pt_d (pt_1 (fun n d => r_aloadn gx288_268 rfl) ?_)
  refine pt_d (pt_getI (B := 79) gx288_269 S (fun v1 h1 => ?_))
  refine pt_d (pt_icmp_ge gx288_272 z5 h1 (fun e2 => ?_) (fun e2 => ?_))
  · have H := H.1 e2
    refine pt_d (pt_1 (fun n d => r_iload gx288_319 rfl) ?_)
    exact pt_d (pt_iret gx288_321 ⟨_, rfl, by rw [z4]; exact H⟩)
  · have H := H.2 e2
    refine pt_d (pt_1 (fun n d => r_iloadn gx288_275 rfl) ?_)
    refine pt_d (pt_1 (fun n d => r_iload gx288_276 rfl) ?_)
    refine pt_d (pt_ishr gx288_278 z3 z5 (fun v3 h3 => ?_))
    refine pt_d (pt_iconst gx288_279 (fun v4 h4 => ?_))
    refine pt_d (pt_iand gx288_280 h3 h4 (fun v5 h5 => ?_))
    refine pt_d (pt_if_ne gx288_281 h5 (fun e6 => ?_) (fun e6 => ?_))
    · have H := H.1 e6
      refine pt_d (pt_1 (fun n d => r_aloadn gx288_287 rfl) ?_)
      refine pt_d (pt_getR gx288_288 S tr_72_82 ?_)
      refine pt_d (pt_1 (fun n d => r_aloadn gx288_291 rfl) ?_)
      refine pt_d (pt_getI (B := 81) gx288_292 S (fun v8 h8 => ?_))
      refine pt_d (pt_1 (fun n d => r_aloadn gx288_295 rfl) ?_)
      refine pt_d (pt_getR gx288_296 S tr_72_80 ?_)
      refine pt_d (pt_1 (fun n d => r_iload gx288_299 rfl) ?_)
      refine pt_d (pt_iald (N' := 10) gx288_301 S tl_132 z5 (fun v10 p10 q10 h10 => ?_))
      have H := H p10 q10
      refine pt_d (pt_iast (N' := 10) gx288_302 S tl_133 h8 h10 (fun h_11 S11 p11 q11 e11 => ?_))
      have H := H p11 q11
      refine pt_d (pt_1 (fun n d => r_aloadn gx288_303 rfl) ?_)
      refine pt_d (pt_1 (fun n d => r_dup gx288_304 rfl) ?_)
      refine pt_d (pt_getI (B := 81) gx288_305 S11 (fun v12 h12 => ?_))
      have h12 : v12.toInt = vw h 72 81 := by rw [h12, e11, up_c (by decide)]
      refine pt_d (pt_iconst gx288_308 (fun v13 h13 => ?_))
      refine pt_d (pt_iadd gx288_309 h12 h13 (fun v14 h14 => ?_))
      refine pt_d (pt_putI (B := 81) gx288_310 S11 h14 (fun h_15 S15 e15 => ?_))
      refine pt_d (pt_iinc (c := 1) gx288_313 rfl z5 (fun v16 h16 => ?_))
      show Pt _ _ _ _ [some (.ref 72), some (.int x1), some (.int x2), some (.int x3), some (.int x4), some (.int v16), u6, u7] [] _ _
      refine pt_d (pt_1 (fun n d => r_goto gx288_316) ?_)
      have H := H h_15 S15 (by rw [e15, e11])
      exact H v16 _ _ h16
    · have H := H.2 e6
      refine pt_d (pt_1 (fun n d => r_goto gx288_284) ?_)
      refine pt_d (pt_iinc (c := 1) gx288_313 rfl z5 (fun v17 h17 => ?_))
      show Pt _ _ _ _ [some (.ref 72), some (.int x1), some (.int x2), some (.int x3), some (.int x4), some (.int v17), u6, u7] [] _ _
      refine pt_d (pt_1 (fun n d => r_goto gx288_316) ?_)
      exact H v17 _ _ h17
def sN0 (b i : Int) : Prop := bAnd (bShr b i) 1 ≠ 0
def R8e (U : vS) (b l : Int) (m : Int) (r : Int) (W : vS) : Prop := r = l ∧ ((∀ (c : Nat) j, c ≠ 72 → c ≠ 133 → W c j = U c j) ∧ ∀ j, j ≠ 81 → W 72 j = U 72 j) ∧ W 72 81 = nQ (sN0 b) m.toNat ∧ ∀ i : Nat, (i : Int) < m → sN0 b (i : Nat) → W 133 (nQ (sN0 b) i) = U 132 (i : Nat)
theorem l_8d {X : aX} {U : vS} {b l m : Int} (hm : 0 ≤ m ∧ m ≤ 10) (um : U 72 79 = m) : ∀ (n : Nat) (h : aH) (x1 x2 x3 x4 x5 : Int32) (u6 u7 : Option Value) (k : Nat), wS h → x3.toInt = b → x4.toInt = l → x5.toInt = (k : Int) → (k : Int) ≤ m → (((∀ (c : Nat) j, c ≠ 72 → c ≠ 133 → vw h c j = U c j) ∧ ∀ j, j ≠ 81 → vw h 72 j = U 72 j) ∧ vw h 72 81 = nQ (sN0 b) k ∧ ∀ i : Nat, i < k → sN0 b (i : Nat) → vw h 133 (nQ (sN0 b) i) = U 132 (i : Nat)) → Pt n X zM288 266 [some (.ref 72), some (.int x1), some (.int x2), some (.int x3), some (.int x4), some (.int x5), u6, u7] [] h (qI (fun r h' => wS h' ∧ R8e U b l m r (vw h'))) := by
  intro n
  induction n with
  | zero => intros; exact pt_z
  | succ n ih =>
    intro h x1 x2 x3 x4 x5 u6 u7 k S h3 h4 h5 hk F
    have F0 := F
    obtain ⟨⟨f1, f2⟩, f4, f5⟩ := F0
    have q := nQ_b (sN0 b) k
    have m79 : vw h 72 79 = m := (f2 79 (by decide)).trans um
    refine d288_266 S rfl rfl h3 h4 h5 ⟨fun e => ⟨S, rfl, ⟨f1, f2⟩, ?_, fun i hi r => f5 i (by omega) r⟩, fun e => ⟨fun z _ _ _ _ g S2 eg w u v g5 => ?_, fun z w u v g5 => ?_⟩⟩
    · rw [f4, show m.toNat = k by omega]
    · replace g5 := w_1 g5 (by omega) (by omega)
      refine ih g x1 x2 x3 x4 w u v (k + 1) S2 h3 h4 (by omega) (by omega) ⟨⟨fun c j a d => ?_, fun j a => ?_⟩, ?_, fun i hi r => ?_⟩
      · rw [eg, up_c a, up_c d]
        exact f1 c j a d
      · rw [eg, up_j a, up_c (by decide)]
        exact f2 j a
      · rw [eg, up_s, f4, nQ_t (show sN0 b (k : Nat) from z), w32_id (by omega) (by omega)]
      · rw [eg, up_c (by decide), up_p, f4]
        by_cases y : i = k
        · rw [y, if_pos rfl]
          exact f1 132 _ (by decide) (by decide)
        · have lt := nQ_lt (R := sN0 b) (show i < k by omega) r
          rw [if_neg (by omega)]
          exact f5 i (by omega) r
    · replace g5 := w_1 g5 (by omega) (by omega)
      have nz : ¬ sN0 b (k : Nat) := fun w => w z
      refine ih h x1 x2 x3 x4 w u v (k + 1) S h3 h4 (by omega) (by omega) ⟨⟨f1, f2⟩, ?_, fun i hi r => ?_⟩
      · rw [nQ_f nz, Int.add_zero]
        exact f4
      · by_cases y : i = k
        · rw [y] at r
          exact absurd r nz
        · exact f5 i (by omega) r
def maN (V : vS) (s : Int) : Nat → Int
  | 0 => 0
  | i + 1 => w32 (maN V s i + (if bAnd (bShr s (i : Nat)) 1 = 1 then V 78 (V 132 (i : Nat)) else 0))
theorem maN_s (V : vS) (s : Int) (i : Nat) : maN V s (i + 1) = w32 (maN V s i + (if bAnd (bShr s (i : Nat)) 1 = 1 then V 78 (V 132 (i : Nat)) else 0)) := rfl
def mBp (V : vS) (y m : Int) (s : Int) (p : Int × Int) : Prop := (p.1 < 0 ∨ maN V s m.toNat < p.2 ∨ (maN V s m.toNat = p.2 ∧ bcn (tb s) 32 < bcn (tb p.1) 32)) ∧ cur V s y
noncomputable def mBs (V : vS) (y m : Int) : Nat → Int × Int
  | 0 => (-1, 0)
  | s + 1 => @ite (Int × Int) (mBp V y m (s : Nat) (mBs V y m s)) (Classical.propDecidable _) (((s : Nat) : Int), maN V (s : Nat) m.toNat) (mBs V y m s)
theorem mBs_t {V : vS} {y m : Int} {s : Nat} (h : mBp V y m (s : Nat) (mBs V y m s)) : mBs V y m (s + 1) = (((s : Nat) : Int), maN V (s : Nat) m.toNat) := if_pos h
theorem mBs_f {V : vS} {y m : Int} {s : Nat} (h : ¬ mBp V y m (s : Nat) (mBs V y m s)) : mBs V y m (s + 1) = mBs V y m s := if_neg h
theorem mBs_b {V : vS} {y m : Int} : ∀ s : Nat, -1 ≤ (mBs V y m s).1 ∧ (mBs V y m s).1 < (s : Int)
  | 0 => by
    show (-1 : Int) ≤ -1 ∧ (-1 : Int) < ((0 : Nat) : Int)
    omega
  | s + 1 => by
    have ih := mBs_b (V := V) (y := y) (m := m) s
    by_cases z : mBp V y m (s : Nat) (mBs V y m s)
    · rw [mBs_t z]
      show (-1 : Int) ≤ (s : Int) ∧ (s : Int) < ((s + 1 : Nat) : Int)
      omega
    · rw [mBs_f z]
      omega
theorem l_8c {X : aX} {h : aH} {y m : Int} (S : wS h) (hN : 0 ≤ vw h 72 19 ∧ vw h 72 19 ≤ 300) (hF : ∀ c, 0 ≤ c → c < 300 → 0 ≤ vw h 88 c ∧ vw h 88 c < 150) (hm : 0 ≤ m ∧ m ≤ 10) (um : vw h 72 79 = m) : ∀ n : Nat, (∀ (x1 x2 x3 x4 x5 : Int32) (u6 u7 : Option Value) (s : Nat), x1.toInt = y → x3.toInt = (mBs (vw h) y m s).1 → x4.toInt = (mBs (vw h) y m s).2 → x5.toInt = (s : Int) → s ≤ 2 ^ m.toNat → Pt n X zM288 138 [some (.ref 72), some (.int x1), some (.int x2), some (.int x3), some (.int x4), some (.int x5), u6, u7] [] h (qI (fun r h' => wS h' ∧ R8e (vw h) (mBs (vw h) y m (2 ^ m.toNat)).1 (mBs (vw h) y m (2 ^ m.toNat)).2 m r (vw h')))) ∧
    (∀ (x1 x2 x3 x4 x5 x6 x7 : Int32) (s k : Nat), x1.toInt = y → x3.toInt = (mBs (vw h) y m s).1 → x4.toInt = (mBs (vw h) y m s).2 → x5.toInt = (s : Int) → (s : Int) < ((2 ^ m.toNat : Nat) : Int) → x6.toInt = maN (vw h) (s : Nat) k → x7.toInt = (k : Int) → (k : Int) ≤ m → Pt n X zM288 155 [some (.ref 72), some (.int x1), some (.int x2), some (.int x3), some (.int x4), some (.int x5), some (.int x6), some (.int x7)] [] h (qI (fun r h' => wS h' ∧ R8e (vw h) (mBs (vw h) y m (2 ^ m.toNat)).1 (mBs (vw h) y m (2 ^ m.toNat)).2 m r (vw h')))) := by
  have e2 : bShl 1 m = ((2 ^ m.toNat : Nat) : Int) := by
    have := shl1 ⟨m.toNat, by omega⟩
    rw [show (((⟨m.toNat, by omega⟩ : Fin 11).val : Nat) : Int) = m by show ((m.toNat : Nat) : Int) = m; omega] at this
    exact this
  have pb := p2_b hm
  intro n
  induction n with
  | zero => exact ⟨by intros; exact pt_z, by intros; exact pt_z⟩
  | succ n ih =>
    refine ⟨fun x1 x2 x3 x4 x5 u6 u7 s h1 h3 h4 h5 hs => ?_, fun x1 x2 x3 x4 x5 x6 x7 s k h1 h3 h4 h5 hs h6 h7 hk => ?_⟩
    · refine d288_138 S h1 rfl h3 h4 h5 ⟨fun e g S2 eg w u v g5 => ?_, fun e w6 w7 g6 g7 => ?_⟩
      · rw [um, e2] at e
        have es : s = 2 ^ m.toNat := by
          generalize 2 ^ m.toNat = u at e hs ⊢
          omega
        rw [es] at h3 h4
        exact l_8d (U := vw h) hm um n g x1 x2 x3 x4 w u v 0 S2 h3 h4 g5 hm.1 ⟨⟨fun c j a _ => by rw [eg, up_c a], fun j a => by rw [eg, up_j a]⟩, by rw [eg, up_s]; rfl, fun i hi => absurd hi (Nat.not_lt_zero _)⟩
      · rw [um, e2] at e
        exact ih.2 x1 x2 x3 x4 x5 w6 w7 s 0 h1 h3 h4 h5 e g6 g7 hm.1
    · have mb := mBs_b (V := vw h) (y := y) (m := m) s
      have hP : ((0 ≤ vw h 72 19 ∧ vw h 72 19 ≤ 300) ∧ ∀ c, 0 ≤ c → c < 300 → 0 ≤ vw h 88 c ∧ vw h 88 c < 150) ∧ 0 ≤ vw h 72 79 ∧ vw h 72 79 ≤ 10 := ⟨⟨hN, hF⟩, by omega, by omega⟩
      have nx : ∀ w : Int32, w.toInt = w32 ((s : Int) + 1) → w.toInt = ((s + 1 : Nat) : Int) ∧ s + 1 ≤ 2 ^ m.toNat := fun w g => by
        replace g := w_1 g (by omega) (by omega)
        refine ⟨by omega, ?_⟩
        generalize 2 ^ m.toNat = u at hs ⊢
        omega
      have keep : ¬ mBp (vw h) y m (s : Nat) (mBs (vw h) y m s) → ∀ (w : Int32) (u v : Option Value), w.toInt = w32 ((s : Int) + 1) → Pt n X zM288 138 [some (.ref 72), some (.int x1), some (.int x2), some (.int x3), some (.int x4), some (.int w), u, v] [] h (qI (fun r h' => wS h' ∧ R8e (vw h) (mBs (vw h) y m (2 ^ m.toNat)).1 (mBs (vw h) y m (2 ^ m.toNat)).2 m r (vw h'))) := fun z w u v g =>
        ih.1 x1 x2 x3 x4 w u v (s + 1) h1 (by rw [mBs_f z]; exact h3) (by rw [mBs_f z]; exact h4) (nx w g).1 (nx w g).2
      have take : (k : Int) = m → mBp (vw h) y m (s : Nat) (mBs (vw h) y m s) → ∀ (w : Int32) (u v : Option Value), w.toInt = w32 ((s : Int) + 1) → Pt n X zM288 138 [some (.ref 72), some (.int x1), some (.int x2), some (.int x5), some (.int x6), some (.int w), u, v] [] h (qI (fun r h' => wS h' ∧ R8e (vw h) (mBs (vw h) y m (2 ^ m.toNat)).1 (mBs (vw h) y m (2 ^ m.toNat)).2 m r (vw h'))) := fun ek z w u v g =>
        ih.1 x1 x2 x5 x6 w u v (s + 1) h1 (by rw [mBs_t z]; exact h5) (by rw [mBs_t z, h6]; exact congrArg (maN (vw h) (s : Nat)) (by omega)) (nx w g).1 (nx w g).2
      refine d288_155 S h1 rfl h3 h4 h5 h6 h7 ⟨fun e => ?_, fun e => ⟨fun z w6 w7 g6 g7 => ?_, fun z _ _ _ _ w6 w7 g6 g7 => ?_⟩⟩
      · rw [um] at e
        have ek : (k : Int) = m := by omega
        have en : m.toNat = k := by omega
        refine ⟨fun b0 => ⟨hP, fun c w u v g => take ek ⟨Or.inl b0, c⟩ w u v g, fun c w u v g => keep (fun z => c z.2) w u v g⟩, fun b0 => ⟨fun lt w u v g => keep (fun z => ?_) w u v g, fun le => ⟨fun ne => ⟨hP, fun c w u v g => take ek ⟨Or.inr (Or.inl (by rw [en]; omega)), c⟩ w u v g, fun c w u v g => keep (fun z => c z.2) w u v g⟩, fun eq => ⟨⟨by omega, by omega⟩, ⟨by omega, by omega⟩, fun bl w u v g => keep (fun z => ?_) w u v g, fun bl => ⟨hP, fun c w u v g => take ek ⟨Or.inr (Or.inr ⟨by rw [en]; exact eq, bl⟩), c⟩ w u v g, fun c w u v g => keep (fun z => c z.2) w u v g⟩⟩⟩⟩⟩
        · obtain ⟨z, -⟩ := z
          rw [en] at z
          omega
        · obtain ⟨z, -⟩ := z
          rw [en] at z
          omega
      · replace g7 := w_1 g7 (by omega) (by omega)
        rw [um] at e
        refine ih.2 x1 x2 x3 x4 x5 w6 w7 s (k + 1) h1 h3 h4 h5 hs ?_ (by omega) (by omega)
        rw [maN_s, if_neg z]
        exact g6
      · replace g7 := w_1 g7 (by omega) (by omega)
        rw [um] at e
        refine ih.2 x1 x2 x3 x4 x5 w6 w7 s (k + 1) h1 h3 h4 h5 hs ?_ (by omega) (by omega)
        rw [maN_s, if_pos z]
        exact g6
def TM (V : vS) (y b : Int) : Prop := mField V b ∧ hasT V b y
theorem mMt_w {V W : vS} (e : ∀ j, W 80 j = V 80 j) (a b : Int) : mMt W a b ↔ mMt V a b := by
  unfold mMt
  simp only [e]
theorem hasT_w {V W : vS} (e : ∀ (c : Nat) j, c ≠ 72 → c ≠ 132 → W c j = V c j) (e19 : W 72 19 = V 72 19) (b y : Int) : hasT W b y ↔ hasT V b y := by
  unfold hasT inY mTr
  simp only [mMt_w (fun j => e 80 j (by decide) (by decide)), e 103 _ (show 103 ≠ 72 by decide) (show 103 ≠ 132 by decide), e 90 _ (show 90 ≠ 72 by decide) (show 90 ≠ 132 by decide), e 88 _ (show 88 ≠ 72 by decide) (show 88 ≠ 132 by decide), e 87 _ (show 87 ≠ 72 by decide) (show 87 ≠ 132 by decide), e19]
theorem TM_w {V W : vS} (e : ∀ (c : Nat) j, c ≠ 72 → c ≠ 132 → W c j = V c j) (e2 : ∀ j, j ≠ 79 → W 72 j = V 72 j) (b y : Int) : (mField W b ↔ mField V b) ∧ (hasT W b y ↔ hasT V b y) := by
  refine ⟨?_, hasT_w e (e2 19 (by decide)) b y⟩
  unfold mField mBody
  rw [e2 2 (by decide), e 73 b (by decide) (by decide)]
def R288 (V : vS) (y r : Int) (W : vS) : Prop := (10 < nQ (TM V y) (V 72 2).toNat ∧ r = -4 ∧ W = V) ∨ (nQ (TM V y) (V 72 2).toNat ≤ 10 ∧ ∃ U : vS, ((∀ (c : Nat) j, c ≠ 72 → c ≠ 132 → U c j = V c j) ∧ ∀ j, j ≠ 79 → U 72 j = V 72 j) ∧ U 72 79 = nQ (TM V y) (V 72 2).toNat ∧ (∀ b : Nat, (b : Int) < V 72 2 → TM V y (b : Nat) → U 132 (nQ (TM V y) b) = (b : Nat)) ∧ R8e U (mBs U y (nQ (TM V y) (V 72 2).toNat) (2 ^ (nQ (TM V y) (V 72 2).toNat).toNat)).1 (mBs U y (nQ (TM V y) (V 72 2).toNat) (2 ^ (nQ (TM V y) (V 72 2).toNat).toNat)).2 (nQ (TM V y) (V 72 2).toNat) r W)
theorem l_8b {X : aX} {V : vS} {y : Int} (hn : 0 ≤ V 72 2 ∧ V 72 2 ≤ 150) (hN : 0 ≤ V 72 19 ∧ V 72 19 ≤ 300) (hF : ∀ c, 0 ≤ c → c < 300 → 0 ≤ V 88 c ∧ V 88 c < 150) (h10 : nQ (TM V y) (V 72 2).toNat ≤ 10) : ∀ (n : Nat) (h : aH) (x1 x2 x3 : Int32) (k : Nat), wS h → x1.toInt = y → x3.toInt = (k : Int) → (k : Int) ≤ V 72 2 → (((∀ (c : Nat) j, c ≠ 72 → c ≠ 132 → vw h c j = V c j) ∧ ∀ j, j ≠ 79 → vw h 72 j = V 72 j) ∧ vw h 72 79 = nQ (TM V y) k ∧ ∀ b : Nat, b < k → TM V y (b : Nat) → vw h 132 (nQ (TM V y) b) = (b : Nat)) → Pt n X zM288 76 [some (.ref 72), some (.int x1), some (.int x2), some (.int x3), none, none, none, none] [] h (qI (fun r h' => wS h' ∧ R288 V y r (vw h'))) := by
  intro n
  induction n with
  | zero => intros; exact pt_z
  | succ n ih =>
    intro h x1 x2 x3 k S h1 h3 hk F
    obtain ⟨⟨f1, f2⟩, f79, fl⟩ := F
    obtain ⟨tf, th⟩ := TM_w f1 f2 (k : Nat) y
    have n2 := f2 2 (by decide)
    have b := nQ_b (TM V y) k
    have hF' : ∀ c, 0 ≤ c → c < 300 → 0 ≤ vw h 88 c ∧ vw h 88 c < 150 := fun c a d => by rw [f1 88 c (by decide) (by decide)]; exact hF c a d
    have hN' : 0 ≤ vw h 72 19 ∧ vw h 72 19 ≤ 300 := by rw [f2 19 (by decide)]; exact hN
    have skip : (k : Int) < vw h 72 2 → ¬ TM V y (k : Nat) → ∀ w : Int32, w.toInt = w32 ((k : Int) + 1) → Pt n X zM288 76 [some (.ref 72), some (.int x1), some (.int x2), some (.int w), none, none, none, none] [] h (qI (fun r h' => wS h' ∧ R288 V y r (vw h'))) := by
      intro e z w g
      replace g := w_1 g (by omega) (by omega)
      refine ih h x1 x2 w (k + 1) S h1 (by omega) (by omega) ⟨⟨f1, f2⟩, ?_, fun b' hb r => ?_⟩
      · rw [nQ_f z, Int.add_zero]; exact f79
      · by_cases q : b' = k
        · rw [q] at r
          exact absurd r z
        · exact fl b' (by omega) r
    refine d288_76 S h1 rfl h3 ⟨fun e w3 w4 w5 u v g3 g4 g5 => ?_, fun e => ⟨fun z w g => skip e (fun q => z (tf.mpr q.1)) w g, fun z => ⟨⟨hN', hF'⟩, fun z2 _ _ g S2 eg w g3 => ?_, fun z2 w g => skip e (fun q => z2 (th.mpr q.2)) w g⟩⟩⟩
    · have kn : (V 72 2).toNat = k := by omega
      rw [kn] at h10
      refine pt_q ((l_8c (m := nQ (TM V y) k) S hN' hF' ⟨b.1, h10⟩ f79 n).1 x1 x2 w3 w4 w5 u v 0 h1 g3 g4 g5 (Nat.zero_le _)) ?_
      rintro v h' ⟨x, ev, S', R⟩
      refine ⟨x, ev, S', Or.inr ⟨by rw [kn]; exact h10, vw h, ⟨f1, f2⟩, by rw [kn]; exact f79, fun b' hb r => fl b' (by omega) r, ?_⟩⟩
      rw [kn]
      exact R
    · have t : TM V y (k : Nat) := ⟨tf.mp z, th.mp z2⟩
      replace g3 := w_1 g3 (by omega) (by omega)
      refine ih g x1 x2 w (k + 1) S2 h1 (by omega) (by omega) ⟨⟨fun c j a d => ?_, fun j a => ?_⟩, ?_, fun b' hb r => ?_⟩
      · rw [eg, up_c a, up_c d]
        exact f1 c j a d
      · rw [eg, up_j a, up_c (by decide)]
        exact f2 j a
      · rw [eg, up_s, f79, nQ_t t, w32_id (by omega) (by omega)]
      · rw [eg, up_c (by decide), up_p, f79]
        by_cases q : b' = k
        · rw [q, if_pos rfl]
        · have lt := nQ_lt (R := TM V y) (show b' < k by omega) r
          rw [if_neg (by omega)]
          exact fl b' (by omega) r
theorem l_8a {X : aX} {h : aH} {y : Int} (S : wS h) (hn : 0 ≤ vw h 72 2 ∧ vw h 72 2 ≤ 150) (hN : 0 ≤ vw h 72 19 ∧ vw h 72 19 ≤ 300) (hF : ∀ c, 0 ≤ c → c < 300 → 0 ≤ vw h 88 c ∧ vw h 88 c < 150) : ∀ (n : Nat) (x1 x2 x3 : Int32) (k : Nat), x1.toInt = y → x2.toInt = nQ (TM (vw h) y) k → x3.toInt = (k : Int) → (k : Int) ≤ vw h 72 2 → Pt n X zM288 21 [some (.ref 72), some (.int x1), some (.int x2), some (.int x3), none, none, none, none] [] h (qI (fun r h' => wS h' ∧ R288 (vw h) y r (vw h'))) := by
  intro n
  induction n with
  | zero => intros; exact pt_z
  | succ n ih =>
    intro x1 x2 x3 k h1 h2 h3 hk
    have b := nQ_b (TM (vw h) y) k
    have skip : (k : Int) < vw h 72 2 → ¬ TM (vw h) y (k : Nat) → ∀ w2 w : Int32, w2.toInt = w32 (nQ (TM (vw h) y) k + 0) → w.toInt = w32 ((k : Int) + 1) → Pt n X zM288 21 [some (.ref 72), some (.int x1), some (.int w2), some (.int w), none, none, none, none] [] h (qI (fun r h' => wS h' ∧ R288 (vw h) y r (vw h'))) := by
      intro e z w2 w g2 g
      replace g := w_1 g (by omega) (by omega)
      replace g2 := w_1 g2 (by omega) (by omega)
      exact ih x1 w2 w (k + 1) h1 (by rw [nQ_f z]; exact g2) (by omega) (by omega)
    refine d288_21 S h1 h2 h3 ⟨fun e => ⟨fun le g S2 eg w g3 => ?_, fun gt => ⟨S, Or.inl ⟨?_, rfl, rfl⟩⟩⟩, fun e => ⟨fun z w2 w g2 g => skip e (fun q => z q.1) w2 w g2 g, fun z => ⟨⟨hN, hF⟩, fun z2 w2 w g2 g => skip e (fun q => z2 q.2) w2 w g2 g, fun z2 w2 w g2 g => ?_⟩⟩⟩
    · have kn : (vw h 72 2).toNat = k := by omega
      exact l_8b (V := vw h) hn hN hF (by rw [kn]; exact le) n g x1 x2 w 0 S2 h1 g3 hn.1 ⟨⟨fun c j a _ => by rw [eg, up_c a], fun j a => by rw [eg, up_j a]⟩, by rw [eg, up_s]; rfl, fun b' hb => absurd hb (Nat.not_lt_zero _)⟩
    · have kn : (vw h 72 2).toNat = k := by omega
      rw [kn]
      exact gt
    · replace g := w_1 g (by omega) (by omega)
      replace g2 := w_1 g2 (by omega) (by omega)
      exact ih x1 w2 w (k + 1) h1 (by rw [nQ_t (P := TM (vw h) y) ⟨z, z2⟩]; exact g2) (by omega) (by omega)
def R88 (V : vS) (y r : Int) (W : vS) : Prop := (¬ (0 ≤ y ∧ y ≤ 9) ∧ r = -1 ∧ W = V) ∨ ((0 ≤ y ∧ y ≤ 9) ∧ ∃ G, R239 V (V 72 1) G ∧ R288 G y r W)
theorem c_288w {n : Nat} {X : aX} {h : aH} {x1 : Int32} {a1 : Int} (S : wS h) (z1 : x1.toInt = a1) (I : IV h) : Pt n X zM288 0 [some (.ref 72), some (.int x1), none, none, none, none, none, none] [] h (qI (fun r h' => ((0 ≤ vw h 72 2 ∧ vw h 72 2 ≤ 150) ∧ (∀ c, 0 ≤ c → c < 300 → 0 ≤ vw h 88 c ∧ vw h 88 c < 150) → R88 (vw h) a1 r (vw h')) ∧ IV h')) := by
  have c : (0 ≤ vw h 72 2 ∧ vw h 72 2 ≤ 150) ∧ (∀ c, 0 ≤ c → c < 300 → 0 ≤ vw h 88 c ∧ vw h 88 c < 150) → Pt n X zM288 0 [some (.ref 72), some (.int x1), none, none, none, none, none, none] [] h (qI (fun r h' => R88 (vw h) a1 r (vw h'))) := fun hh => by
    refine pt_d (d288_0 S z1 ⟨fun e => ⟨I.2.2.2, fun g R w2 w3 g2 g3 => ?_⟩, fun e => Or.inl ⟨e, rfl, rfl⟩⟩)
    obtain ⟨S2, R⟩ := R
    have A := R.1.1
    refine pt_q (l_8a (y := a1) S2 (by rw [agR_y A (by decide) (by decide)]; exact hh.1) (by rw [agR_y A (by decide) (by decide)]; exact I.2.2.2.1) (fun c u v => by rw [agR_x A 88 c (by decide) (by decide)]; exact hh.2 c u v) n x1 w2 w3 0 z1 g2 g3 (by rw [agR_y A (by decide) (by decide)]; exact hh.1.1)) ?_
    rintro v h' ⟨x, ev, -, r⟩
    exact ⟨x, ev, Or.inr ⟨e, vw g, R, r⟩⟩
  by_cases hh : (0 ≤ vw h 72 2 ∧ vw h 72 2 ≤ 150) ∧ (∀ c, 0 ≤ c → c < 300 → 0 ≤ vw h 88 c ∧ vw h 88 c < 150)
  · refine pt_q (pt_and (c hh) (wk_288 S z1 I)) ?_
    rintro v h' ⟨⟨x, ev, r⟩, ⟨x', -, -, -, I'⟩⟩
    exact ⟨x, ev, fun _ => r, I'⟩
  · refine pt_q (wk_288 S z1 I) ?_
    rintro v h' ⟨x', ev, -, -, I'⟩
    exact ⟨x', ev, fun z => absurd z hh, I'⟩
def R175 (h : aH) (y r : Int) (h' : aH) : Prop := (¬ (0 ≤ y ∧ y ≤ 9) ∧ r = -1 ∧ h' = h) ∨ ((0 ≤ y ∧ y ≤ 9) ∧ ∃ q g, R1 h y (vw h 1 0) q g ∧ R53 (vw g) q r (vw h'))
theorem c_175w {n : Nat} {X : aX} {h : aH} {x1 : Int32} {a1 : Int} (S : wS h) (z1 : x1.toInt = a1) (I : IV h) : Pt n X zM175 0 [some (.ref 0), some (.int x1)] [] h (qI (fun r h' => R175 h a1 r h' ∧ IV h')) := by
  have c : Pt n X zM175 0 [some (.ref 0), some (.int x1)] [] h (qI (fun r h' => R175 h a1 r h')) := by
    refine pt_d (d175_0 S z1 ⟨fun e => Or.inl ⟨e, rfl, rfl⟩, fun e => ⟨p1_any I a1, fun q g R => ?_⟩⟩)
    have I1 := IV_1 I R.2
    have k := R1_k e (p1_any I a1) (by
      by_cases z : vw h 42 a1 = (q : Int)
      · exact Or.inl (hn_IV I q ⟨a1, e, z.symm⟩)
      · exact Or.inr z) R.2
    exact ⟨⟨⟨R.2.1.1, k.1, k.2.1⟩, I1.1.1.1, I1.1.2.2.2.2.1⟩, fun r h' R2 => Or.inr ⟨e, q, g, R.2, R2.2⟩⟩
  refine pt_q (pt_and c (wk_175 S z1 I)) ?_
  rintro v h' ⟨⟨x, ev, r⟩, ⟨x', -, -, -, I'⟩⟩
  exact ⟨x, ev, r, I'⟩


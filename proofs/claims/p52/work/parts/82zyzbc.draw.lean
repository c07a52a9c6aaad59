-- ===== 82zyzbc.draw: 2 texts =====
section
-- ===== the draw =====
theorem d292_0 {n : Nat} {X : aX} {h : aH} {P : Int → aH → Prop} {x1 x2 x3 : Int32} {a1 a2 a3 : Int} (S : wS h) (z1 : x1.toInt = a1) (z2 : x2.toInt = a2) (z3 : x3.toInt = a3) (H : ((¬ (0 ≤ a1 ∧ a1 ≤ 3) → P (-1) h) ∧ ((0 ≤ a1 ∧ a1 ≤ 3) → ((¬ (0 ≤ a2 ∧ a2 ≤ 9) → P (-1) h) ∧ ((0 ≤ a2 ∧ a2 ≤ 9) → (((1 ≤ a3 ∧ a3 ≤ 9) → ((q239 (vw h)) ∧ ∀ (h_12 : aH), (wS h_12 ∧ R239 (vw h) (vw h 72 1) (vw h_12)) → (∀ (w4 : Int32) (w5 : Int32), w4.toInt = 0 → w5.toInt = 0 → Pt n X zM292 40 [some (.ref 72), some (.int x1), some (.int x2), some (.int x3), some (.int w4), some (.int w5), none, none, none, none] [] h_12 (qI P)))) ∧ (¬ (1 ≤ a3 ∧ a3 ≤ 9) → P (-1) h))))))) : Pt (n + 1) X zM292 0 [some (.ref 72), some (.int x1), some (.int x2), some (.int x3), none, none, none, none, none, none] [] h (qI P) := by
  refine pt_1 (fun n d => r_iloadn gx292_0 rfl) ?_
  refine pt_d (pt_stat (as := [.int x1]) (r := []) gx292_1 rfl (show zmt[206]? = some zM206 from rfl) rfl rfl rfl rfl (c_206 S z1) (kqP (fun v1 h1 => ?_)))
  show Pt _ _ _ 4 _ [.int v1] _ _
  refine pt_d (pt_ifB_eq gx292_4 h1 (fun e2 => ?_) (fun e2 => ?_))
  · have H := H.1 e2
    refine pt_d (pt_iconst gx292_24 (fun v3 h3 => ?_))
    exact pt_d (pt_iret gx292_25 ⟨_, rfl, by rw [h3]; exact H⟩)
  · have H := H.2 e2
    refine pt_d (pt_1 (fun n d => r_iloadn gx292_7 rfl) ?_)
    refine pt_d (pt_stat (as := [.int x2]) (r := []) gx292_8 rfl (show zmt[198]? = some zM198 from rfl) rfl rfl rfl rfl (c_198 S z2) (kqP (fun v4 h4 => ?_)))
    show Pt _ _ _ 11 _ [.int v4] _ _
    refine pt_d (pt_ifB_eq gx292_11 h4 (fun e5 => ?_) (fun e5 => ?_))
    · have H := H.1 e5
      refine pt_d (pt_iconst gx292_24 (fun v6 h6 => ?_))
      exact pt_d (pt_iret gx292_25 ⟨_, rfl, by rw [h6]; exact H⟩)
    · have H := H.2 e5
      refine pt_d (pt_1 (fun n d => r_iloadn gx292_14 rfl) ?_)
      refine pt_d (pt_iconst gx292_15 (fun v7 h7 => ?_))
      refine pt_d (pt_bipush gx292_16 (fun v8 h8 => ?_))
      refine pt_d (pt_stat (as := [.int x3, .int v7, .int v8]) (r := []) gx292_18 rfl (show zmt[196]? = some zM196 from rfl) rfl rfl rfl rfl (c_196 S z3 h7 h8) (kqP (fun v9 h9 => ?_)))
      show Pt _ _ _ 21 _ [.int v9] _ _
      refine pt_d (pt_ifB_ne gx292_21 h9 (fun e10 => ?_) (fun e10 => ?_))
      · have H := H.1 e10
        refine pt_d (pt_1 (fun n d => r_aloadn gx292_26 rfl) ?_)
        refine pt_d (pt_1 (fun n d => r_aloadn gx292_27 rfl) ?_)
        refine pt_d (pt_getI (B := 1) gx292_28 S (fun v11 h11 => ?_))
        obtain ⟨pr12, H⟩ := H
        refine pt_d (pt_virt (as := [.int v11]) (r := []) gx292_31 rfl (show zmt[239]? = some zM239 from rfl) rfl rfl rfl rfl (c_239 S h11 pr12) (kqN (fun h_12 P12 => ?_)))
        have S12 := P12.1
        have H := H h_12 P12
        show Pt _ _ _ 34 _ [] _ _
        refine pt_d (pt_iconst gx292_34 (fun v13 h13 => ?_))
        refine pt_d (pt_1 (fun n d => r_istore (L' := [some (.ref 72), some (.int x1), some (.int x2), some (.int x3), some (.int v13), none, none, none, none, none]) gx292_35 rfl rfl) ?_)
        refine pt_d (pt_iconst gx292_37 (fun v14 h14 => ?_))
        refine pt_d (pt_1 (fun n d => r_istore (L' := [some (.ref 72), some (.int x1), some (.int x2), some (.int x3), some (.int v13), some (.int v14), none, none, none, none]) gx292_38 rfl rfl) ?_)
        exact H v13 v14 h13 h14
      · have H := H.2 e10
        refine pt_d (pt_iconst gx292_24 (fun v15 h15 => ?_))
        exact pt_d (pt_iret gx292_25 ⟨_, rfl, by rw [h15]; exact H⟩)
theorem d292_40 {n : Nat} {X : aX} {h : aH} {P : Int → aH → Prop} {x1 x2 x3 x4 x5 : Int32} {a1 a2 a3 a4 a5 : Int} (S : wS h) (z1 : x1.toInt = a1) (z2 : x2.toInt = a2) (z3 : x3.toInt = a3) (z4 : x4.toInt = a4) (z5 : x5.toInt = a5) (H : ((vw h 72 2 ≤ a5 → (∀ (w5 : Int32) (w6 : Int32) (u7_ : Option Value) (u8_ : Option Value) (u9_ : Option Value), w5.toInt = min a3 a4 → w6.toInt = 0 → Pt n X zM292 128 [some (.ref 72), some (.int x1), some (.int x2), some (.int x3), some (.int x4), some (.int w5), some (.int w6), u7_, u8_, u9_] [] h (qI P))) ∧ (a5 < vw h 72 2 → ((¬ (mFarm (vw h) a5) → (0 ≤ a5 → a5 < 150 → ((bAnd 0 1 = 0 → ∀ h_9 : aH, wS h_9 → vw h_9 = up (vw h) 135 a5 (bAnd 0 1) → (∀ (w4 : Int32) (w5 : Int32), w4.toInt = w32 (a4 + 0) → w5.toInt = w32 (a5 + 1) → Pt n X zM292 40 [some (.ref 72), some (.int x1), some (.int x2), some (.int x3), some (.int w4), some (.int w5), none, none, none, none] [] h_9 (qI P))) ∧ (bAnd 0 1 ≠ 0 → ∀ h_9 : aH, wS h_9 → vw h_9 = up (vw h) 135 a5 (bAnd 0 1) → (∀ (w4 : Int32) (w5 : Int32), w4.toInt = w32 (a4 + 1) → w5.toInt = w32 (a5 + 1) → Pt n X zM292 40 [some (.ref 72), some (.int x1), some (.int x2), some (.int x3), some (.int w4), some (.int w5), none, none, none, none] [] h_9 (qI P)))))) ∧ ((mFarm (vw h) a5) → (0 ≤ a5 → a5 < 150 → ((vw h 74 a5 ≠ a1 → ((bAnd 0 1 = 0 → ∀ h_23 : aH, wS h_23 → vw h_23 = up (vw h) 135 a5 (bAnd 0 1) → (∀ (w4 : Int32) (w5 : Int32), w4.toInt = w32 (a4 + 0) → w5.toInt = w32 (a5 + 1) → Pt n X zM292 40 [some (.ref 72), some (.int x1), some (.int x2), some (.int x3), some (.int w4), some (.int w5), none, none, none, none] [] h_23 (qI P))) ∧ (bAnd 0 1 ≠ 0 → ∀ h_23 : aH, wS h_23 → vw h_23 = up (vw h) 135 a5 (bAnd 0 1) → (∀ (w4 : Int32) (w5 : Int32), w4.toInt = w32 (a4 + 1) → w5.toInt = w32 (a5 + 1) → Pt n X zM292 40 [some (.ref 72), some (.int x1), some (.int x2), some (.int x3), some (.int w4), some (.int w5), none, none, none, none] [] h_23 (qI P))))) ∧ (vw h 74 a5 = a1 → ((0 ≤ vw h 72 19 ∧ vw h 72 19 ≤ 300) ∧ ((¬ (∃ c, (0 ≤ c ∧ c < vw h 72 19) ∧ (vw h 103 c ≠ 0 ∧ vw h 87 c = a5 ∧ iDiv (vw h 90 c) 365 = a2)) → ((bAnd 0 1 = 0 → ∀ h_36 : aH, wS h_36 → vw h_36 = up (vw h) 135 a5 (bAnd 0 1) → (∀ (w4 : Int32) (w5 : Int32), w4.toInt = w32 (a4 + 0) → w5.toInt = w32 (a5 + 1) → Pt n X zM292 40 [some (.ref 72), some (.int x1), some (.int x2), some (.int x3), some (.int w4), some (.int w5), none, none, none, none] [] h_36 (qI P))) ∧ (bAnd 0 1 ≠ 0 → ∀ h_36 : aH, wS h_36 → vw h_36 = up (vw h) 135 a5 (bAnd 0 1) → (∀ (w4 : Int32) (w5 : Int32), w4.toInt = w32 (a4 + 1) → w5.toInt = w32 (a5 + 1) → Pt n X zM292 40 [some (.ref 72), some (.int x1), some (.int x2), some (.int x3), some (.int w4), some (.int w5), none, none, none, none] [] h_36 (qI P))))) ∧ ((∃ c, (0 ≤ c ∧ c < vw h 72 19) ∧ (vw h 103 c ≠ 0 ∧ vw h 87 c = a5 ∧ iDiv (vw h 90 c) 365 = a2)) → ((bAnd 1 1 = 0 → ∀ h_47 : aH, wS h_47 → vw h_47 = up (vw h) 135 a5 (bAnd 1 1) → (∀ (w4 : Int32) (w5 : Int32), w4.toInt = w32 (a4 + 0) → w5.toInt = w32 (a5 + 1) → Pt n X zM292 40 [some (.ref 72), some (.int x1), some (.int x2), some (.int x3), some (.int w4), some (.int w5), none, none, none, none] [] h_47 (qI P))) ∧ (bAnd 1 1 ≠ 0 → ∀ h_47 : aH, wS h_47 → vw h_47 = up (vw h) 135 a5 (bAnd 1 1) → (∀ (w4 : Int32) (w5 : Int32), w4.toInt = w32 (a4 + 1) → w5.toInt = w32 (a5 + 1) → Pt n X zM292 40 [some (.ref 72), some (.int x1), some (.int x2), some (.int x3), some (.int w4), some (.int w5), none, none, none, none] [] h_47 (qI P))))))))))))))) : Pt (n + 1) X zM292 40 [some (.ref 72), some (.int x1), some (.int x2), some (.int x3), some (.int x4), some (.int x5), none, none, none, none] [] h (qI P) := by
  refine pt_1 (fun n d => r_iload gx292_40 rfl) ?_
  refine pt_d (pt_1 (fun n d => r_aloadn gx292_42 rfl) ?_)
  refine pt_d (pt_getI (B := 2) gx292_43 S (fun v1 h1 => ?_))
  refine pt_d (pt_icmp_ge gx292_46 z5 h1 (fun e2 => ?_) (fun e2 => ?_))
  · have H := H.1 e2
    refine pt_d (pt_1 (fun n d => r_iloadn gx292_117 rfl) ?_)
    refine pt_d (pt_1 (fun n d => r_iload gx292_118 rfl) ?_)
    refine pt_d (pt_stat (as := [.int x3, .int x4]) (r := []) gx292_120 rfl (show zmt[211]? = some zM211 from rfl) rfl rfl rfl rfl (c_211 S z3 z4) (kqP (fun v3 h3 => ?_)))
    show Pt _ _ _ 123 _ [.int v3] _ _
    refine pt_d (pt_1 (fun n d => r_istore (L' := [some (.ref 72), some (.int x1), some (.int x2), some (.int x3), some (.int x4), some (.int v3), none, none, none, none]) gx292_123 rfl rfl) ?_)
    refine pt_d (pt_iconst gx292_125 (fun v4 h4 => ?_))
    refine pt_d (pt_1 (fun n d => r_istore (L' := [some (.ref 72), some (.int x1), some (.int x2), some (.int x3), some (.int x4), some (.int v3), some (.int v4), none, none, none]) gx292_126 rfl rfl) ?_)
    exact H v3 v4 _ _ _ h3 h4
  · have H := H.2 e2
    refine pt_d (pt_1 (fun n d => r_aloadn gx292_49 rfl) ?_)
    refine pt_d (pt_getR gx292_50 S tr_72_86 ?_)
    refine pt_d (pt_1 (fun n d => r_iload gx292_53 rfl) ?_)
    refine pt_d (pt_1 (fun n d => r_aloadn gx292_55 rfl) ?_)
    refine pt_d (pt_1 (fun n d => r_iload gx292_56 rfl) ?_)
    refine pt_d (pt_virt (as := [.int x5]) (r := [.int x5, .ref 135]) gx292_58 rfl (show zmt[202]? = some zM202 from rfl) rfl rfl rfl rfl (c_202 S z5) (kqP (fun v6 h6 => ?_)))
    show Pt _ _ _ 61 _ [.int v6, .int x5, .ref 135] _ _
    refine pt_d (pt_ifB_eq gx292_61 h6 (fun e7 => ?_) (fun e7 => ?_))
    · have H := H.1 e7
      refine pt_d (pt_iconst gx292_89 (fun v8 h8 => ?_))
      refine pt_d (pt_zast (N' := 150) gx292_90 S tl_135 z5 h8 (fun h_9 S9 p9 q9 e9 => ?_))
      have H := H p9 q9
      refine pt_d (pt_1 (fun n d => r_iload gx292_91 rfl) ?_)
      refine pt_d (pt_1 (fun n d => r_aloadn gx292_93 rfl) ?_)
      refine pt_d (pt_getR gx292_94 S9 tr_72_86 ?_)
      refine pt_d (pt_1 (fun n d => r_iload gx292_97 rfl) ?_)
      refine pt_d (pt_zald (N' := 150) gx292_99 S9 tl_135 z5 (fun v11 p11 q11 h11 => ?_))
      have h11 : v11.toInt = bAnd 0 1 := by rw [h11, e9, up_s]
      refine pt_d (pt_if_eq gx292_100 h11 (fun e12 => ?_) (fun e12 => ?_))
      · have H := H.1 e12
        refine pt_d (pt_iconst gx292_107 (fun v13 h13 => ?_))
        refine pt_d (pt_iadd gx292_108 z4 h13 (fun v14 h14 => ?_))
        refine pt_d (pt_1 (fun n d => r_istore (L' := [some (.ref 72), some (.int x1), some (.int x2), some (.int x3), some (.int v14), some (.int x5), none, none, none, none]) gx292_109 rfl rfl) ?_)
        refine pt_d (pt_iinc (c := 1) gx292_111 rfl z5 (fun v15 h15 => ?_))
        show Pt _ _ _ _ [some (.ref 72), some (.int x1), some (.int x2), some (.int x3), some (.int v14), some (.int v15), none, none, none, none] [] _ _
        refine pt_d (pt_1 (fun n d => r_goto gx292_114) ?_)
        have H := H h_9 S9 (by rw [e9])
        exact H v14 v15 h14 h15
      · have H := H.2 e12
        refine pt_d (pt_iconst gx292_103 (fun v16 h16 => ?_))
        refine pt_d (pt_1 (fun n d => r_goto gx292_104) ?_)
        refine pt_d (pt_iadd gx292_108 z4 h16 (fun v17 h17 => ?_))
        refine pt_d (pt_1 (fun n d => r_istore (L' := [some (.ref 72), some (.int x1), some (.int x2), some (.int x3), some (.int v17), some (.int x5), none, none, none, none]) gx292_109 rfl rfl) ?_)
        refine pt_d (pt_iinc (c := 1) gx292_111 rfl z5 (fun v18 h18 => ?_))
        show Pt _ _ _ _ [some (.ref 72), some (.int x1), some (.int x2), some (.int x3), some (.int v17), some (.int v18), none, none, none, none] [] _ _
        refine pt_d (pt_1 (fun n d => r_goto gx292_114) ?_)
        have H := H h_9 S9 (by rw [e9])
        exact H v17 v18 h17 h18
    · have H := H.2 e7
      refine pt_d (pt_1 (fun n d => r_aloadn gx292_64 rfl) ?_)
      refine pt_d (pt_getR gx292_65 S tr_72_4 ?_)
      refine pt_d (pt_1 (fun n d => r_iload gx292_68 rfl) ?_)
      refine pt_d (pt_iald (N' := 150) gx292_70 S tl_74 z5 (fun v20 p20 q20 h20 => ?_))
      have H := H p20 q20
      refine pt_d (pt_1 (fun n d => r_iloadn gx292_71 rfl) ?_)
      refine pt_d (pt_icmp_ne gx292_72 h20 z1 (fun e21 => ?_) (fun e21 => ?_))
      · have H := H.1 e21
        refine pt_d (pt_iconst gx292_89 (fun v22 h22 => ?_))
        refine pt_d (pt_zast (N' := 150) gx292_90 S tl_135 z5 h22 (fun h_23 S23 p23 q23 e23 => ?_))
        refine pt_d (pt_1 (fun n d => r_iload gx292_91 rfl) ?_)
        refine pt_d (pt_1 (fun n d => r_aloadn gx292_93 rfl) ?_)
        refine pt_d (pt_getR gx292_94 S23 tr_72_86 ?_)
        refine pt_d (pt_1 (fun n d => r_iload gx292_97 rfl) ?_)
        refine pt_d (pt_zald (N' := 150) gx292_99 S23 tl_135 z5 (fun v25 p25 q25 h25 => ?_))
        have h25 : v25.toInt = bAnd 0 1 := by rw [h25, e23, up_s]
        refine pt_d (pt_if_eq gx292_100 h25 (fun e26 => ?_) (fun e26 => ?_))
        · have H := H.1 e26
          refine pt_d (pt_iconst gx292_107 (fun v27 h27 => ?_))
          refine pt_d (pt_iadd gx292_108 z4 h27 (fun v28 h28 => ?_))
          refine pt_d (pt_1 (fun n d => r_istore (L' := [some (.ref 72), some (.int x1), some (.int x2), some (.int x3), some (.int v28), some (.int x5), none, none, none, none]) gx292_109 rfl rfl) ?_)
          refine pt_d (pt_iinc (c := 1) gx292_111 rfl z5 (fun v29 h29 => ?_))
          show Pt _ _ _ _ [some (.ref 72), some (.int x1), some (.int x2), some (.int x3), some (.int v28), some (.int v29), none, none, none, none] [] _ _
          refine pt_d (pt_1 (fun n d => r_goto gx292_114) ?_)
          have H := H h_23 S23 (by rw [e23])
          exact H v28 v29 h28 h29
        · have H := H.2 e26
          refine pt_d (pt_iconst gx292_103 (fun v30 h30 => ?_))
          refine pt_d (pt_1 (fun n d => r_goto gx292_104) ?_)
          refine pt_d (pt_iadd gx292_108 z4 h30 (fun v31 h31 => ?_))
          refine pt_d (pt_1 (fun n d => r_istore (L' := [some (.ref 72), some (.int x1), some (.int x2), some (.int x3), some (.int v31), some (.int x5), none, none, none, none]) gx292_109 rfl rfl) ?_)
          refine pt_d (pt_iinc (c := 1) gx292_111 rfl z5 (fun v32 h32 => ?_))
          show Pt _ _ _ _ [some (.ref 72), some (.int x1), some (.int x2), some (.int x3), some (.int v31), some (.int v32), none, none, none, none] [] _ _
          refine pt_d (pt_1 (fun n d => r_goto gx292_114) ?_)
          have H := H h_23 S23 (by rw [e23])
          exact H v31 v32 h31 h32
      · have H := H.2 e21
        refine pt_d (pt_1 (fun n d => r_aloadn gx292_75 rfl) ?_)
        refine pt_d (pt_1 (fun n d => r_iload gx292_76 rfl) ?_)
        refine pt_d (pt_1 (fun n d => r_iloadn gx292_78 rfl) ?_)
        obtain ⟨pr33, H⟩ := H
        refine pt_d (pt_virt (as := [.int x5, .int x2]) (r := [.int x5, .ref 135]) gx292_79 rfl (show zmt[291]? = some zM291 from rfl) rfl rfl rfl rfl (c_291 S z5 z2 pr33) (kqP (fun v33 h33 => ?_)))
        show Pt _ _ _ 82 _ [.int v33, .int x5, .ref 135] _ _
        refine pt_d (pt_ifB_eq gx292_82 h33 (fun e34 => ?_) (fun e34 => ?_))
        · have H := H.1 e34
          refine pt_d (pt_iconst gx292_89 (fun v35 h35 => ?_))
          refine pt_d (pt_zast (N' := 150) gx292_90 S tl_135 z5 h35 (fun h_36 S36 p36 q36 e36 => ?_))
          refine pt_d (pt_1 (fun n d => r_iload gx292_91 rfl) ?_)
          refine pt_d (pt_1 (fun n d => r_aloadn gx292_93 rfl) ?_)
          refine pt_d (pt_getR gx292_94 S36 tr_72_86 ?_)
          refine pt_d (pt_1 (fun n d => r_iload gx292_97 rfl) ?_)
          refine pt_d (pt_zald (N' := 150) gx292_99 S36 tl_135 z5 (fun v38 p38 q38 h38 => ?_))
          have h38 : v38.toInt = bAnd 0 1 := by rw [h38, e36, up_s]
          refine pt_d (pt_if_eq gx292_100 h38 (fun e39 => ?_) (fun e39 => ?_))
          · have H := H.1 e39
            refine pt_d (pt_iconst gx292_107 (fun v40 h40 => ?_))
            refine pt_d (pt_iadd gx292_108 z4 h40 (fun v41 h41 => ?_))
            refine pt_d (pt_1 (fun n d => r_istore (L' := [some (.ref 72), some (.int x1), some (.int x2), some (.int x3), some (.int v41), some (.int x5), none, none, none, none]) gx292_109 rfl rfl) ?_)
            refine pt_d (pt_iinc (c := 1) gx292_111 rfl z5 (fun v42 h42 => ?_))
            show Pt _ _ _ _ [some (.ref 72), some (.int x1), some (.int x2), some (.int x3), some (.int v41), some (.int v42), none, none, none, none] [] _ _
            refine pt_d (pt_1 (fun n d => r_goto gx292_114) ?_)
            have H := H h_36 S36 (by rw [e36])
            exact H v41 v42 h41 h42
          · have H := H.2 e39
            refine pt_d (pt_iconst gx292_103 (fun v43 h43 => ?_))
            refine pt_d (pt_1 (fun n d => r_goto gx292_104) ?_)
            refine pt_d (pt_iadd gx292_108 z4 h43 (fun v44 h44 => ?_))
            refine pt_d (pt_1 (fun n d => r_istore (L' := [some (.ref 72), some (.int x1), some (.int x2), some (.int x3), some (.int v44), some (.int x5), none, none, none, none]) gx292_109 rfl rfl) ?_)
            refine pt_d (pt_iinc (c := 1) gx292_111 rfl z5 (fun v45 h45 => ?_))
            show Pt _ _ _ _ [some (.ref 72), some (.int x1), some (.int x2), some (.int x3), some (.int v44), some (.int v45), none, none, none, none] [] _ _
            refine pt_d (pt_1 (fun n d => r_goto gx292_114) ?_)
            have H := H h_36 S36 (by rw [e36])
            exact H v44 v45 h44 h45
        · have H := H.2 e34
          refine pt_d (pt_iconst gx292_85 (fun v46 h46 => ?_))
          refine pt_d (pt_1 (fun n d => r_goto gx292_86) ?_)
          refine pt_d (pt_zast (N' := 150) gx292_90 S tl_135 z5 h46 (fun h_47 S47 p47 q47 e47 => ?_))
          refine pt_d (pt_1 (fun n d => r_iload gx292_91 rfl) ?_)
          refine pt_d (pt_1 (fun n d => r_aloadn gx292_93 rfl) ?_)
          refine pt_d (pt_getR gx292_94 S47 tr_72_86 ?_)
          refine pt_d (pt_1 (fun n d => r_iload gx292_97 rfl) ?_)
          refine pt_d (pt_zald (N' := 150) gx292_99 S47 tl_135 z5 (fun v49 p49 q49 h49 => ?_))
          have h49 : v49.toInt = bAnd 1 1 := by rw [h49, e47, up_s]
          refine pt_d (pt_if_eq gx292_100 h49 (fun e50 => ?_) (fun e50 => ?_))
          · have H := H.1 e50
            refine pt_d (pt_iconst gx292_107 (fun v51 h51 => ?_))
            refine pt_d (pt_iadd gx292_108 z4 h51 (fun v52 h52 => ?_))
            refine pt_d (pt_1 (fun n d => r_istore (L' := [some (.ref 72), some (.int x1), some (.int x2), some (.int x3), some (.int v52), some (.int x5), none, none, none, none]) gx292_109 rfl rfl) ?_)
            refine pt_d (pt_iinc (c := 1) gx292_111 rfl z5 (fun v53 h53 => ?_))
            show Pt _ _ _ _ [some (.ref 72), some (.int x1), some (.int x2), some (.int x3), some (.int v52), some (.int v53), none, none, none, none] [] _ _
            refine pt_d (pt_1 (fun n d => r_goto gx292_114) ?_)
            have H := H h_47 S47 (by rw [e47])
            exact H v52 v53 h52 h53
          · have H := H.2 e50
            refine pt_d (pt_iconst gx292_103 (fun v54 h54 => ?_))
            refine pt_d (pt_1 (fun n d => r_goto gx292_104) ?_)
            refine pt_d (pt_iadd gx292_108 z4 h54 (fun v55 h55 => ?_))
            refine pt_d (pt_1 (fun n d => r_istore (L' := [some (.ref 72), some (.int x1), some (.int x2), some (.int x3), some (.int v55), some (.int x5), none, none, none, none]) gx292_109 rfl rfl) ?_)
            refine pt_d (pt_iinc (c := 1) gx292_111 rfl z5 (fun v56 h56 => ?_))
            show Pt _ _ _ _ [some (.ref 72), some (.int x1), some (.int x2), some (.int x3), some (.int v55), some (.int v56), none, none, none, none] [] _ _
            refine pt_d (pt_1 (fun n d => r_goto gx292_114) ?_)
            have H := H h_47 S47 (by rw [e47])
            exact H v55 v56 h55 h56
theorem d292_128 {n : Nat} {X : aX} {h : aH} {P : Int → aH → Prop} {x1 x2 x3 x4 x5 x6 : Int32} {a1 a2 a3 a4 a5 a6 : Int} {u7 u8 u9 : Option Value} (S : wS h) (z1 : x1.toInt = a1) (z2 : x2.toInt = a2) (z3 : x3.toInt = a3) (z4 : x4.toInt = a4) (z5 : x5.toInt = a5) (z6 : x6.toInt = a6) (H : ((a5 ≤ a6 → ∀ h_2 : aH, wS h_2 → vw h_2 = up (vw h) 72 84 a5 → P a5 h_2) ∧ (a6 < a5 → ((iDiv (w32 (a5 + 1)) 2 ≤ a6 → ∀ h_14 : aH, wS h_14 → vw h_14 = up (vw h) 72 83 (w32 ((w32 ((vw h 72 83) * 1103515245)) + 12345)) → (∀ (w7 : Int32) (w8 : Int32) (w9 : Int32), w7.toInt = (-1) → w8.toInt = iRem (bUshr (w32 ((w32 ((vw h 72 83) * 1103515245)) + 12345)) 8) (w32 (a4 - a6)) → w9.toInt = 0 → Pt n X zM292 240 [some (.ref 72), some (.int x1), some (.int x2), some (.int x3), some (.int x4), some (.int x5), some (.int x6), some (.int w7), some (.int w8), some (.int w9)] [] h_14 (qI P))) ∧ (a6 < iDiv (w32 (a5 + 1)) 2 → (∀ (w7 : Int32) (w8 : Int32) (u9_ : Option Value), w7.toInt = (-1) → w8.toInt = 0 → Pt n X zM292 152 [some (.ref 72), some (.int x1), some (.int x2), some (.int x3), some (.int x4), some (.int x5), some (.int x6), some (.int w7), some (.int w8), u9_] [] h (qI P))))))) : Pt (n + 1) X zM292 128 [some (.ref 72), some (.int x1), some (.int x2), some (.int x3), some (.int x4), some (.int x5), some (.int x6), u7, u8, u9] [] h (qI P) := by
  refine pt_1 (fun n d => r_iload gx292_128 rfl) ?_
  refine pt_d (pt_1 (fun n d => r_iload gx292_130 rfl) ?_)
  refine pt_d (pt_icmp_ge gx292_132 z6 z5 (fun e1 => ?_) (fun e1 => ?_))
  · have H := H.1 e1
    refine pt_d (pt_1 (fun n d => r_aloadn gx292_308 rfl) ?_)
    refine pt_d (pt_1 (fun n d => r_iload gx292_309 rfl) ?_)
    refine pt_d (pt_putI (B := 84) gx292_311 S z5 (fun h_2 S2 e2 => ?_))
    refine pt_d (pt_1 (fun n d => r_iload gx292_314 rfl) ?_)
    have H := H h_2 S2 (by rw [e2])
    exact pt_d (pt_iret gx292_316 ⟨_, rfl, by rw [z5]; exact H⟩)
  · have H := H.2 e1
    refine pt_d (pt_iconst gx292_135 (fun v3 h3 => ?_))
    refine pt_d (pt_1 (fun n d => r_istore (L' := [some (.ref 72), some (.int x1), some (.int x2), some (.int x3), some (.int x4), some (.int x5), some (.int x6), some (.int v3), u8, u9]) gx292_136 rfl rfl) ?_)
    refine pt_d (pt_1 (fun n d => r_iload gx292_138 rfl) ?_)
    refine pt_d (pt_1 (fun n d => r_iload gx292_140 rfl) ?_)
    refine pt_d (pt_iconst gx292_142 (fun v4 h4 => ?_))
    refine pt_d (pt_iadd gx292_143 z5 h4 (fun v5 h5 => ?_))
    refine pt_d (pt_iconst gx292_144 (fun v6 h6 => ?_))
    refine pt_d (pt_idiv gx292_145 h5 h6 (fun v7 h7 => ?_))
    refine pt_d (pt_icmp_ge gx292_146 z6 h7 (fun e8 => ?_) (fun e8 => ?_))
    · have H := H.1 e8
      refine pt_d (pt_1 (fun n d => r_aloadn gx292_206 rfl) ?_)
      refine pt_d (pt_1 (fun n d => r_aloadn gx292_207 rfl) ?_)
      refine pt_d (pt_getI (B := 83) gx292_208 S (fun v9 h9 => ?_))
      refine pt_d (pt_ldc_w (c := 1103515245) gx292_211 rfl (fun v10 h10 => ?_))
      refine pt_d (pt_imul gx292_214 h9 h10 (fun v11 h11 => ?_))
      refine pt_d (pt_sipush gx292_215 (fun v12 h12 => ?_))
      refine pt_d (pt_iadd gx292_218 h11 h12 (fun v13 h13 => ?_))
      refine pt_d (pt_putI (B := 83) gx292_219 S h13 (fun h_14 S14 e14 => ?_))
      refine pt_d (pt_1 (fun n d => r_aloadn gx292_222 rfl) ?_)
      refine pt_d (pt_getI (B := 83) gx292_223 S14 (fun v15 h15 => ?_))
      have h15 : v15.toInt = w32 ((w32 ((vw h 72 83) * 1103515245)) + 12345) := by rw [h15, e14, up_s]
      refine pt_d (pt_bipush gx292_226 (fun v16 h16 => ?_))
      refine pt_d (pt_iushr gx292_228 h15 h16 (fun v17 h17 => ?_))
      refine pt_d (pt_1 (fun n d => r_iload gx292_229 rfl) ?_)
      refine pt_d (pt_1 (fun n d => r_iload gx292_231 rfl) ?_)
      refine pt_d (pt_isub gx292_233 z4 z6 (fun v18 h18 => ?_))
      refine pt_d (pt_irem gx292_234 h17 h18 (fun v19 h19 => ?_))
      refine pt_d (pt_1 (fun n d => r_istore (L' := [some (.ref 72), some (.int x1), some (.int x2), some (.int x3), some (.int x4), some (.int x5), some (.int x6), some (.int v3), some (.int v19), u9]) gx292_235 rfl rfl) ?_)
      refine pt_d (pt_iconst gx292_237 (fun v20 h20 => ?_))
      refine pt_d (pt_1 (fun n d => r_istore (L' := [some (.ref 72), some (.int x1), some (.int x2), some (.int x3), some (.int x4), some (.int x5), some (.int x6), some (.int v3), some (.int v19), some (.int v20)]) gx292_238 rfl rfl) ?_)
      have H := H h_14 S14 (by rw [e14])
      exact H v3 v19 v20 h3 h19 h20
    · have H := H.2 e8
      refine pt_d (pt_iconst gx292_149 (fun v21 h21 => ?_))
      refine pt_d (pt_1 (fun n d => r_istore (L' := [some (.ref 72), some (.int x1), some (.int x2), some (.int x3), some (.int x4), some (.int x5), some (.int x6), some (.int v3), some (.int v21), u9]) gx292_150 rfl rfl) ?_)
      exact H v3 v21 _ h3 h21
theorem d292_152 {n : Nat} {X : aX} {h : aH} {P : Int → aH → Prop} {x1 x2 x3 x4 x5 x6 x7 x8 : Int32} {a1 a2 a3 a4 a5 a6 a7 a8 : Int} {u9 : Option Value} (S : wS h) (z1 : x1.toInt = a1) (z2 : x2.toInt = a2) (z3 : x3.toInt = a3) (z4 : x4.toInt = a4) (z5 : x5.toInt = a5) (z6 : x6.toInt = a6) (z7 : x7.toInt = a7) (z8 : x8.toInt = a8) (H : ((vw h 72 2 ≤ a8 → (0 ≤ a7 → a7 < 150 → (0 ≤ a6 → a6 < 9 → ∀ h_7 : aH, wS h_7 → vw h_7 = up (up (vw h) 135 a7 (bAnd 0 1)) 134 a6 a7 → (∀ (w6 : Int32) (u7_ : Option Value) (u8_ : Option Value) (u9_ : Option Value), w6.toInt = w32 (a6 + 1) → Pt n X zM292 128 [some (.ref 72), some (.int x1), some (.int x2), some (.int x3), some (.int x4), some (.int x5), some (.int w6), u7_, u8_, u9_] [] h_7 (qI P))))) ∧ (a8 < vw h 72 2 → (0 ≤ a8 → a8 < 150 → ((vw h 135 a8 = 0 → (∀ (w8 : Int32) (u9_ : Option Value), w8.toInt = w32 (a8 + 1) → Pt n X zM292 152 [some (.ref 72), some (.int x1), some (.int x2), some (.int x3), some (.int x4), some (.int x5), some (.int x6), some (.int x7), some (.int w8), u9_] [] h (qI P))) ∧ (vw h 135 a8 ≠ 0 → ((a7 < 0 → (∀ (w8 : Int32) (u9_ : Option Value), w8.toInt = w32 (a8 + 1) → Pt n X zM292 152 [some (.ref 72), some (.int x1), some (.int x2), some (.int x3), some (.int x4), some (.int x5), some (.int x6), some (.int x8), some (.int w8), u9_] [] h (qI P))) ∧ (0 ≤ a7 → ∀ (y15 : Int) (h_15 : aH), (wS h_15 ∧ hk h h_15 ∧ TV h_15) → ∀ (y16 : Int) (h_16 : aH), (wS h_16 ∧ hk h_15 h_16 ∧ TV h_16) → ((y15 ≤ y16 → (∀ (w8 : Int32) (u9_ : Option Value), w8.toInt = w32 (a8 + 1) → Pt n X zM292 152 [some (.ref 72), some (.int x1), some (.int x2), some (.int x3), some (.int x4), some (.int x5), some (.int x6), some (.int x7), some (.int w8), u9_] [] h_16 (qI P))) ∧ (y16 < y15 → (∀ (w8 : Int32) (u9_ : Option Value), w8.toInt = w32 (a8 + 1) → Pt n X zM292 152 [some (.ref 72), some (.int x1), some (.int x2), some (.int x3), some (.int x4), some (.int x5), some (.int x6), some (.int x8), some (.int w8), u9_] [] h_16 (qI P)))))))))))) : Pt (n + 1) X zM292 152 [some (.ref 72), some (.int x1), some (.int x2), some (.int x3), some (.int x4), some (.int x5), some (.int x6), some (.int x7), some (.int x8), u9] [] h (qI P) := by
  refine pt_1 (fun n d => r_iload gx292_152 rfl) ?_
  refine pt_d (pt_1 (fun n d => r_aloadn gx292_154 rfl) ?_)
  refine pt_d (pt_getI (B := 2) gx292_155 S (fun v1 h1 => ?_))
  refine pt_d (pt_icmp_ge gx292_158 z8 h1 (fun e2 => ?_) (fun e2 => ?_))
  · have H := H.1 e2
    refine pt_d (pt_1 (fun n d => r_goto gx292_203) ?_)
    refine pt_d (pt_1 (fun n d => r_aloadn gx292_285 rfl) ?_)
    refine pt_d (pt_getR gx292_286 S tr_72_86 ?_)
    refine pt_d (pt_1 (fun n d => r_iload gx292_289 rfl) ?_)
    refine pt_d (pt_iconst gx292_291 (fun v4 h4 => ?_))
    refine pt_d (pt_zast (N' := 150) gx292_292 S tl_135 z7 h4 (fun h_5 S5 p5 q5 e5 => ?_))
    have H := H p5 q5
    refine pt_d (pt_1 (fun n d => r_aloadn gx292_293 rfl) ?_)
    refine pt_d (pt_getR gx292_294 S5 tr_72_85 ?_)
    refine pt_d (pt_1 (fun n d => r_iload gx292_297 rfl) ?_)
    refine pt_d (pt_1 (fun n d => r_iload gx292_299 rfl) ?_)
    refine pt_d (pt_iast (N' := 9) gx292_301 S5 tl_134 z6 z7 (fun h_7 S7 p7 q7 e7 => ?_))
    have H := H p7 q7
    refine pt_d (pt_iinc (c := 1) gx292_302 rfl z6 (fun v8 h8 => ?_))
    show Pt _ _ _ _ [some (.ref 72), some (.int x1), some (.int x2), some (.int x3), some (.int x4), some (.int x5), some (.int v8), some (.int x7), some (.int x8), u9] [] _ _
    refine pt_d (pt_1 (fun n d => r_goto gx292_305) ?_)
    have H := H h_7 S7 (by rw [e7, e5])
    exact H v8 _ _ _ h8
  · have H := H.2 e2
    refine pt_d (pt_1 (fun n d => r_aloadn gx292_161 rfl) ?_)
    refine pt_d (pt_getR gx292_162 S tr_72_86 ?_)
    refine pt_d (pt_1 (fun n d => r_iload gx292_165 rfl) ?_)
    refine pt_d (pt_zald (N' := 150) gx292_167 S tl_135 z8 (fun v10 p10 q10 h10 => ?_))
    have H := H p10 q10
    refine pt_d (pt_if_eq gx292_168 h10 (fun e11 => ?_) (fun e11 => ?_))
    · have H := H.1 e11
      refine pt_d (pt_iinc (c := 1) gx292_197 rfl z8 (fun v12 h12 => ?_))
      show Pt _ _ _ _ [some (.ref 72), some (.int x1), some (.int x2), some (.int x3), some (.int x4), some (.int x5), some (.int x6), some (.int x7), some (.int v12), u9] [] _ _
      refine pt_d (pt_1 (fun n d => r_goto gx292_200) ?_)
      exact H v12 _ h12
    · have H := H.2 e11
      refine pt_d (pt_1 (fun n d => r_iload gx292_171 rfl) ?_)
      refine pt_d (pt_if_lt gx292_173 z7 (fun e13 => ?_) (fun e13 => ?_))
      · have H := H.1 e13
        refine pt_d (pt_1 (fun n d => r_iload gx292_193 rfl) ?_)
        refine pt_d (pt_1 (fun n d => r_istore (L' := [some (.ref 72), some (.int x1), some (.int x2), some (.int x3), some (.int x4), some (.int x5), some (.int x6), some (.int x8), some (.int x8), u9]) gx292_195 rfl rfl) ?_)
        refine pt_d (pt_iinc (c := 1) gx292_197 rfl z8 (fun v14 h14 => ?_))
        show Pt _ _ _ _ [some (.ref 72), some (.int x1), some (.int x2), some (.int x3), some (.int x4), some (.int x5), some (.int x6), some (.int x8), some (.int v14), u9] [] _ _
        refine pt_d (pt_1 (fun n d => r_goto gx292_200) ?_)
        exact H v14 _ h14
      · have H := H.2 e13
        refine pt_d (pt_1 (fun n d => r_aloadn gx292_176 rfl) ?_)
        refine pt_d (pt_1 (fun n d => r_iload gx292_177 rfl) ?_)
        refine pt_d (pt_1 (fun n d => r_iloadn gx292_179 rfl) ?_)
        refine pt_d (pt_virt (as := [.int x8, .int x2]) (r := []) gx292_180 rfl (show zmt[293]? = some zM293 from rfl) rfl rfl rfl rfl (uk_293 S z8 z2 trivial) (kqI (fun v15 y15 h_15 h15 P15 => ?_)))
        have S15 := P15.1
        have H := H y15 h_15 P15
        show Pt _ _ _ 183 _ [.int v15] _ _
        refine pt_d (pt_1 (fun n d => r_aloadn gx292_183 rfl) ?_)
        refine pt_d (pt_1 (fun n d => r_iload gx292_184 rfl) ?_)
        refine pt_d (pt_1 (fun n d => r_iloadn gx292_186 rfl) ?_)
        refine pt_d (pt_virt (as := [.int x7, .int x2]) (r := [.int v15]) gx292_187 rfl (show zmt[293]? = some zM293 from rfl) rfl rfl rfl rfl (uk_293 S15 z7 z2 trivial) (kqI (fun v16 y16 h_16 h16 P16 => ?_)))
        have S16 := P16.1
        have H := H y16 h_16 P16
        show Pt _ _ _ 190 _ [.int v16, .int v15] _ _
        refine pt_d (pt_icmp_le gx292_190 h15 h16 (fun e17 => ?_) (fun e17 => ?_))
        · have H := H.1 e17
          refine pt_d (pt_iinc (c := 1) gx292_197 rfl z8 (fun v18 h18 => ?_))
          show Pt _ _ _ _ [some (.ref 72), some (.int x1), some (.int x2), some (.int x3), some (.int x4), some (.int x5), some (.int x6), some (.int x7), some (.int v18), u9] [] _ _
          refine pt_d (pt_1 (fun n d => r_goto gx292_200) ?_)
          exact H v18 _ h18
        · have H := H.2 e17
          refine pt_d (pt_1 (fun n d => r_iload gx292_193 rfl) ?_)
          refine pt_d (pt_1 (fun n d => r_istore (L' := [some (.ref 72), some (.int x1), some (.int x2), some (.int x3), some (.int x4), some (.int x5), some (.int x6), some (.int x8), some (.int x8), u9]) gx292_195 rfl rfl) ?_)
          refine pt_d (pt_iinc (c := 1) gx292_197 rfl z8 (fun v19 h19 => ?_))
          show Pt _ _ _ _ [some (.ref 72), some (.int x1), some (.int x2), some (.int x3), some (.int x4), some (.int x5), some (.int x6), some (.int x8), some (.int v19), u9] [] _ _
          refine pt_d (pt_1 (fun n d => r_goto gx292_200) ?_)
          exact H v19 _ h19
theorem d292_240 {n : Nat} {X : aX} {h : aH} {P : Int → aH → Prop} {x1 x2 x3 x4 x5 x6 x7 x8 x9 : Int32} {a1 a2 a3 a4 a5 a6 a7 a8 a9 : Int} (S : wS h) (z1 : x1.toInt = a1) (z2 : x2.toInt = a2) (z3 : x3.toInt = a3) (z4 : x4.toInt = a4) (z5 : x5.toInt = a5) (z6 : x6.toInt = a6) (z7 : x7.toInt = a7) (z8 : x8.toInt = a8) (z9 : x9.toInt = a9) (H : ((vw h 72 2 ≤ a9 → (0 ≤ a7 → a7 < 150 → (0 ≤ a6 → a6 < 9 → ∀ h_7 : aH, wS h_7 → vw h_7 = up (up (vw h) 135 a7 (bAnd 0 1)) 134 a6 a7 → (∀ (w6 : Int32) (u7_ : Option Value) (u8_ : Option Value) (u9_ : Option Value), w6.toInt = w32 (a6 + 1) → Pt n X zM292 128 [some (.ref 72), some (.int x1), some (.int x2), some (.int x3), some (.int x4), some (.int x5), some (.int w6), u7_, u8_, u9_] [] h_7 (qI P))))) ∧ (a9 < vw h 72 2 → ((0 ≤ a7 → (0 ≤ a7 → a7 < 150 → (0 ≤ a6 → a6 < 9 → ∀ h_14 : aH, wS h_14 → vw h_14 = up (up (vw h) 135 a7 (bAnd 0 1)) 134 a6 a7 → (∀ (w6 : Int32) (u7_ : Option Value) (u8_ : Option Value) (u9_ : Option Value), w6.toInt = w32 (a6 + 1) → Pt n X zM292 128 [some (.ref 72), some (.int x1), some (.int x2), some (.int x3), some (.int x4), some (.int x5), some (.int w6), u7_, u8_, u9_] [] h_14 (qI P))))) ∧ (a7 < 0 → (0 ≤ a9 → a9 < 150 → ((vw h 135 a9 ≠ 0 → ((a8 ≠ 0 → (∀ (w8 : Int32) (w9 : Int32), w8.toInt = w32 (a8 + (-1)) → w9.toInt = w32 (a9 + 1) → Pt n X zM292 240 [some (.ref 72), some (.int x1), some (.int x2), some (.int x3), some (.int x4), some (.int x5), some (.int x6), some (.int x7), some (.int w8), some (.int w9)] [] h (qI P))) ∧ (a8 = 0 → (∀ (w8 : Int32) (w9 : Int32), w8.toInt = w32 (a8 + (-1)) → w9.toInt = w32 (a9 + 1) → Pt n X zM292 240 [some (.ref 72), some (.int x1), some (.int x2), some (.int x3), some (.int x4), some (.int x5), some (.int x6), some (.int x9), some (.int w8), some (.int w9)] [] h (qI P))))) ∧ (vw h 135 a9 = 0 → (∀ (w9 : Int32), w9.toInt = w32 (a9 + 1) → Pt n X zM292 240 [some (.ref 72), some (.int x1), some (.int x2), some (.int x3), some (.int x4), some (.int x5), some (.int x6), some (.int x7), some (.int x8), some (.int w9)] [] h (qI P)))))))))) : Pt (n + 1) X zM292 240 [some (.ref 72), some (.int x1), some (.int x2), some (.int x3), some (.int x4), some (.int x5), some (.int x6), some (.int x7), some (.int x8), some (.int x9)] [] h (qI P) := by
  refine pt_1 (fun n d => r_iload gx292_240 rfl) ?_
  refine pt_d (pt_1 (fun n d => r_aloadn gx292_242 rfl) ?_)
  refine pt_d (pt_getI (B := 2) gx292_243 S (fun v1 h1 => ?_))
  refine pt_d (pt_icmp_ge gx292_246 z9 h1 (fun e2 => ?_) (fun e2 => ?_))
  · have H := H.1 e2
    refine pt_d (pt_1 (fun n d => r_aloadn gx292_285 rfl) ?_)
    refine pt_d (pt_getR gx292_286 S tr_72_86 ?_)
    refine pt_d (pt_1 (fun n d => r_iload gx292_289 rfl) ?_)
    refine pt_d (pt_iconst gx292_291 (fun v4 h4 => ?_))
    refine pt_d (pt_zast (N' := 150) gx292_292 S tl_135 z7 h4 (fun h_5 S5 p5 q5 e5 => ?_))
    have H := H p5 q5
    refine pt_d (pt_1 (fun n d => r_aloadn gx292_293 rfl) ?_)
    refine pt_d (pt_getR gx292_294 S5 tr_72_85 ?_)
    refine pt_d (pt_1 (fun n d => r_iload gx292_297 rfl) ?_)
    refine pt_d (pt_1 (fun n d => r_iload gx292_299 rfl) ?_)
    refine pt_d (pt_iast (N' := 9) gx292_301 S5 tl_134 z6 z7 (fun h_7 S7 p7 q7 e7 => ?_))
    have H := H p7 q7
    refine pt_d (pt_iinc (c := 1) gx292_302 rfl z6 (fun v8 h8 => ?_))
    show Pt _ _ _ _ [some (.ref 72), some (.int x1), some (.int x2), some (.int x3), some (.int x4), some (.int x5), some (.int v8), some (.int x7), some (.int x8), some (.int x9)] [] _ _
    refine pt_d (pt_1 (fun n d => r_goto gx292_305) ?_)
    have H := H h_7 S7 (by rw [e7, e5])
    exact H v8 _ _ _ h8
  · have H := H.2 e2
    refine pt_d (pt_1 (fun n d => r_iload gx292_249 rfl) ?_)
    refine pt_d (pt_if_ge gx292_251 z7 (fun e9 => ?_) (fun e9 => ?_))
    · have H := H.1 e9
      refine pt_d (pt_1 (fun n d => r_aloadn gx292_285 rfl) ?_)
      refine pt_d (pt_getR gx292_286 S tr_72_86 ?_)
      refine pt_d (pt_1 (fun n d => r_iload gx292_289 rfl) ?_)
      refine pt_d (pt_iconst gx292_291 (fun v11 h11 => ?_))
      refine pt_d (pt_zast (N' := 150) gx292_292 S tl_135 z7 h11 (fun h_12 S12 p12 q12 e12 => ?_))
      have H := H p12 q12
      refine pt_d (pt_1 (fun n d => r_aloadn gx292_293 rfl) ?_)
      refine pt_d (pt_getR gx292_294 S12 tr_72_85 ?_)
      refine pt_d (pt_1 (fun n d => r_iload gx292_297 rfl) ?_)
      refine pt_d (pt_1 (fun n d => r_iload gx292_299 rfl) ?_)
      refine pt_d (pt_iast (N' := 9) gx292_301 S12 tl_134 z6 z7 (fun h_14 S14 p14 q14 e14 => ?_))
      have H := H p14 q14
      refine pt_d (pt_iinc (c := 1) gx292_302 rfl z6 (fun v15 h15 => ?_))
      show Pt _ _ _ _ [some (.ref 72), some (.int x1), some (.int x2), some (.int x3), some (.int x4), some (.int x5), some (.int v15), some (.int x7), some (.int x8), some (.int x9)] [] _ _
      refine pt_d (pt_1 (fun n d => r_goto gx292_305) ?_)
      have H := H h_14 S14 (by rw [e14, e12])
      exact H v15 _ _ _ h15
    · have H := H.2 e9
      refine pt_d (pt_1 (fun n d => r_aloadn gx292_254 rfl) ?_)
      refine pt_d (pt_getR gx292_255 S tr_72_86 ?_)
      refine pt_d (pt_1 (fun n d => r_iload gx292_258 rfl) ?_)
      refine pt_d (pt_zald (N' := 150) gx292_260 S tl_135 z9 (fun v17 p17 q17 h17 => ?_))
      have H := H p17 q17
      refine pt_d (pt_if_ne gx292_261 h17 (fun e18 => ?_) (fun e18 => ?_))
      · have H := H.1 e18
        refine pt_d (pt_1 (fun n d => r_iload gx292_267 rfl) ?_)
        refine pt_d (pt_if_ne gx292_269 z8 (fun e19 => ?_) (fun e19 => ?_))
        · have H := H.1 e19
          refine pt_d (pt_iinc (c := (-1)) gx292_276 rfl z8 (fun v20 h20 => ?_))
          show Pt _ _ _ _ [some (.ref 72), some (.int x1), some (.int x2), some (.int x3), some (.int x4), some (.int x5), some (.int x6), some (.int x7), some (.int v20), some (.int x9)] [] _ _
          refine pt_d (pt_iinc (c := 1) gx292_279 rfl z9 (fun v21 h21 => ?_))
          show Pt _ _ _ _ [some (.ref 72), some (.int x1), some (.int x2), some (.int x3), some (.int x4), some (.int x5), some (.int x6), some (.int x7), some (.int v20), some (.int v21)] [] _ _
          refine pt_d (pt_1 (fun n d => r_goto gx292_282) ?_)
          exact H v20 v21 h20 h21
        · have H := H.2 e19
          refine pt_d (pt_1 (fun n d => r_iload gx292_272 rfl) ?_)
          refine pt_d (pt_1 (fun n d => r_istore (L' := [some (.ref 72), some (.int x1), some (.int x2), some (.int x3), some (.int x4), some (.int x5), some (.int x6), some (.int x9), some (.int x8), some (.int x9)]) gx292_274 rfl rfl) ?_)
          refine pt_d (pt_iinc (c := (-1)) gx292_276 rfl z8 (fun v22 h22 => ?_))
          show Pt _ _ _ _ [some (.ref 72), some (.int x1), some (.int x2), some (.int x3), some (.int x4), some (.int x5), some (.int x6), some (.int x9), some (.int v22), some (.int x9)] [] _ _
          refine pt_d (pt_iinc (c := 1) gx292_279 rfl z9 (fun v23 h23 => ?_))
          show Pt _ _ _ _ [some (.ref 72), some (.int x1), some (.int x2), some (.int x3), some (.int x4), some (.int x5), some (.int x6), some (.int x9), some (.int v22), some (.int v23)] [] _ _
          refine pt_d (pt_1 (fun n d => r_goto gx292_282) ?_)
          exact H v22 v23 h22 h23
      · have H := H.2 e18
        refine pt_d (pt_1 (fun n d => r_goto gx292_264) ?_)
        refine pt_d (pt_iinc (c := 1) gx292_279 rfl z9 (fun v24 h24 => ?_))
        show Pt _ _ _ _ [some (.ref 72), some (.int x1), some (.int x2), some (.int x3), some (.int x4), some (.int x5), some (.int x6), some (.int x7), some (.int x8), some (.int v24)] [] _ _
        refine pt_d (pt_1 (fun n d => r_goto gx292_282) ?_)
        exact H v24 h24
def P292 (V : vS) (land y b : Int) : Prop := (mFarm V b ∧ V 74 b = land) ∧ ∃ c, (0 ≤ c ∧ c < V 72 19) ∧ (V 103 c ≠ 0 ∧ V 87 c = b ∧ iDiv (V 90 c) 365 = y)
theorem l_292b {X : aX} {m : Int} (hm : m ≤ 1000) : ∀ n : Nat, (∀ (h : aH) (x1 x2 x3 x4 x5 x6 : Int32) (u7 u8 u9 : Option Value), wS h → x5.toInt = m → Pt n X zM292 128 [some (.ref 72), some (.int x1), some (.int x2), some (.int x3), some (.int x4), some (.int x5), some (.int x6), u7, u8, u9] [] h (qI (fun r _ => r = m))) ∧
    (∀ (h : aH) (x1 x2 x3 x4 x5 x6 x7 x8 : Int32) (u9 : Option Value), wS h → x5.toInt = m → Pt n X zM292 152 [some (.ref 72), some (.int x1), some (.int x2), some (.int x3), some (.int x4), some (.int x5), some (.int x6), some (.int x7), some (.int x8), u9] [] h (qI (fun r _ => r = m))) ∧
    (∀ (h : aH) (x1 x2 x3 x4 x5 x6 x7 x8 x9 : Int32), wS h → x5.toInt = m → Pt n X zM292 240 [some (.ref 72), some (.int x1), some (.int x2), some (.int x3), some (.int x4), some (.int x5), some (.int x6), some (.int x7), some (.int x8), some (.int x9)] [] h (qI (fun r _ => r = m))) := by
  intro n
  induction n with
  | zero => exact ⟨by intros; exact pt_z, by intros; exact pt_z, by intros; exact pt_z⟩
  | succ n ih =>
    obtain ⟨a, b, c⟩ := ih
    refine ⟨fun h x1 x2 x3 x4 x5 x6 u7 u8 u9 S h5 => ?_, fun h x1 x2 x3 x4 x5 x6 x7 x8 u9 S h5 => ?_, fun h x1 x2 x3 x4 x5 x6 x7 x8 x9 S h5 => ?_⟩
    · exact d292_128 S rfl rfl rfl rfl h5 rfl ⟨fun _ _ _ _ => rfl, fun _ => ⟨fun _ g S2 _ w7 w8 w9 _ _ _ => c g _ _ _ _ _ _ _ _ _ S2 h5, fun _ w7 w8 u _ _ => b h _ _ _ _ _ _ _ _ _ S h5⟩⟩
    · exact d292_152 S rfl rfl rfl rfl h5 rfl rfl rfl ⟨fun _ _ _ _ _ g S2 _ w6 u7 u8 u9 _ => a g _ _ _ _ _ _ _ _ _ S2 h5, fun _ _ _ => ⟨fun _ w8 u _ => b h _ _ _ _ _ _ _ _ _ S h5, fun _ => ⟨fun _ w8 u _ => b h _ _ _ _ _ _ _ _ _ S h5, fun _ y15 g15 R15 y16 g16 R16 => ⟨fun _ w8 u _ => b g16 _ _ _ _ _ _ _ _ _ R16.1 h5, fun _ w8 u _ => b g16 _ _ _ _ _ _ _ _ _ R16.1 h5⟩⟩⟩⟩
    · exact d292_240 S rfl rfl rfl rfl h5 rfl rfl rfl rfl ⟨fun _ _ _ _ _ g S2 _ w6 u7 u8 u9 _ => a g _ _ _ _ _ _ _ _ _ S2 h5, fun _ => ⟨fun _ _ _ _ _ g S2 _ w6 u7 u8 u9 _ => a g _ _ _ _ _ _ _ _ _ S2 h5, fun _ _ _ => ⟨fun _ => ⟨fun _ w8 w9 _ _ => c h _ _ _ _ _ _ _ _ _ S h5, fun _ w8 w9 _ _ => c h _ _ _ _ _ _ _ _ _ S h5⟩, fun _ w9 _ => c h _ _ _ _ _ _ _ _ _ S h5⟩⟩⟩
theorem bA_01 : bAnd 0 1 = 0 := by decide
theorem bA_11 : bAnd 1 1 = 1 := by decide
theorem l_292 {X : aX} {V : vS} {land y nn : Int} (hn : 0 ≤ V 72 2 ∧ V 72 2 ≤ 150) (hN : 0 ≤ V 72 19 ∧ V 72 19 ≤ 300) (h9 : nn ≤ 9) : ∀ (n : Nat) (h : aH) (x1 x2 x3 x4 x5 : Int32) (k : Nat), wS h → x1.toInt = land → x2.toInt = y → x3.toInt = nn → x4.toInt = nQ (P292 V land y) k → x5.toInt = (k : Int) → (k : Int) ≤ V 72 2 → (∀ (c : Nat) j, c ≠ 135 → vw h c j = V c j) → Pt n X zM292 40 [some (.ref 72), some (.int x1), some (.int x2), some (.int x3), some (.int x4), some (.int x5), none, none, none, none] [] h (qI (fun r _ => r = min nn (nQ (P292 V land y) (V 72 2).toNat))) := by
  intro n
  induction n with
  | zero => intros; exact pt_z
  | succ n ih =>
    intro h x1 x2 x3 x4 x5 k S h1 h2 h3 h4 h5 hk' F
    have b := nQ_b (P292 V land y) k
    have n1 := F 72 2 (by decide)
    have cf : mFarm (vw h) (k : Nat) ↔ mFarm V (k : Nat) := by
      unfold mFarm mBody
      rw [n1, F 73 _ (by decide)]
    have ex : (∃ c, (0 ≤ c ∧ c < vw h 72 19) ∧ (vw h 103 c ≠ 0 ∧ vw h 87 c = (k : Nat) ∧ iDiv (vw h 90 c) 365 = y)) ↔ ∃ c, (0 ≤ c ∧ c < V 72 19) ∧ (V 103 c ≠ 0 ∧ V 87 c = (k : Nat) ∧ iDiv (V 90 c) 365 = y) := by
      simp only [F 72 _ (by decide), F 103 _ (by decide), F 87 _ (by decide), F 90 _ (by decide)]
    have e74 := F 74 (k : Nat) (by decide)
    have next : (k : Int) < vw h 72 2 → ∀ (d : Int), (d = 0 ∧ ¬ P292 V land y (k : Nat) ∨ d = 1 ∧ P292 V land y (k : Nat)) → ∀ (g : aH) (v : Int) (w4 w5 : Int32), wS g → vw g = up (vw h) 135 (k : Nat) v → w4.toInt = w32 (nQ (P292 V land y) k + d) → w5.toInt = w32 ((k : Int) + 1) → Pt n X zM292 40 [some (.ref 72), some (.int x1), some (.int x2), some (.int x3), some (.int w4), some (.int w5), none, none, none, none] [] g (qI (fun r _ => r = min nn (nQ (P292 V land y) (V 72 2).toNat))) := by
      intro e d D g v w4 w5 S2 eg g4 g5
      replace g5 := w_1 g5 (by omega) (by omega)
      replace g4 := w_1 g4 (by omega) (by omega)
      refine ih g x1 x2 x3 w4 w5 (k + 1) S2 h1 h2 h3 ?_ (by omega) (by omega) (fun c j nc => by rw [eg, up_c nc]; exact F c j nc)
      rcases D with ⟨d0, z⟩ | ⟨d1, z⟩
      · rw [g4, nQ_f z, d0]
      · rw [g4, nQ_t z, d1]
    refine d292_40 S h1 h2 h3 h4 h5 ⟨fun e w5 w6 u7 u8 u9 g5 g6 => ?_, fun e => ⟨fun z _ _ => ⟨fun _ g S2 eg w4 w5 g4 g5 => next e 0 (Or.inl ⟨rfl, fun w => z (cf.mpr w.1.1)⟩) g _ w4 w5 S2 eg g4 g5, fun w => absurd bA_01 w⟩, fun z _ _ => ⟨fun z2 => ⟨fun _ g S2 eg w4 w5 g4 g5 => next e 0 (Or.inl ⟨rfl, fun w => z2 (by rw [e74]; exact w.1.2)⟩) g _ w4 w5 S2 eg g4 g5, fun w => absurd bA_01 w⟩, fun z2 => ⟨by rw [F 72 19 (by decide)]; exact hN, fun z3 => ⟨fun _ g S2 eg w4 w5 g4 g5 => next e 0 (Or.inl ⟨rfl, fun w => z3 (ex.mpr w.2)⟩) g _ w4 w5 S2 eg g4 g5, fun w => absurd bA_01 w⟩, fun z3 => ⟨fun w => absurd (bA_11.symm.trans w) (by decide), fun _ g S2 eg w4 w5 g4 g5 => next e 1 (Or.inr ⟨rfl, ⟨cf.mp z, by rw [← e74]; exact z2⟩, ex.mp z3⟩) g _ w4 w5 S2 eg g4 g5⟩⟩⟩⟩⟩
    · have en : (V 72 2).toNat = k := by omega
      rw [en]
      exact (l_292b (m := min nn (nQ (P292 V land y) k)) (by omega) n).1 h x1 x2 x3 x4 w5 w6 u7 u8 u9 S g5
def R292 (V : vS) (l y n r : Int) : Prop := (¬ okDr l y n ∧ r = -1) ∨ (okDr l y n ∧ ∃ W, R239 V (V 72 1) W ∧ r = min n (nQ (P292 W l y) (W 72 2).toNat))
theorem c_292w {n : Nat} {X : aX} {h : aH} {x1 x2 x3 : Int32} {a1 a2 a3 : Int} (S : wS h) (z1 : x1.toInt = a1) (z2 : x2.toInt = a2) (z3 : x3.toInt = a3) (I : IV h) : Pt n X zM292 0 [some (.ref 72), some (.int x1), some (.int x2), some (.int x3), none, none, none, none, none, none] [] h (qI (fun r h' => (0 ≤ vw h 72 2 ∧ vw h 72 2 ≤ 150 → R292 (vw h) a1 a2 a3 r) ∧ IV h')) := by
  have c : 0 ≤ vw h 72 2 ∧ vw h 72 2 ≤ 150 → Pt n X zM292 0 [some (.ref 72), some (.int x1), some (.int x2), some (.int x3), none, none, none, none, none, none] [] h (qI (fun r _ => R292 (vw h) a1 a2 a3 r)) := fun hn => by
    refine pt_d (d292_0 S z1 z2 z3 ⟨fun e => Or.inl ⟨fun z => e z.1, rfl⟩, fun e1 => ⟨fun e => Or.inl ⟨fun z => e z.2.1, rfl⟩, fun e2 => ⟨fun e3 => ⟨I.2.2.2, fun g R w4 w5 g4 g5 => ?_⟩, fun e => Or.inl ⟨fun z => e z.2.2, rfl⟩⟩⟩⟩)
    obtain ⟨S2, R⟩ := R
    have A := R.1.1
    refine pt_q (l_292 (V := vw g) (land := a1) (y := a2) (nn := a3) (by rw [agR_y A (by decide) (by decide)]; exact hn) (by rw [agR_y A (by decide) (by decide)]; exact I.2.2.2.1) e3.2 n g x1 x2 x3 w4 w5 0 S2 z1 z2 z3 g4 g5 (by rw [agR_y A (by decide) (by decide)]; exact hn.1) (fun _ _ _ => rfl)) ?_
    rintro v h' ⟨x, ev, r⟩
    exact ⟨x, ev, Or.inr ⟨⟨e1, e2, e3⟩, vw g, R, r⟩⟩
  by_cases hn : 0 ≤ vw h 72 2 ∧ vw h 72 2 ≤ 150
  · refine pt_q (pt_and (c hn) (wk_292 S z1 z2 z3 I)) ?_
    rintro v h' ⟨⟨x, ev, r⟩, ⟨x', -, -, -, I'⟩⟩
    exact ⟨x, ev, fun _ => r, I'⟩
  · refine pt_q (wk_292 S z1 z2 z3 I) ?_
    rintro v h' ⟨x', ev, -, -, I'⟩
    exact ⟨x', ev, fun z => absurd z hn, I'⟩
end
section
-- ===== the draw =====
theorem dyf_le {x t r t' : Int32} (h : dyf x t r t') : t.toInt ≤ t'.toInt := by
  rcases h with ⟨a, -, -, e, -⟩ | ⟨-, e, -⟩
  · omega
  · rw [e]
    exact Int.le_refl _
def frC (W : List (Nat × Nat)) : Bool := W.all (fun t => Nat.blt t.1 72 || Nat.blt 110 t.1)
theorem frC_n {W : List (Nat × Nat)} (k : frC W = true) {r i : Nat} (hr : 72 ≤ r ∧ r ≤ 110) : cWn W r i = false := by
  unfold cWn
  rw [List.any_eq_false]
  intro t ht
  unfold frC at k
  rw [List.all_eq_true] at k
  have n := k t ht
  simp only [Bool.or_eq_true, Nat.blt_eq] at n
  intro z
  simp only [Bool.and_eq_true] at z
  have e := Nat.eq_of_beq_eq_true z.1
  omega
theorem fr_dG {W : List (Nat × Nat)} {σ σ1 : List Nat} {h h1 : aH} (I : dI σ h) (G : dG W σ h σ1 h1) (k : frC W = true) : ∀ (c : Nat) j, 72 ≤ c → c ≤ 110 → vw h1 c j = vw h c j := fun c j u v => vw_un I G (I.1.2.2.2 c (by omega)) (fun i => frC_n k ⟨u, v⟩) j
theorem lat_e {V : vS} {q : Nat} {y k f : Int} (A : AP V) (S : scK V q y k) (hf : 0 ≤ f ∧ f < 150) : isMx (fun c => (0 ≤ c ∧ c < V 72 19) ∧ LkM V k y c ∧ V 87 c = f) (V (q + 7) f) := by
  have E := A.1
  obtain ⟨C, B, Od, hd, -⟩ := E
  obtain ⟨-, L, -, -, -, T⟩ := S
  obtain ⟨-, -, m1, m2, m3⟩ := T f hf.1 hf.2
  have e : ∀ c, tmS V q f (V q 5) c ↔ ((0 ≤ c ∧ c < V 72 19) ∧ LkM V k y c ∧ V 87 c = f) := fun c => by
    constructor
    · rintro ⟨i, ⟨i0, iN⟩, ef, ec⟩
      obtain ⟨p, pN, zc, ci, e⟩ := li_s L i0 iN
      have m0 := Od.1 (p : Nat) (by omega) pN
      have l0 := (cnt_l C B Od hd (by omega) pN).mp zc
      rw [← e, ec] at m0 l0
      unfold fmA at ef
      rw [ec, C.2.1] at ef
      exact ⟨⟨m0.1, by rw [← C.1]; exact m0.2⟩, l0, ef⟩
    · rintro ⟨n, l, ef⟩
      obtain ⟨p, pN, z, e, lt, s⟩ := li_m C B Od hd L n.1 n.2 l
      refine ⟨((cnN V y k p : Nat) : Int), ⟨by omega, lt⟩, ?_, s⟩
      unfold fmA
      rw [s, C.2.1]
      exact ef
  exact ⟨m1, m2.imp id (fun z => (e _).mp z), fun c hc => m3 c ((e c).mpr hc)⟩
theorem lat_n1 {V : vS} {q : Nat} {y k f : Int} (A : AP V) (S : scK V q y k) (hf : 0 ≤ f ∧ f < 150) : V (q + 7) f ≠ -1 ↔ ∃ c, (0 ≤ c ∧ c < V 72 19) ∧ LkM V k y c ∧ V 87 c = f := by
  obtain ⟨m1, m2, m3⟩ := lat_e A S hf
  constructor
  · intro z
    rcases m2 with m2 | m2
    · exact absurd m2 z
    · exact ⟨_, m2⟩
  · rintro ⟨c, hc⟩ z
    have := m3 c hc
    have := hc.1.1
    omega
theorem jx_34 {h h1 h2 : aH} {l y n r1 r2 : Int} (I0 : IV h) (A : AP (vw h)) (fr : ∀ (c : Nat) j, 72 ≤ c → c ≤ 110 → vw h1 c j = vw h c j) (hd : vw h 1 0 = vw h 72 1) (c : R178 h l y n r1 ∧ IV h1) (m : (0 ≤ vw h1 72 2 ∧ vw h1 72 2 ≤ 150 → R292 (vw h1) l y n r2) ∧ IV h2) : (JSea (vw h2) ∧ JRk (vw h2)) ∧ r1 = r2 := by
  refine ⟨⟨JSea_IV m.2, rOK_IV m.2⟩, ?_⟩
  have B := A.1.2.1
  have b1 := B.2.2.2.2.2.1
  have b2 := B.2.2.2.2.2.2.1
  have n2 : vw h1 72 2 = vw h 1 1 := by rw [fr 72 2 (by decide) (by decide)]; exact B.1.symm
  have m := m.1 (by rw [n2]; exact ⟨b1, b2⟩)
  rcases c.1 with ⟨n, rfl⟩ | ⟨o, g', ⟨q, g, R, cn, -⟩, e1⟩
  · rcases m with ⟨-, rfl⟩ | ⟨o', -⟩
    · rfl
    · exact absurd o' n
  · rcases m with ⟨n, -⟩ | ⟨-, W, RR, e2⟩
    · exact absurd o n
    · have fg := R1_f R
      have Ag := AP_f A fg
      have Sc := R1_sc I0 R
      have k1 : vw h1 72 1 = vw h 1 0 := by rw [fr 72 1 (by decide) (by decide)]; exact hd.symm
      rw [k1] at RR
      have x : ∀ (c : Nat) j, 72 ≤ c → c ≤ 110 → vw h1 c j = vw g c j := fun c j u v => (fr c j u v).trans (fg c j (by omega) (by omega)).symm
      have AR := RR.1.1
      have M : agM (vw g) (vw h1) := ⟨fun c j u v => x c j (by omega) (by omega), x 72 _ (by decide) (by decide), x 72 _ (by decide) (by decide), x 72 _ (by decide) (by decide)⟩
      have x2 : ∀ (c : Nat) j, 72 < c → c < 103 → W c j = vw g c j := fun c j u v => (agR_x AR c j v (by omega)).trans (x c j (by omega) (by omega))
      have y2 : ∀ j, j ≠ 38 → j ≠ 39 → W 72 j = vw g 72 j := fun j u v => (agR_y AR u v).trans (x 72 j (by decide) (by decide))
      have Bg := Ag.1.2.1
      have g0 := Bg.2.2.2.2.2.1
      have g1 := Bg.2.2.2.2.2.2.1
      have PE : ∀ b, 0 ≤ b → b < vw g 1 1 → (P62 (vw g) q l b ↔ P292 W l y b) := fun b c0 c1 => by
        unfold P62 P292
        have fm : (cFarm (vw g) b ∧ vw g 3 b = l) ↔ (mFarm W b ∧ W 74 b = l) := by
          rw [farm_j Bg]
          unfold mFarm mBody
          rw [y2 2 (by decide) (by decide), x2 73 b (by decide) (by decide), x2 74 b (by decide) (by decide)]
          refine and_congr_right (fun w => ?_)
          rw [(Bg.2.2.2.2.2.2.2.2 b c0 c1).1 (((farm_j Bg b).mpr w).2)]
        have cl : vw g (q + 7) b ≠ -1 ↔ ∃ c, (0 ≤ c ∧ c < W 72 19) ∧ (W 103 c ≠ 0 ∧ W 87 c = b ∧ iDiv (W 90 c) 365 = y) := by
          rw [lat_n1 Ag Sc ⟨c0, by omega⟩]
          have e19 := y2 19 (by decide) (by decide)
          have rk' : ∀ c, 0 ≤ c → c < vw g 72 19 → (W 103 c ≠ 0 ↔ mcn (vw g) c (vw h 1 0)) := fun c u v => by
            rw [RR.1.2.2 c u (by rw [x 72 19 (by decide) (by decide)]; exact v), ← mcn_m M c]
            by_cases z : mcn (vw h1) c (vw h 1 0)
            · rw [bI_t z]
              exact ⟨fun _ => z, fun _ => by decide⟩
            · rw [bI_f z]
              exact ⟨fun w => absurd rfl w, fun w => absurd w z⟩
          constructor
          · rintro ⟨c, nc, lk, ef⟩
            exact ⟨c, by rw [e19]; exact nc, (rk' c nc.1 nc.2).mpr lk.1, by rw [x2 87 c (by decide) (by decide)]; exact ef, by rw [x2 90 c (by decide) (by decide)]; exact lk.2⟩
          · rintro ⟨c, nc, a, ef, ey⟩
            rw [e19] at nc
            rw [x2 87 c (by decide) (by decide)] at ef
            rw [x2 90 c (by decide) (by decide)] at ey
            exact ⟨c, nc, ⟨(rk' c nc.1 nc.2).mp a, ey⟩, ef⟩
        rw [fm, cl]
      have en : (W 72 2).toNat = (vw g 1 1).toNat := by rw [y2 2 (by decide) (by decide), ← Bg.1]
      rw [e1, e2, cn, en, nQ_c _ (fun j a b => PE j a (by omega))]
end

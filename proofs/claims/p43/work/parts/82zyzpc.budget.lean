-- ===== a budget cut =====
theorem d281_0 {n : Nat} {X : aX} {h : aH} {P : Int → aH → Prop} {x1 x2 x3 : Int32} {a1 a2 a3 : Int} (S : wS h) (z1 : x1.toInt = a1) (z2 : x2.toInt = a2) (z3 : x3.toInt = a3) (H : ((¬ (mFarm (vw h) a1) → P (-1) h) ∧ ((mFarm (vw h) a1) → ((¬ (0 ≤ a2 ∧ a2 ≤ 9) → P (-1) h) ∧ ((0 ≤ a2 ∧ a2 ≤ 9) → (((0 ≤ a3 ∧ a3 ≤ 2000000000) → (∀ (w4 : Int64) (w6 : Int32), w4.toInt = 0 → w6.toInt = 0 → Pt n X zM281 34 [some (.ref 72), some (.int x1), some (.int x2), some (.int x3), some (.long w4), none, some (.int w6), none, none, none] [] h (qI P))) ∧ (¬ (0 ≤ a3 ∧ a3 ≤ 2000000000) → P (-1) h))))))) : Pt (n + 1) X zM281 0 [some (.ref 72), some (.int x1), some (.int x2), some (.int x3), none, none, none, none, none, none] [] h (qI P) := by
  refine pt_1 (fun n d => r_aloadn gx281_0 rfl) ?_
  refine pt_d (pt_1 (fun n d => r_iloadn gx281_1 rfl) ?_)
  refine pt_d (pt_virt (as := [.int x1]) (r := []) gx281_2 rfl (show zmt[202]? = some zM202 from rfl) rfl rfl rfl rfl (c_202 S z1) (kqP (fun v1 h1 => ?_)))
  show Pt _ _ _ 5 _ [.int v1] _ _
  refine pt_d (pt_ifB_eq gx281_5 h1 (fun e2 => ?_) (fun e2 => ?_))
  · have H := H.1 e2
    refine pt_d (pt_iconst gx281_26 (fun v3 h3 => ?_))
    exact pt_d (pt_iret gx281_27 ⟨_, rfl, by rw [h3]; exact H⟩)
  · have H := H.2 e2
    refine pt_d (pt_1 (fun n d => r_iloadn gx281_8 rfl) ?_)
    refine pt_d (pt_stat (as := [.int x2]) (r := []) gx281_9 rfl (show zmt[198]? = some zM198 from rfl) rfl rfl rfl rfl (c_198 S z2) (kqP (fun v4 h4 => ?_)))
    show Pt _ _ _ 12 _ [.int v4] _ _
    refine pt_d (pt_ifB_eq gx281_12 h4 (fun e5 => ?_) (fun e5 => ?_))
    · have H := H.1 e5
      refine pt_d (pt_iconst gx281_26 (fun v6 h6 => ?_))
      exact pt_d (pt_iret gx281_27 ⟨_, rfl, by rw [h6]; exact H⟩)
    · have H := H.2 e5
      refine pt_d (pt_1 (fun n d => r_iloadn gx281_15 rfl) ?_)
      refine pt_d (pt_iconst gx281_16 (fun v7 h7 => ?_))
      refine pt_d (pt_ldc_w (c := 2000000000) gx281_17 rfl (fun v8 h8 => ?_))
      refine pt_d (pt_stat (as := [.int x3, .int v7, .int v8]) (r := []) gx281_20 rfl (show zmt[196]? = some zM196 from rfl) rfl rfl rfl rfl (c_196 S z3 h7 h8) (kqP (fun v9 h9 => ?_)))
      show Pt _ _ _ 23 _ [.int v9] _ _
      refine pt_d (pt_ifB_ne gx281_23 h9 (fun e10 => ?_) (fun e10 => ?_))
      · have H := H.1 e10
        refine pt_d (pt_lconst (c := 0) gx281_28 rfl (fun v11 h11 => ?_))
        refine pt_d (pt_1 (fun n d => r_lstore (L' := [some (.ref 72), some (.int x1), some (.int x2), some (.int x3), some (.long v11), none, none, none, none, none]) gx281_29 rfl rfl) ?_)
        refine pt_d (pt_iconst gx281_31 (fun v12 h12 => ?_))
        refine pt_d (pt_1 (fun n d => r_istore (L' := [some (.ref 72), some (.int x1), some (.int x2), some (.int x3), some (.long v11), none, some (.int v12), none, none, none]) gx281_32 rfl rfl) ?_)
        exact H v11 v12 h11 h12
      · have H := H.2 e10
        refine pt_d (pt_iconst gx281_26 (fun v13 h13 => ?_))
        exact pt_d (pt_iret gx281_27 ⟨_, rfl, by rw [h13]; exact H⟩)
theorem d281_34 {n : Nat} {X : aX} {h : aH} {P : Int → aH → Prop} {x1 x2 x3 x6 : Int32} {x4 : Int64} {a1 a2 a3 a6 a4 : Int} (S : wS h) (z1 : x1.toInt = a1) (z2 : x2.toInt = a2) (z3 : x3.toInt = a3) (z4 : x4.toInt = a4) (z6 : x6.toInt = a6) (H : ((vw h 72 2 ≤ a6 → ((a3 < a4 → (∀ (w6 : Int64) (w8 : Int32), w6.toInt = a3 → w8.toInt = 0 → Pt n X zM281 133 [some (.ref 72), some (.int x1), some (.int x2), some (.int x3), some (.long x4), none, some (.long w6), none, some (.int w8), none] [] h (qI P))) ∧ (a4 ≤ a3 → (0 ≤ a1 → a1 < 150 → P (w32 (vw h 130 a1)) h)))) ∧ (a6 < vw h 72 2 → ((¬ (mFarm (vw h) a6) → (0 ≤ a6 → a6 < 150 → ∀ h_14 : aH, wS h_14 → vw h_14 = up (vw h) 130 a6 0 → hk h h_14 → (∀ (w4 : Int64) (w6 : Int32), w4.toInt = w64 (a4 + 0) → w6.toInt = w32 (a6 + 1) → Pt n X zM281 34 [some (.ref 72), some (.int x1), some (.int x2), some (.int x3), some (.long w4), none, some (.int w6), none, none, none] [] h_14 (qI P)))) ∧ ((mFarm (vw h) a6) → (0 ≤ a6 → a6 < 150 → (0 ≤ a1 → a1 < 150 → ((vw h 74 a6 ≠ vw h 74 a1 → ∀ h_25 : aH, wS h_25 → vw h_25 = up (vw h) 130 a6 0 → hk h h_25 → (∀ (w4 : Int64) (w6 : Int32), w4.toInt = w64 (a4 + 0) → w6.toInt = w32 (a6 + 1) → Pt n X zM281 34 [some (.ref 72), some (.int x1), some (.int x2), some (.int x3), some (.long w4), none, some (.int w6), none, none, none] [] h_25 (qI P))) ∧ (vw h 74 a6 = vw h 74 a1 → ((pr8p h a6 a2 (vw h 72 1) (-1)) ∧ ∀ (y32 : Int) (h_32 : aH), (RP277 h a6 a2 (vw h 72 1) (-1) y32 h_32) → ∀ h_34 : aH, wS h_34 → vw h_34 = up (vw h_32) 130 a6 y32 → hk h_32 h_34 → (∀ (w4 : Int64) (w6 : Int32), w4.toInt = w64 (a4 + y32) → w6.toInt = w32 (a6 + 1) → Pt n X zM281 34 [some (.ref 72), some (.int x1), some (.int x2), some (.int x3), some (.long w4), none, some (.int w6), none, none, none] [] h_34 (qI P)))))))))))) : Pt (n + 1) X zM281 34 [some (.ref 72), some (.int x1), some (.int x2), some (.int x3), some (.long x4), none, some (.int x6), none, none, none] [] h (qI P) := by
  refine pt_1 (fun n d => r_iload gx281_34 rfl) ?_
  refine pt_d (pt_1 (fun n d => r_aloadn gx281_36 rfl) ?_)
  refine pt_d (pt_getI (B := 2) gx281_37 S (fun v1 h1 => ?_))
  refine pt_d (pt_icmp_ge gx281_40 z6 h1 (fun e2 => ?_) (fun e2 => ?_))
  · have H := H.1 e2
    refine pt_d (pt_1 (fun n d => r_lload gx281_110 rfl) ?_)
    refine pt_d (pt_1 (fun n d => r_iloadn gx281_112 rfl) ?_)
    refine pt_d (pt_i2l gx281_113 z3 (fun v3 h3 => ?_))
    refine pt_d (pt_lcmp_gt gx281_114 gx281_115 z4 h3 (fun e4 => ?_) (fun e4 => ?_))
    · have H := H.1 e4
      refine pt_d (pt_1 (fun n d => r_iloadn gx281_126 rfl) ?_)
      refine pt_d (pt_i2l gx281_127 z3 (fun v5 h5 => ?_))
      refine pt_d (pt_1 (fun n d => r_lstore (L' := [some (.ref 72), some (.int x1), some (.int x2), some (.int x3), some (.long x4), none, some (.long v5), none, none, none]) gx281_128 rfl rfl) ?_)
      refine pt_d (pt_iconst gx281_130 (fun v6 h6 => ?_))
      refine pt_d (pt_1 (fun n d => r_istore (L' := [some (.ref 72), some (.int x1), some (.int x2), some (.int x3), some (.long x4), none, some (.long v5), none, some (.int v6), none]) gx281_131 rfl rfl) ?_)
      exact H v5 v6 h5 h6
    · have H := H.2 e4
      refine pt_d (pt_1 (fun n d => r_aloadn gx281_118 rfl) ?_)
      refine pt_d (pt_getR gx281_119 S tr_72_77 ?_)
      refine pt_d (pt_1 (fun n d => r_iloadn gx281_122 rfl) ?_)
      refine pt_d (pt_lald (N' := 150) gx281_123 S tl_130 z1 (fun v8 p8 q8 h8 => ?_))
      have H := H p8 q8
      refine pt_d (pt_l2i gx281_124 h8 (fun v9 h9 => ?_))
      exact pt_d (pt_iret gx281_125 ⟨_, rfl, by rw [h9]; exact H⟩)
  · have H := H.2 e2
    refine pt_d (pt_1 (fun n d => r_aloadn gx281_43 rfl) ?_)
    refine pt_d (pt_getR gx281_44 S tr_72_77 ?_)
    refine pt_d (pt_1 (fun n d => r_iload gx281_47 rfl) ?_)
    refine pt_d (pt_1 (fun n d => r_aloadn gx281_49 rfl) ?_)
    refine pt_d (pt_1 (fun n d => r_iload gx281_50 rfl) ?_)
    refine pt_d (pt_virt (as := [.int x6]) (r := [.int x6, .ref 130]) gx281_52 rfl (show zmt[202]? = some zM202 from rfl) rfl rfl rfl rfl (c_202 S z6) (kqP (fun v11 h11 => ?_)))
    show Pt _ _ _ 55 _ [.int v11, .int x6, .ref 130] _ _
    refine pt_d (pt_ifB_eq gx281_55 h11 (fun e12 => ?_) (fun e12 => ?_))
    · have H := H.1 e12
      refine pt_d (pt_lconst (c := 0) gx281_90 rfl (fun v13 h13 => ?_))
      refine pt_d (pt_lasth (N' := 150) gx281_91 S tl_130 z6 h13 (fun h_14 S14 p14 q14 e14 K14 => ?_))
      have H := H p14 q14
      refine pt_d (pt_1 (fun n d => r_lload gx281_92 rfl) ?_)
      refine pt_d (pt_1 (fun n d => r_aloadn gx281_94 rfl) ?_)
      refine pt_d (pt_getR gx281_95 S14 tr_72_77 ?_)
      refine pt_d (pt_1 (fun n d => r_iload gx281_98 rfl) ?_)
      refine pt_d (pt_lald (N' := 150) gx281_100 S14 tl_130 z6 (fun v16 p16 q16 h16 => ?_))
      have h16 : v16.toInt = 0 := by rw [h16, e14, up_s]
      refine pt_d (pt_ladd gx281_101 z4 h16 (fun v17 h17 => ?_))
      refine pt_d (pt_1 (fun n d => r_lstore (L' := [some (.ref 72), some (.int x1), some (.int x2), some (.int x3), some (.long v17), none, some (.int x6), none, none, none]) gx281_102 rfl rfl) ?_)
      refine pt_d (pt_iinc (c := 1) gx281_104 rfl z6 (fun v18 h18 => ?_))
      show Pt _ _ _ _ [some (.ref 72), some (.int x1), some (.int x2), some (.int x3), some (.long v17), none, some (.int v18), none, none, none] [] _ _
      refine pt_d (pt_1 (fun n d => r_goto gx281_107) ?_)
      have H := H h_14 S14 (by rw [e14]) K14
      exact H v17 v18 h17 h18
    · have H := H.2 e12
      refine pt_d (pt_1 (fun n d => r_aloadn gx281_58 rfl) ?_)
      refine pt_d (pt_getR gx281_59 S tr_72_4 ?_)
      refine pt_d (pt_1 (fun n d => r_iload gx281_62 rfl) ?_)
      refine pt_d (pt_iald (N' := 150) gx281_64 S tl_74 z6 (fun v20 p20 q20 h20 => ?_))
      have H := H p20 q20
      refine pt_d (pt_1 (fun n d => r_aloadn gx281_65 rfl) ?_)
      refine pt_d (pt_getR gx281_66 S tr_72_4 ?_)
      refine pt_d (pt_1 (fun n d => r_iloadn gx281_69 rfl) ?_)
      refine pt_d (pt_iald (N' := 150) gx281_70 S tl_74 z1 (fun v22 p22 q22 h22 => ?_))
      have H := H p22 q22
      refine pt_d (pt_icmp_ne gx281_71 h20 h22 (fun e23 => ?_) (fun e23 => ?_))
      · have H := H.1 e23
        refine pt_d (pt_lconst (c := 0) gx281_90 rfl (fun v24 h24 => ?_))
        refine pt_d (pt_lasth (N' := 150) gx281_91 S tl_130 z6 h24 (fun h_25 S25 p25 q25 e25 K25 => ?_))
        refine pt_d (pt_1 (fun n d => r_lload gx281_92 rfl) ?_)
        refine pt_d (pt_1 (fun n d => r_aloadn gx281_94 rfl) ?_)
        refine pt_d (pt_getR gx281_95 S25 tr_72_77 ?_)
        refine pt_d (pt_1 (fun n d => r_iload gx281_98 rfl) ?_)
        refine pt_d (pt_lald (N' := 150) gx281_100 S25 tl_130 z6 (fun v27 p27 q27 h27 => ?_))
        have h27 : v27.toInt = 0 := by rw [h27, e25, up_s]
        refine pt_d (pt_ladd gx281_101 z4 h27 (fun v28 h28 => ?_))
        refine pt_d (pt_1 (fun n d => r_lstore (L' := [some (.ref 72), some (.int x1), some (.int x2), some (.int x3), some (.long v28), none, some (.int x6), none, none, none]) gx281_102 rfl rfl) ?_)
        refine pt_d (pt_iinc (c := 1) gx281_104 rfl z6 (fun v29 h29 => ?_))
        show Pt _ _ _ _ [some (.ref 72), some (.int x1), some (.int x2), some (.int x3), some (.long v28), none, some (.int v29), none, none, none] [] _ _
        refine pt_d (pt_1 (fun n d => r_goto gx281_107) ?_)
        have H := H h_25 S25 (by rw [e25]) K25
        exact H v28 v29 h28 h29
      · have H := H.2 e23
        refine pt_d (pt_1 (fun n d => r_aloadn gx281_74 rfl) ?_)
        refine pt_d (pt_1 (fun n d => r_iload gx281_75 rfl) ?_)
        refine pt_d (pt_1 (fun n d => r_iloadn gx281_77 rfl) ?_)
        refine pt_d (pt_1 (fun n d => r_aloadn gx281_78 rfl) ?_)
        refine pt_d (pt_getI (B := 1) gx281_79 S (fun v30 h30 => ?_))
        refine pt_d (pt_iconst gx281_82 (fun v31 h31 => ?_))
        obtain ⟨pr32, H⟩ := H
        refine pt_d (pt_virt (as := [.int x6, .int x2, .int v30, .int v31]) (r := [.int x6, .ref 130]) gx281_83 rfl (show zmt[277]? = some zM277 from rfl) rfl rfl rfl rfl (c_277p S z6 z2 h30 h31 pr32) (kqI (fun v32 y32 h_32 h32 P32 => ?_)))
        have S32 := P32.1
        have H := H y32 h_32 P32
        show Pt _ _ _ 86 _ [.int v32, .int x6, .ref 130] _ _
        refine pt_d (pt_i2l gx281_86 h32 (fun v33 h33 => ?_))
        refine pt_d (pt_1 (fun n d => r_goto gx281_87) ?_)
        refine pt_d (pt_lasth (N' := 150) gx281_91 S32 tl_130 z6 h33 (fun h_34 S34 p34 q34 e34 K34 => ?_))
        refine pt_d (pt_1 (fun n d => r_lload gx281_92 rfl) ?_)
        refine pt_d (pt_1 (fun n d => r_aloadn gx281_94 rfl) ?_)
        refine pt_d (pt_getR gx281_95 S34 tr_72_77 ?_)
        refine pt_d (pt_1 (fun n d => r_iload gx281_98 rfl) ?_)
        refine pt_d (pt_lald (N' := 150) gx281_100 S34 tl_130 z6 (fun v36 p36 q36 h36 => ?_))
        have h36 : v36.toInt = y32 := by rw [h36, e34, up_s]
        refine pt_d (pt_ladd gx281_101 z4 h36 (fun v37 h37 => ?_))
        refine pt_d (pt_1 (fun n d => r_lstore (L' := [some (.ref 72), some (.int x1), some (.int x2), some (.int x3), some (.long v37), none, some (.int x6), none, none, none]) gx281_102 rfl rfl) ?_)
        refine pt_d (pt_iinc (c := 1) gx281_104 rfl z6 (fun v38 h38 => ?_))
        show Pt _ _ _ _ [some (.ref 72), some (.int x1), some (.int x2), some (.int x3), some (.long v37), none, some (.int v38), none, none, none] [] _ _
        refine pt_d (pt_1 (fun n d => r_goto gx281_107) ?_)
        have H := H h_34 S34 (by rw [e34]) K34
        exact H v37 v38 h37 h38
theorem d281_133 {n : Nat} {X : aX} {h : aH} {P : Int → aH → Prop} {x1 x2 x3 x8 : Int32} {x4 x6 : Int64} {a1 a2 a3 a8 a4 a6 : Int} (S : wS h) (z1 : x1.toInt = a1) (z2 : x2.toInt = a2) (z3 : x3.toInt = a3) (z4 : x4.toInt = a4) (z6 : x6.toInt = a6) (z8 : x8.toInt = a8) (H : ((vw h 72 2 ≤ a8 → (∀ (u9_ : Option Value), Pt n X zM281 180 [some (.ref 72), some (.int x1), some (.int x2), some (.int x3), some (.long x4), none, some (.long x6), none, some (.int x8), u9_] [] h (qI P))) ∧ (a8 < vw h 72 2 → (0 ≤ a8 → a8 < 150 → ∀ h_9 : aH, wS h_9 → vw h_9 = up (vw h) 131 a8 (jDiv (w64 (a3 * (vw h 130 a8))) a4) → hk h h_9 → (∀ (w6 : Int64) (w8 : Int32), w6.toInt = w64 (a6 - (jDiv (w64 (a3 * (vw h 130 a8))) a4)) → w8.toInt = w32 (a8 + 1) → Pt n X zM281 133 [some (.ref 72), some (.int x1), some (.int x2), some (.int x3), some (.long x4), none, some (.long w6), none, some (.int w8), none] [] h_9 (qI P)))))) : Pt (n + 1) X zM281 133 [some (.ref 72), some (.int x1), some (.int x2), some (.int x3), some (.long x4), none, some (.long x6), none, some (.int x8), none] [] h (qI P) := by
  refine pt_1 (fun n d => r_iload gx281_133 rfl) ?_
  refine pt_d (pt_1 (fun n d => r_aloadn gx281_135 rfl) ?_)
  refine pt_d (pt_getI (B := 2) gx281_136 S (fun v1 h1 => ?_))
  refine pt_d (pt_icmp_ge gx281_139 z8 h1 (fun e2 => ?_) (fun e2 => ?_))
  · have H := H.1 e2
    exact H _
  · have H := H.2 e2
    refine pt_d (pt_1 (fun n d => r_aloadn gx281_142 rfl) ?_)
    refine pt_d (pt_getR gx281_143 S tr_72_78 ?_)
    refine pt_d (pt_1 (fun n d => r_iload gx281_146 rfl) ?_)
    refine pt_d (pt_1 (fun n d => r_iloadn gx281_148 rfl) ?_)
    refine pt_d (pt_i2l gx281_149 z3 (fun v4 h4 => ?_))
    refine pt_d (pt_1 (fun n d => r_aloadn gx281_150 rfl) ?_)
    refine pt_d (pt_getR gx281_151 S tr_72_77 ?_)
    refine pt_d (pt_1 (fun n d => r_iload gx281_154 rfl) ?_)
    refine pt_d (pt_lald (N' := 150) gx281_156 S tl_130 z8 (fun v6 p6 q6 h6 => ?_))
    have H := H p6 q6
    refine pt_d (pt_lmul gx281_157 h4 h6 (fun v7 h7 => ?_))
    refine pt_d (pt_1 (fun n d => r_lload gx281_158 rfl) ?_)
    refine pt_d (pt_ldiv gx281_160 h7 z4 (fun v8 h8 => ?_))
    refine pt_d (pt_lasth (N' := 150) gx281_161 S tl_131 z8 h8 (fun h_9 S9 p9 q9 e9 K9 => ?_))
    refine pt_d (pt_1 (fun n d => r_lload gx281_162 rfl) ?_)
    refine pt_d (pt_1 (fun n d => r_aloadn gx281_164 rfl) ?_)
    refine pt_d (pt_getR gx281_165 S9 tr_72_78 ?_)
    refine pt_d (pt_1 (fun n d => r_iload gx281_168 rfl) ?_)
    refine pt_d (pt_lald (N' := 150) gx281_170 S9 tl_131 z8 (fun v11 p11 q11 h11 => ?_))
    have h11 : v11.toInt = jDiv (w64 (a3 * (vw h 130 a8))) a4 := by rw [h11, e9, up_s]
    refine pt_d (pt_lsub gx281_171 z6 h11 (fun v12 h12 => ?_))
    refine pt_d (pt_1 (fun n d => r_lstore (L' := [some (.ref 72), some (.int x1), some (.int x2), some (.int x3), some (.long x4), none, some (.long v12), none, some (.int x8), none]) gx281_172 rfl rfl) ?_)
    refine pt_d (pt_iinc (c := 1) gx281_174 rfl z8 (fun v13 h13 => ?_))
    show Pt _ _ _ _ [some (.ref 72), some (.int x1), some (.int x2), some (.int x3), some (.long x4), none, some (.long v12), none, some (.int v13), none] [] _ _
    refine pt_d (pt_1 (fun n d => r_goto gx281_177) ?_)
    have H := H h_9 S9 (by rw [e9]) K9
    exact H v12 v13 h12 h13
theorem d281_180 {n : Nat} {X : aX} {h : aH} {P : Int → aH → Prop} {x1 x2 x3 x8 : Int32} {x4 x6 : Int64} {a1 a2 a3 a8 a4 a6 : Int} {u9 : Option Value} (S : wS h) (z1 : x1.toInt = a1) (z2 : x2.toInt = a2) (z3 : x3.toInt = a3) (z4 : x4.toInt = a4) (z6 : x6.toInt = a6) (z8 : x8.toInt = a8) (H : ((a6 ≤ 0 → (0 ≤ a1 → a1 < 150 → P (w32 (vw h 131 a1)) h)) ∧ (0 < a6 → (∀ (w8 : Int32) (w9 : Int32), w8.toInt = (-1) → w9.toInt = 0 → Pt n X zM281 193 [some (.ref 72), some (.int x1), some (.int x2), some (.int x3), some (.long x4), none, some (.long x6), none, some (.int w8), some (.int w9)] [] h (qI P))))) : Pt (n + 1) X zM281 180 [some (.ref 72), some (.int x1), some (.int x2), some (.int x3), some (.long x4), none, some (.long x6), none, some (.int x8), u9] [] h (qI P) := by
  refine pt_1 (fun n d => r_lload gx281_180 rfl) ?_
  refine pt_d (pt_lconst (c := 0) gx281_182 rfl (fun v1 h1 => ?_))
  refine pt_d (pt_lcmp_le gx281_183 gx281_184 z6 h1 (fun e2 => ?_) (fun e2 => ?_))
  · have H := H.1 e2
    refine pt_d (pt_1 (fun n d => r_aloadn gx281_306 rfl) ?_)
    refine pt_d (pt_getR gx281_307 S tr_72_78 ?_)
    refine pt_d (pt_1 (fun n d => r_iloadn gx281_310 rfl) ?_)
    refine pt_d (pt_lald (N' := 150) gx281_311 S tl_131 z1 (fun v4 p4 q4 h4 => ?_))
    have H := H p4 q4
    refine pt_d (pt_l2i gx281_312 h4 (fun v5 h5 => ?_))
    exact pt_d (pt_iret gx281_313 ⟨_, rfl, by rw [h5]; exact H⟩)
  · have H := H.2 e2
    refine pt_d (pt_iconst gx281_187 (fun v6 h6 => ?_))
    refine pt_d (pt_1 (fun n d => r_istore (L' := [some (.ref 72), some (.int x1), some (.int x2), some (.int x3), some (.long x4), none, some (.long x6), none, some (.int v6), u9]) gx281_188 rfl rfl) ?_)
    refine pt_d (pt_iconst gx281_190 (fun v7 h7 => ?_))
    refine pt_d (pt_1 (fun n d => r_istore (L' := [some (.ref 72), some (.int x1), some (.int x2), some (.int x3), some (.long x4), none, some (.long x6), none, some (.int v6), some (.int v7)]) gx281_191 rfl rfl) ?_)
    exact H v6 v7 h6 h7
theorem d281_193 {n : Nat} {X : aX} {h : aH} {P : Int → aH → Prop} {x1 x2 x3 x8 x9 : Int32} {x4 x6 : Int64} {a1 a2 a3 a8 a9 a4 a6 : Int} (S : wS h) (z1 : x1.toInt = a1) (z2 : x2.toInt = a2) (z3 : x3.toInt = a3) (z4 : x4.toInt = a4) (z6 : x6.toInt = a6) (z8 : x8.toInt = a8) (z9 : x9.toInt = a9) (H : ((vw h 72 2 ≤ a9 → (0 ≤ a8 → a8 < 150 → ∀ h_7 : aH, wS h_7 → vw h_7 = up (vw h) 131 a8 (w64 ((vw h 131 a8) + 1)) → hk h h_7 → (∀ (w6 : Int64) (u9_ : Option Value), w6.toInt = w64 (a6 - 1) → Pt n X zM281 180 [some (.ref 72), some (.int x1), some (.int x2), some (.int x3), some (.long x4), none, some (.long w6), none, some (.int x8), u9_] [] h_7 (qI P)))) ∧ (a9 < vw h 72 2 → (0 ≤ a9 → a9 < 150 → ((vw h 130 a9 = 0 → (∀ (w9 : Int32), w9.toInt = w32 (a9 + 1) → Pt n X zM281 193 [some (.ref 72), some (.int x1), some (.int x2), some (.int x3), some (.long x4), none, some (.long x6), none, some (.int x8), some (.int w9)] [] h (qI P))) ∧ (vw h 130 a9 ≠ 0 → ((vw h 131 a9 ≤ jDiv (w64 (a3 * (vw h 130 a9))) a4 → ((a8 < 0 → (∀ (w9 : Int32), w9.toInt = w32 (a9 + 1) → Pt n X zM281 193 [some (.ref 72), some (.int x1), some (.int x2), some (.int x3), some (.long x4), none, some (.long x6), none, some (.int x9), some (.int w9)] [] h (qI P))) ∧ (0 ≤ a8 → (0 ≤ a8 → a8 < 150 → ((jRem (w64 (a3 * (vw h 130 a9))) a4 ≤ jRem (w64 (a3 * (vw h 130 a8))) a4 → (∀ (w9 : Int32), w9.toInt = w32 (a9 + 1) → Pt n X zM281 193 [some (.ref 72), some (.int x1), some (.int x2), some (.int x3), some (.long x4), none, some (.long x6), none, some (.int x8), some (.int w9)] [] h (qI P))) ∧ (jRem (w64 (a3 * (vw h 130 a8))) a4 < jRem (w64 (a3 * (vw h 130 a9))) a4 → (∀ (w9 : Int32), w9.toInt = w32 (a9 + 1) → Pt n X zM281 193 [some (.ref 72), some (.int x1), some (.int x2), some (.int x3), some (.long x4), none, some (.long x6), none, some (.int x9), some (.int w9)] [] h (qI P)))))))) ∧ (jDiv (w64 (a3 * (vw h 130 a9))) a4 < vw h 131 a9 → (∀ (w9 : Int32), w9.toInt = w32 (a9 + 1) → Pt n X zM281 193 [some (.ref 72), some (.int x1), some (.int x2), some (.int x3), some (.long x4), none, some (.long x6), none, some (.int x8), some (.int w9)] [] h (qI P)))))))))) : Pt (n + 1) X zM281 193 [some (.ref 72), some (.int x1), some (.int x2), some (.int x3), some (.long x4), none, some (.long x6), none, some (.int x8), some (.int x9)] [] h (qI P) := by
  refine pt_1 (fun n d => r_iload gx281_193 rfl) ?_
  refine pt_d (pt_1 (fun n d => r_aloadn gx281_195 rfl) ?_)
  refine pt_d (pt_getI (B := 2) gx281_196 S (fun v1 h1 => ?_))
  refine pt_d (pt_icmp_ge gx281_199 z9 h1 (fun e2 => ?_) (fun e2 => ?_))
  · have H := H.1 e2
    refine pt_d (pt_1 (fun n d => r_aloadn gx281_286 rfl) ?_)
    refine pt_d (pt_getR gx281_287 S tr_72_78 ?_)
    refine pt_d (pt_1 (fun n d => r_iload gx281_290 rfl) ?_)
    refine pt_d (pt_1 (fun n d => r_dup2 gx281_292 rfl) ?_)
    refine pt_d (pt_lald (N' := 150) gx281_293 S tl_131 z8 (fun v4 p4 q4 h4 => ?_))
    have H := H p4 q4
    refine pt_d (pt_lconst (c := 1) gx281_294 rfl (fun v5 h5 => ?_))
    refine pt_d (pt_ladd gx281_295 h4 h5 (fun v6 h6 => ?_))
    refine pt_d (pt_lasth (N' := 150) gx281_296 S tl_131 z8 h6 (fun h_7 S7 p7 q7 e7 K7 => ?_))
    refine pt_d (pt_1 (fun n d => r_lload gx281_297 rfl) ?_)
    refine pt_d (pt_lconst (c := 1) gx281_299 rfl (fun v8 h8 => ?_))
    refine pt_d (pt_lsub gx281_300 z6 h8 (fun v9 h9 => ?_))
    refine pt_d (pt_1 (fun n d => r_lstore (L' := [some (.ref 72), some (.int x1), some (.int x2), some (.int x3), some (.long x4), none, some (.long v9), none, some (.int x8), some (.int x9)]) gx281_301 rfl rfl) ?_)
    refine pt_d (pt_1 (fun n d => r_goto gx281_303) ?_)
    have H := H h_7 S7 (by rw [e7]) K7
    exact H v9 _ h9
  · have H := H.2 e2
    refine pt_d (pt_1 (fun n d => r_aloadn gx281_202 rfl) ?_)
    refine pt_d (pt_getR gx281_203 S tr_72_77 ?_)
    refine pt_d (pt_1 (fun n d => r_iload gx281_206 rfl) ?_)
    refine pt_d (pt_lald (N' := 150) gx281_208 S tl_130 z9 (fun v11 p11 q11 h11 => ?_))
    have H := H p11 q11
    refine pt_d (pt_lconst (c := 0) gx281_209 rfl (fun v12 h12 => ?_))
    refine pt_d (pt_lcmp_eq gx281_210 gx281_211 h11 h12 (fun e13 => ?_) (fun e13 => ?_))
    · have H := H.1 e13
      refine pt_d (pt_iinc (c := 1) gx281_280 rfl z9 (fun v14 h14 => ?_))
      show Pt _ _ _ _ [some (.ref 72), some (.int x1), some (.int x2), some (.int x3), some (.long x4), none, some (.long x6), none, some (.int x8), some (.int v14)] [] _ _
      refine pt_d (pt_1 (fun n d => r_goto gx281_283) ?_)
      exact H v14 h14
    · have H := H.2 e13
      refine pt_d (pt_1 (fun n d => r_aloadn gx281_214 rfl) ?_)
      refine pt_d (pt_getR gx281_215 S tr_72_78 ?_)
      refine pt_d (pt_1 (fun n d => r_iload gx281_218 rfl) ?_)
      refine pt_d (pt_lald (N' := 150) gx281_220 S tl_131 z9 (fun v16 p16 q16 h16 => ?_))
      refine pt_d (pt_1 (fun n d => r_iloadn gx281_221 rfl) ?_)
      refine pt_d (pt_i2l gx281_222 z3 (fun v17 h17 => ?_))
      refine pt_d (pt_1 (fun n d => r_aloadn gx281_223 rfl) ?_)
      refine pt_d (pt_getR gx281_224 S tr_72_77 ?_)
      refine pt_d (pt_1 (fun n d => r_iload gx281_227 rfl) ?_)
      refine pt_d (pt_lald (N' := 150) gx281_229 S tl_130 z9 (fun v19 p19 q19 h19 => ?_))
      refine pt_d (pt_lmul gx281_230 h17 h19 (fun v20 h20 => ?_))
      refine pt_d (pt_1 (fun n d => r_lload gx281_231 rfl) ?_)
      refine pt_d (pt_ldiv gx281_233 h20 z4 (fun v21 h21 => ?_))
      refine pt_d (pt_lcmp_le gx281_234 gx281_235 h16 h21 (fun e22 => ?_) (fun e22 => ?_))
      · have H := H.1 e22
        refine pt_d (pt_1 (fun n d => r_iload gx281_241 rfl) ?_)
        refine pt_d (pt_if_lt gx281_243 z8 (fun e23 => ?_) (fun e23 => ?_))
        · have H := H.1 e23
          refine pt_d (pt_1 (fun n d => r_iload gx281_276 rfl) ?_)
          refine pt_d (pt_1 (fun n d => r_istore (L' := [some (.ref 72), some (.int x1), some (.int x2), some (.int x3), some (.long x4), none, some (.long x6), none, some (.int x9), some (.int x9)]) gx281_278 rfl rfl) ?_)
          refine pt_d (pt_iinc (c := 1) gx281_280 rfl z9 (fun v24 h24 => ?_))
          show Pt _ _ _ _ [some (.ref 72), some (.int x1), some (.int x2), some (.int x3), some (.long x4), none, some (.long x6), none, some (.int x9), some (.int v24)] [] _ _
          refine pt_d (pt_1 (fun n d => r_goto gx281_283) ?_)
          exact H v24 h24
        · have H := H.2 e23
          refine pt_d (pt_1 (fun n d => r_iloadn gx281_246 rfl) ?_)
          refine pt_d (pt_i2l gx281_247 z3 (fun v25 h25 => ?_))
          refine pt_d (pt_1 (fun n d => r_aloadn gx281_248 rfl) ?_)
          refine pt_d (pt_getR gx281_249 S tr_72_77 ?_)
          refine pt_d (pt_1 (fun n d => r_iload gx281_252 rfl) ?_)
          refine pt_d (pt_lald (N' := 150) gx281_254 S tl_130 z9 (fun v27 p27 q27 h27 => ?_))
          refine pt_d (pt_lmul gx281_255 h25 h27 (fun v28 h28 => ?_))
          refine pt_d (pt_1 (fun n d => r_lload gx281_256 rfl) ?_)
          refine pt_d (pt_lrem gx281_258 h28 z4 (fun v29 h29 => ?_))
          refine pt_d (pt_1 (fun n d => r_iloadn gx281_259 rfl) ?_)
          refine pt_d (pt_i2l gx281_260 z3 (fun v30 h30 => ?_))
          refine pt_d (pt_1 (fun n d => r_aloadn gx281_261 rfl) ?_)
          refine pt_d (pt_getR gx281_262 S tr_72_77 ?_)
          refine pt_d (pt_1 (fun n d => r_iload gx281_265 rfl) ?_)
          refine pt_d (pt_lald (N' := 150) gx281_267 S tl_130 z8 (fun v32 p32 q32 h32 => ?_))
          have H := H p32 q32
          refine pt_d (pt_lmul gx281_268 h30 h32 (fun v33 h33 => ?_))
          refine pt_d (pt_1 (fun n d => r_lload gx281_269 rfl) ?_)
          refine pt_d (pt_lrem gx281_271 h33 z4 (fun v34 h34 => ?_))
          refine pt_d (pt_lcmp_le gx281_272 gx281_273 h29 h34 (fun e35 => ?_) (fun e35 => ?_))
          · have H := H.1 e35
            refine pt_d (pt_iinc (c := 1) gx281_280 rfl z9 (fun v36 h36 => ?_))
            show Pt _ _ _ _ [some (.ref 72), some (.int x1), some (.int x2), some (.int x3), some (.long x4), none, some (.long x6), none, some (.int x8), some (.int v36)] [] _ _
            refine pt_d (pt_1 (fun n d => r_goto gx281_283) ?_)
            exact H v36 h36
          · have H := H.2 e35
            refine pt_d (pt_1 (fun n d => r_iload gx281_276 rfl) ?_)
            refine pt_d (pt_1 (fun n d => r_istore (L' := [some (.ref 72), some (.int x1), some (.int x2), some (.int x3), some (.long x4), none, some (.long x6), none, some (.int x9), some (.int x9)]) gx281_278 rfl rfl) ?_)
            refine pt_d (pt_iinc (c := 1) gx281_280 rfl z9 (fun v37 h37 => ?_))
            show Pt _ _ _ _ [some (.ref 72), some (.int x1), some (.int x2), some (.int x3), some (.long x4), none, some (.long x6), none, some (.int x9), some (.int v37)] [] _ _
            refine pt_d (pt_1 (fun n d => r_goto gx281_283) ?_)
            exact H v37 h37
      · have H := H.2 e22
        refine pt_d (pt_1 (fun n d => r_goto gx281_238) ?_)
        refine pt_d (pt_iinc (c := 1) gx281_280 rfl z9 (fun v38 h38 => ?_))
        show Pt _ _ _ _ [some (.ref 72), some (.int x1), some (.int x2), some (.int x3), some (.long x4), none, some (.long x6), none, some (.int x8), some (.int v38)] [] _ _
        refine pt_d (pt_1 (fun n d => r_goto gx281_283) ?_)
        exact H v38 h38
section B281
variable {X : aX} {h0 : aH} {f y v : Int}
-- the picks
theorem m_281 (hp : pr16 h0 f y v) (nl : ¬ allF (vw h0) (vw h0 3 f) y ≤ v) : ∀ n : Nat, (∀ (h : aH) (x1 x2 x3 : Int32) (x4 x6 : Int64) (x8 : Int32) (u9 : Option Value) (T : Int → Prop) (K : Int), wS h → uf (vw h0) (vw h) → x1.toInt = f → x3.toInt = v → x4.toInt = allF (vw h0) (vw h0 3 f) y → (∀ b, 0 ≤ b → b < vw h0 1 1 → vw h 130 b = dueF (vw h0) (vw h0 3 f) y b) → Sok (dueF (vw h0) (vw h0 3 f) y) v (allF (vw h0) (vw h0 3 f) y) (vw h0 1 1).toNat T K → x6.toInt = lfo (dueF (vw h0) (vw h0 3 f) y) v (allF (vw h0) (vw h0 3 f) y) (vw h0 1 1).toNat - K → 0 ≤ x6.toInt → (∀ b, 0 ≤ b → b < vw h0 1 1 → vw h 131 b = qu (dueF (vw h0) (vw h0 3 f) y) v (allF (vw h0) (vw h0 3 f) y) b + pI (T b) 1) → Pt n X zM281 180 [some (.ref 72), some (.int x1), some (.int x2), some (.int x3), some (.long x4), none, some (.long x6), none, some (.int x8), u9] [] h (qI (fun r h' => wS h' ∧ r = shF (vw h0) f y v ∧ uf (vw h0) (vw h')))) ∧ (∀ (h : aH) (x1 x2 x3 : Int32) (x4 x6 : Int64) (x8 x9 : Int32) (T : Int → Prop) (K : Int) (k : Int), wS h → uf (vw h0) (vw h) → x1.toInt = f → x3.toInt = v → x4.toInt = allF (vw h0) (vw h0 3 f) y → (∀ b, 0 ≤ b → b < vw h0 1 1 → vw h 130 b = dueF (vw h0) (vw h0 3 f) y b) → Sok (dueF (vw h0) (vw h0 3 f) y) v (allF (vw h0) (vw h0 3 f) y) (vw h0 1 1).toNat T K → x6.toInt = lfo (dueF (vw h0) (vw h0 3 f) y) v (allF (vw h0) (vw h0 3 f) y) (vw h0 1 1).toNat - K → 0 < x6.toInt → (∀ b, 0 ≤ b → b < vw h0 1 1 → vw h 131 b = qu (dueF (vw h0) (vw h0 3 f) y) v (allF (vw h0) (vw h0 3 f) y) b + pI (T b) 1) → x9.toInt = k → 0 ≤ k → k ≤ vw h0 1 1 → ((x8.toInt = -1 ∧ ∀ c, 0 ≤ c → c < k → ¬ (dueF (vw h0) (vw h0 3 f) y c ≠ 0 ∧ ¬ T c)) ∨ ((0 ≤ x8.toInt ∧ x8.toInt < k) ∧ dueF (vw h0) (vw h0 3 f) y x8.toInt ≠ 0 ∧ ¬ T x8.toInt ∧ ∀ c, 0 ≤ c → c < k → dueF (vw h0) (vw h0 3 f) y c ≠ 0 → ¬ T c → ¬ ahd (dueF (vw h0) (vw h0 3 f) y) v (allF (vw h0) (vw h0 3 f) y) x8.toInt c)) → Pt n X zM281 193 [some (.ref 72), some (.int x1), some (.int x2), some (.int x3), some (.long x4), none, some (.long x6), none, some (.int x8), some (.int x9)] [] h (qI (fun r h' => wS h' ∧ r = shF (vw h0) f y v ∧ uf (vw h0) (vw h')))) := by
  have Bd := hp.1.2.1.1.1.2.1
  have n0 := Bd.2.2.2.2.2.1
  have n1 := Bd.2.2.2.2.2.2.1
  have fr := p16_f hp
  have o := p16_d hp nl
  have sh := shF_2 nl
  have lb := l_b o
  have pb := nQ_b (fun b => 0 < re (dueF (vw h0) (vw h0 3 f) y) v (allF (vw h0) (vw h0 3 f) y) b) (vw h0 1 1).toNat
  have nn : ((vw h0 1 1).toNat : Int) = vw h0 1 1 := by omega
  have dq := fun b x y' => d_q (b := b) o x y'
  have jq := fun b x y' => jq_e (b := b) o x y'
  have vb := hp.2.2.1
  rw [nn] at *
  generalize eD : dueF (vw h0) (vw h0 3 f) y = D at *
  generalize eA : allF (vw h0) (vw h0 3 f) y = A at *
  generalize eN : (vw h0 1 1).toNat = N at *
  intro n
  induction n with
  | zero => exact ⟨fun _ _ _ _ _ _ _ _ _ _ _ _ _ _ _ _ _ _ _ _ => pt_z, fun _ _ _ _ _ _ _ _ _ _ _ _ _ _ _ _ _ _ _ _ _ _ _ _ _ => pt_z⟩
  | succ n ih =>
    obtain ⟨ih1, ih2⟩ := ih
    refine ⟨fun h x1 x2 x3 x4 x6 x8 u9 T K S u h1 h3 h4 F O h6 p6 G => ?_, fun h x1 x2 x3 x4 x6 x8 x9 T K k S u h1 h3 h4 F O h6 p6 G h9 k0 k1 Bt => ?_⟩
    · refine d281_180 S h1 rfl h3 h4 rfl rfl ⟨fun le _ _ => ⟨S, ?_, u⟩, fun gt w8 w9 g8 g9 => ?_⟩
      · have eK : K = lfo D v A N := by omega
        rw [eK] at O
        have e := S_e o O (f := f) ⟨fr.1, by omega⟩
        have qf := dq f fr.1 (by omega)
        have vb2 := vb.2
        rw [G f fr.1 fr.2, sh]
        unfold partV
        by_cases z : T f
        · rw [pI_t z, pI_t (e.mp z), w32_id (by omega) (by omega)]
        · rw [pI_f z, pI_f (fun w => z (e.mpr w)), w32_id (by omega) (by omega)]
      · exact ih2 h x1 x2 x3 x4 x6 w8 w9 T K 0 S u h1 h3 h4 F O h6 gt G g9 (Int.le_refl _) n0 (Or.inl ⟨g8, fun c a b => by omega⟩)
    · have Bh := (PB_u u hp.1.2.1).1.1.2.1
      have e2 : vw h 72 2 = vw h0 1 1 := Bh.1.symm.trans (u 1 1 (by decide) (Or.inl (by decide)) (Or.inl (by decide)))
      refine d281_193 S h1 rfl h3 h4 rfl rfl h9 ⟨fun ge p0 p1 g Sg eg Kg w6 u9 g6 => ?_, fun lt _ _ => ?_⟩
      · have kn : k = vw h0 1 1 := by omega
        rw [kn] at Bt
        rcases Bt with ⟨e, -⟩ | ⟨c1, c2, c3, c4⟩
        · omega
        · have O' := S_i O ⟨c1.1, by omega⟩ c2 c3 (fun c a b => c4 c a (by omega))
          have qx := dq x8.toInt c1.1 (by omega)
          have vb2 := vb.2
          rw [G x8.toInt c1.1 c1.2, pI_f c3, Int.add_zero, w64_id (by omega) (by omega)] at eg
          have KO := O.2.2
          have KB := (nQ_b T N).1
          rw [w64_id (by omega) (by omega)] at g6
          refine ih1 g x1 x2 x3 x4 w6 x8 u9 (fun b => T b ∨ b = x8.toInt) (K + 1) Sg (uf_t u (fun c j u1 _ _ => by rw [eg, up_c (by omega)])) h1 h3 h4 (fun b a c => by rw [eg, up_c (by decide)]; exact F b a c) O' (by omega) (by omega) (fun b a c => ?_)
          rw [eg, up_p]
          by_cases z : b = x8.toInt
          · rw [if_pos z, pI_t (Or.inr z), z]
          · rw [if_neg z, G b a c]
            congr 1
            exact pI_c ⟨Or.inl, fun w => w.elim id (fun w => absurd w z)⟩ (fun _ => rfl)
      · have step : ∀ (w8 w9 : Int32), w9.toInt = w32 (k + 1) → ((w8.toInt = -1 ∧ ∀ c, 0 ≤ c → c < k + 1 → ¬ (D c ≠ 0 ∧ ¬ T c)) ∨ ((0 ≤ w8.toInt ∧ w8.toInt < k + 1) ∧ D w8.toInt ≠ 0 ∧ ¬ T w8.toInt ∧ ∀ c, 0 ≤ c → c < k + 1 → D c ≠ 0 → ¬ T c → ¬ ahd D v A w8.toInt c)) → Pt n X zM281 193 [some (.ref 72), some (.int x1), some (.int x2), some (.int x3), some (.long x4), none, some (.long x6), none, some (.int w8), some (.int w9)] [] h (qI (fun r h' => wS h' ∧ r = shF (vw h0) f y v ∧ uf (vw h0) (vw h'))) := by
          intro w8 w9 g9 Bt'
          replace g9 := w_1 g9 (by omega) (by omega)
          exact ih2 h x1 x2 x3 x4 x6 w8 w9 T K (k + 1) S u h1 h3 h4 F O h6 p6 G g9 (by omega) (by omega) Bt'
        -- one that doesn't come into question
        have skip : (D k ≠ 0 → T k) → ∀ w9 : Int32, w9.toInt = w32 (k + 1) → Pt n X zM281 193 [some (.ref 72), some (.int x1), some (.int x2), some (.int x3), some (.long x4), none, some (.long x6), none, some (.int x8), some (.int w9)] [] h (qI (fun r h' => wS h' ∧ r = shF (vw h0) f y v ∧ uf (vw h0) (vw h'))) := by
          intro no w9 g9
          refine step x8 w9 g9 ?_
          rcases Bt with ⟨e, c⟩ | ⟨c1, c2, c3, c4⟩
          · refine Or.inl ⟨e, fun b b0 b1 w => ?_⟩
            by_cases z : b = k
            · rw [z] at w
              exact w.2 (no w.1)
            · exact c b b0 (by omega) w
          · refine Or.inr ⟨⟨c1.1, by omega⟩, c2, c3, fun b b0 b1 w1 w2 => ?_⟩
            by_cases z : b = k
            · rw [z] at w1 w2
              exact absurd (no w1) w2
            · exact c4 b b0 (by omega) w1 w2
        have kk : k < vw h0 1 1 := by omega
        have qk := dq k k0 (by omega)
        have gk := G k k0 kk
        rw [F k k0 kk, (jq k k0 (by omega)).1]
        have jrk := (jq k k0 (by omega)).2
        refine ⟨fun e0 w9 g9 => skip (fun w => absurd e0 w) w9 g9, fun n0' => ⟨fun le => ?_, fun gt w9 g9 => skip (fun _ => ?_) w9 g9⟩⟩
        · have nT : ¬ T k := fun z => by
            rw [gk, pI_t z] at le
            omega
          refine ⟨fun m8 w9 g9 => step x9 w9 g9 ?_, fun m8 _ a150 => ?_⟩
          · rcases Bt with ⟨e, c⟩ | ⟨c1, -⟩
            · refine Or.inr ⟨by omega, by rw [h9]; exact n0', by rw [h9]; exact nT, fun b b0 b1 w1 w2 => ?_⟩
              rw [h9]
              by_cases z : b = k
              · rw [z]
                unfold ahd
                omega
              · exact absurd ⟨w1, w2⟩ (c b b0 (by omega))
            · omega
          · rcases Bt with ⟨e, c⟩ | ⟨c1, c2, c3, c4⟩
            · omega
            · rw [F x8.toInt c1.1 (by omega), (jq x8.toInt c1.1 (by omega)).2, jrk]
              refine ⟨fun le2 w9 g9 => step x8 w9 g9 ?_, fun gt2 w9 g9 => step x9 w9 g9 ?_⟩
              · refine Or.inr ⟨⟨c1.1, by omega⟩, c2, c3, fun b b0 b1 w1 w2 => ?_⟩
                by_cases z : b = k
                · rw [z]
                  unfold ahd
                  omega
                · exact c4 b b0 (by omega) w1 w2
              · refine Or.inr ⟨by omega, by rw [h9]; exact n0', by rw [h9]; exact nT, fun b b0 b1 w1 w2 => ?_⟩
                rw [h9]
                by_cases z : b = k
                · rw [z]
                  unfold ahd
                  omega
                · have := c4 b b0 (by omega) w1 w2
                  unfold ahd at this ⊢
                  omega
        · by_cases z : T k
          · exact z
          · rw [gk, pI_f z] at gt
            omega
-- the whole parts
theorem m_281q (hp : pr16 h0 f y v) (nl : ¬ allF (vw h0) (vw h0 3 f) y ≤ v) : ∀ (n : Nat) (h : aH) (x1 x2 x3 x8 : Int32) (x4 x6 : Int64) (k : Nat), wS h → uf (vw h0) (vw h) → x1.toInt = f → x3.toInt = v → x4.toInt = allF (vw h0) (vw h0 3 f) y → (∀ b, 0 ≤ b → b < vw h0 1 1 → vw h 130 b = dueF (vw h0) (vw h0 3 f) y b) → x6.toInt = v - sgm (qu (dueF (vw h0) (vw h0 3 f) y) v (allF (vw h0) (vw h0 3 f) y)) k → x8.toInt = (k : Int) → (k : Int) ≤ vw h0 1 1 → (∀ b, 0 ≤ b → b < (k : Int) → vw h 131 b = qu (dueF (vw h0) (vw h0 3 f) y) v (allF (vw h0) (vw h0 3 f) y) b) → Pt n X zM281 133 [some (.ref 72), some (.int x1), some (.int x2), some (.int x3), some (.long x4), none, some (.long x6), none, some (.int x8), none] [] h (qI (fun r h' => wS h' ∧ r = shF (vw h0) f y v ∧ uf (vw h0) (vw h'))) := by
  have Bd := hp.1.2.1.1.1.2.1
  have n0 := Bd.2.2.2.2.2.1
  have n1 := Bd.2.2.2.2.2.2.1
  have o := p16_d hp nl
  have lb := l_b o
  have nn : ((vw h0 1 1).toNat : Int) = vw h0 1 1 := by omega
  have dq := fun b x y' => d_q (b := b) o x y'
  have jq := fun b x y' => jq_e (b := b) o x y'
  have vb := hp.2.2.1
  intro n
  induction n with
  | zero => exact fun _ _ _ _ _ _ _ _ _ _ _ _ _ _ _ _ _ _ => pt_z
  | succ n ih =>
    intro h x1 x2 x3 x8 x4 x6 k S u h1 h3 h4 F h6 h8 hk G
    have Bh := (PB_u u hp.1.2.1).1.1.2.1
    have e2 : vw h 72 2 = vw h0 1 1 := Bh.1.symm.trans (u 1 1 (by decide) (Or.inl (by decide)) (Or.inl (by decide)))
    refine d281_133 S h1 rfl h3 h4 h6 h8 ⟨fun ge u9 => ?_, fun lt _ _ g Sg eg Kg w6 w8 g6 g8 => ?_⟩
    · have kn : (vw h0 1 1).toNat = k := by omega
      have e6 : x6.toInt = lfo (dueF (vw h0) (vw h0 3 f) y) v (allF (vw h0) (vw h0 3 f) y) (vw h0 1 1).toNat := by
        rw [h6]
        unfold lfo
        rw [kn]
      refine (m_281 hp nl n).1 h x1 x2 x3 x4 x6 x8 u9 (fun _ => False) 0 S u h1 h3 h4 F (S_0 _ _ _ _) (by omega) (by omega) (fun b b0 b1 => ?_)
      rw [pI_f (fun z => z), Int.add_zero]
      exact G b b0 (by omega)
    · have fk := F (k : Nat) (by omega) (by omega)
      have jk := (jq (k : Nat) (by omega) (by omega)).1
      rw [fk, jk] at eg g6
      replace g8 := w_1 g8 (by omega) (by omega)
      have s1 := sgm_b (f := qu (dueF (vw h0) (vw h0 3 f) y) v (allF (vw h0) (vw h0 3 f) y)) (B := 2000000000) (k + 1) (fun j a b => by
        have := dq j a (by omega)
        omega)
      rw [sgm_s] at s1
      have s0 := dq (k : Nat) (by omega) (by omega)
      rw [w64_id (by omega) (by omega)] at g6
      refine ih g x1 x2 x3 w8 x4 w6 (k + 1) Sg (uf_t u (fun c j u1 _ _ => by rw [eg, up_c (by omega)])) h1 h3 h4 (fun b a c => by rw [eg, up_c (by decide)]; exact F b a c) (by rw [sgm_s, g6]; omega) (by omega) (by omega) (fun b b0 b1 => ?_)
      rw [eg, up_p]
      by_cases z : b = ((k : Nat) : Int)
      · rw [if_pos z, z]
      · rw [if_neg z]
        exact G b b0 (by omega)
-- the dues
theorem m_281d (hp : pr16 h0 f y v) (hd : vw h0 1 0 = vw h0 72 1) : ∀ (n : Nat) (h : aH) (x1 x2 x3 x6 : Int32) (x4 : Int64) (k : Nat), wS h → IV h → uf (vw h0) (vw h) → x1.toInt = f → x2.toInt = y → x3.toInt = v → x4.toInt = sgm (dueF (vw h0) (vw h0 3 f) y) k → x6.toInt = (k : Int) → (k : Int) ≤ vw h0 1 1 → (∀ b, 0 ≤ b → b < (k : Int) → vw h 130 b = dueF (vw h0) (vw h0 3 f) y b) → Pt n X zM281 34 [some (.ref 72), some (.int x1), some (.int x2), some (.int x3), some (.long x4), none, some (.int x6), none, none, none] [] h (qI (fun r h' => wS h' ∧ r = shF (vw h0) f y v ∧ uf (vw h0) (vw h'))) := by
  have Bd := hp.1.2.1.1.1.2.1
  have n0 := Bd.2.2.2.2.2.1
  have n1 := Bd.2.2.2.2.2.2.1
  have fr := p16_f hp
  intro n
  induction n with
  | zero => exact fun _ _ _ _ _ _ _ _ _ _ _ _ _ _ _ _ _ => pt_z
  | succ n ih =>
    intro h x1 x2 x3 x6 x4 k S I u h1 h2 h3 h4 h6 hk F
    have Ph := PB_u u hp.1.2.1
    have Bh := Ph.1.1.2.1
    have e2 : vw h 72 2 = vw h0 1 1 := Bh.1.symm.trans (u 1 1 (by decide) (Or.inl (by decide)) (Or.inl (by decide)))
    have e3 : ∀ b, vw h 3 b = vw h0 3 b := fun b => u 3 b (by decide) (Or.inl (by decide)) (Or.inl (by decide))
    have e10 : vw h 1 0 = vw h0 1 0 := u 1 0 (by decide) (Or.inl (by decide)) (Or.inl (by decide))
    have hd1 := uf_hd u hd
    have cf : cFarm (vw h) f := (cFarm_u u f).mpr hp.1.2.2
    have ef74 : vw h 74 f = vw h0 3 f := (PB_l Ph cf).2.1.trans (e3 f)
    have sb : ∀ m : Nat, (m : Int) ≤ vw h0 1 1 → 0 ≤ sgm (dueF (vw h0) (vw h0 3 f) y) m ∧ sgm (dueF (vw h0) (vw h0 3 f) y) m ≤ 300000000000 := fun m hm => by
      have := sgm_b (f := dueF (vw h0) (vw h0 3 f) y) (B := 2000000000) m (fun j _ _ => dueF_b _ _ _ j)
      omega
    have step : ∀ (g : aH) (w4 : Int64) (w6 : Int32) (d : Int), wS g → IV g → uf (vw h0) (vw g) → (∀ b, vw g 130 b = if b = (k : Int) then d else vw h 130 b) → (k : Int) < vw h0 1 1 → d = dueF (vw h0) (vw h0 3 f) y (k : Nat) → w4.toInt = w64 (sgm (dueF (vw h0) (vw h0 3 f) y) k + d) → w6.toInt = w32 ((k : Int) + 1) → Pt n X zM281 34 [some (.ref 72), some (.int x1), some (.int x2), some (.int x3), some (.long w4), none, some (.int w6), none, none, none] [] g (qI (fun r h' => wS h' ∧ r = shF (vw h0) f y v ∧ uf (vw h0) (vw h'))) := by
      intro g w4 w6 d Sg Ig ug e130 lt ed g4 g6
      replace g6 := w_1 g6 (by omega) (by omega)
      have s1 := sb (k + 1) (by omega)
      have eS : sgm (dueF (vw h0) (vw h0 3 f) y) (k + 1) = sgm (dueF (vw h0) (vw h0 3 f) y) k + d := by rw [sgm_s, ed]
      rw [eS] at s1
      rw [w64_id (by omega) (by omega), ← eS] at g4
      refine ih g x1 x2 x3 w6 w4 (k + 1) Sg Ig ug h1 h2 h3 g4 (by omega) (by omega) (fun b b0 b1 => ?_)
      rw [e130]
      by_cases z : b = (k : Int)
      · rw [if_pos z, ed, z]
      · rw [if_neg z]
        exact F b b0 (by omega)
    have zero : ¬ (cFarm (vw h0) (k : Nat) ∧ vw h0 3 (k : Nat) = vw h0 3 f) → (0 : Int) = dueF (vw h0) (vw h0 3 f) y (k : Nat) := fun z => by
      unfold dueF
      rw [pI_f z]
    refine d281_34 S h1 h2 h3 h4 h6 ⟨fun ge => ?_, fun lt => ⟨fun nf _ _ g Sg eg Kg w4 w6 g4 g6 => step g w4 w6 0 Sg (IV_ua I Kg eg (by decide)) (uf_t u (fun c j u1 _ _ => by rw [eg, up_c (by omega)])) (fun b => by rw [eg, up_p]) (by omega) (zero (fun z => nf ((farm_j Bh _).mp ((cFarm_u u _).mpr z.1)))) g4 g6, fun mf _ _ _ _ => ?_⟩⟩
    · have kn : (vw h0 1 1).toNat = k := by omega
      have eA : allF (vw h0) (vw h0 3 f) y = sgm (dueF (vw h0) (vw h0 3 f) y) k := by
        unfold allF
        rw [kn]
      refine ⟨fun lt w6 w8 g6 g8 => ?_, fun le _ _ => ⟨S, ?_, u⟩⟩
      · exact m_281q hp (by rw [eA]; omega) n h x1 x2 x3 w8 x4 w6 0 S u h1 h3 (h4.trans eA.symm) (fun b b0 b1 => F b b0 (by omega)) (by rw [g6]; show v = v - 0; omega) g8 n0 (fun b b0 b1 => by omega)
      · have db := dueF_b (vw h0) (vw h0 3 f) y f
        rw [shF_1 (by rw [eA]; exact le), F f fr.1 (by omega), w32_id (by omega) (by omega)]
    · have cfk := (farm_j Bh (k : Nat)).mpr mf
      have e74 : vw h 74 (k : Nat) = vw h0 3 (k : Nat) := (PB_l Ph cfk).2.1.trans (e3 _)
      rw [e74, ef74]
      refine ⟨fun ne g Sg eg Kg w4 w6 g4 g6 => step g w4 w6 0 Sg (IV_ua I Kg eg (by decide)) (uf_t u (fun c j u1 _ _ => by rw [eg, up_c (by omega)])) (fun b => by rw [eg, up_p]) (by omega) (zero (fun z => ne z.2)) g4 g6, fun eq => ⟨by rw [← hd1]; exact p16_u hp I u cfk, fun y32 h32 K h34 S34 e34 K34 w4 w6 g4 g6 => ?_⟩⟩
      obtain ⟨S32, ⟨I32, u32⟩, ⟨ev, -⟩, -, fr32⟩ := K
      have u2 := uf_t u u32
      refine step h34 w4 w6 y32 S34 (IV_ua I32 K34 e34 (by decide)) (uf_t u2 (fun c j u1 _ _ => by rw [e34, up_c (by omega)])) (fun b => by rw [e34, up_p, fr32 130 b (Or.inr (by decide)) (Or.inr (by decide)) (Or.inl (by decide))]) (by omega) ?_ g4 g6
      unfold dueF
      rw [pI_t ⟨(cFarm_u u _).mp cfk, eq⟩, ev, payF_u u, ← hd1, e10]
end B281
theorem c_281w {n : Nat} {X : aX} {h : aH} {x1 x2 x3 : Int32} {a1 a2 a3 : Int} (S : wS h) (z1 : x1.toInt = a1) (z2 : x2.toInt = a2) (z3 : x3.toInt = a3) (I : IV h) (B : PB (vw h)) (d : 0 ≤ vw h 1 0 ∧ vw h 1 0 ≤ 3649) (hd : vw h 1 0 = vw h 72 1) : Pt n X zM281 0 [some (.ref 72), some (.int x1), some (.int x2), some (.int x3), none, none, none, none, none, none] [] h (qI (fun r h' => R174 (vw h) (vw h) a1 a2 a3 r (vw h') ∧ IV h')) := by
  have Bd := B.1.1.2.1
  have bad : ¬ okB (vw h) a1 a2 a3 → R174 (vw h) (vw h) a1 a2 a3 (-1) (vw h) := fun z => Or.inl ⟨z, rfl, rfl⟩
  refine pt_q (pt_and (wk_281 S z1 z2 z3 I) (show Pt n X zM281 0 [some (.ref 72), some (.int x1), some (.int x2), some (.int x3), none, none, none, none, none, none] [] h (qI (fun r h' => R174 (vw h) (vw h) a1 a2 a3 r (vw h'))) from ?_)) ?_
  · refine pt_d (d281_0 S z1 z2 z3 ⟨fun e => bad (fun z => e ((farm_j Bd a1).mp z.1)), fun e1 => ⟨fun e => bad (fun z => e z.2.1), fun e2 => ⟨fun e3 w4 w6 g4 g6 => ?_, fun e => bad (fun z => e z.2.2)⟩⟩⟩)
    have cf := (farm_j Bd a1).mpr e1
    refine pt_q (m_281d ⟨⟨I, B, cf⟩, e2, e3, d⟩ hd n h x1 x2 x3 w6 w4 0 S I (uf_r _) z1 z2 z3 g4 g6 Bd.2.2.2.2.2.1 (fun b b0 b1 => by omega)) ?_
    rintro v' h' ⟨x, ex, -, k1, k2⟩
    exact ⟨x, ex, Or.inr ⟨⟨cf, e2, e3⟩, k1, k2⟩⟩
  · rintro v' h' ⟨⟨x, rfl, p1, -, p3⟩, ⟨x', ev, p4⟩⟩
    exact ⟨x', ev, p4, p3⟩
theorem R174_u {V : vS} {f y v r : Int} {W : vS} (c : R174 V V f y v r W) : uf V W := by
  rcases c with ⟨-, -, rfl⟩ | ⟨-, -, u⟩
  · exact uf_r _
  · exact u
theorem jx_30 {h h1 h2 : aH} {f y v r1 r2 : Int} (c : R174 (vw h) (vw h) f y v r1 (vw h1) ∧ IV h1) (k : R174 (vw h1) (vw h1) f y v r2 (vw h2) ∧ IV h2) : (JSea (vw h2) ∧ JRk (vw h2)) ∧ r1 = r2 := by
  refine ⟨⟨JSea_IV k.2, rOK_IV k.2⟩, ?_⟩
  have u := R174_u c.1
  have ok : okB (vw h1) f y v ↔ okB (vw h) f y v := by
    unfold okB
    rw [cFarm_u u]
  rcases c.1 with ⟨n, rfl, -⟩ | ⟨o, rfl, -⟩
  · rcases k.1 with ⟨-, rfl, -⟩ | ⟨o, -⟩
    · rfl
    · exact absurd (ok.mp o) n
  · rcases k.1 with ⟨n, -⟩ | ⟨-, rfl, -⟩
    · exact absurd (ok.mpr o) n
    · exact (shF_u u f y v).symm


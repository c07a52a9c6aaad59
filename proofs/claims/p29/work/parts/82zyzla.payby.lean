-- ===== what a farm is paid: the reference =====
theorem d276_0 {n : Nat} {X : aX} {h : aH} {P : Int → aH → Prop} {x0 : Int64} {a0 : Int} (S : wS h) (z0 : x0.toInt = a0) (H : ((0 ≤ a0 → ((a0 ≤ 2000000000 → P (w32 a0) h) ∧ (2000000000 < a0 → P 2000000000 h))) ∧ (a0 < 0 → P 0 h))) : Pt (n + 1) X zM276 0 [some (.long x0), none] [] h (qI P) := by
  refine pt_1 (fun n d => r_lloadn gx276_0 rfl) ?_
  refine pt_d (pt_lconst (c := 0) gx276_1 rfl (fun v1 h1 => ?_))
  refine pt_d (pt_lcmp_ge gx276_2 gx276_3 z0 h1 (fun e2 => ?_) (fun e2 => ?_))
  · have H := H.1 e2
    refine pt_d (pt_1 (fun n d => r_lloadn gx276_10 rfl) ?_)
    refine pt_d (pt_ldc2_w (c := 2000000000) gx276_11 rfl (fun v3 h3 => ?_))
    refine pt_d (pt_lcmp_le gx276_14 gx276_15 z0 h3 (fun e4 => ?_) (fun e4 => ?_))
    · have H := H.1 e4
      refine pt_d (pt_1 (fun n d => r_lloadn gx276_24 rfl) ?_)
      refine pt_d (pt_l2i gx276_25 z0 (fun v5 h5 => ?_))
      exact pt_d (pt_iret gx276_26 ⟨_, rfl, by rw [h5]; exact H⟩)
    · have H := H.2 e4
      refine pt_d (pt_ldc_w (c := 2000000000) gx276_18 rfl (fun v6 h6 => ?_))
      refine pt_d (pt_1 (fun n d => r_goto gx276_21) ?_)
      exact pt_d (pt_iret gx276_26 ⟨_, rfl, by rw [h6]; exact H⟩)
  · have H := H.2 e2
    refine pt_d (pt_iconst gx276_6 (fun v7 h7 => ?_))
    refine pt_d (pt_1 (fun n d => r_goto gx276_7) ?_)
    exact pt_d (pt_iret gx276_26 ⟨_, rfl, by rw [h7]; exact H⟩)
theorem c_276 {n : Nat} {X : aX} {h : aH} {x0 : Int64} {a0 : Int} (S : wS h) (z0 : x0.toInt = a0) : Pt n X zM276 0 [some (.long x0), none] [] h (qI (fun y h' => h' = h ∧ y = hel a0)) := by
  have b := hel_b a0
  refine pt_d (d276_0 S z0 ⟨fun e1 => ⟨fun e2 => ⟨rfl, ?_⟩, fun e2 => ⟨rfl, ?_⟩⟩, fun e => ⟨rfl, ?_⟩⟩)
  · rw [w32_id (by omega) (by omega)]
    unfold hel
    omega
  · unfold hel
    omega
  · unfold hel
    omega

theorem d275_0 {n : Nat} {X : aX} {h : aH} {P : Int → aH → Prop} {x1 x2 x3 x4 : Int32} {a1 a2 a3 a4 : Int} (S : wS h) (z1 : x1.toInt = a1) (z2 : x2.toInt = a2) (z3 : x3.toInt = a3) (z4 : x4.toInt = a4) (H : (∀ (w5 : Int32), w5.toInt = 0 → Pt n X zM275 3 [some (.ref 72), some (.int x1), some (.int x2), some (.int x3), some (.int x4), some (.int w5), none, none, none, none] [] h (qJ P))) : Pt (n + 1) X zM275 0 [some (.ref 72), some (.int x1), some (.int x2), some (.int x3), some (.int x4), none, none, none, none, none] [] h (qJ P) := by
  refine pt_iconst gx275_0 (fun v1 h1 => ?_)
  refine pt_d (pt_1 (fun n d => r_istore (L' := [some (.ref 72), some (.int x1), some (.int x2), some (.int x3), some (.int x4), some (.int v1), none, none, none, none]) gx275_1 rfl rfl) ?_)
  exact H v1 h1
theorem d275_3 {n : Nat} {X : aX} {h : aH} {P : Int → aH → Prop} {x1 x2 x3 x4 x5 : Int32} {a1 a2 a3 a4 a5 : Int} (S : wS h) (z1 : x1.toInt = a1) (z2 : x2.toInt = a2) (z3 : x3.toInt = a3) (z4 : x4.toInt = a4) (z5 : x5.toInt = a5) (H : ((vw h 72 2 ≤ a5 → (∀ (w5 : Int64) (u8_ : Option Value) (u9_ : Option Value), w5.toInt = 0 → Pt n X zM275 71 [some (.ref 72), some (.int x1), some (.int x2), some (.int x3), some (.int x4), some (.long w5), none, some (.int x4), u8_, u9_] [] h (qJ P))) ∧ (a5 < vw h 72 2 → (0 ≤ a5 → a5 < 150 → ((vw h 73 a5 ≠ 6 → ∀ h_10 : aH, wS h_10 → vw h_10 = up (vw h) 127 a5 (bAnd 1 1) → (∀ (w5 : Int32), w5.toInt = w32 (a5 + 1) → Pt n X zM275 3 [some (.ref 72), some (.int x1), some (.int x2), some (.int x3), some (.int x4), some (.int w5), none, none, none, none] [] h_10 (qJ P))) ∧ (vw h 73 a5 = 6 → (vw h 72 14 ≤ 200 ∧ ((mHold (vw h) a5 (w32 ((w32 ((w32 (365 * a2)) + 365)) - 1)) a3 = a1 → ∀ h_21 : aH, wS h_21 → vw h_21 = up (vw h) 127 a5 (bAnd 0 1) → (∀ (w5 : Int32), w5.toInt = w32 (a5 + 1) → Pt n X zM275 3 [some (.ref 72), some (.int x1), some (.int x2), some (.int x3), some (.int x4), some (.int w5), none, none, none, none] [] h_21 (qJ P))) ∧ (mHold (vw h) a5 (w32 ((w32 ((w32 (365 * a2)) + 365)) - 1)) a3 ≠ a1 → ∀ h_24 : aH, wS h_24 → vw h_24 = up (vw h) 127 a5 (bAnd 1 1) → (∀ (w5 : Int32), w5.toInt = w32 (a5 + 1) → Pt n X zM275 3 [some (.ref 72), some (.int x1), some (.int x2), some (.int x3), some (.int x4), some (.int w5), none, none, none, none] [] h_24 (qJ P))))))))))) : Pt (n + 1) X zM275 3 [some (.ref 72), some (.int x1), some (.int x2), some (.int x3), some (.int x4), some (.int x5), none, none, none, none] [] h (qJ P) := by
  refine pt_1 (fun n d => r_iload gx275_3 rfl) ?_
  refine pt_d (pt_1 (fun n d => r_aloadn gx275_5 rfl) ?_)
  refine pt_d (pt_getI (B := 2) gx275_6 S (fun v1 h1 => ?_))
  refine pt_d (pt_icmp_ge gx275_9 z5 h1 (fun e2 => ?_) (fun e2 => ?_))
  · have H := H.1 e2
    refine pt_d (pt_lconst (c := 0) gx275_64 rfl (fun v3 h3 => ?_))
    refine pt_d (pt_1 (fun n d => r_lstore (L' := [some (.ref 72), some (.int x1), some (.int x2), some (.int x3), some (.int x4), some (.long v3), none, none, none, none]) gx275_65 rfl rfl) ?_)
    refine pt_d (pt_1 (fun n d => r_iload gx275_67 rfl) ?_)
    refine pt_d (pt_1 (fun n d => r_istore (L' := [some (.ref 72), some (.int x1), some (.int x2), some (.int x3), some (.int x4), some (.long v3), none, some (.int x4), none, none]) gx275_69 rfl rfl) ?_)
    exact H v3 _ _ h3
  · have H := H.2 e2
    refine pt_d (pt_1 (fun n d => r_aloadn gx275_12 rfl) ?_)
    refine pt_d (pt_getR gx275_13 S tr_72_73 ?_)
    refine pt_d (pt_1 (fun n d => r_iload gx275_16 rfl) ?_)
    refine pt_d (pt_1 (fun n d => r_aloadn gx275_18 rfl) ?_)
    refine pt_d (pt_getR gx275_19 S tr_72_3 ?_)
    refine pt_d (pt_1 (fun n d => r_iload gx275_22 rfl) ?_)
    refine pt_d (pt_iald (N' := 150) gx275_24 S tl_73 z5 (fun v6 p6 q6 h6 => ?_))
    have H := H p6 q6
    refine pt_d (pt_bipush gx275_25 (fun v7 h7 => ?_))
    refine pt_d (pt_icmp_ne gx275_27 h6 h7 (fun e8 => ?_) (fun e8 => ?_))
    · have H := H.1 e8
      refine pt_d (pt_iconst gx275_52 (fun v9 h9 => ?_))
      refine pt_d (pt_1 (fun n d => r_goto gx275_53) ?_)
      refine pt_d (pt_zast (N' := 150) gx275_57 S tl_127 z5 h9 (fun h_10 S10 p10 q10 e10 => ?_))
      refine pt_d (pt_iinc (c := 1) gx275_58 rfl z5 (fun v11 h11 => ?_))
      show Pt _ _ _ _ [some (.ref 72), some (.int x1), some (.int x2), some (.int x3), some (.int x4), some (.int v11), none, none, none, none] [] _ _
      refine pt_d (pt_1 (fun n d => r_goto gx275_61) ?_)
      have H := H h_10 S10 (by rw [e10])
      exact H v11 h11
    · have H := H.2 e8
      refine pt_d (pt_1 (fun n d => r_aloadn gx275_30 rfl) ?_)
      refine pt_d (pt_1 (fun n d => r_iload gx275_31 rfl) ?_)
      refine pt_d (pt_sipush gx275_33 (fun v12 h12 => ?_))
      refine pt_d (pt_1 (fun n d => r_iloadn gx275_36 rfl) ?_)
      refine pt_d (pt_imul gx275_37 h12 z2 (fun v13 h13 => ?_))
      refine pt_d (pt_sipush gx275_38 (fun v14 h14 => ?_))
      refine pt_d (pt_iadd gx275_41 h13 h14 (fun v15 h15 => ?_))
      refine pt_d (pt_iconst gx275_42 (fun v16 h16 => ?_))
      refine pt_d (pt_isub gx275_43 h15 h16 (fun v17 h17 => ?_))
      refine pt_d (pt_1 (fun n d => r_iloadn gx275_44 rfl) ?_)
      obtain ⟨pr18, H⟩ := H
      refine pt_d (pt_virt (as := [.int x5, .int v17, .int x3]) (r := [.int x5, .ref 127]) gx275_45 rfl (show zmt[226]? = some zM226 from rfl) rfl rfl rfl rfl (c_226 S z5 h17 z3 pr18) (kqP (fun v18 h18 => ?_)))
      show Pt _ _ _ 48 _ [.int v18, .int x5, .ref 127] _ _
      refine pt_d (pt_1 (fun n d => r_iloadn gx275_48 rfl) ?_)
      refine pt_d (pt_icmp_eq gx275_49 h18 z1 (fun e19 => ?_) (fun e19 => ?_))
      · have H := H.1 e19
        refine pt_d (pt_iconst gx275_56 (fun v20 h20 => ?_))
        refine pt_d (pt_zast (N' := 150) gx275_57 S tl_127 z5 h20 (fun h_21 S21 p21 q21 e21 => ?_))
        refine pt_d (pt_iinc (c := 1) gx275_58 rfl z5 (fun v22 h22 => ?_))
        show Pt _ _ _ _ [some (.ref 72), some (.int x1), some (.int x2), some (.int x3), some (.int x4), some (.int v22), none, none, none, none] [] _ _
        refine pt_d (pt_1 (fun n d => r_goto gx275_61) ?_)
        have H := H h_21 S21 (by rw [e21])
        exact H v22 h22
      · have H := H.2 e19
        refine pt_d (pt_iconst gx275_52 (fun v23 h23 => ?_))
        refine pt_d (pt_1 (fun n d => r_goto gx275_53) ?_)
        refine pt_d (pt_zast (N' := 150) gx275_57 S tl_127 z5 h23 (fun h_24 S24 p24 q24 e24 => ?_))
        refine pt_d (pt_iinc (c := 1) gx275_58 rfl z5 (fun v25 h25 => ?_))
        show Pt _ _ _ _ [some (.ref 72), some (.int x1), some (.int x2), some (.int x3), some (.int x4), some (.int v25), none, none, none, none] [] _ _
        refine pt_d (pt_1 (fun n d => r_goto gx275_61) ?_)
        have H := H h_24 S24 (by rw [e24])
        exact H v25 h25
theorem d275_71 {n : Nat} {X : aX} {h : aH} {P : Int → aH → Prop} {x1 x2 x3 x4 x7 : Int32} {x5 : Int64} {a1 a2 a3 a4 a7 a5 : Int} {u8 u9 : Option Value} (S : wS h) (z1 : x1.toInt = a1) (z2 : x2.toInt = a2) (z3 : x3.toInt = a3) (z4 : x4.toInt = a4) (z5 : x5.toInt = a5) (z7 : x7.toInt = a7) (H : ((a7 ≤ 0 → P a5 h) ∧ (0 < a7 → (∀ (w8 : Int32) (w9 : Int32), w8.toInt = (-1) → w9.toInt = 0 → Pt n X zM275 82 [some (.ref 72), some (.int x1), some (.int x2), some (.int x3), some (.int x4), some (.long x5), none, some (.int x7), some (.int w8), some (.int w9)] [] h (qJ P))))) : Pt (n + 1) X zM275 71 [some (.ref 72), some (.int x1), some (.int x2), some (.int x3), some (.int x4), some (.long x5), none, some (.int x7), u8, u9] [] h (qJ P) := by
  refine pt_1 (fun n d => r_iload gx275_71 rfl) ?_
  refine pt_d (pt_if_le gx275_73 z7 (fun e1 => ?_) (fun e1 => ?_))
  · have H := H.1 e1
    refine pt_d (pt_1 (fun n d => r_lload gx275_169 rfl) ?_)
    exact pt_d (pt_lret gx275_171 ⟨_, rfl, by rw [z5]; exact H⟩)
  · have H := H.2 e1
    refine pt_d (pt_iconst gx275_76 (fun v2 h2 => ?_))
    refine pt_d (pt_1 (fun n d => r_istore (L' := [some (.ref 72), some (.int x1), some (.int x2), some (.int x3), some (.int x4), some (.long x5), none, some (.int x7), some (.int v2), u9]) gx275_77 rfl rfl) ?_)
    refine pt_d (pt_iconst gx275_79 (fun v3 h3 => ?_))
    refine pt_d (pt_1 (fun n d => r_istore (L' := [some (.ref 72), some (.int x1), some (.int x2), some (.int x3), some (.int x4), some (.long x5), none, some (.int x7), some (.int v2), some (.int v3)]) gx275_80 rfl rfl) ?_)
    exact H v2 v3 h2 h3
theorem d275_82 {n : Nat} {X : aX} {h : aH} {P : Int → aH → Prop} {x1 x2 x3 x4 x7 x8 x9 : Int32} {x5 : Int64} {a1 a2 a3 a4 a7 a8 a9 a5 : Int} (S : wS h) (z1 : x1.toInt = a1) (z2 : x2.toInt = a2) (z3 : x3.toInt = a3) (z4 : x4.toInt = a4) (z5 : x5.toInt = a5) (z7 : x7.toInt = a7) (z8 : x8.toInt = a8) (z9 : x9.toInt = a9) (H : ((vw h 72 2 ≤ a9 → (0 ≤ a8 → a8 < 150 → ∀ h_5 : aH, wS h_5 → vw h_5 = up (vw h) 127 a8 (bAnd 1 1) → (∀ (w5 : Int64) (w7 : Int32) (u8_ : Option Value) (u9_ : Option Value), w5.toInt = w64 (a5 + (w64 ((vw h 79 a8) * (min 10 a7)))) → w7.toInt = w32 (a7 + (-10)) → Pt n X zM275 71 [some (.ref 72), some (.int x1), some (.int x2), some (.int x3), some (.int x4), some (.long w5), none, some (.int w7), u8_, u9_] [] h_5 (qJ P)))) ∧ (a9 < vw h 72 2 → (0 ≤ a9 → a9 < 150 → ((vw h 127 a9 ≠ 0 → (∀ (w9 : Int32), w9.toInt = w32 (a9 + 1) → Pt n X zM275 82 [some (.ref 72), some (.int x1), some (.int x2), some (.int x3), some (.int x4), some (.long x5), none, some (.int x7), some (.int x8), some (.int w9)] [] h (qJ P))) ∧ (vw h 127 a9 = 0 → ((a8 < 0 → (∀ (w9 : Int32), w9.toInt = w32 (a9 + 1) → Pt n X zM275 82 [some (.ref 72), some (.int x1), some (.int x2), some (.int x3), some (.int x4), some (.long x5), none, some (.int x7), some (.int x9), some (.int w9)] [] h (qJ P))) ∧ (0 ≤ a8 → (0 ≤ a8 → a8 < 150 → ((vw h 79 a9 ≤ vw h 79 a8 → (∀ (w9 : Int32), w9.toInt = w32 (a9 + 1) → Pt n X zM275 82 [some (.ref 72), some (.int x1), some (.int x2), some (.int x3), some (.int x4), some (.long x5), none, some (.int x7), some (.int x8), some (.int w9)] [] h (qJ P))) ∧ (vw h 79 a8 < vw h 79 a9 → (∀ (w9 : Int32), w9.toInt = w32 (a9 + 1) → Pt n X zM275 82 [some (.ref 72), some (.int x1), some (.int x2), some (.int x3), some (.int x4), some (.long x5), none, some (.int x7), some (.int x9), some (.int w9)] [] h (qJ P))))))))))))) : Pt (n + 1) X zM275 82 [some (.ref 72), some (.int x1), some (.int x2), some (.int x3), some (.int x4), some (.long x5), none, some (.int x7), some (.int x8), some (.int x9)] [] h (qJ P) := by
  refine pt_1 (fun n d => r_iload gx275_82 rfl) ?_
  refine pt_d (pt_1 (fun n d => r_aloadn gx275_84 rfl) ?_)
  refine pt_d (pt_getI (B := 2) gx275_85 S (fun v1 h1 => ?_))
  refine pt_d (pt_icmp_ge gx275_88 z9 h1 (fun e2 => ?_) (fun e2 => ?_))
  · have H := H.1 e2
    refine pt_d (pt_1 (fun n d => r_aloadn gx275_133 rfl) ?_)
    refine pt_d (pt_getR gx275_134 S tr_72_73 ?_)
    refine pt_d (pt_1 (fun n d => r_iload gx275_137 rfl) ?_)
    refine pt_d (pt_iconst gx275_139 (fun v4 h4 => ?_))
    refine pt_d (pt_zast (N' := 150) gx275_140 S tl_127 z8 h4 (fun h_5 S5 p5 q5 e5 => ?_))
    have H := H p5 q5
    refine pt_d (pt_1 (fun n d => r_lload gx275_141 rfl) ?_)
    refine pt_d (pt_1 (fun n d => r_aloadn gx275_143 rfl) ?_)
    refine pt_d (pt_getR gx275_144 S5 tr_72_9 ?_)
    refine pt_d (pt_1 (fun n d => r_iload gx275_147 rfl) ?_)
    refine pt_d (pt_iald (N' := 150) gx275_149 S5 tl_79 z8 (fun v7 p7 q7 h7 => ?_))
    have h7 : v7.toInt = vw h 79 a8 := by rw [h7, e5, up_c (by decide)]
    refine pt_d (pt_i2l gx275_150 h7 (fun v8 h8 => ?_))
    refine pt_d (pt_bipush gx275_151 (fun v9 h9 => ?_))
    refine pt_d (pt_1 (fun n d => r_iload gx275_153 rfl) ?_)
    refine pt_d (pt_stat (as := [.int v9, .int x7]) (r := [.long v8, .long x5]) gx275_155 rfl (show zmt[211]? = some zM211 from rfl) rfl rfl rfl rfl (c_211 S5 h9 z7) (kqP (fun v10 h10 => ?_)))
    show Pt _ _ _ 158 _ [.int v10, .long v8, .long x5] _ _
    refine pt_d (pt_i2l gx275_158 h10 (fun v11 h11 => ?_))
    refine pt_d (pt_lmul gx275_159 h8 h11 (fun v12 h12 => ?_))
    refine pt_d (pt_ladd gx275_160 z5 h12 (fun v13 h13 => ?_))
    refine pt_d (pt_1 (fun n d => r_lstore (L' := [some (.ref 72), some (.int x1), some (.int x2), some (.int x3), some (.int x4), some (.long v13), none, some (.int x7), some (.int x8), some (.int x9)]) gx275_161 rfl rfl) ?_)
    refine pt_d (pt_iinc (c := (-10)) gx275_163 rfl z7 (fun v14 h14 => ?_))
    show Pt _ _ _ _ [some (.ref 72), some (.int x1), some (.int x2), some (.int x3), some (.int x4), some (.long v13), none, some (.int v14), some (.int x8), some (.int x9)] [] _ _
    refine pt_d (pt_1 (fun n d => r_goto gx275_166) ?_)
    have H := H h_5 S5 (by rw [e5])
    exact H v13 v14 _ _ h13 h14
  · have H := H.2 e2
    refine pt_d (pt_1 (fun n d => r_aloadn gx275_91 rfl) ?_)
    refine pt_d (pt_getR gx275_92 S tr_72_73 ?_)
    refine pt_d (pt_1 (fun n d => r_iload gx275_95 rfl) ?_)
    refine pt_d (pt_zald (N' := 150) gx275_97 S tl_127 z9 (fun v16 p16 q16 h16 => ?_))
    have H := H p16 q16
    refine pt_d (pt_if_ne gx275_98 h16 (fun e17 => ?_) (fun e17 => ?_))
    · have H := H.1 e17
      refine pt_d (pt_iinc (c := 1) gx275_127 rfl z9 (fun v18 h18 => ?_))
      show Pt _ _ _ _ [some (.ref 72), some (.int x1), some (.int x2), some (.int x3), some (.int x4), some (.long x5), none, some (.int x7), some (.int x8), some (.int v18)] [] _ _
      refine pt_d (pt_1 (fun n d => r_goto gx275_130) ?_)
      exact H v18 h18
    · have H := H.2 e17
      refine pt_d (pt_1 (fun n d => r_iload gx275_101 rfl) ?_)
      refine pt_d (pt_if_lt gx275_103 z8 (fun e19 => ?_) (fun e19 => ?_))
      · have H := H.1 e19
        refine pt_d (pt_1 (fun n d => r_iload gx275_123 rfl) ?_)
        refine pt_d (pt_1 (fun n d => r_istore (L' := [some (.ref 72), some (.int x1), some (.int x2), some (.int x3), some (.int x4), some (.long x5), none, some (.int x7), some (.int x9), some (.int x9)]) gx275_125 rfl rfl) ?_)
        refine pt_d (pt_iinc (c := 1) gx275_127 rfl z9 (fun v20 h20 => ?_))
        show Pt _ _ _ _ [some (.ref 72), some (.int x1), some (.int x2), some (.int x3), some (.int x4), some (.long x5), none, some (.int x7), some (.int x9), some (.int v20)] [] _ _
        refine pt_d (pt_1 (fun n d => r_goto gx275_130) ?_)
        exact H v20 h20
      · have H := H.2 e19
        refine pt_d (pt_1 (fun n d => r_aloadn gx275_106 rfl) ?_)
        refine pt_d (pt_getR gx275_107 S tr_72_9 ?_)
        refine pt_d (pt_1 (fun n d => r_iload gx275_110 rfl) ?_)
        refine pt_d (pt_iald (N' := 150) gx275_112 S tl_79 z9 (fun v22 p22 q22 h22 => ?_))
        refine pt_d (pt_1 (fun n d => r_aloadn gx275_113 rfl) ?_)
        refine pt_d (pt_getR gx275_114 S tr_72_9 ?_)
        refine pt_d (pt_1 (fun n d => r_iload gx275_117 rfl) ?_)
        refine pt_d (pt_iald (N' := 150) gx275_119 S tl_79 z8 (fun v24 p24 q24 h24 => ?_))
        have H := H p24 q24
        refine pt_d (pt_icmp_le gx275_120 h22 h24 (fun e25 => ?_) (fun e25 => ?_))
        · have H := H.1 e25
          refine pt_d (pt_iinc (c := 1) gx275_127 rfl z9 (fun v26 h26 => ?_))
          show Pt _ _ _ _ [some (.ref 72), some (.int x1), some (.int x2), some (.int x3), some (.int x4), some (.long x5), none, some (.int x7), some (.int x8), some (.int v26)] [] _ _
          refine pt_d (pt_1 (fun n d => r_goto gx275_130) ?_)
          exact H v26 h26
        · have H := H.2 e25
          refine pt_d (pt_1 (fun n d => r_iload gx275_123 rfl) ?_)
          refine pt_d (pt_1 (fun n d => r_istore (L' := [some (.ref 72), some (.int x1), some (.int x2), some (.int x3), some (.int x4), some (.long x5), none, some (.int x7), some (.int x9), some (.int x9)]) gx275_125 rfl rfl) ?_)
          refine pt_d (pt_iinc (c := 1) gx275_127 rfl z9 (fun v27 h27 => ?_))
          show Pt _ _ _ _ [some (.ref 72), some (.int x1), some (.int x2), some (.int x3), some (.int x4), some (.long x5), none, some (.int x7), some (.int x9), some (.int v27)] [] _ _
          refine pt_d (pt_1 (fun n d => r_goto gx275_130) ?_)
          exact H v27 h27
def p275 (V : vS) : Prop := JPer V ∧ (V 72 2 = V 1 1 ∧ 0 ≤ V 1 1 ∧ V 1 1 ≤ 150) ∧ (∀ j, V 73 j = V 2 j) ∧ (∀ b, 0 ≤ b → b < V 1 1 → V 2 b = 6 → V 79 b = V 3 b) ∧ V 72 14 ≤ 200 ∧ V 1 4 ≤ 150
-- unspent from a place of the list on
def uns (V W : vS) (H : Int → Prop) (i : Int) : Prop := ∀ b, 0 ≤ b → b < V 1 1 → (W 127 b = 0 ↔ ∃ i', (i ≤ i' ∧ i' < V 1 4) ∧ V 6 i' = b ∧ H i')
def beats (V : vS) (x b : Int) : Prop := V 79 b < V 79 x ∨ (V 79 b = V 79 x ∧ x ≤ b)
theorem vlF_s {V : vS} {H : Int → Prop} {L : Int} : ∀ (n : Nat) (i i1 : Int), 0 ≤ i → i ≤ i1 → (i1 - i).toNat = n → i1 ≤ V 1 4 → (∀ i', i ≤ i' → i' < i1 → ¬ H i') → vlF V H (V 1 4 - i).toNat i L = vlF V H (V 1 4 - i1).toNat i1 L
  | 0, i, i1, _, h, e, _, _ => by
    have : i = i1 := by omega
    rw [this]
  | n + 1, i, i1, h0, h, e, h2, k => by
    have := vlF_s (V := V) (H := H) (L := L) n (i + 1) i1 (by omega) (by omega) (by omega) h2 (fun i' a b => k i' (by omega) b)
    rw [show (V 1 4 - i).toNat = (V 1 4 - (i + 1)).toNat + 1 by omega, vlF_f (fun z => k i (Int.le_refl _) (by omega) z.2)]
    exact this
theorem pick {V W : vS} {H : Int → Prop} {i x : Int} (J : JPer V) (pv : ∀ b, 0 ≤ b → b < V 1 1 → V 2 b = 6 → V 79 b = V 3 b) (i0 : 0 ≤ i) (U : uns V W H i) (x0 : 0 ≤ x ∧ x < V 1 1) (xu : W 127 x = 0) (xb : ∀ b, 0 ≤ b → b < V 1 1 → W 127 b = 0 → beats V x b) : ∃ i1, (i ≤ i1 ∧ i1 < V 1 4) ∧ V 6 i1 = x ∧ H i1 ∧ (∀ i', i ≤ i' → i' < i1 → ¬ H i') ∧ V 79 x = V 3 x ∧ ∀ W', W' = up W 127 x 1 → uns V W' H (i1 + 1) := by
  obtain ⟨j0, j1, j2, j3⟩ := J
  obtain ⟨i1, hi, e1, h1⟩ := (U x x0.1 x0.2).mp xu
  have v79 : ∀ i', 0 ≤ i' → i' < V 1 4 → V 79 (V 6 i') = V 3 (V 6 i') := fun i' a b => by
    obtain ⟨r, z⟩ := j1 i' a b
    exact pv _ r.1 r.2 z
  have inj : ∀ i i', 0 ≤ i → i < V 1 4 → 0 ≤ i' → i' < V 1 4 → V 6 i = V 6 i' → i = i' := fun i i' a b a' b' e => by
    rcases Int.lt_trichotomy i i' with z | z | z
    · have := j2 i i' a z b'
      rw [e] at this
      omega
    · exact z
    · have := j2 i' i a' z b
      rw [e] at this
      omega
  refine ⟨i1, hi, e1, h1, fun i' a b hh => ?_, by rw [← e1]; exact v79 i1 (by omega) hi.2, fun W' eW b b0 b1 => ?_⟩
  · have r := (j1 i' (by omega) (by omega)).1
    have k := xb (V 6 i') r.1 r.2 ((U _ r.1 r.2).mpr ⟨i', ⟨a, by omega⟩, rfl, hh⟩)
    have s := j2 i' i1 (by omega) b hi.2
    unfold beats at k
    rw [← e1, v79 i' (by omega) (by omega), v79 i1 (by omega) hi.2] at k
    omega
  · rw [eW, up_p]
    constructor
    · intro z
      by_cases y : b = x
      · rw [if_pos y] at z
        cases z
      · rw [if_neg y] at z
        obtain ⟨i', h', e', hh⟩ := (U b b0 b1).mp z
        refine ⟨i', ⟨?_, h'.2⟩, e', hh⟩
        by_cases w : i' < i1
        · exfalso
          have r := (j1 i' (by omega) (by omega)).1
          have k := xb (V 6 i') r.1 r.2 ((U _ r.1 r.2).mpr ⟨i', h', rfl, hh⟩)
          have s := j2 i' i1 (by omega) w hi.2
          unfold beats at k
          rw [← e1, v79 i' (by omega) (by omega), v79 i1 (by omega) hi.2] at k
          omega
        · have : i' ≠ i1 := fun w2 => y (by rw [← e', w2, e1])
          omega
    · rintro ⟨i', h', e', hh⟩
      have y : b ≠ x := fun w => by
        have := inj i' i1 (by omega) h'.2 (by omega) hi.2 (by rw [e', e1, w])
        omega
      rw [if_neg y]
      exact (U b b0 b1).mpr ⟨i', ⟨by omega, h'.2⟩, e', hh⟩
theorem bb11 : bAnd 1 1 = 1 := by decide
theorem bb01 : bAnd 0 1 = 0 := by decide
section V275
variable {X : aX} {V : vS} {f y t : Int}
-- the two loops
theorem m_275 (hp : p275 V) {H : Int → Prop} : ∀ n : Nat, (∀ (h : aH) (x1 x2 x3 x4 : Int32) (x5 : Int64) (x7 : Int32) (u8 u9 : Option Value) (i : Int), wS h → (∀ (c : Nat) j, c ≠ 127 → vw h c j = V c j) → 0 ≤ i → i ≤ V 1 4 → uns V (vw h) H i → Pt n X zM275 71 [some (.ref 72), some (.int x1), some (.int x2), some (.int x3), some (.int x4), some (.long x5), none, some (.int x7), u8, u9] [] h (qJ (fun r h' => wS h' ∧ r = w64 (x5.toInt + vlF V H (V 1 4 - i).toNat i x7.toInt) ∧ ∀ (c : Nat) j, c ≠ 127 → vw h' c j = V c j))) ∧ (∀ (h : aH) (x1 x2 x3 x4 : Int32) (x5 : Int64) (x7 x8 x9 : Int32) (i k : Int), wS h → (∀ (c : Nat) j, c ≠ 127 → vw h c j = V c j) → 0 ≤ i → i ≤ V 1 4 → uns V (vw h) H i → 0 < x7.toInt → x9.toInt = k → 0 ≤ k → k ≤ V 1 1 → ((x8.toInt = -1 ∧ ∀ b, 0 ≤ b → b < k → vw h 127 b ≠ 0) ∨ ((0 ≤ x8.toInt ∧ x8.toInt < k) ∧ vw h 127 x8.toInt = 0 ∧ ∀ b, 0 ≤ b → b < k → vw h 127 b = 0 → beats V x8.toInt b)) → Pt n X zM275 82 [some (.ref 72), some (.int x1), some (.int x2), some (.int x3), some (.int x4), some (.long x5), none, some (.int x7), some (.int x8), some (.int x9)] [] h (qJ (fun r h' => wS h' ∧ r = w64 (x5.toInt + vlF V H (V 1 4 - i).toNat i x7.toInt) ∧ ∀ (c : Nat) j, c ≠ 127 → vw h' c j = V c j))) := by
  obtain ⟨J, ⟨n2, b0, b1⟩, k73, v79, n14, n4⟩ := hp
  intro n
  induction n with
  | zero => exact ⟨fun _ _ _ _ _ _ _ _ _ _ _ _ _ _ _ => pt_z, fun _ _ _ _ _ _ _ _ _ _ _ _ _ _ _ _ _ _ _ _ _ => pt_z⟩
  | succ n ih =>
    obtain ⟨ih1, ih2⟩ := ih
    refine ⟨fun h x1 x2 x3 x4 x5 x7 u8 u9 i S F i0 i1 U => ?_, fun h x1 x2 x3 x4 x5 x7 x8 x9 i k S F i0 i1 U l0 h9 k0 k1 B => ?_⟩
    · refine d275_71 S rfl rfl rfl rfl rfl rfl ⟨fun le => ⟨S, ?_, F⟩, fun gt w8 w9 g8 g9 => ?_⟩
      · rw [vlF_0 _ _ _ le, Int.add_zero, w64_j]
      · exact ih2 h x1 x2 x3 x4 x5 x7 w8 w9 i 0 S F i0 i1 U gt g9 (Int.le_refl _) b0 (Or.inl ⟨g8, fun b u v => by omega⟩)
    · have e2 : vw h 72 2 = V 1 1 := (F 72 2 (by decide)).trans n2
      refine d275_82 S rfl rfl rfl rfl rfl rfl rfl h9 ⟨fun ge p0 p1 g S2 eg w5 w7 u8 u9 g5 g7 => ?_, fun lt _ _ => ?_⟩
      · -- the best is taken
        have kn : k = V 1 1 := by omega
        rw [kn] at B
        rcases B with ⟨e, -⟩ | ⟨c1, c2, c3⟩
        · omega
        · rw [bb11] at eg
          obtain ⟨j1, hi, e1, h1, no, v7, un⟩ := pick J v79 i0 U c1 c2 c3
          have F2 : ∀ (c : Nat) j, c ≠ 127 → vw g c j = V c j := fun c j z => by rw [eg, up_c z]; exact F c j z
          have r7 := iR x7
          rw [w32_id (by omega) (by omega)] at g7
          refine pt_q (ih1 g x1 x2 x3 x4 w5 w7 u8 u9 (j1 + 1) S2 F2 (by omega) (by omega) (un _ eg)) ?_
          rintro v h' ⟨x, ex, q1, q2, q3⟩
          refine ⟨x, ex, q1, ?_, q3⟩
          rw [vlF_s (H := H) _ i j1 i0 hi.1 rfl (by omega) no, show (V 1 4 - j1).toNat = (V 1 4 - (j1 + 1)).toNat + 1 by omega, vlF_t ⟨l0, h1⟩, q2, g5, F 79 _ (by decide), v7, e1, Int.mul_comm (V 3 x8.toInt), Int.min_comm 10, w64_3]
          have el : vlF V H (V 1 4 - (j1 + 1)).toNat (j1 + 1) w7.toInt = vlF V H (V 1 4 - (j1 + 1)).toNat (j1 + 1) (x7.toInt - min x7.toInt 10) := by
            by_cases z : 10 ≤ x7.toInt
            · rw [show w7.toInt = x7.toInt - min x7.toInt 10 by omega]
            · rw [vlF_0 _ _ _ (show w7.toInt ≤ 0 by omega), vlF_0 _ _ _ (show x7.toInt - min x7.toInt 10 ≤ 0 by omega)]
          rw [el]
      · have step : ∀ (w8 w9 : Int32), w9.toInt = w32 (k + 1) → ((w8.toInt = -1 ∧ ∀ b, 0 ≤ b → b < k + 1 → vw h 127 b ≠ 0) ∨ ((0 ≤ w8.toInt ∧ w8.toInt < k + 1) ∧ vw h 127 w8.toInt = 0 ∧ ∀ b, 0 ≤ b → b < k + 1 → vw h 127 b = 0 → beats V w8.toInt b)) → Pt n X zM275 82 [some (.ref 72), some (.int x1), some (.int x2), some (.int x3), some (.int x4), some (.long x5), none, some (.int x7), some (.int w8), some (.int w9)] [] h (qJ (fun r h' => wS h' ∧ r = w64 (x5.toInt + vlF V H (V 1 4 - i).toNat i x7.toInt) ∧ ∀ (c : Nat) j, c ≠ 127 → vw h' c j = V c j)) := by
          intro w8 w9 g9 B'
          replace g9 := w_1 g9 (by omega) (by omega)
          exact ih2 h x1 x2 x3 x4 x5 x7 w8 w9 i (k + 1) S F i0 i1 U l0 g9 (by omega) (by omega) B'
        refine ⟨fun n0 w9 g9 => step x8 w9 g9 ?_, fun e0 => ⟨fun m8 w9 g9 => step x9 w9 g9 ?_, fun m8 _ _ => ⟨fun le w9 g9 => step x8 w9 g9 ?_, fun gt w9 g9 => step x9 w9 g9 ?_⟩⟩⟩
        · rcases B with ⟨e, c⟩ | ⟨c1, c2, c3⟩
          · refine Or.inl ⟨e, fun b u v => ?_⟩
            by_cases z : b = k
            · rw [z]; exact n0
            · exact c b u (by omega)
          · refine Or.inr ⟨by omega, c2, fun b u v w => ?_⟩
            by_cases z : b = k
            · rw [z] at w; exact absurd w n0
            · exact c3 b u (by omega) w
        · rcases B with ⟨e, c⟩ | ⟨c1, -⟩
          · refine Or.inr ⟨by omega, by rw [h9]; exact e0, fun b u v w => ?_⟩
            by_cases z : b = k
            · exact Or.inr ⟨by rw [z, h9], by omega⟩
            · exact absurd w (c b u (by omega))
          · omega
        · rcases B with ⟨e, c⟩ | ⟨c1, c2, c3⟩
          · omega
          · refine Or.inr ⟨by omega, c2, fun b u v w => ?_⟩
            by_cases z : b = k
            · rw [F 79 _ (by decide), F 79 _ (by decide)] at le
              rw [z]
              unfold beats
              omega
            · exact c3 b u (by omega) w
        · rcases B with ⟨e, c⟩ | ⟨c1, c2, c3⟩
          · omega
          · refine Or.inr ⟨by omega, by rw [h9]; exact e0, fun b u v w => ?_⟩
            rw [F 79 _ (by decide), F 79 _ (by decide)] at gt
            rw [h9]
            by_cases z : b = k
            · exact Or.inr ⟨by rw [z], by omega⟩
            · have := c3 b u (by omega) w
              unfold beats at *
              omega
theorem m_275f (hp : p275 V) {q : Int} : ∀ (n : Nat) (h : aH) (x1 x2 x3 x4 x5 : Int32) (k : Int), wS h → x1.toInt = f → x2.toInt = y → x3.toInt = t → x4.toInt = q → x5.toInt = k → 0 ≤ k → k ≤ V 1 1 → (∀ (c : Nat) j, c ≠ 127 → vw h c j = V c j) → (∀ b, 0 ≤ b → b < k → (vw h 127 b = 0 ↔ (V 73 b = 6 ∧ mHold V b (ldM y) t = f))) → Pt n X zM275 3 [some (.ref 72), some (.int x1), some (.int x2), some (.int x3), some (.int x4), some (.int x5), none, none, none, none] [] h (qJ (fun r h' => wS h' ∧ r = w64 (vlF V (fun i => mHold V (V 6 i) (ldM y) t = f) (V 1 4).toNat 0 q) ∧ ∀ (c : Nat) j, c ≠ 127 → vw h' c j = V c j)) := by
  have hp' := hp
  obtain ⟨J, ⟨n2, b0, b1⟩, k73, v79, n14, n4⟩ := hp
  intro n
  induction n with
  | zero => exact fun _ _ _ _ _ _ _ _ _ _ _ _ _ _ _ _ _ => pt_z
  | succ n ih =>
    intro h x1 x2 x3 x4 x5 k S h1 h2 h3 h4 h5 k0 k1 F U
    have e2 : vw h 72 2 = V 1 1 := (F 72 2 (by decide)).trans n2
    have hd : ∀ b d k', mHold (vw h) b d k' = mHold V b d k' := fun b d k' => mHold_f (fun c j u v => F c j (by omega)) (F 72 14 (by decide)) b d k'
    have step : ∀ (g : aH) (w5 : Int32) (v : Int), wS g → vw g = up (vw h) 127 k v → w5.toInt = w32 (k + 1) → (k < V 1 1) → (v = 0 ↔ (V 73 k = 6 ∧ mHold V k (ldM y) t = f)) → Pt n X zM275 3 [some (.ref 72), some (.int x1), some (.int x2), some (.int x3), some (.int x4), some (.int w5), none, none, none, none] [] g (qJ (fun r h' => wS h' ∧ r = w64 (vlF V (fun i => mHold V (V 6 i) (ldM y) t = f) (V 1 4).toNat 0 q) ∧ ∀ (c : Nat) j, c ≠ 127 → vw h' c j = V c j)) := by
      intro g w5 v S2 eg g5 lt ev
      replace g5 := w_1 g5 (by omega) (by omega)
      refine ih g x1 x2 x3 x4 w5 (k + 1) S2 h1 h2 h3 h4 g5 (by omega) (by omega) (fun c j z => by rw [eg, up_c z]; exact F c j z) (fun b u w => ?_)
      rw [eg, up_p]
      by_cases z : b = k
      · rw [if_pos z, z]
        exact ev
      · rw [if_neg z]
        exact U b u (by omega)
    refine d275_3 S h1 h2 h3 h4 h5 ⟨fun ge w5 u8 u9 g5 => ?_, fun lt _ _ => ⟨fun n6 g S2 eg w5 g5 => step g w5 1 S2 (by rw [eg, bb11]) g5 (by omega) ?_, fun e6 => ⟨by rw [F 72 14 (by decide)]; exact n14, fun eh g S2 eg w5 g5 => step g w5 0 S2 (by rw [eg, bb01]) g5 (by omega) ?_, fun nh g S2 eg w5 g5 => step g w5 1 S2 (by rw [eg, bb11]) g5 (by omega) ?_⟩⟩⟩
    · have kn : k = V 1 1 := by omega
      rw [kn] at U
      refine pt_q ((m_275 hp' (H := fun i => mHold V (V 6 i) (ldM y) t = f) n).1 h x1 x2 x3 x4 w5 x4 u8 u9 0 S F (Int.le_refl _) J.1 (fun b c d => ?_)) ?_
      · rw [U b c d]
        constructor
        · rintro ⟨z1, z2⟩
          obtain ⟨i, hi, e⟩ := J.2.2.2 b c d (by rw [← k73]; exact z1)
          exact ⟨i, hi, e, show mHold V (V 6 i) (ldM y) t = f by rw [e]; exact z2⟩
        · rintro ⟨i, hi, e, z2⟩
          have := (J.2.1 i hi.1 hi.2).2
          exact ⟨by rw [k73, ← e]; exact this, by rw [← e]; exact z2⟩
      · rintro v h' ⟨x, ex, p1, p2, p3⟩
        refine ⟨x, ex, p1, ?_, p3⟩
        rw [p2, g5, h4, Int.zero_add, Int.sub_zero]
    · rw [F 73 _ (by decide)] at n6
      exact ⟨fun z => (by cases z), fun z => absurd z.1 n6⟩
    · rw [F 73 _ (by decide)] at e6
      rw [hd] at eh
      exact ⟨fun _ => ⟨e6, eh⟩, fun _ => rfl⟩
    · rw [hd] at nh
      exact ⟨fun z => (by cases z), fun z => absurd z.2 nh⟩
end V275
def R275 (V : vS) (f y t q r : Int) (W : vS) : Prop := r = w64 (vlF V (fun i => mHold V (V 6 i) (ldM y) t = f) (V 1 4).toNat 0 q) ∧ ∀ (c : Nat) j, c ≠ 127 → W c j = V c j
theorem c_275 {n : Nat} {X : aX} {h : aH} {x1 x2 x3 x4 : Int32} {a1 a2 a3 a4 : Int} (S : wS h) (z1 : x1.toInt = a1) (z2 : x2.toInt = a2) (z3 : x3.toInt = a3) (z4 : x4.toInt = a4) (hp : p275 (vw h)) : Pt n X zM275 0 [some (.ref 72), some (.int x1), some (.int x2), some (.int x3), some (.int x4), none, none, none, none, none] [] h (qJ (fun r h' => wS h' ∧ R275 (vw h) a1 a2 a3 a4 r (vw h'))) := by
  have b := hp.2.1
  exact pt_d (d275_0 S z1 z2 z3 z4 (fun w5 g5 => m_275f hp n h x1 x2 x3 x4 w5 0 S z1 z2 z3 z4 g5 (Int.le_refl _) (by omega) (fun _ _ _ => rfl) (fun b u v => by omega)))


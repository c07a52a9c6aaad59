-- ===== 82zyzob.tried: 3 texts =====
section
-- ===== texts tried =====
theorem d185_0 {n : Nat} {X : aX} {h : aH} {P : Int → aH → Prop} {x1 x2 x3 x4 : Int32} {a1 a2 a3 a4 : Int} (S : wS h) (z1 : x1.toInt = a1) (z2 : x2.toInt = a2) (z3 : x3.toInt = a3) (z4 : x4.toInt = a4) (H : ((¬ (isR (vw h) a1) → P (-1) h) ∧ ((isR (vw h) a1) → ((¬ (0 ≤ a2 ∧ a2 ≤ 3) → P (-1) h) ∧ ((0 ≤ a2 ∧ a2 ≤ 3) → ((¬ (0 ≤ a3 ∧ a3 ≤ 9) → P (-1) h) ∧ ((0 ≤ a3 ∧ a3 ≤ 9) → (((0 ≤ a4 ∧ a4 ≤ 1) → ((a4 ≠ 0 → ((pr18 h a1 a3) ∧ ∀ (y18 : Int) (h_18 : aH), (R18 h a1 a2 a3 0 y18 h_18) → P y18 h_18)) ∧ (a4 = 0 → ((pr18 h a1 a3) ∧ ∀ (y20 : Int) (h_20 : aH), (R18 h a1 a2 a3 1 y20 h_20) → P y20 h_20)))) ∧ (¬ (0 ≤ a4 ∧ a4 ≤ 1) → P (-1) h))))))))) : Pt (n + 1) X zM185 0 [some (.ref 0), some (.int x1), some (.int x2), some (.int x3), some (.int x4)] [] h (qI P) := by
  refine pt_1 (fun n d => r_aloadn gx185_0 rfl) ?_
  refine pt_d (pt_getR gx185_1 S tr_0_3 ?_)
  refine pt_d (pt_1 (fun n d => r_iloadn gx185_4 rfl) ?_)
  refine pt_d (pt_virt (as := [.int x1]) (r := []) gx185_5 rfl (show zmt[119]? = some zM119 from rfl) rfl rfl rfl rfl (c_119 S z1) (kqP (fun v2 h2 => ?_)))
  show Pt _ _ _ 8 _ [.int v2] _ _
  refine pt_d (pt_ifB_eq gx185_8 h2 (fun e3 => ?_) (fun e3 => ?_))
  · have H := H.1 e3
    refine pt_d (pt_iconst gx185_35 (fun v4 h4 => ?_))
    exact pt_d (pt_iret gx185_36 ⟨_, rfl, by rw [h4]; exact H⟩)
  · have H := H.2 e3
    refine pt_d (pt_1 (fun n d => r_iloadn gx185_11 rfl) ?_)
    refine pt_d (pt_stat (as := [.int x2]) (r := []) gx185_12 rfl (show zmt[140]? = some zM140 from rfl) rfl rfl rfl rfl (c_140 S z2) (kqP (fun v5 h5 => ?_)))
    show Pt _ _ _ 15 _ [.int v5] _ _
    refine pt_d (pt_ifB_eq gx185_15 h5 (fun e6 => ?_) (fun e6 => ?_))
    · have H := H.1 e6
      refine pt_d (pt_iconst gx185_35 (fun v7 h7 => ?_))
      exact pt_d (pt_iret gx185_36 ⟨_, rfl, by rw [h7]; exact H⟩)
    · have H := H.2 e6
      refine pt_d (pt_1 (fun n d => r_iloadn gx185_18 rfl) ?_)
      refine pt_d (pt_stat (as := [.int x3]) (r := []) gx185_19 rfl (show zmt[139]? = some zM139 from rfl) rfl rfl rfl rfl (c_139 S z3) (kqP (fun v8 h8 => ?_)))
      show Pt _ _ _ 22 _ [.int v8] _ _
      refine pt_d (pt_ifB_eq gx185_22 h8 (fun e9 => ?_) (fun e9 => ?_))
      · have H := H.1 e9
        refine pt_d (pt_iconst gx185_35 (fun v10 h10 => ?_))
        exact pt_d (pt_iret gx185_36 ⟨_, rfl, by rw [h10]; exact H⟩)
      · have H := H.2 e9
        refine pt_d (pt_1 (fun n d => r_iload gx185_25 rfl) ?_)
        refine pt_d (pt_iconst gx185_27 (fun v11 h11 => ?_))
        refine pt_d (pt_iconst gx185_28 (fun v12 h12 => ?_))
        refine pt_d (pt_stat (as := [.int x4, .int v11, .int v12]) (r := []) gx185_29 rfl (show zmt[137]? = some zM137 from rfl) rfl rfl rfl rfl (c_137 S z4 h11 h12) (kqP (fun v13 h13 => ?_)))
        show Pt _ _ _ 32 _ [.int v13] _ _
        refine pt_d (pt_ifB_ne gx185_32 h13 (fun e14 => ?_) (fun e14 => ?_))
        · have H := H.1 e14
          refine pt_d (pt_1 (fun n d => r_aloadn gx185_37 rfl) ?_)
          refine pt_d (pt_getR gx185_38 S tr_0_4 ?_)
          refine pt_d (pt_1 (fun n d => r_iloadn gx185_41 rfl) ?_)
          refine pt_d (pt_1 (fun n d => r_iloadn gx185_42 rfl) ?_)
          refine pt_d (pt_1 (fun n d => r_iloadn gx185_43 rfl) ?_)
          refine pt_d (pt_1 (fun n d => r_iload gx185_44 rfl) ?_)
          refine pt_d (pt_if_ne gx185_46 z4 (fun e16 => ?_) (fun e16 => ?_))
          · have H := H.1 e16
            refine pt_d (pt_iconst gx185_53 (fun v17 h17 => ?_))
            obtain ⟨pr18, H⟩ := H
            refine pt_d (pt_virt (as := [.int x1, .int x2, .int x3, .int v17]) (r := []) gx185_54 rfl (show zmt[18]? = some zM18 from rfl) rfl rfl rfl rfl (c_18 S z1 z2 z3 h17 pr18) (kqI (fun v18 y18 h_18 h18 P18 => ?_)))
            have S18 := P18.1
            have H := H y18 h_18 P18
            show Pt _ _ _ 57 _ [.int v18] _ _
            exact pt_d (pt_iret gx185_57 ⟨_, rfl, by rw [h18]; exact H⟩)
          · have H := H.2 e16
            refine pt_d (pt_iconst gx185_49 (fun v19 h19 => ?_))
            refine pt_d (pt_1 (fun n d => r_goto gx185_50) ?_)
            obtain ⟨pr20, H⟩ := H
            refine pt_d (pt_virt (as := [.int x1, .int x2, .int x3, .int v19]) (r := []) gx185_54 rfl (show zmt[18]? = some zM18 from rfl) rfl rfl rfl rfl (c_18 S z1 z2 z3 h19 pr20) (kqI (fun v20 y20 h_20 h20 P20 => ?_)))
            have S20 := P20.1
            have H := H y20 h_20 P20
            show Pt _ _ _ 57 _ [.int v20] _ _
            exact pt_d (pt_iret gx185_57 ⟨_, rfl, by rw [h20]; exact H⟩)
        · have H := H.2 e14
          refine pt_d (pt_iconst gx185_35 (fun v21 h21 => ?_))
          exact pt_d (pt_iret gx185_36 ⟨_, rfl, by rw [h21]; exact H⟩)
theorem d304_0 {n : Nat} {X : aX} {h : aH} {P : Int → aH → Prop} {x1 x2 x3 x4 : Int32} {a1 a2 a3 a4 : Int} (S : wS h) (z1 : x1.toInt = a1) (z2 : x2.toInt = a2) (z3 : x3.toInt = a3) (z4 : x4.toInt = a4) (H : ((¬ (0 ≤ a1 ∧ a1 ≤ (w32 ((vw h 72 55) - 1))) → P (-1) h) ∧ ((0 ≤ a1 ∧ a1 ≤ (w32 ((vw h 72 55) - 1))) → (0 ≤ a1 → a1 < 16 → ((iRem (vw h 116 a1) 10 ≠ 0 → P (-1) h) ∧ (iRem (vw h 116 a1) 10 = 0 → ((¬ (0 ≤ a2 ∧ a2 ≤ 3) → P (-1) h) ∧ ((0 ≤ a2 ∧ a2 ≤ 3) → ((¬ (0 ≤ a3 ∧ a3 ≤ 9) → P (-1) h) ∧ ((0 ≤ a3 ∧ a3 ≤ 9) → (((0 ≤ a4 ∧ a4 ≤ 1) → (∀ (w5 : Int32) (w6 : Int32) (u7_ : Option Value) (u8_ : Option Value), w5.toInt = 0 → w6.toInt = 0 → Pt n X zM304 58 [some (.ref 72), some (.int x1), some (.int x2), some (.int x3), some (.int x4), some (.int w5), some (.int w6), u7_, u8_] [] h (qI P))) ∧ (¬ (0 ≤ a4 ∧ a4 ≤ 1) → P (-1) h)))))))))))) : Pt (n + 1) X zM304 0 [some (.ref 72), some (.int x1), some (.int x2), some (.int x3), some (.int x4), none, none, none, none] [] h (qI P) := by
  refine pt_1 (fun n d => r_iloadn gx304_0 rfl) ?_
  refine pt_d (pt_iconst gx304_1 (fun v1 h1 => ?_))
  refine pt_d (pt_1 (fun n d => r_aloadn gx304_2 rfl) ?_)
  refine pt_d (pt_getI (B := 55) gx304_3 S (fun v2 h2 => ?_))
  refine pt_d (pt_iconst gx304_6 (fun v3 h3 => ?_))
  refine pt_d (pt_isub gx304_7 h2 h3 (fun v4 h4 => ?_))
  refine pt_d (pt_stat (as := [.int x1, .int v1, .int v4]) (r := []) gx304_8 rfl (show zmt[196]? = some zM196 from rfl) rfl rfl rfl rfl (c_196 S z1 h1 h4) (kqP (fun v5 h5 => ?_)))
  show Pt _ _ _ 11 _ [.int v5] _ _
  refine pt_d (pt_ifB_eq gx304_11 h5 (fun e6 => ?_) (fun e6 => ?_))
  · have H := H.1 e6
    refine pt_d (pt_iconst gx304_50 (fun v7 h7 => ?_))
    exact pt_d (pt_iret gx304_51 ⟨_, rfl, by rw [h7]; exact H⟩)
  · have H := H.2 e6
    refine pt_d (pt_1 (fun n d => r_aloadn gx304_14 rfl) ?_)
    refine pt_d (pt_getR gx304_15 S tr_72_56 ?_)
    refine pt_d (pt_1 (fun n d => r_iloadn gx304_18 rfl) ?_)
    refine pt_d (pt_iald (N' := 16) gx304_19 S tl_116 z1 (fun v9 p9 q9 h9 => ?_))
    have H := H p9 q9
    refine pt_d (pt_bipush gx304_20 (fun v10 h10 => ?_))
    refine pt_d (pt_irem gx304_22 h9 h10 (fun v11 h11 => ?_))
    refine pt_d (pt_if_ne gx304_23 h11 (fun e12 => ?_) (fun e12 => ?_))
    · have H := H.1 e12
      refine pt_d (pt_iconst gx304_50 (fun v13 h13 => ?_))
      exact pt_d (pt_iret gx304_51 ⟨_, rfl, by rw [h13]; exact H⟩)
    · have H := H.2 e12
      refine pt_d (pt_1 (fun n d => r_iloadn gx304_26 rfl) ?_)
      refine pt_d (pt_stat (as := [.int x2]) (r := []) gx304_27 rfl (show zmt[206]? = some zM206 from rfl) rfl rfl rfl rfl (c_206 S z2) (kqP (fun v14 h14 => ?_)))
      show Pt _ _ _ 30 _ [.int v14] _ _
      refine pt_d (pt_ifB_eq gx304_30 h14 (fun e15 => ?_) (fun e15 => ?_))
      · have H := H.1 e15
        refine pt_d (pt_iconst gx304_50 (fun v16 h16 => ?_))
        exact pt_d (pt_iret gx304_51 ⟨_, rfl, by rw [h16]; exact H⟩)
      · have H := H.2 e15
        refine pt_d (pt_1 (fun n d => r_iloadn gx304_33 rfl) ?_)
        refine pt_d (pt_stat (as := [.int x3]) (r := []) gx304_34 rfl (show zmt[198]? = some zM198 from rfl) rfl rfl rfl rfl (c_198 S z3) (kqP (fun v17 h17 => ?_)))
        show Pt _ _ _ 37 _ [.int v17] _ _
        refine pt_d (pt_ifB_eq gx304_37 h17 (fun e18 => ?_) (fun e18 => ?_))
        · have H := H.1 e18
          refine pt_d (pt_iconst gx304_50 (fun v19 h19 => ?_))
          exact pt_d (pt_iret gx304_51 ⟨_, rfl, by rw [h19]; exact H⟩)
        · have H := H.2 e18
          refine pt_d (pt_1 (fun n d => r_iload gx304_40 rfl) ?_)
          refine pt_d (pt_iconst gx304_42 (fun v20 h20 => ?_))
          refine pt_d (pt_iconst gx304_43 (fun v21 h21 => ?_))
          refine pt_d (pt_stat (as := [.int x4, .int v20, .int v21]) (r := []) gx304_44 rfl (show zmt[196]? = some zM196 from rfl) rfl rfl rfl rfl (c_196 S z4 h20 h21) (kqP (fun v22 h22 => ?_)))
          show Pt _ _ _ 47 _ [.int v22] _ _
          refine pt_d (pt_ifB_ne gx304_47 h22 (fun e23 => ?_) (fun e23 => ?_))
          · have H := H.1 e23
            refine pt_d (pt_iconst gx304_52 (fun v24 h24 => ?_))
            refine pt_d (pt_1 (fun n d => r_istore (L' := [some (.ref 72), some (.int x1), some (.int x2), some (.int x3), some (.int x4), some (.int v24), none, none, none]) gx304_53 rfl rfl) ?_)
            refine pt_d (pt_iconst gx304_55 (fun v25 h25 => ?_))
            refine pt_d (pt_1 (fun n d => r_istore (L' := [some (.ref 72), some (.int x1), some (.int x2), some (.int x3), some (.int x4), some (.int v24), some (.int v25), none, none]) gx304_56 rfl rfl) ?_)
            exact H v24 v25 _ _ h24 h25
          · have H := H.2 e23
            refine pt_d (pt_iconst gx304_50 (fun v26 h26 => ?_))
            exact pt_d (pt_iret gx304_51 ⟨_, rfl, by rw [h26]; exact H⟩)
theorem d304_58 {n : Nat} {X : aX} {h : aH} {P : Int → aH → Prop} {x1 x2 x3 x4 x5 x6 : Int32} {a1 a2 a3 a4 a5 a6 : Int} {u7 u8 : Option Value} (S : wS h) (z1 : x1.toInt = a1) (z2 : x2.toInt = a2) (z3 : x3.toInt = a3) (z4 : x4.toInt = a4) (z5 : x5.toInt = a5) (z6 : x6.toInt = a6) (H : ((vw h 72 2 ≤ a6 → P a5 h) ∧ (a6 < vw h 72 2 → ((¬ (mFarm (vw h) a6) → (∀ (w6 : Int32) (u7_ : Option Value) (u8_ : Option Value), w6.toInt = w32 (a6 + 1) → Pt n X zM304 58 [some (.ref 72), some (.int x1), some (.int x2), some (.int x3), some (.int x4), some (.int x5), some (.int w6), u7_, u8_] [] h (qI P))) ∧ ((mFarm (vw h) a6) → (0 ≤ a6 → a6 < 150 → ((vw h 74 a6 = a2 → ((pr8p h a6 a3 (vw h 72 1) (-1)) ∧ ∀ (y11 : Int) (h_11 : aH), (RP277 h a6 a3 (vw h 72 1) (-1) y11 h_11) → ((pr8p h_11 a6 a3 (vw h_11 72 1) a1) ∧ ∀ (y13 : Int) (h_13 : aH), (RP277 h_11 a6 a3 (vw h_11 72 1) a1 y13 h_13) → ((a4 ≠ 0 → ((y11 ≤ y13 → (∀ (w5 : Int32) (w6 : Int32) (u7_ : Option Value) (u8_ : Option Value), w5.toInt = w32 (a5 + 0) → w6.toInt = w32 (a6 + 1) → Pt n X zM304 58 [some (.ref 72), some (.int x1), some (.int x2), some (.int x3), some (.int x4), some (.int w5), some (.int w6), u7_, u8_] [] h_13 (qI P))) ∧ (y13 < y11 → (∀ (w5 : Int32) (w6 : Int32) (u7_ : Option Value) (u8_ : Option Value), w5.toInt = w32 (a5 + 1) → w6.toInt = w32 (a6 + 1) → Pt n X zM304 58 [some (.ref 72), some (.int x1), some (.int x2), some (.int x3), some (.int x4), some (.int w5), some (.int w6), u7_, u8_] [] h_13 (qI P))))) ∧ (a4 = 0 → ((y13 ≤ y11 → (∀ (w5 : Int32) (w6 : Int32) (u7_ : Option Value) (u8_ : Option Value), w5.toInt = w32 (a5 + 0) → w6.toInt = w32 (a6 + 1) → Pt n X zM304 58 [some (.ref 72), some (.int x1), some (.int x2), some (.int x3), some (.int x4), some (.int w5), some (.int w6), u7_, u8_] [] h_13 (qI P))) ∧ (y11 < y13 → (∀ (w5 : Int32) (w6 : Int32) (u7_ : Option Value) (u8_ : Option Value), w5.toInt = w32 (a5 + 1) → w6.toInt = w32 (a6 + 1) → Pt n X zM304 58 [some (.ref 72), some (.int x1), some (.int x2), some (.int x3), some (.int x4), some (.int w5), some (.int w6), u7_, u8_] [] h_13 (qI P))))))))) ∧ (vw h 74 a6 ≠ a2 → (∀ (w6 : Int32) (u7_ : Option Value) (u8_ : Option Value), w6.toInt = w32 (a6 + 1) → Pt n X zM304 58 [some (.ref 72), some (.int x1), some (.int x2), some (.int x3), some (.int x4), some (.int x5), some (.int w6), u7_, u8_] [] h (qI P)))))))))) : Pt (n + 1) X zM304 58 [some (.ref 72), some (.int x1), some (.int x2), some (.int x3), some (.int x4), some (.int x5), some (.int x6), u7, u8] [] h (qI P) := by
  refine pt_1 (fun n d => r_iload gx304_58 rfl) ?_
  refine pt_d (pt_1 (fun n d => r_aloadn gx304_60 rfl) ?_)
  refine pt_d (pt_getI (B := 2) gx304_61 S (fun v1 h1 => ?_))
  refine pt_d (pt_icmp_ge gx304_64 z6 h1 (fun e2 => ?_) (fun e2 => ?_))
  · have H := H.1 e2
    refine pt_d (pt_1 (fun n d => r_iload gx304_161 rfl) ?_)
    exact pt_d (pt_iret gx304_163 ⟨_, rfl, by rw [z5]; exact H⟩)
  · have H := H.2 e2
    refine pt_d (pt_1 (fun n d => r_aloadn gx304_67 rfl) ?_)
    refine pt_d (pt_1 (fun n d => r_iload gx304_68 rfl) ?_)
    refine pt_d (pt_virt (as := [.int x6]) (r := []) gx304_70 rfl (show zmt[202]? = some zM202 from rfl) rfl rfl rfl rfl (c_202 S z6) (kqP (fun v3 h3 => ?_)))
    show Pt _ _ _ 73 _ [.int v3] _ _
    refine pt_d (pt_ifB_eq gx304_73 h3 (fun e4 => ?_) (fun e4 => ?_))
    · have H := H.1 e4
      refine pt_d (pt_iinc (c := 1) gx304_155 rfl z6 (fun v5 h5 => ?_))
      show Pt _ _ _ _ [some (.ref 72), some (.int x1), some (.int x2), some (.int x3), some (.int x4), some (.int x5), some (.int v5), u7, u8] [] _ _
      refine pt_d (pt_1 (fun n d => r_goto gx304_158) ?_)
      exact H v5 _ _ h5
    · have H := H.2 e4
      refine pt_d (pt_1 (fun n d => r_aloadn gx304_76 rfl) ?_)
      refine pt_d (pt_getR gx304_77 S tr_72_4 ?_)
      refine pt_d (pt_1 (fun n d => r_iload gx304_80 rfl) ?_)
      refine pt_d (pt_iald (N' := 150) gx304_82 S tl_74 z6 (fun v7 p7 q7 h7 => ?_))
      have H := H p7 q7
      refine pt_d (pt_1 (fun n d => r_iloadn gx304_83 rfl) ?_)
      refine pt_d (pt_icmp_eq gx304_84 h7 z2 (fun e8 => ?_) (fun e8 => ?_))
      · have H := H.1 e8
        refine pt_d (pt_1 (fun n d => r_aloadn gx304_90 rfl) ?_)
        refine pt_d (pt_1 (fun n d => r_iload gx304_91 rfl) ?_)
        refine pt_d (pt_1 (fun n d => r_iloadn gx304_93 rfl) ?_)
        refine pt_d (pt_1 (fun n d => r_aloadn gx304_94 rfl) ?_)
        refine pt_d (pt_getI (B := 1) gx304_95 S (fun v9 h9 => ?_))
        refine pt_d (pt_iconst gx304_98 (fun v10 h10 => ?_))
        obtain ⟨pr11, H⟩ := H
        refine pt_d (pt_virt (as := [.int x6, .int x3, .int v9, .int v10]) (r := []) gx304_99 rfl (show zmt[277]? = some zM277 from rfl) rfl rfl rfl rfl (c_277p S z6 z3 h9 h10 pr11) (kqI (fun v11 y11 h_11 h11 P11 => ?_)))
        have S11 := P11.1
        have H := H y11 h_11 P11
        show Pt _ _ _ 102 _ [.int v11] _ _
        refine pt_d (pt_1 (fun n d => r_istore (L' := [some (.ref 72), some (.int x1), some (.int x2), some (.int x3), some (.int x4), some (.int x5), some (.int x6), some (.int v11), u8]) gx304_102 rfl rfl) ?_)
        refine pt_d (pt_1 (fun n d => r_aloadn gx304_104 rfl) ?_)
        refine pt_d (pt_1 (fun n d => r_iload gx304_105 rfl) ?_)
        refine pt_d (pt_1 (fun n d => r_iloadn gx304_107 rfl) ?_)
        refine pt_d (pt_1 (fun n d => r_aloadn gx304_108 rfl) ?_)
        refine pt_d (pt_getI (B := 1) gx304_109 S11 (fun v12 h12 => ?_))
        refine pt_d (pt_1 (fun n d => r_iloadn gx304_112 rfl) ?_)
        obtain ⟨pr13, H⟩ := H
        refine pt_d (pt_virt (as := [.int x6, .int x3, .int v12, .int x1]) (r := []) gx304_113 rfl (show zmt[277]? = some zM277 from rfl) rfl rfl rfl rfl (c_277p S11 z6 z3 h12 z1 pr13) (kqI (fun v13 y13 h_13 h13 P13 => ?_)))
        have S13 := P13.1
        have H := H y13 h_13 P13
        show Pt _ _ _ 116 _ [.int v13] _ _
        refine pt_d (pt_1 (fun n d => r_istore (L' := [some (.ref 72), some (.int x1), some (.int x2), some (.int x3), some (.int x4), some (.int x5), some (.int x6), some (.int v11), some (.int v13)]) gx304_116 rfl rfl) ?_)
        refine pt_d (pt_1 (fun n d => r_iload gx304_118 rfl) ?_)
        refine pt_d (pt_1 (fun n d => r_iload gx304_120 rfl) ?_)
        refine pt_d (pt_if_ne gx304_122 z4 (fun e14 => ?_) (fun e14 => ?_))
        · have H := H.1 e14
          refine pt_d (pt_1 (fun n d => r_iload gx304_140 rfl) ?_)
          refine pt_d (pt_1 (fun n d => r_iload gx304_142 rfl) ?_)
          refine pt_d (pt_icmp_ge gx304_144 h13 h11 (fun e15 => ?_) (fun e15 => ?_))
          · have H := H.1 e15
            refine pt_d (pt_iconst gx304_151 (fun v16 h16 => ?_))
            refine pt_d (pt_iadd gx304_152 z5 h16 (fun v17 h17 => ?_))
            refine pt_d (pt_1 (fun n d => r_istore (L' := [some (.ref 72), some (.int x1), some (.int x2), some (.int x3), some (.int x4), some (.int v17), some (.int x6), some (.int v11), some (.int v13)]) gx304_153 rfl rfl) ?_)
            refine pt_d (pt_iinc (c := 1) gx304_155 rfl z6 (fun v18 h18 => ?_))
            show Pt _ _ _ _ [some (.ref 72), some (.int x1), some (.int x2), some (.int x3), some (.int x4), some (.int v17), some (.int v18), some (.int v11), some (.int v13)] [] _ _
            refine pt_d (pt_1 (fun n d => r_goto gx304_158) ?_)
            exact H v17 v18 _ _ h17 h18
          · have H := H.2 e15
            refine pt_d (pt_iconst gx304_147 (fun v19 h19 => ?_))
            refine pt_d (pt_1 (fun n d => r_goto gx304_148) ?_)
            refine pt_d (pt_iadd gx304_152 z5 h19 (fun v20 h20 => ?_))
            refine pt_d (pt_1 (fun n d => r_istore (L' := [some (.ref 72), some (.int x1), some (.int x2), some (.int x3), some (.int x4), some (.int v20), some (.int x6), some (.int v11), some (.int v13)]) gx304_153 rfl rfl) ?_)
            refine pt_d (pt_iinc (c := 1) gx304_155 rfl z6 (fun v21 h21 => ?_))
            show Pt _ _ _ _ [some (.ref 72), some (.int x1), some (.int x2), some (.int x3), some (.int x4), some (.int v20), some (.int v21), some (.int v11), some (.int v13)] [] _ _
            refine pt_d (pt_1 (fun n d => r_goto gx304_158) ?_)
            exact H v20 v21 _ _ h20 h21
        · have H := H.2 e14
          refine pt_d (pt_1 (fun n d => r_iload gx304_125 rfl) ?_)
          refine pt_d (pt_1 (fun n d => r_iload gx304_127 rfl) ?_)
          refine pt_d (pt_icmp_le gx304_129 h13 h11 (fun e22 => ?_) (fun e22 => ?_))
          · have H := H.1 e22
            refine pt_d (pt_iconst gx304_136 (fun v23 h23 => ?_))
            refine pt_d (pt_1 (fun n d => r_goto gx304_137) ?_)
            refine pt_d (pt_iadd gx304_152 z5 h23 (fun v24 h24 => ?_))
            refine pt_d (pt_1 (fun n d => r_istore (L' := [some (.ref 72), some (.int x1), some (.int x2), some (.int x3), some (.int x4), some (.int v24), some (.int x6), some (.int v11), some (.int v13)]) gx304_153 rfl rfl) ?_)
            refine pt_d (pt_iinc (c := 1) gx304_155 rfl z6 (fun v25 h25 => ?_))
            show Pt _ _ _ _ [some (.ref 72), some (.int x1), some (.int x2), some (.int x3), some (.int x4), some (.int v24), some (.int v25), some (.int v11), some (.int v13)] [] _ _
            refine pt_d (pt_1 (fun n d => r_goto gx304_158) ?_)
            exact H v24 v25 _ _ h24 h25
          · have H := H.2 e22
            refine pt_d (pt_iconst gx304_132 (fun v26 h26 => ?_))
            refine pt_d (pt_1 (fun n d => r_goto gx304_133) ?_)
            refine pt_d (pt_iadd gx304_152 z5 h26 (fun v27 h27 => ?_))
            refine pt_d (pt_1 (fun n d => r_istore (L' := [some (.ref 72), some (.int x1), some (.int x2), some (.int x3), some (.int x4), some (.int v27), some (.int x6), some (.int v11), some (.int v13)]) gx304_153 rfl rfl) ?_)
            refine pt_d (pt_iinc (c := 1) gx304_155 rfl z6 (fun v28 h28 => ?_))
            show Pt _ _ _ _ [some (.ref 72), some (.int x1), some (.int x2), some (.int x3), some (.int x4), some (.int v27), some (.int v28), some (.int v11), some (.int v13)] [] _ _
            refine pt_d (pt_1 (fun n d => r_goto gx304_158) ?_)
            exact H v27 v28 _ _ h27 h28
      · have H := H.2 e8
        refine pt_d (pt_1 (fun n d => r_goto gx304_87) ?_)
        refine pt_d (pt_iinc (c := 1) gx304_155 rfl z6 (fun v29 h29 => ?_))
        show Pt _ _ _ _ [some (.ref 72), some (.int x1), some (.int x2), some (.int x3), some (.int x4), some (.int x5), some (.int v29), u7, u8] [] _ _
        refine pt_d (pt_1 (fun n d => r_goto gx304_158) ?_)
        exact H v29 _ _ h29
def okQ (V : vS) (tx l y w : Int) : Prop := isR V tx ∧ (0 ≤ l ∧ l ≤ 3) ∧ (0 ≤ y ∧ y ≤ 9) ∧ 0 ≤ w ∧ w ≤ 1
def R185 (V V' : vS) (tx l y w r : Int) (W : vS) : Prop := (¬ okQ V tx l y w ∧ r = -1 ∧ W = V') ∨ (okQ V tx l y w ∧ r = nQ (trP V tx l y w) (V 1 1).toNat ∧ uf V W)
theorem c_185w {n : Nat} {X : aX} {h : aH} {x1 x2 x3 x4 : Int32} {a1 a2 a3 a4 : Int} (S : wS h) (z1 : x1.toInt = a1) (z2 : x2.toInt = a2) (z3 : x3.toInt = a3) (z4 : x4.toInt = a4) (I : IV h) (B : PB (vw h)) (d : 0 ≤ vw h 1 0 ∧ vw h 1 0 ≤ 3649) : Pt n X zM185 0 [some (.ref 0), some (.int x1), some (.int x2), some (.int x3), some (.int x4)] [] h (qI (fun r h' => R185 (vw h) (vw h) a1 a2 a3 a4 r (vw h') ∧ IV h')) := by
  have bad : ¬ okQ (vw h) a1 a2 a3 a4 → R185 (vw h) (vw h) a1 a2 a3 a4 (-1) (vw h) ∧ IV h := fun z => ⟨Or.inl ⟨z, rfl, rfl⟩, I⟩
  refine pt_d (d185_0 S z1 z2 z3 z4 ⟨fun e => bad (fun z => e z.1), fun e1 => ⟨fun e => bad (fun z => e z.2.1), fun e2 => ⟨fun e => bad (fun z => e z.2.2.1), fun e3 => ⟨fun e4 => ⟨fun n0 => ⟨⟨⟨I, B, e1⟩, e3, d⟩, fun y h' k => ?_⟩, fun e0 => ⟨⟨⟨I, B, e1⟩, e3, d⟩, fun y h' k => ?_⟩⟩, fun e => bad (fun z => e z.2.2.2)⟩⟩⟩⟩)
  · obtain ⟨-, k1, k2, k3⟩ := k
    rw [if_pos rfl] at k1
    exact ⟨Or.inr ⟨⟨e1, e2, e3, e4⟩, by rw [show a4 = 1 by omega]; exact k1, k3⟩, k2⟩
  · obtain ⟨-, k1, k2, k3⟩ := k
    rw [if_neg (by decide)] at k1
    exact ⟨Or.inr ⟨⟨e1, e2, e3, e4⟩, by rw [e0]; exact k1, k3⟩, k2⟩
theorem l_304 {X : aX} {h0 : aH} {tx l y w : Int} (hp : pr18 h0 tx y) (hd : vw h0 1 0 = vw h0 72 1) (hw : 0 ≤ w ∧ w ≤ 1) : ∀ (n : Nat) (h : aH) (x1 x2 x3 x4 x5 x6 : Int32) (u7 u8 : Option Value) (k : Nat), wS h → IV h → uf (vw h0) (vw h) → x1.toInt = tx → x2.toInt = l → x3.toInt = y → x4.toInt = w → x5.toInt = nQ (trP (vw h0) tx l y w) k → x6.toInt = (k : Int) → (k : Int) ≤ vw h0 1 1 → Pt n X zM304 58 [some (.ref 72), some (.int x1), some (.int x2), some (.int x3), some (.int x4), some (.int x5), some (.int x6), u7, u8] [] h (qI (fun r h' => wS h' ∧ r = nQ (trP (vw h0) tx l y w) (vw h0 1 1).toNat ∧ IV h' ∧ uf (vw h0) (vw h'))) := by
  have Bd := hp.1.2.1.1.1.2.1
  have n0 := Bd.2.2.2.2.2.1
  have n1 := Bd.2.2.2.2.2.2.1
  intro n
  induction n with
  | zero => exact fun _ _ _ _ _ _ _ _ _ _ _ _ _ _ _ _ _ _ _ _ => pt_z
  | succ n ih =>
    intro h x1 x2 x3 x4 x5 x6 u7 u8 k S I u h1 h2 h3 h4 h5 h6 hk
    have B0 := hp.1.2.1
    have Bh := PB_u u B0
    have Bdh := Bh.1.1.2.1
    have e11 : vw h 72 2 = vw h0 1 1 := Bdh.1.symm.trans (u 1 1 (by decide) (Or.inl (by decide)) (Or.inl (by decide)))
    have e3 : vw h 3 (k : Nat) = vw h0 3 (k : Nat) := u 3 _ (by decide) (Or.inl (by decide)) (Or.inl (by decide))
    have e10 : vw h 1 0 = vw h0 1 0 := u 1 0 (by decide) (Or.inl (by decide)) (Or.inl (by decide))
    have hd1 := uf_hd u hd
    have nb := nQ_b (trP (vw h0) tx l y w) k
    have skip : ∀ (h' : aH) (w5 w6 : Int32) (v7 v8 : Option Value), wS h' → IV h' → uf (vw h0) (vw h') → (k : Int) < vw h0 1 1 → ¬ trP (vw h0) tx l y w (k : Nat) → (w5.toInt = nQ (trP (vw h0) tx l y w) k ∨ w5.toInt = w32 (nQ (trP (vw h0) tx l y w) k + 0)) → w6.toInt = w32 ((k : Int) + 1) → Pt n X zM304 58 [some (.ref 72), some (.int x1), some (.int x2), some (.int x3), some (.int x4), some (.int w5), some (.int w6), v7, v8] [] h' (qI (fun r h' => wS h' ∧ r = nQ (trP (vw h0) tx l y w) (vw h0 1 1).toNat ∧ IV h' ∧ uf (vw h0) (vw h'))) := by
      intro h' w5 w6 v7 v8 S' I' u' lt z g5 g6
      replace g6 := w_1 g6 (by omega) (by omega)
      refine ih h' x1 x2 x3 x4 w5 w6 v7 v8 (k + 1) S' I' u' h1 h2 h3 h4 ?_ (by omega) (by omega)
      rw [nQ_f z, Int.add_zero]
      rcases g5 with e | e
      · exact e
      · rw [e, Int.add_zero, w32_id (by omega) (by omega)]
    have take : ∀ (h' : aH) (w5 w6 : Int32) (v7 v8 : Option Value), wS h' → IV h' → uf (vw h0) (vw h') → (k : Int) < vw h0 1 1 → trP (vw h0) tx l y w (k : Nat) → w5.toInt = w32 (nQ (trP (vw h0) tx l y w) k + 1) → w6.toInt = w32 ((k : Int) + 1) → Pt n X zM304 58 [some (.ref 72), some (.int x1), some (.int x2), some (.int x3), some (.int x4), some (.int w5), some (.int w6), v7, v8] [] h' (qI (fun r h' => wS h' ∧ r = nQ (trP (vw h0) tx l y w) (vw h0 1 1).toNat ∧ IV h' ∧ uf (vw h0) (vw h'))) := by
      intro h' w5 w6 v7 v8 S' I' u' lt z g5 g6
      replace g6 := w_1 g6 (by omega) (by omega)
      replace g5 := w_1 g5 (by omega) (by omega)
      refine ih h' x1 x2 x3 x4 w5 w6 v7 v8 (k + 1) S' I' u' h1 h2 h3 h4 ?_ (by omega) (by omega)
      rw [nQ_t z]
      exact g5
    refine d304_58 S h1 h2 h3 h4 h5 h6 ⟨fun ge => ⟨S, ?_, I, u⟩, fun lt => ⟨fun nf w6 v7 v8 g6 => skip h x5 w6 v7 v8 S I u (by omega) (fun z => nf ((farm_j Bdh _).mp ((cFarm_u u _).mpr z.1.1))) (Or.inl h5) g6, fun mf _ _ => ?_⟩⟩
    · rw [show (vw h0 1 1).toNat = k by omega]
    · have cf0 := (cFarm_u u (k : Nat)).mp ((farm_j Bdh _).mpr mf)
      have e74 : vw h 74 (k : Nat) = vw h0 3 (k : Nat) := ((PB_l Bh ((cFarm_u u _).mpr cf0)).2.1).trans e3
      rw [e74]
      refine ⟨fun l0 => ?_, fun nl w6 v7 v8 g6 => skip h x5 w6 v7 v8 S I u (by omega) (fun z => nl z.1.2) (Or.inl h5) g6⟩
      refine ⟨by rw [← hd1]; exact prT_u hp I u cf0 (Or.inl rfl), fun y11 h11 K => ?_⟩
      obtain ⟨S11, ⟨I11, u11⟩, ⟨ev11, -⟩, -⟩ := K
      have u2 := uf_t u u11
      have hd2 := uf_hd u2 hd
      refine ⟨by rw [← hd2]; exact prT_u hp I11 u2 cf0 (Or.inr rfl), fun y14 h14 K => ?_⟩
      obtain ⟨S14, ⟨I14, u14⟩, ⟨ev14, -⟩, -⟩ := K
      have u3 := uf_t u2 u14
      have e11' : vw h11 1 0 = vw h0 1 0 := u2 1 0 (by decide) (Or.inl (by decide)) (Or.inl (by decide))
      rw [← hd1, e10, payF_u u] at ev11
      rw [← hd2, e11', payF_u u2] at ev14
      refine ⟨fun gn => ⟨fun le w5 w6 v7 v8 g5 g6 => skip h14 w5 w6 v7 v8 S14 I14 u3 (by omega) ?_ (Or.inr g5) g6, fun gt w5 w6 v7 v8 g5 g6 => take h14 w5 w6 v7 v8 S14 I14 u3 (by omega) ?_ g5 g6⟩, fun g0 => ⟨fun le w5 w6 v7 v8 g5 g6 => skip h14 w5 w6 v7 v8 S14 I14 u3 (by omega) ?_ (Or.inr g5) g6, fun gt w5 w6 v7 v8 g5 g6 => take h14 w5 w6 v7 v8 S14 I14 u3 (by omega) ?_ g5 g6⟩⟩
      · rintro ⟨-, z | z⟩
        · exact gn z.1
        · rw [← ev11, ← ev14] at z
          omega
      · refine ⟨⟨cf0, l0⟩, Or.inr ⟨gn, ?_⟩⟩
        rw [← ev11, ← ev14]
        exact gt
      · rintro ⟨-, z | z⟩
        · rw [← ev11, ← ev14] at z
          omega
        · exact z.1 g0
      · refine ⟨⟨cf0, l0⟩, Or.inl ⟨g0, ?_⟩⟩
        rw [← ev11, ← ev14]
        exact gt
theorem isR_m {V : vS} (T : JTxt V) (t : Int) : ((0 ≤ t ∧ t ≤ w32 (V 72 55 - 1)) ∧ iRem (V 116 t) 10 = 0) ↔ isR V t := by
  have j := T.2.2.1
  unfold isR
  rw [← j.1]
  constructor
  · rintro ⟨a, b⟩
    have a' := a
    rw [w32_id (by omega) (by omega)] at a'
    exact ⟨a, by rw [(T.2.2.2 t a.1 (by omega)).1]; exact b⟩
  · rintro ⟨a, b⟩
    have a' := a
    rw [w32_id (by omega) (by omega)] at a'
    exact ⟨a, by rw [← (T.2.2.2 t a.1 (by omega)).1]; exact b⟩
theorem c_304w {n : Nat} {X : aX} {h : aH} {x1 x2 x3 x4 : Int32} {a1 a2 a3 a4 : Int} (S : wS h) (z1 : x1.toInt = a1) (z2 : x2.toInt = a2) (z3 : x3.toInt = a3) (z4 : x4.toInt = a4) (I : IV h) (B : PB (vw h)) (d : 0 ≤ vw h 1 0 ∧ vw h 1 0 ≤ 3649) (hd : vw h 1 0 = vw h 72 1) : Pt n X zM304 0 [some (.ref 72), some (.int x1), some (.int x2), some (.int x3), some (.int x4), none, none, none, none] [] h (qI (fun r h' => R185 (vw h) (vw h) a1 a2 a3 a4 r (vw h') ∧ IV h')) := by
  have T := B.2.2.2.2.2.1
  have Bd := B.1.1.2.1
  have bad : ¬ okQ (vw h) a1 a2 a3 a4 → R185 (vw h) (vw h) a1 a2 a3 a4 (-1) (vw h) ∧ IV h := fun z => ⟨Or.inl ⟨z, rfl, rfl⟩, I⟩
  refine pt_d (d304_0 S z1 z2 z3 z4 ⟨fun e => bad (fun z => e ((isR_m T a1).mpr z.1).1), fun e1 _ _ => ⟨fun e => bad (fun z => e ((isR_m T a1).mpr z.1).2), fun e1' => ⟨fun e => bad (fun z => e z.2.1), fun e2 => ⟨fun e => bad (fun z => e z.2.2.1), fun e3 => ⟨fun e4 w5 w6 u7 u8 g5 g6 => ?_, fun e => bad (fun z => e z.2.2.2)⟩⟩⟩⟩⟩)
  have R := (isR_m T a1).mp ⟨e1, e1'⟩
  refine pt_q (l_304 ⟨⟨I, B, R⟩, e3, d⟩ hd e4 n h x1 x2 x3 x4 w5 w6 u7 u8 0 S I (uf_r _) z1 z2 z3 z4 g5 g6 Bd.2.2.2.2.2.1) ?_
  rintro v h' ⟨x, ex, -, k1, k2, k3⟩
  exact ⟨x, ex, Or.inr ⟨⟨R, e2, e3, e4⟩, k1, k3⟩, k2⟩
theorem R185_u {V : vS} {tx l y w r : Int} {W : vS} (c : R185 V V tx l y w r W) : uf V W := by
  rcases c with ⟨-, -, rfl⟩ | ⟨-, -, u⟩
  · exact uf_r _
  · exact u
theorem jx_41 {h h1 h2 : aH} {tx l y w r1 r2 : Int} (c : R185 (vw h) (vw h) tx l y w r1 (vw h1) ∧ IV h1) (k : R185 (vw h1) (vw h1) tx l y w r2 (vw h2) ∧ IV h2) : (JSea (vw h2) ∧ JRk (vw h2)) ∧ r1 = r2 := by
  refine ⟨⟨JSea_IV k.2, rOK_IV k.2⟩, ?_⟩
  have u := R185_u c.1
  have ok : okQ (vw h1) tx l y w ↔ okQ (vw h) tx l y w := by
    unfold okQ
    rw [isR_u u]
  rcases c.1 with ⟨n, rfl, -⟩ | ⟨o, rfl, -⟩
  · rcases k.1 with ⟨-, rfl, -⟩ | ⟨o, -⟩
    · rfl
    · exact absurd (ok.mp o) n
  · rcases k.1 with ⟨n, -⟩ | ⟨-, rfl, -⟩
    · exact absurd (ok.mpr o) n
    · rw [u 1 1 (by decide) (Or.inl (by decide)) (Or.inl (by decide))]
      exact nQ_c _ (fun j _ _ => (trP_u u tx l y w j).symm)
end
section
-- ===== a budget cut =====
theorem nQ_sub {P Q : Int → Prop} : ∀ n : Nat, (∀ j : Int, 0 ≤ j → j < (n : Int) → P j → Q j) → nQ P n ≤ nQ Q n
  | 0, _ => Int.le_refl _
  | n + 1, h => by
    have ih := nQ_sub n (fun j a b => h j a (by omega))
    have k := h (n : Nat) (by omega) (by omega)
    by_cases z : P (n : Nat)
    · rw [nQ_t z, nQ_t (k z)]
      omega
    · rw [nQ_f z]
      by_cases y : Q (n : Nat)
      · rw [nQ_t y]
        omega
      · rw [nQ_f y]
        omega
theorem nQ_sub1 {P Q : Int → Prop} {n : Nat} {f : Int} (h : ∀ j : Int, 0 ≤ j → j < (n : Int) → P j → Q j) (f0 : 0 ≤ f ∧ f < (n : Int)) (q : Q f) (np : ¬ P f) : nQ P n + 1 ≤ nQ Q n := by
  have e := nQ_1 (P := P) (P' := fun j => P j ∨ j = f) (b := f) np (Or.inr rfl) (fun j z => ⟨fun w => w.elim id (fun w => absurd w z), Or.inl⟩) n
  rw [if_pos f0] at e
  have l := nQ_sub (P := fun j => P j ∨ j = f) (Q := Q) n (fun j a b w => w.elim (h j a b) (fun w => by rw [w]; exact q))
  omega
theorem sgm_mul (c : Int) (f : Int → Int) : ∀ n : Nat, sgm (fun b => c * f b) n = c * sgm f n
  | 0 => by show (0 : Int) = c * 0; omega
  | n + 1 => by rw [sgm_s, sgm_s, sgm_mul c f n, Int.mul_add]
theorem sgm_le {f g : Int → Int} : ∀ n : Nat, (∀ j : Int, 0 ≤ j → j < (n : Int) → f j ≤ g j) → sgm f n ≤ sgm g n
  | 0, _ => Int.le_refl _
  | n + 1, h => by
    have ih := sgm_le n (fun j a b => h j a (by omega))
    have k := h (n : Nat) (by omega) (by omega)
    rw [sgm_s, sgm_s]
    omega
theorem sgm_pI (p : Int → Prop) (c : Int) (n : Nat) : sgm (fun b => pI (p b) c) n = c * nQ p n := by
  rw [nQ_sgm, ← sgm_mul]
  refine sgm_c n (fun j _ _ => ?_)
  by_cases z : p j
  · rw [pI_t z, pI_t z, Int.mul_one]
  · rw [pI_f z, pI_f z, Int.mul_zero]
section SHARES
variable {D : Int → Int} {v A : Int} {n : Nat}
abbrev qu (D : Int → Int) (v A : Int) (b : Int) : Int := v * D b / A
abbrev re (D : Int → Int) (v A : Int) (b : Int) : Int := v * D b % A
def ahd (D : Int → Int) (v A f : Int) (c : Int) : Prop := re D v A f < re D v A c ∨ (re D v A c = re D v A f ∧ c < f)
def lfo (D : Int → Int) (v A : Int) (n : Nat) : Int := v - sgm (qu D v A) n
noncomputable def partV (D : Int → Int) (v A : Int) (n : Nat) (f : Int) : Int := qu D v A f + pI (nQ (ahd D v A f) n < lfo D v A n) 1
def dOK (D : Int → Int) (v A : Int) (n : Nat) : Prop := n ≤ 150 ∧ (∀ b, 0 ≤ b → b < (n : Int) → 0 ≤ D b ∧ D b ≤ 2000000000) ∧ A = sgm D n ∧ 0 ≤ v ∧ v ≤ 2000000000 ∧ v < A
theorem d_b (h : dOK D v A n) : 1 ≤ A ∧ A ≤ 300000000000 := by
  obtain ⟨h1, h2, h3, h4, h5, h6⟩ := h
  have b := sgm_b (B := 2000000000) n (fun j x y => h2 j x y)
  omega
theorem sgm_1 {f : Int → Int} : ∀ n : Nat, (∀ j : Int, 0 ≤ j → j < (n : Int) → 0 ≤ f j) → ∀ b, 0 ≤ b → b < (n : Int) → f b ≤ sgm f n
  | 0, _, b, b0, b1 => by omega
  | n + 1, h, b, b0, b1 => by
    have k := h (n : Nat) (by omega) (by omega)
    rw [sgm_s]
    by_cases z : b = (n : Int)
    · rw [z]
      have p : 0 ≤ sgm f n := by
        have l := sgm_le (f := fun _ => 0) (g := f) n (fun j x y => h j x (by omega))
        rw [sgm_z] at l
        exact l
      omega
    · have := sgm_1 n (fun j x y => h j x (by omega)) b b0 (by omega)
      omega
theorem d_q (h : dOK D v A n) {b : Int} (b0 : 0 ≤ b) (b1 : b < (n : Int)) : (0 ≤ v * D b ∧ v * D b ≤ 4000000000000000000) ∧ (0 ≤ qu D v A b ∧ qu D v A b ≤ v) ∧ 0 ≤ re D v A b ∧ re D v A b < A ∧ (D b = 0 → re D v A b = 0) := by
  have a := d_b h
  obtain ⟨h1, h2, h3, h4, h5, h6⟩ := h
  have d := h2 b b0 b1
  have m0 : 0 ≤ v * D b := Int.mul_nonneg h4 d.1
  have m1 : v * D b ≤ v * 2000000000 := Int.mul_le_mul_of_nonneg_left d.2 h4
  have dA : D b ≤ A := by
    rw [h3]
    exact sgm_1 n (fun j x y => (h2 j x y).1) b b0 b1
  have m2 : v * D b ≤ v * A := Int.mul_le_mul_of_nonneg_left dA h4
  refine ⟨⟨m0, by omega⟩, ⟨Int.ediv_nonneg m0 (by omega), ?_⟩, Int.emod_nonneg _ (by omega), Int.emod_lt_of_pos _ (by omega), fun e => ?_⟩
  · have := Int.ediv_le_ediv (c := A) (by omega) m2
    rw [Int.mul_ediv_cancel _ (by omega)] at this
    exact this
  · show v * D b % A = 0
    rw [e, Int.mul_zero, Int.zero_emod]
theorem l_b (h : dOK D v A n) : 0 ≤ lfo D v A n ∧ lfo D v A n ≤ nQ (fun b => 0 < re D v A b) n := by
  have a := d_b h
  have q := fun b x y => d_q (b := b) h x y
  have h3 := h.2.2.1
  have e1 : v * A = sgm (fun b => A * qu D v A b + re D v A b) n := by
    rw [h3, ← sgm_mul]
    refine sgm_c n (fun j _ _ => ?_)
    rw [← h3]
    exact (Int.mul_ediv_add_emod (v * D j) A).symm
  rw [sgm_add, sgm_mul] at e1
  have e2 : sgm (re D v A) n ≤ (A - 1) * nQ (fun b => 0 < re D v A b) n := by
    rw [← sgm_pI]
    refine sgm_le n (fun j x y => ?_)
    have := q j x y
    by_cases z : 0 < re D v A j
    · rw [pI_t (p := 0 < re D v A j) z]
      omega
    · rw [pI_f (p := 0 < re D v A j) z]
      omega
  have e3 : 0 ≤ sgm (re D v A) n := by
    have l := sgm_le (f := fun _ => 0) (g := re D v A) n (fun j x y => (q j x y).2.2.1)
    rw [sgm_z] at l
    exact l
  have eL : A * lfo D v A n = sgm (re D v A) n := by
    unfold lfo
    rw [Int.mul_sub, Int.mul_comm A v]
    omega
  have p0 := (nQ_b (fun b => 0 < re D v A b) n).1
  generalize nQ (fun b => 0 < re D v A b) n = p at e2 p0 ⊢
  generalize lfo D v A n = L at eL ⊢
  rw [Int.sub_mul, Int.one_mul] at e2
  refine ⟨?_, ?_⟩
  · by_cases z : 0 ≤ L
    · exact z
    · exfalso
      have := Int.mul_le_mul_of_nonneg_left (show L ≤ -1 by omega) (show 0 ≤ A by omega)
      rw [Int.mul_neg, Int.mul_one] at this
      omega
  · by_cases z : L ≤ p
    · exact z
    · exfalso
      have := Int.mul_le_mul_of_nonneg_left (show p + 1 ≤ L by omega) (show 0 ≤ A by omega)
      rw [Int.mul_add, Int.mul_one] at this
      omega
-- those who get one more
def Sok (D : Int → Int) (v A : Int) (n : Nat) (S : Int → Prop) (K : Int) : Prop := (∀ b, S b → (0 ≤ b ∧ b < (n : Int)) ∧ D b ≠ 0) ∧ (∀ b c, S b → 0 ≤ c → c < (n : Int) → D c ≠ 0 → ahd D v A b c → S c) ∧ nQ S n = K
theorem S_0 (D : Int → Int) (v A : Int) (n : Nat) : Sok D v A n (fun _ => False) 0 := ⟨fun _ h => h.elim, fun _ _ h => h.elim, nQ_0 (fun _ _ h => h) n⟩
theorem S_i {S : Int → Prop} {K x : Int} (h : Sok D v A n S K) (x0 : 0 ≤ x ∧ x < (n : Int)) (xd : D x ≠ 0) (xs : ¬ S x) (xb : ∀ c, 0 ≤ c → c < (n : Int) → D c ≠ 0 → ¬ S c → ¬ ahd D v A x c) : Sok D v A n (fun b => S b ∨ b = x) (K + 1) := by
  obtain ⟨h1, h2, h3⟩ := h
  refine ⟨fun b w => w.elim (h1 b) (fun e => by rw [e]; exact ⟨x0, xd⟩), fun b c w c0 c1 cd a => ?_, ?_⟩
  · rcases w with w | w
    · exact Or.inl (h2 b c w c0 c1 cd a)
    · rw [w] at a
      by_cases z : S c
      · exact Or.inl z
      · exact absurd a (xb c c0 c1 cd z)
  · have e := nQ_1 (P := S) (P' := fun b => S b ∨ b = x) (b := x) xs (Or.inr rfl) (fun j z => ⟨fun w => w.elim id (fun w => absurd w z), Or.inl⟩) n
    rw [if_pos x0] at e
    omega
theorem S_e {S : Int → Prop} (o : dOK D v A n) (h : Sok D v A n S (lfo D v A n)) {f : Int} (f0 : 0 ≤ f ∧ f < (n : Int)) : S f ↔ nQ (ahd D v A f) n < lfo D v A n := by
  obtain ⟨h1, h2, h3⟩ := h
  have lb := l_b o
  have q := fun b x y => d_q (b := b) o x y
  -- whoever gets one has a rest
  have pos : ∀ b, S b → 0 < re D v A b := fun b sb => by
    have hb := h1 b sb
    by_cases z : 0 < re D v A b
    · exact z
    · exfalso
      have := nQ_sub1 (P := fun c => 0 < re D v A c) (Q := S) (n := n) (f := b) (fun c c0 c1 w => h2 b c sb c0 c1 (fun e => by
        have := (q c c0 c1).2.2.2.2 e
        omega) (Or.inl (by omega))) hb.1 sb z
      omega
  constructor
  · intro sf
    have pf := pos f sf
    have := nQ_sub1 (P := ahd D v A f) (Q := S) (n := n) (f := f) (fun c c0 c1 w => h2 f c sf c0 c1 (fun e => by
      have := (q c c0 c1).2.2.2.2 e
      rcases w with w | w <;> omega) w) f0 sf (fun w => by rcases w with w | w <;> omega)
    omega
  · intro lt
    by_cases sf : S f
    · exact sf
    · exfalso
      have := nQ_sub (P := S) (Q := ahd D v A f) n (fun b b0 b1 sb => by
        have pb := pos b sb
        have qf := q f f0.1 f0.2
        by_cases z : ahd D v A f b
        · exact z
        · exfalso
          have ne : b ≠ f := fun e => sf (by rw [← e]; exact sb)
          by_cases d0 : D f = 0
          · have := qf.2.2.2.2 d0
            exact z (Or.inl (by omega))
          · have a : ahd D v A b f := by
              unfold ahd at z ⊢
              omega
            exact sf (h2 b f sb f0.1 f0.2 d0 a))
      omega
theorem partV_c {D' : Int → Int} (e : ∀ b, 0 ≤ b → b < (n : Int) → D' b = D b) {f : Int} (f0 : 0 ≤ f ∧ f < (n : Int)) : partV D' v A n f = partV D v A n f := by
  have e1 : lfo D' v A n = lfo D v A n := by
    unfold lfo
    rw [sgm_c (g := qu D v A) n (fun j x y => by show v * D' j / A = v * D j / A; rw [e j x y])]
  have e2 : nQ (ahd D' v A f) n = nQ (ahd D v A f) n := nQ_c n (fun j x y => by
    have r1 : re D' v A j = re D v A j := by show v * D' j % A = v * D j % A; rw [e j x y]
    have r2 : re D' v A f = re D v A f := by show v * D' f % A = v * D f % A; rw [e f f0.1 f0.2]
    unfold ahd
    rw [r1, r2])
  unfold partV
  rw [e1, e2]
  show v * D' f / A + _ = _
  rw [e f f0.1 f0.2]
end SHARES

theorem d17_0 {n : Nat} {X : aX} {h : aH} {P : Int → aH → Prop} {x1 : Int32} {x2 x4 : Int64} {a1 a2 a4 : Int} (S : wS h) (z1 : x1.toInt = a1) (z2 : x2.toInt = a2) (z4 : x4.toInt = a4) (H : (0 ≤ a1 → a1 < 150 → (∀ (w6 : Int64) (w10 : Int32) (w11 : Int32) (u12_ : Option Value), w6.toInt = jRem (w64 (a2 * (vw h 47 a1))) a4 → w10.toInt = 0 → w11.toInt = 0 → Pt n X zM17 23 [some (.ref 41), some (.int x1), some (.long x2), none, some (.long x4), none, some (.long w6), none, some (.long x2), none, some (.int w10), some (.int w11), u12_, none] [] h (qI P)))) : Pt (n + 1) X zM17 0 [some (.ref 41), some (.int x1), some (.long x2), none, some (.long x4), none, none, none, none, none, none, none, none, none] [] h (qI P) := by
  refine pt_1 (fun n d => r_lloadn gx17_0 rfl) ?_
  refine pt_d (pt_1 (fun n d => r_aloadn gx17_1 rfl) ?_)
  refine pt_d (pt_getR gx17_2 S tr_41_9 ?_)
  refine pt_d (pt_1 (fun n d => r_iloadn gx17_5 rfl) ?_)
  refine pt_d (pt_iald (N' := 150) gx17_6 S tl_47 z1 (fun v2 p2 q2 h2 => ?_))
  have H := H p2 q2
  refine pt_d (pt_i2l gx17_7 h2 (fun v3 h3 => ?_))
  refine pt_d (pt_lmul gx17_8 z2 h3 (fun v4 h4 => ?_))
  refine pt_d (pt_1 (fun n d => r_lload gx17_9 rfl) ?_)
  refine pt_d (pt_lrem gx17_11 h4 z4 (fun v5 h5 => ?_))
  refine pt_d (pt_1 (fun n d => r_lstore (L' := [some (.ref 41), some (.int x1), some (.long x2), none, some (.long x4), none, some (.long v5), none, none, none, none, none, none, none]) gx17_12 rfl rfl) ?_)
  refine pt_d (pt_1 (fun n d => r_lloadn gx17_14 rfl) ?_)
  refine pt_d (pt_1 (fun n d => r_lstore (L' := [some (.ref 41), some (.int x1), some (.long x2), none, some (.long x4), none, some (.long v5), none, some (.long x2), none, none, none, none, none]) gx17_15 rfl rfl) ?_)
  refine pt_d (pt_iconst gx17_17 (fun v6 h6 => ?_))
  refine pt_d (pt_1 (fun n d => r_istore (L' := [some (.ref 41), some (.int x1), some (.long x2), none, some (.long x4), none, some (.long v5), none, some (.long x2), none, some (.int v6), none, none, none]) gx17_18 rfl rfl) ?_)
  refine pt_d (pt_iconst gx17_20 (fun v7 h7 => ?_))
  refine pt_d (pt_1 (fun n d => r_istore (L' := [some (.ref 41), some (.int x1), some (.long x2), none, some (.long x4), none, some (.long v5), none, some (.long x2), none, some (.int v6), some (.int v7), none, none]) gx17_21 rfl rfl) ?_)
  exact H v5 v6 v7 _ h5 h6 h7
theorem d17_23 {n : Nat} {X : aX} {h : aH} {P : Int → aH → Prop} {x1 x10 x11 : Int32} {x2 x4 x6 x8 : Int64} {a1 a10 a11 a2 a4 a6 a8 : Int} {u12 : Option Value} (S : wS h) (z1 : x1.toInt = a1) (z2 : x2.toInt = a2) (z4 : x4.toInt = a4) (z6 : x6.toInt = a6) (z8 : x8.toInt = a8) (z10 : x10.toInt = a10) (z11 : x11.toInt = a11) (H : ((vw h 1 1 ≤ a11 → (0 ≤ a1 → a1 < 150 → ((a8 ≤ a10 → P (w32 ((w32 (jDiv (w64 (a2 * (vw h 47 a1))) a4)) + 0)) h) ∧ (a10 < a8 → P (w32 ((w32 (jDiv (w64 (a2 * (vw h 47 a1))) a4)) + 1)) h)))) ∧ (a11 < vw h 1 1 → (0 ≤ a11 → a11 < 150 → ((a6 < jRem (w64 (a2 * (vw h 47 a11))) a4 → (∀ (w8 : Int64) (w10 : Int32) (w11 : Int32) (u12_ : Option Value), w8.toInt = w64 (a8 - (jDiv (w64 (a2 * (vw h 47 a11))) a4)) → w10.toInt = w32 (a10 + 1) → w11.toInt = w32 (a11 + 1) → Pt n X zM17 23 [some (.ref 41), some (.int x1), some (.long x2), none, some (.long x4), none, some (.long x6), none, some (.long w8), none, some (.int w10), some (.int w11), u12_, none] [] h (qI P))) ∧ (jRem (w64 (a2 * (vw h 47 a11))) a4 ≤ a6 → ((jRem (w64 (a2 * (vw h 47 a11))) a4 ≠ a6 → (∀ (w8 : Int64) (w10 : Int32) (w11 : Int32) (u12_ : Option Value), w8.toInt = w64 (a8 - (jDiv (w64 (a2 * (vw h 47 a11))) a4)) → w10.toInt = w32 (a10 + 0) → w11.toInt = w32 (a11 + 1) → Pt n X zM17 23 [some (.ref 41), some (.int x1), some (.long x2), none, some (.long x4), none, some (.long x6), none, some (.long w8), none, some (.int w10), some (.int w11), u12_, none] [] h (qI P))) ∧ (jRem (w64 (a2 * (vw h 47 a11))) a4 = a6 → ((a1 ≤ a11 → (∀ (w8 : Int64) (w10 : Int32) (w11 : Int32) (u12_ : Option Value), w8.toInt = w64 (a8 - (jDiv (w64 (a2 * (vw h 47 a11))) a4)) → w10.toInt = w32 (a10 + 0) → w11.toInt = w32 (a11 + 1) → Pt n X zM17 23 [some (.ref 41), some (.int x1), some (.long x2), none, some (.long x4), none, some (.long x6), none, some (.long w8), none, some (.int w10), some (.int w11), u12_, none] [] h (qI P))) ∧ (a11 < a1 → (∀ (w8 : Int64) (w10 : Int32) (w11 : Int32) (u12_ : Option Value), w8.toInt = w64 (a8 - (jDiv (w64 (a2 * (vw h 47 a11))) a4)) → w10.toInt = w32 (a10 + 1) → w11.toInt = w32 (a11 + 1) → Pt n X zM17 23 [some (.ref 41), some (.int x1), some (.long x2), none, some (.long x4), none, some (.long x6), none, some (.long w8), none, some (.int w10), some (.int w11), u12_, none] [] h (qI P)))))))))))) : Pt (n + 1) X zM17 23 [some (.ref 41), some (.int x1), some (.long x2), none, some (.long x4), none, some (.long x6), none, some (.long x8), none, some (.int x10), some (.int x11), u12, none] [] h (qI P) := by
  refine pt_1 (fun n d => r_iload gx17_23 rfl) ?_
  refine pt_d (pt_1 (fun n d => r_aloadn gx17_25 rfl) ?_)
  refine pt_d (pt_getR gx17_26 S tr_41_0 ?_)
  refine pt_d (pt_getI (B := 1) gx17_29 S (fun v2 h2 => ?_))
  refine pt_d (pt_icmp_ge gx17_32 z11 h2 (fun e3 => ?_) (fun e3 => ?_))
  · have H := H.1 e3
    refine pt_d (pt_1 (fun n d => r_lloadn gx17_106 rfl) ?_)
    refine pt_d (pt_1 (fun n d => r_aloadn gx17_107 rfl) ?_)
    refine pt_d (pt_getR gx17_108 S tr_41_9 ?_)
    refine pt_d (pt_1 (fun n d => r_iloadn gx17_111 rfl) ?_)
    refine pt_d (pt_iald (N' := 150) gx17_112 S tl_47 z1 (fun v5 p5 q5 h5 => ?_))
    have H := H p5 q5
    refine pt_d (pt_i2l gx17_113 h5 (fun v6 h6 => ?_))
    refine pt_d (pt_lmul gx17_114 z2 h6 (fun v7 h7 => ?_))
    refine pt_d (pt_1 (fun n d => r_lload gx17_115 rfl) ?_)
    refine pt_d (pt_ldiv gx17_117 h7 z4 (fun v8 h8 => ?_))
    refine pt_d (pt_l2i gx17_118 h8 (fun v9 h9 => ?_))
    refine pt_d (pt_1 (fun n d => r_iload gx17_119 rfl) ?_)
    refine pt_d (pt_i2l gx17_121 z10 (fun v10 h10 => ?_))
    refine pt_d (pt_1 (fun n d => r_lload gx17_122 rfl) ?_)
    refine pt_d (pt_lcmp_ge gx17_124 gx17_125 h10 z8 (fun e11 => ?_) (fun e11 => ?_))
    · have H := H.1 e11
      refine pt_d (pt_iconst gx17_132 (fun v12 h12 => ?_))
      refine pt_d (pt_iadd gx17_133 h9 h12 (fun v13 h13 => ?_))
      exact pt_d (pt_iret gx17_134 ⟨_, rfl, by rw [h13]; exact H⟩)
    · have H := H.2 e11
      refine pt_d (pt_iconst gx17_128 (fun v14 h14 => ?_))
      refine pt_d (pt_1 (fun n d => r_goto gx17_129) ?_)
      refine pt_d (pt_iadd gx17_133 h9 h14 (fun v15 h15 => ?_))
      exact pt_d (pt_iret gx17_134 ⟨_, rfl, by rw [h15]; exact H⟩)
  · have H := H.2 e3
    refine pt_d (pt_1 (fun n d => r_lloadn gx17_35 rfl) ?_)
    refine pt_d (pt_1 (fun n d => r_aloadn gx17_36 rfl) ?_)
    refine pt_d (pt_getR gx17_37 S tr_41_9 ?_)
    refine pt_d (pt_1 (fun n d => r_iload gx17_40 rfl) ?_)
    refine pt_d (pt_iald (N' := 150) gx17_42 S tl_47 z11 (fun v17 p17 q17 h17 => ?_))
    have H := H p17 q17
    refine pt_d (pt_i2l gx17_43 h17 (fun v18 h18 => ?_))
    refine pt_d (pt_lmul gx17_44 z2 h18 (fun v19 h19 => ?_))
    refine pt_d (pt_1 (fun n d => r_lload gx17_45 rfl) ?_)
    refine pt_d (pt_lrem gx17_47 h19 z4 (fun v20 h20 => ?_))
    refine pt_d (pt_1 (fun n d => r_lstore (L' := [some (.ref 41), some (.int x1), some (.long x2), none, some (.long x4), none, some (.long x6), none, some (.long x8), none, some (.int x10), some (.int x11), some (.long v20), none]) gx17_48 rfl rfl) ?_)
    refine pt_d (pt_1 (fun n d => r_lload gx17_50 rfl) ?_)
    refine pt_d (pt_1 (fun n d => r_lloadn gx17_52 rfl) ?_)
    refine pt_d (pt_1 (fun n d => r_aloadn gx17_53 rfl) ?_)
    refine pt_d (pt_getR gx17_54 S tr_41_9 ?_)
    refine pt_d (pt_1 (fun n d => r_iload gx17_57 rfl) ?_)
    refine pt_d (pt_iald (N' := 150) gx17_59 S tl_47 z11 (fun v22 p22 q22 h22 => ?_))
    refine pt_d (pt_i2l gx17_60 h22 (fun v23 h23 => ?_))
    refine pt_d (pt_lmul gx17_61 z2 h23 (fun v24 h24 => ?_))
    refine pt_d (pt_1 (fun n d => r_lload gx17_62 rfl) ?_)
    refine pt_d (pt_ldiv gx17_64 h24 z4 (fun v25 h25 => ?_))
    refine pt_d (pt_lsub gx17_65 z8 h25 (fun v26 h26 => ?_))
    refine pt_d (pt_1 (fun n d => r_lstore (L' := [some (.ref 41), some (.int x1), some (.long x2), none, some (.long x4), none, some (.long x6), none, some (.long v26), none, some (.int x10), some (.int x11), some (.long v20), none]) gx17_66 rfl rfl) ?_)
    refine pt_d (pt_1 (fun n d => r_iload gx17_68 rfl) ?_)
    refine pt_d (pt_1 (fun n d => r_lload gx17_70 rfl) ?_)
    refine pt_d (pt_1 (fun n d => r_lload gx17_72 rfl) ?_)
    refine pt_d (pt_lcmp_gt gx17_74 gx17_75 h20 z6 (fun e27 => ?_) (fun e27 => ?_))
    · have H := H.1 e27
      refine pt_d (pt_iconst gx17_92 (fun v28 h28 => ?_))
      refine pt_d (pt_1 (fun n d => r_goto gx17_93) ?_)
      refine pt_d (pt_iadd gx17_97 z10 h28 (fun v29 h29 => ?_))
      refine pt_d (pt_1 (fun n d => r_istore (L' := [some (.ref 41), some (.int x1), some (.long x2), none, some (.long x4), none, some (.long x6), none, some (.long v26), none, some (.int v29), some (.int x11), some (.long v20), none]) gx17_98 rfl rfl) ?_)
      refine pt_d (pt_iinc (c := 1) gx17_100 rfl z11 (fun v30 h30 => ?_))
      show Pt _ _ _ _ [some (.ref 41), some (.int x1), some (.long x2), none, some (.long x4), none, some (.long x6), none, some (.long v26), none, some (.int v29), some (.int v30), some (.long v20), none] [] _ _
      refine pt_d (pt_1 (fun n d => r_goto gx17_103) ?_)
      exact H v26 v29 v30 _ h26 h29 h30
    · have H := H.2 e27
      refine pt_d (pt_1 (fun n d => r_lload gx17_78 rfl) ?_)
      refine pt_d (pt_1 (fun n d => r_lload gx17_80 rfl) ?_)
      refine pt_d (pt_lcmp_ne gx17_82 gx17_83 h20 z6 (fun e31 => ?_) (fun e31 => ?_))
      · have H := H.1 e31
        refine pt_d (pt_iconst gx17_96 (fun v32 h32 => ?_))
        refine pt_d (pt_iadd gx17_97 z10 h32 (fun v33 h33 => ?_))
        refine pt_d (pt_1 (fun n d => r_istore (L' := [some (.ref 41), some (.int x1), some (.long x2), none, some (.long x4), none, some (.long x6), none, some (.long v26), none, some (.int v33), some (.int x11), some (.long v20), none]) gx17_98 rfl rfl) ?_)
        refine pt_d (pt_iinc (c := 1) gx17_100 rfl z11 (fun v34 h34 => ?_))
        show Pt _ _ _ _ [some (.ref 41), some (.int x1), some (.long x2), none, some (.long x4), none, some (.long x6), none, some (.long v26), none, some (.int v33), some (.int v34), some (.long v20), none] [] _ _
        refine pt_d (pt_1 (fun n d => r_goto gx17_103) ?_)
        exact H v26 v33 v34 _ h26 h33 h34
      · have H := H.2 e31
        refine pt_d (pt_1 (fun n d => r_iload gx17_86 rfl) ?_)
        refine pt_d (pt_1 (fun n d => r_iloadn gx17_88 rfl) ?_)
        refine pt_d (pt_icmp_ge gx17_89 z11 z1 (fun e35 => ?_) (fun e35 => ?_))
        · have H := H.1 e35
          refine pt_d (pt_iconst gx17_96 (fun v36 h36 => ?_))
          refine pt_d (pt_iadd gx17_97 z10 h36 (fun v37 h37 => ?_))
          refine pt_d (pt_1 (fun n d => r_istore (L' := [some (.ref 41), some (.int x1), some (.long x2), none, some (.long x4), none, some (.long x6), none, some (.long v26), none, some (.int v37), some (.int x11), some (.long v20), none]) gx17_98 rfl rfl) ?_)
          refine pt_d (pt_iinc (c := 1) gx17_100 rfl z11 (fun v38 h38 => ?_))
          show Pt _ _ _ _ [some (.ref 41), some (.int x1), some (.long x2), none, some (.long x4), none, some (.long x6), none, some (.long v26), none, some (.int v37), some (.int v38), some (.long v20), none] [] _ _
          refine pt_d (pt_1 (fun n d => r_goto gx17_103) ?_)
          exact H v26 v37 v38 _ h26 h37 h38
        · have H := H.2 e35
          refine pt_d (pt_iconst gx17_92 (fun v39 h39 => ?_))
          refine pt_d (pt_1 (fun n d => r_goto gx17_93) ?_)
          refine pt_d (pt_iadd gx17_97 z10 h39 (fun v40 h40 => ?_))
          refine pt_d (pt_1 (fun n d => r_istore (L' := [some (.ref 41), some (.int x1), some (.long x2), none, some (.long x4), none, some (.long x6), none, some (.long v26), none, some (.int v40), some (.int x11), some (.long v20), none]) gx17_98 rfl rfl) ?_)
          refine pt_d (pt_iinc (c := 1) gx17_100 rfl z11 (fun v41 h41 => ?_))
          show Pt _ _ _ _ [some (.ref 41), some (.int x1), some (.long x2), none, some (.long x4), none, some (.long x6), none, some (.long v26), none, some (.int v40), some (.int v41), some (.long v20), none] [] _ _
          refine pt_d (pt_1 (fun n d => r_goto gx17_103) ?_)
          exact H v26 v40 v41 _ h26 h40 h41
noncomputable def cpF (V : vS) (f v A : Int) : Int := partV (fun b => V 47 b) v A (V 1 1).toNat f
def pr17 (V : vS) (f v A : Int) : Prop := (0 ≤ V 1 1 ∧ dOK (fun b => V 47 b) v A (V 1 1).toNat) ∧ 0 ≤ f ∧ f < V 1 1
theorem jq_e {D : Int → Int} {v A : Int} {n : Nat} (o : dOK D v A n) {b : Int} (b0 : 0 ≤ b) (b1 : b < (n : Int)) : jDiv (w64 (v * D b)) A = qu D v A b ∧ jRem (w64 (v * D b)) A = re D v A b := by
  have a := d_b o
  have q := d_q o b0 b1
  rw [w64_id (by omega) (by omega), jDiv_pos q.1.1 (by omega) a.1 (by omega), jRem_pos q.1.1 (by omega) a.1 (by omega)]
  exact ⟨rfl, rfl⟩
theorem l_17 {X : aX} {h : aH} {x1 : Int32} {x2 x4 x6 : Int64} {f v A : Int} (S : wS h) (hp : pr17 (vw h) f v A) (h1 : x1.toInt = f) (h2 : x2.toInt = v) (h4 : x4.toInt = A) (h6 : x6.toInt = re (fun b => vw h 47 b) v A f) : ∀ (n : Nat) (x8 : Int64) (x10 x11 : Int32) (u12 : Option Value) (k : Nat), x8.toInt = v - sgm (qu (fun b => vw h 47 b) v A) k → x10.toInt = nQ (ahd (fun b => vw h 47 b) v A f) k → x11.toInt = (k : Int) → (k : Int) ≤ vw h 1 1 → Pt n X zM17 23 [some (.ref 41), some (.int x1), some (.long x2), none, some (.long x4), none, some (.long x6), none, some (.long x8), none, some (.int x10), some (.int x11), u12, none] [] h (qI (fun r h' => h' = h ∧ r = cpF (vw h) f v A)) := by
  obtain ⟨⟨n0, o⟩, f0, f1⟩ := hp
  have nn : ((vw h 1 1).toNat : Int) = vw h 1 1 := by omega
  have n150 : (vw h 1 1).toNat ≤ 150 := o.1
  have jq := fun b x y => jq_e (b := b) o x y
  have qf := d_q o f0 (by omega)
  intro n
  induction n with
  | zero => exact fun _ _ _ _ _ _ _ _ _ => pt_z
  | succ n ih =>
    intro x8 x10 x11 u12 k h8 h10 h11 hk
    have ab := nQ_b (ahd (fun b => vw h 47 b) v A f) k
    have sb : ∀ m : Nat, (m : Int) ≤ vw h 1 1 → 0 ≤ sgm (qu (fun b => vw h 47 b) v A) m ∧ sgm (qu (fun b => vw h 47 b) v A) m ≤ 300000000000 := fun m hm => by
      have := sgm_b (f := qu (fun b => vw h 47 b) v A) (B := 2000000000) m (fun j x y => by
        have := d_q o x (show j < ((vw h 1 1).toNat : Int) by omega)
        have := o.2.2.2.2.1
        omega)
      omega
    have step : ∀ (w8 : Int64) (w10 w11 : Int32) (v12 : Option Value), (k : Int) < vw h 1 1 → w8.toInt = w64 (v - sgm (qu (fun b => vw h 47 b) v A) k - qu (fun b => vw h 47 b) v A (k : Nat)) → w10.toInt = nQ (ahd (fun b => vw h 47 b) v A f) (k + 1) → w11.toInt = w32 ((k : Int) + 1) → Pt n X zM17 23 [some (.ref 41), some (.int x1), some (.long x2), none, some (.long x4), none, some (.long x6), none, some (.long w8), none, some (.int w10), some (.int w11), v12, none] [] h (qI (fun r h' => h' = h ∧ r = cpF (vw h) f v A)) := by
      intro w8 w10 w11 v12 lt g8 g10 g11
      replace g11 := w_1 g11 (by omega) (by omega)
      have s1 := sb (k + 1) (by omega)
      rw [sgm_s] at s1
      have vb := o.2.2.2.1
      have vb2 := o.2.2.2.2.1
      rw [w64_id (by omega) (by omega)] at g8
      refine ih w8 w10 w11 v12 (k + 1) ?_ g10 (by omega) (by omega)
      rw [sgm_s, g8]
      omega
    have D := d17_23 (n := n) (X := X) (h := h) (x1 := x1) (x2 := x2) (x4 := x4) (x6 := x6) (x8 := x8) (x10 := x10) (x11 := x11) (u12 := u12) (P := fun r h' => h' = h ∧ r = cpF (vw h) f v A) S h1 h2 h4 h6 h8 h10 h11
    refine D ⟨fun ge _ _ => ?_, fun lt _ _ => ?_⟩
    · have kn : (vw h 1 1).toNat = k := by omega
      have e : cpF (vw h) f v A = qu (fun b => vw h 47 b) v A f + pI (nQ (ahd (fun b => vw h 47 b) v A f) k < v - sgm (qu (fun b => vw h 47 b) v A) k) 1 := by
        unfold cpF partV lfo
        rw [kn]
      have vb2 := o.2.2.2.2.1
      rw [(jq f f0 (by omega)).1, w32_id (z := qu (fun b => vw h 47 b) v A f) (by omega) (by omega)]
      refine ⟨fun ge2 => ⟨rfl, ?_⟩, fun lt2 => ⟨rfl, ?_⟩⟩
      · rw [e, pI_f (by omega), w32_id (by omega) (by omega)]
      · rw [e, pI_t lt2, w32_id (by omega) (by omega)]
    · have jk := jq (k : Nat) (by omega) (by omega)
      rw [jk.1, jk.2]
      refine ⟨fun gt w8 w10 w11 v12 g8 g10 g11 => step w8 w10 w11 v12 (by omega) g8 ?_ g11, fun le => ⟨fun ne w8 w10 w11 v12 g8 g10 g11 => step w8 w10 w11 v12 (by omega) g8 ?_ g11, fun eq => ⟨fun fk w8 w10 w11 v12 g8 g10 g11 => step w8 w10 w11 v12 (by omega) g8 ?_ g11, fun kf w8 w10 w11 v12 g8 g10 g11 => step w8 w10 w11 v12 (by omega) g8 ?_ g11⟩⟩⟩
      · rw [nQ_t (show ahd (fun b => vw h 47 b) v A f (k : Nat) from Or.inl gt)]
        exact w_1 g10 (by omega) (by omega)
      · rw [nQ_f (show ¬ ahd (fun b => vw h 47 b) v A f (k : Nat) from fun w => w.elim (fun w => by omega) (fun w => ne w.1)), g10, w32_id (by omega) (by omega)]
      · rw [nQ_f (show ¬ ahd (fun b => vw h 47 b) v A f (k : Nat) from fun w => w.elim (fun w => by omega) (fun w => by omega)), g10, w32_id (by omega) (by omega)]
      · rw [nQ_t (show ahd (fun b => vw h 47 b) v A f (k : Nat) from Or.inr ⟨eq, kf⟩)]
        exact w_1 g10 (by omega) (by omega)
theorem c_17 {n : Nat} {X : aX} {h : aH} {x1 : Int32} {x2 x4 : Int64} {a1 a2 a4 : Int} (S : wS h) (z1 : x1.toInt = a1) (z2 : x2.toInt = a2) (z4 : x4.toInt = a4) (hp : pr17 (vw h) a1 a2 a4) : Pt n X zM17 0 [some (.ref 41), some (.int x1), some (.long x2), none, some (.long x4), none, none, none, none, none, none, none, none, none] [] h (qI (fun r h' => h' = h ∧ r = cpF (vw h) a1 a2 a4)) := by
  have nn : ((vw h 1 1).toNat : Int) = vw h 1 1 := by have := hp.1.1; omega
  have je := (jq_e hp.1.2 hp.2.1 (by have := hp.2.2; omega)).2
  refine pt_d (d17_0 S z1 z2 z4 (fun _ _ w6 w10 w11 u12 g6 g10 g11 => ?_))
  exact l_17 S hp z1 z2 z4 (g6.trans je) n x2 w10 w11 u12 0 (by rw [z2]; show a2 = a2 - 0; omega) g10 g11 hp.1.1
end
section
-- ===== a budget cut =====
theorem d16_0 {n : Nat} {X : aX} {h : aH} {P : Int → aH → Prop} {x1 x2 x3 : Int32} {a1 a2 a3 : Int} (S : wS h) (z1 : x1.toInt = a1) (z2 : x2.toInt = a2) (z3 : x3.toInt = a3) (H : (0 ≤ a1 → a1 < 150 → (∀ (w4 : Int32) (w5 : Int64) (w7 : Int32), w4.toInt = vw h 3 a1 → w5.toInt = 0 → w7.toInt = 0 → Pt n X zM16 17 [some (.ref 41), some (.int x1), some (.int x2), some (.int x3), some (.int w4), some (.long w5), none, some (.int w7)] [] h (qI P)))) : Pt (n + 1) X zM16 0 [some (.ref 41), some (.int x1), some (.int x2), some (.int x3), none, none, none, none] [] h (qI P) := by
  refine pt_1 (fun n d => r_aloadn gx16_0 rfl) ?_
  refine pt_d (pt_getR gx16_1 S tr_41_0 ?_)
  refine pt_d (pt_getR gx16_4 S tr_1_8 ?_)
  refine pt_d (pt_1 (fun n d => r_iloadn gx16_7 rfl) ?_)
  refine pt_d (pt_iald (N' := 150) gx16_8 S tl_3 z1 (fun v3 p3 q3 h3 => ?_))
  have H := H p3 q3
  refine pt_d (pt_1 (fun n d => r_istore (L' := [some (.ref 41), some (.int x1), some (.int x2), some (.int x3), some (.int v3), none, none, none]) gx16_9 rfl rfl) ?_)
  refine pt_d (pt_lconst (c := 0) gx16_11 rfl (fun v4 h4 => ?_))
  refine pt_d (pt_1 (fun n d => r_lstore (L' := [some (.ref 41), some (.int x1), some (.int x2), some (.int x3), some (.int v3), some (.long v4), none, none]) gx16_12 rfl rfl) ?_)
  refine pt_d (pt_iconst gx16_14 (fun v5 h5 => ?_))
  refine pt_d (pt_1 (fun n d => r_istore (L' := [some (.ref 41), some (.int x1), some (.int x2), some (.int x3), some (.int v3), some (.long v4), none, some (.int v5)]) gx16_15 rfl rfl) ?_)
  exact H v3 v4 v5 h3 h4 h5
theorem d16_17 {n : Nat} {X : aX} {h : aH} {P : Int → aH → Prop} {x1 x2 x3 x4 x7 : Int32} {x5 : Int64} {a1 a2 a3 a4 a7 a5 : Int} (S : wS h) (z1 : x1.toInt = a1) (z2 : x2.toInt = a2) (z3 : x3.toInt = a3) (z4 : x4.toInt = a4) (z5 : x5.toInt = a5) (z7 : x7.toInt = a7) (H : ((vw h 1 1 ≤ a7 → ((a5 ≤ a3 → (0 ≤ a1 → a1 < 150 → P (vw h 47 a1) h)) ∧ (a3 < a5 → ((0 < a5 → ((pr17 (vw h) a1 a3 a5) ∧ P (cpF (vw h) a1 a3 a5) h)) ∧ (a5 ≤ 0 → (0 ≤ a1 → a1 < 150 → P (vw h 47 a1) h)))))) ∧ (a7 < vw h 1 1 → ((¬ (cFarm (vw h) a7 ∧ (vw h) 3 a7 = a4) → (0 ≤ a7 → a7 < 150 → ∀ h_19 : aH, wS h_19 → vw h_19 = up (vw h) 47 a7 0 → hk h h_19 → (∀ (w5 : Int64) (w7 : Int32), w5.toInt = w64 (a5 + 0) → w7.toInt = w32 (a7 + 1) → Pt n X zM16 17 [some (.ref 41), some (.int x1), some (.int x2), some (.int x3), some (.int x4), some (.long w5), none, some (.int w7)] [] h_19 (qI P)))) ∧ ((cFarm (vw h) a7 ∧ (vw h) 3 a7 = a4) → ((pr8p h a7 a2 (vw h 1 0) (-1)) ∧ ∀ (y28 : Int) (h_28 : aH), (RP8 h a7 a2 (vw h 1 0) (-1) y28 h_28) → (0 ≤ a7 → a7 < 150 → ∀ h_29 : aH, wS h_29 → vw h_29 = up (vw h_28) 47 a7 y28 → hk h_28 h_29 → (∀ (w5 : Int64) (w7 : Int32), w5.toInt = w64 (a5 + y28) → w7.toInt = w32 (a7 + 1) → Pt n X zM16 17 [some (.ref 41), some (.int x1), some (.int x2), some (.int x3), some (.int x4), some (.long w5), none, some (.int w7)] [] h_29 (qI P))))))))) : Pt (n + 1) X zM16 17 [some (.ref 41), some (.int x1), some (.int x2), some (.int x3), some (.int x4), some (.long x5), none, some (.int x7)] [] h (qI P) := by
  refine pt_1 (fun n d => r_iload gx16_17 rfl) ?_
  refine pt_d (pt_1 (fun n d => r_aloadn gx16_19 rfl) ?_)
  refine pt_d (pt_getR gx16_20 S tr_41_0 ?_)
  refine pt_d (pt_getI (B := 1) gx16_23 S (fun v2 h2 => ?_))
  refine pt_d (pt_icmp_ge gx16_26 z7 h2 (fun e3 => ?_) (fun e3 => ?_))
  · have H := H.1 e3
    refine pt_d (pt_1 (fun n d => r_lload gx16_88 rfl) ?_)
    refine pt_d (pt_1 (fun n d => r_iloadn gx16_90 rfl) ?_)
    refine pt_d (pt_i2l gx16_91 z3 (fun v4 h4 => ?_))
    refine pt_d (pt_lcmp_le gx16_92 gx16_93 z5 h4 (fun e5 => ?_) (fun e5 => ?_))
    · have H := H.1 e5
      refine pt_d (pt_1 (fun n d => r_aloadn gx16_103 rfl) ?_)
      refine pt_d (pt_getR gx16_104 S tr_41_9 ?_)
      refine pt_d (pt_1 (fun n d => r_iloadn gx16_107 rfl) ?_)
      refine pt_d (pt_iald (N' := 150) gx16_108 S tl_47 z1 (fun v7 p7 q7 h7 => ?_))
      have H := H p7 q7
      exact pt_d (pt_iret gx16_109 ⟨_, rfl, by rw [h7]; exact H⟩)
    · have H := H.2 e5
      refine pt_d (pt_1 (fun n d => r_lload gx16_96 rfl) ?_)
      refine pt_d (pt_lconst (c := 0) gx16_98 rfl (fun v8 h8 => ?_))
      refine pt_d (pt_lcmp_gt gx16_99 gx16_100 z5 h8 (fun e9 => ?_) (fun e9 => ?_))
      · have H := H.1 e9
        refine pt_d (pt_1 (fun n d => r_aloadn gx16_110 rfl) ?_)
        refine pt_d (pt_1 (fun n d => r_iloadn gx16_111 rfl) ?_)
        refine pt_d (pt_1 (fun n d => r_iloadn gx16_112 rfl) ?_)
        refine pt_d (pt_i2l gx16_113 z3 (fun v10 h10 => ?_))
        refine pt_d (pt_1 (fun n d => r_lload gx16_114 rfl) ?_)
        obtain ⟨pr11, H⟩ := H
        refine pt_d (pt_virt (as := [.int x1, .long v10, .long x5]) (r := []) gx16_116 rfl (show zmt[17]? = some zM17 from rfl) rfl rfl rfl rfl (c_17 S z1 h10 z5 pr11) (kqP (fun v11 h11 => ?_)))
        show Pt _ _ _ 119 _ [.int v11] _ _
        exact pt_d (pt_iret gx16_119 ⟨_, rfl, by rw [h11]; exact H⟩)
      · have H := H.2 e9
        refine pt_d (pt_1 (fun n d => r_aloadn gx16_103 rfl) ?_)
        refine pt_d (pt_getR gx16_104 S tr_41_9 ?_)
        refine pt_d (pt_1 (fun n d => r_iloadn gx16_107 rfl) ?_)
        refine pt_d (pt_iald (N' := 150) gx16_108 S tl_47 z1 (fun v13 p13 q13 h13 => ?_))
        have H := H p13 q13
        exact pt_d (pt_iret gx16_109 ⟨_, rfl, by rw [h13]; exact H⟩)
  · have H := H.2 e3
    refine pt_d (pt_1 (fun n d => r_aloadn gx16_29 rfl) ?_)
    refine pt_d (pt_getR gx16_30 S tr_41_9 ?_)
    refine pt_d (pt_1 (fun n d => r_iload gx16_33 rfl) ?_)
    refine pt_d (pt_1 (fun n d => r_aloadn gx16_35 rfl) ?_)
    refine pt_d (pt_getR gx16_36 S tr_41_0 ?_)
    refine pt_d (pt_1 (fun n d => r_iload gx16_39 rfl) ?_)
    refine pt_d (pt_1 (fun n d => r_iload gx16_41 rfl) ?_)
    refine pt_d (pt_virt (as := [.int x7, .int x4]) (r := [.int x7, .ref 47]) gx16_43 rfl (show zmt[76]? = some zM76 from rfl) rfl rfl rfl rfl (c_76 S z7 z4) (kqP (fun v16 h16 => ?_)))
    show Pt _ _ _ 46 _ [.int v16, .int x7, .ref 47] _ _
    refine pt_d (pt_ifB_eq gx16_46 h16 (fun e17 => ?_) (fun e17 => ?_))
    · have H := H.1 e17
      refine pt_d (pt_iconst gx16_67 (fun v18 h18 => ?_))
      refine pt_d (pt_iasth (N' := 150) gx16_68 S tl_47 z7 h18 (fun h_19 S19 p19 q19 e19 K19 => ?_))
      have H := H p19 q19
      refine pt_d (pt_1 (fun n d => r_lload gx16_69 rfl) ?_)
      refine pt_d (pt_1 (fun n d => r_aloadn gx16_71 rfl) ?_)
      refine pt_d (pt_getR gx16_72 S19 tr_41_9 ?_)
      refine pt_d (pt_1 (fun n d => r_iload gx16_75 rfl) ?_)
      refine pt_d (pt_iald (N' := 150) gx16_77 S19 tl_47 z7 (fun v21 p21 q21 h21 => ?_))
      have h21 : v21.toInt = 0 := by rw [h21, e19, up_s]
      refine pt_d (pt_i2l gx16_78 h21 (fun v22 h22 => ?_))
      refine pt_d (pt_ladd gx16_79 z5 h22 (fun v23 h23 => ?_))
      refine pt_d (pt_1 (fun n d => r_lstore (L' := [some (.ref 41), some (.int x1), some (.int x2), some (.int x3), some (.int x4), some (.long v23), none, some (.int x7)]) gx16_80 rfl rfl) ?_)
      refine pt_d (pt_iinc (c := 1) gx16_82 rfl z7 (fun v24 h24 => ?_))
      show Pt _ _ _ _ [some (.ref 41), some (.int x1), some (.int x2), some (.int x3), some (.int x4), some (.long v23), none, some (.int v24)] [] _ _
      refine pt_d (pt_1 (fun n d => r_goto gx16_85) ?_)
      have H := H h_19 S19 (by rw [e19]) K19
      exact H v23 v24 h23 h24
    · have H := H.2 e17
      refine pt_d (pt_1 (fun n d => r_aloadn gx16_49 rfl) ?_)
      refine pt_d (pt_1 (fun n d => r_iload gx16_50 rfl) ?_)
      refine pt_d (pt_1 (fun n d => r_iloadn gx16_52 rfl) ?_)
      refine pt_d (pt_1 (fun n d => r_aloadn gx16_53 rfl) ?_)
      refine pt_d (pt_getR gx16_54 S tr_41_0 ?_)
      refine pt_d (pt_getI (B := 0) gx16_57 S (fun v26 h26 => ?_))
      refine pt_d (pt_iconst gx16_60 (fun v27 h27 => ?_))
      obtain ⟨pr28, H⟩ := H
      refine pt_d (pt_virt (as := [.int x7, .int x2, .int v26, .int v27]) (r := [.int x7, .ref 47]) gx16_61 rfl (show zmt[8]? = some zM8 from rfl) rfl rfl rfl rfl (c_8p S z7 z2 h26 h27 pr28) (kqI (fun v28 y28 h_28 h28 P28 => ?_)))
      have S28 := P28.1
      have H := H y28 h_28 P28
      show Pt _ _ _ 64 _ [.int v28, .int x7, .ref 47] _ _
      refine pt_d (pt_1 (fun n d => r_goto gx16_64) ?_)
      refine pt_d (pt_iasth (N' := 150) gx16_68 S28 tl_47 z7 h28 (fun h_29 S29 p29 q29 e29 K29 => ?_))
      have H := H p29 q29
      refine pt_d (pt_1 (fun n d => r_lload gx16_69 rfl) ?_)
      refine pt_d (pt_1 (fun n d => r_aloadn gx16_71 rfl) ?_)
      refine pt_d (pt_getR gx16_72 S29 tr_41_9 ?_)
      refine pt_d (pt_1 (fun n d => r_iload gx16_75 rfl) ?_)
      refine pt_d (pt_iald (N' := 150) gx16_77 S29 tl_47 z7 (fun v31 p31 q31 h31 => ?_))
      have h31 : v31.toInt = y28 := by rw [h31, e29, up_s]
      refine pt_d (pt_i2l gx16_78 h31 (fun v32 h32 => ?_))
      refine pt_d (pt_ladd gx16_79 z5 h32 (fun v33 h33 => ?_))
      refine pt_d (pt_1 (fun n d => r_lstore (L' := [some (.ref 41), some (.int x1), some (.int x2), some (.int x3), some (.int x4), some (.long v33), none, some (.int x7)]) gx16_80 rfl rfl) ?_)
      refine pt_d (pt_iinc (c := 1) gx16_82 rfl z7 (fun v34 h34 => ?_))
      show Pt _ _ _ _ [some (.ref 41), some (.int x1), some (.int x2), some (.int x3), some (.int x4), some (.long v33), none, some (.int v34)] [] _ _
      refine pt_d (pt_1 (fun n d => r_goto gx16_85) ?_)
      have H := H h_29 S29 (by rw [e29]) K29
      exact H v33 v34 h33 h34
noncomputable def dueF (V : vS) (l y b : Int) : Int := pI (cFarm V b ∧ V 3 b = l) (payF V b y (V 1 0) (-1))
theorem dueF_b (V : vS) (l y b : Int) : 0 ≤ dueF V l y b ∧ dueF V l y b ≤ 2000000000 := pI_b (payF_b V b y (V 1 0) (-1))
theorem dueF_u {V W : vS} (u : uf V W) (l y b : Int) : dueF W l y b = dueF V l y b := by
  unfold dueF
  rw [payF_u u, u 1 0 (by decide) (Or.inl (by decide)) (Or.inl (by decide)), u 3 b (by decide) (Or.inl (by decide)) (Or.inl (by decide))]
  exact pI_c (and_congr_left (fun _ => cFarm_u u b)) (fun _ => rfl)
noncomputable def allF (V : vS) (l y : Int) : Int := sgm (dueF V l y) (V 1 1).toNat
noncomputable def shF (V : vS) (f y v : Int) : Int := @ite Int (allF V (V 3 f) y ≤ v) (Classical.propDecidable _) (dueF V (V 3 f) y f) (partV (dueF V (V 3 f) y) v (allF V (V 3 f) y) (V 1 1).toNat f)
theorem shF_u {V W : vS} (u : uf V W) (f y v : Int) : shF W f y v = shF V f y v := by
  have e3 : W 3 f = V 3 f := u 3 f (by decide) (Or.inl (by decide)) (Or.inl (by decide))
  have e11 : W 1 1 = V 1 1 := u 1 1 (by decide) (Or.inl (by decide)) (Or.inl (by decide))
  have eD : dueF W (V 3 f) y = dueF V (V 3 f) y := funext (dueF_u u (V 3 f) y)
  unfold shF allF
  rw [e3, e11, eD]
theorem shF_1 {V : vS} {f y v : Int} (h : allF V (V 3 f) y ≤ v) : shF V f y v = dueF V (V 3 f) y f := if_pos h
theorem shF_2 {V : vS} {f y v : Int} (h : ¬ allF V (V 3 f) y ≤ v) : shF V f y v = partV (dueF V (V 3 f) y) v (allF V (V 3 f) y) (V 1 1).toNat f := if_neg h
def pr16 (h : aH) (f y v : Int) : Prop := (IV h ∧ PB (vw h) ∧ cFarm (vw h) f) ∧ (0 ≤ y ∧ y ≤ 9) ∧ (0 ≤ v ∧ v ≤ 2000000000) ∧ 0 ≤ vw h 1 0 ∧ vw h 1 0 ≤ 3649
def R16 (h : aH) (f y v r : Int) (h' : aH) : Prop := wS h' ∧ r = shF (vw h) f y v ∧ IV h' ∧ uf (vw h) (vw h')
theorem p16_f {h : aH} {f y v : Int} (hp : pr16 h f y v) : 0 ≤ f ∧ f < vw h 1 1 := by
  have Bd := hp.1.2.1.1.1.2.1
  have h1 := hp.1.2.2.1
  unfold cBody at h1
  rw [w32_id (by have := Bd.2.2.2.2.2.1; omega) (by have := Bd.2.2.2.2.2.2.1; omega)] at h1
  omega
theorem p16_d {h : aH} {f y v : Int} (hp : pr16 h f y v) (lt : ¬ allF (vw h) (vw h 3 f) y ≤ v) : dOK (dueF (vw h) (vw h 3 f) y) v (allF (vw h) (vw h 3 f) y) (vw h 1 1).toNat := by
  have Bd := hp.1.2.1.1.1.2.1
  have n0 := Bd.2.2.2.2.2.1
  have n1 := Bd.2.2.2.2.2.2.1
  exact ⟨by omega, fun b _ _ => dueF_b _ _ _ b, rfl, hp.2.2.1.1, hp.2.2.1.2, by omega⟩
theorem p16_u {h0 h : aH} {f y v k : Int} (hp : pr16 h0 f y v) (I : IV h) (u : uf (vw h0) (vw h)) (cf : cFarm (vw h) k) : pr8p h k y (vw h 1 0) (-1) := by
  obtain ⟨⟨-, B, -⟩, hy, -, d⟩ := hp
  exact ⟨I, PB_u u B, cf, hy, by rw [u 1 0 (by decide) (Or.inl (by decide)) (Or.inl (by decide))]; exact d, Or.inl rfl⟩
theorem l_16 {X : aX} {h0 : aH} {f y v : Int} (hp : pr16 h0 f y v) : ∀ (n : Nat) (h : aH) (x1 x2 x3 x4 x7 : Int32) (x5 : Int64) (k : Nat), wS h → IV h → uf (vw h0) (vw h) → x1.toInt = f → x2.toInt = y → x3.toInt = v → x4.toInt = vw h0 3 f → x5.toInt = sgm (dueF (vw h0) (vw h0 3 f) y) k → x7.toInt = (k : Int) → (k : Int) ≤ vw h0 1 1 → (∀ b, 0 ≤ b → b < (k : Int) → vw h 47 b = dueF (vw h0) (vw h0 3 f) y b) → Pt n X zM16 17 [some (.ref 41), some (.int x1), some (.int x2), some (.int x3), some (.int x4), some (.long x5), none, some (.int x7)] [] h (qI (fun r h' => wS h' ∧ r = shF (vw h0) f y v ∧ uf (vw h0) (vw h'))) := by
  have Bd := hp.1.2.1.1.1.2.1
  have n0 := Bd.2.2.2.2.2.1
  have n1 := Bd.2.2.2.2.2.2.1
  have fr := p16_f hp
  intro n
  induction n with
  | zero => exact fun _ _ _ _ _ _ _ _ _ _ _ _ _ _ _ _ _ _ _ => pt_z
  | succ n ih =>
    intro h x1 x2 x3 x4 x7 x5 k S I u h1 h2 h3 h4 h5 h7 hk F
    have e11 : vw h 1 1 = vw h0 1 1 := u 1 1 (by decide) (Or.inl (by decide)) (Or.inl (by decide))
    have e10 : vw h 1 0 = vw h0 1 0 := u 1 0 (by decide) (Or.inl (by decide)) (Or.inl (by decide))
    have sb : ∀ m : Nat, (m : Int) ≤ vw h0 1 1 → 0 ≤ sgm (dueF (vw h0) (vw h0 3 f) y) m ∧ sgm (dueF (vw h0) (vw h0 3 f) y) m ≤ 300000000000 := fun m hm => by
      have := sgm_b (f := dueF (vw h0) (vw h0 3 f) y) (B := 2000000000) m (fun j _ _ => dueF_b _ _ _ j)
      omega
    have step : ∀ (g : aH) (w5 : Int64) (w7 : Int32) (d : Int), wS g → IV g → uf (vw h0) (vw g) → (∀ b, vw g 47 b = if b = (k : Int) then d else vw h 47 b) → (k : Int) < vw h0 1 1 → d = dueF (vw h0) (vw h0 3 f) y (k : Nat) → w5.toInt = w64 (sgm (dueF (vw h0) (vw h0 3 f) y) k + d) → w7.toInt = w32 ((k : Int) + 1) → Pt n X zM16 17 [some (.ref 41), some (.int x1), some (.int x2), some (.int x3), some (.int x4), some (.long w5), none, some (.int w7)] [] g (qI (fun r h' => wS h' ∧ r = shF (vw h0) f y v ∧ uf (vw h0) (vw h'))) := by
      intro g w5 w7 d Sg Ig ug e47 lt ed g5 g7
      replace g7 := w_1 g7 (by omega) (by omega)
      have s1 := sb (k + 1) (by omega)
      have eS : sgm (dueF (vw h0) (vw h0 3 f) y) (k + 1) = sgm (dueF (vw h0) (vw h0 3 f) y) k + d := by rw [sgm_s, ed]
      rw [eS] at s1
      rw [w64_id (by omega) (by omega), ← eS] at g5
      refine ih g x1 x2 x3 x4 w7 w5 (k + 1) Sg Ig ug h1 h2 h3 h4 g5 (by omega) (by omega) (fun b b0 b1 => ?_)
      rw [e47]
      by_cases z : b = (k : Int)
      · rw [if_pos z, ed, z]
      · rw [if_neg z]
        exact F b b0 (by omega)
    refine d16_17 S h1 h2 h3 h4 h5 h7 ⟨fun ge => ?_, fun lt => ⟨fun nf _ _ g Sg eg Kg w5 w7 g5 g7 => ?_, fun cf => ?_⟩⟩
    · have kn : (vw h0 1 1).toNat = k := by omega
      have eA : allF (vw h0) (vw h0 3 f) y = sgm (dueF (vw h0) (vw h0 3 f) y) k := by
        unfold allF
        rw [kn]
      have ef : vw h 47 f = dueF (vw h0) (vw h0 3 f) y f := F f fr.1 (by omega)
      refine ⟨fun le _ _ => ⟨S, ?_, u⟩, fun gt => ⟨fun pos => ⟨?_, ⟨S, ?_, u⟩⟩, fun le _ _ => ?_⟩⟩
      · rw [shF_1 (by rw [eA]; exact le)]
        exact ef
      · have o := p16_d hp (by rw [eA]; omega)
        rw [eA, kn] at o
        refine ⟨⟨by omega, ?_⟩, by omega, by omega⟩
        rw [e11, kn]
        obtain ⟨o1, o2, o3, o4⟩ := o
        exact ⟨o1, fun b b0 b1 => by show 0 ≤ vw h 47 b ∧ vw h 47 b ≤ 2000000000; rw [F b b0 b1]; exact o2 b b0 b1, o3.trans (sgm_c k (fun j a b => (F j a b).symm)), o4⟩
      · rw [shF_2 (by rw [eA]; omega), eA]
        unfold cpF
        rw [e11, kn]
        exact partV_c (D := dueF (vw h0) (vw h0 3 f) y) F ⟨fr.1, by omega⟩
      · have := hp.2.2.1
        omega
    · have ug : uf (vw h0) (vw g) := uf_t u (fun c j u1 _ _ => by rw [eg, up_c (by omega)])
      refine step g w5 w7 0 Sg ?_ ug (fun b => by rw [eg, up_p]) (by omega) ?_ g5 g7
      · exact IV_ua I Kg eg (by decide)
      · unfold dueF
        rw [pI_f (fun z => nf ⟨(cFarm_u u _).mpr z.1, by rw [u 3 _ (by decide) (Or.inl (by decide)) (Or.inl (by decide))]; exact z.2⟩)]
    · refine ⟨p16_u hp I u cf.1, fun y28 h28 K _ _ h29 S29 e29 K29 w5 w7 g5 g7 => ?_⟩
      obtain ⟨S28, ⟨I28, u28⟩, ⟨ev, -⟩, fr28⟩ := K
      have u2 := uf_t u u28
      have u3 : uf (vw h0) (vw h29) := uf_t u2 (fun c j u1 _ _ => by rw [e29, up_c (by omega)])
      refine step h29 w5 w7 y28 S29 (IV_ua I28 K29 e29 (by decide)) u3 (fun b => by rw [e29, up_p, fr28 47 b (by decide) (by decide) (by decide) (by decide) (Or.inl (by decide)) (by decide) (Or.inl (by decide))]) (by omega) ?_ g5 g7
      unfold dueF
      rw [pI_t ⟨(cFarm_u u _).mp cf.1, by rw [← u 3 _ (by decide) (Or.inl (by decide)) (Or.inl (by decide))]; exact cf.2⟩, ev, payF_u u, e10]

theorem c_16 {n : Nat} {X : aX} {h : aH} {x1 x2 x3 : Int32} {a1 a2 a3 : Int} (S : wS h) (z1 : x1.toInt = a1) (z2 : x2.toInt = a2) (z3 : x3.toInt = a3) (hp : pr16 h a1 a2 a3) : Pt n X zM16 0 [some (.ref 41), some (.int x1), some (.int x2), some (.int x3), none, none, none, none] [] h (qI (fun r h' => R16 h a1 a2 a3 r h')) := by
  refine pt_q (pt_and (wk_16 S z1 z2 z3 hp.1.1) (show Pt n X zM16 0 [some (.ref 41), some (.int x1), some (.int x2), some (.int x3), none, none, none, none] [] h (qI (fun r h' => wS h' ∧ r = shF (vw h) a1 a2 a3 ∧ uf (vw h) (vw h'))) from ?_)) ?_
  · exact pt_d (d16_0 S z1 z2 z3 (fun _ _ w4 w5 w7 g4 g5 g7 => l_16 hp n h x1 x2 x3 w4 w7 w5 0 S hp.1.1 (uf_r _) z1 z2 z3 g4 g5 g7 hp.1.2.1.1.1.2.1.2.2.2.2.2.1 (fun b b0 b1 => by omega)))
  · rintro v h' ⟨⟨x, rfl, p1, -, p3⟩, ⟨x', ev, p4, p5, p6⟩⟩
    exact ⟨x', ev, p4, p5, p3, p6⟩

theorem d174_0 {n : Nat} {X : aX} {h : aH} {P : Int → aH → Prop} {x1 x2 x3 : Int32} {a1 a2 a3 : Int} (S : wS h) (z1 : x1.toInt = a1) (z2 : x2.toInt = a2) (z3 : x3.toInt = a3) (H : ((¬ (cFarm (vw h) a1) → P (-1) h) ∧ ((cFarm (vw h) a1) → ((¬ (0 ≤ a2 ∧ a2 ≤ 9) → P (-1) h) ∧ ((0 ≤ a2 ∧ a2 ≤ 9) → (((0 ≤ a3 ∧ a3 ≤ 2000000000) → ((pr16 h a1 a2 a3) ∧ ∀ (y13 : Int) (h_13 : aH), (R16 h a1 a2 a3 y13 h_13) → P y13 h_13)) ∧ (¬ (0 ≤ a3 ∧ a3 ≤ 2000000000) → P (-1) h))))))) : Pt (n + 1) X zM174 0 [some (.ref 0), some (.int x1), some (.int x2), some (.int x3)] [] h (qI P) := by
  refine pt_1 (fun n d => r_aloadn gx174_0 rfl) ?_
  refine pt_d (pt_getR gx174_1 S tr_0_0 ?_)
  refine pt_d (pt_1 (fun n d => r_iloadn gx174_4 rfl) ?_)
  refine pt_d (pt_virt (as := [.int x1]) (r := []) gx174_5 rfl (show zmt[75]? = some zM75 from rfl) rfl rfl rfl rfl (c_75 S z1) (kqP (fun v2 h2 => ?_)))
  show Pt _ _ _ 8 _ [.int v2] _ _
  refine pt_d (pt_ifB_eq gx174_8 h2 (fun e3 => ?_) (fun e3 => ?_))
  · have H := H.1 e3
    refine pt_d (pt_iconst gx174_29 (fun v4 h4 => ?_))
    exact pt_d (pt_iret gx174_30 ⟨_, rfl, by rw [h4]; exact H⟩)
  · have H := H.2 e3
    refine pt_d (pt_1 (fun n d => r_iloadn gx174_11 rfl) ?_)
    refine pt_d (pt_stat (as := [.int x2]) (r := []) gx174_12 rfl (show zmt[139]? = some zM139 from rfl) rfl rfl rfl rfl (c_139 S z2) (kqP (fun v5 h5 => ?_)))
    show Pt _ _ _ 15 _ [.int v5] _ _
    refine pt_d (pt_ifB_eq gx174_15 h5 (fun e6 => ?_) (fun e6 => ?_))
    · have H := H.1 e6
      refine pt_d (pt_iconst gx174_29 (fun v7 h7 => ?_))
      exact pt_d (pt_iret gx174_30 ⟨_, rfl, by rw [h7]; exact H⟩)
    · have H := H.2 e6
      refine pt_d (pt_1 (fun n d => r_iloadn gx174_18 rfl) ?_)
      refine pt_d (pt_iconst gx174_19 (fun v8 h8 => ?_))
      refine pt_d (pt_ldc_w (c := 2000000000) gx174_20 rfl (fun v9 h9 => ?_))
      refine pt_d (pt_stat (as := [.int x3, .int v8, .int v9]) (r := []) gx174_23 rfl (show zmt[137]? = some zM137 from rfl) rfl rfl rfl rfl (c_137 S z3 h8 h9) (kqP (fun v10 h10 => ?_)))
      show Pt _ _ _ 26 _ [.int v10] _ _
      refine pt_d (pt_ifB_ne gx174_26 h10 (fun e11 => ?_) (fun e11 => ?_))
      · have H := H.1 e11
        refine pt_d (pt_1 (fun n d => r_aloadn gx174_31 rfl) ?_)
        refine pt_d (pt_getR gx174_32 S tr_0_4 ?_)
        refine pt_d (pt_1 (fun n d => r_iloadn gx174_35 rfl) ?_)
        refine pt_d (pt_1 (fun n d => r_iloadn gx174_36 rfl) ?_)
        refine pt_d (pt_1 (fun n d => r_iloadn gx174_37 rfl) ?_)
        obtain ⟨pr13, H⟩ := H
        refine pt_d (pt_virt (as := [.int x1, .int x2, .int x3]) (r := []) gx174_38 rfl (show zmt[16]? = some zM16 from rfl) rfl rfl rfl rfl (c_16 S z1 z2 z3 pr13) (kqI (fun v13 y13 h_13 h13 P13 => ?_)))
        have S13 := P13.1
        have H := H y13 h_13 P13
        show Pt _ _ _ 41 _ [.int v13] _ _
        exact pt_d (pt_iret gx174_41 ⟨_, rfl, by rw [h13]; exact H⟩)
      · have H := H.2 e11
        refine pt_d (pt_iconst gx174_29 (fun v14 h14 => ?_))
        exact pt_d (pt_iret gx174_30 ⟨_, rfl, by rw [h14]; exact H⟩)
def okB (V : vS) (f y v : Int) : Prop := cFarm V f ∧ (0 ≤ y ∧ y ≤ 9) ∧ 0 ≤ v ∧ v ≤ 2000000000
def R174 (V V' : vS) (f y v r : Int) (W : vS) : Prop := (¬ okB V f y v ∧ r = -1 ∧ W = V') ∨ (okB V f y v ∧ r = shF V f y v ∧ uf V W)
theorem c_174w {n : Nat} {X : aX} {h : aH} {x1 x2 x3 : Int32} {a1 a2 a3 : Int} (S : wS h) (z1 : x1.toInt = a1) (z2 : x2.toInt = a2) (z3 : x3.toInt = a3) (I : IV h) (B : PB (vw h)) (d : 0 ≤ vw h 1 0 ∧ vw h 1 0 ≤ 3649) : Pt n X zM174 0 [some (.ref 0), some (.int x1), some (.int x2), some (.int x3)] [] h (qI (fun r h' => R174 (vw h) (vw h) a1 a2 a3 r (vw h') ∧ IV h')) := by
  have bad : ¬ okB (vw h) a1 a2 a3 → R174 (vw h) (vw h) a1 a2 a3 (-1) (vw h) ∧ IV h := fun z => ⟨Or.inl ⟨z, rfl, rfl⟩, I⟩
  exact pt_d (d174_0 S z1 z2 z3 ⟨fun e => bad (fun z => e z.1), fun e1 => ⟨fun e => bad (fun z => e z.2.1), fun e2 => ⟨fun e3 => ⟨⟨⟨I, B, e1⟩, e2, e3, d⟩, fun y h' k => ⟨Or.inr ⟨⟨e1, e2, e3⟩, k.2.1, k.2.2.2⟩, k.2.2.1⟩⟩, fun e => bad (fun z => e z.2.2)⟩⟩⟩)
end

-- ===== seasons: the class makes =====
theorem d160_0 {n : Nat} {X : aX} {h : aH} {P : Int → aH → Prop} {x1 x2 x3 x4 x5 : Int32} {a1 a2 a3 a4 a5 : Int} (S : wS h) (z1 : x1.toInt = a1) (z2 : x2.toInt = a2) (z3 : x3.toInt = a3) (z4 : x4.toInt = a4) (z5 : x5.toInt = a5) (H : ((¬ (cFarm (vw h) a1) → P (-1) h) ∧ ((cFarm (vw h) a1) → ((¬ (cField (vw h) a2) → P (-1) h) ∧ ((cField (vw h) a2) → ((¬ (0 ≤ a3 ∧ a3 ≤ 9) → P (-1) h) ∧ ((0 ≤ a3 ∧ a3 ≤ 9) → ((¬ (0 ≤ a4 ∧ a4 ≤ 3649) → P (-1) h) ∧ ((0 ≤ a4 ∧ a4 ≤ 3649) → (((0 ≤ a5 ∧ a5 ≤ 4) → ((p1 h a3) ∧ ∀ (q20 : Nat) (h_20 : aH), (wS h_20 ∧ R1 h a3 a4 q20 h_20) → ((vw h_20 q20 1 = ((16 : Nat) : Int) ∧ vw h_20 q20 6 = (((q20 + 1) : Nat) : Int) ∧ vw h_20 q20 5 ≤ 300) ∧ ∀ (y21 : Int) (h_21 : aH), (wS h_21 ∧ h_21 = h_20 ∧ plc (vw h_20) q20 a1 a2 y21) → ((y21 ≠ (-1) → ((a5 = 0 → ((vw h_21) q20 7 = (((q20 + 2) : Nat) : Int) ∧ (0 ≤ y21 → P (vw h_21 (q20 + 2) y21) h_21))) ∧ (a5 ≠ 0 → ((a5 = 1 → ((vw h_21) q20 7 = (((q20 + 2) : Nat) : Int) ∧ (0 ≤ y21 → ((vw h_21) q20 8 = (((q20 + 3) : Nat) : Int) ∧ (0 ≤ y21 → P (w32 ((vw h_21 (q20 + 2) y21) - (vw h_21 (q20 + 3) y21))) h_21))))) ∧ (a5 ≠ 1 → ((a5 = 2 → ((vw h_21) q20 6 = (((q20 + 1) : Nat) : Int) ∧ (0 ≤ y21 → (0 ≤ vw h_21 (q20 + 1) y21 → vw h_21 (q20 + 1) y21 < 300 → P (vw h_21 19 (vw h_21 (q20 + 1) y21)) h_21)))) ∧ (a5 ≠ 2 → ((a5 = 3 → ((vw h_21) q20 9 = (((q20 + 4) : Nat) : Int) ∧ (((0 ≤ a2 ∧ a2 < 150) ∧ ∀ j, 0 ≤ vw h_21 8 j ∧ vw h_21 8 j < 2147483648) ∧ P (sqA (vw h_21) a2 (q20 + 4) 24) h_21))) ∧ (a5 ≠ 3 → ((vw h_21) q20 6 = (((q20 + 1) : Nat) : Int) ∧ (0 ≤ y21 → P (lt1 (vw h_21) (vw h_21 (q20 + 1) y21)) h_21))))))))))) ∧ (y21 = (-1) → P (-2) h_21))))) ∧ (¬ (0 ≤ a5 ∧ a5 ≤ 4) → P (-1) h))))))))))) : Pt (n + 1) X zM160 0 [some (.ref 0), some (.int x1), some (.int x2), some (.int x3), some (.int x4), some (.int x5), none, none] [] h (qI P) := by
  refine pt_1 (fun n d => r_aloadn gx160_0 rfl) ?_
  refine pt_d (pt_getR gx160_1 S tr_0_0 ?_)
  refine pt_d (pt_1 (fun n d => r_iloadn gx160_4 rfl) ?_)
  refine pt_d (pt_virt (as := [.int x1]) (r := []) gx160_5 rfl (show zmt[75]? = some zM75 from rfl) rfl rfl rfl rfl (c_75 S z1) (kqP (fun v2 h2 => ?_)))
  show Pt _ _ _ 8 _ [.int v2] _ _
  refine pt_d (pt_ifB_eq gx160_8 h2 (fun e3 => ?_) (fun e3 => ?_))
  · have H := H.1 e3
    refine pt_d (pt_iconst gx160_47 (fun v4 h4 => ?_))
    exact pt_d (pt_iret gx160_48 ⟨_, rfl, by rw [h4]; exact H⟩)
  · have H := H.2 e3
    refine pt_d (pt_1 (fun n d => r_aloadn gx160_11 rfl) ?_)
    refine pt_d (pt_getR gx160_12 S tr_0_0 ?_)
    refine pt_d (pt_1 (fun n d => r_iloadn gx160_15 rfl) ?_)
    refine pt_d (pt_virt (as := [.int x2]) (r := []) gx160_16 rfl (show zmt[77]? = some zM77 from rfl) rfl rfl rfl rfl (c_77 S z2) (kqP (fun v6 h6 => ?_)))
    show Pt _ _ _ 19 _ [.int v6] _ _
    refine pt_d (pt_ifB_eq gx160_19 h6 (fun e7 => ?_) (fun e7 => ?_))
    · have H := H.1 e7
      refine pt_d (pt_iconst gx160_47 (fun v8 h8 => ?_))
      exact pt_d (pt_iret gx160_48 ⟨_, rfl, by rw [h8]; exact H⟩)
    · have H := H.2 e7
      refine pt_d (pt_1 (fun n d => r_iloadn gx160_22 rfl) ?_)
      refine pt_d (pt_stat (as := [.int x3]) (r := []) gx160_23 rfl (show zmt[139]? = some zM139 from rfl) rfl rfl rfl rfl (c_139 S z3) (kqP (fun v9 h9 => ?_)))
      show Pt _ _ _ 26 _ [.int v9] _ _
      refine pt_d (pt_ifB_eq gx160_26 h9 (fun e10 => ?_) (fun e10 => ?_))
      · have H := H.1 e10
        refine pt_d (pt_iconst gx160_47 (fun v11 h11 => ?_))
        exact pt_d (pt_iret gx160_48 ⟨_, rfl, by rw [h11]; exact H⟩)
      · have H := H.2 e10
        refine pt_d (pt_1 (fun n d => r_iload gx160_29 rfl) ?_)
        refine pt_d (pt_stat (as := [.int x4]) (r := []) gx160_31 rfl (show zmt[138]? = some zM138 from rfl) rfl rfl rfl rfl (c_138 S z4) (kqP (fun v12 h12 => ?_)))
        show Pt _ _ _ 34 _ [.int v12] _ _
        refine pt_d (pt_ifB_eq gx160_34 h12 (fun e13 => ?_) (fun e13 => ?_))
        · have H := H.1 e13
          refine pt_d (pt_iconst gx160_47 (fun v14 h14 => ?_))
          exact pt_d (pt_iret gx160_48 ⟨_, rfl, by rw [h14]; exact H⟩)
        · have H := H.2 e13
          refine pt_d (pt_1 (fun n d => r_iload gx160_37 rfl) ?_)
          refine pt_d (pt_iconst gx160_39 (fun v15 h15 => ?_))
          refine pt_d (pt_iconst gx160_40 (fun v16 h16 => ?_))
          refine pt_d (pt_stat (as := [.int x5, .int v15, .int v16]) (r := []) gx160_41 rfl (show zmt[137]? = some zM137 from rfl) rfl rfl rfl rfl (c_137 S z5 h15 h16) (kqP (fun v17 h17 => ?_)))
          show Pt _ _ _ 44 _ [.int v17] _ _
          refine pt_d (pt_ifB_ne gx160_44 h17 (fun e18 => ?_) (fun e18 => ?_))
          · have H := H.1 e18
            refine pt_d (pt_1 (fun n d => r_aloadn gx160_49 rfl) ?_)
            refine pt_d (pt_getR gx160_50 S tr_0_4 ?_)
            refine pt_d (pt_1 (fun n d => r_iloadn gx160_53 rfl) ?_)
            refine pt_d (pt_1 (fun n d => r_iload gx160_54 rfl) ?_)
            obtain ⟨pr20, H⟩ := H
            refine pt_d (pt_virt (as := [.int x3, .int x4]) (r := []) gx160_56 rfl (show zmt[1]? = some zM1 from rfl) rfl rfl rfl rfl (c_1 S z3 z4 pr20) (kqR (fun q20 h_20 P20 => ?_)))
            have S20 := P20.1
            have H := H q20 h_20 P20
            show Pt _ _ _ 59 _ [.ref q20] _ _
            refine pt_d (pt_1 (fun n d => r_astore (L' := [some (.ref 0), some (.int x1), some (.int x2), some (.int x3), some (.int x4), some (.int x5), some (.ref q20), none]) gx160_59 rfl rfl) ?_)
            refine pt_d (pt_1 (fun n d => r_aload gx160_61 rfl) ?_)
            refine pt_d (pt_1 (fun n d => r_iloadn gx160_63 rfl) ?_)
            refine pt_d (pt_1 (fun n d => r_iloadn gx160_64 rfl) ?_)
            obtain ⟨pr21, H⟩ := H
            refine pt_d (pt_virt (as := [.int x1, .int x2]) (r := []) gx160_65 rfl (show zmt[98]? = some zM98 from rfl) rfl rfl rfl rfl (c_98 S20 z1 z2 pr21) (kqI (fun v21 y21 h_21 h21 P21 => ?_)))
            have S21 := P21.1
            have H := H y21 h_21 P21
            show Pt _ _ _ 68 _ [.int v21] _ _
            refine pt_d (pt_1 (fun n d => r_istore (L' := [some (.ref 0), some (.int x1), some (.int x2), some (.int x3), some (.int x4), some (.int x5), some (.ref q20), some (.int v21)]) gx160_68 rfl rfl) ?_)
            refine pt_d (pt_1 (fun n d => r_iload gx160_70 rfl) ?_)
            refine pt_d (pt_iconst gx160_72 (fun v22 h22 => ?_))
            refine pt_d (pt_icmp_ne gx160_73 h21 h22 (fun e23 => ?_) (fun e23 => ?_))
            · have H := H.1 e23
              refine pt_d (pt_1 (fun n d => r_iload gx160_79 rfl) ?_)
              refine pt_d (pt_tsw gx160_81 ?_)
              refine pa_c (lo := 0) (lo' := 1) (p := 112) z5 (fun e24 => ?_) (fun e24 => ?_)
              · have H := H.1 e24
                refine pt_d (pt_1 (fun n d => r_aload gx160_112 rfl) ?_)
                obtain ⟨pr25, H⟩ := H
                refine pt_d (pt_getK (B := 7) gx160_114 S21 (pr25) ?_)
                refine pt_d (pt_1 (fun n d => r_iload gx160_117 rfl) ?_)
                refine pt_d (pt_ialdD gx160_119 h21 (fun v26 p26 h26 => ?_))
                have H := H p26
                exact pt_d (pt_iret gx160_120 ⟨_, rfl, by rw [h26]; exact H⟩)
              have H := H.2 e24
              refine pa_c (lo := 1) (lo' := 2) (p := 121) z5 (fun e27 => ?_) (fun e27 => ?_)
              · have H := H.1 e27
                refine pt_d (pt_1 (fun n d => r_aload gx160_121 rfl) ?_)
                obtain ⟨pr28, H⟩ := H
                refine pt_d (pt_getK (B := 7) gx160_123 S21 (pr28) ?_)
                refine pt_d (pt_1 (fun n d => r_iload gx160_126 rfl) ?_)
                refine pt_d (pt_ialdD gx160_128 h21 (fun v29 p29 h29 => ?_))
                have H := H p29
                refine pt_d (pt_1 (fun n d => r_aload gx160_129 rfl) ?_)
                obtain ⟨pr30, H⟩ := H
                refine pt_d (pt_getK (B := 8) gx160_131 S21 (pr30) ?_)
                refine pt_d (pt_1 (fun n d => r_iload gx160_134 rfl) ?_)
                refine pt_d (pt_ialdD gx160_136 h21 (fun v31 p31 h31 => ?_))
                have H := H p31
                refine pt_d (pt_isub gx160_137 h29 h31 (fun v32 h32 => ?_))
                exact pt_d (pt_iret gx160_138 ⟨_, rfl, by rw [h32]; exact H⟩)
              have H := H.2 e27
              refine pa_c (lo := 2) (lo' := 3) (p := 139) z5 (fun e33 => ?_) (fun e33 => ?_)
              · have H := H.1 e33
                refine pt_d (pt_1 (fun n d => r_aloadn gx160_139 rfl) ?_)
                refine pt_d (pt_getR gx160_140 S21 tr_0_2 ?_)
                refine pt_d (pt_getR gx160_143 S21 tr_16_6 ?_)
                refine pt_d (pt_1 (fun n d => r_aload gx160_146 rfl) ?_)
                obtain ⟨pr36, H⟩ := H
                refine pt_d (pt_getK (B := 6) gx160_148 S21 (pr36) ?_)
                refine pt_d (pt_1 (fun n d => r_iload gx160_151 rfl) ?_)
                refine pt_d (pt_ialdD gx160_153 h21 (fun v37 p37 h37 => ?_))
                have H := H p37
                refine pt_d (pt_iald (N' := 300) gx160_154 S21 tl_19 h37 (fun v38 p38 q38 h38 => ?_))
                have H := H p38 q38
                exact pt_d (pt_iret gx160_155 ⟨_, rfl, by rw [h38]; exact H⟩)
              have H := H.2 e33
              refine pa_c (lo := 3) (lo' := 4) (p := 156) z5 (fun e39 => ?_) (fun e39 => ?_)
              · have H := H.1 e39
                refine pt_d (pt_1 (fun n d => r_aloadn gx160_156 rfl) ?_)
                refine pt_d (pt_getR gx160_157 S21 tr_0_0 ?_)
                refine pt_d (pt_1 (fun n d => r_iloadn gx160_160 rfl) ?_)
                refine pt_d (pt_1 (fun n d => r_aload gx160_161 rfl) ?_)
                obtain ⟨pr41, H⟩ := H
                refine pt_d (pt_getK (B := 9) gx160_163 S21 (pr41) ?_)
                obtain ⟨pr42, H⟩ := H
                refine pt_d (pt_virt (as := [.int x2, .ref (q20 + 4)]) (r := []) gx160_166 rfl (show zmt[83]? = some zM83 from rfl) rfl rfl rfl rfl (c_83 S21 z2 pr42) (kqP (fun v42 h42 => ?_)))
                show Pt _ _ _ 169 _ [.int v42] _ _
                exact pt_d (pt_iret gx160_169 ⟨_, rfl, by rw [h42]; exact H⟩)
              have H := H.2 e39
              refine pa_0 (p := 170) ?_
              refine pt_d (pt_1 (fun n d => r_aloadn gx160_170 rfl) ?_)
              refine pt_d (pt_getR gx160_171 S21 tr_0_2 ?_)
              refine pt_d (pt_1 (fun n d => r_aload gx160_174 rfl) ?_)
              obtain ⟨pr44, H⟩ := H
              refine pt_d (pt_getK (B := 6) gx160_176 S21 (pr44) ?_)
              refine pt_d (pt_1 (fun n d => r_iload gx160_179 rfl) ?_)
              refine pt_d (pt_ialdD gx160_181 h21 (fun v45 p45 h45 => ?_))
              have H := H p45
              refine pt_d (pt_virt (as := [.int v45]) (r := []) gx160_182 rfl (show zmt[31]? = some zM31 from rfl) rfl rfl rfl rfl (c_31 S21 h45) (kqP (fun v46 h46 => ?_)))
              show Pt _ _ _ 185 _ [.int v46] _ _
              exact pt_d (pt_iret gx160_185 ⟨_, rfl, by rw [h46]; exact H⟩)
            · have H := H.2 e23
              refine pt_d (pt_bipush gx160_76 (fun v47 h47 => ?_))
              exact pt_d (pt_iret gx160_78 ⟨_, rfl, by rw [h47]; exact H⟩)
          · have H := H.2 e18
            refine pt_d (pt_iconst gx160_47 (fun v48 h48 => ?_))
            exact pt_d (pt_iret gx160_48 ⟨_, rfl, by rw [h48]; exact H⟩)
theorem d161_0 {n : Nat} {X : aX} {h : aH} {P : Int → aH → Prop} {x1 x2 x3 x4 : Int32} {a1 a2 a3 a4 : Int} (S : wS h) (z1 : x1.toInt = a1) (z2 : x2.toInt = a2) (z3 : x3.toInt = a3) (z4 : x4.toInt = a4) (H : ((¬ (cFarm (vw h) a1) → P (-1) h) ∧ ((cFarm (vw h) a1) → ((¬ (cField (vw h) a2) → P (-1) h) ∧ ((cField (vw h) a2) → ((¬ (0 ≤ a3 ∧ a3 ≤ 9) → P (-1) h) ∧ ((0 ≤ a3 ∧ a3 ≤ 9) → (((0 ≤ a4 ∧ a4 ≤ 576) → ((p1 h a3) ∧ ∀ (q19 : Nat) (h_19 : aH), (wS h_19 ∧ R1 h a3 (vw h 1 0) q19 h_19) → ((vw h_19 q19 1 = ((16 : Nat) : Int) ∧ vw h_19 q19 6 = (((q19 + 1) : Nat) : Int) ∧ vw h_19 q19 5 ≤ 300) ∧ ∀ (y20 : Int) (h_20 : aH), (wS h_20 ∧ h_20 = h_19 ∧ plc (vw h_19) q19 a1 a2 y20) → ((y20 ≠ (-1) → ((vw h_20 16 3 < 200 → ∀ (y28 : Int) (h_28 : aH), (wS h_28 ∧ R34 (vw h_20) a1 a2 a3 a4 y28 (vw h_28)) → P y28 h_28) ∧ (200 ≤ vw h_20 16 3 → P (-3) h_20))) ∧ (y20 = (-1) → P (-2) h_20))))) ∧ (¬ (0 ≤ a4 ∧ a4 ≤ 576) → P (-1) h))))))))) : Pt (n + 1) X zM161 0 [some (.ref 0), some (.int x1), some (.int x2), some (.int x3), some (.int x4)] [] h (qI P) := by
  refine pt_1 (fun n d => r_aloadn gx161_0 rfl) ?_
  refine pt_d (pt_getR gx161_1 S tr_0_0 ?_)
  refine pt_d (pt_1 (fun n d => r_iloadn gx161_4 rfl) ?_)
  refine pt_d (pt_virt (as := [.int x1]) (r := []) gx161_5 rfl (show zmt[75]? = some zM75 from rfl) rfl rfl rfl rfl (c_75 S z1) (kqP (fun v2 h2 => ?_)))
  show Pt _ _ _ 8 _ [.int v2] _ _
  refine pt_d (pt_ifB_eq gx161_8 h2 (fun e3 => ?_) (fun e3 => ?_))
  · have H := H.1 e3
    refine pt_d (pt_iconst gx161_41 (fun v4 h4 => ?_))
    exact pt_d (pt_iret gx161_42 ⟨_, rfl, by rw [h4]; exact H⟩)
  · have H := H.2 e3
    refine pt_d (pt_1 (fun n d => r_aloadn gx161_11 rfl) ?_)
    refine pt_d (pt_getR gx161_12 S tr_0_0 ?_)
    refine pt_d (pt_1 (fun n d => r_iloadn gx161_15 rfl) ?_)
    refine pt_d (pt_virt (as := [.int x2]) (r := []) gx161_16 rfl (show zmt[77]? = some zM77 from rfl) rfl rfl rfl rfl (c_77 S z2) (kqP (fun v6 h6 => ?_)))
    show Pt _ _ _ 19 _ [.int v6] _ _
    refine pt_d (pt_ifB_eq gx161_19 h6 (fun e7 => ?_) (fun e7 => ?_))
    · have H := H.1 e7
      refine pt_d (pt_iconst gx161_41 (fun v8 h8 => ?_))
      exact pt_d (pt_iret gx161_42 ⟨_, rfl, by rw [h8]; exact H⟩)
    · have H := H.2 e7
      refine pt_d (pt_1 (fun n d => r_iloadn gx161_22 rfl) ?_)
      refine pt_d (pt_stat (as := [.int x3]) (r := []) gx161_23 rfl (show zmt[139]? = some zM139 from rfl) rfl rfl rfl rfl (c_139 S z3) (kqP (fun v9 h9 => ?_)))
      show Pt _ _ _ 26 _ [.int v9] _ _
      refine pt_d (pt_ifB_eq gx161_26 h9 (fun e10 => ?_) (fun e10 => ?_))
      · have H := H.1 e10
        refine pt_d (pt_iconst gx161_41 (fun v11 h11 => ?_))
        exact pt_d (pt_iret gx161_42 ⟨_, rfl, by rw [h11]; exact H⟩)
      · have H := H.2 e10
        refine pt_d (pt_1 (fun n d => r_iload gx161_29 rfl) ?_)
        refine pt_d (pt_iconst gx161_31 (fun v12 h12 => ?_))
        refine pt_d (pt_sipush gx161_32 (fun v13 h13 => ?_))
        refine pt_d (pt_stat (as := [.int x4, .int v12, .int v13]) (r := []) gx161_35 rfl (show zmt[137]? = some zM137 from rfl) rfl rfl rfl rfl (c_137 S z4 h12 h13) (kqP (fun v14 h14 => ?_)))
        show Pt _ _ _ 38 _ [.int v14] _ _
        refine pt_d (pt_ifB_ne gx161_38 h14 (fun e15 => ?_) (fun e15 => ?_))
        · have H := H.1 e15
          refine pt_d (pt_1 (fun n d => r_aloadn gx161_43 rfl) ?_)
          refine pt_d (pt_getR gx161_44 S tr_0_4 ?_)
          refine pt_d (pt_1 (fun n d => r_iloadn gx161_47 rfl) ?_)
          refine pt_d (pt_1 (fun n d => r_aloadn gx161_48 rfl) ?_)
          refine pt_d (pt_getR gx161_49 S tr_0_0 ?_)
          refine pt_d (pt_getI (B := 0) gx161_52 S (fun v18 h18 => ?_))
          obtain ⟨pr19, H⟩ := H
          refine pt_d (pt_virt (as := [.int x3, .int v18]) (r := []) gx161_55 rfl (show zmt[1]? = some zM1 from rfl) rfl rfl rfl rfl (c_1 S z3 h18 pr19) (kqR (fun q19 h_19 P19 => ?_)))
          have S19 := P19.1
          have H := H q19 h_19 P19
          show Pt _ _ _ 58 _ [.ref q19] _ _
          refine pt_d (pt_1 (fun n d => r_iloadn gx161_58 rfl) ?_)
          refine pt_d (pt_1 (fun n d => r_iloadn gx161_59 rfl) ?_)
          obtain ⟨pr20, H⟩ := H
          refine pt_d (pt_virt (as := [.int x1, .int x2]) (r := []) gx161_60 rfl (show zmt[98]? = some zM98 from rfl) rfl rfl rfl rfl (c_98 S19 z1 z2 pr20) (kqI (fun v20 y20 h_20 h20 P20 => ?_)))
          have S20 := P20.1
          have H := H y20 h_20 P20
          show Pt _ _ _ 63 _ [.int v20] _ _
          refine pt_d (pt_iconst gx161_63 (fun v21 h21 => ?_))
          refine pt_d (pt_icmp_ne gx161_64 h20 h21 (fun e22 => ?_) (fun e22 => ?_))
          · have H := H.1 e22
            refine pt_d (pt_1 (fun n d => r_aloadn gx161_70 rfl) ?_)
            refine pt_d (pt_getR gx161_71 S20 tr_0_2 ?_)
            refine pt_d (pt_getI (B := 3) gx161_74 S20 (fun v24 h24 => ?_))
            refine pt_d (pt_sipush gx161_77 (fun v25 h25 => ?_))
            refine pt_d (pt_icmp_lt gx161_80 h24 h25 (fun e26 => ?_) (fun e26 => ?_))
            · have H := H.1 e26
              refine pt_d (pt_1 (fun n d => r_aloadn gx161_88 rfl) ?_)
              refine pt_d (pt_getR gx161_89 S20 tr_0_2 ?_)
              refine pt_d (pt_1 (fun n d => r_iloadn gx161_92 rfl) ?_)
              refine pt_d (pt_1 (fun n d => r_iloadn gx161_93 rfl) ?_)
              refine pt_d (pt_1 (fun n d => r_iloadn gx161_94 rfl) ?_)
              refine pt_d (pt_1 (fun n d => r_iload gx161_95 rfl) ?_)
              refine pt_d (pt_virt (as := [.int x1, .int x2, .int x3, .int x4]) (r := []) gx161_97 rfl (show zmt[34]? = some zM34 from rfl) rfl rfl rfl rfl (c_34 S20 z1 z2 z3 z4) (kqI (fun v28 y28 h_28 h28 P28 => ?_)))
              have S28 := P28.1
              have H := H y28 h_28 P28
              show Pt _ _ _ 100 _ [.int v28] _ _
              exact pt_d (pt_iret gx161_100 ⟨_, rfl, by rw [h28]; exact H⟩)
            · have H := H.2 e26
              refine pt_d (pt_bipush gx161_83 (fun v29 h29 => ?_))
              refine pt_d (pt_1 (fun n d => r_goto gx161_85) ?_)
              exact pt_d (pt_iret gx161_100 ⟨_, rfl, by rw [h29]; exact H⟩)
          · have H := H.2 e22
            refine pt_d (pt_bipush gx161_67 (fun v30 h30 => ?_))
            exact pt_d (pt_iret gx161_69 ⟨_, rfl, by rw [h30]; exact H⟩)
        · have H := H.2 e15
          refine pt_d (pt_iconst gx161_41 (fun v31 h31 => ?_))
          exact pt_d (pt_iret gx161_42 ⟨_, rfl, by rw [h31]; exact H⟩)
noncomputable def sval (V : vS) (q : Nat) (b i w : Int) : Int := if w = 0 then V (q + 2) i else if w = 1 then w32 (V (q + 2) i - V (q + 3) i) else if w = 2 then V 19 (V (q + 1) i) else if w = 3 then sqA V b (q + 4) 24 else lt1 V (V (q + 1) i)
def ok16 (V : vS) (f b y k w : Int) : Prop := cFarm V f ∧ cField V b ∧ (0 ≤ y ∧ y ≤ 9) ∧ (0 ≤ k ∧ k ≤ 3649) ∧ 0 ≤ w ∧ w ≤ 4
def R160 (h : aH) (f b y k w r : Int) (h' : aH) : Prop := (¬ ok16 (vw h) f b y k w ∧ r = -1 ∧ h' = h) ∨ (ok16 (vw h) f b y k w ∧ ∃ q, R1 h y k q h' ∧ ∃ i, plc (vw h') q f b i ∧ ((i = -1 ∧ r = -2) ∨ (i ≠ -1 ∧ r = sval (vw h') q b i w)))
-- what a season handed out has of its own
theorem R1_k {h h' : aH} {y k : Int} {q : Nat} (hy : 0 ≤ y ∧ y ≤ 9) (p : p1 h y) (hN : vw h q 5 ≤ 300 ∨ vw h 42 y ≠ (q : Int)) (R : R1 h y k q h') : slk (vw h') q ∧ vw h' q 5 ≤ 300 ∧ pb (vw h') := by
  rcases R.2 with ⟨e, -, -, rfl⟩ | ⟨U, ⟨W, e, A, ⟨-, -, s⟩, n, -, l, -⟩, ⟨L, -⟩, D⟩
  · have hq := p.2 hy.1 (by omega) q e.symm
    exact ⟨hq.2.1, by rcases hN with z | z; exact z; exact absurd e z, p.1⟩
  · have hq := R.1.1
    have c : ∀ (c : Nat) j, c ≠ q + 3 → c ≠ q + 5 → c ≠ q + 6 → c ≠ q + 7 → vw h' c j = W c j := fun c j a b d f => by rw [e]; exact suF_c a b d f j
    have cq : ∀ j, vw h' q j = W q j := fun j => c q j (by omega) (by omega) (by omega) (by omega)
    refine ⟨slk_c L (fun j a b d => (cq j).trans (s j a b d)), by rw [cq]; exact l.2.1.2, ?_⟩
    have U0 : pb U := by
      rcases D with ⟨-, rfl⟩ | ⟨-, -, f⟩
      · exact p.1
      · exact pbK_c p.1 (fun c j z => f c j (by omega) (Or.inl (by omega)))
    exact pbK_c U0 (fun c' j z => (c c' j (by omega) (by omega) (by omega) (by omega)).trans (A c' j (by omega) (by omega) (by omega) (by omega)))
theorem c_160 {n : Nat} {X : aX} {h : aH} {x1 x2 x3 x4 x5 : Int32} {a1 a2 a3 a4 a5 : Int} (S : wS h) (z1 : x1.toInt = a1) (z2 : x2.toInt = a2) (z3 : x3.toInt = a3) (z4 : x4.toInt = a4) (z5 : x5.toInt = a5) (hp : ∀ y, 0 ≤ y → y ≤ 9 → p1 h y) (hn : ∀ q : Nat, (∃ y, (0 ≤ y ∧ y ≤ 9) ∧ (q : Int) = vw h 42 y) → vw h q 5 ≤ 300) (hF : ∀ b, cField (vw h) b → 0 ≤ b ∧ b < 150) : Pt n X zM160 0 [some (.ref 0), some (.int x1), some (.int x2), some (.int x3), some (.int x4), some (.int x5), none, none] [] h (qI (fun r h' => wS h' ∧ R160 h a1 a2 a3 a4 a5 r h')) := by
  have bad : ¬ ok16 (vw h) a1 a2 a3 a4 a5 → R160 h a1 a2 a3 a4 a5 (-1) h := fun z => Or.inl ⟨z, rfl, rfl⟩
  refine pt_d (d160_0 S z1 z2 z3 z4 z5 ⟨fun e => ⟨S, bad (fun z => e z.1)⟩, fun e1 => ⟨fun e => ⟨S, bad (fun z => e z.2.1)⟩, fun e2 => ⟨fun e => ⟨S, bad (fun z => e z.2.2.1)⟩, fun e3 => ⟨fun e => ⟨S, bad (fun z => e z.2.2.2.1)⟩, fun e4 => ⟨fun e5 => ⟨hp a3 e3.1 e3.2, fun q g R => ?_⟩, fun e => ⟨S, bad (fun z => e z.2.2.2.2)⟩⟩⟩⟩⟩⟩)
  obtain ⟨S2, R⟩ := R
  have ok : ok16 (vw h) a1 a2 a3 a4 a5 := ⟨e1, e2, e3, e4, e5⟩
  obtain ⟨L, l5, B⟩ := R1_k e3 (hp a3 e3.1 e3.2) (by
    by_cases z : vw h 42 a3 = (q : Int)
    · exact Or.inl (hn q ⟨a3, e3, z.symm⟩)
    · exact Or.inr z) R
  obtain ⟨L0, L1, L6, L7, L8, L9, -⟩ := L
  refine ⟨⟨L1, L6, l5⟩, fun i g' Z => ?_⟩
  obtain ⟨-, rfl, pl⟩ := Z
  have give : ∀ r, i ≠ -1 → r = sval (vw g') q a2 i a5 → wS g' ∧ R160 h a1 a2 a3 a4 a5 r g' := fun r n e => ⟨S2, Or.inr ⟨ok, q, R, i, pl, Or.inr ⟨n, e⟩⟩⟩
  have i0 : i ≠ -1 → 0 ≤ i := fun n => by rcases pl with ⟨z, -⟩ | ⟨z, -⟩ <;> omega
  refine ⟨fun n => ⟨fun w0 => ⟨L7, fun _ => give _ n ?_⟩, fun w0 => ⟨fun w1 => ⟨L7, fun _ => ⟨L8, fun _ => give _ n ?_⟩⟩, fun w1 => ⟨fun w2 => ⟨L6, fun _ _ _ => give _ n ?_⟩, fun w2 => ⟨fun w3 => ⟨L9, ⟨hF a2 e2, B.2.2.2.2.1⟩, give _ n ?_⟩, fun w3 => ⟨L6, fun _ => give _ n ?_⟩⟩⟩⟩⟩, fun e => ⟨S2, Or.inr ⟨ok, q, R, i, pl, Or.inl ⟨e, rfl⟩⟩⟩⟩
  · unfold sval
    rw [if_pos w0]
  · unfold sval
    rw [if_neg w0, if_pos w1]
  · unfold sval
    rw [if_neg w0, if_neg w1, if_pos w2]
  · unfold sval
    rw [if_neg w0, if_neg w1, if_neg w2, if_pos w3]
  · unfold sval
    rw [if_neg w0, if_neg w1, if_neg w2, if_neg w3]

def okY (V : vS) (f b y m : Int) : Prop := cFarm V f ∧ cField V b ∧ (0 ≤ y ∧ y ≤ 9) ∧ 0 ≤ m ∧ m ≤ 576
def R161 (h : aH) (f b y m r : Int) (h' : aH) : Prop := (¬ okY (vw h) f b y m ∧ r = -1 ∧ h' = h) ∨ (okY (vw h) f b y m ∧ ∃ q g, R1 h y (vw h 1 0) q g ∧ ∃ i, plc (vw g) q f b i ∧ ((i = -1 ∧ r = -2 ∧ h' = g) ∨ (i ≠ -1 ∧ ((200 ≤ vw g 16 3 ∧ r = -3 ∧ h' = g) ∨ (vw g 16 3 < 200 ∧ R34 (vw g) f b y m r (vw h'))))))
theorem c_161 {n : Nat} {X : aX} {h : aH} {x1 x2 x3 x4 : Int32} {a1 a2 a3 a4 : Int} (S : wS h) (z1 : x1.toInt = a1) (z2 : x2.toInt = a2) (z3 : x3.toInt = a3) (z4 : x4.toInt = a4) (hp : ∀ y, 0 ≤ y → y ≤ 9 → p1 h y) (hn : ∀ q : Nat, (∃ y, (0 ≤ y ∧ y ≤ 9) ∧ (q : Int) = vw h 42 y) → vw h q 5 ≤ 300) : Pt n X zM161 0 [some (.ref 0), some (.int x1), some (.int x2), some (.int x3), some (.int x4)] [] h (qI (fun r h' => wS h' ∧ R161 h a1 a2 a3 a4 r h')) := by
  have bad : ¬ okY (vw h) a1 a2 a3 a4 → R161 h a1 a2 a3 a4 (-1) h := fun z => Or.inl ⟨z, rfl, rfl⟩
  refine pt_d (d161_0 S z1 z2 z3 z4 ⟨fun e => ⟨S, bad (fun z => e z.1)⟩, fun e1 => ⟨fun e => ⟨S, bad (fun z => e z.2.1)⟩, fun e2 => ⟨fun e => ⟨S, bad (fun z => e z.2.2.1)⟩, fun e3 => ⟨fun e4 => ⟨hp a3 e3.1 e3.2, fun q g R => ?_⟩, fun e => ⟨S, bad (fun z => e z.2.2.2)⟩⟩⟩⟩⟩)
  obtain ⟨S2, R⟩ := R
  have ok : okY (vw h) a1 a2 a3 a4 := ⟨e1, e2, e3, e4⟩
  obtain ⟨L, l5, B⟩ := R1_k e3 (hp a3 e3.1 e3.2) (by
    by_cases z : vw h 42 a3 = (q : Int)
    · exact Or.inl (hn q ⟨a3, e3, z.symm⟩)
    · exact Or.inr z) R
  obtain ⟨L0, L1, L6, -⟩ := L
  refine ⟨⟨L1, L6, l5⟩, fun i g' Z => ?_⟩
  obtain ⟨-, rfl, pl⟩ := Z
  exact ⟨fun n => ⟨fun lt r g2 Z2 => ⟨Z2.1, Or.inr ⟨ok, q, g', R, i, pl, Or.inr ⟨n, Or.inr ⟨lt, Z2.2⟩⟩⟩⟩, fun ge => ⟨S2, Or.inr ⟨ok, q, g', R, i, pl, Or.inr ⟨n, Or.inl ⟨ge, rfl, rfl⟩⟩⟩⟩⟩, fun e => ⟨S2, Or.inr ⟨ok, q, g', R, i, pl, Or.inl ⟨e, rfl, rfl⟩⟩⟩⟩


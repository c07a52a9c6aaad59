-- ===== weak contracts =====
theorem wl_67 {X : aX} : ∀ n : Nat, (∀ (h0 h : aH) (x1 : Int32) (x2 : Int32), wS h → hk h0 h → IV h → Pt n X zM67 0 [some (.ref 48), some (.int x1), some (.int x2), none, none] [] h (qI (fun _ h' => wS h' ∧ hk h0 h' ∧ IV h'))) := by
  intro n
  induction n with
  | zero => refine ?_ <;> (intros; exact pt_z)
  | succ n ih =>
    have ih67_0 := ih
    refine ?_
    · intro h0 h x1 x2 S G I
      obtain ⟨a1, z1⟩ : ∃ a : Int, x1.toInt = a := ⟨_, rfl⟩
      obtain ⟨a2, z2⟩ : ∃ a : Int, x2.toInt = a := ⟨_, rfl⟩
      refine pt_1 (fun n d => r_iloadn gx67_0 rfl) ?_
      refine pt_d (pt_i2l gx67_1 z2 (fun v1001 h1001 => ?_))
      refine pt_d (pt_ldc2_w (c := 100) gx67_2 rfl (fun v1002 h1002 => ?_))
      refine pt_d (pt_1 (fun n d => r_aloadn gx67_5 rfl) ?_)
      refine pt_d (pt_getI (B := 15) gx67_6 S (fun v1003 h1003 => ?_))
      refine pt_d (pt_stat (as := [.long v1002, .int v1003]) (r := [.long v1001]) gx67_9 rfl (show zmt[69]? = some zM69 from rfl) rfl rfl rfl rfl (wk_69 S h1002 h1003 I) (kqJ (fun v1004 y1004 h_1004 h1004 P1004 => ?_)))
      have S1004 := P1004.1
      have G1004 := hk_t G P1004.2.1
      have I1004 := P1004.2.2
      show Pt _ _ _ 12 _ [.long v1004, .long v1001] _ _
      refine pt_d (pt_lmul gx67_12 h1001 h1004 (fun v1005 h1005 => ?_))
      refine pt_d (pt_1 (fun n d => r_lstoren (L' := [some (.ref 48), some (.int x1), some (.int x2), some (.long v1005), none]) gx67_13 rfl rfl) ?_)
      refine pt_d (pt_ldc2_w (c := 100) gx67_14 rfl (fun v1006 h1006 => ?_))
      refine pt_d (pt_1 (fun n d => r_aloadn gx67_17 rfl) ?_)
      refine pt_d (pt_1 (fun n d => r_aloadn gx67_18 rfl) ?_)
      refine pt_d (pt_getI (B := 16) gx67_19 S1004 (fun v1007 h1007 => ?_))
      refine pt_d (pt_1 (fun n d => r_aloadn gx67_22 rfl) ?_)
      refine pt_d (pt_getI (B := 15) gx67_23 S1004 (fun v1008 h1008 => ?_))
      refine pt_d (pt_1 (fun n d => r_iloadn gx67_26 rfl) ?_)
      refine pt_d (pt_virt (as := [.int v1007, .int v1008, .int x1]) (r := [.long v1006]) gx67_27 rfl (show zmt[68]? = some zM68 from rfl) rfl rfl rfl rfl (wk_68 S1004 h1007 h1008 z1 I1004) (kqJ (fun v1009 y1009 h_1009 h1009 P1009 => ?_)))
      have S1009 := P1009.1
      have G1009 := hk_t G1004 P1009.2.1
      have I1009 := P1009.2.2
      show Pt _ _ _ 30 _ [.long v1009, .long v1006] _ _
      refine pt_d (pt_lmul gx67_30 h1006 h1009 (fun v1010 h1010 => ?_))
      refine pt_d (pt_1 (fun n d => r_lloadn gx67_31 rfl) ?_)
      refine pt_d (pt_lcmp_ge gx67_32 gx67_33 h1010 h1005 (fun e1011 => ?_) (fun e1011 => ?_))
      · skip
        refine pt_d (pt_ldc2_w (c := 100) gx67_38 rfl (fun v1012 h1012 => ?_))
        refine pt_d (pt_1 (fun n d => r_aloadn gx67_41 rfl) ?_)
        refine pt_d (pt_iconst gx67_42 (fun v1013 h1013 => ?_))
        refine pt_d (pt_1 (fun n d => r_aloadn gx67_43 rfl) ?_)
        refine pt_d (pt_getI (B := 16) gx67_44 S1009 (fun v1014 h1014 => ?_))
        refine pt_d (pt_1 (fun n d => r_iloadn gx67_47 rfl) ?_)
        refine pt_d (pt_virt (as := [.int v1013, .int v1014, .int x1]) (r := [.long v1012]) gx67_48 rfl (show zmt[68]? = some zM68 from rfl) rfl rfl rfl rfl (wk_68 S1009 h1013 h1014 z1 I1009) (kqJ (fun v1015 y1015 h_1015 h1015 P1015 => ?_)))
        have S1015 := P1015.1
        have G1015 := hk_t G1009 P1015.2.1
        have I1015 := P1015.2.2
        show Pt _ _ _ 51 _ [.long v1015, .long v1012] _ _
        refine pt_d (pt_lmul gx67_51 h1012 h1015 (fun v1016 h1016 => ?_))
        refine pt_d (pt_1 (fun n d => r_lloadn gx67_52 rfl) ?_)
        refine pt_d (pt_lcmp_ge gx67_53 gx67_54 h1016 h1005 (fun e1017 => ?_) (fun e1017 => ?_))
        · skip
          refine pt_d (pt_iconst gx67_61 (fun v1018 h1018 => ?_))
          exact pt_d (pt_iret gx67_62 ⟨_, rfl, S1015, G1015, I1015⟩)
        · skip
          refine pt_d (pt_iconst gx67_57 (fun v1019 h1019 => ?_))
          refine pt_d (pt_1 (fun n d => r_goto gx67_58) ?_)
          exact pt_d (pt_iret gx67_62 ⟨_, rfl, S1015, G1015, I1015⟩)
      · skip
        refine pt_d (pt_iconst gx67_36 (fun v1020 h1020 => ?_))
        exact pt_d (pt_iret gx67_37 ⟨_, rfl, S1009, G1009, I1009⟩)
theorem wk_67 {n : Nat} {X : aX} {h : aH} {x1 : Int32} {x2 : Int32} {a1 : Int} {a2 : Int} (S : wS h) (z1 : x1.toInt = a1) (z2 : x2.toInt = a2) (I : IV h) : Pt n X zM67 0 [some (.ref 48), some (.int x1), some (.int x2), none, none] [] h (qI (fun _ h' => wS h' ∧ hk h h' ∧ IV h')) := (wl_67 n) h h x1 x2 S (hk_r h) I
theorem wl_119 {X : aX} : ∀ n : Nat, (∀ (h0 h : aH) (x1 : Int32), wS h → hk h0 h → IV h → Pt n X zM119 0 [some (.ref 33), some (.int x1)] [] h (qI (fun _ h' => wS h' ∧ hk h0 h' ∧ IV h'))) := by
  intro n
  induction n with
  | zero => refine ?_ <;> (intros; exact pt_z)
  | succ n ih =>
    have ih119_0 := ih
    refine ?_
    · intro h0 h x1 S G I
      obtain ⟨a1, z1⟩ : ∃ a : Int, x1.toInt = a := ⟨_, rfl⟩
      refine pt_1 (fun n d => r_iloadn gx119_0 rfl) ?_
      refine pt_d (pt_iconst gx119_1 (fun v1001 h1001 => ?_))
      refine pt_d (pt_1 (fun n d => r_aloadn gx119_2 rfl) ?_)
      refine pt_d (pt_getI (B := 7) gx119_3 S (fun v1002 h1002 => ?_))
      refine pt_d (pt_iconst gx119_6 (fun v1003 h1003 => ?_))
      refine pt_d (pt_isub gx119_7 h1002 h1003 (fun v1004 h1004 => ?_))
      refine pt_d (pt_stat (as := [.int x1, .int v1001, .int v1004]) (r := []) gx119_8 rfl (show zmt[137]? = some zM137 from rfl) rfl rfl rfl rfl (c_137 S z1 h1001 h1004) (kqP (fun v1005 h1005 => ?_)))
      show Pt _ _ _ 11 _ [.int v1005] _ _
      refine pt_d (pt_ifB_eq gx119_11 h1005 (fun e1006 => ?_) (fun e1006 => ?_))
      · skip
        refine pt_d (pt_iconst gx119_30 (fun v1007 h1007 => ?_))
        exact pt_d (pt_iret gx119_31 ⟨_, rfl, S, G, I⟩)
      · skip
        refine pt_d (pt_1 (fun n d => r_aloadn gx119_14 rfl) ?_)
        refine pt_d (pt_getR gx119_15 S tr_33_4 ?_)
        refine pt_d (pt_1 (fun n d => r_iloadn gx119_18 rfl) ?_)
        refine pt_d (pt_iald (N' := 16) gx119_19 S tl_37 z1 (fun v1009 p1009 q1009 h1009 => ?_))
        refine pt_d (pt_bipush gx119_20 (fun v1010 h1010 => ?_))
        refine pt_d (pt_irem gx119_22 h1009 h1010 (fun v1011 h1011 => ?_))
        refine pt_d (pt_if_ne gx119_23 h1011 (fun e1012 => ?_) (fun e1012 => ?_))
        · skip
          refine pt_d (pt_iconst gx119_30 (fun v1013 h1013 => ?_))
          exact pt_d (pt_iret gx119_31 ⟨_, rfl, S, G, I⟩)
        · skip
          refine pt_d (pt_iconst gx119_26 (fun v1014 h1014 => ?_))
          refine pt_d (pt_1 (fun n d => r_goto gx119_27) ?_)
          exact pt_d (pt_iret gx119_31 ⟨_, rfl, S, G, I⟩)
theorem wk_119 {n : Nat} {X : aX} {h : aH} {x1 : Int32} {a1 : Int} (S : wS h) (z1 : x1.toInt = a1) (I : IV h) : Pt n X zM119 0 [some (.ref 33), some (.int x1)] [] h (qI (fun _ h' => wS h' ∧ hk h h' ∧ IV h')) := (wl_119 n) h h x1 S (hk_r h) I
theorem wl_170 {X : aX} : ∀ n : Nat, (∀ (h0 h : aH) (x1 : Int32) (x2 : Int32) (x3 : Int32) (x4 : Int32), wS h → hk h0 h → IV h → Pt n X zM170 0 [some (.ref 0), some (.int x1), some (.int x2), some (.int x3), some (.int x4)] [] h (qI (fun _ h' => wS h' ∧ hk h0 h' ∧ IV h'))) := by
  intro n
  induction n with
  | zero => refine ?_ <;> (intros; exact pt_z)
  | succ n ih =>
    have ih170_0 := ih
    refine ?_
    · intro h0 h x1 x2 x3 x4 S G I
      obtain ⟨a1, z1⟩ : ∃ a : Int, x1.toInt = a := ⟨_, rfl⟩
      obtain ⟨a2, z2⟩ : ∃ a : Int, x2.toInt = a := ⟨_, rfl⟩
      obtain ⟨a3, z3⟩ : ∃ a : Int, x3.toInt = a := ⟨_, rfl⟩
      obtain ⟨a4, z4⟩ : ∃ a : Int, x4.toInt = a := ⟨_, rfl⟩
      refine pt_1 (fun n d => r_aloadn gx170_0 rfl) ?_
      refine pt_d (pt_getR gx170_1 S tr_0_0 ?_)
      refine pt_d (pt_1 (fun n d => r_iloadn gx170_4 rfl) ?_)
      refine pt_d (pt_virt (as := [.int x1]) (r := []) gx170_5 rfl (show zmt[75]? = some zM75 from rfl) rfl rfl rfl rfl (c_75 S z1) (kqP (fun v1002 h1002 => ?_)))
      show Pt _ _ _ 8 _ [.int v1002] _ _
      refine pt_d (pt_ifB_eq gx170_8 h1002 (fun e1003 => ?_) (fun e1003 => ?_))
      · skip
        refine pt_d (pt_iconst gx170_36 (fun v1004 h1004 => ?_))
        exact pt_d (pt_iret gx170_37 ⟨_, rfl, S, G, I⟩)
      · skip
        refine pt_d (pt_1 (fun n d => r_iloadn gx170_11 rfl) ?_)
        refine pt_d (pt_stat (as := [.int x2]) (r := []) gx170_12 rfl (show zmt[139]? = some zM139 from rfl) rfl rfl rfl rfl (c_139 S z2) (kqP (fun v1005 h1005 => ?_)))
        show Pt _ _ _ 15 _ [.int v1005] _ _
        refine pt_d (pt_ifB_eq gx170_15 h1005 (fun e1006 => ?_) (fun e1006 => ?_))
        · skip
          refine pt_d (pt_iconst gx170_36 (fun v1007 h1007 => ?_))
          exact pt_d (pt_iret gx170_37 ⟨_, rfl, S, G, I⟩)
        · skip
          refine pt_d (pt_1 (fun n d => r_iloadn gx170_18 rfl) ?_)
          refine pt_d (pt_stat (as := [.int x3]) (r := []) gx170_19 rfl (show zmt[138]? = some zM138 from rfl) rfl rfl rfl rfl (c_138 S z3) (kqP (fun v1008 h1008 => ?_)))
          show Pt _ _ _ 22 _ [.int v1008] _ _
          refine pt_d (pt_ifB_eq gx170_22 h1008 (fun e1009 => ?_) (fun e1009 => ?_))
          · skip
            refine pt_d (pt_iconst gx170_36 (fun v1010 h1010 => ?_))
            exact pt_d (pt_iret gx170_37 ⟨_, rfl, S, G, I⟩)
          · skip
            refine pt_d (pt_1 (fun n d => r_iload gx170_25 rfl) ?_)
            refine pt_d (pt_iconst gx170_27 (fun v1011 h1011 => ?_))
            refine pt_d (pt_bipush gx170_28 (fun v1012 h1012 => ?_))
            refine pt_d (pt_stat (as := [.int x4, .int v1011, .int v1012]) (r := []) gx170_30 rfl (show zmt[137]? = some zM137 from rfl) rfl rfl rfl rfl (c_137 S z4 h1011 h1012) (kqP (fun v1013 h1013 => ?_)))
            show Pt _ _ _ 33 _ [.int v1013] _ _
            refine pt_d (pt_ifB_ne gx170_33 h1013 (fun e1014 => ?_) (fun e1014 => ?_))
            · skip
              refine pt_d (pt_1 (fun n d => r_aloadn gx170_38 rfl) ?_)
              refine pt_d (pt_getR gx170_39 S tr_0_4 ?_)
              refine pt_d (pt_1 (fun n d => r_iloadn gx170_42 rfl) ?_)
              refine pt_d (pt_1 (fun n d => r_iloadn gx170_43 rfl) ?_)
              refine pt_d (pt_1 (fun n d => r_iloadn gx170_44 rfl) ?_)
              refine pt_d (pt_virt (as := [.int x1, .int x2, .int x3]) (r := []) gx170_45 rfl (show zmt[2]? = some zM2 from rfl) rfl rfl rfl rfl (wk_2 S z1 z2 z3 I) (kqN (fun h_1016 P1016 => ?_)))
              have S1016 := P1016.1
              have G1016 := hk_t G P1016.2.1
              have I1016 := P1016.2.2
              show Pt _ _ _ 48 _ [] _ _
              refine pt_d (pt_1 (fun n d => r_aloadn gx170_48 rfl) ?_)
              refine pt_d (pt_getR gx170_49 S1016 tr_0_4 ?_)
              refine pt_d (pt_getR gx170_52 S1016 tr_41_4 ?_)
              refine pt_d (pt_1 (fun n d => r_iload gx170_55 rfl) ?_)
              refine pt_d (pt_iald (N' := 13) gx170_57 S1016 tl_43 z4 (fun v1019 p1019 q1019 h1019 => ?_))
              exact pt_d (pt_iret gx170_58 ⟨_, rfl, S1016, G1016, I1016⟩)
            · skip
              refine pt_d (pt_iconst gx170_36 (fun v1020 h1020 => ?_))
              exact pt_d (pt_iret gx170_37 ⟨_, rfl, S, G, I⟩)
theorem wk_170 {n : Nat} {X : aX} {h : aH} {x1 : Int32} {x2 : Int32} {x3 : Int32} {x4 : Int32} {a1 : Int} {a2 : Int} {a3 : Int} {a4 : Int} (S : wS h) (z1 : x1.toInt = a1) (z2 : x2.toInt = a2) (z3 : x3.toInt = a3) (z4 : x4.toInt = a4) (I : IV h) : Pt n X zM170 0 [some (.ref 0), some (.int x1), some (.int x2), some (.int x3), some (.int x4)] [] h (qI (fun _ h' => wS h' ∧ hk h h' ∧ IV h')) := (wl_170 n) h h x1 x2 x3 x4 S (hk_r h) I
theorem wl_171 {X : aX} : ∀ n : Nat, (∀ (h0 h : aH) (x1 : Int32) (x2 : Int32) (x3 : Int32) (x4 : Int32), wS h → hk h0 h → IV h → Pt n X zM171 0 [some (.ref 0), some (.int x1), some (.int x2), some (.int x3), some (.int x4), none] [] h (qI (fun _ h' => wS h' ∧ hk h0 h' ∧ IV h'))) := by
  intro n
  induction n with
  | zero => refine ?_ <;> (intros; exact pt_z)
  | succ n ih =>
    have ih171_0 := ih
    refine ?_
    · intro h0 h x1 x2 x3 x4 S G I
      obtain ⟨a1, z1⟩ : ∃ a : Int, x1.toInt = a := ⟨_, rfl⟩
      obtain ⟨a2, z2⟩ : ∃ a : Int, x2.toInt = a := ⟨_, rfl⟩
      obtain ⟨a3, z3⟩ : ∃ a : Int, x3.toInt = a := ⟨_, rfl⟩
      obtain ⟨a4, z4⟩ : ∃ a : Int, x4.toInt = a := ⟨_, rfl⟩
      refine pt_1 (fun n d => r_aloadn gx171_0 rfl) ?_
      refine pt_d (pt_getR gx171_1 S tr_0_0 ?_)
      refine pt_d (pt_1 (fun n d => r_iloadn gx171_4 rfl) ?_)
      refine pt_d (pt_virt (as := [.int x1]) (r := []) gx171_5 rfl (show zmt[75]? = some zM75 from rfl) rfl rfl rfl rfl (c_75 S z1) (kqP (fun v1002 h1002 => ?_)))
      show Pt _ _ _ 8 _ [.int v1002] _ _
      refine pt_d (pt_ifB_eq gx171_8 h1002 (fun e1003 => ?_) (fun e1003 => ?_))
      · skip
        refine pt_d (pt_ldc (c := (-2000000000)) gx171_36 rfl (fun v1004 h1004 => ?_))
        exact pt_d (pt_iret gx171_38 ⟨_, rfl, S, G, I⟩)
      · skip
        refine pt_d (pt_1 (fun n d => r_iloadn gx171_11 rfl) ?_)
        refine pt_d (pt_stat (as := [.int x2]) (r := []) gx171_12 rfl (show zmt[139]? = some zM139 from rfl) rfl rfl rfl rfl (c_139 S z2) (kqP (fun v1005 h1005 => ?_)))
        show Pt _ _ _ 15 _ [.int v1005] _ _
        refine pt_d (pt_ifB_eq gx171_15 h1005 (fun e1006 => ?_) (fun e1006 => ?_))
        · skip
          refine pt_d (pt_ldc (c := (-2000000000)) gx171_36 rfl (fun v1007 h1007 => ?_))
          exact pt_d (pt_iret gx171_38 ⟨_, rfl, S, G, I⟩)
        · skip
          refine pt_d (pt_1 (fun n d => r_iloadn gx171_18 rfl) ?_)
          refine pt_d (pt_stat (as := [.int x3]) (r := []) gx171_19 rfl (show zmt[138]? = some zM138 from rfl) rfl rfl rfl rfl (c_138 S z3) (kqP (fun v1008 h1008 => ?_)))
          show Pt _ _ _ 22 _ [.int v1008] _ _
          refine pt_d (pt_ifB_eq gx171_22 h1008 (fun e1009 => ?_) (fun e1009 => ?_))
          · skip
            refine pt_d (pt_ldc (c := (-2000000000)) gx171_36 rfl (fun v1010 h1010 => ?_))
            exact pt_d (pt_iret gx171_38 ⟨_, rfl, S, G, I⟩)
          · skip
            refine pt_d (pt_1 (fun n d => r_iload gx171_25 rfl) ?_)
            refine pt_d (pt_iconst gx171_27 (fun v1011 h1011 => ?_))
            refine pt_d (pt_bipush gx171_28 (fun v1012 h1012 => ?_))
            refine pt_d (pt_stat (as := [.int x4, .int v1011, .int v1012]) (r := []) gx171_30 rfl (show zmt[137]? = some zM137 from rfl) rfl rfl rfl rfl (c_137 S z4 h1011 h1012) (kqP (fun v1013 h1013 => ?_)))
            show Pt _ _ _ 33 _ [.int v1013] _ _
            refine pt_d (pt_ifB_ne gx171_33 h1013 (fun e1014 => ?_) (fun e1014 => ?_))
            · skip
              refine pt_d (pt_1 (fun n d => r_aloadn gx171_39 rfl) ?_)
              refine pt_d (pt_getR gx171_40 S tr_0_4 ?_)
              refine pt_d (pt_1 (fun n d => r_iloadn gx171_43 rfl) ?_)
              refine pt_d (pt_1 (fun n d => r_iloadn gx171_44 rfl) ?_)
              refine pt_d (pt_1 (fun n d => r_iloadn gx171_45 rfl) ?_)
              refine pt_d (pt_iconst gx171_46 (fun v1016 h1016 => ?_))
              refine pt_d (pt_virt (as := [.int x1, .int x2, .int x3, .int v1016]) (r := []) gx171_47 rfl (show zmt[8]? = some zM8 from rfl) rfl rfl rfl rfl (wk_8 S z1 z2 z3 h1016 I) (kqI (fun v1017 y1017 h_1017 h1017 P1017 => ?_)))
              have S1017 := P1017.1
              have G1017 := hk_t G P1017.2.1
              have I1017 := P1017.2.2
              show Pt _ _ _ 50 _ [.int v1017] _ _
              refine pt_d (pt_1 (fun n d => r_istore (L' := [some (.ref 0), some (.int x1), some (.int x2), some (.int x3), some (.int x4), some (.int v1017)]) gx171_50 rfl rfl) ?_)
              refine pt_d (pt_1 (fun n d => r_iload gx171_52 rfl) ?_)
              refine pt_d (pt_if_ne gx171_54 z4 (fun e1018 => ?_) (fun e1018 => ?_))
              · skip
                refine pt_d (pt_1 (fun n d => r_iload gx171_60 rfl) ?_)
                refine pt_d (pt_bipush gx171_62 (fun v1019 h1019 => ?_))
                refine pt_d (pt_icmp_ne gx171_64 z4 h1019 (fun e1020 => ?_) (fun e1020 => ?_))
                · skip
                  refine pt_d (pt_1 (fun n d => r_aloadn gx171_77 rfl) ?_)
                  refine pt_d (pt_getR gx171_78 S1017 tr_0_4 ?_)
                  refine pt_d (pt_getR gx171_81 S1017 tr_41_6 ?_)
                  refine pt_d (pt_1 (fun n d => r_iload gx171_84 rfl) ?_)
                  refine pt_d (pt_iald (N' := 6) gx171_86 S1017 tl_45 z4 (fun v1023 p1023 q1023 h1023 => ?_))
                  exact pt_d (pt_iret gx171_87 ⟨_, rfl, S1017, G1017, I1017⟩)
                · skip
                  refine pt_d (pt_1 (fun n d => r_aloadn gx171_67 rfl) ?_)
                  refine pt_d (pt_getR gx171_68 S1017 tr_0_4 ?_)
                  refine pt_d (pt_getI (B := 7) gx171_71 S1017 (fun v1025 h1025 => ?_))
                  refine pt_d (pt_1 (fun n d => r_goto gx171_74) ?_)
                  exact pt_d (pt_iret gx171_87 ⟨_, rfl, S1017, G1017, I1017⟩)
              · skip
                refine pt_d (pt_1 (fun n d => r_iload gx171_57 rfl) ?_)
                exact pt_d (pt_iret gx171_59 ⟨_, rfl, S1017, G1017, I1017⟩)
            · skip
              refine pt_d (pt_ldc (c := (-2000000000)) gx171_36 rfl (fun v1026 h1026 => ?_))
              exact pt_d (pt_iret gx171_38 ⟨_, rfl, S, G, I⟩)
theorem wk_171 {n : Nat} {X : aX} {h : aH} {x1 : Int32} {x2 : Int32} {x3 : Int32} {x4 : Int32} {a1 : Int} {a2 : Int} {a3 : Int} {a4 : Int} (S : wS h) (z1 : x1.toInt = a1) (z2 : x2.toInt = a2) (z3 : x3.toInt = a3) (z4 : x4.toInt = a4) (I : IV h) : Pt n X zM171 0 [some (.ref 0), some (.int x1), some (.int x2), some (.int x3), some (.int x4), none] [] h (qI (fun _ h' => wS h' ∧ hk h h' ∧ IV h')) := (wl_171 n) h h x1 x2 x3 x4 S (hk_r h) I
theorem wl_172 {X : aX} : ∀ n : Nat, (∀ (h0 h : aH) (x1 : Int32) (x2 : Int32), wS h → hk h0 h → IV h → Pt n X zM172 0 [some (.ref 0), some (.int x1), some (.int x2)] [] h (qI (fun _ h' => wS h' ∧ hk h0 h' ∧ IV h'))) := by
  intro n
  induction n with
  | zero => refine ?_ <;> (intros; exact pt_z)
  | succ n ih =>
    have ih172_0 := ih
    refine ?_
    · intro h0 h x1 x2 S G I
      obtain ⟨a1, z1⟩ : ∃ a : Int, x1.toInt = a := ⟨_, rfl⟩
      obtain ⟨a2, z2⟩ : ∃ a : Int, x2.toInt = a := ⟨_, rfl⟩
      refine pt_1 (fun n d => r_aloadn gx172_0 rfl) ?_
      refine pt_d (pt_getR gx172_1 S tr_0_0 ?_)
      refine pt_d (pt_1 (fun n d => r_iloadn gx172_4 rfl) ?_)
      refine pt_d (pt_virt (as := [.int x1]) (r := []) gx172_5 rfl (show zmt[75]? = some zM75 from rfl) rfl rfl rfl rfl (c_75 S z1) (kqP (fun v1002 h1002 => ?_)))
      show Pt _ _ _ 8 _ [.int v1002] _ _
      refine pt_d (pt_ifB_eq gx172_8 h1002 (fun e1003 => ?_) (fun e1003 => ?_))
      · skip
        refine pt_d (pt_iconst gx172_30 (fun v1004 h1004 => ?_))
        exact pt_d (pt_iret gx172_31 ⟨_, rfl, S, G, I⟩)
      · skip
        refine pt_d (pt_1 (fun n d => r_iloadn gx172_11 rfl) ?_)
        refine pt_d (pt_iconst gx172_12 (fun v1005 h1005 => ?_))
        refine pt_d (pt_1 (fun n d => r_aloadn gx172_13 rfl) ?_)
        refine pt_d (pt_getR gx172_14 S tr_0_0 ?_)
        refine pt_d (pt_getI (B := 0) gx172_17 S (fun v1007 h1007 => ?_))
        refine pt_d (pt_sipush gx172_20 (fun v1008 h1008 => ?_))
        refine pt_d (pt_idiv gx172_23 h1007 h1008 (fun v1009 h1009 => ?_))
        refine pt_d (pt_stat (as := [.int x2, .int v1005, .int v1009]) (r := []) gx172_24 rfl (show zmt[137]? = some zM137 from rfl) rfl rfl rfl rfl (c_137 S z2 h1005 h1009) (kqP (fun v1010 h1010 => ?_)))
        show Pt _ _ _ 27 _ [.int v1010] _ _
        refine pt_d (pt_ifB_ne gx172_27 h1010 (fun e1011 => ?_) (fun e1011 => ?_))
        · skip
          refine pt_d (pt_1 (fun n d => r_aloadn gx172_32 rfl) ?_)
          refine pt_d (pt_getR gx172_33 S tr_0_4 ?_)
          refine pt_d (pt_1 (fun n d => r_iloadn gx172_36 rfl) ?_)
          refine pt_d (pt_1 (fun n d => r_iloadn gx172_37 rfl) ?_)
          refine pt_d (pt_virt (as := [.int x1, .int x2]) (r := []) gx172_38 rfl (show zmt[14]? = some zM14 from rfl) rfl rfl rfl rfl (wk_14 S z1 z2 I) (kqI (fun v1013 y1013 h_1013 h1013 P1013 => ?_)))
          have S1013 := P1013.1
          have G1013 := hk_t G P1013.2.1
          have I1013 := P1013.2.2
          show Pt _ _ _ 41 _ [.int v1013] _ _
          exact pt_d (pt_iret gx172_41 ⟨_, rfl, S1013, G1013, I1013⟩)
        · skip
          refine pt_d (pt_iconst gx172_30 (fun v1014 h1014 => ?_))
          exact pt_d (pt_iret gx172_31 ⟨_, rfl, S, G, I⟩)
theorem wk_172 {n : Nat} {X : aX} {h : aH} {x1 : Int32} {x2 : Int32} {a1 : Int} {a2 : Int} (S : wS h) (z1 : x1.toInt = a1) (z2 : x2.toInt = a2) (I : IV h) : Pt n X zM172 0 [some (.ref 0), some (.int x1), some (.int x2)] [] h (qI (fun _ h' => wS h' ∧ hk h h' ∧ IV h')) := (wl_172 n) h h x1 x2 S (hk_r h) I
theorem wl_173 {X : aX} : ∀ n : Nat, (∀ (h0 h : aH) (x1 : Int32), wS h → hk h0 h → IV h → Pt n X zM173 0 [some (.ref 0), some (.int x1)] [] h (qI (fun _ h' => wS h' ∧ hk h0 h' ∧ IV h'))) := by
  intro n
  induction n with
  | zero => refine ?_ <;> (intros; exact pt_z)
  | succ n ih =>
    have ih173_0 := ih
    refine ?_
    · intro h0 h x1 S G I
      obtain ⟨a1, z1⟩ : ∃ a : Int, x1.toInt = a := ⟨_, rfl⟩
      refine pt_1 (fun n d => r_aloadn gx173_0 rfl) ?_
      refine pt_d (pt_getR gx173_1 S tr_0_0 ?_)
      refine pt_d (pt_1 (fun n d => r_iloadn gx173_4 rfl) ?_)
      refine pt_d (pt_virt (as := [.int x1]) (r := []) gx173_5 rfl (show zmt[75]? = some zM75 from rfl) rfl rfl rfl rfl (c_75 S z1) (kqP (fun v1002 h1002 => ?_)))
      show Pt _ _ _ 8 _ [.int v1002] _ _
      refine pt_d (pt_ifB_eq gx173_8 h1002 (fun e1003 => ?_) (fun e1003 => ?_))
      · skip
        refine pt_d (pt_ldc (c := (-2000000000)) gx173_22 rfl (fun v1004 h1004 => ?_))
        exact pt_d (pt_iret gx173_24 ⟨_, rfl, S, G, I⟩)
      · skip
        refine pt_d (pt_1 (fun n d => r_aloadn gx173_11 rfl) ?_)
        refine pt_d (pt_getR gx173_12 S tr_0_4 ?_)
        refine pt_d (pt_1 (fun n d => r_iloadn gx173_15 rfl) ?_)
        refine pt_d (pt_virt (as := [.int x1]) (r := []) gx173_16 rfl (show zmt[15]? = some zM15 from rfl) rfl rfl rfl rfl (wk_15 S z1 I) (kqI (fun v1006 y1006 h_1006 h1006 P1006 => ?_)))
        have S1006 := P1006.1
        have G1006 := hk_t G P1006.2.1
        have I1006 := P1006.2.2
        show Pt _ _ _ 19 _ [.int v1006] _ _
        refine pt_d (pt_1 (fun n d => r_goto gx173_19) ?_)
        exact pt_d (pt_iret gx173_24 ⟨_, rfl, S1006, G1006, I1006⟩)
theorem wk_173 {n : Nat} {X : aX} {h : aH} {x1 : Int32} {a1 : Int} (S : wS h) (z1 : x1.toInt = a1) (I : IV h) : Pt n X zM173 0 [some (.ref 0), some (.int x1)] [] h (qI (fun _ h' => wS h' ∧ hk h h' ∧ IV h')) := (wl_173 n) h h x1 S (hk_r h) I
theorem wl_174 {X : aX} : ∀ n : Nat, (∀ (h0 h : aH) (x1 : Int32) (x2 : Int32) (x3 : Int32), wS h → hk h0 h → IV h → Pt n X zM174 0 [some (.ref 0), some (.int x1), some (.int x2), some (.int x3)] [] h (qI (fun _ h' => wS h' ∧ hk h0 h' ∧ IV h'))) := by
  intro n
  induction n with
  | zero => refine ?_ <;> (intros; exact pt_z)
  | succ n ih =>
    have ih174_0 := ih
    refine ?_
    · intro h0 h x1 x2 x3 S G I
      obtain ⟨a1, z1⟩ : ∃ a : Int, x1.toInt = a := ⟨_, rfl⟩
      obtain ⟨a2, z2⟩ : ∃ a : Int, x2.toInt = a := ⟨_, rfl⟩
      obtain ⟨a3, z3⟩ : ∃ a : Int, x3.toInt = a := ⟨_, rfl⟩
      refine pt_1 (fun n d => r_aloadn gx174_0 rfl) ?_
      refine pt_d (pt_getR gx174_1 S tr_0_0 ?_)
      refine pt_d (pt_1 (fun n d => r_iloadn gx174_4 rfl) ?_)
      refine pt_d (pt_virt (as := [.int x1]) (r := []) gx174_5 rfl (show zmt[75]? = some zM75 from rfl) rfl rfl rfl rfl (c_75 S z1) (kqP (fun v1002 h1002 => ?_)))
      show Pt _ _ _ 8 _ [.int v1002] _ _
      refine pt_d (pt_ifB_eq gx174_8 h1002 (fun e1003 => ?_) (fun e1003 => ?_))
      · skip
        refine pt_d (pt_iconst gx174_29 (fun v1004 h1004 => ?_))
        exact pt_d (pt_iret gx174_30 ⟨_, rfl, S, G, I⟩)
      · skip
        refine pt_d (pt_1 (fun n d => r_iloadn gx174_11 rfl) ?_)
        refine pt_d (pt_stat (as := [.int x2]) (r := []) gx174_12 rfl (show zmt[139]? = some zM139 from rfl) rfl rfl rfl rfl (c_139 S z2) (kqP (fun v1005 h1005 => ?_)))
        show Pt _ _ _ 15 _ [.int v1005] _ _
        refine pt_d (pt_ifB_eq gx174_15 h1005 (fun e1006 => ?_) (fun e1006 => ?_))
        · skip
          refine pt_d (pt_iconst gx174_29 (fun v1007 h1007 => ?_))
          exact pt_d (pt_iret gx174_30 ⟨_, rfl, S, G, I⟩)
        · skip
          refine pt_d (pt_1 (fun n d => r_iloadn gx174_18 rfl) ?_)
          refine pt_d (pt_iconst gx174_19 (fun v1008 h1008 => ?_))
          refine pt_d (pt_ldc_w (c := 2000000000) gx174_20 rfl (fun v1009 h1009 => ?_))
          refine pt_d (pt_stat (as := [.int x3, .int v1008, .int v1009]) (r := []) gx174_23 rfl (show zmt[137]? = some zM137 from rfl) rfl rfl rfl rfl (c_137 S z3 h1008 h1009) (kqP (fun v1010 h1010 => ?_)))
          show Pt _ _ _ 26 _ [.int v1010] _ _
          refine pt_d (pt_ifB_ne gx174_26 h1010 (fun e1011 => ?_) (fun e1011 => ?_))
          · skip
            refine pt_d (pt_1 (fun n d => r_aloadn gx174_31 rfl) ?_)
            refine pt_d (pt_getR gx174_32 S tr_0_4 ?_)
            refine pt_d (pt_1 (fun n d => r_iloadn gx174_35 rfl) ?_)
            refine pt_d (pt_1 (fun n d => r_iloadn gx174_36 rfl) ?_)
            refine pt_d (pt_1 (fun n d => r_iloadn gx174_37 rfl) ?_)
            refine pt_d (pt_virt (as := [.int x1, .int x2, .int x3]) (r := []) gx174_38 rfl (show zmt[16]? = some zM16 from rfl) rfl rfl rfl rfl (wk_16 S z1 z2 z3 I) (kqI (fun v1013 y1013 h_1013 h1013 P1013 => ?_)))
            have S1013 := P1013.1
            have G1013 := hk_t G P1013.2.1
            have I1013 := P1013.2.2
            show Pt _ _ _ 41 _ [.int v1013] _ _
            exact pt_d (pt_iret gx174_41 ⟨_, rfl, S1013, G1013, I1013⟩)
          · skip
            refine pt_d (pt_iconst gx174_29 (fun v1014 h1014 => ?_))
            exact pt_d (pt_iret gx174_30 ⟨_, rfl, S, G, I⟩)
theorem wk_174 {n : Nat} {X : aX} {h : aH} {x1 : Int32} {x2 : Int32} {x3 : Int32} {a1 : Int} {a2 : Int} {a3 : Int} (S : wS h) (z1 : x1.toInt = a1) (z2 : x2.toInt = a2) (z3 : x3.toInt = a3) (I : IV h) : Pt n X zM174 0 [some (.ref 0), some (.int x1), some (.int x2), some (.int x3)] [] h (qI (fun _ h' => wS h' ∧ hk h h' ∧ IV h')) := (wl_174 n) h h x1 x2 x3 S (hk_r h) I
theorem wl_175 {X : aX} : ∀ n : Nat, (∀ (h0 h : aH) (x1 : Int32), wS h → hk h0 h → IV h → Pt n X zM175 0 [some (.ref 0), some (.int x1)] [] h (qI (fun _ h' => wS h' ∧ hk h0 h' ∧ IV h'))) := by
  intro n
  induction n with
  | zero => refine ?_ <;> (intros; exact pt_z)
  | succ n ih =>
    have ih175_0 := ih
    refine ?_
    · intro h0 h x1 S G I
      obtain ⟨a1, z1⟩ : ∃ a : Int, x1.toInt = a := ⟨_, rfl⟩
      refine pt_1 (fun n d => r_iloadn gx175_0 rfl) ?_
      refine pt_d (pt_stat (as := [.int x1]) (r := []) gx175_1 rfl (show zmt[139]? = some zM139 from rfl) rfl rfl rfl rfl (c_139 S z1) (kqP (fun v1001 h1001 => ?_)))
      show Pt _ _ _ 4 _ [.int v1001] _ _
      refine pt_d (pt_ifB_eq gx175_4 h1001 (fun e1002 => ?_) (fun e1002 => ?_))
      · skip
        refine pt_d (pt_iconst gx175_32 (fun v1003 h1003 => ?_))
        exact pt_d (pt_iret gx175_33 ⟨_, rfl, S, G, I⟩)
      · skip
        refine pt_d (pt_1 (fun n d => r_aloadn gx175_7 rfl) ?_)
        refine pt_d (pt_getR gx175_8 S tr_0_5 ?_)
        refine pt_d (pt_1 (fun n d => r_aloadn gx175_11 rfl) ?_)
        refine pt_d (pt_getR gx175_12 S tr_0_4 ?_)
        refine pt_d (pt_1 (fun n d => r_iloadn gx175_15 rfl) ?_)
        refine pt_d (pt_1 (fun n d => r_aloadn gx175_16 rfl) ?_)
        refine pt_d (pt_getR gx175_17 S tr_0_0 ?_)
        refine pt_d (pt_getI (B := 0) gx175_20 S (fun v1007 h1007 => ?_))
        refine pt_d (pt_virt (as := [.int x1, .int v1007]) (r := [.ref 48]) gx175_23 rfl (show zmt[1]? = some zM1 from rfl) rfl rfl rfl rfl (wk_1 S z1 h1007 I) (kqR (fun q1008 h_1008 P1008 => ?_)))
        have S1008 := P1008.1
        have G1008 := hk_t G P1008.2.1
        have I1008 := P1008.2.2
        show Pt _ _ _ 26 _ [.ref q1008, .ref 48] _ _
        refine pt_d (pt_virt (as := [.ref q1008]) (r := []) gx175_26 rfl (show zmt[53]? = some zM53 from rfl) rfl rfl rfl rfl (wk_53 S1008 I1008) (kqI (fun v1009 y1009 h_1009 h1009 P1009 => ?_)))
        have S1009 := P1009.1
        have G1009 := hk_t G1008 P1009.2.1
        have I1009 := P1009.2.2
        show Pt _ _ _ 29 _ [.int v1009] _ _
        refine pt_d (pt_1 (fun n d => r_goto gx175_29) ?_)
        exact pt_d (pt_iret gx175_33 ⟨_, rfl, S1009, G1009, I1009⟩)
theorem wk_175 {n : Nat} {X : aX} {h : aH} {x1 : Int32} {a1 : Int} (S : wS h) (z1 : x1.toInt = a1) (I : IV h) : Pt n X zM175 0 [some (.ref 0), some (.int x1)] [] h (qI (fun _ h' => wS h' ∧ hk h h' ∧ IV h')) := (wl_175 n) h h x1 S (hk_r h) I
theorem wl_178 {X : aX} : ∀ n : Nat, (∀ (h0 h : aH) (x1 : Int32) (x2 : Int32) (x3 : Int32), wS h → hk h0 h → IV h → Pt n X zM178 0 [some (.ref 0), some (.int x1), some (.int x2), some (.int x3)] [] h (qI (fun _ h' => wS h' ∧ hk h0 h' ∧ IV h'))) := by
  intro n
  induction n with
  | zero => refine ?_ <;> (intros; exact pt_z)
  | succ n ih =>
    have ih178_0 := ih
    refine ?_
    · intro h0 h x1 x2 x3 S G I
      obtain ⟨a1, z1⟩ : ∃ a : Int, x1.toInt = a := ⟨_, rfl⟩
      obtain ⟨a2, z2⟩ : ∃ a : Int, x2.toInt = a := ⟨_, rfl⟩
      obtain ⟨a3, z3⟩ : ∃ a : Int, x3.toInt = a := ⟨_, rfl⟩
      refine pt_1 (fun n d => r_iloadn gx178_0 rfl) ?_
      refine pt_d (pt_stat (as := [.int x1]) (r := []) gx178_1 rfl (show zmt[140]? = some zM140 from rfl) rfl rfl rfl rfl (c_140 S z1) (kqP (fun v1001 h1001 => ?_)))
      show Pt _ _ _ 4 _ [.int v1001] _ _
      refine pt_d (pt_ifB_eq gx178_4 h1001 (fun e1002 => ?_) (fun e1002 => ?_))
      · skip
        refine pt_d (pt_iconst gx178_24 (fun v1003 h1003 => ?_))
        exact pt_d (pt_iret gx178_25 ⟨_, rfl, S, G, I⟩)
      · skip
        refine pt_d (pt_1 (fun n d => r_iloadn gx178_7 rfl) ?_)
        refine pt_d (pt_stat (as := [.int x2]) (r := []) gx178_8 rfl (show zmt[139]? = some zM139 from rfl) rfl rfl rfl rfl (c_139 S z2) (kqP (fun v1004 h1004 => ?_)))
        show Pt _ _ _ 11 _ [.int v1004] _ _
        refine pt_d (pt_ifB_eq gx178_11 h1004 (fun e1005 => ?_) (fun e1005 => ?_))
        · skip
          refine pt_d (pt_iconst gx178_24 (fun v1006 h1006 => ?_))
          exact pt_d (pt_iret gx178_25 ⟨_, rfl, S, G, I⟩)
        · skip
          refine pt_d (pt_1 (fun n d => r_iloadn gx178_14 rfl) ?_)
          refine pt_d (pt_iconst gx178_15 (fun v1007 h1007 => ?_))
          refine pt_d (pt_bipush gx178_16 (fun v1008 h1008 => ?_))
          refine pt_d (pt_stat (as := [.int x3, .int v1007, .int v1008]) (r := []) gx178_18 rfl (show zmt[137]? = some zM137 from rfl) rfl rfl rfl rfl (c_137 S z3 h1007 h1008) (kqP (fun v1009 h1009 => ?_)))
          show Pt _ _ _ 21 _ [.int v1009] _ _
          refine pt_d (pt_ifB_ne gx178_21 h1009 (fun e1010 => ?_) (fun e1010 => ?_))
          · skip
            refine pt_d (pt_1 (fun n d => r_aloadn gx178_26 rfl) ?_)
            refine pt_d (pt_getR gx178_27 S tr_0_5 ?_)
            refine pt_d (pt_1 (fun n d => r_iloadn gx178_30 rfl) ?_)
            refine pt_d (pt_1 (fun n d => r_iloadn gx178_31 rfl) ?_)
            refine pt_d (pt_1 (fun n d => r_iloadn gx178_32 rfl) ?_)
            refine pt_d (pt_virt (as := [.int x1, .int x2, .int x3]) (r := []) gx178_33 rfl (show zmt[61]? = some zM61 from rfl) rfl rfl rfl rfl (wk_61 S z1 z2 z3 I) (kqI (fun v1012 y1012 h_1012 h1012 P1012 => ?_)))
            have S1012 := P1012.1
            have G1012 := hk_t G P1012.2.1
            have I1012 := P1012.2.2
            show Pt _ _ _ 36 _ [.int v1012] _ _
            exact pt_d (pt_iret gx178_36 ⟨_, rfl, S1012, G1012, I1012⟩)
          · skip
            refine pt_d (pt_iconst gx178_24 (fun v1013 h1013 => ?_))
            exact pt_d (pt_iret gx178_25 ⟨_, rfl, S, G, I⟩)
theorem wk_178 {n : Nat} {X : aX} {h : aH} {x1 : Int32} {x2 : Int32} {x3 : Int32} {a1 : Int} {a2 : Int} {a3 : Int} (S : wS h) (z1 : x1.toInt = a1) (z2 : x2.toInt = a2) (z3 : x3.toInt = a3) (I : IV h) : Pt n X zM178 0 [some (.ref 0), some (.int x1), some (.int x2), some (.int x3)] [] h (qI (fun _ h' => wS h' ∧ hk h h' ∧ IV h')) := (wl_178 n) h h x1 x2 x3 S (hk_r h) I
theorem wl_180 {X : aX} : ∀ n : Nat, (∀ (h0 h : aH) (x1 : Int32) (x2 : Int32) (x3 : Int32), wS h → hk h0 h → IV h → Pt n X zM180 0 [some (.ref 0), some (.int x1), some (.int x2), some (.int x3)] [] h (qI (fun _ h' => wS h' ∧ hk h0 h' ∧ IV h'))) := by
  intro n
  induction n with
  | zero => refine ?_ <;> (intros; exact pt_z)
  | succ n ih =>
    have ih180_0 := ih
    refine ?_
    · intro h0 h x1 x2 x3 S G I
      obtain ⟨a1, z1⟩ : ∃ a : Int, x1.toInt = a := ⟨_, rfl⟩
      obtain ⟨a2, z2⟩ : ∃ a : Int, x2.toInt = a := ⟨_, rfl⟩
      obtain ⟨a3, z3⟩ : ∃ a : Int, x3.toInt = a := ⟨_, rfl⟩
      refine pt_1 (fun n d => r_iloadn gx180_0 rfl) ?_
      refine pt_d (pt_stat (as := [.int x1]) (r := []) gx180_1 rfl (show zmt[139]? = some zM139 from rfl) rfl rfl rfl rfl (c_139 S z1) (kqP (fun v1001 h1001 => ?_)))
      show Pt _ _ _ 4 _ [.int v1001] _ _
      refine pt_d (pt_ifB_eq gx180_4 h1001 (fun e1002 => ?_) (fun e1002 => ?_))
      · skip
        refine pt_d (pt_iconst gx180_16 (fun v1003 h1003 => ?_))
        exact pt_d (pt_iret gx180_17 ⟨_, rfl, S, G, I⟩)
      · skip
        refine pt_d (pt_1 (fun n d => r_iloadn gx180_7 rfl) ?_)
        refine pt_d (pt_iconst gx180_8 (fun v1004 h1004 => ?_))
        refine pt_d (pt_iconst gx180_9 (fun v1005 h1005 => ?_))
        refine pt_d (pt_stat (as := [.int x2, .int v1004, .int v1005]) (r := []) gx180_10 rfl (show zmt[137]? = some zM137 from rfl) rfl rfl rfl rfl (c_137 S z2 h1004 h1005) (kqP (fun v1006 h1006 => ?_)))
        show Pt _ _ _ 13 _ [.int v1006] _ _
        refine pt_d (pt_ifB_ne gx180_13 h1006 (fun e1007 => ?_) (fun e1007 => ?_))
        · skip
          refine pt_d (pt_1 (fun n d => r_iloadn gx180_18 rfl) ?_)
          refine pt_d (pt_iconst gx180_19 (fun v1008 h1008 => ?_))
          refine pt_d (pt_icmp_ne gx180_20 z2 h1008 (fun e1009 => ?_) (fun e1009 => ?_))
          · skip
            refine pt_d (pt_1 (fun n d => r_aloadn gx180_51 rfl) ?_)
            refine pt_d (pt_getR gx180_52 S tr_0_5 ?_)
            refine pt_d (pt_1 (fun n d => r_iloadn gx180_55 rfl) ?_)
            refine pt_d (pt_virt (as := [.int x1]) (r := []) gx180_56 rfl (show zmt[66]? = some zM66 from rfl) rfl rfl rfl rfl (wk_66 S z1 I) (kqN (fun h_1011 P1011 => ?_)))
            have S1011 := P1011.1
            have G1011 := hk_t G P1011.2.1
            have I1011 := P1011.2.2
            show Pt _ _ _ 59 _ [] _ _
            refine pt_d (pt_1 (fun n d => r_iloadn gx180_59 rfl) ?_)
            refine pt_d (pt_lsw gx180_60 ?_)
            refine pb_c (lo := 0) (p := 88) z2 (fun e1012 => ?_) (fun e1012 => ?_)
            · skip
              refine pt_d (pt_1 (fun n d => r_aloadn gx180_88 rfl) ?_)
              refine pt_d (pt_getR gx180_89 S1011 tr_0_5 ?_)
              refine pt_d (pt_getI (B := 13) gx180_92 S1011 (fun v1014 h1014 => ?_))
              exact pt_d (pt_iret gx180_95 ⟨_, rfl, S1011, G1011, I1011⟩)
            refine pb_c (lo := 1) (p := 96) z2 (fun e1015 => ?_) (fun e1015 => ?_)
            · skip
              refine pt_d (pt_1 (fun n d => r_aloadn gx180_96 rfl) ?_)
              refine pt_d (pt_getR gx180_97 S1011 tr_0_5 ?_)
              refine pt_d (pt_getI (B := 14) gx180_100 S1011 (fun v1017 h1017 => ?_))
              exact pt_d (pt_iret gx180_103 ⟨_, rfl, S1011, G1011, I1011⟩)
            refine pb_0 (p := 104) ?_
            refine pt_d (pt_1 (fun n d => r_aloadn gx180_104 rfl) ?_)
            refine pt_d (pt_getR gx180_105 S1011 tr_0_5 ?_)
            refine pt_d (pt_1 (fun n d => r_iloadn gx180_108 rfl) ?_)
            refine pt_d (pt_bipush gx180_109 (fun v1019 h1019 => ?_))
            refine pt_d (pt_idiv gx180_111 z3 h1019 (fun v1020 h1020 => ?_))
            refine pt_d (pt_1 (fun n d => r_iloadn gx180_112 rfl) ?_)
            refine pt_d (pt_bipush gx180_113 (fun v1021 h1021 => ?_))
            refine pt_d (pt_irem gx180_115 z3 h1021 (fun v1022 h1022 => ?_))
            refine pt_d (pt_virt (as := [.int v1020, .int v1022]) (r := []) gx180_116 rfl (show zmt[67]? = some zM67 from rfl) rfl rfl rfl rfl (wk_67 S1011 h1020 h1022 I1011) (kqI (fun v1023 y1023 h_1023 h1023 P1023 => ?_)))
            have S1023 := P1023.1
            have G1023 := hk_t G1011 P1023.2.1
            have I1023 := P1023.2.2
            show Pt _ _ _ 119 _ [.int v1023] _ _
            exact pt_d (pt_iret gx180_119 ⟨_, rfl, S1023, G1023, I1023⟩)
          · skip
            refine pt_d (pt_1 (fun n d => r_iloadn gx180_23 rfl) ?_)
            refine pt_d (pt_bipush gx180_24 (fun v1024 h1024 => ?_))
            refine pt_d (pt_idiv gx180_26 z3 h1024 (fun v1025 h1025 => ?_))
            refine pt_d (pt_iconst gx180_27 (fun v1026 h1026 => ?_))
            refine pt_d (pt_bipush gx180_28 (fun v1027 h1027 => ?_))
            refine pt_d (pt_stat (as := [.int v1025, .int v1026, .int v1027]) (r := []) gx180_30 rfl (show zmt[137]? = some zM137 from rfl) rfl rfl rfl rfl (c_137 S h1025 h1026 h1027) (kqP (fun v1028 h1028 => ?_)))
            show Pt _ _ _ 33 _ [.int v1028] _ _
            refine pt_d (pt_ifB_eq gx180_33 h1028 (fun e1029 => ?_) (fun e1029 => ?_))
            · skip
              refine pt_d (pt_iconst gx180_49 (fun v1030 h1030 => ?_))
              exact pt_d (pt_iret gx180_50 ⟨_, rfl, S, G, I⟩)
            · skip
              refine pt_d (pt_1 (fun n d => r_iloadn gx180_36 rfl) ?_)
              refine pt_d (pt_bipush gx180_37 (fun v1031 h1031 => ?_))
              refine pt_d (pt_irem gx180_39 z3 h1031 (fun v1032 h1032 => ?_))
              refine pt_d (pt_iconst gx180_40 (fun v1033 h1033 => ?_))
              refine pt_d (pt_bipush gx180_41 (fun v1034 h1034 => ?_))
              refine pt_d (pt_stat (as := [.int v1032, .int v1033, .int v1034]) (r := []) gx180_43 rfl (show zmt[137]? = some zM137 from rfl) rfl rfl rfl rfl (c_137 S h1032 h1033 h1034) (kqP (fun v1035 h1035 => ?_)))
              show Pt _ _ _ 46 _ [.int v1035] _ _
              refine pt_d (pt_ifB_ne gx180_46 h1035 (fun e1036 => ?_) (fun e1036 => ?_))
              · skip
                refine pt_d (pt_1 (fun n d => r_aloadn gx180_51 rfl) ?_)
                refine pt_d (pt_getR gx180_52 S tr_0_5 ?_)
                refine pt_d (pt_1 (fun n d => r_iloadn gx180_55 rfl) ?_)
                refine pt_d (pt_virt (as := [.int x1]) (r := []) gx180_56 rfl (show zmt[66]? = some zM66 from rfl) rfl rfl rfl rfl (wk_66 S z1 I) (kqN (fun h_1038 P1038 => ?_)))
                have S1038 := P1038.1
                have G1038 := hk_t G P1038.2.1
                have I1038 := P1038.2.2
                show Pt _ _ _ 59 _ [] _ _
                refine pt_d (pt_1 (fun n d => r_iloadn gx180_59 rfl) ?_)
                refine pt_d (pt_lsw gx180_60 ?_)
                refine pb_c (lo := 0) (p := 88) z2 (fun e1039 => ?_) (fun e1039 => ?_)
                · skip
                  refine pt_d (pt_1 (fun n d => r_aloadn gx180_88 rfl) ?_)
                  refine pt_d (pt_getR gx180_89 S1038 tr_0_5 ?_)
                  refine pt_d (pt_getI (B := 13) gx180_92 S1038 (fun v1041 h1041 => ?_))
                  exact pt_d (pt_iret gx180_95 ⟨_, rfl, S1038, G1038, I1038⟩)
                refine pb_c (lo := 1) (p := 96) z2 (fun e1042 => ?_) (fun e1042 => ?_)
                · skip
                  refine pt_d (pt_1 (fun n d => r_aloadn gx180_96 rfl) ?_)
                  refine pt_d (pt_getR gx180_97 S1038 tr_0_5 ?_)
                  refine pt_d (pt_getI (B := 14) gx180_100 S1038 (fun v1044 h1044 => ?_))
                  exact pt_d (pt_iret gx180_103 ⟨_, rfl, S1038, G1038, I1038⟩)
                refine pb_0 (p := 104) ?_
                refine pt_d (pt_1 (fun n d => r_aloadn gx180_104 rfl) ?_)
                refine pt_d (pt_getR gx180_105 S1038 tr_0_5 ?_)
                refine pt_d (pt_1 (fun n d => r_iloadn gx180_108 rfl) ?_)
                refine pt_d (pt_bipush gx180_109 (fun v1046 h1046 => ?_))
                refine pt_d (pt_idiv gx180_111 z3 h1046 (fun v1047 h1047 => ?_))
                refine pt_d (pt_1 (fun n d => r_iloadn gx180_112 rfl) ?_)
                refine pt_d (pt_bipush gx180_113 (fun v1048 h1048 => ?_))
                refine pt_d (pt_irem gx180_115 z3 h1048 (fun v1049 h1049 => ?_))
                refine pt_d (pt_virt (as := [.int v1047, .int v1049]) (r := []) gx180_116 rfl (show zmt[67]? = some zM67 from rfl) rfl rfl rfl rfl (wk_67 S1038 h1047 h1049 I1038) (kqI (fun v1050 y1050 h_1050 h1050 P1050 => ?_)))
                have S1050 := P1050.1
                have G1050 := hk_t G1038 P1050.2.1
                have I1050 := P1050.2.2
                show Pt _ _ _ 119 _ [.int v1050] _ _
                exact pt_d (pt_iret gx180_119 ⟨_, rfl, S1050, G1050, I1050⟩)
              · skip
                refine pt_d (pt_iconst gx180_49 (fun v1051 h1051 => ?_))
                exact pt_d (pt_iret gx180_50 ⟨_, rfl, S, G, I⟩)
        · skip
          refine pt_d (pt_iconst gx180_16 (fun v1052 h1052 => ?_))
          exact pt_d (pt_iret gx180_17 ⟨_, rfl, S, G, I⟩)
theorem wk_180 {n : Nat} {X : aX} {h : aH} {x1 : Int32} {x2 : Int32} {x3 : Int32} {a1 : Int} {a2 : Int} {a3 : Int} (S : wS h) (z1 : x1.toInt = a1) (z2 : x2.toInt = a2) (z3 : x3.toInt = a3) (I : IV h) : Pt n X zM180 0 [some (.ref 0), some (.int x1), some (.int x2), some (.int x3)] [] h (qI (fun _ h' => wS h' ∧ hk h h' ∧ IV h')) := (wl_180 n) h h x1 x2 x3 S (hk_r h) I
theorem wl_185 {X : aX} : ∀ n : Nat, (∀ (h0 h : aH) (x1 : Int32) (x2 : Int32) (x3 : Int32) (x4 : Int32), wS h → hk h0 h → IV h → Pt n X zM185 0 [some (.ref 0), some (.int x1), some (.int x2), some (.int x3), some (.int x4)] [] h (qI (fun _ h' => wS h' ∧ hk h0 h' ∧ IV h'))) := by
  intro n
  induction n with
  | zero => refine ?_ <;> (intros; exact pt_z)
  | succ n ih =>
    have ih185_0 := ih
    refine ?_
    · intro h0 h x1 x2 x3 x4 S G I
      obtain ⟨a1, z1⟩ : ∃ a : Int, x1.toInt = a := ⟨_, rfl⟩
      obtain ⟨a2, z2⟩ : ∃ a : Int, x2.toInt = a := ⟨_, rfl⟩
      obtain ⟨a3, z3⟩ : ∃ a : Int, x3.toInt = a := ⟨_, rfl⟩
      obtain ⟨a4, z4⟩ : ∃ a : Int, x4.toInt = a := ⟨_, rfl⟩
      refine pt_1 (fun n d => r_aloadn gx185_0 rfl) ?_
      refine pt_d (pt_getR gx185_1 S tr_0_3 ?_)
      refine pt_d (pt_1 (fun n d => r_iloadn gx185_4 rfl) ?_)
      refine pt_d (pt_virt (as := [.int x1]) (r := []) gx185_5 rfl (show zmt[119]? = some zM119 from rfl) rfl rfl rfl rfl (wk_119 S z1 I) (kqI (fun v1002 y1002 h_1002 h1002 P1002 => ?_)))
      have S1002 := P1002.1
      have G1002 := hk_t G P1002.2.1
      have I1002 := P1002.2.2
      show Pt _ _ _ 8 _ [.int v1002] _ _
      refine pt_d (pt_if_eq gx185_8 h1002 (fun e1003 => ?_) (fun e1003 => ?_))
      · skip
        refine pt_d (pt_iconst gx185_35 (fun v1004 h1004 => ?_))
        exact pt_d (pt_iret gx185_36 ⟨_, rfl, S1002, G1002, I1002⟩)
      · skip
        refine pt_d (pt_1 (fun n d => r_iloadn gx185_11 rfl) ?_)
        refine pt_d (pt_stat (as := [.int x2]) (r := []) gx185_12 rfl (show zmt[140]? = some zM140 from rfl) rfl rfl rfl rfl (c_140 S1002 z2) (kqP (fun v1005 h1005 => ?_)))
        show Pt _ _ _ 15 _ [.int v1005] _ _
        refine pt_d (pt_ifB_eq gx185_15 h1005 (fun e1006 => ?_) (fun e1006 => ?_))
        · skip
          refine pt_d (pt_iconst gx185_35 (fun v1007 h1007 => ?_))
          exact pt_d (pt_iret gx185_36 ⟨_, rfl, S1002, G1002, I1002⟩)
        · skip
          refine pt_d (pt_1 (fun n d => r_iloadn gx185_18 rfl) ?_)
          refine pt_d (pt_stat (as := [.int x3]) (r := []) gx185_19 rfl (show zmt[139]? = some zM139 from rfl) rfl rfl rfl rfl (c_139 S1002 z3) (kqP (fun v1008 h1008 => ?_)))
          show Pt _ _ _ 22 _ [.int v1008] _ _
          refine pt_d (pt_ifB_eq gx185_22 h1008 (fun e1009 => ?_) (fun e1009 => ?_))
          · skip
            refine pt_d (pt_iconst gx185_35 (fun v1010 h1010 => ?_))
            exact pt_d (pt_iret gx185_36 ⟨_, rfl, S1002, G1002, I1002⟩)
          · skip
            refine pt_d (pt_1 (fun n d => r_iload gx185_25 rfl) ?_)
            refine pt_d (pt_iconst gx185_27 (fun v1011 h1011 => ?_))
            refine pt_d (pt_iconst gx185_28 (fun v1012 h1012 => ?_))
            refine pt_d (pt_stat (as := [.int x4, .int v1011, .int v1012]) (r := []) gx185_29 rfl (show zmt[137]? = some zM137 from rfl) rfl rfl rfl rfl (c_137 S1002 z4 h1011 h1012) (kqP (fun v1013 h1013 => ?_)))
            show Pt _ _ _ 32 _ [.int v1013] _ _
            refine pt_d (pt_ifB_ne gx185_32 h1013 (fun e1014 => ?_) (fun e1014 => ?_))
            · skip
              refine pt_d (pt_1 (fun n d => r_aloadn gx185_37 rfl) ?_)
              refine pt_d (pt_getR gx185_38 S1002 tr_0_4 ?_)
              refine pt_d (pt_1 (fun n d => r_iloadn gx185_41 rfl) ?_)
              refine pt_d (pt_1 (fun n d => r_iloadn gx185_42 rfl) ?_)
              refine pt_d (pt_1 (fun n d => r_iloadn gx185_43 rfl) ?_)
              refine pt_d (pt_1 (fun n d => r_iload gx185_44 rfl) ?_)
              refine pt_d (pt_if_ne gx185_46 z4 (fun e1016 => ?_) (fun e1016 => ?_))
              · skip
                refine pt_d (pt_iconst gx185_53 (fun v1017 h1017 => ?_))
                refine pt_d (pt_virt (as := [.int x1, .int x2, .int x3, .int v1017]) (r := []) gx185_54 rfl (show zmt[18]? = some zM18 from rfl) rfl rfl rfl rfl (wk_18 S1002 z1 z2 z3 h1017 I1002) (kqI (fun v1018 y1018 h_1018 h1018 P1018 => ?_)))
                have S1018 := P1018.1
                have G1018 := hk_t G1002 P1018.2.1
                have I1018 := P1018.2.2
                show Pt _ _ _ 57 _ [.int v1018] _ _
                exact pt_d (pt_iret gx185_57 ⟨_, rfl, S1018, G1018, I1018⟩)
              · skip
                refine pt_d (pt_iconst gx185_49 (fun v1019 h1019 => ?_))
                refine pt_d (pt_1 (fun n d => r_goto gx185_50) ?_)
                refine pt_d (pt_virt (as := [.int x1, .int x2, .int x3, .int v1019]) (r := []) gx185_54 rfl (show zmt[18]? = some zM18 from rfl) rfl rfl rfl rfl (wk_18 S1002 z1 z2 z3 h1019 I1002) (kqI (fun v1020 y1020 h_1020 h1020 P1020 => ?_)))
                have S1020 := P1020.1
                have G1020 := hk_t G1002 P1020.2.1
                have I1020 := P1020.2.2
                show Pt _ _ _ 57 _ [.int v1020] _ _
                exact pt_d (pt_iret gx185_57 ⟨_, rfl, S1020, G1020, I1020⟩)
            · skip
              refine pt_d (pt_iconst gx185_35 (fun v1021 h1021 => ?_))
              exact pt_d (pt_iret gx185_36 ⟨_, rfl, S1002, G1002, I1002⟩)
theorem wk_185 {n : Nat} {X : aX} {h : aH} {x1 : Int32} {x2 : Int32} {x3 : Int32} {x4 : Int32} {a1 : Int} {a2 : Int} {a3 : Int} {a4 : Int} (S : wS h) (z1 : x1.toInt = a1) (z2 : x2.toInt = a2) (z3 : x3.toInt = a3) (z4 : x4.toInt = a4) (I : IV h) : Pt n X zM185 0 [some (.ref 0), some (.int x1), some (.int x2), some (.int x3), some (.int x4)] [] h (qI (fun _ h' => wS h' ∧ hk h h' ∧ IV h')) := (wl_185 n) h h x1 x2 x3 x4 S (hk_r h) I
theorem wl_226 {X : aX} : ∀ n : Nat, (∀ (h0 h : aH) (x1 : Int32) (x2 : Int32) (x3 : Int32), wS h → hk h0 h → IV h → Pt n X zM226 0 [some (.ref 72), some (.int x1), some (.int x2), some (.int x3), none, none] [] h (qI (fun _ h' => wS h' ∧ hk h0 h' ∧ IV h'))) ∧
    (∀ (h0 h : aH) (x1 : Int32) (x2 : Int32) (x3 : Int32) (x4 : Int32) (x5 : Int32), wS h → hk h0 h → IV h → Pt n X zM226 6 [some (.ref 72), some (.int x1), some (.int x2), some (.int x3), some (.int x4), some (.int x5)] [] h (qI (fun _ h' => wS h' ∧ hk h0 h' ∧ IV h'))) := by
  intro n
  induction n with
  | zero => refine ⟨?_, ?_⟩ <;> (intros; exact pt_z)
  | succ n ih =>
    obtain ⟨ih226_0, ih226_6⟩ := ih
    refine ⟨?_, ?_⟩
    · intro h0 h x1 x2 x3 S G I
      obtain ⟨a1, z1⟩ : ∃ a : Int, x1.toInt = a := ⟨_, rfl⟩
      obtain ⟨a2, z2⟩ : ∃ a : Int, x2.toInt = a := ⟨_, rfl⟩
      obtain ⟨a3, z3⟩ : ∃ a : Int, x3.toInt = a := ⟨_, rfl⟩
      refine pt_iconst gx226_0 (fun v1001 h1001 => ?_)
      refine pt_d (pt_1 (fun n d => r_istore (L' := [some (.ref 72), some (.int x1), some (.int x2), some (.int x3), some (.int v1001), none]) gx226_1 rfl rfl) ?_)
      refine pt_d (pt_iconst gx226_3 (fun v1002 h1002 => ?_))
      refine pt_d (pt_1 (fun n d => r_istore (L' := [some (.ref 72), some (.int x1), some (.int x2), some (.int x3), some (.int v1001), some (.int v1002)]) gx226_4 rfl rfl) ?_)
      exact ih226_6 h0 h x1 x2 x3 v1001 v1002 S G I
    · intro h0 h x1 x2 x3 x4 x5 S G I
      obtain ⟨a1, z1⟩ : ∃ a : Int, x1.toInt = a := ⟨_, rfl⟩
      obtain ⟨a2, z2⟩ : ∃ a : Int, x2.toInt = a := ⟨_, rfl⟩
      obtain ⟨a3, z3⟩ : ∃ a : Int, x3.toInt = a := ⟨_, rfl⟩
      obtain ⟨a4, z4⟩ : ∃ a : Int, x4.toInt = a := ⟨_, rfl⟩
      obtain ⟨a5, z5⟩ : ∃ a : Int, x5.toInt = a := ⟨_, rfl⟩
      refine pt_1 (fun n d => r_iload gx226_6 rfl) ?_
      refine pt_d (pt_1 (fun n d => r_aloadn gx226_8 rfl) ?_)
      refine pt_d (pt_getI (B := 14) gx226_9 S (fun v1001 h1001 => ?_))
      refine pt_d (pt_icmp_ge gx226_12 z5 h1001 (fun e1002 => ?_) (fun e1002 => ?_))
      · skip
        refine pt_d (pt_1 (fun n d => r_iload gx226_80 rfl) ?_)
        refine pt_d (pt_if_ge gx226_82 z4 (fun e1003 => ?_) (fun e1003 => ?_))
        · skip
          refine pt_d (pt_1 (fun n d => r_aloadn gx226_94 rfl) ?_)
          refine pt_d (pt_getR gx226_95 S tr_72_16 ?_)
          refine pt_d (pt_1 (fun n d => r_iload gx226_98 rfl) ?_)
          refine pt_d (pt_iald (N' := 200) gx226_100 S tl_84 z4 (fun v1005 p1005 q1005 h1005 => ?_))
          exact pt_d (pt_iret gx226_101 ⟨_, rfl, S, G, I⟩)
        · skip
          refine pt_d (pt_1 (fun n d => r_aloadn gx226_85 rfl) ?_)
          refine pt_d (pt_getR gx226_86 S tr_72_5 ?_)
          refine pt_d (pt_1 (fun n d => r_iloadn gx226_89 rfl) ?_)
          refine pt_d (pt_iald (N' := 150) gx226_90 S tl_75 z1 (fun v1007 p1007 q1007 h1007 => ?_))
          refine pt_d (pt_1 (fun n d => r_goto gx226_91) ?_)
          exact pt_d (pt_iret gx226_101 ⟨_, rfl, S, G, I⟩)
      · skip
        refine pt_d (pt_1 (fun n d => r_aloadn gx226_15 rfl) ?_)
        refine pt_d (pt_getR gx226_16 S tr_72_15 ?_)
        refine pt_d (pt_1 (fun n d => r_iload gx226_19 rfl) ?_)
        refine pt_d (pt_iald (N' := 200) gx226_21 S tl_83 z5 (fun v1009 p1009 q1009 h1009 => ?_))
        refine pt_d (pt_1 (fun n d => r_iloadn gx226_22 rfl) ?_)
        refine pt_d (pt_icmp_ne gx226_23 h1009 z1 (fun e1010 => ?_) (fun e1010 => ?_))
        · skip
          refine pt_d (pt_iinc (c := 1) gx226_74 rfl z5 (fun v1011 h1011 => ?_))
          show Pt _ _ _ _ [some (.ref 72), some (.int x1), some (.int x2), some (.int x3), some (.int x4), some (.int v1011)] [] _ _
          refine pt_d (pt_1 (fun n d => r_goto gx226_77) ?_)
          exact ih226_6 h0 h x1 x2 x3 x4 v1011 S G I
        · skip
          refine pt_d (pt_1 (fun n d => r_aloadn gx226_26 rfl) ?_)
          refine pt_d (pt_getR gx226_27 S tr_72_18 ?_)
          refine pt_d (pt_1 (fun n d => r_iload gx226_30 rfl) ?_)
          refine pt_d (pt_iald (N' := 200) gx226_32 S tl_86 z5 (fun v1013 p1013 q1013 h1013 => ?_))
          refine pt_d (pt_1 (fun n d => r_iloadn gx226_33 rfl) ?_)
          refine pt_d (pt_icmp_gt gx226_34 h1013 z3 (fun e1014 => ?_) (fun e1014 => ?_))
          · skip
            refine pt_d (pt_iinc (c := 1) gx226_74 rfl z5 (fun v1015 h1015 => ?_))
            show Pt _ _ _ _ [some (.ref 72), some (.int x1), some (.int x2), some (.int x3), some (.int x4), some (.int v1015)] [] _ _
            refine pt_d (pt_1 (fun n d => r_goto gx226_77) ?_)
            exact ih226_6 h0 h x1 x2 x3 x4 v1015 S G I
          · skip
            refine pt_d (pt_1 (fun n d => r_aloadn gx226_37 rfl) ?_)
            refine pt_d (pt_getR gx226_38 S tr_72_17 ?_)
            refine pt_d (pt_1 (fun n d => r_iload gx226_41 rfl) ?_)
            refine pt_d (pt_iald (N' := 200) gx226_43 S tl_85 z5 (fun v1017 p1017 q1017 h1017 => ?_))
            refine pt_d (pt_1 (fun n d => r_iloadn gx226_44 rfl) ?_)
            refine pt_d (pt_icmp_gt gx226_45 h1017 z2 (fun e1018 => ?_) (fun e1018 => ?_))
            · skip
              refine pt_d (pt_iinc (c := 1) gx226_74 rfl z5 (fun v1019 h1019 => ?_))
              show Pt _ _ _ _ [some (.ref 72), some (.int x1), some (.int x2), some (.int x3), some (.int x4), some (.int v1019)] [] _ _
              refine pt_d (pt_1 (fun n d => r_goto gx226_77) ?_)
              exact ih226_6 h0 h x1 x2 x3 x4 v1019 S G I
            · skip
              refine pt_d (pt_1 (fun n d => r_iload gx226_48 rfl) ?_)
              refine pt_d (pt_if_lt gx226_50 z4 (fun e1020 => ?_) (fun e1020 => ?_))
              · skip
                refine pt_d (pt_1 (fun n d => r_iload gx226_70 rfl) ?_)
                refine pt_d (pt_1 (fun n d => r_istore (L' := [some (.ref 72), some (.int x1), some (.int x2), some (.int x3), some (.int x5), some (.int x5)]) gx226_72 rfl rfl) ?_)
                refine pt_d (pt_iinc (c := 1) gx226_74 rfl z5 (fun v1021 h1021 => ?_))
                show Pt _ _ _ _ [some (.ref 72), some (.int x1), some (.int x2), some (.int x3), some (.int x5), some (.int v1021)] [] _ _
                refine pt_d (pt_1 (fun n d => r_goto gx226_77) ?_)
                exact ih226_6 h0 h x1 x2 x3 x5 v1021 S G I
              · skip
                refine pt_d (pt_1 (fun n d => r_aloadn gx226_53 rfl) ?_)
                refine pt_d (pt_getR gx226_54 S tr_72_17 ?_)
                refine pt_d (pt_1 (fun n d => r_iload gx226_57 rfl) ?_)
                refine pt_d (pt_iald (N' := 200) gx226_59 S tl_85 z5 (fun v1023 p1023 q1023 h1023 => ?_))
                refine pt_d (pt_1 (fun n d => r_aloadn gx226_60 rfl) ?_)
                refine pt_d (pt_getR gx226_61 S tr_72_17 ?_)
                refine pt_d (pt_1 (fun n d => r_iload gx226_64 rfl) ?_)
                refine pt_d (pt_iald (N' := 200) gx226_66 S tl_85 z4 (fun v1025 p1025 q1025 h1025 => ?_))
                refine pt_d (pt_icmp_lt gx226_67 h1023 h1025 (fun e1026 => ?_) (fun e1026 => ?_))
                · skip
                  refine pt_d (pt_iinc (c := 1) gx226_74 rfl z5 (fun v1027 h1027 => ?_))
                  show Pt _ _ _ _ [some (.ref 72), some (.int x1), some (.int x2), some (.int x3), some (.int x4), some (.int v1027)] [] _ _
                  refine pt_d (pt_1 (fun n d => r_goto gx226_77) ?_)
                  exact ih226_6 h0 h x1 x2 x3 x4 v1027 S G I
                · skip
                  refine pt_d (pt_1 (fun n d => r_iload gx226_70 rfl) ?_)
                  refine pt_d (pt_1 (fun n d => r_istore (L' := [some (.ref 72), some (.int x1), some (.int x2), some (.int x3), some (.int x5), some (.int x5)]) gx226_72 rfl rfl) ?_)
                  refine pt_d (pt_iinc (c := 1) gx226_74 rfl z5 (fun v1028 h1028 => ?_))
                  show Pt _ _ _ _ [some (.ref 72), some (.int x1), some (.int x2), some (.int x3), some (.int x5), some (.int v1028)] [] _ _
                  refine pt_d (pt_1 (fun n d => r_goto gx226_77) ?_)
                  exact ih226_6 h0 h x1 x2 x3 x5 v1028 S G I
theorem wk_226 {n : Nat} {X : aX} {h : aH} {x1 : Int32} {x2 : Int32} {x3 : Int32} {a1 : Int} {a2 : Int} {a3 : Int} (S : wS h) (z1 : x1.toInt = a1) (z2 : x2.toInt = a2) (z3 : x3.toInt = a3) (I : IV h) : Pt n X zM226 0 [some (.ref 72), some (.int x1), some (.int x2), some (.int x3), none, none] [] h (qI (fun _ h' => wS h' ∧ hk h h' ∧ IV h')) := (wl_226 n).1 h h x1 x2 x3 S (hk_r h) I
theorem wl_265 {X : aX} : ∀ n : Nat, (∀ (h0 h : aH) (x1 : Int32) (x2 : Int32) (x3 : Int32), wS h → hk h0 h → IV h → Pt n X zM265 0 [some (.ref 72), some (.int x1), some (.int x2), some (.int x3), none] [] h (qI (fun _ h' => wS h' ∧ hk h0 h' ∧ IV h'))) ∧
    (∀ (h0 h : aH) (x1 : Int32) (x2 : Int32) (x3 : Int32) (x4 : Int32), wS h → hk h0 h → IV h → Pt n X zM265 8 [some (.ref 72), some (.int x1), some (.int x2), some (.int x3), some (.int x4)] [] h (qI (fun _ h' => wS h' ∧ hk h0 h' ∧ IV h'))) := by
  intro n
  induction n with
  | zero => refine ⟨?_, ?_⟩ <;> (intros; exact pt_z)
  | succ n ih =>
    obtain ⟨ih265_0, ih265_8⟩ := ih
    refine ⟨?_, ?_⟩
    · intro h0 h x1 x2 x3 S G I
      obtain ⟨a1, z1⟩ : ∃ a : Int, x1.toInt = a := ⟨_, rfl⟩
      obtain ⟨a2, z2⟩ : ∃ a : Int, x2.toInt = a := ⟨_, rfl⟩
      obtain ⟨a3, z3⟩ : ∃ a : Int, x3.toInt = a := ⟨_, rfl⟩
      refine pt_1 (fun n d => r_aloadn gx265_0 rfl) ?_
      refine pt_d (pt_getI (B := 55) gx265_1 S (fun v1001 h1001 => ?_))
      refine pt_d (pt_iconst gx265_4 (fun v1002 h1002 => ?_))
      refine pt_d (pt_isub gx265_5 h1001 h1002 (fun v1003 h1003 => ?_))
      refine pt_d (pt_1 (fun n d => r_istore (L' := [some (.ref 72), some (.int x1), some (.int x2), some (.int x3), some (.int v1003)]) gx265_6 rfl rfl) ?_)
      exact ih265_8 h0 h x1 x2 x3 v1003 S G I
    · intro h0 h x1 x2 x3 x4 S G I
      obtain ⟨a1, z1⟩ : ∃ a : Int, x1.toInt = a := ⟨_, rfl⟩
      obtain ⟨a2, z2⟩ : ∃ a : Int, x2.toInt = a := ⟨_, rfl⟩
      obtain ⟨a3, z3⟩ : ∃ a : Int, x3.toInt = a := ⟨_, rfl⟩
      obtain ⟨a4, z4⟩ : ∃ a : Int, x4.toInt = a := ⟨_, rfl⟩
      refine pt_1 (fun n d => r_iload gx265_8 rfl) ?_
      refine pt_d (pt_if_lt gx265_10 z4 (fun e1001 => ?_) (fun e1001 => ?_))
      · skip
        refine pt_d (pt_bipush gx265_55 (fun v1002 h1002 => ?_))
        exact pt_d (pt_iret gx265_57 ⟨_, rfl, S, G, I⟩)
      · skip
        refine pt_d (pt_1 (fun n d => r_aloadn gx265_13 rfl) ?_)
        refine pt_d (pt_getR gx265_14 S tr_72_56 ?_)
        refine pt_d (pt_1 (fun n d => r_iload gx265_17 rfl) ?_)
        refine pt_d (pt_iald (N' := 16) gx265_19 S tl_116 z4 (fun v1004 p1004 q1004 h1004 => ?_))
        refine pt_d (pt_1 (fun n d => r_iloadn gx265_20 rfl) ?_)
        refine pt_d (pt_icmp_ne gx265_21 h1004 z1 (fun e1005 => ?_) (fun e1005 => ?_))
        · skip
          refine pt_d (pt_iinc (c := (-1)) gx265_49 rfl z4 (fun v1006 h1006 => ?_))
          show Pt _ _ _ _ [some (.ref 72), some (.int x1), some (.int x2), some (.int x3), some (.int v1006)] [] _ _
          refine pt_d (pt_1 (fun n d => r_goto gx265_52) ?_)
          exact ih265_8 h0 h x1 x2 x3 v1006 S G I
        · skip
          refine pt_d (pt_1 (fun n d => r_aloadn gx265_24 rfl) ?_)
          refine pt_d (pt_getR gx265_25 S tr_72_57 ?_)
          refine pt_d (pt_1 (fun n d => r_iload gx265_28 rfl) ?_)
          refine pt_d (pt_iald (N' := 16) gx265_30 S tl_117 z4 (fun v1008 p1008 q1008 h1008 => ?_))
          refine pt_d (pt_1 (fun n d => r_iloadn gx265_31 rfl) ?_)
          refine pt_d (pt_icmp_gt gx265_32 h1008 z3 (fun e1009 => ?_) (fun e1009 => ?_))
          · skip
            refine pt_d (pt_iinc (c := (-1)) gx265_49 rfl z4 (fun v1010 h1010 => ?_))
            show Pt _ _ _ _ [some (.ref 72), some (.int x1), some (.int x2), some (.int x3), some (.int v1010)] [] _ _
            refine pt_d (pt_1 (fun n d => r_goto gx265_52) ?_)
            exact ih265_8 h0 h x1 x2 x3 v1010 S G I
          · skip
            refine pt_d (pt_1 (fun n d => r_aloadn gx265_35 rfl) ?_)
            refine pt_d (pt_getR gx265_36 S tr_72_58 ?_)
            refine pt_d (pt_1 (fun n d => r_iload gx265_39 rfl) ?_)
            refine pt_d (pt_iald (N' := 16) gx265_41 S tl_118 z4 (fun v1012 p1012 q1012 h1012 => ?_))
            refine pt_d (pt_1 (fun n d => r_iloadn gx265_42 rfl) ?_)
            refine pt_d (pt_icmp_gt gx265_43 h1012 z2 (fun e1013 => ?_) (fun e1013 => ?_))
            · skip
              refine pt_d (pt_iinc (c := (-1)) gx265_49 rfl z4 (fun v1014 h1014 => ?_))
              show Pt _ _ _ _ [some (.ref 72), some (.int x1), some (.int x2), some (.int x3), some (.int v1014)] [] _ _
              refine pt_d (pt_1 (fun n d => r_goto gx265_52) ?_)
              exact ih265_8 h0 h x1 x2 x3 v1014 S G I
            · skip
              refine pt_d (pt_1 (fun n d => r_iload gx265_46 rfl) ?_)
              exact pt_d (pt_iret gx265_48 ⟨_, rfl, S, G, I⟩)
theorem wk_265 {n : Nat} {X : aX} {h : aH} {x1 : Int32} {x2 : Int32} {x3 : Int32} {a1 : Int} {a2 : Int} {a3 : Int} (S : wS h) (z1 : x1.toInt = a1) (z2 : x2.toInt = a2) (z3 : x3.toInt = a3) (I : IV h) : Pt n X zM265 0 [some (.ref 72), some (.int x1), some (.int x2), some (.int x3), none] [] h (qI (fun _ h' => wS h' ∧ hk h h' ∧ IV h')) := (wl_265 n).1 h h x1 x2 x3 S (hk_r h) I
theorem wl_267 {X : aX} : ∀ n : Nat, (∀ (h0 h : aH) (x0 : Int32) (x1 : Int32) (x2 : Int32), wS h → hk h0 h → IV h → Pt n X zM267 0 [some (.int x0), some (.int x1), some (.int x2)] [] h (qI (fun _ h' => wS h' ∧ hk h0 h' ∧ IV h'))) ∧
    (∀ (h0 h : aH) (x0 : Int32) (x1 : Int32) (x2 : Int32) (xs0 : Int32), wS h → hk h0 h → IV h → Pt n X zM267 153 [some (.int x0), some (.int x1), some (.int x2)] [.int xs0] h (qI (fun _ h' => wS h' ∧ hk h0 h' ∧ IV h'))) ∧
    (∀ (h0 h : aH) (x0 : Int32) (x1 : Int32) (x2 : Int32), wS h → hk h0 h → IV h → Pt n X zM267 163 [some (.int x0), some (.int x1), some (.int x2)] [] h (qI (fun _ h' => wS h' ∧ hk h0 h' ∧ IV h'))) ∧
    (∀ (h0 h : aH) (x0 : Int32) (x1 : Int32) (x2 : Int32) (xs0 : Int32), wS h → hk h0 h → IV h → Pt n X zM267 170 [some (.int x0), some (.int x1), some (.int x2)] [.int xs0] h (qI (fun _ h' => wS h' ∧ hk h0 h' ∧ IV h'))) ∧
    (∀ (h0 h : aH) (x0 : Int32) (x1 : Int32) (x2 : Int32) (xs0 : Int32), wS h → hk h0 h → IV h → Pt n X zM267 181 [some (.int x0), some (.int x1), some (.int x2)] [.int xs0] h (qI (fun _ h' => wS h' ∧ hk h0 h' ∧ IV h'))) ∧
    (∀ (h0 h : aH) (x0 : Int32) (x1 : Int32) (x2 : Int32) (xs0 : Int32), wS h → hk h0 h → IV h → Pt n X zM267 192 [some (.int x0), some (.int x1), some (.int x2)] [.int xs0] h (qI (fun _ h' => wS h' ∧ hk h0 h' ∧ IV h'))) ∧
    (∀ (h0 h : aH) (x0 : Int32) (x1 : Int32) (x2 : Int32) (xs0 : Int32), wS h → hk h0 h → IV h → Pt n X zM267 203 [some (.int x0), some (.int x1), some (.int x2)] [.int xs0] h (qI (fun _ h' => wS h' ∧ hk h0 h' ∧ IV h'))) ∧
    (∀ (h0 h : aH) (x0 : Int32) (x1 : Int32) (x2 : Int32), wS h → hk h0 h → IV h → Pt n X zM267 216 [some (.int x0), some (.int x1), some (.int x2)] [] h (qI (fun _ h' => wS h' ∧ hk h0 h' ∧ IV h'))) ∧
    (∀ (h0 h : aH) (x0 : Int32) (x1 : Int32) (x2 : Int32) (xs0 : Int32), wS h → hk h0 h → IV h → Pt n X zM267 217 [some (.int x0), some (.int x1), some (.int x2)] [.int xs0] h (qI (fun _ h' => wS h' ∧ hk h0 h' ∧ IV h'))) ∧
    (∀ (h0 h : aH) (x0 : Int32) (x1 : Int32) (x2 : Int32), wS h → hk h0 h → IV h → Pt n X zM267 218 [some (.int x0), some (.int x1), some (.int x2)] [] h (qI (fun _ h' => wS h' ∧ hk h0 h' ∧ IV h'))) ∧
    (∀ (h0 h : aH) (x0 : Int32) (x1 : Int32) (x2 : Int32), wS h → hk h0 h → IV h → Pt n X zM267 226 [some (.int x0), some (.int x1), some (.int x2)] [] h (qI (fun _ h' => wS h' ∧ hk h0 h' ∧ IV h'))) ∧
    (∀ (h0 h : aH) (x0 : Int32) (x1 : Int32) (x2 : Int32) (xs0 : Int32), wS h → hk h0 h → IV h → Pt n X zM267 231 [some (.int x0), some (.int x1), some (.int x2)] [.int xs0] h (qI (fun _ h' => wS h' ∧ hk h0 h' ∧ IV h'))) := by
  intro n
  induction n with
  | zero => refine ⟨?_, ?_, ?_, ?_, ?_, ?_, ?_, ?_, ?_, ?_, ?_, ?_⟩ <;> (intros; exact pt_z)
  | succ n ih =>
    obtain ⟨ih267_0, ih267_153, ih267_163, ih267_170, ih267_181, ih267_192, ih267_203, ih267_216, ih267_217, ih267_218, ih267_226, ih267_231⟩ := ih
    refine ⟨?_, ?_, ?_, ?_, ?_, ?_, ?_, ?_, ?_, ?_, ?_, ?_⟩
    · intro h0 h x0 x1 x2 S G I
      obtain ⟨a0, z0⟩ : ∃ a : Int, x0.toInt = a := ⟨_, rfl⟩
      obtain ⟨a1, z1⟩ : ∃ a : Int, x1.toInt = a := ⟨_, rfl⟩
      obtain ⟨a2, z2⟩ : ∃ a : Int, x2.toInt = a := ⟨_, rfl⟩
      refine pt_1 (fun n d => r_iloadn gx267_0 rfl) ?_
      refine pt_d (pt_tsw gx267_1 ?_)
      refine pa_c (lo := 37) (lo' := 38) (p := 154) z0 (fun e1001 => ?_) (fun e1001 => ?_)
      · skip
        refine pt_d (pt_1 (fun n d => r_iloadn gx267_154 rfl) ?_)
        refine pt_d (pt_if_eq gx267_155 z2 (fun e1002 => ?_) (fun e1002 => ?_))
        · skip
          exact ih267_163 h0 h x0 x1 x2 S G I
        · skip
          refine pt_d (pt_1 (fun n d => r_iloadn gx267_158 rfl) ?_)
          refine pt_d (pt_iconst gx267_159 (fun v1003 h1003 => ?_))
          refine pt_d (pt_icmp_ne gx267_160 z2 h1003 (fun e1004 => ?_) (fun e1004 => ?_))
          · skip
            refine pt_d (pt_1 (fun n d => r_iloadn gx267_167 rfl) ?_)
            refine pt_d (pt_1 (fun n d => r_iloadn gx267_168 rfl) ?_)
            refine pt_d (pt_irem gx267_169 z1 z2 (fun v1005 h1005 => ?_))
            exact ih267_170 h0 h x0 x1 x2 v1005 S G I
          · skip
            exact ih267_163 h0 h x0 x1 x2 S G I
      refine pa_c (lo := 38) (lo' := 39) (p := 204) z0 (fun e1006 => ?_) (fun e1006 => ?_)
      · skip
        refine pt_d (pt_1 (fun n d => r_iloadn gx267_204 rfl) ?_)
        refine pt_d (pt_if_eq gx267_205 z1 (fun e1007 => ?_) (fun e1007 => ?_))
        · skip
          exact ih267_216 h0 h x0 x1 x2 S G I
        · skip
          refine pt_d (pt_1 (fun n d => r_iloadn gx267_208 rfl) ?_)
          refine pt_d (pt_if_eq gx267_209 z2 (fun e1008 => ?_) (fun e1008 => ?_))
          · skip
            exact ih267_216 h0 h x0 x1 x2 S G I
          · skip
            refine pt_d (pt_iconst gx267_212 (fun v1009 h1009 => ?_))
            refine pt_d (pt_1 (fun n d => r_goto gx267_213) ?_)
            exact ih267_217 h0 h x0 x1 x2 v1009 S G I
      refine pa_c (lo := 39) (lo' := 40) (p := 218) z0 (fun e1010 => ?_) (fun e1010 => ?_)
      · skip
        exact ih267_218 h0 h x0 x1 x2 S G I
      refine pa_c (lo := 40) (lo' := 41) (p := 218) z0 (fun e1011 => ?_) (fun e1011 => ?_)
      · skip
        exact ih267_218 h0 h x0 x1 x2 S G I
      refine pa_c (lo := 41) (lo' := 42) (p := 218) z0 (fun e1012 => ?_) (fun e1012 => ?_)
      · skip
        exact ih267_218 h0 h x0 x1 x2 S G I
      refine pa_c (lo := 42) (lo' := 43) (p := 128) z0 (fun e1013 => ?_) (fun e1013 => ?_)
      · skip
        refine pt_d (pt_1 (fun n d => r_iloadn gx267_128 rfl) ?_)
        refine pt_d (pt_1 (fun n d => r_iloadn gx267_129 rfl) ?_)
        refine pt_d (pt_imul gx267_130 z1 z2 (fun v1014 h1014 => ?_))
        exact pt_d (pt_iret gx267_131 ⟨_, rfl, S, G, I⟩)
      refine pa_c (lo := 43) (lo' := 44) (p := 120) z0 (fun e1015 => ?_) (fun e1015 => ?_)
      · skip
        refine pt_d (pt_1 (fun n d => r_iloadn gx267_120 rfl) ?_)
        refine pt_d (pt_1 (fun n d => r_iloadn gx267_121 rfl) ?_)
        refine pt_d (pt_iadd gx267_122 z1 z2 (fun v1016 h1016 => ?_))
        exact pt_d (pt_iret gx267_123 ⟨_, rfl, S, G, I⟩)
      refine pa_c (lo := 44) (lo' := 45) (p := 218) z0 (fun e1017 => ?_) (fun e1017 => ?_)
      · skip
        exact ih267_218 h0 h x0 x1 x2 S G I
      refine pa_c (lo := 45) (lo' := 46) (p := 124) z0 (fun e1018 => ?_) (fun e1018 => ?_)
      · skip
        refine pt_d (pt_1 (fun n d => r_iloadn gx267_124 rfl) ?_)
        refine pt_d (pt_1 (fun n d => r_iloadn gx267_125 rfl) ?_)
        refine pt_d (pt_isub gx267_126 z1 z2 (fun v1019 h1019 => ?_))
        exact pt_d (pt_iret gx267_127 ⟨_, rfl, S, G, I⟩)
      refine pa_c (lo := 46) (lo' := 47) (p := 218) z0 (fun e1020 => ?_) (fun e1020 => ?_)
      · skip
        exact ih267_218 h0 h x0 x1 x2 S G I
      refine pa_c (lo := 47) (lo' := 48) (p := 132) z0 (fun e1021 => ?_) (fun e1021 => ?_)
      · skip
        refine pt_d (pt_1 (fun n d => r_iloadn gx267_132 rfl) ?_)
        refine pt_d (pt_if_ne gx267_133 z2 (fun e1022 => ?_) (fun e1022 => ?_))
        · skip
          refine pt_d (pt_1 (fun n d => r_iloadn gx267_140 rfl) ?_)
          refine pt_d (pt_iconst gx267_141 (fun v1023 h1023 => ?_))
          refine pt_d (pt_icmp_ne gx267_142 z2 h1023 (fun e1024 => ?_) (fun e1024 => ?_))
          · skip
            refine pt_d (pt_1 (fun n d => r_iloadn gx267_150 rfl) ?_)
            refine pt_d (pt_1 (fun n d => r_iloadn gx267_151 rfl) ?_)
            refine pt_d (pt_idiv gx267_152 z1 z2 (fun v1025 h1025 => ?_))
            exact ih267_153 h0 h x0 x1 x2 v1025 S G I
          · skip
            refine pt_d (pt_1 (fun n d => r_iloadn gx267_145 rfl) ?_)
            refine pt_d (pt_ineg gx267_146 z1 (fun v1026 h1026 => ?_))
            refine pt_d (pt_1 (fun n d => r_goto gx267_147) ?_)
            exact ih267_153 h0 h x0 x1 x2 v1026 S G I
        · skip
          refine pt_d (pt_iconst gx267_136 (fun v1027 h1027 => ?_))
          refine pt_d (pt_1 (fun n d => r_goto gx267_137) ?_)
          exact ih267_153 h0 h x0 x1 x2 v1027 S G I
      refine pa_c (lo := 48) (lo' := 49) (p := 218) z0 (fun e1028 => ?_) (fun e1028 => ?_)
      · skip
        exact ih267_218 h0 h x0 x1 x2 S G I
      refine pa_c (lo := 49) (lo' := 50) (p := 218) z0 (fun e1029 => ?_) (fun e1029 => ?_)
      · skip
        exact ih267_218 h0 h x0 x1 x2 S G I
      refine pa_c (lo := 50) (lo' := 51) (p := 218) z0 (fun e1030 => ?_) (fun e1030 => ?_)
      · skip
        exact ih267_218 h0 h x0 x1 x2 S G I
      refine pa_c (lo := 51) (lo' := 52) (p := 218) z0 (fun e1031 => ?_) (fun e1031 => ?_)
      · skip
        exact ih267_218 h0 h x0 x1 x2 S G I
      refine pa_c (lo := 52) (lo' := 53) (p := 218) z0 (fun e1032 => ?_) (fun e1032 => ?_)
      · skip
        exact ih267_218 h0 h x0 x1 x2 S G I
      refine pa_c (lo := 53) (lo' := 54) (p := 218) z0 (fun e1033 => ?_) (fun e1033 => ?_)
      · skip
        exact ih267_218 h0 h x0 x1 x2 S G I
      refine pa_c (lo := 54) (lo' := 55) (p := 218) z0 (fun e1034 => ?_) (fun e1034 => ?_)
      · skip
        exact ih267_218 h0 h x0 x1 x2 S G I
      refine pa_c (lo := 55) (lo' := 56) (p := 218) z0 (fun e1035 => ?_) (fun e1035 => ?_)
      · skip
        exact ih267_218 h0 h x0 x1 x2 S G I
      refine pa_c (lo := 56) (lo' := 57) (p := 218) z0 (fun e1036 => ?_) (fun e1036 => ?_)
      · skip
        exact ih267_218 h0 h x0 x1 x2 S G I
      refine pa_c (lo := 57) (lo' := 58) (p := 218) z0 (fun e1037 => ?_) (fun e1037 => ?_)
      · skip
        exact ih267_218 h0 h x0 x1 x2 S G I
      refine pa_c (lo := 58) (lo' := 59) (p := 218) z0 (fun e1038 => ?_) (fun e1038 => ?_)
      · skip
        exact ih267_218 h0 h x0 x1 x2 S G I
      refine pa_c (lo := 59) (lo' := 60) (p := 218) z0 (fun e1039 => ?_) (fun e1039 => ?_)
      · skip
        exact ih267_218 h0 h x0 x1 x2 S G I
      refine pa_c (lo := 60) (lo' := 61) (p := 171) z0 (fun e1040 => ?_) (fun e1040 => ?_)
      · skip
        refine pt_d (pt_1 (fun n d => r_iloadn gx267_171 rfl) ?_)
        refine pt_d (pt_1 (fun n d => r_iloadn gx267_172 rfl) ?_)
        refine pt_d (pt_icmp_ge gx267_173 z1 z2 (fun e1041 => ?_) (fun e1041 => ?_))
        · skip
          refine pt_d (pt_iconst gx267_180 (fun v1042 h1042 => ?_))
          exact ih267_181 h0 h x0 x1 x2 v1042 S G I
        · skip
          refine pt_d (pt_iconst gx267_176 (fun v1043 h1043 => ?_))
          refine pt_d (pt_1 (fun n d => r_goto gx267_177) ?_)
          exact ih267_181 h0 h x0 x1 x2 v1043 S G I
      refine pa_c (lo := 61) (lo' := 62) (p := 182) z0 (fun e1044 => ?_) (fun e1044 => ?_)
      · skip
        refine pt_d (pt_1 (fun n d => r_iloadn gx267_182 rfl) ?_)
        refine pt_d (pt_1 (fun n d => r_iloadn gx267_183 rfl) ?_)
        refine pt_d (pt_icmp_ne gx267_184 z1 z2 (fun e1045 => ?_) (fun e1045 => ?_))
        · skip
          refine pt_d (pt_iconst gx267_191 (fun v1046 h1046 => ?_))
          exact ih267_192 h0 h x0 x1 x2 v1046 S G I
        · skip
          refine pt_d (pt_iconst gx267_187 (fun v1047 h1047 => ?_))
          refine pt_d (pt_1 (fun n d => r_goto gx267_188) ?_)
          exact ih267_192 h0 h x0 x1 x2 v1047 S G I
      refine pa_c (lo := 62) (lo' := 63) (p := 193) z0 (fun e1048 => ?_) (fun e1048 => ?_)
      · skip
        refine pt_d (pt_1 (fun n d => r_iloadn gx267_193 rfl) ?_)
        refine pt_d (pt_1 (fun n d => r_iloadn gx267_194 rfl) ?_)
        refine pt_d (pt_icmp_le gx267_195 z1 z2 (fun e1049 => ?_) (fun e1049 => ?_))
        · skip
          refine pt_d (pt_iconst gx267_202 (fun v1050 h1050 => ?_))
          exact ih267_203 h0 h x0 x1 x2 v1050 S G I
        · skip
          refine pt_d (pt_iconst gx267_198 (fun v1051 h1051 => ?_))
          refine pt_d (pt_1 (fun n d => r_goto gx267_199) ?_)
          exact ih267_203 h0 h x0 x1 x2 v1051 S G I
      refine pa_0 (p := 218) ?_
      exact ih267_218 h0 h x0 x1 x2 S G I
    · intro h0 h x0 x1 x2 xs0 S G I
      obtain ⟨a0, z0⟩ : ∃ a : Int, x0.toInt = a := ⟨_, rfl⟩
      obtain ⟨a1, z1⟩ : ∃ a : Int, x1.toInt = a := ⟨_, rfl⟩
      obtain ⟨a2, z2⟩ : ∃ a : Int, x2.toInt = a := ⟨_, rfl⟩
      obtain ⟨as0, zs0⟩ : ∃ a : Int, xs0.toInt = a := ⟨_, rfl⟩
      exact pt_iret gx267_153 ⟨_, rfl, S, G, I⟩
    · intro h0 h x0 x1 x2 S G I
      obtain ⟨a0, z0⟩ : ∃ a : Int, x0.toInt = a := ⟨_, rfl⟩
      obtain ⟨a1, z1⟩ : ∃ a : Int, x1.toInt = a := ⟨_, rfl⟩
      obtain ⟨a2, z2⟩ : ∃ a : Int, x2.toInt = a := ⟨_, rfl⟩
      refine pt_iconst gx267_163 (fun v1001 h1001 => ?_)
      refine pt_d (pt_1 (fun n d => r_goto gx267_164) ?_)
      exact ih267_170 h0 h x0 x1 x2 v1001 S G I
    · intro h0 h x0 x1 x2 xs0 S G I
      obtain ⟨a0, z0⟩ : ∃ a : Int, x0.toInt = a := ⟨_, rfl⟩
      obtain ⟨a1, z1⟩ : ∃ a : Int, x1.toInt = a := ⟨_, rfl⟩
      obtain ⟨a2, z2⟩ : ∃ a : Int, x2.toInt = a := ⟨_, rfl⟩
      obtain ⟨as0, zs0⟩ : ∃ a : Int, xs0.toInt = a := ⟨_, rfl⟩
      exact pt_iret gx267_170 ⟨_, rfl, S, G, I⟩
    · intro h0 h x0 x1 x2 xs0 S G I
      obtain ⟨a0, z0⟩ : ∃ a : Int, x0.toInt = a := ⟨_, rfl⟩
      obtain ⟨a1, z1⟩ : ∃ a : Int, x1.toInt = a := ⟨_, rfl⟩
      obtain ⟨a2, z2⟩ : ∃ a : Int, x2.toInt = a := ⟨_, rfl⟩
      obtain ⟨as0, zs0⟩ : ∃ a : Int, xs0.toInt = a := ⟨_, rfl⟩
      exact pt_iret gx267_181 ⟨_, rfl, S, G, I⟩
    · intro h0 h x0 x1 x2 xs0 S G I
      obtain ⟨a0, z0⟩ : ∃ a : Int, x0.toInt = a := ⟨_, rfl⟩
      obtain ⟨a1, z1⟩ : ∃ a : Int, x1.toInt = a := ⟨_, rfl⟩
      obtain ⟨a2, z2⟩ : ∃ a : Int, x2.toInt = a := ⟨_, rfl⟩
      obtain ⟨as0, zs0⟩ : ∃ a : Int, xs0.toInt = a := ⟨_, rfl⟩
      exact pt_iret gx267_192 ⟨_, rfl, S, G, I⟩
    · intro h0 h x0 x1 x2 xs0 S G I
      obtain ⟨a0, z0⟩ : ∃ a : Int, x0.toInt = a := ⟨_, rfl⟩
      obtain ⟨a1, z1⟩ : ∃ a : Int, x1.toInt = a := ⟨_, rfl⟩
      obtain ⟨a2, z2⟩ : ∃ a : Int, x2.toInt = a := ⟨_, rfl⟩
      obtain ⟨as0, zs0⟩ : ∃ a : Int, xs0.toInt = a := ⟨_, rfl⟩
      exact pt_iret gx267_203 ⟨_, rfl, S, G, I⟩
    · intro h0 h x0 x1 x2 S G I
      obtain ⟨a0, z0⟩ : ∃ a : Int, x0.toInt = a := ⟨_, rfl⟩
      obtain ⟨a1, z1⟩ : ∃ a : Int, x1.toInt = a := ⟨_, rfl⟩
      obtain ⟨a2, z2⟩ : ∃ a : Int, x2.toInt = a := ⟨_, rfl⟩
      refine pt_iconst gx267_216 (fun v1001 h1001 => ?_)
      exact ih267_217 h0 h x0 x1 x2 v1001 S G I
    · intro h0 h x0 x1 x2 xs0 S G I
      obtain ⟨a0, z0⟩ : ∃ a : Int, x0.toInt = a := ⟨_, rfl⟩
      obtain ⟨a1, z1⟩ : ∃ a : Int, x1.toInt = a := ⟨_, rfl⟩
      obtain ⟨a2, z2⟩ : ∃ a : Int, x2.toInt = a := ⟨_, rfl⟩
      obtain ⟨as0, zs0⟩ : ∃ a : Int, xs0.toInt = a := ⟨_, rfl⟩
      exact pt_iret gx267_217 ⟨_, rfl, S, G, I⟩
    · intro h0 h x0 x1 x2 S G I
      obtain ⟨a0, z0⟩ : ∃ a : Int, x0.toInt = a := ⟨_, rfl⟩
      obtain ⟨a1, z1⟩ : ∃ a : Int, x1.toInt = a := ⟨_, rfl⟩
      obtain ⟨a2, z2⟩ : ∃ a : Int, x2.toInt = a := ⟨_, rfl⟩
      refine pt_1 (fun n d => r_iloadn gx267_218 rfl) ?_
      refine pt_d (pt_if_ne gx267_219 z1 (fun e1001 => ?_) (fun e1001 => ?_))
      · skip
        exact ih267_226 h0 h x0 x1 x2 S G I
      · skip
        refine pt_d (pt_1 (fun n d => r_iloadn gx267_222 rfl) ?_)
        refine pt_d (pt_if_eq gx267_223 z2 (fun e1002 => ?_) (fun e1002 => ?_))
        · skip
          refine pt_d (pt_iconst gx267_230 (fun v1003 h1003 => ?_))
          exact ih267_231 h0 h x0 x1 x2 v1003 S G I
        · skip
          exact ih267_226 h0 h x0 x1 x2 S G I
    · intro h0 h x0 x1 x2 S G I
      obtain ⟨a0, z0⟩ : ∃ a : Int, x0.toInt = a := ⟨_, rfl⟩
      obtain ⟨a1, z1⟩ : ∃ a : Int, x1.toInt = a := ⟨_, rfl⟩
      obtain ⟨a2, z2⟩ : ∃ a : Int, x2.toInt = a := ⟨_, rfl⟩
      refine pt_iconst gx267_226 (fun v1001 h1001 => ?_)
      refine pt_d (pt_1 (fun n d => r_goto gx267_227) ?_)
      exact ih267_231 h0 h x0 x1 x2 v1001 S G I
    · intro h0 h x0 x1 x2 xs0 S G I
      obtain ⟨a0, z0⟩ : ∃ a : Int, x0.toInt = a := ⟨_, rfl⟩
      obtain ⟨a1, z1⟩ : ∃ a : Int, x1.toInt = a := ⟨_, rfl⟩
      obtain ⟨a2, z2⟩ : ∃ a : Int, x2.toInt = a := ⟨_, rfl⟩
      obtain ⟨as0, zs0⟩ : ∃ a : Int, xs0.toInt = a := ⟨_, rfl⟩
      exact pt_iret gx267_231 ⟨_, rfl, S, G, I⟩
theorem wk_267 {n : Nat} {X : aX} {h : aH} {x0 : Int32} {x1 : Int32} {x2 : Int32} {a0 : Int} {a1 : Int} {a2 : Int} (S : wS h) (z0 : x0.toInt = a0) (z1 : x1.toInt = a1) (z2 : x2.toInt = a2) (I : IV h) : Pt n X zM267 0 [some (.int x0), some (.int x1), some (.int x2)] [] h (qI (fun _ h' => wS h' ∧ hk h h' ∧ IV h')) := (wl_267 n).1 h h x0 x1 x2 S (hk_r h) I
theorem wl_268 {X : aX} : ∀ n : Nat, (∀ (h0 h : aH) (x1 : Int32) (x2 : Int32) (x3 : Int32), wS h → hk h0 h → IV h → Pt n X zM268 0 [some (.ref 72), some (.int x1), some (.int x2), some (.int x3), none, none, none] [] h (qI (fun _ h' => wS h' ∧ hk h0 h' ∧ IV h'))) ∧
    (∀ (h0 h : aH) (x1 : Int32) (x2 : Int32) (x3 : Int32) (x4 : Int32) (x5 : Int32) (u6 : Option Value), wS h → hk h0 h → IV h → Pt n X zM268 12 [some (.ref 72), some (.int x1), some (.int x2), some (.int x3), some (.int x4), some (.int x5), u6] [] h (qI (fun _ h' => wS h' ∧ hk h0 h' ∧ IV h'))) ∧
    (∀ (h0 h : aH) (x1 : Int32) (x2 : Int32) (x3 : Int32) (x4 : Int32) (x5 : Int32) (x6 : Int32), wS h → hk h0 h → IV h → Pt n X zM268 45 [some (.ref 72), some (.int x1), some (.int x2), some (.int x3), some (.int x4), some (.int x5), some (.int x6)] [] h (qI (fun _ h' => wS h' ∧ hk h0 h' ∧ IV h'))) ∧
    (∀ (h0 h : aH) (x1 : Int32) (x2 : Int32) (x3 : Int32) (x4 : Int32) (x5 : Int32) (x6 : Int32) (xs1 : Int32) (xs2 : Int32), wS h → hk h0 h → IV h → Pt n X zM268 79 [some (.ref 72), some (.int x1), some (.int x2), some (.int x3), some (.int x4), some (.int x5), some (.int x6)] [.int xs2, .int xs1, .ref 125] h (qI (fun _ h' => wS h' ∧ hk h0 h' ∧ IV h'))) ∧
    (∀ (h0 h : aH) (x1 : Int32) (x2 : Int32) (x3 : Int32) (x4 : Int32) (x5 : Int32) (x6 : Int32) (xs1 : Int32) (xs2 : Int32), wS h → hk h0 h → IV h → Pt n X zM268 117 [some (.ref 72), some (.int x1), some (.int x2), some (.int x3), some (.int x4), some (.int x5), some (.int x6)] [.int xs2, .int xs1, .ref 125] h (qI (fun _ h' => wS h' ∧ hk h0 h' ∧ IV h'))) ∧
    (∀ (h0 h : aH) (x1 : Int32) (x2 : Int32) (x3 : Int32) (x4 : Int32) (x5 : Int32) (x6 : Int32), wS h → hk h0 h → IV h → Pt n X zM268 182 [some (.ref 72), some (.int x1), some (.int x2), some (.int x3), some (.int x4), some (.int x5), some (.int x6)] [] h (qI (fun _ h' => wS h' ∧ hk h0 h' ∧ IV h'))) := by
  intro n
  induction n with
  | zero => refine ⟨?_, ?_, ?_, ?_, ?_, ?_⟩ <;> (intros; exact pt_z)
  | succ n ih =>
    obtain ⟨ih268_0, ih268_12, ih268_45, ih268_79, ih268_117, ih268_182⟩ := ih
    refine ⟨?_, ?_, ?_, ?_, ?_, ?_⟩
    · intro h0 h x1 x2 x3 S G I
      obtain ⟨a1, z1⟩ : ∃ a : Int, x1.toInt = a := ⟨_, rfl⟩
      obtain ⟨a2, z2⟩ : ∃ a : Int, x2.toInt = a := ⟨_, rfl⟩
      obtain ⟨a3, z3⟩ : ∃ a : Int, x3.toInt = a := ⟨_, rfl⟩
      refine pt_iconst gx268_0 (fun v1001 h1001 => ?_)
      refine pt_d (pt_1 (fun n d => r_istore (L' := [some (.ref 72), some (.int x1), some (.int x2), some (.int x3), some (.int v1001), none, none]) gx268_1 rfl rfl) ?_)
      refine pt_d (pt_sipush gx268_3 (fun v1002 h1002 => ?_))
      refine pt_d (pt_1 (fun n d => r_iloadn gx268_6 rfl) ?_)
      refine pt_d (pt_imul gx268_7 h1002 z1 (fun v1003 h1003 => ?_))
      refine pt_d (pt_1 (fun n d => r_iloadn gx268_8 rfl) ?_)
      refine pt_d (pt_iadd gx268_9 h1003 z2 (fun v1004 h1004 => ?_))
      refine pt_d (pt_1 (fun n d => r_istore (L' := [some (.ref 72), some (.int x1), some (.int x2), some (.int x3), some (.int v1001), some (.int v1004), none]) gx268_10 rfl rfl) ?_)
      exact ih268_12 h0 h x1 x2 x3 v1001 v1004 _ S G I
    · intro h0 h x1 x2 x3 x4 x5 u6 S G I
      obtain ⟨a1, z1⟩ : ∃ a : Int, x1.toInt = a := ⟨_, rfl⟩
      obtain ⟨a2, z2⟩ : ∃ a : Int, x2.toInt = a := ⟨_, rfl⟩
      obtain ⟨a3, z3⟩ : ∃ a : Int, x3.toInt = a := ⟨_, rfl⟩
      obtain ⟨a4, z4⟩ : ∃ a : Int, x4.toInt = a := ⟨_, rfl⟩
      obtain ⟨a5, z5⟩ : ∃ a : Int, x5.toInt = a := ⟨_, rfl⟩
      refine pt_1 (fun n d => r_iload gx268_12 rfl) ?_
      refine pt_d (pt_sipush gx268_14 (fun v1001 h1001 => ?_))
      refine pt_d (pt_1 (fun n d => r_iloadn gx268_17 rfl) ?_)
      refine pt_d (pt_imul gx268_18 h1001 z1 (fun v1002 h1002 => ?_))
      refine pt_d (pt_1 (fun n d => r_iloadn gx268_19 rfl) ?_)
      refine pt_d (pt_iadd gx268_20 h1002 z3 (fun v1003 h1003 => ?_))
      refine pt_d (pt_icmp_ge gx268_21 z5 h1003 (fun e1004 => ?_) (fun e1004 => ?_))
      · skip
        refine pt_d (pt_1 (fun n d => r_aloadn gx268_188 rfl) ?_)
        refine pt_d (pt_getR gx268_189 S tr_72_70 ?_)
        refine pt_d (pt_iconst gx268_192 (fun v1006 h1006 => ?_))
        refine pt_d (pt_iald (N' := 170) gx268_193 S tl_125 h1006 (fun v1007 p1007 q1007 h1007 => ?_))
        exact pt_d (pt_iret gx268_194 ⟨_, rfl, S, G, I⟩)
      · skip
        refine pt_d (pt_1 (fun n d => r_aloadn gx268_24 rfl) ?_)
        refine pt_d (pt_getR gx268_25 S tr_72_62 ?_)
        refine pt_d (pt_1 (fun n d => r_iload gx268_28 rfl) ?_)
        refine pt_d (pt_iald (N' := 2890) gx268_30 S tl_122 z5 (fun v1009 p1009 q1009 h1009 => ?_))
        refine pt_d (pt_1 (fun n d => r_istore (L' := [some (.ref 72), some (.int x1), some (.int x2), some (.int x3), some (.int x4), some (.int x5), some (.int v1009)]) gx268_31 rfl rfl) ?_)
        refine pt_d (pt_1 (fun n d => r_iload gx268_33 rfl) ?_)
        refine pt_d (pt_iconst gx268_35 (fun v1010 h1010 => ?_))
        refine pt_d (pt_icmp_eq gx268_36 h1009 h1010 (fun e1011 => ?_) (fun e1011 => ?_))
        · skip
          exact ih268_45 h0 h x1 x2 x3 x4 x5 v1009 S G I
        · skip
          refine pt_d (pt_1 (fun n d => r_iload gx268_39 rfl) ?_)
          refine pt_d (pt_iconst gx268_41 (fun v1012 h1012 => ?_))
          refine pt_d (pt_icmp_ne gx268_42 h1009 h1012 (fun e1013 => ?_) (fun e1013 => ?_))
          · skip
            refine pt_d (pt_1 (fun n d => r_iload gx268_86 rfl) ?_)
            refine pt_d (pt_iconst gx268_88 (fun v1014 h1014 => ?_))
            refine pt_d (pt_icmp_ne gx268_89 h1009 h1014 (fun e1015 => ?_) (fun e1015 => ?_))
            · skip
              refine pt_d (pt_1 (fun n d => r_iload gx268_121 rfl) ?_)
              refine pt_d (pt_iconst gx268_123 (fun v1016 h1016 => ?_))
              refine pt_d (pt_icmp_ne gx268_124 h1009 h1016 (fun e1017 => ?_) (fun e1017 => ?_))
              · skip
                refine pt_d (pt_iinc (c := (-1)) gx268_149 rfl z4 (fun v1018 h1018 => ?_))
                show Pt _ _ _ _ [some (.ref 72), some (.int x1), some (.int x2), some (.int x3), some (.int v1018), some (.int x5), some (.int v1009)] [] _ _
                refine pt_d (pt_1 (fun n d => r_aloadn gx268_152 rfl) ?_)
                refine pt_d (pt_getR gx268_153 S tr_72_70 ?_)
                refine pt_d (pt_1 (fun n d => r_iload gx268_156 rfl) ?_)
                refine pt_d (pt_iconst gx268_158 (fun v1020 h1020 => ?_))
                refine pt_d (pt_isub gx268_159 h1018 h1020 (fun v1021 h1021 => ?_))
                refine pt_d (pt_1 (fun n d => r_iload gx268_160 rfl) ?_)
                refine pt_d (pt_1 (fun n d => r_aloadn gx268_162 rfl) ?_)
                refine pt_d (pt_getR gx268_163 S tr_72_70 ?_)
                refine pt_d (pt_1 (fun n d => r_iload gx268_166 rfl) ?_)
                refine pt_d (pt_iconst gx268_168 (fun v1023 h1023 => ?_))
                refine pt_d (pt_isub gx268_169 h1018 h1023 (fun v1024 h1024 => ?_))
                refine pt_d (pt_iald (N' := 170) gx268_170 S tl_125 h1024 (fun v1025 p1025 q1025 h1025 => ?_))
                refine pt_d (pt_1 (fun n d => r_aloadn gx268_171 rfl) ?_)
                refine pt_d (pt_getR gx268_172 S tr_72_70 ?_)
                refine pt_d (pt_1 (fun n d => r_iload gx268_175 rfl) ?_)
                refine pt_d (pt_iald (N' := 170) gx268_177 S tl_125 h1018 (fun v1027 p1027 q1027 h1027 => ?_))
                refine pt_d (pt_stat (as := [.int v1009, .int v1025, .int v1027]) (r := [.int v1021, .ref 125]) gx268_178 rfl (show zmt[267]? = some zM267 from rfl) rfl rfl rfl rfl (wk_267 S h1009 h1025 h1027 I) (kqI (fun v1028 y1028 h_1028 h1028 P1028 => ?_)))
                have S1028 := P1028.1
                have G1028 := hk_t G P1028.2.1
                have I1028 := P1028.2.2
                show Pt _ _ _ 181 _ [.int v1028, .int v1021, .ref 125] _ _
                refine pt_d (pt_iasth (N' := 170) gx268_181 S1028 tl_125 h1021 h1028 (fun h_1029 S1029 p1029 q1029 e1029 K1029 => ?_))
                have G1029 := hk_t G1028 K1029
                have I1029 := IV_ua I1028 K1029 e1029 (by decide)
                exact ih268_182 h0 h_1029 x1 x2 x3 v1018 x5 v1009 S1029 G1029 I1029
              · skip
                refine pt_d (pt_1 (fun n d => r_aloadn gx268_127 rfl) ?_)
                refine pt_d (pt_getR gx268_128 S tr_72_70 ?_)
                refine pt_d (pt_1 (fun n d => r_iload gx268_131 rfl) ?_)
                refine pt_d (pt_iconst gx268_133 (fun v1031 h1031 => ?_))
                refine pt_d (pt_isub gx268_134 z4 h1031 (fun v1032 h1032 => ?_))
                refine pt_d (pt_1 (fun n d => r_aloadn gx268_135 rfl) ?_)
                refine pt_d (pt_getR gx268_136 S tr_72_70 ?_)
                refine pt_d (pt_1 (fun n d => r_iload gx268_139 rfl) ?_)
                refine pt_d (pt_iconst gx268_141 (fun v1034 h1034 => ?_))
                refine pt_d (pt_isub gx268_142 z4 h1034 (fun v1035 h1035 => ?_))
                refine pt_d (pt_iald (N' := 170) gx268_143 S tl_125 h1035 (fun v1036 p1036 q1036 h1036 => ?_))
                refine pt_d (pt_ineg gx268_144 h1036 (fun v1037 h1037 => ?_))
                refine pt_d (pt_iasth (N' := 170) gx268_145 S tl_125 h1032 h1037 (fun h_1038 S1038 p1038 q1038 e1038 K1038 => ?_))
                have G1038 := hk_t G K1038
                have I1038 := IV_ua I K1038 e1038 (by decide)
                refine pt_d (pt_1 (fun n d => r_goto gx268_146) ?_)
                exact ih268_182 h0 h_1038 x1 x2 x3 x4 x5 v1009 S1038 G1038 I1038
            · skip
              refine pt_d (pt_1 (fun n d => r_aloadn gx268_92 rfl) ?_)
              refine pt_d (pt_getR gx268_93 S tr_72_70 ?_)
              refine pt_d (pt_1 (fun n d => r_iload gx268_96 rfl) ?_)
              refine pt_d (pt_iconst gx268_98 (fun v1040 h1040 => ?_))
              refine pt_d (pt_isub gx268_99 z4 h1040 (fun v1041 h1041 => ?_))
              refine pt_d (pt_1 (fun n d => r_aloadn gx268_100 rfl) ?_)
              refine pt_d (pt_getR gx268_101 S tr_72_70 ?_)
              refine pt_d (pt_1 (fun n d => r_iload gx268_104 rfl) ?_)
              refine pt_d (pt_iconst gx268_106 (fun v1043 h1043 => ?_))
              refine pt_d (pt_isub gx268_107 z4 h1043 (fun v1044 h1044 => ?_))
              refine pt_d (pt_iald (N' := 170) gx268_108 S tl_125 h1044 (fun v1045 p1045 q1045 h1045 => ?_))
              refine pt_d (pt_if_ne gx268_109 h1045 (fun e1046 => ?_) (fun e1046 => ?_))
              · skip
                refine pt_d (pt_iconst gx268_116 (fun v1047 h1047 => ?_))
                exact ih268_117 h0 h x1 x2 x3 x4 x5 v1009 v1041 v1047 S G I
              · skip
                refine pt_d (pt_iconst gx268_112 (fun v1048 h1048 => ?_))
                refine pt_d (pt_1 (fun n d => r_goto gx268_113) ?_)
                exact ih268_117 h0 h x1 x2 x3 x4 x5 v1009 v1041 v1048 S G I
          · skip
            exact ih268_45 h0 h x1 x2 x3 x4 x5 v1009 S G I
    · intro h0 h x1 x2 x3 x4 x5 x6 S G I
      obtain ⟨a1, z1⟩ : ∃ a : Int, x1.toInt = a := ⟨_, rfl⟩
      obtain ⟨a2, z2⟩ : ∃ a : Int, x2.toInt = a := ⟨_, rfl⟩
      obtain ⟨a3, z3⟩ : ∃ a : Int, x3.toInt = a := ⟨_, rfl⟩
      obtain ⟨a4, z4⟩ : ∃ a : Int, x4.toInt = a := ⟨_, rfl⟩
      obtain ⟨a5, z5⟩ : ∃ a : Int, x5.toInt = a := ⟨_, rfl⟩
      obtain ⟨a6, z6⟩ : ∃ a : Int, x6.toInt = a := ⟨_, rfl⟩
      refine pt_1 (fun n d => r_aloadn gx268_45 rfl) ?_
      refine pt_d (pt_getR gx268_46 S tr_72_70 ?_)
      refine pt_d (pt_1 (fun n d => r_iload gx268_49 rfl) ?_)
      refine pt_d (pt_1 (fun n d => r_iload gx268_51 rfl) ?_)
      refine pt_d (pt_iconst gx268_53 (fun v1002 h1002 => ?_))
      refine pt_d (pt_icmp_ne gx268_54 z6 h1002 (fun e1003 => ?_) (fun e1003 => ?_))
      · skip
        refine pt_d (pt_1 (fun n d => r_aloadn gx268_67 rfl) ?_)
        refine pt_d (pt_getR gx268_68 S tr_72_69 ?_)
        refine pt_d (pt_1 (fun n d => r_aloadn gx268_71 rfl) ?_)
        refine pt_d (pt_getR gx268_72 S tr_72_63 ?_)
        refine pt_d (pt_1 (fun n d => r_iload gx268_75 rfl) ?_)
        refine pt_d (pt_iald (N' := 2890) gx268_77 S tl_123 z5 (fun v1006 p1006 q1006 h1006 => ?_))
        refine pt_d (pt_iald (N' := 13) gx268_78 S tl_124 h1006 (fun v1007 p1007 q1007 h1007 => ?_))
        exact ih268_79 h0 h x1 x2 x3 x4 x5 x6 x4 v1007 S G I
      · skip
        refine pt_d (pt_1 (fun n d => r_aloadn gx268_57 rfl) ?_)
        refine pt_d (pt_getR gx268_58 S tr_72_63 ?_)
        refine pt_d (pt_1 (fun n d => r_iload gx268_61 rfl) ?_)
        refine pt_d (pt_iald (N' := 2890) gx268_63 S tl_123 z5 (fun v1009 p1009 q1009 h1009 => ?_))
        refine pt_d (pt_1 (fun n d => r_goto gx268_64) ?_)
        exact ih268_79 h0 h x1 x2 x3 x4 x5 x6 x4 v1009 S G I
    · intro h0 h x1 x2 x3 x4 x5 x6 xs1 xs2 S G I
      obtain ⟨a1, z1⟩ : ∃ a : Int, x1.toInt = a := ⟨_, rfl⟩
      obtain ⟨a2, z2⟩ : ∃ a : Int, x2.toInt = a := ⟨_, rfl⟩
      obtain ⟨a3, z3⟩ : ∃ a : Int, x3.toInt = a := ⟨_, rfl⟩
      obtain ⟨a4, z4⟩ : ∃ a : Int, x4.toInt = a := ⟨_, rfl⟩
      obtain ⟨a5, z5⟩ : ∃ a : Int, x5.toInt = a := ⟨_, rfl⟩
      obtain ⟨a6, z6⟩ : ∃ a : Int, x6.toInt = a := ⟨_, rfl⟩
      obtain ⟨as1, zs1⟩ : ∃ a : Int, xs1.toInt = a := ⟨_, rfl⟩
      obtain ⟨as2, zs2⟩ : ∃ a : Int, xs2.toInt = a := ⟨_, rfl⟩
      refine pt_iasth (N' := 170) gx268_79 S tl_125 zs1 zs2 (fun h_1001 S1001 p1001 q1001 e1001 K1001 => ?_)
      have G1001 := hk_t G K1001
      have I1001 := IV_ua I K1001 e1001 (by decide)
      refine pt_d (pt_iinc (c := 1) gx268_80 rfl z4 (fun v1002 h1002 => ?_))
      show Pt _ _ _ _ [some (.ref 72), some (.int x1), some (.int x2), some (.int x3), some (.int v1002), some (.int x5), some (.int x6)] [] _ _
      refine pt_d (pt_1 (fun n d => r_goto gx268_83) ?_)
      exact ih268_182 h0 h_1001 x1 x2 x3 v1002 x5 x6 S1001 G1001 I1001
    · intro h0 h x1 x2 x3 x4 x5 x6 xs1 xs2 S G I
      obtain ⟨a1, z1⟩ : ∃ a : Int, x1.toInt = a := ⟨_, rfl⟩
      obtain ⟨a2, z2⟩ : ∃ a : Int, x2.toInt = a := ⟨_, rfl⟩
      obtain ⟨a3, z3⟩ : ∃ a : Int, x3.toInt = a := ⟨_, rfl⟩
      obtain ⟨a4, z4⟩ : ∃ a : Int, x4.toInt = a := ⟨_, rfl⟩
      obtain ⟨a5, z5⟩ : ∃ a : Int, x5.toInt = a := ⟨_, rfl⟩
      obtain ⟨a6, z6⟩ : ∃ a : Int, x6.toInt = a := ⟨_, rfl⟩
      obtain ⟨as1, zs1⟩ : ∃ a : Int, xs1.toInt = a := ⟨_, rfl⟩
      obtain ⟨as2, zs2⟩ : ∃ a : Int, xs2.toInt = a := ⟨_, rfl⟩
      refine pt_iasth (N' := 170) gx268_117 S tl_125 zs1 zs2 (fun h_1001 S1001 p1001 q1001 e1001 K1001 => ?_)
      have G1001 := hk_t G K1001
      have I1001 := IV_ua I K1001 e1001 (by decide)
      refine pt_d (pt_1 (fun n d => r_goto gx268_118) ?_)
      exact ih268_182 h0 h_1001 x1 x2 x3 x4 x5 x6 S1001 G1001 I1001
    · intro h0 h x1 x2 x3 x4 x5 x6 S G I
      obtain ⟨a1, z1⟩ : ∃ a : Int, x1.toInt = a := ⟨_, rfl⟩
      obtain ⟨a2, z2⟩ : ∃ a : Int, x2.toInt = a := ⟨_, rfl⟩
      obtain ⟨a3, z3⟩ : ∃ a : Int, x3.toInt = a := ⟨_, rfl⟩
      obtain ⟨a4, z4⟩ : ∃ a : Int, x4.toInt = a := ⟨_, rfl⟩
      obtain ⟨a5, z5⟩ : ∃ a : Int, x5.toInt = a := ⟨_, rfl⟩
      obtain ⟨a6, z6⟩ : ∃ a : Int, x6.toInt = a := ⟨_, rfl⟩
      refine pt_iinc (c := 1) gx268_182 rfl z5 (fun v1001 h1001 => ?_)
      show Pt _ _ _ _ [some (.ref 72), some (.int x1), some (.int x2), some (.int x3), some (.int x4), some (.int v1001), some (.int x6)] [] _ _
      refine pt_d (pt_1 (fun n d => r_goto gx268_185) ?_)
      exact ih268_12 h0 h x1 x2 x3 x4 v1001 _ S G I
theorem wk_268 {n : Nat} {X : aX} {h : aH} {x1 : Int32} {x2 : Int32} {x3 : Int32} {a1 : Int} {a2 : Int} {a3 : Int} (S : wS h) (z1 : x1.toInt = a1) (z2 : x2.toInt = a2) (z3 : x3.toInt = a3) (I : IV h) : Pt n X zM268 0 [some (.ref 72), some (.int x1), some (.int x2), some (.int x3), none, none, none] [] h (qI (fun _ h' => wS h' ∧ hk h h' ∧ IV h')) := (wl_268 n).1 h h x1 x2 x3 S (hk_r h) I
theorem wl_269 {X : aX} : ∀ n : Nat, (∀ (h0 h : aH) (x1 : Int32), wS h → hk h0 h → IV h → Pt n X zM269 0 [some (.ref 72), some (.int x1), none, none, none] [] h (qI (fun _ h' => wS h' ∧ hk h0 h' ∧ IV h'))) ∧
    (∀ (h0 h : aH) (x1 : Int32) (x2 : Int32) (x3 : Int32) (u4 : Option Value), wS h → hk h0 h → IV h → Pt n X zM269 4 [some (.ref 72), some (.int x1), some (.int x2), some (.int x3), u4] [] h (qI (fun _ h' => wS h' ∧ hk h0 h' ∧ IV h'))) := by
  intro n
  induction n with
  | zero => refine ⟨?_, ?_⟩ <;> (intros; exact pt_z)
  | succ n ih =>
    obtain ⟨ih269_0, ih269_4⟩ := ih
    refine ⟨?_, ?_⟩
    · intro h0 h x1 S G I
      obtain ⟨a1, z1⟩ : ∃ a : Int, x1.toInt = a := ⟨_, rfl⟩
      refine pt_iconst gx269_0 (fun v1001 h1001 => ?_)
      refine pt_d (pt_1 (fun n d => r_istoren (L' := [some (.ref 72), some (.int x1), some (.int v1001), none, none]) gx269_1 rfl rfl) ?_)
      refine pt_d (pt_iconst gx269_2 (fun v1002 h1002 => ?_))
      refine pt_d (pt_1 (fun n d => r_istoren (L' := [some (.ref 72), some (.int x1), some (.int v1001), some (.int v1002), none]) gx269_3 rfl rfl) ?_)
      exact ih269_4 h0 h x1 v1001 v1002 _ S G I
    · intro h0 h x1 x2 x3 u4 S G I
      obtain ⟨a1, z1⟩ : ∃ a : Int, x1.toInt = a := ⟨_, rfl⟩
      obtain ⟨a2, z2⟩ : ∃ a : Int, x2.toInt = a := ⟨_, rfl⟩
      obtain ⟨a3, z3⟩ : ∃ a : Int, x3.toInt = a := ⟨_, rfl⟩
      refine pt_1 (fun n d => r_iloadn gx269_4 rfl) ?_
      refine pt_d (pt_1 (fun n d => r_aloadn gx269_5 rfl) ?_)
      refine pt_d (pt_getR gx269_6 S tr_72_59 ?_)
      refine pt_d (pt_1 (fun n d => r_iloadn gx269_9 rfl) ?_)
      refine pt_d (pt_iald (N' := 17) gx269_10 S tl_119 z1 (fun v1002 p1002 q1002 h1002 => ?_))
      refine pt_d (pt_icmp_ge gx269_11 z3 h1002 (fun e1003 => ?_) (fun e1003 => ?_))
      · skip
        refine pt_d (pt_1 (fun n d => r_aloadn gx269_88 rfl) ?_)
        refine pt_d (pt_iconst gx269_89 (fun v1004 h1004 => ?_))
        refine pt_d (pt_putIh (B := 71) gx269_90 S h1004 (fun h_1005 S1005 e1005 K1005 => ?_))
        have G1005 := hk_t G K1005
        have I1005 := IV_uf I K1005 e1005 (by decide)
        refine pt_d (pt_iconst gx269_93 (fun v1006 h1006 => ?_))
        exact pt_d (pt_iret gx269_94 ⟨_, rfl, S1005, G1005, I1005⟩)
      · skip
        refine pt_d (pt_bipush gx269_14 (fun v1007 h1007 => ?_))
        refine pt_d (pt_1 (fun n d => r_iloadn gx269_16 rfl) ?_)
        refine pt_d (pt_imul gx269_17 h1007 z1 (fun v1008 h1008 => ?_))
        refine pt_d (pt_1 (fun n d => r_iloadn gx269_18 rfl) ?_)
        refine pt_d (pt_iadd gx269_19 h1008 z3 (fun v1009 h1009 => ?_))
        refine pt_d (pt_1 (fun n d => r_istore (L' := [some (.ref 72), some (.int x1), some (.int x2), some (.int x3), some (.int v1009)]) gx269_20 rfl rfl) ?_)
        refine pt_d (pt_1 (fun n d => r_aloadn gx269_22 rfl) ?_)
        refine pt_d (pt_getR gx269_23 S tr_72_60 ?_)
        refine pt_d (pt_1 (fun n d => r_iload gx269_26 rfl) ?_)
        refine pt_d (pt_iald (N' := 1530) gx269_28 S tl_120 h1009 (fun v1011 p1011 q1011 h1011 => ?_))
        refine pt_d (pt_1 (fun n d => r_iloadn gx269_29 rfl) ?_)
        refine pt_d (pt_icmp_eq gx269_30 h1011 z2 (fun e1012 => ?_) (fun e1012 => ?_))
        · skip
          refine pt_d (pt_1 (fun n d => r_aloadn gx269_49 rfl) ?_)
          refine pt_d (pt_1 (fun n d => r_iloadn gx269_50 rfl) ?_)
          refine pt_d (pt_putIh (B := 71) gx269_51 S z3 (fun h_1013 S1013 e1013 K1013 => ?_))
          have G1013 := hk_t G K1013
          have I1013 := IV_uf I K1013 e1013 (by decide)
          refine pt_d (pt_1 (fun n d => r_aloadn gx269_54 rfl) ?_)
          refine pt_d (pt_1 (fun n d => r_iloadn gx269_55 rfl) ?_)
          refine pt_d (pt_1 (fun n d => r_aloadn gx269_56 rfl) ?_)
          refine pt_d (pt_getR gx269_57 S1013 tr_72_60 ?_)
          refine pt_d (pt_1 (fun n d => r_iload gx269_60 rfl) ?_)
          refine pt_d (pt_iald (N' := 1530) gx269_62 S1013 tl_120 h1009 (fun v1015 p1015 q1015 h1015 => ?_))
          have h1015 : v1015.toInt = vw h 120 (w32 ((w32 (90 * a1)) + a3)) := by rw [h1015, e1013, up_c (by decide)]
          refine pt_d (pt_1 (fun n d => r_aloadn gx269_63 rfl) ?_)
          refine pt_d (pt_getR gx269_64 S1013 tr_72_61 ?_)
          refine pt_d (pt_1 (fun n d => r_iload gx269_67 rfl) ?_)
          refine pt_d (pt_iald (N' := 1530) gx269_69 S1013 tl_121 h1009 (fun v1017 p1017 q1017 h1017 => ?_))
          have h1017 : v1017.toInt = vw h 121 (w32 ((w32 (90 * a1)) + a3)) := by rw [h1017, e1013, up_c (by decide)]
          refine pt_d (pt_virt (as := [.int x1, .int v1015, .int v1017]) (r := []) gx269_70 rfl (show zmt[268]? = some zM268 from rfl) rfl rfl rfl rfl (wk_268 S1013 z1 h1015 h1017 I1013) (kqI (fun v1018 y1018 h_1018 h1018 P1018 => ?_)))
          have S1018 := P1018.1
          have G1018 := hk_t G1013 P1018.2.1
          have I1018 := P1018.2.2
          show Pt _ _ _ 73 _ [.int v1018] _ _
          exact pt_d (pt_iret gx269_73 ⟨_, rfl, S1018, G1018, I1018⟩)
        · skip
          refine pt_d (pt_1 (fun n d => r_aloadn gx269_33 rfl) ?_)
          refine pt_d (pt_1 (fun n d => r_iloadn gx269_34 rfl) ?_)
          refine pt_d (pt_1 (fun n d => r_iloadn gx269_35 rfl) ?_)
          refine pt_d (pt_1 (fun n d => r_aloadn gx269_36 rfl) ?_)
          refine pt_d (pt_getR gx269_37 S tr_72_60 ?_)
          refine pt_d (pt_1 (fun n d => r_iload gx269_40 rfl) ?_)
          refine pt_d (pt_iald (N' := 1530) gx269_42 S tl_120 h1009 (fun v1020 p1020 q1020 h1020 => ?_))
          refine pt_d (pt_virt (as := [.int x1, .int x2, .int v1020]) (r := []) gx269_43 rfl (show zmt[268]? = some zM268 from rfl) rfl rfl rfl rfl (wk_268 S z1 z2 h1020 I) (kqI (fun v1021 y1021 h_1021 h1021 P1021 => ?_)))
          have S1021 := P1021.1
          have G1021 := hk_t G P1021.2.1
          have I1021 := P1021.2.2
          show Pt _ _ _ 46 _ [.int v1021] _ _
          refine pt_d (pt_if_eq gx269_46 h1021 (fun e1022 => ?_) (fun e1022 => ?_))
          · skip
            refine pt_d (pt_1 (fun n d => r_aloadn gx269_74 rfl) ?_)
            refine pt_d (pt_getR gx269_75 S1021 tr_72_61 ?_)
            refine pt_d (pt_1 (fun n d => r_iload gx269_78 rfl) ?_)
            refine pt_d (pt_iald (N' := 1530) gx269_80 S1021 tl_121 h1009 (fun v1024 p1024 q1024 h1024 => ?_))
            refine pt_d (pt_1 (fun n d => r_istoren (L' := [some (.ref 72), some (.int x1), some (.int v1024), some (.int x3), some (.int v1009)]) gx269_81 rfl rfl) ?_)
            refine pt_d (pt_iinc (c := 1) gx269_82 rfl z3 (fun v1025 h1025 => ?_))
            show Pt _ _ _ _ [some (.ref 72), some (.int x1), some (.int v1024), some (.int v1025), some (.int v1009)] [] _ _
            refine pt_d (pt_1 (fun n d => r_goto gx269_85) ?_)
            exact ih269_4 h0 h_1021 x1 v1024 v1025 _ S1021 G1021 I1021
          · skip
            refine pt_d (pt_1 (fun n d => r_aloadn gx269_49 rfl) ?_)
            refine pt_d (pt_1 (fun n d => r_iloadn gx269_50 rfl) ?_)
            refine pt_d (pt_putIh (B := 71) gx269_51 S1021 z3 (fun h_1026 S1026 e1026 K1026 => ?_))
            have G1026 := hk_t G1021 K1026
            have I1026 := IV_uf I1021 K1026 e1026 (by decide)
            refine pt_d (pt_1 (fun n d => r_aloadn gx269_54 rfl) ?_)
            refine pt_d (pt_1 (fun n d => r_iloadn gx269_55 rfl) ?_)
            refine pt_d (pt_1 (fun n d => r_aloadn gx269_56 rfl) ?_)
            refine pt_d (pt_getR gx269_57 S1026 tr_72_60 ?_)
            refine pt_d (pt_1 (fun n d => r_iload gx269_60 rfl) ?_)
            refine pt_d (pt_iald (N' := 1530) gx269_62 S1026 tl_120 h1009 (fun v1028 p1028 q1028 h1028 => ?_))
            have h1028 : v1028.toInt = vw h_1021 120 (w32 ((w32 (90 * a1)) + a3)) := by rw [h1028, e1026, up_c (by decide)]
            refine pt_d (pt_1 (fun n d => r_aloadn gx269_63 rfl) ?_)
            refine pt_d (pt_getR gx269_64 S1026 tr_72_61 ?_)
            refine pt_d (pt_1 (fun n d => r_iload gx269_67 rfl) ?_)
            refine pt_d (pt_iald (N' := 1530) gx269_69 S1026 tl_121 h1009 (fun v1030 p1030 q1030 h1030 => ?_))
            have h1030 : v1030.toInt = vw h_1021 121 (w32 ((w32 (90 * a1)) + a3)) := by rw [h1030, e1026, up_c (by decide)]
            refine pt_d (pt_virt (as := [.int x1, .int v1028, .int v1030]) (r := []) gx269_70 rfl (show zmt[268]? = some zM268 from rfl) rfl rfl rfl rfl (wk_268 S1026 z1 h1028 h1030 I1026) (kqI (fun v1031 y1031 h_1031 h1031 P1031 => ?_)))
            have S1031 := P1031.1
            have G1031 := hk_t G1026 P1031.2.1
            have I1031 := P1031.2.2
            show Pt _ _ _ 73 _ [.int v1031] _ _
            exact pt_d (pt_iret gx269_73 ⟨_, rfl, S1031, G1031, I1031⟩)
theorem wk_269 {n : Nat} {X : aX} {h : aH} {x1 : Int32} {a1 : Int} (S : wS h) (z1 : x1.toInt = a1) (I : IV h) : Pt n X zM269 0 [some (.ref 72), some (.int x1), none, none, none] [] h (qI (fun _ h' => wS h' ∧ hk h h' ∧ IV h')) := (wl_269 n).1 h h x1 S (hk_r h) I
